/-! ===== the law's calls of the class: what is thrown becomes a number ===== -/
def oEx (L : List String) (o : OR) : Prop := ∀ E, o = .inl E → E ∈ L
section OEX
variable {L : List String} {σ : ST} {o a b : OR}
theorem oEx.thr {E : String} (h : E ∈ L) : oEx L (.inl E) := fun _ e => by cases e; exact h
theorem oEx.ret {r : Int32 × ST} : oEx L (.inr r) := fun _ e => nomatch e
theorem oEx.ite {c : Prop} [Decidable c] (h1 : oEx L a) (h2 : oEx L b) : oEx L (if c then a else b) := by
  by_cases k : c
  · rw [if_pos k]; exact h1
  · rw [if_neg k]; exact h2
theorem oEx.pu {p : Int32} {f : Nat → OR} (h : "java/lang/IndexOutOfBoundsException" ∈ L) (hf : ∀ i, oEx L (f i)) : oEx L (oPu σ p f) := oEx.ite (hf _) (oEx.thr h)
theorem oEx.sh {p : Int32} {f : Nat → OR} (h : "java/lang/IndexOutOfBoundsException" ∈ L) (hf : ∀ i, oEx L (f i)) : oEx L (oSh σ p f) := oEx.ite (hf _) (oEx.thr h)
theorem oEx.has {j : Nat} {p : Int32} {f : Nat → OR} (h : "java/lang/IndexOutOfBoundsException" ∈ L) (hf : ∀ i, oEx L (f i)) : oEx L (oHas σ j p f) := oEx.ite (hf _) (oEx.thr h)
theorem oEx.inn {v lo hi : Int32} (h : "java/lang/IllegalArgumentException" ∈ L) (ho : oEx L o) : oEx L (oIn v lo hi o) := oEx.ite ho (oEx.thr h)
end OEX
theorem busy_01 {σ σ' : ST} {p t v : Int32} (h : o_isBusy σ p t = .inr (v, σ')) : v = nI 0 ∨ v = nI 1 := by
  rw [o_isBusy, oPu] at h
  split at h
  · rw [oIn] at h
    split at h
    · injection h with h1
      injection h1 with h2 h3
      rw [← h2]
      cases takenS σ p.toNatClampNeg (t, nI 1) with
      | false => exact Or.inl rfl
      | true => exact Or.inr rfl
    · cases h
  · cases h
/-- what a call of the law's comes back with: the number of what was thrown, or 0 and the answer in the law's own row -/
def pWr (E : Nat) (ow : Nat → Nat) (h : Hp) (x pL sL ha out : Nat) (σ : ST) (L : List String) (o : OR) : Res → Hp → Prop := fun res h' => ∃ k : Nat, res = .inl (some (.int (nI k))) ∧ ((∃ X, o = .inl X ∧ k = cdOf L X ∧ X ∈ L ∧ Aft E ow h x pL sL ha σ h') ∨ ∃ v σ' h1, o = .inr (v, σ') ∧ k = 0 ∧ Aft E ow h x pL sL ha σ' h1 ∧ h' = yL h1 out 0 v.toInt64)
theorem Aft.sh {E : Nat} {ow : Nat → Nat} {h h' : Hp} {x pL sL ha b : Nat} {σ : ST} {z : Nat × Nat} (a : Aft E ow h x pL sL ha σ h') (hb : xS h b = some z) : xS h' b = some z := by
  obtain ⟨ow', ps', ss', -, -, e⟩ := a
  exact (e b z hb).1
theorem ex_puppet (σ : ST) (b n : Int32) : oEx ["java/lang/IllegalArgumentException", "java/lang/IllegalStateException"] (o_puppet σ b n) := oEx.inn (by decide +kernel) (oEx.inn (by decide +kernel) (oEx.ite (oEx.ret) (oEx.thr (by decide +kernel))))
set_option maxRecDepth 100000 in
set_option maxHeartbeats 4000000 in
theorem ct_w_puppet {g : Gl} {l : Launch} (hfl : l.stackTraces = false) (h : Hp) (x pL sL ha : Nat) (ow : Nat → Nat) (ps ss : List Nat) (σ : ST) (r : RC (gN g 2) ow h x pL sL ha ps ss σ) (hw : WF σ) (out : Nat) (hout : xS h out = some (11, 1)) (b n : Int32) : CTW g l iL_puppet [(0, 10, 13, 13), (0, 10, 17, 15)] 9 [.ref x, .int b, .int n, .ref out] h 6 1540 (pWr (gN g 2) ow h x pL sL ha out σ ["java/lang/IllegalArgumentException", "java/lang/IllegalStateException"] (o_puppet σ b n)) := by
  refine ctw_mk hfl (by decide) (Nat.le_of_ble_eq_true rfl) (by intro v hv; simp only [List.mem_cons, List.not_mem_nil, or_false] at hv; rcases hv with rfl | rfl | rfl | rfl <;> rfl) (fun V X M => ?_)
  have Mm := M.m
  show V 0 [some (.ref x), some (.int b), some (.int n), some (.ref out), none] [] _ 0 0
  refine r_aload_n Mm dL_puppet_0 rfl ?_
  refine r_iconst (v := nI 0) Mm dL_puppet_1 (by decide) ?_
  refine r_aload_n Mm dL_puppet_2 rfl ?_
  refine r_iload_n Mm dL_puppet_3 rfl ?_
  refine r_iload_n Mm dL_puppet_4 rfl ?_
  refine r_callV (As := [(.int b), (.int n)]) Mm dL_puppet_5 rfl (ct_o_puppet hfl h x pL sL ha ow ps ss σ r hw b n) (r.1.1) rfl cw_L_7 ⟨Nat.le_of_ble_eq_true rfl, Nat.le_of_ble_eq_true rfl, Nat.le_of_ble_eq_true rfl⟩ (Nat.le_of_ble_eq_true rfl) ⟨Nat.le_of_ble_eq_true rfl, Nat.le_of_ble_eq_true rfl⟩ (fun r1 h1 p1 => ?_) (fun E1 h1 p1 => ?_)
  · rcases p1 with ⟨E0, -, e2, -⟩ | ⟨v, σ1, e1, e2, aft⟩
    · cases e2
    · cases e2
      have hso := aft.sh hout
      show V 8 [some (.ref x), some (.int b), some (.int n), some (.ref out), none] [(.int v), (.int (nI 0)), (.ref out)] h1 _ _
      refine r_i2l Mm dL_puppet_8 ?_
      refine r_lastN Mm dL_puppet_9 (hso) (by omega) (by omega) ?_
      refine r_goto (tgt := 21) Mm dL_puppet_10 (by decide) ?_
      refine r_iconst (v := nI 0) Mm dL_puppet_21 (by decide) ?_
      refine r_iret M dL_puppet_22 ?_
      exact ⟨0, rfl, Or.inr ⟨_, σ1, h1, e1, rfl, aft, rfl⟩⟩
  · rcases p1 with ⟨E0, e1, e2, aft⟩ | ⟨v, σ1, -, e2, -⟩
    · cases e2
      have hE := ex_puppet σ b n _ e1
      have hE0 := hE
      simp only [List.mem_cons, List.not_mem_nil, or_false] at hE
      rcases hE with rfl | rfl
      · refine x_catch (name := "java/lang/IllegalArgumentException") Mm [] ⟨0, 10, 13, 13⟩ (tableOf [(0, 10, 17, 15)]) rfl (fun z hz => absurd hz List.not_mem_nil) rfl (by decide) (TB_at 117 (by decide +kernel) rfl) (NW_at 128 (by decide +kernel) rfl) (fun rq => ?_)
        show V 13 [some (.ref x), some (.int b), some (.int n), some (.ref out), none] [.ref rq] h1 _ _
        refine r_astore Mm dL_puppet_13 (by decide) ?_
        show V 15 [some (.ref x), some (.int b), some (.int n), some (.ref out), some (.ref rq)] _ _ _ _
        refine r_iconst (v := nI 1) Mm dL_puppet_15 (by decide) ?_
        refine r_iret M dL_puppet_16 ?_
        exact ⟨1, rfl, Or.inl ⟨_, e1, by decide +kernel, hE0, aft⟩⟩
      · refine x_catch (name := "java/lang/IllegalStateException") Mm (tableOf [(0, 10, 13, 13)]) ⟨0, 10, 17, 15⟩ [] rfl (by intro z hz; simp only [tableOf, List.map_cons, List.map_nil, List.mem_cons, List.not_mem_nil, or_false] at hz; subst hz; exact ⟨by decide, "java/lang/IllegalArgumentException", TB_at 117 (by decide +kernel) rfl, by decide +kernel⟩) rfl (by decide) (TB_at 118 (by decide +kernel) rfl) (NW_at 201 (by decide +kernel) rfl) (fun rq => ?_)
        show V 17 [some (.ref x), some (.int b), some (.int n), some (.ref out), none] [.ref rq] h1 _ _
        refine r_astore Mm dL_puppet_17 (by decide) ?_
        show V 19 [some (.ref x), some (.int b), some (.int n), some (.ref out), some (.ref rq)] _ _ _ _
        refine r_iconst (v := nI 2) Mm dL_puppet_19 (by decide) ?_
        refine r_iret M dL_puppet_20 ?_
        exact ⟨2, rfl, Or.inl ⟨_, e1, by decide +kernel, hE0, aft⟩⟩
    · cases e2
theorem ex_setLength (σ : ST) (p n : Int32) : oEx ["java/lang/IndexOutOfBoundsException", "java/lang/IllegalArgumentException"] (o_setLength σ p n) := oEx.pu (by decide +kernel) fun _ => oEx.inn (by decide +kernel) (oEx.ret)
set_option maxRecDepth 100000 in
set_option maxHeartbeats 4000000 in
theorem ct_w_setLength {g : Gl} {l : Launch} (hfl : l.stackTraces = false) (h : Hp) (x pL sL ha : Nat) (ow : Nat → Nat) (ps ss : List Nat) (σ : ST) (r : RC (gN g 2) ow h x pL sL ha ps ss σ) (hw : WF σ) (out : Nat) (hout : xS h out = some (11, 1)) (p n : Int32) : CTW g l iL_setLength [(0, 10, 13, 20), (0, 10, 17, 13)] 9 [.ref x, .int p, .int n, .ref out] h 1 6 (pWr (gN g 2) ow h x pL sL ha out σ ["java/lang/IndexOutOfBoundsException", "java/lang/IllegalArgumentException"] (o_setLength σ p n)) := by
  refine ctw_mk hfl (by decide) (Nat.le_of_ble_eq_true rfl) (by intro v hv; simp only [List.mem_cons, List.not_mem_nil, or_false] at hv; rcases hv with rfl | rfl | rfl | rfl <;> rfl) (fun V X M => ?_)
  have Mm := M.m
  show V 0 [some (.ref x), some (.int p), some (.int n), some (.ref out), none] [] _ 0 0
  refine r_aload_n Mm dL_setLength_0 rfl ?_
  refine r_iconst (v := nI 0) Mm dL_setLength_1 (by decide) ?_
  refine r_aload_n Mm dL_setLength_2 rfl ?_
  refine r_iload_n Mm dL_setLength_3 rfl ?_
  refine r_iload_n Mm dL_setLength_4 rfl ?_
  refine r_callV (As := [(.int p), (.int n)]) Mm dL_setLength_5 rfl (ct_o_setLength hfl h x pL sL ha ow ps ss σ r hw p n) (r.1.1) rfl cw_L_17 ⟨Nat.le_of_ble_eq_true rfl, Nat.le_of_ble_eq_true rfl, Nat.le_of_ble_eq_true rfl⟩ (Nat.le_of_ble_eq_true rfl) ⟨Nat.le_of_ble_eq_true rfl, Nat.le_of_ble_eq_true rfl⟩ (fun r1 h1 p1 => ?_) (fun E1 h1 p1 => ?_)
  · rcases p1 with ⟨E0, -, e2, -⟩ | ⟨v, σ1, e1, e2, aft⟩
    · cases e2
    · cases e2
      have hso := aft.sh hout
      show V 8 [some (.ref x), some (.int p), some (.int n), some (.ref out), none] [(.int v), (.int (nI 0)), (.ref out)] h1 _ _
      refine r_i2l Mm dL_setLength_8 ?_
      refine r_lastN Mm dL_setLength_9 (hso) (by omega) (by omega) ?_
      refine r_goto (tgt := 21) Mm dL_setLength_10 (by decide) ?_
      refine r_iconst (v := nI 0) Mm dL_setLength_21 (by decide) ?_
      refine r_iret M dL_setLength_22 ?_
      exact ⟨0, rfl, Or.inr ⟨_, σ1, h1, e1, rfl, aft, rfl⟩⟩
  · rcases p1 with ⟨E0, e1, e2, aft⟩ | ⟨v, σ1, -, e2, -⟩
    · cases e2
      have hE := ex_setLength σ p n _ e1
      have hE0 := hE
      simp only [List.mem_cons, List.not_mem_nil, or_false] at hE
      rcases hE with rfl | rfl
      · refine x_catch (name := "java/lang/IndexOutOfBoundsException") Mm [] ⟨0, 10, 13, 20⟩ (tableOf [(0, 10, 17, 13)]) rfl (fun z hz => absurd hz List.not_mem_nil) rfl (by decide) (TB_at 336 (by decide +kernel) rfl) (NW_at 347 (by decide +kernel) rfl) (fun rq => ?_)
        show V 13 [some (.ref x), some (.int p), some (.int n), some (.ref out), none] [.ref rq] h1 _ _
        refine r_astore Mm dL_setLength_13 (by decide) ?_
        show V 15 [some (.ref x), some (.int p), some (.int n), some (.ref out), some (.ref rq)] _ _ _ _
        refine r_iconst (v := nI 1) Mm dL_setLength_15 (by decide) ?_
        refine r_iret M dL_setLength_16 ?_
        exact ⟨1, rfl, Or.inl ⟨_, e1, by decide +kernel, hE0, aft⟩⟩
      · refine x_catch (name := "java/lang/IllegalArgumentException") Mm (tableOf [(0, 10, 13, 20)]) ⟨0, 10, 17, 13⟩ [] rfl (by intro z hz; simp only [tableOf, List.map_cons, List.map_nil, List.mem_cons, List.not_mem_nil, or_false] at hz; subst hz; exact ⟨by decide, "java/lang/IndexOutOfBoundsException", TB_at 336 (by decide +kernel) rfl, by decide +kernel⟩) rfl (by decide) (TB_at 117 (by decide +kernel) rfl) (NW_at 128 (by decide +kernel) rfl) (fun rq => ?_)
        show V 17 [some (.ref x), some (.int p), some (.int n), some (.ref out), none] [.ref rq] h1 _ _
        refine r_astore Mm dL_setLength_17 (by decide) ?_
        show V 19 [some (.ref x), some (.int p), some (.int n), some (.ref out), some (.ref rq)] _ _ _ _
        refine r_iconst (v := nI 2) Mm dL_setLength_19 (by decide) ?_
        refine r_iret M dL_setLength_20 ?_
        exact ⟨2, rfl, Or.inl ⟨_, e1, by decide +kernel, hE0, aft⟩⟩
    · cases e2
theorem ex_key (σ : ST) (p f u y0 e0 : Int32) : oEx ["java/lang/IndexOutOfBoundsException", "java/lang/IllegalArgumentException", "java/lang/IllegalStateException"] (o_key σ p f u y0 e0) := oEx.pu (by decide +kernel) fun _ => oEx.inn (by decide +kernel) (oEx.inn (by decide +kernel) (oEx.inn (by decide +kernel) (oEx.inn (by decide +kernel) (oEx.ite (oEx.thr (by decide +kernel)) (oEx.ret)))))
set_option maxRecDepth 100000 in
set_option maxHeartbeats 4000000 in
theorem ct_w_key {g : Gl} {l : Launch} (hfl : l.stackTraces = false) (h : Hp) (x pL sL ha : Nat) (ow : Nat → Nat) (ps ss : List Nat) (σ : ST) (r : RC (gN g 2) ow h x pL sL ha ps ss σ) (hw : WF σ) (out : Nat) (hout : xS h out = some (11, 1)) (p f u y0 e0 : Int32) : CTW g l iL_key [(0, 16, 19, 20), (0, 16, 23, 13), (0, 16, 27, 15)] 9 [.ref x, .int p, .int f, .int u, .int y0, .int e0, .ref out] h 4 1520 (pWr (gN g 2) ow h x pL sL ha out σ ["java/lang/IndexOutOfBoundsException", "java/lang/IllegalArgumentException", "java/lang/IllegalStateException"] (o_key σ p f u y0 e0)) := by
  refine ctw_mk hfl (by decide) (Nat.le_of_ble_eq_true rfl) (by intro v hv; simp only [List.mem_cons, List.not_mem_nil, or_false] at hv; rcases hv with rfl | rfl | rfl | rfl | rfl | rfl | rfl <;> rfl) (fun V X M => ?_)
  have Mm := M.m
  show V 0 [some (.ref x), some (.int p), some (.int f), some (.int u), some (.int y0), some (.int e0), some (.ref out), none] [] _ 0 0
  refine r_aload Mm dL_key_0 rfl ?_
  refine r_iconst (v := nI 0) Mm dL_key_2 (by decide) ?_
  refine r_aload_n Mm dL_key_3 rfl ?_
  refine r_iload_n Mm dL_key_4 rfl ?_
  refine r_iload_n Mm dL_key_5 rfl ?_
  refine r_iload_n Mm dL_key_6 rfl ?_
  refine r_iload Mm dL_key_7 rfl ?_
  refine r_iload Mm dL_key_9 rfl ?_
  refine r_callV (As := [(.int p), (.int f), (.int u), (.int y0), (.int e0)]) Mm dL_key_11 rfl (ct_o_key hfl h x pL sL ha ow ps ss σ r hw p f u y0 e0) (r.1.1) rfl cw_L_22 ⟨Nat.le_of_ble_eq_true rfl, Nat.le_of_ble_eq_true rfl, Nat.le_of_ble_eq_true rfl⟩ (Nat.le_of_ble_eq_true rfl) ⟨Nat.le_of_ble_eq_true rfl, Nat.le_of_ble_eq_true rfl⟩ (fun r1 h1 p1 => ?_) (fun E1 h1 p1 => ?_)
  · rcases p1 with ⟨E0, -, e2, -⟩ | ⟨v, σ1, e1, e2, aft⟩
    · cases e2
    · cases e2
      have hso := aft.sh hout
      show V 14 [some (.ref x), some (.int p), some (.int f), some (.int u), some (.int y0), some (.int e0), some (.ref out), none] [(.int v), (.int (nI 0)), (.ref out)] h1 _ _
      refine r_i2l Mm dL_key_14 ?_
      refine r_lastN Mm dL_key_15 (hso) (by omega) (by omega) ?_
      refine r_goto (tgt := 31) Mm dL_key_16 (by decide) ?_
      refine r_iconst (v := nI 0) Mm dL_key_31 (by decide) ?_
      refine r_iret M dL_key_32 ?_
      exact ⟨0, rfl, Or.inr ⟨_, σ1, h1, e1, rfl, aft, rfl⟩⟩
  · rcases p1 with ⟨E0, e1, e2, aft⟩ | ⟨v, σ1, -, e2, -⟩
    · cases e2
      have hE := ex_key σ p f u y0 e0 _ e1
      have hE0 := hE
      simp only [List.mem_cons, List.not_mem_nil, or_false] at hE
      rcases hE with rfl | rfl | rfl
      · refine x_catch (name := "java/lang/IndexOutOfBoundsException") Mm [] ⟨0, 16, 19, 20⟩ (tableOf [(0, 16, 23, 13), (0, 16, 27, 15)]) rfl (fun z hz => absurd hz List.not_mem_nil) rfl (by decide) (TB_at 336 (by decide +kernel) rfl) (NW_at 347 (by decide +kernel) rfl) (fun rq => ?_)
        show V 19 [some (.ref x), some (.int p), some (.int f), some (.int u), some (.int y0), some (.int e0), some (.ref out), none] [.ref rq] h1 _ _
        refine r_astore Mm dL_key_19 (by decide) ?_
        show V 21 [some (.ref x), some (.int p), some (.int f), some (.int u), some (.int y0), some (.int e0), some (.ref out), some (.ref rq)] _ _ _ _
        refine r_iconst (v := nI 1) Mm dL_key_21 (by decide) ?_
        refine r_iret M dL_key_22 ?_
        exact ⟨1, rfl, Or.inl ⟨_, e1, by decide +kernel, hE0, aft⟩⟩
      · refine x_catch (name := "java/lang/IllegalArgumentException") Mm (tableOf [(0, 16, 19, 20)]) ⟨0, 16, 23, 13⟩ (tableOf [(0, 16, 27, 15)]) rfl (by intro z hz; simp only [tableOf, List.map_cons, List.map_nil, List.mem_cons, List.not_mem_nil, or_false] at hz; subst hz; exact ⟨by decide, "java/lang/IndexOutOfBoundsException", TB_at 336 (by decide +kernel) rfl, by decide +kernel⟩) rfl (by decide) (TB_at 117 (by decide +kernel) rfl) (NW_at 128 (by decide +kernel) rfl) (fun rq => ?_)
        show V 23 [some (.ref x), some (.int p), some (.int f), some (.int u), some (.int y0), some (.int e0), some (.ref out), none] [.ref rq] h1 _ _
        refine r_astore Mm dL_key_23 (by decide) ?_
        show V 25 [some (.ref x), some (.int p), some (.int f), some (.int u), some (.int y0), some (.int e0), some (.ref out), some (.ref rq)] _ _ _ _
        refine r_iconst (v := nI 2) Mm dL_key_25 (by decide) ?_
        refine r_iret M dL_key_26 ?_
        exact ⟨2, rfl, Or.inl ⟨_, e1, by decide +kernel, hE0, aft⟩⟩
      · refine x_catch (name := "java/lang/IllegalStateException") Mm (tableOf [(0, 16, 19, 20), (0, 16, 23, 13)]) ⟨0, 16, 27, 15⟩ [] rfl (by intro z hz; simp only [tableOf, List.map_cons, List.map_nil, List.mem_cons, List.not_mem_nil, or_false] at hz; rcases hz with rfl | rfl <;> first | exact ⟨by decide, "java/lang/IndexOutOfBoundsException", TB_at 336 (by decide +kernel) rfl, by decide +kernel⟩ | exact ⟨by decide, "java/lang/IllegalArgumentException", TB_at 117 (by decide +kernel) rfl, by decide +kernel⟩) rfl (by decide) (TB_at 118 (by decide +kernel) rfl) (NW_at 201 (by decide +kernel) rfl) (fun rq => ?_)
        show V 27 [some (.ref x), some (.int p), some (.int f), some (.int u), some (.int y0), some (.int e0), some (.ref out), none] [.ref rq] h1 _ _
        refine r_astore Mm dL_key_27 (by decide) ?_
        show V 29 [some (.ref x), some (.int p), some (.int f), some (.int u), some (.int y0), some (.int e0), some (.ref out), some (.ref rq)] _ _ _ _
        refine r_iconst (v := nI 3) Mm dL_key_29 (by decide) ?_
        refine r_iret M dL_key_30 ?_
        exact ⟨3, rfl, Or.inl ⟨_, e1, by decide +kernel, hE0, aft⟩⟩
    · cases e2
theorem ex_cut (σ : ST) (p f : Int32) : oEx ["java/lang/IndexOutOfBoundsException", "java/util/NoSuchElementException"] (o_cut σ p f) := oEx.pu (by decide +kernel) fun _ => oEx.ite (oEx.ret) (oEx.thr (by decide +kernel))
set_option maxRecDepth 100000 in
set_option maxHeartbeats 4000000 in
theorem ct_w_cut {g : Gl} {l : Launch} (hfl : l.stackTraces = false) (h : Hp) (x pL sL ha : Nat) (ow : Nat → Nat) (ps ss : List Nat) (σ : ST) (r : RC (gN g 2) ow h x pL sL ha ps ss σ) (hw : WF σ) (out : Nat) (hout : xS h out = some (11, 1)) (p f : Int32) : CTW g l iL_cutKey [(0, 10, 13, 20), (0, 10, 17, 29)] 9 [.ref x, .int p, .int f, .ref out] h 1 6 (pWr (gN g 2) ow h x pL sL ha out σ ["java/lang/IndexOutOfBoundsException", "java/util/NoSuchElementException"] (o_cut σ p f)) := by
  refine ctw_mk hfl (by decide) (Nat.le_of_ble_eq_true rfl) (by intro v hv; simp only [List.mem_cons, List.not_mem_nil, or_false] at hv; rcases hv with rfl | rfl | rfl | rfl <;> rfl) (fun V X M => ?_)
  have Mm := M.m
  show V 0 [some (.ref x), some (.int p), some (.int f), some (.ref out), none] [] _ 0 0
  refine r_aload_n Mm dL_cutKey_0 rfl ?_
  refine r_iconst (v := nI 0) Mm dL_cutKey_1 (by decide) ?_
  refine r_aload_n Mm dL_cutKey_2 rfl ?_
  refine r_iload_n Mm dL_cutKey_3 rfl ?_
  refine r_iload_n Mm dL_cutKey_4 rfl ?_
  refine r_callV (As := [(.int p), (.int f)]) Mm dL_cutKey_5 rfl (ct_o_cut hfl h x pL sL ha ow ps ss σ r hw p f) (r.1.1) rfl cw_L_26 ⟨Nat.le_of_ble_eq_true rfl, Nat.le_of_ble_eq_true rfl, Nat.le_of_ble_eq_true rfl⟩ (Nat.le_of_ble_eq_true rfl) ⟨Nat.le_of_ble_eq_true rfl, Nat.le_of_ble_eq_true rfl⟩ (fun r1 h1 p1 => ?_) (fun E1 h1 p1 => ?_)
  · rcases p1 with ⟨E0, -, e2, -⟩ | ⟨v, σ1, e1, e2, aft⟩
    · cases e2
    · cases e2
      have hso := aft.sh hout
      show V 8 [some (.ref x), some (.int p), some (.int f), some (.ref out), none] [(.int v), (.int (nI 0)), (.ref out)] h1 _ _
      refine r_i2l Mm dL_cutKey_8 ?_
      refine r_lastN Mm dL_cutKey_9 (hso) (by omega) (by omega) ?_
      refine r_goto (tgt := 21) Mm dL_cutKey_10 (by decide) ?_
      refine r_iconst (v := nI 0) Mm dL_cutKey_21 (by decide) ?_
      refine r_iret M dL_cutKey_22 ?_
      exact ⟨0, rfl, Or.inr ⟨_, σ1, h1, e1, rfl, aft, rfl⟩⟩
  · rcases p1 with ⟨E0, e1, e2, aft⟩ | ⟨v, σ1, -, e2, -⟩
    · cases e2
      have hE := ex_cut σ p f _ e1
      have hE0 := hE
      simp only [List.mem_cons, List.not_mem_nil, or_false] at hE
      rcases hE with rfl | rfl
      · refine x_catch (name := "java/lang/IndexOutOfBoundsException") Mm [] ⟨0, 10, 13, 20⟩ (tableOf [(0, 10, 17, 29)]) rfl (fun z hz => absurd hz List.not_mem_nil) rfl (by decide) (TB_at 336 (by decide +kernel) rfl) (NW_at 347 (by decide +kernel) rfl) (fun rq => ?_)
        show V 13 [some (.ref x), some (.int p), some (.int f), some (.ref out), none] [.ref rq] h1 _ _
        refine r_astore Mm dL_cutKey_13 (by decide) ?_
        show V 15 [some (.ref x), some (.int p), some (.int f), some (.ref out), some (.ref rq)] _ _ _ _
        refine r_iconst (v := nI 1) Mm dL_cutKey_15 (by decide) ?_
        refine r_iret M dL_cutKey_16 ?_
        exact ⟨1, rfl, Or.inl ⟨_, e1, by decide +kernel, hE0, aft⟩⟩
      · refine x_catch (name := "java/util/NoSuchElementException") Mm (tableOf [(0, 10, 13, 20)]) ⟨0, 10, 17, 29⟩ [] rfl (by intro z hz; simp only [tableOf, List.map_cons, List.map_nil, List.mem_cons, List.not_mem_nil, or_false] at hz; subst hz; exact ⟨by decide, "java/lang/IndexOutOfBoundsException", TB_at 336 (by decide +kernel) rfl, by decide +kernel⟩) rfl (by decide) (TB_at 675 (by decide +kernel) rfl) (NW_at 682 (by decide +kernel) rfl) (fun rq => ?_)
        show V 17 [some (.ref x), some (.int p), some (.int f), some (.ref out), none] [.ref rq] h1 _ _
        refine r_astore Mm dL_cutKey_17 (by decide) ?_
        show V 19 [some (.ref x), some (.int p), some (.int f), some (.ref out), some (.ref rq)] _ _ _ _
        refine r_iconst (v := nI 2) Mm dL_cutKey_19 (by decide) ?_
        refine r_iret M dL_cutKey_20 ?_
        exact ⟨2, rfl, Or.inl ⟨_, e1, by decide +kernel, hE0, aft⟩⟩
    · cases e2
theorem ex_hear (σ : ST) (q f : Int32) : oEx ["java/lang/IndexOutOfBoundsException", "java/lang/IllegalArgumentException"] (o_hear σ q f) := oEx.ite (oEx.ite (oEx.ret) (oEx.inn (by decide +kernel) (oEx.ret))) (oEx.thr (by decide +kernel))
set_option maxRecDepth 100000 in
set_option maxHeartbeats 4000000 in
theorem ct_w_hear {g : Gl} {l : Launch} (hfl : l.stackTraces = false) (h : Hp) (x pL sL ha : Nat) (ow : Nat → Nat) (ps ss : List Nat) (σ : ST) (r : RC (gN g 2) ow h x pL sL ha ps ss σ) (hw : WF σ) (out : Nat) (hout : xS h out = some (11, 1)) (q f : Int32) : CTW g l iL_hear [(0, 10, 13, 20), (0, 10, 17, 13)] 9 [.ref x, .int q, .int f, .ref out] h 1 6 (pWr (gN g 2) ow h x pL sL ha out σ ["java/lang/IndexOutOfBoundsException", "java/lang/IllegalArgumentException"] (o_hear σ q f)) := by
  refine ctw_mk hfl (by decide) (Nat.le_of_ble_eq_true rfl) (by intro v hv; simp only [List.mem_cons, List.not_mem_nil, or_false] at hv; rcases hv with rfl | rfl | rfl | rfl <;> rfl) (fun V X M => ?_)
  have Mm := M.m
  show V 0 [some (.ref x), some (.int q), some (.int f), some (.ref out), none] [] _ 0 0
  refine r_aload_n Mm dL_hear_0 rfl ?_
  refine r_iconst (v := nI 0) Mm dL_hear_1 (by decide) ?_
  refine r_aload_n Mm dL_hear_2 rfl ?_
  refine r_iload_n Mm dL_hear_3 rfl ?_
  refine r_iload_n Mm dL_hear_4 rfl ?_
  refine r_callV (As := [(.int q), (.int f)]) Mm dL_hear_5 rfl (ct_o_hear hfl h x pL sL ha ow ps ss σ r hw q f) (r.1.1) rfl cw_L_31 ⟨Nat.le_of_ble_eq_true rfl, Nat.le_of_ble_eq_true rfl, Nat.le_of_ble_eq_true rfl⟩ (Nat.le_of_ble_eq_true rfl) ⟨Nat.le_of_ble_eq_true rfl, Nat.le_of_ble_eq_true rfl⟩ (fun r1 h1 p1 => ?_) (fun E1 h1 p1 => ?_)
  · rcases p1 with ⟨E0, -, e2, -⟩ | ⟨v, σ1, e1, e2, aft⟩
    · cases e2
    · cases e2
      have hso := aft.sh hout
      show V 8 [some (.ref x), some (.int q), some (.int f), some (.ref out), none] [(.int v), (.int (nI 0)), (.ref out)] h1 _ _
      refine r_i2l Mm dL_hear_8 ?_
      refine r_lastN Mm dL_hear_9 (hso) (by omega) (by omega) ?_
      refine r_goto (tgt := 21) Mm dL_hear_10 (by decide) ?_
      refine r_iconst (v := nI 0) Mm dL_hear_21 (by decide) ?_
      refine r_iret M dL_hear_22 ?_
      exact ⟨0, rfl, Or.inr ⟨_, σ1, h1, e1, rfl, aft, rfl⟩⟩
  · rcases p1 with ⟨E0, e1, e2, aft⟩ | ⟨v, σ1, -, e2, -⟩
    · cases e2
      have hE := ex_hear σ q f _ e1
      have hE0 := hE
      simp only [List.mem_cons, List.not_mem_nil, or_false] at hE
      rcases hE with rfl | rfl
      · refine x_catch (name := "java/lang/IndexOutOfBoundsException") Mm [] ⟨0, 10, 13, 20⟩ (tableOf [(0, 10, 17, 13)]) rfl (fun z hz => absurd hz List.not_mem_nil) rfl (by decide) (TB_at 336 (by decide +kernel) rfl) (NW_at 347 (by decide +kernel) rfl) (fun rq => ?_)
        show V 13 [some (.ref x), some (.int q), some (.int f), some (.ref out), none] [.ref rq] h1 _ _
        refine r_astore Mm dL_hear_13 (by decide) ?_
        show V 15 [some (.ref x), some (.int q), some (.int f), some (.ref out), some (.ref rq)] _ _ _ _
        refine r_iconst (v := nI 1) Mm dL_hear_15 (by decide) ?_
        refine r_iret M dL_hear_16 ?_
        exact ⟨1, rfl, Or.inl ⟨_, e1, by decide +kernel, hE0, aft⟩⟩
      · refine x_catch (name := "java/lang/IllegalArgumentException") Mm (tableOf [(0, 10, 13, 20)]) ⟨0, 10, 17, 13⟩ [] rfl (by intro z hz; simp only [tableOf, List.map_cons, List.map_nil, List.mem_cons, List.not_mem_nil, or_false] at hz; subst hz; exact ⟨by decide, "java/lang/IndexOutOfBoundsException", TB_at 336 (by decide +kernel) rfl, by decide +kernel⟩) rfl (by decide) (TB_at 117 (by decide +kernel) rfl) (NW_at 128 (by decide +kernel) rfl) (fun rq => ?_)
        show V 17 [some (.ref x), some (.int q), some (.int f), some (.ref out), none] [.ref rq] h1 _ _
        refine r_astore Mm dL_hear_17 (by decide) ?_
        show V 19 [some (.ref x), some (.int q), some (.int f), some (.ref out), some (.ref rq)] _ _ _ _
        refine r_iconst (v := nI 2) Mm dL_hear_19 (by decide) ?_
        refine r_iret M dL_hear_20 ?_
        exact ⟨2, rfl, Or.inl ⟨_, e1, by decide +kernel, hE0, aft⟩⟩
    · cases e2
theorem ex_cue (σ : ST) (p q : Int32) : oEx ["java/lang/IndexOutOfBoundsException"] (o_cue σ p q) := oEx.pu (by decide +kernel) fun _ => oEx.ite (oEx.ret) (oEx.thr (by decide +kernel))
set_option maxRecDepth 100000 in
set_option maxHeartbeats 4000000 in
theorem ct_w_cue {g : Gl} {l : Launch} (hfl : l.stackTraces = false) (h : Hp) (x pL sL ha : Nat) (ow : Nat → Nat) (ps ss : List Nat) (σ : ST) (r : RC (gN g 2) ow h x pL sL ha ps ss σ) (hw : WF σ) (out : Nat) (hout : xS h out = some (11, 1)) (p q : Int32) : CTW g l iL_cue [(0, 10, 13, 20)] 9 [.ref x, .int p, .int q, .ref out] h 1 6 (pWr (gN g 2) ow h x pL sL ha out σ ["java/lang/IndexOutOfBoundsException"] (o_cue σ p q)) := by
  refine ctw_mk hfl (by decide) (Nat.le_of_ble_eq_true rfl) (by intro v hv; simp only [List.mem_cons, List.not_mem_nil, or_false] at hv; rcases hv with rfl | rfl | rfl | rfl <;> rfl) (fun V X M => ?_)
  have Mm := M.m
  show V 0 [some (.ref x), some (.int p), some (.int q), some (.ref out), none] [] _ 0 0
  refine r_aload_n Mm dL_cue_0 rfl ?_
  refine r_iconst (v := nI 0) Mm dL_cue_1 (by decide) ?_
  refine r_aload_n Mm dL_cue_2 rfl ?_
  refine r_iload_n Mm dL_cue_3 rfl ?_
  refine r_iload_n Mm dL_cue_4 rfl ?_
  refine r_callV (As := [(.int p), (.int q)]) Mm dL_cue_5 rfl (ct_o_cue hfl h x pL sL ha ow ps ss σ r hw p q) (r.1.1) rfl cw_L_34 ⟨Nat.le_of_ble_eq_true rfl, Nat.le_of_ble_eq_true rfl, Nat.le_of_ble_eq_true rfl⟩ (Nat.le_of_ble_eq_true rfl) ⟨Nat.le_of_ble_eq_true rfl, Nat.le_of_ble_eq_true rfl⟩ (fun r1 h1 p1 => ?_) (fun E1 h1 p1 => ?_)
  · rcases p1 with ⟨E0, -, e2, -⟩ | ⟨v, σ1, e1, e2, aft⟩
    · cases e2
    · cases e2
      have hso := aft.sh hout
      show V 8 [some (.ref x), some (.int p), some (.int q), some (.ref out), none] [(.int v), (.int (nI 0)), (.ref out)] h1 _ _
      refine r_i2l Mm dL_cue_8 ?_
      refine r_lastN Mm dL_cue_9 (hso) (by omega) (by omega) ?_
      refine r_goto (tgt := 17) Mm dL_cue_10 (by decide) ?_
      refine r_iconst (v := nI 0) Mm dL_cue_17 (by decide) ?_
      refine r_iret M dL_cue_18 ?_
      exact ⟨0, rfl, Or.inr ⟨_, σ1, h1, e1, rfl, aft, rfl⟩⟩
  · rcases p1 with ⟨E0, e1, e2, aft⟩ | ⟨v, σ1, -, e2, -⟩
    · cases e2
      have hE := ex_cue σ p q _ e1
      have hE0 := hE
      simp only [List.mem_cons, List.not_mem_nil, or_false] at hE
      subst hE
      refine x_catch (name := "java/lang/IndexOutOfBoundsException") Mm [] ⟨0, 10, 13, 20⟩ [] rfl (fun z hz => absurd hz List.not_mem_nil) rfl (by decide) (TB_at 336 (by decide +kernel) rfl) (NW_at 347 (by decide +kernel) rfl) (fun rq => ?_)
      show V 13 [some (.ref x), some (.int p), some (.int q), some (.ref out), none] [.ref rq] h1 _ _
      refine r_astore Mm dL_cue_13 (by decide) ?_
      show V 15 [some (.ref x), some (.int p), some (.int q), some (.ref out), some (.ref rq)] _ _ _ _
      refine r_iconst (v := nI 1) Mm dL_cue_15 (by decide) ?_
      refine r_iret M dL_cue_16 ?_
      exact ⟨1, rfl, Or.inl ⟨_, e1, by decide +kernel, hE0, aft⟩⟩
    · cases e2
theorem ex_show (σ : ST) (w n : Int32) : oEx ["java/lang/IllegalArgumentException", "java/lang/IllegalStateException"] (o_show σ w n) := oEx.inn (by decide +kernel) (oEx.inn (by decide +kernel) (oEx.ite (oEx.ret) (oEx.thr (by decide +kernel))))
set_option maxRecDepth 100000 in
set_option maxHeartbeats 4000000 in
theorem ct_w_show {g : Gl} {l : Launch} (hfl : l.stackTraces = false) (h : Hp) (x pL sL ha : Nat) (ow : Nat → Nat) (ps ss : List Nat) (σ : ST) (r : RC (gN g 2) ow h x pL sL ha ps ss σ) (hw : WF σ) (out : Nat) (hout : xS h out = some (11, 1)) (w n : Int32) : CTW g l iL_show [(0, 10, 13, 13), (0, 10, 17, 15)] 9 [.ref x, .int w, .int n, .ref out] h 6 1540 (pWr (gN g 2) ow h x pL sL ha out σ ["java/lang/IllegalArgumentException", "java/lang/IllegalStateException"] (o_show σ w n)) := by
  refine ctw_mk hfl (by decide) (Nat.le_of_ble_eq_true rfl) (by intro v hv; simp only [List.mem_cons, List.not_mem_nil, or_false] at hv; rcases hv with rfl | rfl | rfl | rfl <;> rfl) (fun V X M => ?_)
  have Mm := M.m
  show V 0 [some (.ref x), some (.int w), some (.int n), some (.ref out), none] [] _ 0 0
  refine r_aload_n Mm dL_show_0 rfl ?_
  refine r_iconst (v := nI 0) Mm dL_show_1 (by decide) ?_
  refine r_aload_n Mm dL_show_2 rfl ?_
  refine r_iload_n Mm dL_show_3 rfl ?_
  refine r_iload_n Mm dL_show_4 rfl ?_
  refine r_callV (As := [(.int w), (.int n)]) Mm dL_show_5 rfl (ct_o_show hfl h x pL sL ha ow ps ss σ r hw w n) (r.1.1) rfl cw_L_37 ⟨Nat.le_of_ble_eq_true rfl, Nat.le_of_ble_eq_true rfl, Nat.le_of_ble_eq_true rfl⟩ (Nat.le_of_ble_eq_true rfl) ⟨Nat.le_of_ble_eq_true rfl, Nat.le_of_ble_eq_true rfl⟩ (fun r1 h1 p1 => ?_) (fun E1 h1 p1 => ?_)
  · rcases p1 with ⟨E0, -, e2, -⟩ | ⟨v, σ1, e1, e2, aft⟩
    · cases e2
    · cases e2
      have hso := aft.sh hout
      show V 8 [some (.ref x), some (.int w), some (.int n), some (.ref out), none] [(.int v), (.int (nI 0)), (.ref out)] h1 _ _
      refine r_i2l Mm dL_show_8 ?_
      refine r_lastN Mm dL_show_9 (hso) (by omega) (by omega) ?_
      refine r_goto (tgt := 21) Mm dL_show_10 (by decide) ?_
      refine r_iconst (v := nI 0) Mm dL_show_21 (by decide) ?_
      refine r_iret M dL_show_22 ?_
      exact ⟨0, rfl, Or.inr ⟨_, σ1, h1, e1, rfl, aft, rfl⟩⟩
  · rcases p1 with ⟨E0, e1, e2, aft⟩ | ⟨v, σ1, -, e2, -⟩
    · cases e2
      have hE := ex_show σ w n _ e1
      have hE0 := hE
      simp only [List.mem_cons, List.not_mem_nil, or_false] at hE
      rcases hE with rfl | rfl
      · refine x_catch (name := "java/lang/IllegalArgumentException") Mm [] ⟨0, 10, 13, 13⟩ (tableOf [(0, 10, 17, 15)]) rfl (fun z hz => absurd hz List.not_mem_nil) rfl (by decide) (TB_at 117 (by decide +kernel) rfl) (NW_at 128 (by decide +kernel) rfl) (fun rq => ?_)
        show V 13 [some (.ref x), some (.int w), some (.int n), some (.ref out), none] [.ref rq] h1 _ _
        refine r_astore Mm dL_show_13 (by decide) ?_
        show V 15 [some (.ref x), some (.int w), some (.int n), some (.ref out), some (.ref rq)] _ _ _ _
        refine r_iconst (v := nI 1) Mm dL_show_15 (by decide) ?_
        refine r_iret M dL_show_16 ?_
        exact ⟨1, rfl, Or.inl ⟨_, e1, by decide +kernel, hE0, aft⟩⟩
      · refine x_catch (name := "java/lang/IllegalStateException") Mm (tableOf [(0, 10, 13, 13)]) ⟨0, 10, 17, 15⟩ [] rfl (by intro z hz; simp only [tableOf, List.map_cons, List.map_nil, List.mem_cons, List.not_mem_nil, or_false] at hz; subst hz; exact ⟨by decide, "java/lang/IllegalArgumentException", TB_at 117 (by decide +kernel) rfl, by decide +kernel⟩) rfl (by decide) (TB_at 118 (by decide +kernel) rfl) (NW_at 201 (by decide +kernel) rfl) (fun rq => ?_)
        show V 17 [some (.ref x), some (.int w), some (.int n), some (.ref out), none] [.ref rq] h1 _ _
        refine r_astore Mm dL_show_17 (by decide) ?_
        show V 19 [some (.ref x), some (.int w), some (.int n), some (.ref out), some (.ref rq)] _ _ _ _
        refine r_iconst (v := nI 2) Mm dL_show_19 (by decide) ?_
        refine r_iret M dL_show_20 ?_
        exact ⟨2, rfl, Or.inl ⟨_, e1, by decide +kernel, hE0, aft⟩⟩
    · cases e2
theorem ex_cast (σ : ST) (q p : Int32) : oEx ["java/lang/IndexOutOfBoundsException", "java/lang/IllegalStateException"] (o_cast σ q p) := oEx.sh (by decide +kernel) fun _ => oEx.pu (by decide +kernel) fun _ => oEx.ite (oEx.thr (by decide +kernel)) (oEx.ite (oEx.thr (by decide +kernel)) (oEx.ret))
set_option maxRecDepth 100000 in
set_option maxHeartbeats 4000000 in
theorem ct_w_cast {g : Gl} {l : Launch} (hfl : l.stackTraces = false) (h : Hp) (x pL sL ha : Nat) (ow : Nat → Nat) (ps ss : List Nat) (σ : ST) (r : RC (gN g 2) ow h x pL sL ha ps ss σ) (hw : WF σ) (out : Nat) (hout : xS h out = some (11, 1)) (q p : Int32) : CTW g l iL_cast [(0, 10, 13, 20), (0, 10, 17, 15)] 9 [.ref x, .int q, .int p, .ref out] h 1 6 (pWr (gN g 2) ow h x pL sL ha out σ ["java/lang/IndexOutOfBoundsException", "java/lang/IllegalStateException"] (o_cast σ q p)) := by
  refine ctw_mk hfl (by decide) (Nat.le_of_ble_eq_true rfl) (by intro v hv; simp only [List.mem_cons, List.not_mem_nil, or_false] at hv; rcases hv with rfl | rfl | rfl | rfl <;> rfl) (fun V X M => ?_)
  have Mm := M.m
  show V 0 [some (.ref x), some (.int q), some (.int p), some (.ref out), none] [] _ 0 0
  refine r_aload_n Mm dL_cast_0 rfl ?_
  refine r_iconst (v := nI 0) Mm dL_cast_1 (by decide) ?_
  refine r_aload_n Mm dL_cast_2 rfl ?_
  refine r_iload_n Mm dL_cast_3 rfl ?_
  refine r_iload_n Mm dL_cast_4 rfl ?_
  refine r_callV (As := [(.int q), (.int p)]) Mm dL_cast_5 rfl (ct_o_cast hfl h x pL sL ha ow ps ss σ r hw q p) (r.1.1) rfl cw_L_40 ⟨Nat.le_of_ble_eq_true rfl, Nat.le_of_ble_eq_true rfl, Nat.le_of_ble_eq_true rfl⟩ (Nat.le_of_ble_eq_true rfl) ⟨Nat.le_of_ble_eq_true rfl, Nat.le_of_ble_eq_true rfl⟩ (fun r1 h1 p1 => ?_) (fun E1 h1 p1 => ?_)
  · rcases p1 with ⟨E0, -, e2, -⟩ | ⟨v, σ1, e1, e2, aft⟩
    · cases e2
    · cases e2
      have hso := aft.sh hout
      show V 8 [some (.ref x), some (.int q), some (.int p), some (.ref out), none] [(.int v), (.int (nI 0)), (.ref out)] h1 _ _
      refine r_i2l Mm dL_cast_8 ?_
      refine r_lastN Mm dL_cast_9 (hso) (by omega) (by omega) ?_
      refine r_goto (tgt := 21) Mm dL_cast_10 (by decide) ?_
      refine r_iconst (v := nI 0) Mm dL_cast_21 (by decide) ?_
      refine r_iret M dL_cast_22 ?_
      exact ⟨0, rfl, Or.inr ⟨_, σ1, h1, e1, rfl, aft, rfl⟩⟩
  · rcases p1 with ⟨E0, e1, e2, aft⟩ | ⟨v, σ1, -, e2, -⟩
    · cases e2
      have hE := ex_cast σ q p _ e1
      have hE0 := hE
      simp only [List.mem_cons, List.not_mem_nil, or_false] at hE
      rcases hE with rfl | rfl
      · refine x_catch (name := "java/lang/IndexOutOfBoundsException") Mm [] ⟨0, 10, 13, 20⟩ (tableOf [(0, 10, 17, 15)]) rfl (fun z hz => absurd hz List.not_mem_nil) rfl (by decide) (TB_at 336 (by decide +kernel) rfl) (NW_at 347 (by decide +kernel) rfl) (fun rq => ?_)
        show V 13 [some (.ref x), some (.int q), some (.int p), some (.ref out), none] [.ref rq] h1 _ _
        refine r_astore Mm dL_cast_13 (by decide) ?_
        show V 15 [some (.ref x), some (.int q), some (.int p), some (.ref out), some (.ref rq)] _ _ _ _
        refine r_iconst (v := nI 1) Mm dL_cast_15 (by decide) ?_
        refine r_iret M dL_cast_16 ?_
        exact ⟨1, rfl, Or.inl ⟨_, e1, by decide +kernel, hE0, aft⟩⟩
      · refine x_catch (name := "java/lang/IllegalStateException") Mm (tableOf [(0, 10, 13, 20)]) ⟨0, 10, 17, 15⟩ [] rfl (by intro z hz; simp only [tableOf, List.map_cons, List.map_nil, List.mem_cons, List.not_mem_nil, or_false] at hz; subst hz; exact ⟨by decide, "java/lang/IndexOutOfBoundsException", TB_at 336 (by decide +kernel) rfl, by decide +kernel⟩) rfl (by decide) (TB_at 118 (by decide +kernel) rfl) (NW_at 201 (by decide +kernel) rfl) (fun rq => ?_)
        show V 17 [some (.ref x), some (.int q), some (.int p), some (.ref out), none] [.ref rq] h1 _ _
        refine r_astore Mm dL_cast_17 (by decide) ?_
        show V 19 [some (.ref x), some (.int q), some (.int p), some (.ref out), some (.ref rq)] _ _ _ _
        refine r_iconst (v := nI 2) Mm dL_cast_19 (by decide) ?_
        refine r_iret M dL_cast_20 ?_
        exact ⟨2, rfl, Or.inl ⟨_, e1, by decide +kernel, hE0, aft⟩⟩
    · cases e2
theorem ex_leave (σ : ST) (q p : Int32) : oEx ["java/lang/IndexOutOfBoundsException", "java/lang/IllegalStateException"] (o_leave σ q p) := oEx.sh (by decide +kernel) fun _ => oEx.pu (by decide +kernel) fun _ => oEx.ite (oEx.thr (by decide +kernel)) (oEx.ret)
set_option maxRecDepth 100000 in
set_option maxHeartbeats 4000000 in
theorem ct_w_leave {g : Gl} {l : Launch} (hfl : l.stackTraces = false) (h : Hp) (x pL sL ha : Nat) (ow : Nat → Nat) (ps ss : List Nat) (σ : ST) (r : RC (gN g 2) ow h x pL sL ha ps ss σ) (hw : WF σ) (out : Nat) (hout : xS h out = some (11, 1)) (q p : Int32) : CTW g l iL_leave [(0, 10, 13, 20), (0, 10, 17, 15)] 9 [.ref x, .int q, .int p, .ref out] h 1 6 (pWr (gN g 2) ow h x pL sL ha out σ ["java/lang/IndexOutOfBoundsException", "java/lang/IllegalStateException"] (o_leave σ q p)) := by
  refine ctw_mk hfl (by decide) (Nat.le_of_ble_eq_true rfl) (by intro v hv; simp only [List.mem_cons, List.not_mem_nil, or_false] at hv; rcases hv with rfl | rfl | rfl | rfl <;> rfl) (fun V X M => ?_)
  have Mm := M.m
  show V 0 [some (.ref x), some (.int q), some (.int p), some (.ref out), none] [] _ 0 0
  refine r_aload_n Mm dL_leave_0 rfl ?_
  refine r_iconst (v := nI 0) Mm dL_leave_1 (by decide) ?_
  refine r_aload_n Mm dL_leave_2 rfl ?_
  refine r_iload_n Mm dL_leave_3 rfl ?_
  refine r_iload_n Mm dL_leave_4 rfl ?_
  refine r_callV (As := [(.int q), (.int p)]) Mm dL_leave_5 rfl (ct_o_leave hfl h x pL sL ha ow ps ss σ r hw q p) (r.1.1) rfl cw_L_43 ⟨Nat.le_of_ble_eq_true rfl, Nat.le_of_ble_eq_true rfl, Nat.le_of_ble_eq_true rfl⟩ (Nat.le_of_ble_eq_true rfl) ⟨Nat.le_of_ble_eq_true rfl, Nat.le_of_ble_eq_true rfl⟩ (fun r1 h1 p1 => ?_) (fun E1 h1 p1 => ?_)
  · rcases p1 with ⟨E0, -, e2, -⟩ | ⟨v, σ1, e1, e2, aft⟩
    · cases e2
    · cases e2
      have hso := aft.sh hout
      show V 8 [some (.ref x), some (.int q), some (.int p), some (.ref out), none] [(.int v), (.int (nI 0)), (.ref out)] h1 _ _
      refine r_i2l Mm dL_leave_8 ?_
      refine r_lastN Mm dL_leave_9 (hso) (by omega) (by omega) ?_
      refine r_goto (tgt := 21) Mm dL_leave_10 (by decide) ?_
      refine r_iconst (v := nI 0) Mm dL_leave_21 (by decide) ?_
      refine r_iret M dL_leave_22 ?_
      exact ⟨0, rfl, Or.inr ⟨_, σ1, h1, e1, rfl, aft, rfl⟩⟩
  · rcases p1 with ⟨E0, e1, e2, aft⟩ | ⟨v, σ1, -, e2, -⟩
    · cases e2
      have hE := ex_leave σ q p _ e1
      have hE0 := hE
      simp only [List.mem_cons, List.not_mem_nil, or_false] at hE
      rcases hE with rfl | rfl
      · refine x_catch (name := "java/lang/IndexOutOfBoundsException") Mm [] ⟨0, 10, 13, 20⟩ (tableOf [(0, 10, 17, 15)]) rfl (fun z hz => absurd hz List.not_mem_nil) rfl (by decide) (TB_at 336 (by decide +kernel) rfl) (NW_at 347 (by decide +kernel) rfl) (fun rq => ?_)
        show V 13 [some (.ref x), some (.int q), some (.int p), some (.ref out), none] [.ref rq] h1 _ _
        refine r_astore Mm dL_leave_13 (by decide) ?_
        show V 15 [some (.ref x), some (.int q), some (.int p), some (.ref out), some (.ref rq)] _ _ _ _
        refine r_iconst (v := nI 1) Mm dL_leave_15 (by decide) ?_
        refine r_iret M dL_leave_16 ?_
        exact ⟨1, rfl, Or.inl ⟨_, e1, by decide +kernel, hE0, aft⟩⟩
      · refine x_catch (name := "java/lang/IllegalStateException") Mm (tableOf [(0, 10, 13, 20)]) ⟨0, 10, 17, 15⟩ [] rfl (by intro z hz; simp only [tableOf, List.map_cons, List.map_nil, List.mem_cons, List.not_mem_nil, or_false] at hz; subst hz; exact ⟨by decide, "java/lang/IndexOutOfBoundsException", TB_at 336 (by decide +kernel) rfl, by decide +kernel⟩) rfl (by decide) (TB_at 118 (by decide +kernel) rfl) (NW_at 201 (by decide +kernel) rfl) (fun rq => ?_)
        show V 17 [some (.ref x), some (.int q), some (.int p), some (.ref out), none] [.ref rq] h1 _ _
        refine r_astore Mm dL_leave_17 (by decide) ?_
        show V 19 [some (.ref x), some (.int q), some (.int p), some (.ref out), some (.ref rq)] _ _ _ _
        refine r_iconst (v := nI 2) Mm dL_leave_19 (by decide) ?_
        refine r_iret M dL_leave_20 ?_
        exact ⟨2, rfl, Or.inl ⟨_, e1, by decide +kernel, hE0, aft⟩⟩
    · cases e2
theorem ex_sell (σ : ST) (q n w : Int32) : oEx ["java/lang/IndexOutOfBoundsException", "java/lang/IllegalArgumentException", "java/lang/IllegalStateException"] (o_sell σ q n w) := oEx.sh (by decide +kernel) fun _ => oEx.inn (by decide +kernel) (oEx.inn (by decide +kernel) (oEx.ite (oEx.thr (by decide +kernel)) (oEx.ret)))
set_option maxRecDepth 100000 in
set_option maxHeartbeats 4000000 in
theorem ct_w_sell {g : Gl} {l : Launch} (hfl : l.stackTraces = false) (h : Hp) (x pL sL ha : Nat) (ow : Nat → Nat) (ps ss : List Nat) (σ : ST) (r : RC (gN g 2) ow h x pL sL ha ps ss σ) (hw : WF σ) (out : Nat) (hout : xS h out = some (11, 1)) (q n w : Int32) : CTW g l iL_sell [(0, 12, 15, 20), (0, 12, 19, 13), (0, 12, 23, 15)] 9 [.ref x, .int q, .int n, .int w, .ref out] h 1 6 (pWr (gN g 2) ow h x pL sL ha out σ ["java/lang/IndexOutOfBoundsException", "java/lang/IllegalArgumentException", "java/lang/IllegalStateException"] (o_sell σ q n w)) := by
  refine ctw_mk hfl (by decide) (Nat.le_of_ble_eq_true rfl) (by intro v hv; simp only [List.mem_cons, List.not_mem_nil, or_false] at hv; rcases hv with rfl | rfl | rfl | rfl | rfl <;> rfl) (fun V X M => ?_)
  have Mm := M.m
  show V 0 [some (.ref x), some (.int q), some (.int n), some (.int w), some (.ref out), none] [] _ 0 0
  refine r_aload Mm dL_sell_0 rfl ?_
  refine r_iconst (v := nI 0) Mm dL_sell_2 (by decide) ?_
  refine r_aload_n Mm dL_sell_3 rfl ?_
  refine r_iload_n Mm dL_sell_4 rfl ?_
  refine r_iload_n Mm dL_sell_5 rfl ?_
  refine r_iload_n Mm dL_sell_6 rfl ?_
  refine r_callV (As := [(.int q), (.int n), (.int w)]) Mm dL_sell_7 rfl (ct_o_sell hfl h x pL sL ha ow ps ss σ r hw q n w) (r.1.1) rfl cw_L_46 ⟨Nat.le_of_ble_eq_true rfl, Nat.le_of_ble_eq_true rfl, Nat.le_of_ble_eq_true rfl⟩ (Nat.le_of_ble_eq_true rfl) ⟨Nat.le_of_ble_eq_true rfl, Nat.le_of_ble_eq_true rfl⟩ (fun r1 h1 p1 => ?_) (fun E1 h1 p1 => ?_)
  · rcases p1 with ⟨E0, -, e2, -⟩ | ⟨v, σ1, e1, e2, aft⟩
    · cases e2
    · cases e2
      have hso := aft.sh hout
      show V 10 [some (.ref x), some (.int q), some (.int n), some (.int w), some (.ref out), none] [(.int v), (.int (nI 0)), (.ref out)] h1 _ _
      refine r_i2l Mm dL_sell_10 ?_
      refine r_lastN Mm dL_sell_11 (hso) (by omega) (by omega) ?_
      refine r_goto (tgt := 27) Mm dL_sell_12 (by decide) ?_
      refine r_iconst (v := nI 0) Mm dL_sell_27 (by decide) ?_
      refine r_iret M dL_sell_28 ?_
      exact ⟨0, rfl, Or.inr ⟨_, σ1, h1, e1, rfl, aft, rfl⟩⟩
  · rcases p1 with ⟨E0, e1, e2, aft⟩ | ⟨v, σ1, -, e2, -⟩
    · cases e2
      have hE := ex_sell σ q n w _ e1
      have hE0 := hE
      simp only [List.mem_cons, List.not_mem_nil, or_false] at hE
      rcases hE with rfl | rfl | rfl
      · refine x_catch (name := "java/lang/IndexOutOfBoundsException") Mm [] ⟨0, 12, 15, 20⟩ (tableOf [(0, 12, 19, 13), (0, 12, 23, 15)]) rfl (fun z hz => absurd hz List.not_mem_nil) rfl (by decide) (TB_at 336 (by decide +kernel) rfl) (NW_at 347 (by decide +kernel) rfl) (fun rq => ?_)
        show V 15 [some (.ref x), some (.int q), some (.int n), some (.int w), some (.ref out), none] [.ref rq] h1 _ _
        refine r_astore Mm dL_sell_15 (by decide) ?_
        show V 17 [some (.ref x), some (.int q), some (.int n), some (.int w), some (.ref out), some (.ref rq)] _ _ _ _
        refine r_iconst (v := nI 1) Mm dL_sell_17 (by decide) ?_
        refine r_iret M dL_sell_18 ?_
        exact ⟨1, rfl, Or.inl ⟨_, e1, by decide +kernel, hE0, aft⟩⟩
      · refine x_catch (name := "java/lang/IllegalArgumentException") Mm (tableOf [(0, 12, 15, 20)]) ⟨0, 12, 19, 13⟩ (tableOf [(0, 12, 23, 15)]) rfl (by intro z hz; simp only [tableOf, List.map_cons, List.map_nil, List.mem_cons, List.not_mem_nil, or_false] at hz; subst hz; exact ⟨by decide, "java/lang/IndexOutOfBoundsException", TB_at 336 (by decide +kernel) rfl, by decide +kernel⟩) rfl (by decide) (TB_at 117 (by decide +kernel) rfl) (NW_at 128 (by decide +kernel) rfl) (fun rq => ?_)
        show V 19 [some (.ref x), some (.int q), some (.int n), some (.int w), some (.ref out), none] [.ref rq] h1 _ _
        refine r_astore Mm dL_sell_19 (by decide) ?_
        show V 21 [some (.ref x), some (.int q), some (.int n), some (.int w), some (.ref out), some (.ref rq)] _ _ _ _
        refine r_iconst (v := nI 2) Mm dL_sell_21 (by decide) ?_
        refine r_iret M dL_sell_22 ?_
        exact ⟨2, rfl, Or.inl ⟨_, e1, by decide +kernel, hE0, aft⟩⟩
      · refine x_catch (name := "java/lang/IllegalStateException") Mm (tableOf [(0, 12, 15, 20), (0, 12, 19, 13)]) ⟨0, 12, 23, 15⟩ [] rfl (by intro z hz; simp only [tableOf, List.map_cons, List.map_nil, List.mem_cons, List.not_mem_nil, or_false] at hz; rcases hz with rfl | rfl <;> first | exact ⟨by decide, "java/lang/IndexOutOfBoundsException", TB_at 336 (by decide +kernel) rfl, by decide +kernel⟩ | exact ⟨by decide, "java/lang/IllegalArgumentException", TB_at 117 (by decide +kernel) rfl, by decide +kernel⟩) rfl (by decide) (TB_at 118 (by decide +kernel) rfl) (NW_at 201 (by decide +kernel) rfl) (fun rq => ?_)
        show V 23 [some (.ref x), some (.int q), some (.int n), some (.int w), some (.ref out), none] [.ref rq] h1 _ _
        refine r_astore Mm dL_sell_23 (by decide) ?_
        show V 25 [some (.ref x), some (.int q), some (.int n), some (.int w), some (.ref out), some (.ref rq)] _ _ _ _
        refine r_iconst (v := nI 3) Mm dL_sell_25 (by decide) ?_
        refine r_iret M dL_sell_26 ?_
        exact ⟨3, rfl, Or.inl ⟨_, e1, by decide +kernel, hE0, aft⟩⟩
    · cases e2
theorem ex_perform (σ : ST) (q : Int32) : oEx ["java/lang/IndexOutOfBoundsException", "java/lang/IllegalStateException"] (o_perform σ q) := oEx.sh (by decide +kernel) fun _ => oEx.ite (oEx.thr (by decide +kernel)) (oEx.ret)
set_option maxRecDepth 100000 in
set_option maxHeartbeats 4000000 in
theorem ct_w_perform {g : Gl} {l : Launch} (hfl : l.stackTraces = false) (h : Hp) (x pL sL ha : Nat) (ow : Nat → Nat) (ps ss : List Nat) (σ : ST) (r : RC (gN g 2) ow h x pL sL ha ps ss σ) (hw : WF σ) (out : Nat) (hout : xS h out = some (11, 1)) (q : Int32) : CTW g l iL_perform [(0, 9, 12, 20), (0, 9, 15, 15)] 9 [.ref x, .int q, .ref out] h 1 6 (pWr (gN g 2) ow h x pL sL ha out σ ["java/lang/IndexOutOfBoundsException", "java/lang/IllegalStateException"] (o_perform σ q)) := by
  refine ctw_mk hfl (by decide) (Nat.le_of_ble_eq_true rfl) (by intro v hv; simp only [List.mem_cons, List.not_mem_nil, or_false] at hv; rcases hv with rfl | rfl | rfl <;> rfl) (fun V X M => ?_)
  have Mm := M.m
  show V 0 [some (.ref x), some (.int q), some (.ref out), none] [] _ 0 0
  refine r_aload_n Mm dL_perform_0 rfl ?_
  refine r_iconst (v := nI 0) Mm dL_perform_1 (by decide) ?_
  refine r_aload_n Mm dL_perform_2 rfl ?_
  refine r_iload_n Mm dL_perform_3 rfl ?_
  refine r_callV (As := [(.int q)]) Mm dL_perform_4 rfl (ct_o_perform hfl h x pL sL ha ow ps ss σ r hw q) (r.1.1) rfl cw_L_50 ⟨Nat.le_of_ble_eq_true rfl, Nat.le_of_ble_eq_true rfl, Nat.le_of_ble_eq_true rfl⟩ (Nat.le_of_ble_eq_true rfl) ⟨Nat.le_of_ble_eq_true rfl, Nat.le_of_ble_eq_true rfl⟩ (fun r1 h1 p1 => ?_) (fun E1 h1 p1 => ?_)
  · rcases p1 with ⟨E0, -, e2, -⟩ | ⟨v, σ1, e1, e2, aft⟩
    · cases e2
    · cases e2
      have hso := aft.sh hout
      show V 7 [some (.ref x), some (.int q), some (.ref out), none] [(.int v), (.int (nI 0)), (.ref out)] h1 _ _
      refine r_i2l Mm dL_perform_7 ?_
      refine r_lastN Mm dL_perform_8 (hso) (by omega) (by omega) ?_
      refine r_goto (tgt := 18) Mm dL_perform_9 (by decide) ?_
      refine r_iconst (v := nI 0) Mm dL_perform_18 (by decide) ?_
      refine r_iret M dL_perform_19 ?_
      exact ⟨0, rfl, Or.inr ⟨_, σ1, h1, e1, rfl, aft, rfl⟩⟩
  · rcases p1 with ⟨E0, e1, e2, aft⟩ | ⟨v, σ1, -, e2, -⟩
    · cases e2
      have hE := ex_perform σ q _ e1
      have hE0 := hE
      simp only [List.mem_cons, List.not_mem_nil, or_false] at hE
      rcases hE with rfl | rfl
      · refine x_catch (name := "java/lang/IndexOutOfBoundsException") Mm [] ⟨0, 9, 12, 20⟩ (tableOf [(0, 9, 15, 15)]) rfl (fun z hz => absurd hz List.not_mem_nil) rfl (by decide) (TB_at 336 (by decide +kernel) rfl) (NW_at 347 (by decide +kernel) rfl) (fun rq => ?_)
        show V 12 [some (.ref x), some (.int q), some (.ref out), none] [.ref rq] h1 _ _
        refine r_astore_n Mm dL_perform_12 (by decide) ?_
        show V 13 [some (.ref x), some (.int q), some (.ref out), some (.ref rq)] _ _ _ _
        refine r_iconst (v := nI 1) Mm dL_perform_13 (by decide) ?_
        refine r_iret M dL_perform_14 ?_
        exact ⟨1, rfl, Or.inl ⟨_, e1, by decide +kernel, hE0, aft⟩⟩
      · refine x_catch (name := "java/lang/IllegalStateException") Mm (tableOf [(0, 9, 12, 20)]) ⟨0, 9, 15, 15⟩ [] rfl (by intro z hz; simp only [tableOf, List.map_cons, List.map_nil, List.mem_cons, List.not_mem_nil, or_false] at hz; subst hz; exact ⟨by decide, "java/lang/IndexOutOfBoundsException", TB_at 336 (by decide +kernel) rfl, by decide +kernel⟩) rfl (by decide) (TB_at 118 (by decide +kernel) rfl) (NW_at 201 (by decide +kernel) rfl) (fun rq => ?_)
        show V 15 [some (.ref x), some (.int q), some (.ref out), none] [.ref rq] h1 _ _
        refine r_astore_n Mm dL_perform_15 (by decide) ?_
        show V 16 [some (.ref x), some (.int q), some (.ref out), some (.ref rq)] _ _ _ _
        refine r_iconst (v := nI 2) Mm dL_perform_16 (by decide) ?_
        refine r_iret M dL_perform_17 ?_
        exact ⟨2, rfl, Or.inl ⟨_, e1, by decide +kernel, hE0, aft⟩⟩
    · cases e2
theorem ex_mend (σ : ST) (p w : Int32) : oEx ["java/lang/IndexOutOfBoundsException", "java/lang/IllegalArgumentException", "java/lang/IllegalStateException"] (o_mend σ p w) := oEx.pu (by decide +kernel) fun _ => oEx.inn (by decide +kernel) (oEx.ite (oEx.thr (by decide +kernel)) (oEx.ite (oEx.thr (by decide +kernel)) (oEx.ret)))
set_option maxRecDepth 100000 in
set_option maxHeartbeats 4000000 in
theorem ct_w_mend {g : Gl} {l : Launch} (hfl : l.stackTraces = false) (h : Hp) (x pL sL ha : Nat) (ow : Nat → Nat) (ps ss : List Nat) (σ : ST) (r : RC (gN g 2) ow h x pL sL ha ps ss σ) (hw : WF σ) (out : Nat) (hout : xS h out = some (11, 1)) (p w : Int32) : CTW g l iL_mend [(0, 10, 13, 20), (0, 10, 17, 13), (0, 10, 21, 15)] 9 [.ref x, .int p, .int w, .ref out] h 4 1520 (pWr (gN g 2) ow h x pL sL ha out σ ["java/lang/IndexOutOfBoundsException", "java/lang/IllegalArgumentException", "java/lang/IllegalStateException"] (o_mend σ p w)) := by
  refine ctw_mk hfl (by decide) (Nat.le_of_ble_eq_true rfl) (by intro v hv; simp only [List.mem_cons, List.not_mem_nil, or_false] at hv; rcases hv with rfl | rfl | rfl | rfl <;> rfl) (fun V X M => ?_)
  have Mm := M.m
  show V 0 [some (.ref x), some (.int p), some (.int w), some (.ref out), none] [] _ 0 0
  refine r_aload_n Mm dL_mend_0 rfl ?_
  refine r_iconst (v := nI 0) Mm dL_mend_1 (by decide) ?_
  refine r_aload_n Mm dL_mend_2 rfl ?_
  refine r_iload_n Mm dL_mend_3 rfl ?_
  refine r_iload_n Mm dL_mend_4 rfl ?_
  refine r_callV (As := [(.int p), (.int w)]) Mm dL_mend_5 rfl (ct_o_mend hfl h x pL sL ha ow ps ss σ r hw p w) (r.1.1) rfl cw_L_54 ⟨Nat.le_of_ble_eq_true rfl, Nat.le_of_ble_eq_true rfl, Nat.le_of_ble_eq_true rfl⟩ (Nat.le_of_ble_eq_true rfl) ⟨Nat.le_of_ble_eq_true rfl, Nat.le_of_ble_eq_true rfl⟩ (fun r1 h1 p1 => ?_) (fun E1 h1 p1 => ?_)
  · rcases p1 with ⟨E0, -, e2, -⟩ | ⟨v, σ1, e1, e2, aft⟩
    · cases e2
    · cases e2
      have hso := aft.sh hout
      show V 8 [some (.ref x), some (.int p), some (.int w), some (.ref out), none] [(.int v), (.int (nI 0)), (.ref out)] h1 _ _
      refine r_i2l Mm dL_mend_8 ?_
      refine r_lastN Mm dL_mend_9 (hso) (by omega) (by omega) ?_
      refine r_goto (tgt := 25) Mm dL_mend_10 (by decide) ?_
      refine r_iconst (v := nI 0) Mm dL_mend_25 (by decide) ?_
      refine r_iret M dL_mend_26 ?_
      exact ⟨0, rfl, Or.inr ⟨_, σ1, h1, e1, rfl, aft, rfl⟩⟩
  · rcases p1 with ⟨E0, e1, e2, aft⟩ | ⟨v, σ1, -, e2, -⟩
    · cases e2
      have hE := ex_mend σ p w _ e1
      have hE0 := hE
      simp only [List.mem_cons, List.not_mem_nil, or_false] at hE
      rcases hE with rfl | rfl | rfl
      · refine x_catch (name := "java/lang/IndexOutOfBoundsException") Mm [] ⟨0, 10, 13, 20⟩ (tableOf [(0, 10, 17, 13), (0, 10, 21, 15)]) rfl (fun z hz => absurd hz List.not_mem_nil) rfl (by decide) (TB_at 336 (by decide +kernel) rfl) (NW_at 347 (by decide +kernel) rfl) (fun rq => ?_)
        show V 13 [some (.ref x), some (.int p), some (.int w), some (.ref out), none] [.ref rq] h1 _ _
        refine r_astore Mm dL_mend_13 (by decide) ?_
        show V 15 [some (.ref x), some (.int p), some (.int w), some (.ref out), some (.ref rq)] _ _ _ _
        refine r_iconst (v := nI 1) Mm dL_mend_15 (by decide) ?_
        refine r_iret M dL_mend_16 ?_
        exact ⟨1, rfl, Or.inl ⟨_, e1, by decide +kernel, hE0, aft⟩⟩
      · refine x_catch (name := "java/lang/IllegalArgumentException") Mm (tableOf [(0, 10, 13, 20)]) ⟨0, 10, 17, 13⟩ (tableOf [(0, 10, 21, 15)]) rfl (by intro z hz; simp only [tableOf, List.map_cons, List.map_nil, List.mem_cons, List.not_mem_nil, or_false] at hz; subst hz; exact ⟨by decide, "java/lang/IndexOutOfBoundsException", TB_at 336 (by decide +kernel) rfl, by decide +kernel⟩) rfl (by decide) (TB_at 117 (by decide +kernel) rfl) (NW_at 128 (by decide +kernel) rfl) (fun rq => ?_)
        show V 17 [some (.ref x), some (.int p), some (.int w), some (.ref out), none] [.ref rq] h1 _ _
        refine r_astore Mm dL_mend_17 (by decide) ?_
        show V 19 [some (.ref x), some (.int p), some (.int w), some (.ref out), some (.ref rq)] _ _ _ _
        refine r_iconst (v := nI 2) Mm dL_mend_19 (by decide) ?_
        refine r_iret M dL_mend_20 ?_
        exact ⟨2, rfl, Or.inl ⟨_, e1, by decide +kernel, hE0, aft⟩⟩
      · refine x_catch (name := "java/lang/IllegalStateException") Mm (tableOf [(0, 10, 13, 20), (0, 10, 17, 13)]) ⟨0, 10, 21, 15⟩ [] rfl (by intro z hz; simp only [tableOf, List.map_cons, List.map_nil, List.mem_cons, List.not_mem_nil, or_false] at hz; rcases hz with rfl | rfl <;> first | exact ⟨by decide, "java/lang/IndexOutOfBoundsException", TB_at 336 (by decide +kernel) rfl, by decide +kernel⟩ | exact ⟨by decide, "java/lang/IllegalArgumentException", TB_at 117 (by decide +kernel) rfl, by decide +kernel⟩) rfl (by decide) (TB_at 118 (by decide +kernel) rfl) (NW_at 201 (by decide +kernel) rfl) (fun rq => ?_)
        show V 21 [some (.ref x), some (.int p), some (.int w), some (.ref out), none] [.ref rq] h1 _ _
        refine r_astore Mm dL_mend_21 (by decide) ?_
        show V 23 [some (.ref x), some (.int p), some (.int w), some (.ref out), some (.ref rq)] _ _ _ _
        refine r_iconst (v := nI 3) Mm dL_mend_23 (by decide) ?_
        refine r_iret M dL_mend_24 ?_
        exact ⟨3, rfl, Or.inl ⟨_, e1, by decide +kernel, hE0, aft⟩⟩
    · cases e2
theorem ex_track (σ : ST) (p f : Int32) : oEx ["java/lang/IndexOutOfBoundsException", "java/lang/IllegalArgumentException"] (o_track σ p f) := oEx.pu (by decide +kernel) fun _ => oEx.inn (by decide +kernel) (oEx.ret)
set_option maxRecDepth 100000 in
set_option maxHeartbeats 4000000 in
theorem ct_w_track {g : Gl} {l : Launch} (hfl : l.stackTraces = false) (h : Hp) (x pL sL ha : Nat) (ow : Nat → Nat) (ps ss : List Nat) (σ : ST) (r : RC (gN g 2) ow h x pL sL ha ps ss σ) (hw : WF σ) (out : Nat) (hout : xS h out = some (11, 1)) (p f : Int32) : CTW g l iL_track [(0, 10, 13, 20), (0, 10, 17, 13)] 9 [.ref x, .int p, .int f, .ref out] h 1 6 (pWr (gN g 2) ow h x pL sL ha out σ ["java/lang/IndexOutOfBoundsException", "java/lang/IllegalArgumentException"] (o_track σ p f)) := by
  refine ctw_mk hfl (by decide) (Nat.le_of_ble_eq_true rfl) (by intro v hv; simp only [List.mem_cons, List.not_mem_nil, or_false] at hv; rcases hv with rfl | rfl | rfl | rfl <;> rfl) (fun V X M => ?_)
  have Mm := M.m
  show V 0 [some (.ref x), some (.int p), some (.int f), some (.ref out), none] [] _ 0 0
  refine r_aload_n Mm dL_track_0 rfl ?_
  refine r_iconst (v := nI 0) Mm dL_track_1 (by decide) ?_
  refine r_aload_n Mm dL_track_2 rfl ?_
  refine r_iload_n Mm dL_track_3 rfl ?_
  refine r_iload_n Mm dL_track_4 rfl ?_
  refine r_callV (As := [(.int p), (.int f)]) Mm dL_track_5 rfl (ct_o_track hfl h x pL sL ha ow ps ss σ r hw p f) (r.1.1) rfl cw_L_57 ⟨Nat.le_of_ble_eq_true rfl, Nat.le_of_ble_eq_true rfl, Nat.le_of_ble_eq_true rfl⟩ (Nat.le_of_ble_eq_true rfl) ⟨Nat.le_of_ble_eq_true rfl, Nat.le_of_ble_eq_true rfl⟩ (fun r1 h1 p1 => ?_) (fun E1 h1 p1 => ?_)
  · rcases p1 with ⟨E0, -, e2, -⟩ | ⟨v, σ1, e1, e2, aft⟩
    · cases e2
    · cases e2
      have hso := aft.sh hout
      show V 8 [some (.ref x), some (.int p), some (.int f), some (.ref out), none] [(.int v), (.int (nI 0)), (.ref out)] h1 _ _
      refine r_i2l Mm dL_track_8 ?_
      refine r_lastN Mm dL_track_9 (hso) (by omega) (by omega) ?_
      refine r_goto (tgt := 21) Mm dL_track_10 (by decide) ?_
      refine r_iconst (v := nI 0) Mm dL_track_21 (by decide) ?_
      refine r_iret M dL_track_22 ?_
      exact ⟨0, rfl, Or.inr ⟨_, σ1, h1, e1, rfl, aft, rfl⟩⟩
  · rcases p1 with ⟨E0, e1, e2, aft⟩ | ⟨v, σ1, -, e2, -⟩
    · cases e2
      have hE := ex_track σ p f _ e1
      have hE0 := hE
      simp only [List.mem_cons, List.not_mem_nil, or_false] at hE
      rcases hE with rfl | rfl
      · refine x_catch (name := "java/lang/IndexOutOfBoundsException") Mm [] ⟨0, 10, 13, 20⟩ (tableOf [(0, 10, 17, 13)]) rfl (fun z hz => absurd hz List.not_mem_nil) rfl (by decide) (TB_at 336 (by decide +kernel) rfl) (NW_at 347 (by decide +kernel) rfl) (fun rq => ?_)
        show V 13 [some (.ref x), some (.int p), some (.int f), some (.ref out), none] [.ref rq] h1 _ _
        refine r_astore Mm dL_track_13 (by decide) ?_
        show V 15 [some (.ref x), some (.int p), some (.int f), some (.ref out), some (.ref rq)] _ _ _ _
        refine r_iconst (v := nI 1) Mm dL_track_15 (by decide) ?_
        refine r_iret M dL_track_16 ?_
        exact ⟨1, rfl, Or.inl ⟨_, e1, by decide +kernel, hE0, aft⟩⟩
      · refine x_catch (name := "java/lang/IllegalArgumentException") Mm (tableOf [(0, 10, 13, 20)]) ⟨0, 10, 17, 13⟩ [] rfl (by intro z hz; simp only [tableOf, List.map_cons, List.map_nil, List.mem_cons, List.not_mem_nil, or_false] at hz; subst hz; exact ⟨by decide, "java/lang/IndexOutOfBoundsException", TB_at 336 (by decide +kernel) rfl, by decide +kernel⟩) rfl (by decide) (TB_at 117 (by decide +kernel) rfl) (NW_at 128 (by decide +kernel) rfl) (fun rq => ?_)
        show V 17 [some (.ref x), some (.int p), some (.int f), some (.ref out), none] [.ref rq] h1 _ _
        refine r_astore Mm dL_track_17 (by decide) ?_
        show V 19 [some (.ref x), some (.int p), some (.int f), some (.ref out), some (.ref rq)] _ _ _ _
        refine r_iconst (v := nI 2) Mm dL_track_19 (by decide) ?_
        refine r_iret M dL_track_20 ?_
        exact ⟨2, rfl, Or.inl ⟨_, e1, by decide +kernel, hE0, aft⟩⟩
    · cases e2
theorem ex_tbf (σ : ST) (p f : Int32) : oEx ["java/lang/IndexOutOfBoundsException", "java/lang/IllegalArgumentException"] (o_tbf σ p f) := oEx.pu (by decide +kernel) fun _ => oEx.inn (by decide +kernel) (oEx.ret)
set_option maxRecDepth 100000 in
set_option maxHeartbeats 4000000 in
theorem ct_w_tbf {g : Gl} {l : Launch} (hfl : l.stackTraces = false) (h : Hp) (x pL sL ha : Nat) (ow : Nat → Nat) (ps ss : List Nat) (σ : ST) (r : RC (gN g 2) ow h x pL sL ha ps ss σ) (hw : WF σ) (out : Nat) (hout : xS h out = some (11, 1)) (p f : Int32) : CTW g l iL_trackByFrames [(0, 10, 13, 20), (0, 10, 17, 13)] 9 [.ref x, .int p, .int f, .ref out] h 1 6 (pWr (gN g 2) ow h x pL sL ha out σ ["java/lang/IndexOutOfBoundsException", "java/lang/IllegalArgumentException"] (o_tbf σ p f)) := by
  refine ctw_mk hfl (by decide) (Nat.le_of_ble_eq_true rfl) (by intro v hv; simp only [List.mem_cons, List.not_mem_nil, or_false] at hv; rcases hv with rfl | rfl | rfl | rfl <;> rfl) (fun V X M => ?_)
  have Mm := M.m
  show V 0 [some (.ref x), some (.int p), some (.int f), some (.ref out), none] [] _ 0 0
  refine r_aload_n Mm dL_trackByFrames_0 rfl ?_
  refine r_iconst (v := nI 0) Mm dL_trackByFrames_1 (by decide) ?_
  refine r_aload_n Mm dL_trackByFrames_2 rfl ?_
  refine r_iload_n Mm dL_trackByFrames_3 rfl ?_
  refine r_iload_n Mm dL_trackByFrames_4 rfl ?_
  refine r_callV (As := [(.int p), (.int f)]) Mm dL_trackByFrames_5 rfl (ct_o_tbf hfl h x pL sL ha ow ps ss σ r hw p f) (r.1.1) rfl cw_L_60 ⟨Nat.le_of_ble_eq_true rfl, Nat.le_of_ble_eq_true rfl, Nat.le_of_ble_eq_true rfl⟩ (Nat.le_of_ble_eq_true rfl) ⟨Nat.le_of_ble_eq_true rfl, Nat.le_of_ble_eq_true rfl⟩ (fun r1 h1 p1 => ?_) (fun E1 h1 p1 => ?_)
  · rcases p1 with ⟨E0, -, e2, -⟩ | ⟨v, σ1, e1, e2, aft⟩
    · cases e2
    · cases e2
      have hso := aft.sh hout
      show V 8 [some (.ref x), some (.int p), some (.int f), some (.ref out), none] [(.int v), (.int (nI 0)), (.ref out)] h1 _ _
      refine r_i2l Mm dL_trackByFrames_8 ?_
      refine r_lastN Mm dL_trackByFrames_9 (hso) (by omega) (by omega) ?_
      refine r_goto (tgt := 21) Mm dL_trackByFrames_10 (by decide) ?_
      refine r_iconst (v := nI 0) Mm dL_trackByFrames_21 (by decide) ?_
      refine r_iret M dL_trackByFrames_22 ?_
      exact ⟨0, rfl, Or.inr ⟨_, σ1, h1, e1, rfl, aft, rfl⟩⟩
  · rcases p1 with ⟨E0, e1, e2, aft⟩ | ⟨v, σ1, -, e2, -⟩
    · cases e2
      have hE := ex_tbf σ p f _ e1
      have hE0 := hE
      simp only [List.mem_cons, List.not_mem_nil, or_false] at hE
      rcases hE with rfl | rfl
      · refine x_catch (name := "java/lang/IndexOutOfBoundsException") Mm [] ⟨0, 10, 13, 20⟩ (tableOf [(0, 10, 17, 13)]) rfl (fun z hz => absurd hz List.not_mem_nil) rfl (by decide) (TB_at 336 (by decide +kernel) rfl) (NW_at 347 (by decide +kernel) rfl) (fun rq => ?_)
        show V 13 [some (.ref x), some (.int p), some (.int f), some (.ref out), none] [.ref rq] h1 _ _
        refine r_astore Mm dL_trackByFrames_13 (by decide) ?_
        show V 15 [some (.ref x), some (.int p), some (.int f), some (.ref out), some (.ref rq)] _ _ _ _
        refine r_iconst (v := nI 1) Mm dL_trackByFrames_15 (by decide) ?_
        refine r_iret M dL_trackByFrames_16 ?_
        exact ⟨1, rfl, Or.inl ⟨_, e1, by decide +kernel, hE0, aft⟩⟩
      · refine x_catch (name := "java/lang/IllegalArgumentException") Mm (tableOf [(0, 10, 13, 20)]) ⟨0, 10, 17, 13⟩ [] rfl (by intro z hz; simp only [tableOf, List.map_cons, List.map_nil, List.mem_cons, List.not_mem_nil, or_false] at hz; subst hz; exact ⟨by decide, "java/lang/IndexOutOfBoundsException", TB_at 336 (by decide +kernel) rfl, by decide +kernel⟩) rfl (by decide) (TB_at 117 (by decide +kernel) rfl) (NW_at 128 (by decide +kernel) rfl) (fun rq => ?_)
        show V 17 [some (.ref x), some (.int p), some (.int f), some (.ref out), none] [.ref rq] h1 _ _
        refine r_astore Mm dL_trackByFrames_17 (by decide) ?_
        show V 19 [some (.ref x), some (.int p), some (.int f), some (.ref out), some (.ref rq)] _ _ _ _
        refine r_iconst (v := nI 2) Mm dL_trackByFrames_19 (by decide) ?_
        refine r_iret M dL_trackByFrames_20 ?_
        exact ⟨2, rfl, Or.inl ⟨_, e1, by decide +kernel, hE0, aft⟩⟩
    · cases e2
theorem ex_x (σ : ST) (q p f : Int32) : oEx ["java/lang/IndexOutOfBoundsException", "java/lang/IllegalArgumentException"] (o_x σ q p f) := oEx.sh (by decide +kernel) fun _ => oEx.has (by decide +kernel) fun _ => oEx.inn (by decide +kernel) (oEx.ret)
set_option maxRecDepth 100000 in
set_option maxHeartbeats 4000000 in
theorem ct_w_x {g : Gl} {l : Launch} (hfl : l.stackTraces = false) (h : Hp) (x pL sL ha : Nat) (ow : Nat → Nat) (ps ss : List Nat) (σ : ST) (r : RC (gN g 2) ow h x pL sL ha ps ss σ) (hw : WF σ) (out : Nat) (hout : xS h out = some (11, 1)) (q p f : Int32) : CTW g l iL_x [(0, 12, 15, 20), (0, 12, 19, 13)] 10 [.ref x, .int q, .int p, .int f, .ref out] h 1 6 (pWr (gN g 2) ow h x pL sL ha out σ ["java/lang/IndexOutOfBoundsException", "java/lang/IllegalArgumentException"] (o_x σ q p f)) := by
  refine ctw_mk hfl (by decide) (Nat.le_of_ble_eq_true rfl) (by intro v hv; simp only [List.mem_cons, List.not_mem_nil, or_false] at hv; rcases hv with rfl | rfl | rfl | rfl | rfl <;> rfl) (fun V X M => ?_)
  have Mm := M.m
  show V 0 [some (.ref x), some (.int q), some (.int p), some (.int f), some (.ref out), none] [] _ 0 0
  refine r_aload Mm dL_x_0 rfl ?_
  refine r_iconst (v := nI 0) Mm dL_x_2 (by decide) ?_
  refine r_aload_n Mm dL_x_3 rfl ?_
  refine r_iload_n Mm dL_x_4 rfl ?_
  refine r_iload_n Mm dL_x_5 rfl ?_
  refine r_iload_n Mm dL_x_6 rfl ?_
  refine r_callV (As := [(.int q), (.int p), (.int f)]) Mm dL_x_7 rfl (ct_o_x hfl h x pL sL ha ow ps ss σ r hw q p f) (r.1.1) rfl cw_L_63 ⟨Nat.le_of_ble_eq_true rfl, Nat.le_of_ble_eq_true rfl, Nat.le_of_ble_eq_true rfl⟩ (Nat.le_of_ble_eq_true rfl) ⟨Nat.le_of_ble_eq_true rfl, Nat.le_of_ble_eq_true rfl⟩ (fun r1 h1 p1 => ?_) (fun E1 h1 p1 => ?_)
  · rcases p1 with ⟨E0, -, e2, -⟩ | ⟨v, σ1, e1, e2, aft⟩
    · cases e2
    · cases e2
      have hso := aft.sh hout
      show V 10 [some (.ref x), some (.int q), some (.int p), some (.int f), some (.ref out), none] [(.int v), (.int (nI 0)), (.ref out)] h1 _ _
      refine r_i2l Mm dL_x_10 ?_
      refine r_lastN Mm dL_x_11 (hso) (by omega) (by omega) ?_
      refine r_goto (tgt := 23) Mm dL_x_12 (by decide) ?_
      refine r_iconst (v := nI 0) Mm dL_x_23 (by decide) ?_
      refine r_iret M dL_x_24 ?_
      exact ⟨0, rfl, Or.inr ⟨_, σ1, h1, e1, rfl, aft, rfl⟩⟩
  · rcases p1 with ⟨E0, e1, e2, aft⟩ | ⟨v, σ1, -, e2, -⟩
    · cases e2
      have hE := ex_x σ q p f _ e1
      have hE0 := hE
      simp only [List.mem_cons, List.not_mem_nil, or_false] at hE
      rcases hE with rfl | rfl
      · refine x_catch (name := "java/lang/IndexOutOfBoundsException") Mm [] ⟨0, 12, 15, 20⟩ (tableOf [(0, 12, 19, 13)]) rfl (fun z hz => absurd hz List.not_mem_nil) rfl (by decide) (TB_at 336 (by decide +kernel) rfl) (NW_at 347 (by decide +kernel) rfl) (fun rq => ?_)
        show V 15 [some (.ref x), some (.int q), some (.int p), some (.int f), some (.ref out), none] [.ref rq] h1 _ _
        refine r_astore Mm dL_x_15 (by decide) ?_
        show V 17 [some (.ref x), some (.int q), some (.int p), some (.int f), some (.ref out), some (.ref rq)] _ _ _ _
        refine r_iconst (v := nI 1) Mm dL_x_17 (by decide) ?_
        refine r_iret M dL_x_18 ?_
        exact ⟨1, rfl, Or.inl ⟨_, e1, by decide +kernel, hE0, aft⟩⟩
      · refine x_catch (name := "java/lang/IllegalArgumentException") Mm (tableOf [(0, 12, 15, 20)]) ⟨0, 12, 19, 13⟩ [] rfl (by intro z hz; simp only [tableOf, List.map_cons, List.map_nil, List.mem_cons, List.not_mem_nil, or_false] at hz; subst hz; exact ⟨by decide, "java/lang/IndexOutOfBoundsException", TB_at 336 (by decide +kernel) rfl, by decide +kernel⟩) rfl (by decide) (TB_at 117 (by decide +kernel) rfl) (NW_at 128 (by decide +kernel) rfl) (fun rq => ?_)
        show V 19 [some (.ref x), some (.int q), some (.int p), some (.int f), some (.ref out), none] [.ref rq] h1 _ _
        refine r_astore Mm dL_x_19 (by decide) ?_
        show V 21 [some (.ref x), some (.int q), some (.int p), some (.int f), some (.ref out), some (.ref rq)] _ _ _ _
        refine r_iconst (v := nI 2) Mm dL_x_21 (by decide) ?_
        refine r_iret M dL_x_22 ?_
        exact ⟨2, rfl, Or.inl ⟨_, e1, by decide +kernel, hE0, aft⟩⟩
    · cases e2
theorem ex_y (σ : ST) (q p f : Int32) : oEx ["java/lang/IndexOutOfBoundsException", "java/lang/IllegalArgumentException"] (o_y σ q p f) := oEx.sh (by decide +kernel) fun _ => oEx.has (by decide +kernel) fun _ => oEx.inn (by decide +kernel) (oEx.ret)
set_option maxRecDepth 100000 in
set_option maxHeartbeats 4000000 in
theorem ct_w_y {g : Gl} {l : Launch} (hfl : l.stackTraces = false) (h : Hp) (x pL sL ha : Nat) (ow : Nat → Nat) (ps ss : List Nat) (σ : ST) (r : RC (gN g 2) ow h x pL sL ha ps ss σ) (hw : WF σ) (out : Nat) (hout : xS h out = some (11, 1)) (q p f : Int32) : CTW g l iL_y [(0, 12, 15, 20), (0, 12, 19, 13)] 10 [.ref x, .int q, .int p, .int f, .ref out] h 1 6 (pWr (gN g 2) ow h x pL sL ha out σ ["java/lang/IndexOutOfBoundsException", "java/lang/IllegalArgumentException"] (o_y σ q p f)) := by
  refine ctw_mk hfl (by decide) (Nat.le_of_ble_eq_true rfl) (by intro v hv; simp only [List.mem_cons, List.not_mem_nil, or_false] at hv; rcases hv with rfl | rfl | rfl | rfl | rfl <;> rfl) (fun V X M => ?_)
  have Mm := M.m
  show V 0 [some (.ref x), some (.int q), some (.int p), some (.int f), some (.ref out), none] [] _ 0 0
  refine r_aload Mm dL_y_0 rfl ?_
  refine r_iconst (v := nI 0) Mm dL_y_2 (by decide) ?_
  refine r_aload_n Mm dL_y_3 rfl ?_
  refine r_iload_n Mm dL_y_4 rfl ?_
  refine r_iload_n Mm dL_y_5 rfl ?_
  refine r_iload_n Mm dL_y_6 rfl ?_
  refine r_callV (As := [(.int q), (.int p), (.int f)]) Mm dL_y_7 rfl (ct_o_y hfl h x pL sL ha ow ps ss σ r hw q p f) (r.1.1) rfl cw_L_66 ⟨Nat.le_of_ble_eq_true rfl, Nat.le_of_ble_eq_true rfl, Nat.le_of_ble_eq_true rfl⟩ (Nat.le_of_ble_eq_true rfl) ⟨Nat.le_of_ble_eq_true rfl, Nat.le_of_ble_eq_true rfl⟩ (fun r1 h1 p1 => ?_) (fun E1 h1 p1 => ?_)
  · rcases p1 with ⟨E0, -, e2, -⟩ | ⟨v, σ1, e1, e2, aft⟩
    · cases e2
    · cases e2
      have hso := aft.sh hout
      show V 10 [some (.ref x), some (.int q), some (.int p), some (.int f), some (.ref out), none] [(.int v), (.int (nI 0)), (.ref out)] h1 _ _
      refine r_i2l Mm dL_y_10 ?_
      refine r_lastN Mm dL_y_11 (hso) (by omega) (by omega) ?_
      refine r_goto (tgt := 23) Mm dL_y_12 (by decide) ?_
      refine r_iconst (v := nI 0) Mm dL_y_23 (by decide) ?_
      refine r_iret M dL_y_24 ?_
      exact ⟨0, rfl, Or.inr ⟨_, σ1, h1, e1, rfl, aft, rfl⟩⟩
  · rcases p1 with ⟨E0, e1, e2, aft⟩ | ⟨v, σ1, -, e2, -⟩
    · cases e2
      have hE := ex_y σ q p f _ e1
      have hE0 := hE
      simp only [List.mem_cons, List.not_mem_nil, or_false] at hE
      rcases hE with rfl | rfl
      · refine x_catch (name := "java/lang/IndexOutOfBoundsException") Mm [] ⟨0, 12, 15, 20⟩ (tableOf [(0, 12, 19, 13)]) rfl (fun z hz => absurd hz List.not_mem_nil) rfl (by decide) (TB_at 336 (by decide +kernel) rfl) (NW_at 347 (by decide +kernel) rfl) (fun rq => ?_)
        show V 15 [some (.ref x), some (.int q), some (.int p), some (.int f), some (.ref out), none] [.ref rq] h1 _ _
        refine r_astore Mm dL_y_15 (by decide) ?_
        show V 17 [some (.ref x), some (.int q), some (.int p), some (.int f), some (.ref out), some (.ref rq)] _ _ _ _
        refine r_iconst (v := nI 1) Mm dL_y_17 (by decide) ?_
        refine r_iret M dL_y_18 ?_
        exact ⟨1, rfl, Or.inl ⟨_, e1, by decide +kernel, hE0, aft⟩⟩
      · refine x_catch (name := "java/lang/IllegalArgumentException") Mm (tableOf [(0, 12, 15, 20)]) ⟨0, 12, 19, 13⟩ [] rfl (by intro z hz; simp only [tableOf, List.map_cons, List.map_nil, List.mem_cons, List.not_mem_nil, or_false] at hz; subst hz; exact ⟨by decide, "java/lang/IndexOutOfBoundsException", TB_at 336 (by decide +kernel) rfl, by decide +kernel⟩) rfl (by decide) (TB_at 117 (by decide +kernel) rfl) (NW_at 128 (by decide +kernel) rfl) (fun rq => ?_)
        show V 19 [some (.ref x), some (.int q), some (.int p), some (.int f), some (.ref out), none] [.ref rq] h1 _ _
        refine r_astore Mm dL_y_19 (by decide) ?_
        show V 21 [some (.ref x), some (.int q), some (.int p), some (.int f), some (.ref out), some (.ref rq)] _ _ _ _
        refine r_iconst (v := nI 2) Mm dL_y_21 (by decide) ?_
        refine r_iret M dL_y_22 ?_
        exact ⟨2, rfl, Or.inl ⟨_, e1, by decide +kernel, hE0, aft⟩⟩
    · cases e2
theorem ex_bent (σ : ST) (q p f t : Int32) : oEx ["java/lang/IndexOutOfBoundsException", "java/lang/IllegalArgumentException"] (o_bent σ q p f t) := oEx.sh (by decide +kernel) fun _ => oEx.has (by decide +kernel) fun _ => oEx.inn (by decide +kernel) (oEx.inn (by decide +kernel) (oEx.ret))
set_option maxRecDepth 100000 in
set_option maxHeartbeats 4000000 in
theorem ct_w_bent {g : Gl} {l : Launch} (hfl : l.stackTraces = false) (h : Hp) (x pL sL ha : Nat) (ow : Nat → Nat) (ps ss : List Nat) (σ : ST) (r : RC (gN g 2) ow h x pL sL ha ps ss σ) (hw : WF σ) (out : Nat) (hout : xS h out = some (11, 1)) (q p f t : Int32) : CTW g l iL_bent [(0, 14, 17, 20), (0, 14, 21, 13)] 10 [.ref x, .int q, .int p, .int f, .int t, .ref out] h 1 6 (pWr (gN g 2) ow h x pL sL ha out σ ["java/lang/IndexOutOfBoundsException", "java/lang/IllegalArgumentException"] (o_bent σ q p f t)) := by
  refine ctw_mk hfl (by decide) (Nat.le_of_ble_eq_true rfl) (by intro v hv; simp only [List.mem_cons, List.not_mem_nil, or_false] at hv; rcases hv with rfl | rfl | rfl | rfl | rfl | rfl <;> rfl) (fun V X M => ?_)
  have Mm := M.m
  show V 0 [some (.ref x), some (.int q), some (.int p), some (.int f), some (.int t), some (.ref out), none] [] _ 0 0
  refine r_aload Mm dL_bent_0 rfl ?_
  refine r_iconst (v := nI 0) Mm dL_bent_2 (by decide) ?_
  refine r_aload_n Mm dL_bent_3 rfl ?_
  refine r_iload_n Mm dL_bent_4 rfl ?_
  refine r_iload_n Mm dL_bent_5 rfl ?_
  refine r_iload_n Mm dL_bent_6 rfl ?_
  refine r_iload Mm dL_bent_7 rfl ?_
  refine r_callV (As := [(.int q), (.int p), (.int f), (.int t)]) Mm dL_bent_9 rfl (ct_o_bent hfl h x pL sL ha ow ps ss σ r hw q p f t) (r.1.1) rfl cw_L_69 ⟨Nat.le_of_ble_eq_true rfl, Nat.le_of_ble_eq_true rfl, Nat.le_of_ble_eq_true rfl⟩ (Nat.le_of_ble_eq_true rfl) ⟨Nat.le_of_ble_eq_true rfl, Nat.le_of_ble_eq_true rfl⟩ (fun r1 h1 p1 => ?_) (fun E1 h1 p1 => ?_)
  · rcases p1 with ⟨E0, -, e2, -⟩ | ⟨v, σ1, e1, e2, aft⟩
    · cases e2
    · cases e2
      have hso := aft.sh hout
      show V 12 [some (.ref x), some (.int q), some (.int p), some (.int f), some (.int t), some (.ref out), none] [(.int v), (.int (nI 0)), (.ref out)] h1 _ _
      refine r_i2l Mm dL_bent_12 ?_
      refine r_lastN Mm dL_bent_13 (hso) (by omega) (by omega) ?_
      refine r_goto (tgt := 25) Mm dL_bent_14 (by decide) ?_
      refine r_iconst (v := nI 0) Mm dL_bent_25 (by decide) ?_
      refine r_iret M dL_bent_26 ?_
      exact ⟨0, rfl, Or.inr ⟨_, σ1, h1, e1, rfl, aft, rfl⟩⟩
  · rcases p1 with ⟨E0, e1, e2, aft⟩ | ⟨v, σ1, -, e2, -⟩
    · cases e2
      have hE := ex_bent σ q p f t _ e1
      have hE0 := hE
      simp only [List.mem_cons, List.not_mem_nil, or_false] at hE
      rcases hE with rfl | rfl
      · refine x_catch (name := "java/lang/IndexOutOfBoundsException") Mm [] ⟨0, 14, 17, 20⟩ (tableOf [(0, 14, 21, 13)]) rfl (fun z hz => absurd hz List.not_mem_nil) rfl (by decide) (TB_at 336 (by decide +kernel) rfl) (NW_at 347 (by decide +kernel) rfl) (fun rq => ?_)
        show V 17 [some (.ref x), some (.int q), some (.int p), some (.int f), some (.int t), some (.ref out), none] [.ref rq] h1 _ _
        refine r_astore Mm dL_bent_17 (by decide) ?_
        show V 19 [some (.ref x), some (.int q), some (.int p), some (.int f), some (.int t), some (.ref out), some (.ref rq)] _ _ _ _
        refine r_iconst (v := nI 1) Mm dL_bent_19 (by decide) ?_
        refine r_iret M dL_bent_20 ?_
        exact ⟨1, rfl, Or.inl ⟨_, e1, by decide +kernel, hE0, aft⟩⟩
      · refine x_catch (name := "java/lang/IllegalArgumentException") Mm (tableOf [(0, 14, 17, 20)]) ⟨0, 14, 21, 13⟩ [] rfl (by intro z hz; simp only [tableOf, List.map_cons, List.map_nil, List.mem_cons, List.not_mem_nil, or_false] at hz; subst hz; exact ⟨by decide, "java/lang/IndexOutOfBoundsException", TB_at 336 (by decide +kernel) rfl, by decide +kernel⟩) rfl (by decide) (TB_at 117 (by decide +kernel) rfl) (NW_at 128 (by decide +kernel) rfl) (fun rq => ?_)
        show V 21 [some (.ref x), some (.int q), some (.int p), some (.int f), some (.int t), some (.ref out), none] [.ref rq] h1 _ _
        refine r_astore Mm dL_bent_21 (by decide) ?_
        show V 23 [some (.ref x), some (.int q), some (.int p), some (.int f), some (.int t), some (.ref out), some (.ref rq)] _ _ _ _
        refine r_iconst (v := nI 2) Mm dL_bent_23 (by decide) ?_
        refine r_iret M dL_bent_24 ?_
        exact ⟨2, rfl, Or.inl ⟨_, e1, by decide +kernel, hE0, aft⟩⟩
    · cases e2
theorem ex_least (σ : ST) (p : Int32) : oEx ["java/lang/IndexOutOfBoundsException"] (o_least σ p) := oEx.pu (by decide +kernel) fun _ => oEx.ret
set_option maxRecDepth 100000 in
set_option maxHeartbeats 4000000 in
theorem ct_w_least {g : Gl} {l : Launch} (hfl : l.stackTraces = false) (h : Hp) (x pL sL ha : Nat) (ow : Nat → Nat) (ps ss : List Nat) (σ : ST) (r : RC (gN g 2) ow h x pL sL ha ps ss σ) (hw : WF σ) (out : Nat) (hout : xS h out = some (11, 1)) (p : Int32) : CTW g l iL_least [(0, 9, 12, 20)] 9 [.ref x, .int p, .ref out] h 1 6 (pWr (gN g 2) ow h x pL sL ha out σ ["java/lang/IndexOutOfBoundsException"] (o_least σ p)) := by
  refine ctw_mk hfl (by decide) (Nat.le_of_ble_eq_true rfl) (by intro v hv; simp only [List.mem_cons, List.not_mem_nil, or_false] at hv; rcases hv with rfl | rfl | rfl <;> rfl) (fun V X M => ?_)
  have Mm := M.m
  show V 0 [some (.ref x), some (.int p), some (.ref out), none] [] _ 0 0
  refine r_aload_n Mm dL_least_0 rfl ?_
  refine r_iconst (v := nI 0) Mm dL_least_1 (by decide) ?_
  refine r_aload_n Mm dL_least_2 rfl ?_
  refine r_iload_n Mm dL_least_3 rfl ?_
  refine r_callV (As := [(.int p)]) Mm dL_least_4 rfl (ct_o_least hfl h x pL sL ha ow ps ss σ r hw p) (r.1.1) rfl cw_L_73 ⟨Nat.le_of_ble_eq_true rfl, Nat.le_of_ble_eq_true rfl, Nat.le_of_ble_eq_true rfl⟩ (Nat.le_of_ble_eq_true rfl) ⟨Nat.le_of_ble_eq_true rfl, Nat.le_of_ble_eq_true rfl⟩ (fun r1 h1 p1 => ?_) (fun E1 h1 p1 => ?_)
  · rcases p1 with ⟨E0, -, e2, -⟩ | ⟨v, σ1, e1, e2, aft⟩
    · cases e2
    · cases e2
      have hso := aft.sh hout
      show V 7 [some (.ref x), some (.int p), some (.ref out), none] [(.int v), (.int (nI 0)), (.ref out)] h1 _ _
      refine r_i2l Mm dL_least_7 ?_
      refine r_lastN Mm dL_least_8 (hso) (by omega) (by omega) ?_
      refine r_goto (tgt := 15) Mm dL_least_9 (by decide) ?_
      refine r_iconst (v := nI 0) Mm dL_least_15 (by decide) ?_
      refine r_iret M dL_least_16 ?_
      exact ⟨0, rfl, Or.inr ⟨_, σ1, h1, e1, rfl, aft, rfl⟩⟩
  · rcases p1 with ⟨E0, e1, e2, aft⟩ | ⟨v, σ1, -, e2, -⟩
    · cases e2
      have hE := ex_least σ p _ e1
      have hE0 := hE
      simp only [List.mem_cons, List.not_mem_nil, or_false] at hE
      subst hE
      refine x_catch (name := "java/lang/IndexOutOfBoundsException") Mm [] ⟨0, 9, 12, 20⟩ [] rfl (fun z hz => absurd hz List.not_mem_nil) rfl (by decide) (TB_at 336 (by decide +kernel) rfl) (NW_at 347 (by decide +kernel) rfl) (fun rq => ?_)
      show V 12 [some (.ref x), some (.int p), some (.ref out), none] [.ref rq] h1 _ _
      refine r_astore_n Mm dL_least_12 (by decide) ?_
      show V 13 [some (.ref x), some (.int p), some (.ref out), some (.ref rq)] _ _ _ _
      refine r_iconst (v := nI 1) Mm dL_least_13 (by decide) ?_
      refine r_iret M dL_least_14 ?_
      exact ⟨1, rfl, Or.inl ⟨_, e1, by decide +kernel, hE0, aft⟩⟩
    · cases e2
theorem ex_isBusy (σ : ST) (p w : Int32) : oEx ["java/lang/IndexOutOfBoundsException", "java/lang/IllegalArgumentException"] (o_isBusy σ p w) := oEx.pu (by decide +kernel) fun _ => oEx.inn (by decide +kernel) (oEx.ret)
set_option maxRecDepth 100000 in
set_option maxHeartbeats 4000000 in
theorem ct_w_isBusy {g : Gl} {l : Launch} (hfl : l.stackTraces = false) (h : Hp) (x pL sL ha : Nat) (ow : Nat → Nat) (ps ss : List Nat) (σ : ST) (r : RC (gN g 2) ow h x pL sL ha ps ss σ) (hw : WF σ) (out : Nat) (hout : xS h out = some (11, 1)) (p w : Int32) : CTW g l iL_isBusy [(0, 17, 20, 20), (0, 17, 24, 13)] 9 [.ref x, .int p, .int w, .ref out] h 1 6 (pWr (gN g 2) ow h x pL sL ha out σ ["java/lang/IndexOutOfBoundsException", "java/lang/IllegalArgumentException"] (o_isBusy σ p w)) := by
  refine ctw_mk hfl (by decide) (Nat.le_of_ble_eq_true rfl) (by intro v hv; simp only [List.mem_cons, List.not_mem_nil, or_false] at hv; rcases hv with rfl | rfl | rfl | rfl <;> rfl) (fun V X M => ?_)
  have Mm := M.m
  show V 0 [some (.ref x), some (.int p), some (.int w), some (.ref out), none] [] _ 0 0
  refine r_aload_n Mm dL_isBusy_0 rfl ?_
  refine r_iconst (v := nI 0) Mm dL_isBusy_1 (by decide) ?_
  refine r_aload_n Mm dL_isBusy_2 rfl ?_
  refine r_iload_n Mm dL_isBusy_3 rfl ?_
  refine r_iload_n Mm dL_isBusy_4 rfl ?_
  refine r_callV (As := [(.int p), (.int w)]) Mm dL_isBusy_5 rfl (ct_o_isBusy hfl h x pL sL ha ow ps ss σ r hw p w) (r.1.1) rfl cw_L_76 ⟨Nat.le_of_ble_eq_true rfl, Nat.le_of_ble_eq_true rfl, Nat.le_of_ble_eq_true rfl⟩ (Nat.le_of_ble_eq_true rfl) ⟨Nat.le_of_ble_eq_true rfl, Nat.le_of_ble_eq_true rfl⟩ (fun r1 h1 p1 => ?_) (fun E1 h1 p1 => ?_)
  · rcases p1 with ⟨E0, -, e2, -⟩ | ⟨v, σ1, e1, e2, aft⟩
    · cases e2
    · cases e2
      have hso := aft.sh hout
      rcases busy_01 e1 with rfl | rfl
      · show V 8 [some (.ref x), some (.int p), some (.int w), some (.ref out), none] [(.int (nI 0)), (.int (nI 0)), (.ref out)] h1 _ _
        refine r_if_eq (tgt := 15) Mm dL_isBusy_8 (by decide) (fun _ => ?_) (fun c1 => absurd (by decide) c1)
        refine r_lconst (v := 0) Mm dL_isBusy_15 (by decide) ?_
        refine r_lastN Mm dL_isBusy_16 (hso) (by omega) (by omega) ?_
        refine r_goto (tgt := 28) Mm dL_isBusy_17 (by decide) ?_
        refine r_iconst (v := nI 0) Mm dL_isBusy_28 (by decide) ?_
        refine r_iret M dL_isBusy_29 ?_
        exact ⟨0, rfl, Or.inr ⟨_, σ1, h1, e1, rfl, aft, congrArg (yL h1 out 0) (by decide)⟩⟩
      · show V 8 [some (.ref x), some (.int p), some (.int w), some (.ref out), none] [(.int (nI 1)), (.int (nI 0)), (.ref out)] h1 _ _
        refine r_if_eq (tgt := 15) Mm dL_isBusy_8 (by decide) (fun c2 => absurd c2 (by decide)) (fun _ => ?_)
        refine r_lconst (v := 1) Mm dL_isBusy_11 (by decide) ?_
        refine r_goto (tgt := 16) Mm dL_isBusy_12 (by decide) ?_
        refine r_lastN Mm dL_isBusy_16 (hso) (by omega) (by omega) ?_
        refine r_goto (tgt := 28) Mm dL_isBusy_17 (by decide) ?_
        refine r_iconst (v := nI 0) Mm dL_isBusy_28 (by decide) ?_
        refine r_iret M dL_isBusy_29 ?_
        exact ⟨0, rfl, Or.inr ⟨_, σ1, h1, e1, rfl, aft, congrArg (yL h1 out 0) (by decide)⟩⟩
  · rcases p1 with ⟨E0, e1, e2, aft⟩ | ⟨v, σ1, -, e2, -⟩
    · cases e2
      have hE := ex_isBusy σ p w _ e1
      have hE0 := hE
      simp only [List.mem_cons, List.not_mem_nil, or_false] at hE
      rcases hE with rfl | rfl
      · refine x_catch (name := "java/lang/IndexOutOfBoundsException") Mm [] ⟨0, 17, 20, 20⟩ (tableOf [(0, 17, 24, 13)]) rfl (fun z hz => absurd hz List.not_mem_nil) rfl (by decide) (TB_at 336 (by decide +kernel) rfl) (NW_at 347 (by decide +kernel) rfl) (fun rq => ?_)
        show V 20 [some (.ref x), some (.int p), some (.int w), some (.ref out), none] [.ref rq] h1 _ _
        refine r_astore Mm dL_isBusy_20 (by decide) ?_
        show V 22 [some (.ref x), some (.int p), some (.int w), some (.ref out), some (.ref rq)] _ _ _ _
        refine r_iconst (v := nI 1) Mm dL_isBusy_22 (by decide) ?_
        refine r_iret M dL_isBusy_23 ?_
        exact ⟨1, rfl, Or.inl ⟨_, e1, by decide +kernel, hE0, aft⟩⟩
      · refine x_catch (name := "java/lang/IllegalArgumentException") Mm (tableOf [(0, 17, 20, 20)]) ⟨0, 17, 24, 13⟩ [] rfl (by intro z hz; simp only [tableOf, List.map_cons, List.map_nil, List.mem_cons, List.not_mem_nil, or_false] at hz; subst hz; exact ⟨by decide, "java/lang/IndexOutOfBoundsException", TB_at 336 (by decide +kernel) rfl, by decide +kernel⟩) rfl (by decide) (TB_at 117 (by decide +kernel) rfl) (NW_at 128 (by decide +kernel) rfl) (fun rq => ?_)
        show V 24 [some (.ref x), some (.int p), some (.int w), some (.ref out), none] [.ref rq] h1 _ _
        refine r_astore Mm dL_isBusy_24 (by decide) ?_
        show V 26 [some (.ref x), some (.int p), some (.int w), some (.ref out), some (.ref rq)] _ _ _ _
        refine r_iconst (v := nI 2) Mm dL_isBusy_26 (by decide) ?_
        refine r_iret M dL_isBusy_27 ?_
        exact ⟨2, rfl, Or.inl ⟨_, e1, by decide +kernel, hE0, aft⟩⟩
    · cases e2
theorem ex_worn (σ : ST) (p : Int32) : oEx ["java/lang/IndexOutOfBoundsException"] (o_worn σ p) := oEx.pu (by decide +kernel) fun _ => oEx.ret
set_option maxRecDepth 100000 in
set_option maxHeartbeats 4000000 in
theorem ct_w_worn {g : Gl} {l : Launch} (hfl : l.stackTraces = false) (h : Hp) (x pL sL ha : Nat) (ow : Nat → Nat) (ps ss : List Nat) (σ : ST) (r : RC (gN g 2) ow h x pL sL ha ps ss σ) (hw : WF σ) (out : Nat) (hout : xS h out = some (11, 1)) (p : Int32) : CTW g l iL_worn [(0, 9, 12, 20)] 9 [.ref x, .int p, .ref out] h 1 6 (pWr (gN g 2) ow h x pL sL ha out σ ["java/lang/IndexOutOfBoundsException"] (o_worn σ p)) := by
  refine ctw_mk hfl (by decide) (Nat.le_of_ble_eq_true rfl) (by intro v hv; simp only [List.mem_cons, List.not_mem_nil, or_false] at hv; rcases hv with rfl | rfl | rfl <;> rfl) (fun V X M => ?_)
  have Mm := M.m
  show V 0 [some (.ref x), some (.int p), some (.ref out), none] [] _ 0 0
  refine r_aload_n Mm dL_worn_0 rfl ?_
  refine r_iconst (v := nI 0) Mm dL_worn_1 (by decide) ?_
  refine r_aload_n Mm dL_worn_2 rfl ?_
  refine r_iload_n Mm dL_worn_3 rfl ?_
  refine r_callV (As := [(.int p)]) Mm dL_worn_4 rfl (ct_o_worn hfl h x pL sL ha ow ps ss σ r hw p) (r.1.1) rfl cw_L_80 ⟨Nat.le_of_ble_eq_true rfl, Nat.le_of_ble_eq_true rfl, Nat.le_of_ble_eq_true rfl⟩ (Nat.le_of_ble_eq_true rfl) ⟨Nat.le_of_ble_eq_true rfl, Nat.le_of_ble_eq_true rfl⟩ (fun r1 h1 p1 => ?_) (fun E1 h1 p1 => ?_)
  · rcases p1 with ⟨E0, -, e2, -⟩ | ⟨v, σ1, e1, e2, aft⟩
    · cases e2
    · cases e2
      have hso := aft.sh hout
      show V 7 [some (.ref x), some (.int p), some (.ref out), none] [(.int v), (.int (nI 0)), (.ref out)] h1 _ _
      refine r_i2l Mm dL_worn_7 ?_
      refine r_lastN Mm dL_worn_8 (hso) (by omega) (by omega) ?_
      refine r_goto (tgt := 15) Mm dL_worn_9 (by decide) ?_
      refine r_iconst (v := nI 0) Mm dL_worn_15 (by decide) ?_
      refine r_iret M dL_worn_16 ?_
      exact ⟨0, rfl, Or.inr ⟨_, σ1, h1, e1, rfl, aft, rfl⟩⟩
  · rcases p1 with ⟨E0, e1, e2, aft⟩ | ⟨v, σ1, -, e2, -⟩
    · cases e2
      have hE := ex_worn σ p _ e1
      have hE0 := hE
      simp only [List.mem_cons, List.not_mem_nil, or_false] at hE
      subst hE
      refine x_catch (name := "java/lang/IndexOutOfBoundsException") Mm [] ⟨0, 9, 12, 20⟩ [] rfl (fun z hz => absurd hz List.not_mem_nil) rfl (by decide) (TB_at 336 (by decide +kernel) rfl) (NW_at 347 (by decide +kernel) rfl) (fun rq => ?_)
      show V 12 [some (.ref x), some (.int p), some (.ref out), none] [.ref rq] h1 _ _
      refine r_astore_n Mm dL_worn_12 (by decide) ?_
      show V 13 [some (.ref x), some (.int p), some (.ref out), some (.ref rq)] _ _ _ _
      refine r_iconst (v := nI 1) Mm dL_worn_13 (by decide) ?_
      refine r_iret M dL_worn_14 ?_
      exact ⟨1, rfl, Or.inl ⟨_, e1, by decide +kernel, hE0, aft⟩⟩
    · cases e2
