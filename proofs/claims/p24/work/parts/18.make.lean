/-! ===== the calls that make something ===== -/
section Grow
variable {E : Nat} {ow ow' : Nat → Nat} {h h' : Hp} {x pL sL ha : Nat} {ps ss : List Nat} {σ : ST}
theorem RC.grow (r : RC E ow h x pL sL ha ps ss σ) (k : Kp (fun _ => True) ow ow' h h') (hE : xS h' E = none) : RC E ow' h' x pL sL ha ps ss σ := by
  obtain ⟨⟨a1, a2, a3, a4, a5⟩, ⟨b1, b2, b3, b4⟩, zp, zs, ⟨d1, d2⟩, ⟨e1, e2, e3, e4, e5, e6⟩, f1⟩ := r
  exact ⟨⟨k.S a1, by rw [k.P a1 trivial, a2], by rw [k.P a1 trivial, a3], by rw [k.P a1 trivial, a4], k.S a5⟩, ⟨b1.kp k trivial (LD.TT (T := fun _ => True) e5 trivial) f1, b2.kp k trivial (LD.TT (T := fun _ => True) e6 trivial) f1, b3, b4⟩, fun q b hb => (zp q b hb).kp k f1 (fun _ _ => trivial), fun j s hs => (zs j s hs).kp k (fun _ _ => trivial), ⟨fun s => by rw [k.A a5 trivial, d1], by rw [k.F a1 trivial, d2]⟩, ⟨by rw [k.O a1, e1], by rw [k.O b1.1, e2], by rw [k.O b2.1, e3], by rw [k.O a5, e4], LD.kp k b1.1 trivial e5, LD.kp k b2.1 trivial e6⟩, hE⟩
theorem Kp.new {q t : Nat} (f : Fr (fun b => b = q) h h') (hq : xS h q = none) : Kp (fun _ => True) ow (upt ow q t) h h' := Kp.of f (fun b z hz => upt_n _ _ (fun e => by rw [e, hq] at hz; cases hz)) (fun b z hz _ e => by rw [e, hq] at hz; cases hz)
theorem Aft.grow (r : RC E ow h x pL sL ha ps ss σ) (k : Kp (fun _ => True) ow ow' h h') (hE : xS h' E = none) : Aft E ow h x pL sL ha σ h' := ⟨ow', ps, ss, r.grow k hE, fun b z hz => k.O hz, Ext.kp k trivial⟩
theorem xFN {q kd n b i : Nat} {z : Nat × Nat} {v : Int32} (hq : xS h q = none) (hz : xS h b = some z) (p : xF h i b = v) : xF (yN h q kd n) i b = v := by
  rw [zxF_yN, if_neg (ne_of_S hz hq)]; exact p
theorem qF {i a j b : Nat} {v w : Int32} (hn : j ≠ i) (p : xF h j b = w) : xF (yF h i a v) j b = w := by
  rw [zxF_yF, if_neg (fun z => hn z.1)]; exact p
theorem qF_s {i a : Nat} {v : Int32} : xF (yF h i a v) i a = v := u2_s _ _ _ _
theorem qP {i a j b : Nat} {v : Option Nat} {w : Int32} (p : xF h j b = w) : xF (yP h i a v) j b = w := p
/-- a list of tag tL with its data of tag tD, written -/
theorem LiP.kp {L tL tD : Nat} {xs' : List Nat} {z : Nat × Nat} (hl : LiP E h L h' xs') (hd : LD E ow h L tD) (hE : xS h E = none) (hs : xS h L = some z) (oL : ow L = tL) : ∃ ow3 : Nat → Nat, Kp (fun t => t ≠ tL ∧ t ≠ tD) ow ow3 h h' ∧ LD E ow3 h' L tD := by
  obtain ⟨l1, l2, l3⟩ := hl
  have hw : ∀ b z, xS h b = some z → (ow b ≠ tL ∧ ow b ≠ tD) → ¬ (b = L ∨ xP h 701 L = some b) := fun b z hz ht e => by
    rcases e with rfl | e
    · exact ht.1 oL
    · rcases hd b e with rfl | ⟨e1, -⟩
      · rw [hE] at hz; cases hz
      · exact ht.2 e1
  rcases l3 with e | ⟨q, e1, e2⟩
  · refine ⟨ow, Kp.of l2 (fun _ _ _ => rfl) hw, fun D hD => ?_⟩
    rw [e] at hD
    rcases hd D hD with e | ⟨e1, e2⟩
    · exact Or.inl e
    · cases hs : xS h D with
      | none => exact absurd hs e2
      | some w => exact Or.inr ⟨e1, by rw [l2.S hs]; exact fun z => nomatch z⟩
  · refine ⟨upt ow q tD, Kp.of l2 (fun b z hz => upt_n _ _ (fun e => by rw [e, e2] at hz; cases hz)) hw, fun D hD => ?_⟩
    rw [e1] at hD; cases hD
    obtain ⟨-, -, -, -, h5⟩ := l1
    rcases h5 with ⟨-, h6⟩ | ⟨D, n, h6, h7, -⟩
    · rw [e1] at h6; cases h6; exact Or.inl rfl
    · rw [e1] at h6; cases h6
      exact Or.inr ⟨upt_s _ _ _, by rw [h7]; exact fun z => nomatch z⟩
theorem PupAt.mend {i a ma q : Nat} {p : PS} {ms : List Nat} {w : Int32 × Int32} (hp : PupAt E ow h i a p) (hma : xP h 205 a = some ma) (hms : IsL E h ma ms) (h5 : ms.map (sv h) = qMend p) (h6 : ∀ m ∈ ms, xS h m = some (4, 0) ∧ ow m = 7) (hl : LiP E h ma h' (ms ++ [q])) (hq : xS h q = some (4, 0)) (oq : ow q = 7) (hw : sv h q = w) (hE : xS h E = none) : ∃ ow3 : Nat → Nat, Kp (fun t => t ≠ 102 + 8 * i ∧ t ≠ 105 + 8 * i) ow ow3 h h' ∧ PupAt E ow3 h' i a (p.1, p.2.1, p.2.2.1, p.2.2.2.1, p.2.2.2.2.1, qMend p ++ [w]) := by
  obtain ⟨ka, ma', pl, xs, ms', ⟨hs, hka, hma', hpl, hsp, hLk, hLm, hxk, hxm⟩, f0, f1, f2, f3, f4, f5, ⟨o1, o2, o3, o4⟩, d1, d2, o5, o6⟩ := hp
  rw [hma] at hma'; cases hma'
  obtain ⟨ow3, k, ld⟩ := hl.kp d2 hE hLm.1 o3
  refine ⟨ow3, k, ka, ma, pl, xs, ms ++ [q], ⟨k.S hs, ?_, ?_, ?_, k.S hsp, hLk.kp k ?_ (LD.TT (T := fun t => t ≠ 102 + 8 * i ∧ t ≠ 105 + 8 * i) d1 ?_) hE, hl.1, fun v hv => k.S (hxk v hv), fun v hv => ?_⟩, ?_, ?_, ?_, ?_, ?_, ?_, ⟨by rw [k.O hs, o1], by rw [k.O hLk.1, o2], by rw [k.O hLm.1, o3], by rw [k.O hsp, o4]⟩, LD.kp k hLk.1 ?_ d1, ld, fun v hv => by rw [k.O (hxk v hv), o5 v hv], fun v hv => ?_⟩
  · rw [k.P hs (by rw [o1]; omega), hka]
  · rw [k.P hs (by rw [o1]; omega), hma]
  · rw [k.P hs (by rw [o1]; omega), hpl]
  · rw [o2]; omega
  · show _ ∧ _; omega
  · rcases List.mem_append.mp hv with c | c
    · exact k.S (h6 v c).1
    · rw [List.mem_singleton.mp c]; exact k.S hq
  · rw [k.F hs (by rw [o1]; omega), f0]
  · rw [k.F hs (by rw [o1]; omega), f1]
  · rw [ksOf.kp k hxk (fun v hv => by rw [o5 v hv]; omega), f2]
  · rw [k.F hs (by rw [o1]; omega), f3]
  · rw [k.F hs (by rw [o1]; omega), f4]
  · show (ms ++ [q]).map (sv h') = qMend p ++ [w]
    rw [List.map_append, ← h5, ← hw, ← sv.kp k hq (by rw [oq]; omega)]
    rw [show ms.map (sv h') = ms.map (sv h) from List.map_congr_left (fun v hv => sv.kp k (h6 v hv).1 (by rw [(h6 v hv).2]; omega))]
    rfl
  · rw [o2]; omega
  · rcases List.mem_append.mp hv with c | c
    · rw [k.O (h6 v c).1, (h6 v c).2]
    · rw [List.mem_singleton.mp c, k.O hq, oq]
theorem PupAt.keys {i a ka : Nat} {p : PS} {xs' : List Nat} (hp : PupAt E ow h i a p) (hka : xP h 202 a = some ka) (h6 : ∀ v ∈ xs', xS h v = some (0, 0) ∧ ow v = 7) (hl : LiP E h ka h' xs') (hE : xS h E = none) : ∃ ow3 : Nat → Nat, Kp (fun t => t ≠ 101 + 8 * i ∧ t ≠ 104 + 8 * i) ow ow3 h h' ∧ PupAt E ow3 h' i a (p.1, p.2.1, ksOf h xs', p.2.2.2) := by
  obtain ⟨ka', ma, pl, xs, ms, ⟨hs, hka', hma, hpl, hsp, hLk, hLm, hxk, hxm⟩, f0, f1, f2, f3, f4, f5, ⟨o1, o2, o3, o4⟩, d1, d2, o5, o6⟩ := hp
  rw [hka] at hka'; cases hka'
  obtain ⟨ow3, k, ld⟩ := hl.kp d1 hE hLk.1 o2
  refine ⟨ow3, k, ka, ma, pl, xs', ms, ⟨k.S hs, ?_, ?_, ?_, k.S hsp, hl.1, hLm.kp k ?_ (LD.TT (T := fun t => t ≠ 101 + 8 * i ∧ t ≠ 104 + 8 * i) d2 ?_) hE, fun v hv => k.S (h6 v hv).1, fun v hv => k.S (hxm v hv)⟩, ?_, ?_, ?_, ?_, ?_, ?_, ⟨by rw [k.O hs, o1], by rw [k.O hLk.1, o2], by rw [k.O hLm.1, o3], by rw [k.O hsp, o4]⟩, ld, LD.kp k hLm.1 ?_ d2, fun v hv => by rw [k.O (h6 v hv).1, (h6 v hv).2], fun v hv => by rw [k.O (hxm v hv), o6 v hv]⟩
  · rw [k.P hs (by rw [o1]; omega), hka]
  · rw [k.P hs (by rw [o1]; omega), hma]
  · rw [k.P hs (by rw [o1]; omega), hpl]
  · rw [o3]; omega
  · show _ ∧ _; omega
  · rw [k.F hs (by rw [o1]; omega), f0]
  · rw [k.F hs (by rw [o1]; omega), f1]
  · exact ksOf.kp k (fun v hv => (h6 v hv).1) (fun v hv => by rw [(h6 v hv).2]; omega)
  · rw [k.F hs (by rw [o1]; omega), f3]
  · rw [k.F hs (by rw [o1]; omega), f4]
  · rw [← f5]; exact List.map_congr_left (fun v hv => sv.kp k (hxm v hv) (by rw [o6 v hv]; omega))
  · rw [o3]; omega
theorem Kp.tr {T : Nat → Prop} {ow2 : Nat → Nat} {h2 : Hp} (a : Kp (fun _ => True) ow ow' h h') (b : Kp T ow' ow2 h' h2) : Kp T ow ow2 h h2 := fun c z hz => by
  obtain ⟨a1, a2, a3⟩ := a c z hz
  obtain ⟨b1, b2, b3⟩ := b c z a2
  refine ⟨b1.trans a1, b2, fun t => ?_⟩
  obtain ⟨u1, u2, u3, u4, u5⟩ := a3 trivial
  obtain ⟨v1, v2, v3, v4, v5⟩ := b3 (by rw [a1]; exact t)
  exact ⟨fun i => (v1 i).trans (u1 i), fun i => (v2 i).trans (u2 i), v3.trans u3, v4.trans u4, v5.trans u5⟩
theorem Kp.wk {T T' : Nat → Prop} (a : Kp T ow ow' h h') (hT : ∀ t, T' t → T t) : Kp T' ow ow' h h' := fun c z hz => ⟨(a c z hz).1, (a c z hz).2.1, fun t => (a c z hz).2.2 (hT _ t)⟩
theorem Kp.tr2 {T : Nat → Prop} {ow2 : Nat → Nat} {h2 : Hp} (a : Kp T ow ow' h h') (b : Kp T ow' ow2 h' h2) : Kp T ow ow2 h h2 := fun c z hz => by
  obtain ⟨a1, a2, a3⟩ := a c z hz
  obtain ⟨b1, b2, b3⟩ := b c z a2
  refine ⟨b1.trans a1, b2, fun t => ?_⟩
  obtain ⟨u1, u2, u3, u4, u5⟩ := a3 t
  obtain ⟨v1, v2, v3, v4, v5⟩ := b3 (by rw [a1]; exact t)
  exact ⟨fun i => (v1 i).trans (u1 i), fun i => (v2 i).trans (u2 i), v3.trans u3, v4.trans u4, v5.trans u5⟩
end Grow
theorem IsL.nd {E L q kd n : Nat} {h : Hp} {xs : List Nat} (hL : IsL E h L xs) (hE : xS h E = none) (hq : xS h q = some (kd, n)) (h7 : kd ≠ 7) (h10 : kd ≠ 10) : ¬ (q = L ∨ xP h 701 L = some q) := fun e => by
  obtain ⟨l1, -, -, -, l5⟩ := hL
  rcases e with rfl | e
  · rw [hq] at l1; cases l1; exact h7 rfl
  · rcases l5 with ⟨-, l6⟩ | ⟨D, n, l6, l7, -⟩
    · rw [l6] at e; cases e; rw [hE] at hq; cases hq
    · rw [l6] at e; cases e; rw [l7] at hq; cases hq; exact h10 rfl
theorem isPup.kp {E i a ka ma pl : Nat} {xs ms : List Nat} {ow ow' : Nat → Nat} {h h' : Hp} (k : Kp (fun _ => True) ow ow' h h') (hE : xS h E = none) (g1 : ∀ D, xP h 701 ka = some D → D = E ∨ ow D = 104 + 8 * i ∧ xS h D ≠ none) (g2 : ∀ D, xP h 701 ma = some D → D = E ∨ ow D = 105 + 8 * i ∧ xS h D ≠ none) (hP : isPup E h a ka ma pl xs ms) : isPup E h' a ka ma pl xs ms := by
  obtain ⟨hs, hka, hma, hpl, hsp, hLk, hLm, hxk, hxm⟩ := hP
  exact ⟨k.S hs, by rw [k.P hs trivial, hka], by rw [k.P hs trivial, hma], by rw [k.P hs trivial, hpl], k.S hsp, hLk.kp k trivial (fun D hD => (g1 D hD).imp id (fun z => ⟨trivial, z.2⟩)) hE, hLm.kp k trivial (fun D hD => (g2 D hD).imp id (fun z => ⟨trivial, z.2⟩)) hE, fun v hv => k.S (hxk v hv), fun v hv => k.S (hxm v hv)⟩
def o_isBusy (σ : ST) (p m : Int32) : OR := oPu σ p (fun i => oIn m (nI 0) (nI 200000) (.inr (bI (takenS σ i (m, nI 1)), σ)))
set_option maxRecDepth 100000 in
set_option maxHeartbeats 4000000 in
theorem ct_o_isBusy {g : Gl} {l : Launch} (hfl : l.stackTraces = false) (h : Hp) (x pL sL ha : Nat) (ow : Nat → Nat) (ps ss : List Nat) (σ : ST) (r : RC (gN g 2) ow h x pL sL ha ps ss σ) (hw : WF σ) (p m : Int32) : CT g l iX5_isBusy 8 [.ref x, .int p, .int m] h 1 6 (pOp (gN g 2) ow h x pL sL ha σ (o_isBusy σ p m)) := by
  have r0 := r
  obtain ⟨⟨a1, a2, a3, a4, a5⟩, ⟨b1, b2, b3, b4⟩, zp, zs, ⟨d1, d2⟩, ⟨e1, e2, e3, e4, e5, e6⟩, f1⟩ := r
  have hl1 := b1.2.2.1
  have hl2 := b2.2.2.1
  obtain ⟨w1, w2, w3, w4, w5⟩ := hw
  refine ct_mk hfl (by decide) (Nat.le_of_ble_eq_true rfl) (by intro v hv; simp only [List.mem_cons, List.not_mem_nil, or_false] at hv; rcases hv with rfl | rfl | rfl <;> rfl) (fun V X M => ?_)
  have Mm := M.m
  show V 0 [some (.ref x), some (.int p), some (.int m), none] [] _ 0 0
  refine r_aload_n Mm dX5_isBusy_0 rfl ?_
  refine r_iload_n Mm dX5_isBusy_1 rfl ?_
  by_cases k1 : 0 ≤ p ∧ p < nI (eN σ)
  · obtain ⟨i, hi, rfl⟩ := in_ex k1 (by omega)
    have eci : (nI i).toNatClampNeg = i := nI_clamp (by omega)
    obtain ⟨a, haa⟩ : ∃ v, ps[i]? = some v := ⟨_, List.getElem?_eq_getElem (by omega)⟩
    have hpa := zp _ _ haa
    obtain ⟨ka, ma, pl, xs, ms, hP, f0, f1b, f2, f3, f4, f5, ⟨o1, o2, o3, o4⟩, g1, g2, o5, o6⟩ := hpa
    have hok := w3 i hi
    have hlk : xs.length = (qKeys (eP σ i)).length := by rw [← f2, ksOf_len]
    have hlm : ms.length = (qMend (eP σ i)).length := by rw [← f5, List.length_map]
    have hk12 := hok.2.2.2.1
    have hw99 := hok.2.2.2.2.2.2.1
    have hm10 := hok.2.2.2.2.2.2.2
    refine r_callV (As := [(.int (nI i))]) Mm dX5_isBusy_2 rfl (ct_pupOk hfl h x pL sL ha ow ps ss σ r0 i a haa) (a1) rfl cw_X5_57 ⟨Nat.le_of_ble_eq_true rfl, Nat.le_of_ble_eq_true rfl, Nat.le_of_ble_eq_true rfl⟩ (Nat.le_of_ble_eq_true rfl) ⟨Nat.le_of_ble_eq_true rfl, Nat.le_of_ble_eq_true rfl⟩ (fun r2 h3 p4 => ?_) (fun Er2 h3 p4 => False.elim p4)
    obtain ⟨rfl, rfl⟩ := p4
    show V 5 _ [(.ref a)] _ _ _
    refine r_astore_n Mm dX5_isBusy_5 (by decide) ?_
    show V 6 [some (.ref x), some (.int (nI i)), some (.int m), some (.ref a)] _ _ _ _
    refine r_iload_n Mm dX5_isBusy_6 rfl ?_
    refine r_iconst (v := nI 0) Mm dX5_isBusy_7 (by decide) ?_
    refine r_ldc (v := nI 200000) Mm dX5_isBusy_8 (by rw [show nI 200000 = 200000 from rfl]; exact cc_X5_209) ?_
    by_cases k5 : (nI 0) ≤ m ∧ m ≤ (nI 200000)
    · refine r_callS (As := [(.int m), (.int (nI 0)), (.int (nI 200000))]) Mm dX5_isBusy_10 rfl (ct_needOk hfl h m (nI 0) (nI 200000) k5.1 k5.2) cw_X5_33 ⟨Nat.le_of_ble_eq_true rfl, Nat.le_of_ble_eq_true rfl, Nat.le_of_ble_eq_true rfl⟩ (Nat.le_of_ble_eq_true rfl) ⟨Nat.le_of_ble_eq_true rfl, Nat.le_of_ble_eq_true rfl⟩ (fun r6 h7 p8 => ?_) (fun Er6 h7 p8 => False.elim p8)
      obtain ⟨rfl, rfl⟩ := p8
      show V 13 _ [] _ _ _
      refine r_aload_n Mm dX5_isBusy_13 rfl ?_
      refine r_aload_n Mm dX5_isBusy_14 rfl ?_
      refine r_iload_n Mm dX5_isBusy_15 rfl ?_
      refine r_new Mm dX5_isBusy_16 ki_4 rfl cl_X5_104 nw_4 ni_4 ⟨Nat.le_of_ble_eq_true rfl, Nat.le_of_ble_eq_true rfl⟩ (fun q9 hq9 => ?_)
      have s10 : xS (yN h q9 4 0) x = some (5, 0) := yN_S hq9 (a1)
      have s11 : xS (yN h q9 4 0) ha = some (8, 10) := yN_S hq9 (a5)
      have s12 : xS (yN h q9 4 0) pL = some (7, 0) := yN_S hq9 (b1.1)
      have s13 : xS (yN h q9 4 0) sL = some (7, 0) := yN_S hq9 (b2.1)
      have s14 : xS (yN h q9 4 0) a = some (2, 0) := yN_S hq9 (hP.1)
      have s15 : xS (yN h q9 4 0) pl = some (1, 0) := yN_S hq9 (hP.2.2.2.2.1)
      have s16 : xS (yN h q9 4 0) ka = some (7, 0) := yN_S hq9 (hP.2.2.2.2.2.1.1)
      have s17 : xS (yN h q9 4 0) ma = some (7, 0) := yN_S hq9 (hP.2.2.2.2.2.2.1.1)
      have p18 : xP (yN h q9 4 0) 500 x = some pL := yN_P hq9 (a1) (a2)
      have p19 : xP (yN h q9 4 0) 501 x = some sL := yN_P hq9 (a1) (a3)
      have p20 : xP (yN h q9 4 0) 502 x = some ha := yN_P hq9 (a1) (a4)
      have p21 : xP (yN h q9 4 0) 206 a = some pl := yN_P hq9 (hP.1) (hP.2.2.2.1)
      have p22 : xP (yN h q9 4 0) 202 a = some ka := yN_P hq9 (hP.1) (hP.2.1)
      have p23 : xP (yN h q9 4 0) 205 a = some ma := yN_P hq9 (hP.1) (hP.2.2.1)
      refine r_dup Mm dX5_isBusy_19 rfl ?_
      refine r_iload_n Mm dX5_isBusy_20 rfl ?_
      refine r_iconst (v := nI 1) Mm dX5_isBusy_21 (by decide) ?_
      refine r_callI (As := [(.int m), (.int (nI 1))]) Mm dX5_isBusy_22 rfl (ct_span hfl ((yN h q9 4 0)) q9 m (nI 1) (yN_q)) cw_X5_106 ⟨Nat.le_of_ble_eq_true rfl, Nat.le_of_ble_eq_true rfl, Nat.le_of_ble_eq_true rfl⟩ (Nat.le_of_ble_eq_true rfl) ⟨Nat.le_of_ble_eq_true rfl, Nat.le_of_ble_eq_true rfl⟩ (fun r24 h25 p26 => ?_) (fun _ _ z => z)
      obtain ⟨rfl, rfl⟩ := p26
      have s27 : xS (yF (yF (yN h q9 4 0) 400 q9 m) 401 q9 (nI 1)) x = some (5, 0) := sF (sF (s10))
      have s28 : xS (yF (yF (yN h q9 4 0) 400 q9 m) 401 q9 (nI 1)) ha = some (8, 10) := sF (sF (s11))
      have s29 : xS (yF (yF (yN h q9 4 0) 400 q9 m) 401 q9 (nI 1)) pL = some (7, 0) := sF (sF (s12))
      have s30 : xS (yF (yF (yN h q9 4 0) 400 q9 m) 401 q9 (nI 1)) sL = some (7, 0) := sF (sF (s13))
      have s31 : xS (yF (yF (yN h q9 4 0) 400 q9 m) 401 q9 (nI 1)) a = some (2, 0) := sF (sF (s14))
      have s32 : xS (yF (yF (yN h q9 4 0) 400 q9 m) 401 q9 (nI 1)) pl = some (1, 0) := sF (sF (s15))
      have s33 : xS (yF (yF (yN h q9 4 0) 400 q9 m) 401 q9 (nI 1)) ka = some (7, 0) := sF (sF (s16))
      have s34 : xS (yF (yF (yN h q9 4 0) 400 q9 m) 401 q9 (nI 1)) ma = some (7, 0) := sF (sF (s17))
      have s35 : xS (yF (yF (yN h q9 4 0) 400 q9 m) 401 q9 (nI 1)) q9 = some (4, 0) := sF (sF (yN_q))
      have p36 : xP (yF (yF (yN h q9 4 0) 400 q9 m) 401 q9 (nI 1)) 500 x = some pL := pF (pF (p18))
      have p37 : xP (yF (yF (yN h q9 4 0) 400 q9 m) 401 q9 (nI 1)) 501 x = some sL := pF (pF (p19))
      have p38 : xP (yF (yF (yN h q9 4 0) 400 q9 m) 401 q9 (nI 1)) 502 x = some ha := pF (pF (p20))
      have p39 : xP (yF (yF (yN h q9 4 0) 400 q9 m) 401 q9 (nI 1)) 206 a = some pl := pF (pF (p21))
      have p40 : xP (yF (yF (yN h q9 4 0) 400 q9 m) 401 q9 (nI 1)) 202 a = some ka := pF (pF (p22))
      have p41 : xP (yF (yF (yN h q9 4 0) 400 q9 m) 401 q9 (nI 1)) 205 a = some ma := pF (pF (p23))
      show V 25 _ [(.ref q9), (.int (nI i)), (.ref a), (.ref x)] _ _ _
      refine r_ownE Mm (fun fE => ?_)
      have frq : Fr (fun b => b = q9) h ((yF (yF (yN h q9 4 0) 400 q9 m) 401 q9 (nI 1))) := by
        refine Fr.tr ?_ (Fr.yF (rfl))
        refine Fr.tr ?_ (Fr.yF (rfl))
        refine Fr.tr ?_ (Fr.yN hq9)
        exact Fr.rf
      have kq : Kp (fun _ => True) ow (upt ow q9 7) h ((yF (yF (yN h q9 4 0) 400 q9 m) 401 q9 (nI 1))) := Kp.new frq hq9
      have rg := r0.grow kq fE
      have esv : sv ((yF (yF (yN h q9 4 0) 400 q9 m) 401 q9 (nI 1))) q9 = (m, (nI 1)) := by simp only [sv, zxS_yF, zxF_yF, zxP_yF, zxA_yF, zxB_yF, zxL_yF, zxS_yP, zxF_yP, zxP_yP, zxA_yP, zxB_yP, zxL_yP, zxS_yA, zxF_yA, zxP_yA, zxA_yA, zxB_yA, zxL_yA, zxS_yB, zxF_yB, zxP_yB, zxA_yB, zxB_yB, zxL_yB, zxS_yL, zxF_yL, zxP_yL, zxA_yL, zxB_yL, zxL_yL, zxS_yN, zxF_yN, zxP_yN, zxA_yN, zxB_yN, zxL_yN, Nat.reduceEqDiff, false_and, and_false, true_and, and_true, and_self, ite_false, ite_true, ite_self]
      refine r_callV (As := [(.ref a), (.int (nI i)), (.ref q9)]) Mm dX5_isBusy_25 rfl (ct_taken hfl ((yF (yF (yN h q9 4 0) 400 q9 m) 401 q9 (nI 1))) x pL sL ha (upt ow q9 7) ps ss σ rg i a q9 haa (by omega) (s35)) (s27) rfl cw_X5_130 ⟨Nat.le_of_ble_eq_true rfl, Nat.le_of_ble_eq_true rfl, Nat.le_of_ble_eq_true rfl⟩ (Nat.le_of_ble_eq_true rfl) ⟨Nat.le_of_ble_eq_true rfl, Nat.le_of_ble_eq_true rfl⟩ (fun r42 h43 p44 => ?_) (fun Er42 h43 p44 => False.elim p44)
      obtain ⟨rfl, rfl⟩ := p44
      rw [esv]
      show V 28 _ [(.int (bI (takenS σ i (m, (nI 1)))))] _ _ _
      refine r_zret M dX5_isBusy_28 (bI_nar (takenS σ i (m, (nI 1)))) ?_
      exact pOp.ret (by simp only [o_isBusy, oPu_ok k1 eci, oIn_ok k5]) (Aft.grow r0 kq fE)
    · refine r_callS (As := [(.int m), (.int (nI 0)), (.int (nI 200000))]) Mm dX5_isBusy_10 rfl (ct_needBad hfl h m (nI 0) (nI 200000) (not_le2 k5)) cw_X5_33 ⟨Nat.le_of_ble_eq_true rfl, Nat.le_of_ble_eq_true rfl, Nat.le_of_ble_eq_true rfl⟩ (Nat.le_of_ble_eq_true rfl) ⟨Nat.le_of_ble_eq_true rfl, Nat.le_of_ble_eq_true rfl⟩ (fun r45 h46 p47 => False.elim p47) (fun Er45 h46 p47 => ?_)
      obtain ⟨rfl, rfl⟩ := p47
      refine x_out M ?_
      exact pOp.thr (by simp only [o_isBusy, oPu_ok k1 eci, oIn_no k5]) (Aft.rf r0)
  · refine r_callV (As := [(.int p)]) Mm dX5_isBusy_2 rfl (ct_pupBad hfl h x pL sL ha ow ps ss σ r0 p (by rw [b3]; exact not_in k1)) (a1) rfl cw_X5_57 ⟨Nat.le_of_ble_eq_true rfl, Nat.le_of_ble_eq_true rfl, Nat.le_of_ble_eq_true rfl⟩ (Nat.le_of_ble_eq_true rfl) ⟨Nat.le_of_ble_eq_true rfl, Nat.le_of_ble_eq_true rfl⟩ (fun r48 h49 p50 => False.elim p50) (fun Er48 h49 p50 => ?_)
    obtain ⟨rfl, rfl⟩ := p50
    refine x_out M ?_
    exact pOp.thr (by simp only [o_isBusy, oPu_no k1]) (Aft.rf r0)
def o_mend (σ : ST) (p m : Int32) : OR := oPu σ p (fun i => oIn m (nI 0) (nI 100000) (if qWorn (eP σ i) = 0 ∨ 10 ≤ (qMend (eP σ i)).length then .inl "java/lang/IllegalStateException" else if takenS σ i (m, nI (qWorn (eP σ i))) = true then .inl "java/lang/IllegalStateException" else .inr (nI (qWorn (eP σ i)), wP σ i ((eP σ i).1, (eP σ i).2.1, (eP σ i).2.2.1, (eP σ i).2.2.2.1, 0, qMend (eP σ i) ++ [(m, nI (qWorn (eP σ i)))]))))
set_option maxRecDepth 100000 in
set_option maxHeartbeats 4000000 in
theorem ct_o_mend {g : Gl} {l : Launch} (hfl : l.stackTraces = false) (h : Hp) (x pL sL ha : Nat) (ow : Nat → Nat) (ps ss : List Nat) (σ : ST) (r : RC (gN g 2) ow h x pL sL ha ps ss σ) (hw : WF σ) (p m : Int32) : CT g l iX5_mend 8 [.ref x, .int p, .int m] h 4 1520 (pOp (gN g 2) ow h x pL sL ha σ (o_mend σ p m)) := by
  have r0 := r
  obtain ⟨⟨a1, a2, a3, a4, a5⟩, ⟨b1, b2, b3, b4⟩, zp, zs, ⟨d1, d2⟩, ⟨e1, e2, e3, e4, e5, e6⟩, f1⟩ := r
  have hl1 := b1.2.2.1
  have hl2 := b2.2.2.1
  obtain ⟨w1, w2, w3, w4, w5⟩ := hw
  refine ct_mk hfl (by decide) (Nat.le_of_ble_eq_true rfl) (by intro v hv; simp only [List.mem_cons, List.not_mem_nil, or_false] at hv; rcases hv with rfl | rfl | rfl <;> rfl) (fun V X M => ?_)
  have Mm := M.m
  show V 0 [some (.ref x), some (.int p), some (.int m), none, none] [] _ 0 0
  refine r_aload_n Mm dX5_mend_0 rfl ?_
  refine r_iload_n Mm dX5_mend_1 rfl ?_
  by_cases k1 : 0 ≤ p ∧ p < nI (eN σ)
  · obtain ⟨i, hi, rfl⟩ := in_ex k1 (by omega)
    have eci : (nI i).toNatClampNeg = i := nI_clamp (by omega)
    obtain ⟨a, haa⟩ : ∃ v, ps[i]? = some v := ⟨_, List.getElem?_eq_getElem (by omega)⟩
    have hpa := zp _ _ haa
    obtain ⟨ka, ma, pl, xs, ms, hP, f0, f1b, f2, f3, f4, f5, ⟨o1, o2, o3, o4⟩, g1, g2, o5, o6⟩ := hpa
    have hok := w3 i hi
    have hlk : xs.length = (qKeys (eP σ i)).length := by rw [← f2, ksOf_len]
    have hlm : ms.length = (qMend (eP σ i)).length := by rw [← f5, List.length_map]
    have hk12 := hok.2.2.2.1
    have hw99 := hok.2.2.2.2.2.2.1
    have hm10 := hok.2.2.2.2.2.2.2
    refine r_callV (As := [(.int (nI i))]) Mm dX5_mend_2 rfl (ct_pupOk hfl h x pL sL ha ow ps ss σ r0 i a haa) (a1) rfl cw_X5_57 ⟨Nat.le_of_ble_eq_true rfl, Nat.le_of_ble_eq_true rfl, Nat.le_of_ble_eq_true rfl⟩ (Nat.le_of_ble_eq_true rfl) ⟨Nat.le_of_ble_eq_true rfl, Nat.le_of_ble_eq_true rfl⟩ (fun r2 h3 p4 => ?_) (fun Er2 h3 p4 => False.elim p4)
    obtain ⟨rfl, rfl⟩ := p4
    show V 5 _ [(.ref a)] _ _ _
    refine r_astore_n Mm dX5_mend_5 (by decide) ?_
    show V 6 [some (.ref x), some (.int (nI i)), some (.int m), some (.ref a), none] _ _ _ _
    refine r_iload_n Mm dX5_mend_6 rfl ?_
    refine r_iconst (v := nI 0) Mm dX5_mend_7 (by decide) ?_
    refine r_ldc (v := nI 100000) Mm dX5_mend_8 (by rw [show nI 100000 = 100000 from rfl]; exact cc_X5_99) ?_
    by_cases k5 : (nI 0) ≤ m ∧ m ≤ (nI 100000)
    · refine r_callS (As := [(.int m), (.int (nI 0)), (.int (nI 100000))]) Mm dX5_mend_10 rfl (ct_needOk hfl h m (nI 0) (nI 100000) k5.1 k5.2) cw_X5_33 ⟨Nat.le_of_ble_eq_true rfl, Nat.le_of_ble_eq_true rfl, Nat.le_of_ble_eq_true rfl⟩ (Nat.le_of_ble_eq_true rfl) ⟨Nat.le_of_ble_eq_true rfl, Nat.le_of_ble_eq_true rfl⟩ (fun r6 h7 p8 => ?_) (fun Er6 h7 p8 => False.elim p8)
      obtain ⟨rfl, rfl⟩ := p8
      show V 13 _ [] _ _ _
      refine r_aload_n Mm dX5_mend_13 rfl ?_
      refine r_getI Mm dX5_mend_14 fi_X5_123 (hP.1) rfl (i := 204) rfl ?_
      refine r_top _ (nI (qWorn (eP σ i))) (f4) ?_
      refine r_if_eqN (tgt := 32) Mm dX5_mend_17 (by decide) (by omega) (fun c9 => ?_) (fun c9 => ?_)
      · refine r_throw M ti_167 dX5_mend_32 dX5_mend_35 dX5_mend_36 dX5_mend_38 dX5_mend_41 (by decide) (Nat.le_of_ble_eq_true rfl) ⟨Nat.le_of_ble_eq_true rfl, Nat.le_of_ble_eq_true rfl⟩ ?_
        exact pOp.thr (by simp only [o_mend, oPu_ok k1 eci, oIn_ok k5, if_pos (Or.inl c9 : qWorn (eP σ i) = 0 ∨ 10 ≤ (qMend (eP σ i)).length)]) (Aft.rf r0)
      · refine r_aload_n Mm dX5_mend_20 rfl ?_
        refine r_getR Mm dX5_mend_21 fi_X5_164 (hP.1) rfl (i := 205) rfl (hP.2.2.1) ?_
        refine r_callV (As := []) Mm dX5_mend_24 rfl (ct_lsize hfl h ma ms (hP.2.2.2.2.2.2.1)) (hP.2.2.2.2.2.2.1.1) rfl cw_X5_37 ⟨Nat.le_of_ble_eq_true rfl, Nat.le_of_ble_eq_true rfl, Nat.le_of_ble_eq_true rfl⟩ (Nat.le_of_ble_eq_true rfl) ⟨Nat.le_of_ble_eq_true rfl, Nat.le_of_ble_eq_true rfl⟩ (fun r10 h11 p12 => ?_) (fun Er10 h11 p12 => False.elim p12)
        obtain ⟨rfl, rfl⟩ := p12
        show V 27 _ [(.int (nI (ms.length)))] _ _ _
        refine r_bipush (v := nI 10) Mm dX5_mend_27 (by decide) ?_
        refine r_icmp_ltN (tgt := 42) Mm dX5_mend_29 (by decide) (by omega) (by omega) (fun c13 => ?_) (fun c13 => ?_)
        · refine r_new Mm dX5_mend_42 ki_4 rfl cl_X5_104 nw_4 ni_4 ⟨Nat.le_of_ble_eq_true rfl, Nat.le_of_ble_eq_true rfl⟩ (fun q14 hq14 => ?_)
          have s15 : xS (yN h q14 4 0) x = some (5, 0) := yN_S hq14 (a1)
          have s16 : xS (yN h q14 4 0) ha = some (8, 10) := yN_S hq14 (a5)
          have s17 : xS (yN h q14 4 0) pL = some (7, 0) := yN_S hq14 (b1.1)
          have s18 : xS (yN h q14 4 0) sL = some (7, 0) := yN_S hq14 (b2.1)
          have s19 : xS (yN h q14 4 0) a = some (2, 0) := yN_S hq14 (hP.1)
          have s20 : xS (yN h q14 4 0) pl = some (1, 0) := yN_S hq14 (hP.2.2.2.2.1)
          have s21 : xS (yN h q14 4 0) ka = some (7, 0) := yN_S hq14 (hP.2.2.2.2.2.1.1)
          have s22 : xS (yN h q14 4 0) ma = some (7, 0) := yN_S hq14 (hP.2.2.2.2.2.2.1.1)
          have p23 : xP (yN h q14 4 0) 500 x = some pL := yN_P hq14 (a1) (a2)
          have p24 : xP (yN h q14 4 0) 501 x = some sL := yN_P hq14 (a1) (a3)
          have p25 : xP (yN h q14 4 0) 502 x = some ha := yN_P hq14 (a1) (a4)
          have p26 : xP (yN h q14 4 0) 206 a = some pl := yN_P hq14 (hP.1) (hP.2.2.2.1)
          have p27 : xP (yN h q14 4 0) 202 a = some ka := yN_P hq14 (hP.1) (hP.2.1)
          have p28 : xP (yN h q14 4 0) 205 a = some ma := yN_P hq14 (hP.1) (hP.2.2.1)
          refine r_dup Mm dX5_mend_45 rfl ?_
          refine r_iload_n Mm dX5_mend_46 rfl ?_
          refine r_aload_n Mm dX5_mend_47 rfl ?_
          refine r_getI Mm dX5_mend_48 fi_X5_123 (s19) rfl (i := 204) rfl ?_
          refine r_top _ (nI (qWorn (eP σ i))) (xFN hq14 (hP.1) (f4)) ?_
          refine r_callI (As := [(.int m), (.int (nI (qWorn (eP σ i))))]) Mm dX5_mend_51 rfl (ct_span hfl ((yN h q14 4 0)) q14 m (nI (qWorn (eP σ i))) (yN_q)) cw_X5_106 ⟨Nat.le_of_ble_eq_true rfl, Nat.le_of_ble_eq_true rfl, Nat.le_of_ble_eq_true rfl⟩ (Nat.le_of_ble_eq_true rfl) ⟨Nat.le_of_ble_eq_true rfl, Nat.le_of_ble_eq_true rfl⟩ (fun r29 h30 p31 => ?_) (fun _ _ z => z)
          obtain ⟨rfl, rfl⟩ := p31
          have s32 : xS (yF (yF (yN h q14 4 0) 400 q14 m) 401 q14 (nI (qWorn (eP σ i)))) x = some (5, 0) := sF (sF (s15))
          have s33 : xS (yF (yF (yN h q14 4 0) 400 q14 m) 401 q14 (nI (qWorn (eP σ i)))) ha = some (8, 10) := sF (sF (s16))
          have s34 : xS (yF (yF (yN h q14 4 0) 400 q14 m) 401 q14 (nI (qWorn (eP σ i)))) pL = some (7, 0) := sF (sF (s17))
          have s35 : xS (yF (yF (yN h q14 4 0) 400 q14 m) 401 q14 (nI (qWorn (eP σ i)))) sL = some (7, 0) := sF (sF (s18))
          have s36 : xS (yF (yF (yN h q14 4 0) 400 q14 m) 401 q14 (nI (qWorn (eP σ i)))) a = some (2, 0) := sF (sF (s19))
          have s37 : xS (yF (yF (yN h q14 4 0) 400 q14 m) 401 q14 (nI (qWorn (eP σ i)))) pl = some (1, 0) := sF (sF (s20))
          have s38 : xS (yF (yF (yN h q14 4 0) 400 q14 m) 401 q14 (nI (qWorn (eP σ i)))) ka = some (7, 0) := sF (sF (s21))
          have s39 : xS (yF (yF (yN h q14 4 0) 400 q14 m) 401 q14 (nI (qWorn (eP σ i)))) ma = some (7, 0) := sF (sF (s22))
          have s40 : xS (yF (yF (yN h q14 4 0) 400 q14 m) 401 q14 (nI (qWorn (eP σ i)))) q14 = some (4, 0) := sF (sF (yN_q))
          have p41 : xP (yF (yF (yN h q14 4 0) 400 q14 m) 401 q14 (nI (qWorn (eP σ i)))) 500 x = some pL := pF (pF (p23))
          have p42 : xP (yF (yF (yN h q14 4 0) 400 q14 m) 401 q14 (nI (qWorn (eP σ i)))) 501 x = some sL := pF (pF (p24))
          have p43 : xP (yF (yF (yN h q14 4 0) 400 q14 m) 401 q14 (nI (qWorn (eP σ i)))) 502 x = some ha := pF (pF (p25))
          have p44 : xP (yF (yF (yN h q14 4 0) 400 q14 m) 401 q14 (nI (qWorn (eP σ i)))) 206 a = some pl := pF (pF (p26))
          have p45 : xP (yF (yF (yN h q14 4 0) 400 q14 m) 401 q14 (nI (qWorn (eP σ i)))) 202 a = some ka := pF (pF (p27))
          have p46 : xP (yF (yF (yN h q14 4 0) 400 q14 m) 401 q14 (nI (qWorn (eP σ i)))) 205 a = some ma := pF (pF (p28))
          show V 54 _ [(.ref q14)] _ _ _
          refine r_astore Mm dX5_mend_54 (by decide) ?_
          show V 56 [some (.ref x), some (.int (nI i)), some (.int m), some (.ref a), some (.ref q14)] _ _ _ _
          refine r_aload_n Mm dX5_mend_56 rfl ?_
          refine r_aload_n Mm dX5_mend_57 rfl ?_
          refine r_iload_n Mm dX5_mend_58 rfl ?_
          refine r_aload Mm dX5_mend_59 rfl ?_
          refine r_ownE Mm (fun fE => ?_)
          have frq : Fr (fun b => b = q14) h ((yF (yF (yN h q14 4 0) 400 q14 m) 401 q14 (nI (qWorn (eP σ i))))) := by
            refine Fr.tr ?_ (Fr.yF (rfl))
            refine Fr.tr ?_ (Fr.yF (rfl))
            refine Fr.tr ?_ (Fr.yN hq14)
            exact Fr.rf
          have kq : Kp (fun _ => True) ow (upt ow q14 7) h ((yF (yF (yN h q14 4 0) 400 q14 m) 401 q14 (nI (qWorn (eP σ i))))) := Kp.new frq hq14
          have rg := r0.grow kq fE
          have esv : sv ((yF (yF (yN h q14 4 0) 400 q14 m) 401 q14 (nI (qWorn (eP σ i))))) q14 = (m, (nI (qWorn (eP σ i)))) := by simp only [sv, zxS_yF, zxF_yF, zxP_yF, zxA_yF, zxB_yF, zxL_yF, zxS_yP, zxF_yP, zxP_yP, zxA_yP, zxB_yP, zxL_yP, zxS_yA, zxF_yA, zxP_yA, zxA_yA, zxB_yA, zxL_yA, zxS_yB, zxF_yB, zxP_yB, zxA_yB, zxB_yB, zxL_yB, zxS_yL, zxF_yL, zxP_yL, zxA_yL, zxB_yL, zxL_yL, zxS_yN, zxF_yN, zxP_yN, zxA_yN, zxB_yN, zxL_yN, Nat.reduceEqDiff, false_and, and_false, true_and, and_true, and_self, ite_false, ite_true, ite_self]
          refine r_callV (As := [(.ref a), (.int (nI i)), (.ref q14)]) Mm dX5_mend_61 rfl (ct_taken hfl ((yF (yF (yN h q14 4 0) 400 q14 m) 401 q14 (nI (qWorn (eP σ i))))) x pL sL ha (upt ow q14 7) ps ss σ rg i a q14 haa (by omega) (s40)) (s32) rfl cw_X5_130 ⟨Nat.le_of_ble_eq_true rfl, Nat.le_of_ble_eq_true rfl, Nat.le_of_ble_eq_true rfl⟩ (Nat.le_of_ble_eq_true rfl) ⟨Nat.le_of_ble_eq_true rfl, Nat.le_of_ble_eq_true rfl⟩ (fun r47 h48 p49 => ?_) (fun Er47 h48 p49 => False.elim p49)
          obtain ⟨rfl, rfl⟩ := p49
          rw [esv]
          show V 64 _ [(.int (bI (takenS σ i (m, (nI (qWorn (eP σ i)))))))] _ _ _
          refine r_if_eqB (tgt := 77) Mm dX5_mend_64 (by decide) (fun c50 => ?_) (fun c50 => ?_)
          · refine r_aload_n Mm dX5_mend_77 rfl ?_
            refine r_getR Mm dX5_mend_78 fi_X5_164 (s36) rfl (i := 205) rfl (p46) ?_
            refine r_aload Mm dX5_mend_81 rfl ?_
            have hLm2 : IsL (gN g 2) ((yF (yF (yN h q14 4 0) 400 q14 m) 401 q14 (nI (qWorn (eP σ i))))) ma ms := IsL.kp kq hP.2.2.2.2.2.2.1 trivial (fun D hD => (g2 D hD).imp id (fun z => ⟨trivial, z.2⟩)) f1
            refine r_callV (As := [(.ref q14)]) Mm dX5_mend_83 rfl (ct_add hfl ((yF (yF (yN h q14 4 0) 400 q14 m) 401 q14 (nI (qWorn (eP σ i))))) ma q14 ms hLm2 (by omega) ⟨4, 0, _, s40, rfl, ca_4⟩) (s39) rfl cw_X5_53 ⟨Nat.le_of_ble_eq_true rfl, Nat.le_of_ble_eq_true rfl, Nat.le_of_ble_eq_true rfl⟩ (Nat.le_of_ble_eq_true rfl) ⟨Nat.le_of_ble_eq_true rfl, Nat.le_of_ble_eq_true rfl⟩ (fun r51 h52 p53 => ?_) (fun Er51 h52 p53 => False.elim p53)
            obtain ⟨rfl, hLP⟩ := p53
            show V 86 _ [(.int (nI 1))] _ _ _
            refine r_pop Mm dX5_mend_86 rfl ?_
            refine r_aload_n Mm dX5_mend_87 rfl ?_
            refine r_iconst (v := nI 0) Mm dX5_mend_88 (by decide) ?_
            refine r_putI (ty := .int) Mm dX5_mend_89 fi_X5_123 ki_2 rfl (hLP.2.1.S (s36)) rfl (i := 204) rfl rfl (by decide +kernel) rfl rfl ?_
            refine r_aload Mm dX5_mend_92 rfl ?_
            refine r_getI Mm dX5_mend_94 fi_X5_171 (sF (hLP.2.1.S (s40))) rfl (i := 401) rfl ?_
            refine r_top _ (nI (qWorn (eP σ i))) (qF (by decide) ((hLP.2.1.F (s40) (hLm2.nd fE (s40) (by decide) (by decide)) _).trans (qF_s))) ?_
            refine r_ownE Mm (fun fE2 => ?_)
            refine r_iret M dX5_mend_97 ?_
            have h5 : ms.map (sv ((yF (yF (yN h q14 4 0) 400 q14 m) 401 q14 (nI (qWorn (eP σ i)))))) = qMend (eP σ i) := by rw [← f5]; exact List.map_congr_left (fun v hv => sv.kp kq (hP.2.2.2.2.2.2.2.2 v hv) trivial)
            obtain ⟨ow3, k3, hp3⟩ := PupAt.mend (rg.2.2.1 _ _ haa) (p46) hLm2 h5 (fun v hv => ⟨kq.S (hP.2.2.2.2.2.2.2.2 v hv), by rw [kq.O (hP.2.2.2.2.2.2.2.2 v hv), o6 v hv]⟩) hLP (s40) (upt_s _ _ _) esv fE
            have oa3 : ow3 a = 100 + 8 * i := by rw [k3.O (s36), kq.O hP.1, o1]
            exact pOp.ret (by simp only [o_mend, oPu_ok k1 eci, oIn_ok k5, if_neg (fun z => by omega : ¬ (qWorn (eP σ i) = 0 ∨ 10 ≤ (qMend (eP σ i)).length)), if_neg (Bool.eq_false_iff.mp c50 : ¬ takenS σ i (m, nI (qWorn (eP σ i))) = true)]) (Aft.pup r0 (Kp.tr2 (Kp.tr kq (k3.wk (fun t ht => by omega))) (Kp.row (Fr.yF rfl) (by omega))) haa (by omega) (PupAt.worn 0 hp3) fE2)
          · refine r_throw M ti_169 dX5_mend_67 dX5_mend_70 dX5_mend_71 dX5_mend_73 dX5_mend_76 (by decide) (Nat.le_of_ble_eq_true rfl) ⟨Nat.le_of_ble_eq_true rfl, Nat.le_of_ble_eq_true rfl⟩ ?_
            exact pOp.thr (by simp only [o_mend, oPu_ok k1 eci, oIn_ok k5, if_neg (fun z => by omega : ¬ (qWorn (eP σ i) = 0 ∨ 10 ≤ (qMend (eP σ i)).length)), if_pos (c50 : takenS σ i (m, nI (qWorn (eP σ i))) = true)]) (Aft.grow r0 kq fE)
        · refine r_throw M ti_167 dX5_mend_32 dX5_mend_35 dX5_mend_36 dX5_mend_38 dX5_mend_41 (by decide) (Nat.le_of_ble_eq_true rfl) ⟨Nat.le_of_ble_eq_true rfl, Nat.le_of_ble_eq_true rfl⟩ ?_
          exact pOp.thr (by simp only [o_mend, oPu_ok k1 eci, oIn_ok k5, if_pos (Or.inr (by omega) : qWorn (eP σ i) = 0 ∨ 10 ≤ (qMend (eP σ i)).length)]) (Aft.rf r0)
    · refine r_callS (As := [(.int m), (.int (nI 0)), (.int (nI 100000))]) Mm dX5_mend_10 rfl (ct_needBad hfl h m (nI 0) (nI 100000) (not_le2 k5)) cw_X5_33 ⟨Nat.le_of_ble_eq_true rfl, Nat.le_of_ble_eq_true rfl, Nat.le_of_ble_eq_true rfl⟩ (Nat.le_of_ble_eq_true rfl) ⟨Nat.le_of_ble_eq_true rfl, Nat.le_of_ble_eq_true rfl⟩ (fun r54 h55 p56 => False.elim p56) (fun Er54 h55 p56 => ?_)
      obtain ⟨rfl, rfl⟩ := p56
      refine x_out M ?_
      exact pOp.thr (by simp only [o_mend, oPu_ok k1 eci, oIn_no k5]) (Aft.rf r0)
  · refine r_callV (As := [(.int p)]) Mm dX5_mend_2 rfl (ct_pupBad hfl h x pL sL ha ow ps ss σ r0 p (by rw [b3]; exact not_in k1)) (a1) rfl cw_X5_57 ⟨Nat.le_of_ble_eq_true rfl, Nat.le_of_ble_eq_true rfl, Nat.le_of_ble_eq_true rfl⟩ (Nat.le_of_ble_eq_true rfl) ⟨Nat.le_of_ble_eq_true rfl, Nat.le_of_ble_eq_true rfl⟩ (fun r57 h58 p59 => False.elim p59) (fun Er57 h58 p59 => ?_)
    obtain ⟨rfl, rfl⟩ := p59
    refine x_out M ?_
    exact pOp.thr (by simp only [o_mend, oPu_no k1]) (Aft.rf r0)
theorem map_ins {α β : Type} (f : α → β) (l : List α) (i : Nat) (a : α) : (l.insertIdx i a).map f = (l.map f).insertIdx i (f a) := by
  induction l generalizing i with
  | nil => cases i <;> rfl
  | cons b t ih => cases i with
    | zero => rfl
    | succ i => simp only [List.insertIdx_succ_cons, List.map_cons, ih]
theorem map_era {α β : Type} (f : α → β) (l : List α) (i : Nat) : (l.eraseIdx i).map f = (l.map f).eraseIdx i := by
  induction l generalizing i with
  | nil => cases i <;> rfl
  | cons b t ih => cases i with
    | zero => rfl
    | succ i => simp only [List.eraseIdx_cons_succ, List.map_cons, ih]
def putK (ks : List K4) (k : K4) : List K4 := if hasK ks k.1 = true then ks.set (ahead ks k.1) k else ks.insertIdx (ahead ks k.1) k
def putX (ks : List K4) (f : Int32) (xs : List Nat) (q : Nat) : List Nat := if hasK ks f = true then xs.set (ahead ks f) q else xs.insertIdx (ahead ks f) q
theorem putX_ks {h : Hp} {xs : List Nat} {ks : List K4} {k : K4} {q : Nat} (hx : ksOf h xs = ks) (hk : kv h q = k) : ksOf h (putX ks k.1 xs q) = putK ks k := by
  by_cases c : hasK ks k.1 = true
  · rw [putX, putK, if_pos c, if_pos c, ksOf, List.map_set, hk, ← hx]; rfl
  · rw [putX, putK, if_neg c, if_neg c, ksOf, map_ins, hk, ← hx]; rfl
theorem putX_mem {xs : List Nat} {ks : List K4} {f : Int32} {q v : Nat} (hl : xs.length = ks.length) (hv : v ∈ putX ks f xs q) : v ∈ xs ∨ v = q := by
  by_cases c : hasK ks f = true
  · rw [putX, if_pos c] at hv; exact List.mem_or_eq_of_mem_set hv
  · rw [putX, if_neg c] at hv
    exact ((List.mem_insertIdx (by rw [hl]; exact ahead_le ks f)).mp hv).symm
def o_key (σ : ST) (p f u v e : Int32) : OR := oPu σ p (fun i => oIn f (nI 0) (nI 999) (oIn u (nI 0) (nI 999) (oIn v (nI 0) (nI 999) (oIn e (nI 0) (nI 3) (if hasK (qKeys (eP σ i)) f = false ∧ 12 ≤ (qKeys (eP σ i)).length then .inl "java/lang/IllegalStateException" else .inr (nI (putK (qKeys (eP σ i)) (f, u, v, e)).length, wP σ i ((eP σ i).1, (eP σ i).2.1, putK (qKeys (eP σ i)) (f, u, v, e), (eP σ i).2.2.2)))))))
set_option maxRecDepth 100000 in
set_option maxHeartbeats 4000000 in
theorem ct_o_key {g : Gl} {l : Launch} (hfl : l.stackTraces = false) (h : Hp) (x pL sL ha : Nat) (ow : Nat → Nat) (ps ss : List Nat) (σ : ST) (r : RC (gN g 2) ow h x pL sL ha ps ss σ) (hw : WF σ) (p f u v e : Int32) : CT g l iX5_key 8 [.ref x, .int p, .int f, .int u, .int v, .int e] h 4 1520 (pOp (gN g 2) ow h x pL sL ha σ (o_key σ p f u v e)) := by
  have r0 := r
  obtain ⟨⟨a1, a2, a3, a4, a5⟩, ⟨b1, b2, b3, b4⟩, zp, zs, ⟨d1, d2⟩, ⟨e1, e2, e3, e4, e5, e6⟩, f1⟩ := r
  have hl1 := b1.2.2.1
  have hl2 := b2.2.2.1
  obtain ⟨w1, w2, w3, w4, w5⟩ := hw
  refine ct_mk hfl (by decide) (Nat.le_of_ble_eq_true rfl) (by intro v hv; simp only [List.mem_cons, List.not_mem_nil, or_false] at hv; rcases hv with rfl | rfl | rfl | rfl | rfl | rfl <;> rfl) (fun V X M => ?_)
  have Mm := M.m
  show V 0 [some (.ref x), some (.int p), some (.int f), some (.int u), some (.int v), some (.int e), none] [] _ 0 0
  refine r_aload_n Mm dX5_key_0 rfl ?_
  refine r_iload_n Mm dX5_key_1 rfl ?_
  by_cases k1 : 0 ≤ p ∧ p < nI (eN σ)
  · obtain ⟨i, hi, rfl⟩ := in_ex k1 (by omega)
    have eci : (nI i).toNatClampNeg = i := nI_clamp (by omega)
    obtain ⟨a, haa⟩ : ∃ v, ps[i]? = some v := ⟨_, List.getElem?_eq_getElem (by omega)⟩
    have hpa := zp _ _ haa
    obtain ⟨ka, ma, pl, xs, ms, hP, f0, f1b, f2, f3, f4, f5, ⟨o1, o2, o3, o4⟩, g1, g2, o5, o6⟩ := hpa
    have hok := w3 i hi
    have hlk : xs.length = (qKeys (eP σ i)).length := by rw [← f2, ksOf_len]
    have hlm : ms.length = (qMend (eP σ i)).length := by rw [← f5, List.length_map]
    have hk12 := hok.2.2.2.1
    have hw99 := hok.2.2.2.2.2.2.1
    have hm10 := hok.2.2.2.2.2.2.2
    refine r_callV (As := [(.int (nI i))]) Mm dX5_key_2 rfl (ct_pupOk hfl h x pL sL ha ow ps ss σ r0 i a haa) (a1) rfl cw_X5_57 ⟨Nat.le_of_ble_eq_true rfl, Nat.le_of_ble_eq_true rfl, Nat.le_of_ble_eq_true rfl⟩ (Nat.le_of_ble_eq_true rfl) ⟨Nat.le_of_ble_eq_true rfl, Nat.le_of_ble_eq_true rfl⟩ (fun r2 h3 p4 => ?_) (fun Er2 h3 p4 => False.elim p4)
    obtain ⟨rfl, rfl⟩ := p4
    show V 5 _ [(.ref a)] _ _ _
    refine r_astore Mm dX5_key_5 (by decide) ?_
    show V 7 [some (.ref x), some (.int (nI i)), some (.int f), some (.int u), some (.int v), some (.int e), some (.ref a)] _ _ _ _
    refine r_iload_n Mm dX5_key_7 rfl ?_
    refine r_iconst (v := nI 0) Mm dX5_key_8 (by decide) ?_
    refine r_sipush (v := nI 999) Mm dX5_key_9 (by decide) ?_
    by_cases k5 : (nI 0) ≤ f ∧ f ≤ (nI 999)
    · refine r_callS (As := [(.int f), (.int (nI 0)), (.int (nI 999))]) Mm dX5_key_12 rfl (ct_needOk hfl h f (nI 0) (nI 999) k5.1 k5.2) cw_X5_33 ⟨Nat.le_of_ble_eq_true rfl, Nat.le_of_ble_eq_true rfl, Nat.le_of_ble_eq_true rfl⟩ (Nat.le_of_ble_eq_true rfl) ⟨Nat.le_of_ble_eq_true rfl, Nat.le_of_ble_eq_true rfl⟩ (fun r6 h7 p8 => ?_) (fun Er6 h7 p8 => False.elim p8)
      obtain ⟨rfl, rfl⟩ := p8
      show V 15 _ [] _ _ _
      refine r_iload_n Mm dX5_key_15 rfl ?_
      refine r_iconst (v := nI 0) Mm dX5_key_16 (by decide) ?_
      refine r_sipush (v := nI 999) Mm dX5_key_17 (by decide) ?_
      by_cases k9 : (nI 0) ≤ u ∧ u ≤ (nI 999)
      · refine r_callS (As := [(.int u), (.int (nI 0)), (.int (nI 999))]) Mm dX5_key_20 rfl (ct_needOk hfl h u (nI 0) (nI 999) k9.1 k9.2) cw_X5_33 ⟨Nat.le_of_ble_eq_true rfl, Nat.le_of_ble_eq_true rfl, Nat.le_of_ble_eq_true rfl⟩ (Nat.le_of_ble_eq_true rfl) ⟨Nat.le_of_ble_eq_true rfl, Nat.le_of_ble_eq_true rfl⟩ (fun r10 h11 p12 => ?_) (fun Er10 h11 p12 => False.elim p12)
        obtain ⟨rfl, rfl⟩ := p12
        show V 23 _ [] _ _ _
        refine r_iload Mm dX5_key_23 rfl ?_
        refine r_iconst (v := nI 0) Mm dX5_key_25 (by decide) ?_
        refine r_sipush (v := nI 999) Mm dX5_key_26 (by decide) ?_
        by_cases k13 : (nI 0) ≤ v ∧ v ≤ (nI 999)
        · refine r_callS (As := [(.int v), (.int (nI 0)), (.int (nI 999))]) Mm dX5_key_29 rfl (ct_needOk hfl h v (nI 0) (nI 999) k13.1 k13.2) cw_X5_33 ⟨Nat.le_of_ble_eq_true rfl, Nat.le_of_ble_eq_true rfl, Nat.le_of_ble_eq_true rfl⟩ (Nat.le_of_ble_eq_true rfl) ⟨Nat.le_of_ble_eq_true rfl, Nat.le_of_ble_eq_true rfl⟩ (fun r14 h15 p16 => ?_) (fun Er14 h15 p16 => False.elim p16)
          obtain ⟨rfl, rfl⟩ := p16
          show V 32 _ [] _ _ _
          refine r_iload Mm dX5_key_32 rfl ?_
          refine r_iconst (v := nI 0) Mm dX5_key_34 (by decide) ?_
          refine r_iconst (v := nI 3) Mm dX5_key_35 (by decide) ?_
          by_cases k17 : (nI 0) ≤ e ∧ e ≤ (nI 3)
          · refine r_callS (As := [(.int e), (.int (nI 0)), (.int (nI 3))]) Mm dX5_key_36 rfl (ct_needOk hfl h e (nI 0) (nI 3) k17.1 k17.2) cw_X5_33 ⟨Nat.le_of_ble_eq_true rfl, Nat.le_of_ble_eq_true rfl, Nat.le_of_ble_eq_true rfl⟩ (Nat.le_of_ble_eq_true rfl) ⟨Nat.le_of_ble_eq_true rfl, Nat.le_of_ble_eq_true rfl⟩ (fun r18 h19 p20 => ?_) (fun Er18 h19 p20 => False.elim p20)
            obtain ⟨rfl, rfl⟩ := p20
            show V 39 _ [] _ _ _
            refine r_aload Mm dX5_key_39 rfl ?_
            refine r_iload_n Mm dX5_key_41 rfl ?_
            refine r_callV (As := [(.int f)]) Mm dX5_key_42 rfl (ct_hasKeyAt hfl h a ka ma pl xs ms hP f) (hP.1) rfl cw_X5_64 ⟨Nat.le_of_ble_eq_true rfl, Nat.le_of_ble_eq_true rfl, Nat.le_of_ble_eq_true rfl⟩ (Nat.le_of_ble_eq_true rfl) ⟨Nat.le_of_ble_eq_true rfl, Nat.le_of_ble_eq_true rfl⟩ (fun r21 h22 p23 => ?_) (fun Er21 h22 p23 => False.elim p23)
            obtain ⟨rfl, rfl⟩ := p23
            rw [f2]
            show V 45 _ [(.int (bI (hasK (qKeys (eP σ i)) f)))] _ _ _
            refine r_if_neB (tgt := 71) Mm dX5_key_45 (by decide) (fun c24 => ?_) (fun c24 => ?_)
            · refine r_aload Mm dX5_key_71 rfl ?_
              refine r_new Mm dX5_key_73 ki_0 rfl cl_X5_73 nw_0 ni_0 ⟨Nat.le_of_ble_eq_true rfl, Nat.le_of_ble_eq_true rfl⟩ (fun q25 hq25 => ?_)
              have s26 : xS (yN h q25 0 0) x = some (5, 0) := yN_S hq25 (a1)
              have s27 : xS (yN h q25 0 0) ha = some (8, 10) := yN_S hq25 (a5)
              have s28 : xS (yN h q25 0 0) pL = some (7, 0) := yN_S hq25 (b1.1)
              have s29 : xS (yN h q25 0 0) sL = some (7, 0) := yN_S hq25 (b2.1)
              have s30 : xS (yN h q25 0 0) a = some (2, 0) := yN_S hq25 (hP.1)
              have s31 : xS (yN h q25 0 0) pl = some (1, 0) := yN_S hq25 (hP.2.2.2.2.1)
              have s32 : xS (yN h q25 0 0) ka = some (7, 0) := yN_S hq25 (hP.2.2.2.2.2.1.1)
              have s33 : xS (yN h q25 0 0) ma = some (7, 0) := yN_S hq25 (hP.2.2.2.2.2.2.1.1)
              have p34 : xP (yN h q25 0 0) 500 x = some pL := yN_P hq25 (a1) (a2)
              have p35 : xP (yN h q25 0 0) 501 x = some sL := yN_P hq25 (a1) (a3)
              have p36 : xP (yN h q25 0 0) 502 x = some ha := yN_P hq25 (a1) (a4)
              have p37 : xP (yN h q25 0 0) 206 a = some pl := yN_P hq25 (hP.1) (hP.2.2.2.1)
              have p38 : xP (yN h q25 0 0) 202 a = some ka := yN_P hq25 (hP.1) (hP.2.1)
              have p39 : xP (yN h q25 0 0) 205 a = some ma := yN_P hq25 (hP.1) (hP.2.2.1)
              refine r_dup Mm dX5_key_76 rfl ?_
              refine r_iload_n Mm dX5_key_77 rfl ?_
              refine r_iload_n Mm dX5_key_78 rfl ?_
              refine r_iload Mm dX5_key_79 rfl ?_
              refine r_iload Mm dX5_key_81 rfl ?_
              refine r_callI (As := [(.int f), (.int u), (.int v), (.int e)]) Mm dX5_key_83 rfl (ct_key hfl ((yN h q25 0 0)) q25 f u v e (yN_q)) cw_X5_75 ⟨Nat.le_of_ble_eq_true rfl, Nat.le_of_ble_eq_true rfl, Nat.le_of_ble_eq_true rfl⟩ (Nat.le_of_ble_eq_true rfl) ⟨Nat.le_of_ble_eq_true rfl, Nat.le_of_ble_eq_true rfl⟩ (fun r40 h41 p42 => ?_) (fun _ _ z => z)
              obtain ⟨rfl, rfl⟩ := p42
              have s43 : xS (yF (yF (yF (yF (yN h q25 0 0) 0 q25 f) 1 q25 u) 2 q25 v) 3 q25 e) x = some (5, 0) := sF (sF (sF (sF (s26))))
              have s44 : xS (yF (yF (yF (yF (yN h q25 0 0) 0 q25 f) 1 q25 u) 2 q25 v) 3 q25 e) ha = some (8, 10) := sF (sF (sF (sF (s27))))
              have s45 : xS (yF (yF (yF (yF (yN h q25 0 0) 0 q25 f) 1 q25 u) 2 q25 v) 3 q25 e) pL = some (7, 0) := sF (sF (sF (sF (s28))))
              have s46 : xS (yF (yF (yF (yF (yN h q25 0 0) 0 q25 f) 1 q25 u) 2 q25 v) 3 q25 e) sL = some (7, 0) := sF (sF (sF (sF (s29))))
              have s47 : xS (yF (yF (yF (yF (yN h q25 0 0) 0 q25 f) 1 q25 u) 2 q25 v) 3 q25 e) a = some (2, 0) := sF (sF (sF (sF (s30))))
              have s48 : xS (yF (yF (yF (yF (yN h q25 0 0) 0 q25 f) 1 q25 u) 2 q25 v) 3 q25 e) pl = some (1, 0) := sF (sF (sF (sF (s31))))
              have s49 : xS (yF (yF (yF (yF (yN h q25 0 0) 0 q25 f) 1 q25 u) 2 q25 v) 3 q25 e) ka = some (7, 0) := sF (sF (sF (sF (s32))))
              have s50 : xS (yF (yF (yF (yF (yN h q25 0 0) 0 q25 f) 1 q25 u) 2 q25 v) 3 q25 e) ma = some (7, 0) := sF (sF (sF (sF (s33))))
              have s51 : xS (yF (yF (yF (yF (yN h q25 0 0) 0 q25 f) 1 q25 u) 2 q25 v) 3 q25 e) q25 = some (0, 0) := sF (sF (sF (sF (yN_q))))
              have p52 : xP (yF (yF (yF (yF (yN h q25 0 0) 0 q25 f) 1 q25 u) 2 q25 v) 3 q25 e) 500 x = some pL := pF (pF (pF (pF (p34))))
              have p53 : xP (yF (yF (yF (yF (yN h q25 0 0) 0 q25 f) 1 q25 u) 2 q25 v) 3 q25 e) 501 x = some sL := pF (pF (pF (pF (p35))))
              have p54 : xP (yF (yF (yF (yF (yN h q25 0 0) 0 q25 f) 1 q25 u) 2 q25 v) 3 q25 e) 502 x = some ha := pF (pF (pF (pF (p36))))
              have p55 : xP (yF (yF (yF (yF (yN h q25 0 0) 0 q25 f) 1 q25 u) 2 q25 v) 3 q25 e) 206 a = some pl := pF (pF (pF (pF (p37))))
              have p56 : xP (yF (yF (yF (yF (yN h q25 0 0) 0 q25 f) 1 q25 u) 2 q25 v) 3 q25 e) 202 a = some ka := pF (pF (pF (pF (p38))))
              have p57 : xP (yF (yF (yF (yF (yN h q25 0 0) 0 q25 f) 1 q25 u) 2 q25 v) 3 q25 e) 205 a = some ma := pF (pF (pF (pF (p39))))
              show V 86 _ [(.ref q25), (.ref a)] _ _ _
              refine r_ownE Mm (fun fE => ?_)
              have frq : Fr (fun b => b = q25) h ((yF (yF (yF (yF (yN h q25 0 0) 0 q25 f) 1 q25 u) 2 q25 v) 3 q25 e)) := by
                refine Fr.tr ?_ (Fr.yF (rfl))
                refine Fr.tr ?_ (Fr.yF (rfl))
                refine Fr.tr ?_ (Fr.yF (rfl))
                refine Fr.tr ?_ (Fr.yF (rfl))
                refine Fr.tr ?_ (Fr.yN hq25)
                exact Fr.rf
              have kq : Kp (fun _ => True) ow (upt ow q25 7) h ((yF (yF (yF (yF (yN h q25 0 0) 0 q25 f) 1 q25 u) 2 q25 v) 3 q25 e)) := Kp.new frq hq25
              have rg := r0.grow kq fE
              have hP2 := isPup.kp kq f1 g1 g2 hP
              have eks : ksOf ((yF (yF (yF (yF (yN h q25 0 0) 0 q25 f) 1 q25 u) 2 q25 v) 3 q25 e)) xs = qKeys (eP σ i) := by rw [ksOf.kp kq hP.2.2.2.2.2.2.2.1 (fun _ _ => trivial), f2]
              have ek0 : xF ((yF (yF (yF (yF (yN h q25 0 0) 0 q25 f) 1 q25 u) 2 q25 v) 3 q25 e)) 0 q25 = f := by simp only [zxS_yF, zxF_yF, zxP_yF, zxA_yF, zxB_yF, zxL_yF, zxS_yP, zxF_yP, zxP_yP, zxA_yP, zxB_yP, zxL_yP, zxS_yA, zxF_yA, zxP_yA, zxA_yA, zxB_yA, zxL_yA, zxS_yB, zxF_yB, zxP_yB, zxA_yB, zxB_yB, zxL_yB, zxS_yL, zxF_yL, zxP_yL, zxA_yL, zxB_yL, zxL_yL, zxS_yN, zxF_yN, zxP_yN, zxA_yN, zxB_yN, zxL_yN, Nat.reduceEqDiff, false_and, and_false, true_and, and_true, and_self, ite_false, ite_true, ite_self]
              have ekv : kv ((yF (yF (yF (yF (yN h q25 0 0) 0 q25 f) 1 q25 u) 2 q25 v) 3 q25 e)) q25 = (f, u, v, e) := by simp only [kv, zxS_yF, zxF_yF, zxP_yF, zxA_yF, zxB_yF, zxL_yF, zxS_yP, zxF_yP, zxP_yP, zxA_yP, zxB_yP, zxL_yP, zxS_yA, zxF_yA, zxP_yA, zxA_yA, zxB_yA, zxL_yA, zxS_yB, zxF_yB, zxP_yB, zxA_yB, zxB_yB, zxL_yB, zxS_yL, zxF_yL, zxP_yL, zxA_yL, zxB_yL, zxL_yL, zxS_yN, zxF_yN, zxP_yN, zxA_yN, zxB_yN, zxL_yN, Nat.reduceEqDiff, false_and, and_false, true_and, and_true, and_self, ite_false, ite_true, ite_self]
              have eput := putX_ks eks ekv
              refine r_callV (As := [(.ref q25)]) Mm dX5_key_86 rfl (ct_putKey hfl ((yF (yF (yF (yF (yN h q25 0 0) 0 q25 f) 1 q25 u) 2 q25 v) 3 q25 e)) a ka ma pl xs ms hP2 q25 (s51) (by omega)) (s47) rfl cw_X5_78 ⟨Nat.le_of_ble_eq_true rfl, Nat.le_of_ble_eq_true rfl, Nat.le_of_ble_eq_true rfl⟩ (Nat.le_of_ble_eq_true rfl) ⟨Nat.le_of_ble_eq_true rfl, Nat.le_of_ble_eq_true rfl⟩ (fun r58 h59 p60 => ?_) (fun Er58 h59 p60 => False.elim p60)
              obtain ⟨rfl, hLP⟩ := p60
              rw [eks, ek0] at hLP
              have hLQ : LiP (gN g 2) ((yF (yF (yF (yF (yN h q25 0 0) 0 q25 f) 1 q25 u) 2 q25 v) 3 q25 e)) ka h59 (putX (qKeys (eP σ i)) f xs q25) := hLP
              show V 89 _ [] _ _ _
              refine r_aload Mm dX5_key_89 rfl ?_
              refine r_getR Mm dX5_key_91 fi_X5_68 (hLQ.2.1.S (s47)) rfl (i := 202) rfl ((hLQ.2.1.P (s47) (hP2.2.2.2.2.2.1.nd fE (s47) (by decide) (by decide)) _).trans (p56)) ?_
              refine r_callV (As := []) Mm dX5_key_94 rfl (ct_lsize hfl h59 ka (putX (qKeys (eP σ i)) f xs q25) hLQ.1) (hLQ.1.1) rfl cw_X5_37 ⟨Nat.le_of_ble_eq_true rfl, Nat.le_of_ble_eq_true rfl, Nat.le_of_ble_eq_true rfl⟩ (Nat.le_of_ble_eq_true rfl) ⟨Nat.le_of_ble_eq_true rfl, Nat.le_of_ble_eq_true rfl⟩ (fun r61 h62 p63 => ?_) (fun Er61 h62 p63 => False.elim p63)
              obtain ⟨rfl, rfl⟩ := p63
              show V 97 _ [(.int (nI ((putX (qKeys (eP σ i)) f xs q25).length)))] _ _ _
              refine r_ownE Mm (fun fE2 => ?_)
              refine r_iret M dX5_key_97 ?_
              obtain ⟨ow3, k3, hp3⟩ := PupAt.keys (rg.2.2.1 _ _ haa) (p56) (fun w hw => (putX_mem hlk hw).elim (fun z => ⟨kq.S (hP.2.2.2.2.2.2.2.1 w z), by rw [kq.O (hP.2.2.2.2.2.2.2.1 w z), o5 w z]⟩) (fun z => by rw [z]; exact ⟨s51, upt_s _ _ _⟩)) hLQ fE
              rw [show ksOf ((yF (yF (yF (yF (yN h q25 0 0) 0 q25 f) 1 q25 u) 2 q25 v) 3 q25 e)) (putX (qKeys (eP σ i)) f xs q25) = putK (qKeys (eP σ i)) (f, u, v, e) from eput] at hp3
              rw [show (putX (qKeys (eP σ i)) f xs q25).length = (putK (qKeys (eP σ i)) (f, u, v, e)).length by rw [← ksOf_len ((yF (yF (yF (yF (yN h q25 0 0) 0 q25 f) 1 q25 u) 2 q25 v) 3 q25 e))]; exact congrArg List.length eput]
              exact pOp.ret (by simp only [o_key, oPu_ok k1 eci, oIn_ok k5, oIn_ok k9, oIn_ok k13, oIn_ok k17, if_neg (fun z => by rw [c24] at z; cases z.1 : ¬ (hasK (qKeys (eP σ i)) f = false ∧ 12 ≤ (qKeys (eP σ i)).length))]) (Aft.pup r0 (Kp.tr kq (k3.wk (fun t ht => by omega))) haa (by omega) hp3 fE2)
            · refine r_aload Mm dX5_key_48 rfl ?_
              refine r_getR Mm dX5_key_50 fi_X5_68 (hP.1) rfl (i := 202) rfl (hP.2.1) ?_
              refine r_callV (As := []) Mm dX5_key_53 rfl (ct_lsize hfl h ka xs (hP.2.2.2.2.2.1)) (hP.2.2.2.2.2.1.1) rfl cw_X5_37 ⟨Nat.le_of_ble_eq_true rfl, Nat.le_of_ble_eq_true rfl, Nat.le_of_ble_eq_true rfl⟩ (Nat.le_of_ble_eq_true rfl) ⟨Nat.le_of_ble_eq_true rfl, Nat.le_of_ble_eq_true rfl⟩ (fun r64 h65 p66 => ?_) (fun Er64 h65 p66 => False.elim p66)
              obtain ⟨rfl, rfl⟩ := p66
              show V 56 _ [(.int (nI (xs.length)))] _ _ _
              refine r_bipush (v := nI 12) Mm dX5_key_56 (by decide) ?_
              refine r_icmp_ltN (tgt := 71) Mm dX5_key_58 (by decide) (by omega) (by omega) (fun c67 => ?_) (fun c67 => ?_)
              · refine r_aload Mm dX5_key_71 rfl ?_
                refine r_new Mm dX5_key_73 ki_0 rfl cl_X5_73 nw_0 ni_0 ⟨Nat.le_of_ble_eq_true rfl, Nat.le_of_ble_eq_true rfl⟩ (fun q68 hq68 => ?_)
                have s69 : xS (yN h q68 0 0) x = some (5, 0) := yN_S hq68 (a1)
                have s70 : xS (yN h q68 0 0) ha = some (8, 10) := yN_S hq68 (a5)
                have s71 : xS (yN h q68 0 0) pL = some (7, 0) := yN_S hq68 (b1.1)
                have s72 : xS (yN h q68 0 0) sL = some (7, 0) := yN_S hq68 (b2.1)
                have s73 : xS (yN h q68 0 0) a = some (2, 0) := yN_S hq68 (hP.1)
                have s74 : xS (yN h q68 0 0) pl = some (1, 0) := yN_S hq68 (hP.2.2.2.2.1)
                have s75 : xS (yN h q68 0 0) ka = some (7, 0) := yN_S hq68 (hP.2.2.2.2.2.1.1)
                have s76 : xS (yN h q68 0 0) ma = some (7, 0) := yN_S hq68 (hP.2.2.2.2.2.2.1.1)
                have p77 : xP (yN h q68 0 0) 500 x = some pL := yN_P hq68 (a1) (a2)
                have p78 : xP (yN h q68 0 0) 501 x = some sL := yN_P hq68 (a1) (a3)
                have p79 : xP (yN h q68 0 0) 502 x = some ha := yN_P hq68 (a1) (a4)
                have p80 : xP (yN h q68 0 0) 206 a = some pl := yN_P hq68 (hP.1) (hP.2.2.2.1)
                have p81 : xP (yN h q68 0 0) 202 a = some ka := yN_P hq68 (hP.1) (hP.2.1)
                have p82 : xP (yN h q68 0 0) 205 a = some ma := yN_P hq68 (hP.1) (hP.2.2.1)
                refine r_dup Mm dX5_key_76 rfl ?_
                refine r_iload_n Mm dX5_key_77 rfl ?_
                refine r_iload_n Mm dX5_key_78 rfl ?_
                refine r_iload Mm dX5_key_79 rfl ?_
                refine r_iload Mm dX5_key_81 rfl ?_
                refine r_callI (As := [(.int f), (.int u), (.int v), (.int e)]) Mm dX5_key_83 rfl (ct_key hfl ((yN h q68 0 0)) q68 f u v e (yN_q)) cw_X5_75 ⟨Nat.le_of_ble_eq_true rfl, Nat.le_of_ble_eq_true rfl, Nat.le_of_ble_eq_true rfl⟩ (Nat.le_of_ble_eq_true rfl) ⟨Nat.le_of_ble_eq_true rfl, Nat.le_of_ble_eq_true rfl⟩ (fun r83 h84 p85 => ?_) (fun _ _ z => z)
                obtain ⟨rfl, rfl⟩ := p85
                have s86 : xS (yF (yF (yF (yF (yN h q68 0 0) 0 q68 f) 1 q68 u) 2 q68 v) 3 q68 e) x = some (5, 0) := sF (sF (sF (sF (s69))))
                have s87 : xS (yF (yF (yF (yF (yN h q68 0 0) 0 q68 f) 1 q68 u) 2 q68 v) 3 q68 e) ha = some (8, 10) := sF (sF (sF (sF (s70))))
                have s88 : xS (yF (yF (yF (yF (yN h q68 0 0) 0 q68 f) 1 q68 u) 2 q68 v) 3 q68 e) pL = some (7, 0) := sF (sF (sF (sF (s71))))
                have s89 : xS (yF (yF (yF (yF (yN h q68 0 0) 0 q68 f) 1 q68 u) 2 q68 v) 3 q68 e) sL = some (7, 0) := sF (sF (sF (sF (s72))))
                have s90 : xS (yF (yF (yF (yF (yN h q68 0 0) 0 q68 f) 1 q68 u) 2 q68 v) 3 q68 e) a = some (2, 0) := sF (sF (sF (sF (s73))))
                have s91 : xS (yF (yF (yF (yF (yN h q68 0 0) 0 q68 f) 1 q68 u) 2 q68 v) 3 q68 e) pl = some (1, 0) := sF (sF (sF (sF (s74))))
                have s92 : xS (yF (yF (yF (yF (yN h q68 0 0) 0 q68 f) 1 q68 u) 2 q68 v) 3 q68 e) ka = some (7, 0) := sF (sF (sF (sF (s75))))
                have s93 : xS (yF (yF (yF (yF (yN h q68 0 0) 0 q68 f) 1 q68 u) 2 q68 v) 3 q68 e) ma = some (7, 0) := sF (sF (sF (sF (s76))))
                have s94 : xS (yF (yF (yF (yF (yN h q68 0 0) 0 q68 f) 1 q68 u) 2 q68 v) 3 q68 e) q68 = some (0, 0) := sF (sF (sF (sF (yN_q))))
                have p95 : xP (yF (yF (yF (yF (yN h q68 0 0) 0 q68 f) 1 q68 u) 2 q68 v) 3 q68 e) 500 x = some pL := pF (pF (pF (pF (p77))))
                have p96 : xP (yF (yF (yF (yF (yN h q68 0 0) 0 q68 f) 1 q68 u) 2 q68 v) 3 q68 e) 501 x = some sL := pF (pF (pF (pF (p78))))
                have p97 : xP (yF (yF (yF (yF (yN h q68 0 0) 0 q68 f) 1 q68 u) 2 q68 v) 3 q68 e) 502 x = some ha := pF (pF (pF (pF (p79))))
                have p98 : xP (yF (yF (yF (yF (yN h q68 0 0) 0 q68 f) 1 q68 u) 2 q68 v) 3 q68 e) 206 a = some pl := pF (pF (pF (pF (p80))))
                have p99 : xP (yF (yF (yF (yF (yN h q68 0 0) 0 q68 f) 1 q68 u) 2 q68 v) 3 q68 e) 202 a = some ka := pF (pF (pF (pF (p81))))
                have p100 : xP (yF (yF (yF (yF (yN h q68 0 0) 0 q68 f) 1 q68 u) 2 q68 v) 3 q68 e) 205 a = some ma := pF (pF (pF (pF (p82))))
                show V 86 _ [(.ref q68), (.ref a)] _ _ _
                refine r_ownE Mm (fun fE => ?_)
                have frq : Fr (fun b => b = q68) h ((yF (yF (yF (yF (yN h q68 0 0) 0 q68 f) 1 q68 u) 2 q68 v) 3 q68 e)) := by
                  refine Fr.tr ?_ (Fr.yF (rfl))
                  refine Fr.tr ?_ (Fr.yF (rfl))
                  refine Fr.tr ?_ (Fr.yF (rfl))
                  refine Fr.tr ?_ (Fr.yF (rfl))
                  refine Fr.tr ?_ (Fr.yN hq68)
                  exact Fr.rf
                have kq : Kp (fun _ => True) ow (upt ow q68 7) h ((yF (yF (yF (yF (yN h q68 0 0) 0 q68 f) 1 q68 u) 2 q68 v) 3 q68 e)) := Kp.new frq hq68
                have rg := r0.grow kq fE
                have hP2 := isPup.kp kq f1 g1 g2 hP
                have eks : ksOf ((yF (yF (yF (yF (yN h q68 0 0) 0 q68 f) 1 q68 u) 2 q68 v) 3 q68 e)) xs = qKeys (eP σ i) := by rw [ksOf.kp kq hP.2.2.2.2.2.2.2.1 (fun _ _ => trivial), f2]
                have ek0 : xF ((yF (yF (yF (yF (yN h q68 0 0) 0 q68 f) 1 q68 u) 2 q68 v) 3 q68 e)) 0 q68 = f := by simp only [zxS_yF, zxF_yF, zxP_yF, zxA_yF, zxB_yF, zxL_yF, zxS_yP, zxF_yP, zxP_yP, zxA_yP, zxB_yP, zxL_yP, zxS_yA, zxF_yA, zxP_yA, zxA_yA, zxB_yA, zxL_yA, zxS_yB, zxF_yB, zxP_yB, zxA_yB, zxB_yB, zxL_yB, zxS_yL, zxF_yL, zxP_yL, zxA_yL, zxB_yL, zxL_yL, zxS_yN, zxF_yN, zxP_yN, zxA_yN, zxB_yN, zxL_yN, Nat.reduceEqDiff, false_and, and_false, true_and, and_true, and_self, ite_false, ite_true, ite_self]
                have ekv : kv ((yF (yF (yF (yF (yN h q68 0 0) 0 q68 f) 1 q68 u) 2 q68 v) 3 q68 e)) q68 = (f, u, v, e) := by simp only [kv, zxS_yF, zxF_yF, zxP_yF, zxA_yF, zxB_yF, zxL_yF, zxS_yP, zxF_yP, zxP_yP, zxA_yP, zxB_yP, zxL_yP, zxS_yA, zxF_yA, zxP_yA, zxA_yA, zxB_yA, zxL_yA, zxS_yB, zxF_yB, zxP_yB, zxA_yB, zxB_yB, zxL_yB, zxS_yL, zxF_yL, zxP_yL, zxA_yL, zxB_yL, zxL_yL, zxS_yN, zxF_yN, zxP_yN, zxA_yN, zxB_yN, zxL_yN, Nat.reduceEqDiff, false_and, and_false, true_and, and_true, and_self, ite_false, ite_true, ite_self]
                have eput := putX_ks eks ekv
                refine r_callV (As := [(.ref q68)]) Mm dX5_key_86 rfl (ct_putKey hfl ((yF (yF (yF (yF (yN h q68 0 0) 0 q68 f) 1 q68 u) 2 q68 v) 3 q68 e)) a ka ma pl xs ms hP2 q68 (s94) (by omega)) (s90) rfl cw_X5_78 ⟨Nat.le_of_ble_eq_true rfl, Nat.le_of_ble_eq_true rfl, Nat.le_of_ble_eq_true rfl⟩ (Nat.le_of_ble_eq_true rfl) ⟨Nat.le_of_ble_eq_true rfl, Nat.le_of_ble_eq_true rfl⟩ (fun r101 h102 p103 => ?_) (fun Er101 h102 p103 => False.elim p103)
                obtain ⟨rfl, hLP⟩ := p103
                rw [eks, ek0] at hLP
                have hLQ : LiP (gN g 2) ((yF (yF (yF (yF (yN h q68 0 0) 0 q68 f) 1 q68 u) 2 q68 v) 3 q68 e)) ka h102 (putX (qKeys (eP σ i)) f xs q68) := hLP
                show V 89 _ [] _ _ _
                refine r_aload Mm dX5_key_89 rfl ?_
                refine r_getR Mm dX5_key_91 fi_X5_68 (hLQ.2.1.S (s90)) rfl (i := 202) rfl ((hLQ.2.1.P (s90) (hP2.2.2.2.2.2.1.nd fE (s90) (by decide) (by decide)) _).trans (p99)) ?_
                refine r_callV (As := []) Mm dX5_key_94 rfl (ct_lsize hfl h102 ka (putX (qKeys (eP σ i)) f xs q68) hLQ.1) (hLQ.1.1) rfl cw_X5_37 ⟨Nat.le_of_ble_eq_true rfl, Nat.le_of_ble_eq_true rfl, Nat.le_of_ble_eq_true rfl⟩ (Nat.le_of_ble_eq_true rfl) ⟨Nat.le_of_ble_eq_true rfl, Nat.le_of_ble_eq_true rfl⟩ (fun r104 h105 p106 => ?_) (fun Er104 h105 p106 => False.elim p106)
                obtain ⟨rfl, rfl⟩ := p106
                show V 97 _ [(.int (nI ((putX (qKeys (eP σ i)) f xs q68).length)))] _ _ _
                refine r_ownE Mm (fun fE2 => ?_)
                refine r_iret M dX5_key_97 ?_
                obtain ⟨ow3, k3, hp3⟩ := PupAt.keys (rg.2.2.1 _ _ haa) (p99) (fun w hw => (putX_mem hlk hw).elim (fun z => ⟨kq.S (hP.2.2.2.2.2.2.2.1 w z), by rw [kq.O (hP.2.2.2.2.2.2.2.1 w z), o5 w z]⟩) (fun z => by rw [z]; exact ⟨s94, upt_s _ _ _⟩)) hLQ fE
                rw [show ksOf ((yF (yF (yF (yF (yN h q68 0 0) 0 q68 f) 1 q68 u) 2 q68 v) 3 q68 e)) (putX (qKeys (eP σ i)) f xs q68) = putK (qKeys (eP σ i)) (f, u, v, e) from eput] at hp3
                rw [show (putX (qKeys (eP σ i)) f xs q68).length = (putK (qKeys (eP σ i)) (f, u, v, e)).length by rw [← ksOf_len ((yF (yF (yF (yF (yN h q68 0 0) 0 q68 f) 1 q68 u) 2 q68 v) 3 q68 e))]; exact congrArg List.length eput]
                exact pOp.ret (by simp only [o_key, oPu_ok k1 eci, oIn_ok k5, oIn_ok k9, oIn_ok k13, oIn_ok k17, if_neg (fun z => by omega : ¬ (hasK (qKeys (eP σ i)) f = false ∧ 12 ≤ (qKeys (eP σ i)).length))]) (Aft.pup r0 (Kp.tr kq (k3.wk (fun t ht => by omega))) haa (by omega) hp3 fE2)
              · refine r_throw M ti_71 dX5_key_61 dX5_key_64 dX5_key_65 dX5_key_67 dX5_key_70 (by decide) (Nat.le_of_ble_eq_true rfl) ⟨Nat.le_of_ble_eq_true rfl, Nat.le_of_ble_eq_true rfl⟩ ?_
                exact pOp.thr (by simp only [o_key, oPu_ok k1 eci, oIn_ok k5, oIn_ok k9, oIn_ok k13, oIn_ok k17, if_pos (⟨c24, by omega⟩ : hasK (qKeys (eP σ i)) f = false ∧ 12 ≤ (qKeys (eP σ i)).length)]) (Aft.rf r0)
          · refine r_callS (As := [(.int e), (.int (nI 0)), (.int (nI 3))]) Mm dX5_key_36 rfl (ct_needBad hfl h e (nI 0) (nI 3) (not_le2 k17)) cw_X5_33 ⟨Nat.le_of_ble_eq_true rfl, Nat.le_of_ble_eq_true rfl, Nat.le_of_ble_eq_true rfl⟩ (Nat.le_of_ble_eq_true rfl) ⟨Nat.le_of_ble_eq_true rfl, Nat.le_of_ble_eq_true rfl⟩ (fun r107 h108 p109 => False.elim p109) (fun Er107 h108 p109 => ?_)
            obtain ⟨rfl, rfl⟩ := p109
            refine x_out M ?_
            exact pOp.thr (by simp only [o_key, oPu_ok k1 eci, oIn_ok k5, oIn_ok k9, oIn_ok k13, oIn_no k17]) (Aft.rf r0)
        · refine r_callS (As := [(.int v), (.int (nI 0)), (.int (nI 999))]) Mm dX5_key_29 rfl (ct_needBad hfl h v (nI 0) (nI 999) (not_le2 k13)) cw_X5_33 ⟨Nat.le_of_ble_eq_true rfl, Nat.le_of_ble_eq_true rfl, Nat.le_of_ble_eq_true rfl⟩ (Nat.le_of_ble_eq_true rfl) ⟨Nat.le_of_ble_eq_true rfl, Nat.le_of_ble_eq_true rfl⟩ (fun r110 h111 p112 => False.elim p112) (fun Er110 h111 p112 => ?_)
          obtain ⟨rfl, rfl⟩ := p112
          refine x_out M ?_
          exact pOp.thr (by simp only [o_key, oPu_ok k1 eci, oIn_ok k5, oIn_ok k9, oIn_no k13]) (Aft.rf r0)
      · refine r_callS (As := [(.int u), (.int (nI 0)), (.int (nI 999))]) Mm dX5_key_20 rfl (ct_needBad hfl h u (nI 0) (nI 999) (not_le2 k9)) cw_X5_33 ⟨Nat.le_of_ble_eq_true rfl, Nat.le_of_ble_eq_true rfl, Nat.le_of_ble_eq_true rfl⟩ (Nat.le_of_ble_eq_true rfl) ⟨Nat.le_of_ble_eq_true rfl, Nat.le_of_ble_eq_true rfl⟩ (fun r113 h114 p115 => False.elim p115) (fun Er113 h114 p115 => ?_)
        obtain ⟨rfl, rfl⟩ := p115
        refine x_out M ?_
        exact pOp.thr (by simp only [o_key, oPu_ok k1 eci, oIn_ok k5, oIn_no k9]) (Aft.rf r0)
    · refine r_callS (As := [(.int f), (.int (nI 0)), (.int (nI 999))]) Mm dX5_key_12 rfl (ct_needBad hfl h f (nI 0) (nI 999) (not_le2 k5)) cw_X5_33 ⟨Nat.le_of_ble_eq_true rfl, Nat.le_of_ble_eq_true rfl, Nat.le_of_ble_eq_true rfl⟩ (Nat.le_of_ble_eq_true rfl) ⟨Nat.le_of_ble_eq_true rfl, Nat.le_of_ble_eq_true rfl⟩ (fun r116 h117 p118 => False.elim p118) (fun Er116 h117 p118 => ?_)
      obtain ⟨rfl, rfl⟩ := p118
      refine x_out M ?_
      exact pOp.thr (by simp only [o_key, oPu_ok k1 eci, oIn_no k5]) (Aft.rf r0)
  · refine r_callV (As := [(.int p)]) Mm dX5_key_2 rfl (ct_pupBad hfl h x pL sL ha ow ps ss σ r0 p (by rw [b3]; exact not_in k1)) (a1) rfl cw_X5_57 ⟨Nat.le_of_ble_eq_true rfl, Nat.le_of_ble_eq_true rfl, Nat.le_of_ble_eq_true rfl⟩ (Nat.le_of_ble_eq_true rfl) ⟨Nat.le_of_ble_eq_true rfl, Nat.le_of_ble_eq_true rfl⟩ (fun r119 h120 p121 => False.elim p121) (fun Er119 h120 p121 => ?_)
    obtain ⟨rfl, rfl⟩ := p121
    refine x_out M ?_
    exact pOp.thr (by simp only [o_key, oPu_no k1]) (Aft.rf r0)
theorem newPup.at {E i a ka ma pl : Nat} {ow : Nat → Nat} {h h' : Hp} {b n : Int32} (hn : newPup E (yN h a 2 0) h' a ka ma pl b n) (ha : xS h a = none) : ∃ ow' : Nat → Nat, Kp (fun _ => True) ow ow' h h' ∧ PupAt E ow' h' i a (b, n, [], -1, 0, []) := by
  obtain ⟨hP, f0, f1, f3, f4, fr, k1, k2, k3, n1, n2, n3, d1, d2⟩ := hn
  rw [zxS_yN] at k1 k2 k3
  obtain ⟨m1, k1⟩ := ite_none k1
  obtain ⟨m2, k2⟩ := ite_none k2
  obtain ⟨m3, k3⟩ := ite_none k3
  refine ⟨upt (upt (upt (upt ow a (100 + 8 * i)) ka (101 + 8 * i)) ma (102 + 8 * i)) pl (103 + 8 * i), Kp.of (Wr := fun b => b = a) ((Fr.yN ha).tr fr) (fun b z hz => ?_) (fun b z hz _ e => by rw [e, ha] at hz; cases hz), ka, ma, pl, [], [], hP, f0, f1, rfl, f3, f4, rfl, ⟨?_, ?_, ?_, upt_s _ _ _⟩, fun D hD => Or.inl (by rw [d1] at hD; cases hD; rfl), fun D hD => Or.inl (by rw [d2] at hD; cases hD; rfl), fun k hk => absurd hk List.not_mem_nil, fun k hk => absurd hk List.not_mem_nil⟩
  · rw [upt_n _ _ (ne_of_S hz k3), upt_n _ _ (ne_of_S hz k2), upt_n _ _ (ne_of_S hz k1), upt_n _ _ (ne_of_S hz ha)]
  · rw [upt_n _ _ (Ne.symm m3), upt_n _ _ (Ne.symm m2), upt_n _ _ (Ne.symm m1), upt_s]
  · rw [upt_n _ _ n2, upt_n _ _ n1, upt_s]
  · rw [upt_n _ _ n3, upt_s]
theorem RC.addP {E : Nat} {ow : Nat → Nat} {h h' : Hp} {x pL sL ha q : Nat} {ps ss : List Nat} {σ : ST} {p' : PS} (r : RC E ow h x pL sL ha ps ss σ) (hl : LiP E h pL h' (ps ++ [q])) (hp : PupAt E ow h (eN σ) q p') (hE : xS h' E = none) : ∃ ow3 : Nat → Nat, Kp (fun t => t ≠ 2 ∧ t ≠ 5) ow ow3 h h' ∧ RC E ow3 h' x pL sL ha (ps ++ [q]) ss ((eN σ + 1, upt (eP σ) (eN σ) p'), σ.2) := by
  obtain ⟨⟨a1, a2, a3, a4, a5⟩, ⟨b1, b2, b3, b4⟩, zp, zs, ⟨d1, d2⟩, ⟨e1, e2, e3, e4, e5, e6⟩, f1⟩ := r
  obtain ⟨ow3, k, ld⟩ := hl.kp e5 f1 b1.1 e2
  have T1 : ow x ≠ 2 ∧ ow x ≠ 5 := by omega
  have T3 : ow sL ≠ 2 ∧ ow sL ≠ 5 := by omega
  have T4 : ow ha ≠ 2 ∧ ow ha ≠ 5 := by omega
  refine ⟨ow3, k, ⟨k.S a1, by rw [k.P a1 T1, a2], by rw [k.P a1 T1, a3], by rw [k.P a1 T1, a4], k.S a5⟩, ⟨hl.1, b2.kp k T3 (LD.TT (T := fun t => t ≠ 2 ∧ t ≠ 5) e6 ⟨by decide, by decide⟩) f1, by rw [List.length_append, b3]; rfl, b4⟩, fun i b hb => ?_, fun j s hs => (zs j s hs).kp k (fun t ht => by show t ≠ 2 ∧ t ≠ 5; omega), ⟨fun s => by rw [k.A a5 T4, d1], by rw [k.F a1 T1, d2]⟩, ⟨by rw [k.O a1, e1], by rw [k.O b1.1, e2], by rw [k.O b2.1, e3], by rw [k.O a5, e4], ld, LD.kp k b2.1 T3 e6⟩, hE⟩
  by_cases c : i < ps.length
  · rw [List.getElem?_append_left c] at hb
    show PupAt E ow3 h' i b (upt (eP σ) (eN σ) p' i)
    rw [upt_n _ _ (by omega)]
    exact (zp i b hb).kp k f1 (fun t ht => by show t ≠ 2 ∧ t ≠ 5; omega)
  · have hlt : i < (ps ++ [q]).length := (List.getElem?_eq_some_iff.mp hb).1
    rw [List.length_append] at hlt
    have hi : i = ps.length := by have : [q].length = 1 := rfl; omega
    subst hi
    rw [List.getElem?_append_right (Nat.le_refl _), Nat.sub_self] at hb
    cases hb
    show PupAt E ow3 h' ps.length q (upt (eP σ) (eN σ) p' ps.length)
    rw [b3, upt_s]
    exact hp.kp k f1 (fun t ht => by show t ≠ 2 ∧ t ≠ 5; omega)
theorem RC.addS {E : Nat} {ow : Nat → Nat} {h h' : Hp} {x pL sL ha q : Nat} {ps ss : List Nat} {σ : ST} {s' : SS} (r : RC E ow h x pL sL ha ps ss σ) (hl : LiP E h sL h' (ss ++ [q])) (hp : ShowAt ow h (eM σ) q s') (hE : xS h' E = none) : ∃ ow3 : Nat → Nat, Kp (fun t => t ≠ 3 ∧ t ≠ 6) ow ow3 h h' ∧ RC E ow3 h' x pL sL ha ps (ss ++ [q]) (σ.1, (eM σ + 1, upt (eS σ) (eM σ) s'), σ.2.2) := by
  obtain ⟨⟨a1, a2, a3, a4, a5⟩, ⟨b1, b2, b3, b4⟩, zp, zs, ⟨d1, d2⟩, ⟨e1, e2, e3, e4, e5, e6⟩, f1⟩ := r
  obtain ⟨ow3, k, ld⟩ := hl.kp e6 f1 b2.1 e3
  have T1 : ow x ≠ 3 ∧ ow x ≠ 6 := by omega
  have T3 : ow pL ≠ 3 ∧ ow pL ≠ 6 := by omega
  have T4 : ow ha ≠ 3 ∧ ow ha ≠ 6 := by omega
  refine ⟨ow3, k, ⟨k.S a1, by rw [k.P a1 T1, a2], by rw [k.P a1 T1, a3], by rw [k.P a1 T1, a4], k.S a5⟩, ⟨b1.kp k T3 (LD.TT (T := fun t => t ≠ 3 ∧ t ≠ 6) e5 ⟨by decide, by decide⟩) f1, hl.1, b3, by rw [List.length_append, b4]; rfl⟩, fun i b hb => (zp i b hb).kp k f1 (fun t ht => by show t ≠ 3 ∧ t ≠ 6; omega), fun i b hb => ?_, ⟨fun s => by rw [k.A a5 T4, d1], by rw [k.F a1 T1, d2]⟩, ⟨by rw [k.O a1, e1], by rw [k.O b1.1, e2], by rw [k.O b2.1, e3], by rw [k.O a5, e4], LD.kp k b1.1 T3 e5, ld⟩, hE⟩
  by_cases c : i < ss.length
  · rw [List.getElem?_append_left c] at hb
    show ShowAt ow3 h' i b (upt (eS σ) (eM σ) s' i)
    rw [upt_n _ _ (by omega)]
    exact (zs i b hb).kp k (fun t ht => by show t ≠ 3 ∧ t ≠ 6; omega)
  · have hlt : i < (ss ++ [q]).length := (List.getElem?_eq_some_iff.mp hb).1
    rw [List.length_append] at hlt
    have hi : i = ss.length := by have : [q].length = 1 := rfl; omega
    subst hi
    rw [List.getElem?_append_right (Nat.le_refl _), Nat.sub_self] at hb
    cases hb
    show ShowAt ow3 h' ss.length q (upt (eS σ) (eM σ) s' ss.length)
    rw [b4, upt_s]
    exact hp.kp k (fun t ht => by show t ≠ 3 ∧ t ≠ 6; omega)
theorem Aft.mk {E : Nat} {ow ow' ow3 : Nat → Nat} {h h1 h2 : Hp} {x pL sL ha : Nat} {ps' ss' : List Nat} {σ' : ST} {T : Nat → Prop} (k : Kp (fun _ => True) ow ow' h h1) (k3 : Kp T ow' ow3 h1 h2) (h0 : T 0) (r : RC E ow3 h2 x pL sL ha ps' ss' σ') : Aft E ow h x pL sL ha σ' h2 := ⟨ow3, ps', ss', r, fun b z hz => (Kp.tr k k3).O hz, Ext.kp (Kp.tr k k3) h0⟩
def o_puppet (σ : ST) (b n : Int32) : OR := oIn b (nI 0) (nI 999) (oIn n (nI 0) (nI 1500) (if eN σ < 8 then .inr (nI (eN σ), ((eN σ + 1, upt (eP σ) (eN σ) (b, n, [], -1, 0, [])), σ.2)) else .inl "java/lang/IllegalStateException"))
set_option maxRecDepth 100000 in
set_option maxHeartbeats 4000000 in
theorem ct_o_puppet {g : Gl} {l : Launch} (hfl : l.stackTraces = false) (h : Hp) (x pL sL ha : Nat) (ow : Nat → Nat) (ps ss : List Nat) (σ : ST) (r : RC (gN g 2) ow h x pL sL ha ps ss σ) (hw : WF σ) (b n : Int32) : CT g l iX5_puppet 8 [.ref x, .int b, .int n] h 6 1540 (pOp (gN g 2) ow h x pL sL ha σ (o_puppet σ b n)) := by
  have r0 := r
  obtain ⟨⟨a1, a2, a3, a4, a5⟩, ⟨b1, b2, b3, b4⟩, zp, zs, ⟨d1, d2⟩, ⟨e1, e2, e3, e4, e5, e6⟩, f1⟩ := r
  have hl1 := b1.2.2.1
  have hl2 := b2.2.2.1
  obtain ⟨w1, w2, w3, w4, w5⟩ := hw
  refine ct_mk hfl (by decide) (Nat.le_of_ble_eq_true rfl) (by intro v hv; simp only [List.mem_cons, List.not_mem_nil, or_false] at hv; rcases hv with rfl | rfl | rfl <;> rfl) (fun V X M => ?_)
  have Mm := M.m
  show V 0 [some (.ref x), some (.int b), some (.int n)] [] _ 0 0
  refine r_iload_n Mm dX5_puppet_0 rfl ?_
  refine r_iconst (v := nI 0) Mm dX5_puppet_1 (by decide) ?_
  refine r_sipush (v := nI 999) Mm dX5_puppet_2 (by decide) ?_
  by_cases k1 : (nI 0) ≤ b ∧ b ≤ (nI 999)
  · refine r_callS (As := [(.int b), (.int (nI 0)), (.int (nI 999))]) Mm dX5_puppet_5 rfl (ct_needOk hfl h b (nI 0) (nI 999) k1.1 k1.2) cw_X5_33 ⟨Nat.le_of_ble_eq_true rfl, Nat.le_of_ble_eq_true rfl, Nat.le_of_ble_eq_true rfl⟩ (Nat.le_of_ble_eq_true rfl) ⟨Nat.le_of_ble_eq_true rfl, Nat.le_of_ble_eq_true rfl⟩ (fun r2 h3 p4 => ?_) (fun Er2 h3 p4 => False.elim p4)
    obtain ⟨rfl, rfl⟩ := p4
    show V 8 _ [] _ _ _
    refine r_iload_n Mm dX5_puppet_8 rfl ?_
    refine r_iconst (v := nI 0) Mm dX5_puppet_9 (by decide) ?_
    refine r_sipush (v := nI 1500) Mm dX5_puppet_10 (by decide) ?_
    by_cases k5 : (nI 0) ≤ n ∧ n ≤ (nI 1500)
    · refine r_callS (As := [(.int n), (.int (nI 0)), (.int (nI 1500))]) Mm dX5_puppet_13 rfl (ct_needOk hfl h n (nI 0) (nI 1500) k5.1 k5.2) cw_X5_33 ⟨Nat.le_of_ble_eq_true rfl, Nat.le_of_ble_eq_true rfl, Nat.le_of_ble_eq_true rfl⟩ (Nat.le_of_ble_eq_true rfl) ⟨Nat.le_of_ble_eq_true rfl, Nat.le_of_ble_eq_true rfl⟩ (fun r6 h7 p8 => ?_) (fun Er6 h7 p8 => False.elim p8)
      obtain ⟨rfl, rfl⟩ := p8
      show V 16 _ [] _ _ _
      refine r_aload_n Mm dX5_puppet_16 rfl ?_
      refine r_getR Mm dX5_puppet_17 fi_X5_10 (a1) rfl (i := 500) rfl (a2) ?_
      refine r_callV (As := []) Mm dX5_puppet_20 rfl (ct_lsize hfl h pL ps b1) (b1.1) rfl cw_X5_37 ⟨Nat.le_of_ble_eq_true rfl, Nat.le_of_ble_eq_true rfl, Nat.le_of_ble_eq_true rfl⟩ (Nat.le_of_ble_eq_true rfl) ⟨Nat.le_of_ble_eq_true rfl, Nat.le_of_ble_eq_true rfl⟩ (fun r9 h10 p11 => ?_) (fun Er9 h10 p11 => False.elim p11)
      obtain ⟨rfl, rfl⟩ := p11
      show V 23 _ [(.int (nI (ps.length)))] _ _ _
      refine r_bipush (v := nI 8) Mm dX5_puppet_23 (by decide) ?_
      refine r_icmp_ltN (tgt := 38) Mm dX5_puppet_25 (by decide) (by omega) (by omega) (fun c12 => ?_) (fun c12 => ?_)
      · refine r_aload_n Mm dX5_puppet_38 rfl ?_
        refine r_getR Mm dX5_puppet_39 fi_X5_10 (a1) rfl (i := 500) rfl (a2) ?_
        refine r_new Mm dX5_puppet_42 ki_2 rfl cl_X5_48 nw_2 ni_2 ⟨Nat.le_of_ble_eq_true rfl, Nat.le_of_ble_eq_true rfl⟩ (fun q13 hq13 => ?_)
        have s14 : xS (yN h q13 2 0) x = some (5, 0) := yN_S hq13 (a1)
        have s15 : xS (yN h q13 2 0) ha = some (8, 10) := yN_S hq13 (a5)
        have s16 : xS (yN h q13 2 0) pL = some (7, 0) := yN_S hq13 (b1.1)
        have s17 : xS (yN h q13 2 0) sL = some (7, 0) := yN_S hq13 (b2.1)
        have p18 : xP (yN h q13 2 0) 500 x = some pL := yN_P hq13 (a1) (a2)
        have p19 : xP (yN h q13 2 0) 501 x = some sL := yN_P hq13 (a1) (a3)
        have p20 : xP (yN h q13 2 0) 502 x = some ha := yN_P hq13 (a1) (a4)
        refine r_dup Mm dX5_puppet_45 rfl ?_
        refine r_iload_n Mm dX5_puppet_46 rfl ?_
        refine r_iload_n Mm dX5_puppet_47 rfl ?_
        refine r_callI (As := [(.int b), (.int n)]) Mm dX5_puppet_48 rfl (ct_pupInit hfl ((yN h q13 2 0)) q13 b n (yN_q)) cw_X5_50 ⟨Nat.le_of_ble_eq_true rfl, Nat.le_of_ble_eq_true rfl, Nat.le_of_ble_eq_true rfl⟩ (Nat.le_of_ble_eq_true rfl) ⟨Nat.le_of_ble_eq_true rfl, Nat.le_of_ble_eq_true rfl⟩ (fun r21 h22 p23 => ?_) (fun _ _ z => z)
        obtain ⟨rfl, nka, nma, npl, hnp⟩ := p23
        obtain ⟨ow1, kq, hpn⟩ := hnp.at (i := eN σ) (ow := ow) hq13
        refine r_ownE Mm (fun fE => ?_)
        have rg := r0.grow kq fE
        show V 51 _ [(.ref q13), (.ref pL)] _ _ _
        refine r_callV (As := [(.ref q13)]) Mm dX5_puppet_51 rfl (ct_add hfl h22 pL q13 ps (rg.2.1.1) (by omega) ⟨2, 0, _, hnp.1.1, rfl, ca_2⟩) (rg.2.1.1.1) rfl cw_X5_53 ⟨Nat.le_of_ble_eq_true rfl, Nat.le_of_ble_eq_true rfl, Nat.le_of_ble_eq_true rfl⟩ (Nat.le_of_ble_eq_true rfl) ⟨Nat.le_of_ble_eq_true rfl, Nat.le_of_ble_eq_true rfl⟩ (fun r24 h25 p26 => ?_) (fun Er24 h25 p26 => False.elim p26)
        obtain ⟨rfl, hLP⟩ := p26
        show V 54 _ [(.int (nI 1))] _ _ _
        refine r_pop Mm dX5_puppet_54 rfl ?_
        refine r_aload_n Mm dX5_puppet_55 rfl ?_
        refine r_getR Mm dX5_puppet_56 fi_X5_10 (hLP.2.1.S (rg.1.1)) rfl (i := 500) rfl ((hLP.2.1.P (rg.1.1) ((rg.2.1.1).nd fE (rg.1.1) (by decide) (by decide)) _).trans (rg.1.2.1)) ?_
        refine r_callV (As := []) Mm dX5_puppet_59 rfl (ct_lsize hfl h25 pL (ps ++ [q13]) hLP.1) (hLP.1.1) rfl cw_X5_37 ⟨Nat.le_of_ble_eq_true rfl, Nat.le_of_ble_eq_true rfl, Nat.le_of_ble_eq_true rfl⟩ (Nat.le_of_ble_eq_true rfl) ⟨Nat.le_of_ble_eq_true rfl, Nat.le_of_ble_eq_true rfl⟩ (fun r27 h28 p29 => ?_) (fun Er27 h28 p29 => False.elim p29)
        obtain ⟨rfl, rfl⟩ := p29
        refine r_top _ (nI (ps.length + 1)) (by rw [List.length_append]; rfl) ?_
        show V 62 _ [(.int (nI (ps.length + 1)))] _ _ _
        refine r_iconst (v := nI 1) Mm dX5_puppet_62 (by decide) ?_
        refine r_isubN Mm dX5_puppet_63 (by omega) ?_
        refine r_ownE Mm (fun fE2 => ?_)
        refine r_iret M dX5_puppet_64 ?_
        obtain ⟨ow3, k3, r3⟩ := rg.addP hLP hpn fE2
        rw [show ps.length + 1 - 1 = eN σ by omega]
        exact pOp.ret (by simp only [o_puppet, oIn_ok k1, oIn_ok k5, if_pos (by omega : eN σ < 8)]) (Aft.mk kq k3 ⟨by decide, by decide⟩ r3)
      · refine r_throw M ti_43 dX5_puppet_28 dX5_puppet_31 dX5_puppet_32 dX5_puppet_34 dX5_puppet_37 (by decide) (Nat.le_of_ble_eq_true rfl) ⟨Nat.le_of_ble_eq_true rfl, Nat.le_of_ble_eq_true rfl⟩ ?_
        exact pOp.thr (by simp only [o_puppet, oIn_ok k1, oIn_ok k5, if_neg (by omega : ¬ eN σ < 8)]) (Aft.rf r0)
    · refine r_callS (As := [(.int n), (.int (nI 0)), (.int (nI 1500))]) Mm dX5_puppet_13 rfl (ct_needBad hfl h n (nI 0) (nI 1500) (not_le2 k5)) cw_X5_33 ⟨Nat.le_of_ble_eq_true rfl, Nat.le_of_ble_eq_true rfl, Nat.le_of_ble_eq_true rfl⟩ (Nat.le_of_ble_eq_true rfl) ⟨Nat.le_of_ble_eq_true rfl, Nat.le_of_ble_eq_true rfl⟩ (fun r30 h31 p32 => False.elim p32) (fun Er30 h31 p32 => ?_)
      obtain ⟨rfl, rfl⟩ := p32
      refine x_out M ?_
      exact pOp.thr (by simp only [o_puppet, oIn_ok k1, oIn_no k5]) (Aft.rf r0)
  · refine r_callS (As := [(.int b), (.int (nI 0)), (.int (nI 999))]) Mm dX5_puppet_5 rfl (ct_needBad hfl h b (nI 0) (nI 999) (not_le2 k1)) cw_X5_33 ⟨Nat.le_of_ble_eq_true rfl, Nat.le_of_ble_eq_true rfl, Nat.le_of_ble_eq_true rfl⟩ (Nat.le_of_ble_eq_true rfl) ⟨Nat.le_of_ble_eq_true rfl, Nat.le_of_ble_eq_true rfl⟩ (fun r33 h34 p35 => False.elim p35) (fun Er33 h34 p35 => ?_)
    obtain ⟨rfl, rfl⟩ := p35
    refine x_out M ?_
    exact pOp.thr (by simp only [o_puppet, oIn_no k1]) (Aft.rf r0)
def o_show (σ : ST) (m n : Int32) : OR := oIn m (nI 0) (nI 100000) (oIn n (nI 1) (nI 600) (if eM σ < 6 then .inr (nI (eM σ), (σ.1, (eM σ + 1, upt (eS σ) (eM σ) ((m, n), (fun _ => false), 50, 0, false)), σ.2.2)) else .inl "java/lang/IllegalStateException"))
set_option maxRecDepth 100000 in
set_option maxHeartbeats 4000000 in
theorem ct_o_show {g : Gl} {l : Launch} (hfl : l.stackTraces = false) (h : Hp) (x pL sL ha : Nat) (ow : Nat → Nat) (ps ss : List Nat) (σ : ST) (r : RC (gN g 2) ow h x pL sL ha ps ss σ) (hw : WF σ) (m n : Int32) : CT g l iX5_show 8 [.ref x, .int m, .int n] h 6 1540 (pOp (gN g 2) ow h x pL sL ha σ (o_show σ m n)) := by
  have r0 := r
  obtain ⟨⟨a1, a2, a3, a4, a5⟩, ⟨b1, b2, b3, b4⟩, zp, zs, ⟨d1, d2⟩, ⟨e1, e2, e3, e4, e5, e6⟩, f1⟩ := r
  have hl1 := b1.2.2.1
  have hl2 := b2.2.2.1
  obtain ⟨w1, w2, w3, w4, w5⟩ := hw
  refine ct_mk hfl (by decide) (Nat.le_of_ble_eq_true rfl) (by intro v hv; simp only [List.mem_cons, List.not_mem_nil, or_false] at hv; rcases hv with rfl | rfl | rfl <;> rfl) (fun V X M => ?_)
  have Mm := M.m
  show V 0 [some (.ref x), some (.int m), some (.int n)] [] _ 0 0
  refine r_iload_n Mm dX5_show_0 rfl ?_
  refine r_iconst (v := nI 0) Mm dX5_show_1 (by decide) ?_
  refine r_ldc (v := nI 100000) Mm dX5_show_2 (by rw [show nI 100000 = 100000 from rfl]; exact cc_X5_99) ?_
  by_cases k1 : (nI 0) ≤ m ∧ m ≤ (nI 100000)
  · refine r_callS (As := [(.int m), (.int (nI 0)), (.int (nI 100000))]) Mm dX5_show_4 rfl (ct_needOk hfl h m (nI 0) (nI 100000) k1.1 k1.2) cw_X5_33 ⟨Nat.le_of_ble_eq_true rfl, Nat.le_of_ble_eq_true rfl, Nat.le_of_ble_eq_true rfl⟩ (Nat.le_of_ble_eq_true rfl) ⟨Nat.le_of_ble_eq_true rfl, Nat.le_of_ble_eq_true rfl⟩ (fun r2 h3 p4 => ?_) (fun Er2 h3 p4 => False.elim p4)
    obtain ⟨rfl, rfl⟩ := p4
    show V 7 _ [] _ _ _
    refine r_iload_n Mm dX5_show_7 rfl ?_
    refine r_iconst (v := nI 1) Mm dX5_show_8 (by decide) ?_
    refine r_sipush (v := nI 600) Mm dX5_show_9 (by decide) ?_
    by_cases k5 : (nI 1) ≤ n ∧ n ≤ (nI 600)
    · refine r_callS (As := [(.int n), (.int (nI 1)), (.int (nI 600))]) Mm dX5_show_12 rfl (ct_needOk hfl h n (nI 1) (nI 600) k5.1 k5.2) cw_X5_33 ⟨Nat.le_of_ble_eq_true rfl, Nat.le_of_ble_eq_true rfl, Nat.le_of_ble_eq_true rfl⟩ (Nat.le_of_ble_eq_true rfl) ⟨Nat.le_of_ble_eq_true rfl, Nat.le_of_ble_eq_true rfl⟩ (fun r6 h7 p8 => ?_) (fun Er6 h7 p8 => False.elim p8)
      obtain ⟨rfl, rfl⟩ := p8
      show V 15 _ [] _ _ _
      refine r_aload_n Mm dX5_show_15 rfl ?_
      refine r_getR Mm dX5_show_16 fi_X5_16 (a1) rfl (i := 501) rfl (a3) ?_
      refine r_callV (As := []) Mm dX5_show_19 rfl (ct_lsize hfl h sL ss b2) (b2.1) rfl cw_X5_37 ⟨Nat.le_of_ble_eq_true rfl, Nat.le_of_ble_eq_true rfl, Nat.le_of_ble_eq_true rfl⟩ (Nat.le_of_ble_eq_true rfl) ⟨Nat.le_of_ble_eq_true rfl, Nat.le_of_ble_eq_true rfl⟩ (fun r9 h10 p11 => ?_) (fun Er9 h10 p11 => False.elim p11)
      obtain ⟨rfl, rfl⟩ := p11
      show V 22 _ [(.int (nI (ss.length)))] _ _ _
      refine r_bipush (v := nI 6) Mm dX5_show_22 (by decide) ?_
      refine r_icmp_ltN (tgt := 37) Mm dX5_show_24 (by decide) (by omega) (by omega) (fun c12 => ?_) (fun c12 => ?_)
      · refine r_aload_n Mm dX5_show_37 rfl ?_
        refine r_getR Mm dX5_show_38 fi_X5_16 (a1) rfl (i := 501) rfl (a3) ?_
        refine r_new Mm dX5_show_41 ki_3 rfl cl_X5_102 nw_3 ni_3 ⟨Nat.le_of_ble_eq_true rfl, Nat.le_of_ble_eq_true rfl⟩ (fun q13 hq13 => ?_)
        have s14 : xS (yN h q13 3 0) x = some (5, 0) := yN_S hq13 (a1)
        have s15 : xS (yN h q13 3 0) ha = some (8, 10) := yN_S hq13 (a5)
        have s16 : xS (yN h q13 3 0) pL = some (7, 0) := yN_S hq13 (b1.1)
        have s17 : xS (yN h q13 3 0) sL = some (7, 0) := yN_S hq13 (b2.1)
        have p18 : xP (yN h q13 3 0) 500 x = some pL := yN_P hq13 (a1) (a2)
        have p19 : xP (yN h q13 3 0) 501 x = some sL := yN_P hq13 (a1) (a3)
        have p20 : xP (yN h q13 3 0) 502 x = some ha := yN_P hq13 (a1) (a4)
        refine r_dup Mm dX5_show_44 rfl ?_
        refine r_new Mm dX5_show_45 ki_4 rfl cl_X5_104 nw_4 ni_4 ⟨Nat.le_of_ble_eq_true rfl, Nat.le_of_ble_eq_true rfl⟩ (fun q21 hq21 => ?_)
        have s22 : xS (yN (yN h q13 3 0) q21 4 0) x = some (5, 0) := yN_S hq21 (s14)
        have s23 : xS (yN (yN h q13 3 0) q21 4 0) ha = some (8, 10) := yN_S hq21 (s15)
        have s24 : xS (yN (yN h q13 3 0) q21 4 0) pL = some (7, 0) := yN_S hq21 (s16)
        have s25 : xS (yN (yN h q13 3 0) q21 4 0) sL = some (7, 0) := yN_S hq21 (s17)
        have s26 : xS (yN (yN h q13 3 0) q21 4 0) q13 = some (3, 0) := yN_S hq21 (yN_q)
        have p27 : xP (yN (yN h q13 3 0) q21 4 0) 500 x = some pL := yN_P hq21 (s14) (p18)
        have p28 : xP (yN (yN h q13 3 0) q21 4 0) 501 x = some sL := yN_P hq21 (s14) (p19)
        have p29 : xP (yN (yN h q13 3 0) q21 4 0) 502 x = some ha := yN_P hq21 (s14) (p20)
        refine r_dup Mm dX5_show_48 rfl ?_
        refine r_iload_n Mm dX5_show_49 rfl ?_
        refine r_iload_n Mm dX5_show_50 rfl ?_
        refine r_callI (As := [(.int m), (.int n)]) Mm dX5_show_51 rfl (ct_span hfl ((yN (yN h q13 3 0) q21 4 0)) q21 m n (yN_q)) cw_X5_106 ⟨Nat.le_of_ble_eq_true rfl, Nat.le_of_ble_eq_true rfl, Nat.le_of_ble_eq_true rfl⟩ (Nat.le_of_ble_eq_true rfl) ⟨Nat.le_of_ble_eq_true rfl, Nat.le_of_ble_eq_true rfl⟩ (fun r30 h31 p32 => ?_) (fun _ _ z => z)
        obtain ⟨rfl, rfl⟩ := p32
        have s33 : xS (yF (yF (yN (yN h q13 3 0) q21 4 0) 400 q21 m) 401 q21 n) x = some (5, 0) := sF (sF (s22))
        have s34 : xS (yF (yF (yN (yN h q13 3 0) q21 4 0) 400 q21 m) 401 q21 n) ha = some (8, 10) := sF (sF (s23))
        have s35 : xS (yF (yF (yN (yN h q13 3 0) q21 4 0) 400 q21 m) 401 q21 n) pL = some (7, 0) := sF (sF (s24))
        have s36 : xS (yF (yF (yN (yN h q13 3 0) q21 4 0) 400 q21 m) 401 q21 n) sL = some (7, 0) := sF (sF (s25))
        have s37 : xS (yF (yF (yN (yN h q13 3 0) q21 4 0) 400 q21 m) 401 q21 n) q13 = some (3, 0) := sF (sF (s26))
        have s38 : xS (yF (yF (yN (yN h q13 3 0) q21 4 0) 400 q21 m) 401 q21 n) q21 = some (4, 0) := sF (sF (yN_q))
        have p39 : xP (yF (yF (yN (yN h q13 3 0) q21 4 0) 400 q21 m) 401 q21 n) 500 x = some pL := pF (pF (p27))
        have p40 : xP (yF (yF (yN (yN h q13 3 0) q21 4 0) 400 q21 m) 401 q21 n) 501 x = some sL := pF (pF (p28))
        have p41 : xP (yF (yF (yN (yN h q13 3 0) q21 4 0) 400 q21 m) 401 q21 n) 502 x = some ha := pF (pF (p29))
        show V 54 _ [(.ref q21), (.ref q13), (.ref q13), (.ref sL)] _ _ _
        refine r_callI (As := [(.ref q21)]) Mm dX5_show_54 rfl (ct_showInit hfl ((yF (yF (yN (yN h q13 3 0) q21 4 0) 400 q21 m) 401 q21 n)) q13 q21 (s37)) cw_X5_107 ⟨Nat.le_of_ble_eq_true rfl, Nat.le_of_ble_eq_true rfl, Nat.le_of_ble_eq_true rfl⟩ (Nat.le_of_ble_eq_true rfl) ⟨Nat.le_of_ble_eq_true rfl, Nat.le_of_ble_eq_true rfl⟩ (fun r42 h43 p44 => ?_) (fun _ _ z => z)
        obtain ⟨A, hA, rfl, hsh⟩ := p44
        have s45 : xS (yN (yP (yF (yF (yN (yN h q13 3 0) q21 4 0) 400 q21 m) 401 q21 n) 300 q13 (some q21)) A 9 8) x = some (5, 0) := yN_S hA (sP (s33))
        have s46 : xS (yN (yP (yF (yF (yN (yN h q13 3 0) q21 4 0) 400 q21 m) 401 q21 n) 300 q13 (some q21)) A 9 8) ha = some (8, 10) := yN_S hA (sP (s34))
        have s47 : xS (yN (yP (yF (yF (yN (yN h q13 3 0) q21 4 0) 400 q21 m) 401 q21 n) 300 q13 (some q21)) A 9 8) pL = some (7, 0) := yN_S hA (sP (s35))
        have s48 : xS (yN (yP (yF (yF (yN (yN h q13 3 0) q21 4 0) 400 q21 m) 401 q21 n) 300 q13 (some q21)) A 9 8) sL = some (7, 0) := yN_S hA (sP (s36))
        have s49 : xS (yN (yP (yF (yF (yN (yN h q13 3 0) q21 4 0) 400 q21 m) 401 q21 n) 300 q13 (some q21)) A 9 8) q13 = some (3, 0) := yN_S hA (sP (s37))
        have s50 : xS (yN (yP (yF (yF (yN (yN h q13 3 0) q21 4 0) 400 q21 m) 401 q21 n) 300 q13 (some q21)) A 9 8) q21 = some (4, 0) := yN_S hA (sP (s38))
        have p51 : xP (yN (yP (yF (yF (yN (yN h q13 3 0) q21 4 0) 400 q21 m) 401 q21 n) 300 q13 (some q21)) A 9 8) 500 x = some pL := yN_P hA (sP (s33)) (pP (by decide) (p39))
        have p52 : xP (yN (yP (yF (yF (yN (yN h q13 3 0) q21 4 0) 400 q21 m) 401 q21 n) 300 q13 (some q21)) A 9 8) 501 x = some sL := yN_P hA (sP (s33)) (pP (by decide) (p40))
        have p53 : xP (yN (yP (yF (yF (yN (yN h q13 3 0) q21 4 0) 400 q21 m) 401 q21 n) 300 q13 (some q21)) A 9 8) 502 x = some ha := yN_P hA (sP (s33)) (pP (by decide) (p41))
        have p54 : xP (yN (yP (yF (yF (yN (yN h q13 3 0) q21 4 0) 400 q21 m) 401 q21 n) 300 q13 (some q21)) A 9 8) 300 q13 = some q21 := yN_P hA (sP (s37)) (pP_s)
        subst hsh
        have s55 : xS (yF (yF (yF (yF (yP (yN (yP (yF (yF (yN (yN h q13 3 0) q21 4 0) 400 q21 m) 401 q21 n) 300 q13 (some q21)) A 9 8) 301 q13 (some A)) 302 q13 (nI 0)) 303 q13 (nI 50)) 304 q13 (nI 0)) 305 q13 (nI 0)) x = some (5, 0) := sF (sF (sF (sF (sP (s45)))))
        have s56 : xS (yF (yF (yF (yF (yP (yN (yP (yF (yF (yN (yN h q13 3 0) q21 4 0) 400 q21 m) 401 q21 n) 300 q13 (some q21)) A 9 8) 301 q13 (some A)) 302 q13 (nI 0)) 303 q13 (nI 50)) 304 q13 (nI 0)) 305 q13 (nI 0)) ha = some (8, 10) := sF (sF (sF (sF (sP (s46)))))
        have s57 : xS (yF (yF (yF (yF (yP (yN (yP (yF (yF (yN (yN h q13 3 0) q21 4 0) 400 q21 m) 401 q21 n) 300 q13 (some q21)) A 9 8) 301 q13 (some A)) 302 q13 (nI 0)) 303 q13 (nI 50)) 304 q13 (nI 0)) 305 q13 (nI 0)) pL = some (7, 0) := sF (sF (sF (sF (sP (s47)))))
        have s58 : xS (yF (yF (yF (yF (yP (yN (yP (yF (yF (yN (yN h q13 3 0) q21 4 0) 400 q21 m) 401 q21 n) 300 q13 (some q21)) A 9 8) 301 q13 (some A)) 302 q13 (nI 0)) 303 q13 (nI 50)) 304 q13 (nI 0)) 305 q13 (nI 0)) sL = some (7, 0) := sF (sF (sF (sF (sP (s48)))))
        have s59 : xS (yF (yF (yF (yF (yP (yN (yP (yF (yF (yN (yN h q13 3 0) q21 4 0) 400 q21 m) 401 q21 n) 300 q13 (some q21)) A 9 8) 301 q13 (some A)) 302 q13 (nI 0)) 303 q13 (nI 50)) 304 q13 (nI 0)) 305 q13 (nI 0)) q13 = some (3, 0) := sF (sF (sF (sF (sP (s49)))))
        have s60 : xS (yF (yF (yF (yF (yP (yN (yP (yF (yF (yN (yN h q13 3 0) q21 4 0) 400 q21 m) 401 q21 n) 300 q13 (some q21)) A 9 8) 301 q13 (some A)) 302 q13 (nI 0)) 303 q13 (nI 50)) 304 q13 (nI 0)) 305 q13 (nI 0)) q21 = some (4, 0) := sF (sF (sF (sF (sP (s50)))))
        have s61 : xS (yF (yF (yF (yF (yP (yN (yP (yF (yF (yN (yN h q13 3 0) q21 4 0) 400 q21 m) 401 q21 n) 300 q13 (some q21)) A 9 8) 301 q13 (some A)) 302 q13 (nI 0)) 303 q13 (nI 50)) 304 q13 (nI 0)) 305 q13 (nI 0)) A = some (9, 8) := sF (sF (sF (sF (sP (yN_q)))))
        have p62 : xP (yF (yF (yF (yF (yP (yN (yP (yF (yF (yN (yN h q13 3 0) q21 4 0) 400 q21 m) 401 q21 n) 300 q13 (some q21)) A 9 8) 301 q13 (some A)) 302 q13 (nI 0)) 303 q13 (nI 50)) 304 q13 (nI 0)) 305 q13 (nI 0)) 500 x = some pL := pF (pF (pF (pF (pP (by decide) (p51)))))
        have p63 : xP (yF (yF (yF (yF (yP (yN (yP (yF (yF (yN (yN h q13 3 0) q21 4 0) 400 q21 m) 401 q21 n) 300 q13 (some q21)) A 9 8) 301 q13 (some A)) 302 q13 (nI 0)) 303 q13 (nI 50)) 304 q13 (nI 0)) 305 q13 (nI 0)) 501 x = some sL := pF (pF (pF (pF (pP (by decide) (p52)))))
        have p64 : xP (yF (yF (yF (yF (yP (yN (yP (yF (yF (yN (yN h q13 3 0) q21 4 0) 400 q21 m) 401 q21 n) 300 q13 (some q21)) A 9 8) 301 q13 (some A)) 302 q13 (nI 0)) 303 q13 (nI 50)) 304 q13 (nI 0)) 305 q13 (nI 0)) 502 x = some ha := pF (pF (pF (pF (pP (by decide) (p53)))))
        have p65 : xP (yF (yF (yF (yF (yP (yN (yP (yF (yF (yN (yN h q13 3 0) q21 4 0) 400 q21 m) 401 q21 n) 300 q13 (some q21)) A 9 8) 301 q13 (some A)) 302 q13 (nI 0)) 303 q13 (nI 50)) 304 q13 (nI 0)) 305 q13 (nI 0)) 300 q13 = some q21 := pF (pF (pF (pF (pP (by decide) (p54)))))
        have p66 : xP (yF (yF (yF (yF (yP (yN (yP (yF (yF (yN (yN h q13 3 0) q21 4 0) 400 q21 m) 401 q21 n) 300 q13 (some q21)) A 9 8) 301 q13 (some A)) 302 q13 (nI 0)) 303 q13 (nI 50)) 304 q13 (nI 0)) 305 q13 (nI 0)) 301 q13 = some A := pF (pF (pF (pF (pP_s))))
        refine r_ownE Mm (fun fE => ?_)
        have gS := hq13
        have gsp := hq21
        simp only [zxS_yF, zxF_yF, zxP_yF, zxA_yF, zxB_yF, zxL_yF, zxS_yP, zxF_yP, zxP_yP, zxA_yP, zxB_yP, zxL_yP, zxS_yA, zxF_yA, zxP_yA, zxA_yA, zxB_yA, zxL_yA, zxS_yB, zxF_yB, zxP_yB, zxA_yB, zxB_yB, zxL_yB, zxS_yL, zxF_yL, zxP_yL, zxA_yL, zxB_yL, zxL_yL, zxS_yN, zxF_yN, zxP_yN, zxA_yN, zxB_yN, zxL_yN, Nat.reduceEqDiff, false_and, and_false, true_and, and_true, and_self, ite_false, ite_true, ite_self] at gsp
        obtain ⟨nspS, gsp⟩ := ite_none gsp
        have gA := hA
        simp only [zxS_yF, zxF_yF, zxP_yF, zxA_yF, zxB_yF, zxL_yF, zxS_yP, zxF_yP, zxP_yP, zxA_yP, zxB_yP, zxL_yP, zxS_yA, zxF_yA, zxP_yA, zxA_yA, zxB_yA, zxL_yA, zxS_yB, zxF_yB, zxP_yB, zxA_yB, zxB_yB, zxL_yB, zxS_yL, zxF_yL, zxP_yL, zxA_yL, zxB_yL, zxL_yL, zxS_yN, zxF_yN, zxP_yN, zxA_yN, zxB_yN, zxL_yN, Nat.reduceEqDiff, false_and, and_false, true_and, and_true, and_self, ite_false, ite_true, ite_self] at gA
        obtain ⟨nAsp, gA⟩ := ite_none gA
        obtain ⟨nAS, gA⟩ := ite_none gA
        have fr0 : Fr (fun b => b = q13 ∨ b = q21) h ((yF (yF (yF (yF (yP (yN (yP (yF (yF (yN (yN h q13 3 0) q21 4 0) 400 q21 m) 401 q21 n) 300 q13 (some q21)) A 9 8) 301 q13 (some A)) 302 q13 (nI 0)) 303 q13 (nI 50)) 304 q13 (nI 0)) 305 q13 (nI 0))) := by
          refine Fr.tr ?_ (Fr.yF (Or.inl rfl))
          refine Fr.tr ?_ (Fr.yF (Or.inl rfl))
          refine Fr.tr ?_ (Fr.yF (Or.inl rfl))
          refine Fr.tr ?_ (Fr.yF (Or.inl rfl))
          refine Fr.tr ?_ (Fr.yP (Or.inl rfl))
          refine Fr.tr ?_ (Fr.yN hA)
          refine Fr.tr ?_ (Fr.yP (Or.inl rfl))
          refine Fr.tr ?_ (Fr.yF (Or.inr rfl))
          refine Fr.tr ?_ (Fr.yF (Or.inr rfl))
          refine Fr.tr ?_ (Fr.yN hq21)
          refine Fr.tr ?_ (Fr.yN hq13)
          exact Fr.rf
        have kq : Kp (fun _ => True) ow (upt (upt (upt ow q13 (10000 + 8 * eM σ)) q21 7) A (10001 + 8 * eM σ)) h ((yF (yF (yF (yF (yP (yN (yP (yF (yF (yN (yN h q13 3 0) q21 4 0) 400 q21 m) 401 q21 n) 300 q13 (some q21)) A 9 8) 301 q13 (some A)) 302 q13 (nI 0)) 303 q13 (nI 50)) 304 q13 (nI 0)) 305 q13 (nI 0))) := Kp.of fr0 (fun b z hz => by rw [upt_n _ _ (ne_of_S hz gA), upt_n _ _ (ne_of_S hz gsp), upt_n _ _ (ne_of_S hz gS)]) (fun b z hz _ e => e.elim (fun e => ne_of_S hz gS e) (fun e => ne_of_S hz gsp e))
        have rg := r0.grow kq fE
        have hsn : ShowAt (upt (upt (upt ow q13 (10000 + 8 * eM σ)) q21 7) A (10001 + 8 * eM σ)) ((yF (yF (yF (yF (yP (yN (yP (yF (yF (yN (yN h q13 3 0) q21 4 0) 400 q21 m) 401 q21 n) 300 q13 (some q21)) A 9 8) 301 q13 (some A)) 302 q13 (nI 0)) 303 q13 (nI 50)) 304 q13 (nI 0)) 305 q13 (nI 0))) (eM σ) q13 ((m, n), (fun _ => false), 50, 0, false) := ⟨q21, A, s59, p65, s60, by rw [upt_n _ _ (Ne.symm nAsp), upt_s], by simp only [sv, zxS_yF, zxF_yF, zxP_yF, zxA_yF, zxB_yF, zxL_yF, zxS_yP, zxF_yP, zxP_yP, zxA_yP, zxB_yP, zxL_yP, zxS_yA, zxF_yA, zxP_yA, zxA_yA, zxB_yA, zxL_yA, zxS_yB, zxF_yB, zxP_yB, zxA_yB, zxB_yB, zxL_yB, zxS_yL, zxF_yL, zxP_yL, zxA_yL, zxB_yL, zxL_yL, zxS_yN, zxF_yN, zxP_yN, zxA_yN, zxB_yN, zxL_yN, Nat.reduceEqDiff, false_and, and_false, true_and, and_true, and_self, ite_false, ite_true, ite_self, nspS, Ne.symm nspS, nAsp, Ne.symm nAsp, nAS, Ne.symm nAS], p66, s61, fun q => by simp only [zxS_yF, zxF_yF, zxP_yF, zxA_yF, zxB_yF, zxL_yF, zxS_yP, zxF_yP, zxP_yP, zxA_yP, zxB_yP, zxL_yP, zxS_yA, zxF_yA, zxP_yA, zxA_yA, zxB_yA, zxL_yA, zxS_yB, zxF_yB, zxP_yB, zxA_yB, zxB_yB, zxL_yB, zxS_yL, zxF_yL, zxP_yL, zxA_yL, zxB_yL, zxL_yL, zxS_yN, zxF_yN, zxP_yN, zxA_yN, zxB_yN, zxL_yN, Nat.reduceEqDiff, false_and, and_false, true_and, and_true, and_self, ite_false, ite_true, ite_self, nspS, Ne.symm nspS, nAsp, Ne.symm nAsp, nAS, Ne.symm nAS]; rfl, (show xF ((yF (yF (yF (yF (yP (yN (yP (yF (yF (yN (yN h q13 3 0) q21 4 0) 400 q21 m) 401 q21 n) 300 q13 (some q21)) A 9 8) 301 q13 (some A)) 302 q13 (nI 0)) 303 q13 (nI 50)) 304 q13 (nI 0)) 305 q13 (nI 0))) 302 q13 = nI 0 by simp only [zxS_yF, zxF_yF, zxP_yF, zxA_yF, zxB_yF, zxL_yF, zxS_yP, zxF_yP, zxP_yP, zxA_yP, zxB_yP, zxL_yP, zxS_yA, zxF_yA, zxP_yA, zxA_yA, zxB_yA, zxL_yA, zxS_yB, zxF_yB, zxP_yB, zxA_yB, zxB_yB, zxL_yB, zxS_yL, zxF_yL, zxP_yL, zxA_yL, zxB_yL, zxL_yL, zxS_yN, zxF_yN, zxP_yN, zxA_yN, zxB_yN, zxL_yN, Nat.reduceEqDiff, false_and, and_false, true_and, and_true, and_self, ite_false, ite_true, ite_self, nspS, Ne.symm nspS, nAsp, Ne.symm nAsp, nAS, Ne.symm nAS]).trans rfl, by simp only [zxS_yF, zxF_yF, zxP_yF, zxA_yF, zxB_yF, zxL_yF, zxS_yP, zxF_yP, zxP_yP, zxA_yP, zxB_yP, zxL_yP, zxS_yA, zxF_yA, zxP_yA, zxA_yA, zxB_yA, zxL_yA, zxS_yB, zxF_yB, zxP_yB, zxA_yB, zxB_yB, zxL_yB, zxS_yL, zxF_yL, zxP_yL, zxA_yL, zxB_yL, zxL_yL, zxS_yN, zxF_yN, zxP_yN, zxA_yN, zxB_yN, zxL_yN, Nat.reduceEqDiff, false_and, and_false, true_and, and_true, and_self, ite_false, ite_true, ite_self, nspS, Ne.symm nspS, nAsp, Ne.symm nAsp, nAS, Ne.symm nAS], (show xF ((yF (yF (yF (yF (yP (yN (yP (yF (yF (yN (yN h q13 3 0) q21 4 0) 400 q21 m) 401 q21 n) 300 q13 (some q21)) A 9 8) 301 q13 (some A)) 302 q13 (nI 0)) 303 q13 (nI 50)) 304 q13 (nI 0)) 305 q13 (nI 0))) 304 q13 = nI 0 by simp only [zxS_yF, zxF_yF, zxP_yF, zxA_yF, zxB_yF, zxL_yF, zxS_yP, zxF_yP, zxP_yP, zxA_yP, zxB_yP, zxL_yP, zxS_yA, zxF_yA, zxP_yA, zxA_yA, zxB_yA, zxL_yA, zxS_yB, zxF_yB, zxP_yB, zxA_yB, zxB_yB, zxL_yB, zxS_yL, zxF_yL, zxP_yL, zxA_yL, zxB_yL, zxL_yL, zxS_yN, zxF_yN, zxP_yN, zxA_yN, zxB_yN, zxL_yN, Nat.reduceEqDiff, false_and, and_false, true_and, and_true, and_self, ite_false, ite_true, ite_self, nspS, Ne.symm nspS, nAsp, Ne.symm nAsp, nAS, Ne.symm nAS]).trans rfl, (show xF ((yF (yF (yF (yF (yP (yN (yP (yF (yF (yN (yN h q13 3 0) q21 4 0) 400 q21 m) 401 q21 n) 300 q13 (some q21)) A 9 8) 301 q13 (some A)) 302 q13 (nI 0)) 303 q13 (nI 50)) 304 q13 (nI 0)) 305 q13 (nI 0))) 305 q13 = nI 0 by simp only [zxS_yF, zxF_yF, zxP_yF, zxA_yF, zxB_yF, zxL_yF, zxS_yP, zxF_yP, zxP_yP, zxA_yP, zxB_yP, zxL_yP, zxS_yA, zxF_yA, zxP_yA, zxA_yA, zxB_yA, zxL_yA, zxS_yB, zxF_yB, zxP_yB, zxA_yB, zxB_yB, zxL_yB, zxS_yL, zxF_yL, zxP_yL, zxA_yL, zxB_yL, zxL_yL, zxS_yN, zxF_yN, zxP_yN, zxA_yN, zxB_yN, zxL_yN, Nat.reduceEqDiff, false_and, and_false, true_and, and_true, and_self, ite_false, ite_true, ite_self, nspS, Ne.symm nspS, nAsp, Ne.symm nAsp, nAS, Ne.symm nAS]).trans rfl, by rw [upt_n _ _ (Ne.symm nAS), upt_n _ _ (Ne.symm nspS), upt_s], upt_s _ _ _⟩
        show V 57 _ [(.ref q13), (.ref sL)] _ _ _
        refine r_callV (As := [(.ref q13)]) Mm dX5_show_57 rfl (ct_add hfl ((yF (yF (yF (yF (yP (yN (yP (yF (yF (yN (yN h q13 3 0) q21 4 0) 400 q21 m) 401 q21 n) 300 q13 (some q21)) A 9 8) 301 q13 (some A)) 302 q13 (nI 0)) 303 q13 (nI 50)) 304 q13 (nI 0)) 305 q13 (nI 0))) sL q13 ss (rg.2.1.2.1) (by omega) ⟨3, 0, _, s59, rfl, ca_3⟩) (s58) rfl cw_X5_53 ⟨Nat.le_of_ble_eq_true rfl, Nat.le_of_ble_eq_true rfl, Nat.le_of_ble_eq_true rfl⟩ (Nat.le_of_ble_eq_true rfl) ⟨Nat.le_of_ble_eq_true rfl, Nat.le_of_ble_eq_true rfl⟩ (fun r67 h68 p69 => ?_) (fun Er67 h68 p69 => False.elim p69)
        obtain ⟨rfl, hLP⟩ := p69
        show V 60 _ [(.int (nI 1))] _ _ _
        refine r_pop Mm dX5_show_60 rfl ?_
        refine r_aload_n Mm dX5_show_61 rfl ?_
        refine r_getR Mm dX5_show_62 fi_X5_16 (hLP.2.1.S (s55)) rfl (i := 501) rfl ((hLP.2.1.P (s55) ((rg.2.1.2.1).nd fE (s55) (by decide) (by decide)) _).trans (p63)) ?_
        refine r_callV (As := []) Mm dX5_show_65 rfl (ct_lsize hfl h68 sL (ss ++ [q13]) hLP.1) (hLP.1.1) rfl cw_X5_37 ⟨Nat.le_of_ble_eq_true rfl, Nat.le_of_ble_eq_true rfl, Nat.le_of_ble_eq_true rfl⟩ (Nat.le_of_ble_eq_true rfl) ⟨Nat.le_of_ble_eq_true rfl, Nat.le_of_ble_eq_true rfl⟩ (fun r70 h71 p72 => ?_) (fun Er70 h71 p72 => False.elim p72)
        obtain ⟨rfl, rfl⟩ := p72
        refine r_top _ (nI (ss.length + 1)) (by rw [List.length_append]; rfl) ?_
        show V 68 _ [(.int (nI (ss.length + 1)))] _ _ _
        refine r_iconst (v := nI 1) Mm dX5_show_68 (by decide) ?_
        refine r_isubN Mm dX5_show_69 (by omega) ?_
        refine r_ownE Mm (fun fE2 => ?_)
        refine r_iret M dX5_show_70 ?_
        obtain ⟨ow3, k3, r3⟩ := rg.addS hLP hsn fE2
        rw [show ss.length + 1 - 1 = eM σ by omega]
        exact pOp.ret (by simp only [o_show, oIn_ok k1, oIn_ok k5, if_pos (by omega : eM σ < 6)]) (Aft.mk kq k3 ⟨by decide, by decide⟩ r3)
      · refine r_throw M ti_100 dX5_show_27 dX5_show_30 dX5_show_31 dX5_show_33 dX5_show_36 (by decide) (Nat.le_of_ble_eq_true rfl) ⟨Nat.le_of_ble_eq_true rfl, Nat.le_of_ble_eq_true rfl⟩ ?_
        exact pOp.thr (by simp only [o_show, oIn_ok k1, oIn_ok k5, if_neg (by omega : ¬ eM σ < 6)]) (Aft.rf r0)
    · refine r_callS (As := [(.int n), (.int (nI 1)), (.int (nI 600))]) Mm dX5_show_12 rfl (ct_needBad hfl h n (nI 1) (nI 600) (not_le2 k5)) cw_X5_33 ⟨Nat.le_of_ble_eq_true rfl, Nat.le_of_ble_eq_true rfl, Nat.le_of_ble_eq_true rfl⟩ (Nat.le_of_ble_eq_true rfl) ⟨Nat.le_of_ble_eq_true rfl, Nat.le_of_ble_eq_true rfl⟩ (fun r73 h74 p75 => False.elim p75) (fun Er73 h74 p75 => ?_)
      obtain ⟨rfl, rfl⟩ := p75
      refine x_out M ?_
      exact pOp.thr (by simp only [o_show, oIn_ok k1, oIn_no k5]) (Aft.rf r0)
  · refine r_callS (As := [(.int m), (.int (nI 0)), (.int (nI 100000))]) Mm dX5_show_4 rfl (ct_needBad hfl h m (nI 0) (nI 100000) (not_le2 k1)) cw_X5_33 ⟨Nat.le_of_ble_eq_true rfl, Nat.le_of_ble_eq_true rfl, Nat.le_of_ble_eq_true rfl⟩ (Nat.le_of_ble_eq_true rfl) ⟨Nat.le_of_ble_eq_true rfl, Nat.le_of_ble_eq_true rfl⟩ (fun r76 h77 p78 => False.elim p78) (fun Er76 h77 p78 => ?_)
    obtain ⟨rfl, rfl⟩ := p78
    refine x_out M ?_
    exact pOp.thr (by simp only [o_show, oIn_no k1]) (Aft.rf r0)
