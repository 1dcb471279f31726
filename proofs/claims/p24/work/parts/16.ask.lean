/-! ===== the calls that ask ===== -/
def okP (p : PS) : Prop := (∃ b ≤ 999, qBar p = nI b) ∧ (∃ n ≤ 1500, qLen p = nI n) ∧ SortK (qKeys p) ∧ (qKeys p).length ≤ 12 ∧ (∀ k ∈ qKeys p, (∃ x ≤ 999, k.2.1 = nI x) ∧ (∃ y ≤ 999, k.2.2.1 = nI y) ∧ ∃ e ≤ 3, k.2.2.2 = nI e) ∧ (qCue p = -1 ∨ ∃ c ≤ 9, qCue p = nI c) ∧ qWorn p ≤ 99 ∧ (qMend p).length ≤ 10
def okS (n : Nat) (s : SS) : Prop := (∀ q, tCast s q = true → q < n) ∧ tLeft s ≤ 50
def WF (σ : ST) : Prop := eN σ ≤ 8 ∧ eM σ ≤ 6 ∧ (∀ i < eN σ, okP (eP σ i)) ∧ (∀ j < eM σ, okS (eN σ) (eS σ j)) ∧ ∀ s < 10, eH σ s = -1 ∨ ∃ m ≤ 999, eH σ s = nI m
def oPu (σ : ST) (p : Int32) (f : Nat → OR) : OR := if 0 ≤ p ∧ p < nI (eN σ) then f p.toNatClampNeg else .inl "java/lang/IndexOutOfBoundsException"
def oSh (σ : ST) (p : Int32) (f : Nat → OR) : OR := if 0 ≤ p ∧ p < nI (eM σ) then f p.toNatClampNeg else .inl "java/lang/IndexOutOfBoundsException"
def oIn (v lo hi : Int32) (o : OR) : OR := if lo ≤ v ∧ v ≤ hi then o else .inl "java/lang/IllegalArgumentException"
theorem oPu_no {σ : ST} {p : Int32} (k : ¬ (0 ≤ p ∧ p < nI (eN σ))) (f : Nat → OR) : oPu σ p f = .inl "java/lang/IndexOutOfBoundsException" := if_neg k
theorem oPu_ok {σ : ST} {i : Nat} (k : 0 ≤ nI i ∧ nI i < nI (eN σ)) (e : (nI i).toNatClampNeg = i) (f : Nat → OR) : oPu σ (nI i) f = f i := by
  rw [oPu, if_pos k, e]
theorem oSh_no {σ : ST} {p : Int32} (k : ¬ (0 ≤ p ∧ p < nI (eM σ))) (f : Nat → OR) : oSh σ p f = .inl "java/lang/IndexOutOfBoundsException" := if_neg k
theorem oSh_ok {σ : ST} {i : Nat} (k : 0 ≤ nI i ∧ nI i < nI (eM σ)) (e : (nI i).toNatClampNeg = i) (f : Nat → OR) : oSh σ (nI i) f = f i := by
  rw [oSh, if_pos k, e]
theorem oIn_no {v lo hi : Int32} (k : ¬ (lo ≤ v ∧ v ≤ hi)) (o : OR) : oIn v lo hi o = .inl "java/lang/IllegalArgumentException" := if_neg k
theorem oIn_ok {v lo hi : Int32} (k : lo ≤ v ∧ v ≤ hi) (o : OR) : oIn v lo hi o = o := if_pos k
theorem in_ex {p : Int32} {n : Nat} (k : 0 ≤ p ∧ p < nI n) (hn : n < 2 ^ 31) : ∃ i : Nat, i < n ∧ p = nI i := by
  obtain ⟨j, hj, rfl⟩ := nI_of (Int32.not_lt.mpr k.1)
  exact ⟨j, (nI_ltI hj hn).mp k.2, rfl⟩
theorem in_le {p : Int32} {n : Nat} (k : nI 0 ≤ p ∧ p ≤ nI n) (hn : n < 2 ^ 31) : ∃ i : Nat, i ≤ n ∧ p = nI i := by
  obtain ⟨j, hj, rfl⟩ := nI_of (Int32.not_lt.mpr (show (0 : Int32) ≤ p from k.1))
  exact ⟨j, (nI_leI hj hn).mp k.2, rfl⟩
theorem not_in {p n : Int32} (k : ¬ (0 ≤ p ∧ p < n)) : p < 0 ∨ n ≤ p := by
  by_cases c : p < 0
  · exact Or.inl c
  · exact Or.inr (Int32.not_lt.mp (fun z => k ⟨Int32.not_lt.mp c, z⟩))
theorem not_le2 {v lo hi : Int32} (k : ¬ (lo ≤ v ∧ v ≤ hi)) : v < lo ∨ hi < v := by
  by_cases c : v < lo
  · exact Or.inl c
  · exact Or.inr (Int32.not_le.mp (fun z => k ⟨Int32.not_lt.mp c, z⟩))
theorem r_ownE {g : Gl} {l : Launch} {R : Room} {own : String} {cc : ByteArray} {nL : Nat} {hh : List (Nat × Nat × Nat × Nat)} {mn : String} {V : VT} {X : XT} {pc : Nat} {lv : List (Option Value)} {st : List Value} {h : Hp} {kc ks : Nat} (M : Mach g l R own cc nL hh mn V X) (kk : xS h (gN g 2) = none → V pc lv st h kc ks) : V pc lv st h kc ks := by
  obtain ⟨Qs, p, e, s, m, args, below, meth, c, hx, hb, hml, hown, hts, hgl, hlk, hnm, htab, hst, rfl, rfl⟩ := M
  intro hkc hks H locs ls hG hS hl
  refine kk ?_ hkc hks H locs ls hG hS hl
  obtain ⟨ws, h1, h2, h3, h4⟩ := hG
  cases hs : xS h (gN g 2) with
  | none => rfl
  | some z =>
    obtain ⟨k, hk⟩ := h3 _ z.1 z.2 hs
    obtain ⟨cell, -, -, -, -, -, -, hA⟩ := hgl.2.2.2.2.1
    exact absurd (h2.2 k _ hk) hA
theorem hasC_ex {c : Nat → Bool} {p : Int32} (hc : hasC c p = true) : ∃ i : Nat, i < 8 ∧ p = nI i ∧ c i = true := by
  simp only [hasC, Bool.and_eq_true, decide_eq_true_eq] at hc
  obtain ⟨i, hi, rfl⟩ := in_ex hc.1 (by decide)
  exact ⟨i, hi, rfl, by rw [← nI_clamp (show i < 2 ^ 31 by omega)]; exact hc.2⟩
def oHas (σ : ST) (j : Nat) (p : Int32) (f : Nat → OR) : OR := if hasC (tCast (eS σ j)) p = true then f p.toNatClampNeg else .inl "java/lang/IndexOutOfBoundsException"
theorem oHas_no {σ : ST} {j : Nat} {p : Int32} (k : ¬ hasC (tCast (eS σ j)) p = true) (f : Nat → OR) : oHas σ j p f = .inl "java/lang/IndexOutOfBoundsException" := if_neg k
theorem oHas_ok {σ : ST} {j i : Nat} (k : hasC (tCast (eS σ j)) (nI i) = true) (e : (nI i).toNatClampNeg = i) (f : Nat → OR) : oHas σ j (nI i) f = f i := by
  rw [oHas, if_pos k, e]
def cntR (G : Nat → Bool) (a : Nat) : Nat → Nat
  | 0 => 0
  | k + 1 => cntR G a k + (if G (a + k) = true then 1 else 0)
def o_income (σ : ST) : OR := .inr (ePaid σ, σ)
set_option maxRecDepth 100000 in
set_option maxHeartbeats 4000000 in
theorem ct_o_income {g : Gl} {l : Launch} (hfl : l.stackTraces = false) (h : Hp) (x pL sL ha : Nat) (ow : Nat → Nat) (ps ss : List Nat) (σ : ST) (r : RC (gN g 2) ow h x pL sL ha ps ss σ) (hw : WF σ) : CT g l iX5_income 1 [.ref x] h 0 0 (pOp (gN g 2) ow h x pL sL ha σ (o_income σ )) := by
  have r0 := r
  obtain ⟨⟨a1, a2, a3, a4, a5⟩, ⟨b1, b2, b3, b4⟩, zp, zs, ⟨d1, d2⟩, ⟨e1, e2, e3, e4, e5, e6⟩, f1⟩ := r
  have hl1 := b1.2.2.1
  have hl2 := b2.2.2.1
  obtain ⟨w1, w2, w3, w4, w5⟩ := hw
  refine ct_mk hfl (by decide) (Nat.le_of_ble_eq_true rfl) (by intro v hv; simp only [List.mem_cons, List.not_mem_nil, or_false] at hv; rcases hv with rfl <;> rfl) (fun V X M => ?_)
  have Mm := M.m
  show V 0 [some (.ref x)] [] _ 0 0
  refine r_aload_n Mm dX5_income_0 rfl ?_
  refine r_getI Mm dX5_income_1 fi_X5_29 (a1) rfl (i := 503) rfl ?_
  refine r_top _ (ePaid σ) (d2) ?_
  refine r_iret M dX5_income_4 ?_
  exact pOp.ret (by simp only [o_income]) (Aft.rf r0)
def o_worn (σ : ST) (p : Int32) : OR := oPu σ p (fun i => .inr (nI (qWorn (eP σ i)), σ))
set_option maxRecDepth 100000 in
set_option maxHeartbeats 4000000 in
theorem ct_o_worn {g : Gl} {l : Launch} (hfl : l.stackTraces = false) (h : Hp) (x pL sL ha : Nat) (ow : Nat → Nat) (ps ss : List Nat) (σ : ST) (r : RC (gN g 2) ow h x pL sL ha ps ss σ) (hw : WF σ) (p : Int32) : CT g l iX5_worn 8 [.ref x, .int p] h 1 6 (pOp (gN g 2) ow h x pL sL ha σ (o_worn σ p)) := by
  have r0 := r
  obtain ⟨⟨a1, a2, a3, a4, a5⟩, ⟨b1, b2, b3, b4⟩, zp, zs, ⟨d1, d2⟩, ⟨e1, e2, e3, e4, e5, e6⟩, f1⟩ := r
  have hl1 := b1.2.2.1
  have hl2 := b2.2.2.1
  obtain ⟨w1, w2, w3, w4, w5⟩ := hw
  refine ct_mk hfl (by decide) (Nat.le_of_ble_eq_true rfl) (by intro v hv; simp only [List.mem_cons, List.not_mem_nil, or_false] at hv; rcases hv with rfl | rfl <;> rfl) (fun V X M => ?_)
  have Mm := M.m
  show V 0 [some (.ref x), some (.int p)] [] _ 0 0
  refine r_aload_n Mm dX5_worn_0 rfl ?_
  refine r_iload_n Mm dX5_worn_1 rfl ?_
  by_cases k1 : 0 ≤ p ∧ p < nI (eN σ)
  · obtain ⟨i, hi, rfl⟩ := in_ex k1 (by omega)
    have eci : (nI i).toNatClampNeg = i := nI_clamp (by omega)
    obtain ⟨a, haa⟩ : ∃ v, ps[i]? = some v := ⟨_, List.getElem?_eq_getElem (by omega)⟩
    have hpa := zp _ _ haa
    obtain ⟨ka, ma, pl, xs, ms, hP, f0, f1b, f2, f3, f4, f5, ⟨o1, o2, o3, o4⟩, g1, g2, o5, o6⟩ := hpa
    have hok := w3 i hi
    have hlk : xs.length = (qKeys (eP σ i)).length := by rw [← f2, ksOf_len]
    have hlm : ms.length = (qMend (eP σ i)).length := by rw [← f5, List.length_map]
    have hk12 := hok.2.2.2.1
    have hw99 := hok.2.2.2.2.2.2.1
    have hm10 := hok.2.2.2.2.2.2.2
    refine r_callV (As := [(.int (nI i))]) Mm dX5_worn_2 rfl (ct_pupOk hfl h x pL sL ha ow ps ss σ r0 i a haa) (a1) rfl cw_X5_57 ⟨Nat.le_of_ble_eq_true rfl, Nat.le_of_ble_eq_true rfl, Nat.le_of_ble_eq_true rfl⟩ (Nat.le_of_ble_eq_true rfl) ⟨Nat.le_of_ble_eq_true rfl, Nat.le_of_ble_eq_true rfl⟩ (fun r2 h3 p4 => ?_) (fun Er2 h3 p4 => False.elim p4)
    obtain ⟨rfl, rfl⟩ := p4
    show V 5 _ [(.ref a)] _ _ _
    refine r_getI Mm dX5_worn_5 fi_X5_123 (hP.1) rfl (i := 204) rfl ?_
    refine r_top _ (nI (qWorn (eP σ i))) (f4) ?_
    refine r_iret M dX5_worn_8 ?_
    exact pOp.ret (by simp only [o_worn, oPu_ok k1 eci]) (Aft.rf r0)
  · refine r_callV (As := [(.int p)]) Mm dX5_worn_2 rfl (ct_pupBad hfl h x pL sL ha ow ps ss σ r0 p (by rw [b3]; exact not_in k1)) (a1) rfl cw_X5_57 ⟨Nat.le_of_ble_eq_true rfl, Nat.le_of_ble_eq_true rfl, Nat.le_of_ble_eq_true rfl⟩ (Nat.le_of_ble_eq_true rfl) ⟨Nat.le_of_ble_eq_true rfl, Nat.le_of_ble_eq_true rfl⟩ (fun r5 h6 p7 => False.elim p7) (fun Er5 h6 p7 => ?_)
    obtain ⟨rfl, rfl⟩ := p7
    refine x_out M ?_
    exact pOp.thr (by simp only [o_worn, oPu_no k1]) (Aft.rf r0)
def o_setLength (σ : ST) (p n : Int32) : OR := oPu σ p (fun i => oIn n (nI 0) (nI 1500) (.inr (qLen (eP σ i), wP σ i ((eP σ i).1, n, (eP σ i).2.2))))
set_option maxRecDepth 100000 in
set_option maxHeartbeats 4000000 in
theorem ct_o_setLength {g : Gl} {l : Launch} (hfl : l.stackTraces = false) (h : Hp) (x pL sL ha : Nat) (ow : Nat → Nat) (ps ss : List Nat) (σ : ST) (r : RC (gN g 2) ow h x pL sL ha ps ss σ) (hw : WF σ) (p n : Int32) : CT g l iX5_setLength 8 [.ref x, .int p, .int n] h 1 6 (pOp (gN g 2) ow h x pL sL ha σ (o_setLength σ p n)) := by
  have r0 := r
  obtain ⟨⟨a1, a2, a3, a4, a5⟩, ⟨b1, b2, b3, b4⟩, zp, zs, ⟨d1, d2⟩, ⟨e1, e2, e3, e4, e5, e6⟩, f1⟩ := r
  have hl1 := b1.2.2.1
  have hl2 := b2.2.2.1
  obtain ⟨w1, w2, w3, w4, w5⟩ := hw
  refine ct_mk hfl (by decide) (Nat.le_of_ble_eq_true rfl) (by intro v hv; simp only [List.mem_cons, List.not_mem_nil, or_false] at hv; rcases hv with rfl | rfl | rfl <;> rfl) (fun V X M => ?_)
  have Mm := M.m
  show V 0 [some (.ref x), some (.int p), some (.int n), none, none] [] _ 0 0
  refine r_aload_n Mm dX5_setLength_0 rfl ?_
  refine r_iload_n Mm dX5_setLength_1 rfl ?_
  by_cases k1 : 0 ≤ p ∧ p < nI (eN σ)
  · obtain ⟨i, hi, rfl⟩ := in_ex k1 (by omega)
    have eci : (nI i).toNatClampNeg = i := nI_clamp (by omega)
    obtain ⟨a, haa⟩ : ∃ v, ps[i]? = some v := ⟨_, List.getElem?_eq_getElem (by omega)⟩
    have hpa := zp _ _ haa
    obtain ⟨ka, ma, pl, xs, ms, hP, f0, f1b, f2, f3, f4, f5, ⟨o1, o2, o3, o4⟩, g1, g2, o5, o6⟩ := hpa
    have hok := w3 i hi
    have hlk : xs.length = (qKeys (eP σ i)).length := by rw [← f2, ksOf_len]
    have hlm : ms.length = (qMend (eP σ i)).length := by rw [← f5, List.length_map]
    have hk12 := hok.2.2.2.1
    have hw99 := hok.2.2.2.2.2.2.1
    have hm10 := hok.2.2.2.2.2.2.2
    refine r_callV (As := [(.int (nI i))]) Mm dX5_setLength_2 rfl (ct_pupOk hfl h x pL sL ha ow ps ss σ r0 i a haa) (a1) rfl cw_X5_57 ⟨Nat.le_of_ble_eq_true rfl, Nat.le_of_ble_eq_true rfl, Nat.le_of_ble_eq_true rfl⟩ (Nat.le_of_ble_eq_true rfl) ⟨Nat.le_of_ble_eq_true rfl, Nat.le_of_ble_eq_true rfl⟩ (fun r2 h3 p4 => ?_) (fun Er2 h3 p4 => False.elim p4)
    obtain ⟨rfl, rfl⟩ := p4
    show V 5 _ [(.ref a)] _ _ _
    refine r_astore_n Mm dX5_setLength_5 (by decide) ?_
    show V 6 [some (.ref x), some (.int (nI i)), some (.int n), some (.ref a), none] _ _ _ _
    refine r_iload_n Mm dX5_setLength_6 rfl ?_
    refine r_iconst (v := nI 0) Mm dX5_setLength_7 (by decide) ?_
    refine r_sipush (v := nI 1500) Mm dX5_setLength_8 (by decide) ?_
    by_cases k5 : (nI 0) ≤ n ∧ n ≤ (nI 1500)
    · refine r_callS (As := [(.int n), (.int (nI 0)), (.int (nI 1500))]) Mm dX5_setLength_11 rfl (ct_needOk hfl h n (nI 0) (nI 1500) k5.1 k5.2) cw_X5_33 ⟨Nat.le_of_ble_eq_true rfl, Nat.le_of_ble_eq_true rfl, Nat.le_of_ble_eq_true rfl⟩ (Nat.le_of_ble_eq_true rfl) ⟨Nat.le_of_ble_eq_true rfl, Nat.le_of_ble_eq_true rfl⟩ (fun r6 h7 p8 => ?_) (fun Er6 h7 p8 => False.elim p8)
      obtain ⟨rfl, rfl⟩ := p8
      show V 14 _ [] _ _ _
      refine r_aload_n Mm dX5_setLength_14 rfl ?_
      refine r_getI Mm dX5_setLength_15 fi_X5_61 (hP.1) rfl (i := 201) rfl ?_
      refine r_top _ (qLen (eP σ i)) (f1b) ?_
      refine r_istore Mm dX5_setLength_18 (by decide) ?_
      show V 20 [some (.ref x), some (.int (nI i)), some (.int n), some (.ref a), some (.int (qLen (eP σ i)))] _ _ _ _
      refine r_aload_n Mm dX5_setLength_20 rfl ?_
      refine r_iload_n Mm dX5_setLength_21 rfl ?_
      refine r_putI (ty := .int) Mm dX5_setLength_22 fi_X5_61 ki_2 rfl (hP.1) rfl (i := 201) rfl rfl (by decide +kernel) rfl rfl ?_
      refine r_iload Mm dX5_setLength_25 rfl ?_
      refine r_iret M dX5_setLength_27 ?_
      exact pOp.ret (by simp only [o_setLength, oPu_ok k1 eci, oIn_ok k5]) (Aft.pup r0 (Kp.row (Fr.yF rfl) (by omega)) haa (by omega) (PupAt.len n (zp _ _ haa)) f1)
    · refine r_callS (As := [(.int n), (.int (nI 0)), (.int (nI 1500))]) Mm dX5_setLength_11 rfl (ct_needBad hfl h n (nI 0) (nI 1500) (not_le2 k5)) cw_X5_33 ⟨Nat.le_of_ble_eq_true rfl, Nat.le_of_ble_eq_true rfl, Nat.le_of_ble_eq_true rfl⟩ (Nat.le_of_ble_eq_true rfl) ⟨Nat.le_of_ble_eq_true rfl, Nat.le_of_ble_eq_true rfl⟩ (fun r9 h10 p11 => False.elim p11) (fun Er9 h10 p11 => ?_)
      obtain ⟨rfl, rfl⟩ := p11
      refine x_out M ?_
      exact pOp.thr (by simp only [o_setLength, oPu_ok k1 eci, oIn_no k5]) (Aft.rf r0)
  · refine r_callV (As := [(.int p)]) Mm dX5_setLength_2 rfl (ct_pupBad hfl h x pL sL ha ow ps ss σ r0 p (by rw [b3]; exact not_in k1)) (a1) rfl cw_X5_57 ⟨Nat.le_of_ble_eq_true rfl, Nat.le_of_ble_eq_true rfl, Nat.le_of_ble_eq_true rfl⟩ (Nat.le_of_ble_eq_true rfl) ⟨Nat.le_of_ble_eq_true rfl, Nat.le_of_ble_eq_true rfl⟩ (fun r12 h13 p14 => False.elim p14) (fun Er12 h13 p14 => ?_)
    obtain ⟨rfl, rfl⟩ := p14
    refine x_out M ?_
    exact pOp.thr (by simp only [o_setLength, oPu_no k1]) (Aft.rf r0)
def o_track (σ : ST) (p f : Int32) : OR := oPu σ p (fun i => oIn f (nI 0) (nI 1999) (.inr (nI 1000 * (trk (qBar (eP σ i)) (qKeys (eP σ i)) f).1 + (trk (qBar (eP σ i)) (qKeys (eP σ i)) f).2, σ)))
set_option maxRecDepth 100000 in
set_option maxHeartbeats 4000000 in
theorem ct_o_track {g : Gl} {l : Launch} (hfl : l.stackTraces = false) (h : Hp) (x pL sL ha : Nat) (ow : Nat → Nat) (ps ss : List Nat) (σ : ST) (r : RC (gN g 2) ow h x pL sL ha ps ss σ) (hw : WF σ) (p f : Int32) : CT g l iX5_track 8 [.ref x, .int p, .int f] h 1 6 (pOp (gN g 2) ow h x pL sL ha σ (o_track σ p f)) := by
  have r0 := r
  obtain ⟨⟨a1, a2, a3, a4, a5⟩, ⟨b1, b2, b3, b4⟩, zp, zs, ⟨d1, d2⟩, ⟨e1, e2, e3, e4, e5, e6⟩, f1⟩ := r
  have hl1 := b1.2.2.1
  have hl2 := b2.2.2.1
  obtain ⟨w1, w2, w3, w4, w5⟩ := hw
  refine ct_mk hfl (by decide) (Nat.le_of_ble_eq_true rfl) (by intro v hv; simp only [List.mem_cons, List.not_mem_nil, or_false] at hv; rcases hv with rfl | rfl | rfl <;> rfl) (fun V X M => ?_)
  have Mm := M.m
  show V 0 [some (.ref x), some (.int p), some (.int f), none] [] _ 0 0
  refine r_aload_n Mm dX5_track_0 rfl ?_
  refine r_iload_n Mm dX5_track_1 rfl ?_
  by_cases k1 : 0 ≤ p ∧ p < nI (eN σ)
  · obtain ⟨i, hi, rfl⟩ := in_ex k1 (by omega)
    have eci : (nI i).toNatClampNeg = i := nI_clamp (by omega)
    obtain ⟨a, haa⟩ : ∃ v, ps[i]? = some v := ⟨_, List.getElem?_eq_getElem (by omega)⟩
    have hpa := zp _ _ haa
    obtain ⟨ka, ma, pl, xs, ms, hP, f0, f1b, f2, f3, f4, f5, ⟨o1, o2, o3, o4⟩, g1, g2, o5, o6⟩ := hpa
    have hok := w3 i hi
    have hlk : xs.length = (qKeys (eP σ i)).length := by rw [← f2, ksOf_len]
    have hlm : ms.length = (qMend (eP σ i)).length := by rw [← f5, List.length_map]
    have hk12 := hok.2.2.2.1
    have hw99 := hok.2.2.2.2.2.2.1
    have hm10 := hok.2.2.2.2.2.2.2
    refine r_callV (As := [(.int (nI i))]) Mm dX5_track_2 rfl (ct_pupOk hfl h x pL sL ha ow ps ss σ r0 i a haa) (a1) rfl cw_X5_57 ⟨Nat.le_of_ble_eq_true rfl, Nat.le_of_ble_eq_true rfl, Nat.le_of_ble_eq_true rfl⟩ (Nat.le_of_ble_eq_true rfl) ⟨Nat.le_of_ble_eq_true rfl, Nat.le_of_ble_eq_true rfl⟩ (fun r2 h3 p4 => ?_) (fun Er2 h3 p4 => False.elim p4)
    obtain ⟨rfl, rfl⟩ := p4
    show V 5 _ [(.ref a)] _ _ _
    refine r_astore_n Mm dX5_track_5 (by decide) ?_
    show V 6 [some (.ref x), some (.int (nI i)), some (.int f), some (.ref a)] _ _ _ _
    refine r_iload_n Mm dX5_track_6 rfl ?_
    refine r_iconst (v := nI 0) Mm dX5_track_7 (by decide) ?_
    refine r_sipush (v := nI 1999) Mm dX5_track_8 (by decide) ?_
    by_cases k5 : (nI 0) ≤ f ∧ f ≤ (nI 1999)
    · refine r_callS (As := [(.int f), (.int (nI 0)), (.int (nI 1999))]) Mm dX5_track_11 rfl (ct_needOk hfl h f (nI 0) (nI 1999) k5.1 k5.2) cw_X5_33 ⟨Nat.le_of_ble_eq_true rfl, Nat.le_of_ble_eq_true rfl, Nat.le_of_ble_eq_true rfl⟩ (Nat.le_of_ble_eq_true rfl) ⟨Nat.le_of_ble_eq_true rfl, Nat.le_of_ble_eq_true rfl⟩ (fun r6 h7 p8 => ?_) (fun Er6 h7 p8 => False.elim p8)
      obtain ⟨rfl, rfl⟩ := p8
      show V 14 _ [] _ _ _
      refine r_aload_n Mm dX5_track_14 rfl ?_
      refine r_iload_n Mm dX5_track_15 rfl ?_
      refine r_callV (As := [(.int f)]) Mm dX5_track_16 rfl (ct_standAt hfl h a ka ma pl xs ms hP f) (hP.1) rfl cw_X5_174 ⟨Nat.le_of_ble_eq_true rfl, Nat.le_of_ble_eq_true rfl, Nat.le_of_ble_eq_true rfl⟩ (Nat.le_of_ble_eq_true rfl) ⟨Nat.le_of_ble_eq_true rfl, Nat.le_of_ble_eq_true rfl⟩ (fun r9 h10 p11 => ?_) (fun Er9 h10 p11 => False.elim p11)
      obtain ⟨rfl, rfl⟩ := p11
      rw [f0, f2]
      show V 19 _ [] _ _ _
      refine r_aload_n Mm dX5_track_19 rfl ?_
      refine r_getR Mm dX5_track_20 fi_X5_177 (hP.1) rfl (i := 206) rfl (hP.2.2.2.1) ?_
      refine r_callV (As := []) Mm dX5_track_23 rfl (ct_together hfl ((pXY h pl (trk (qBar (eP σ i)) (qKeys (eP σ i)) f))) pl (hP.2.2.2.2.1)) (hP.2.2.2.2.1) rfl cw_X5_181 ⟨Nat.le_of_ble_eq_true rfl, Nat.le_of_ble_eq_true rfl, Nat.le_of_ble_eq_true rfl⟩ (Nat.le_of_ble_eq_true rfl) ⟨Nat.le_of_ble_eq_true rfl, Nat.le_of_ble_eq_true rfl⟩ (fun r12 h13 p14 => ?_) (fun Er12 h13 p14 => False.elim p14)
      obtain ⟨rfl, rfl⟩ := p14
      rw [(pXY_x h pl _).1, (pXY_x h pl _).2]
      show V 26 _ [(.int _)] _ _ _
      refine r_iret M dX5_track_26 ?_
      exact pOp.ret (by simp only [o_track, oPu_ok k1 eci, oIn_ok k5]) (Aft.tm r0 (Tm.xy _ _ _))
    · refine r_callS (As := [(.int f), (.int (nI 0)), (.int (nI 1999))]) Mm dX5_track_11 rfl (ct_needBad hfl h f (nI 0) (nI 1999) (not_le2 k5)) cw_X5_33 ⟨Nat.le_of_ble_eq_true rfl, Nat.le_of_ble_eq_true rfl, Nat.le_of_ble_eq_true rfl⟩ (Nat.le_of_ble_eq_true rfl) ⟨Nat.le_of_ble_eq_true rfl, Nat.le_of_ble_eq_true rfl⟩ (fun r15 h16 p17 => False.elim p17) (fun Er15 h16 p17 => ?_)
      obtain ⟨rfl, rfl⟩ := p17
      refine x_out M ?_
      exact pOp.thr (by simp only [o_track, oPu_ok k1 eci, oIn_no k5]) (Aft.rf r0)
  · refine r_callV (As := [(.int p)]) Mm dX5_track_2 rfl (ct_pupBad hfl h x pL sL ha ow ps ss σ r0 p (by rw [b3]; exact not_in k1)) (a1) rfl cw_X5_57 ⟨Nat.le_of_ble_eq_true rfl, Nat.le_of_ble_eq_true rfl, Nat.le_of_ble_eq_true rfl⟩ (Nat.le_of_ble_eq_true rfl) ⟨Nat.le_of_ble_eq_true rfl, Nat.le_of_ble_eq_true rfl⟩ (fun r18 h19 p20 => False.elim p20) (fun Er18 h19 p20 => ?_)
    obtain ⟨rfl, rfl⟩ := p20
    refine x_out M ?_
    exact pOp.thr (by simp only [o_track, oPu_no k1]) (Aft.rf r0)
def o_tbf (σ : ST) (p f : Int32) : OR := o_track σ p f
set_option maxRecDepth 100000 in
set_option maxHeartbeats 4000000 in
theorem ct_o_tbf {g : Gl} {l : Launch} (hfl : l.stackTraces = false) (h : Hp) (x pL sL ha : Nat) (ow : Nat → Nat) (ps ss : List Nat) (σ : ST) (r : RC (gN g 2) ow h x pL sL ha ps ss σ) (hw : WF σ) (p f : Int32) : CT g l iX5_trackByFrames 8 [.ref x, .int p, .int f] h 1 6 (pOp (gN g 2) ow h x pL sL ha σ (o_tbf σ p f)) := by
  have r0 := r
  obtain ⟨⟨a1, a2, a3, a4, a5⟩, ⟨b1, b2, b3, b4⟩, zp, zs, ⟨d1, d2⟩, ⟨e1, e2, e3, e4, e5, e6⟩, f1⟩ := r
  have hl1 := b1.2.2.1
  have hl2 := b2.2.2.1
  obtain ⟨w1, w2, w3, w4, w5⟩ := hw
  refine ct_mk hfl (by decide) (Nat.le_of_ble_eq_true rfl) (by intro v hv; simp only [List.mem_cons, List.not_mem_nil, or_false] at hv; rcases hv with rfl | rfl | rfl <;> rfl) (fun V X M => ?_)
  have Mm := M.m
  show V 0 [some (.ref x), some (.int p), some (.int f), none] [] _ 0 0
  refine r_aload_n Mm dX5_trackByFrames_0 rfl ?_
  refine r_iload_n Mm dX5_trackByFrames_1 rfl ?_
  by_cases k1 : 0 ≤ p ∧ p < nI (eN σ)
  · obtain ⟨i, hi, rfl⟩ := in_ex k1 (by omega)
    have eci : (nI i).toNatClampNeg = i := nI_clamp (by omega)
    obtain ⟨a, haa⟩ : ∃ v, ps[i]? = some v := ⟨_, List.getElem?_eq_getElem (by omega)⟩
    have hpa := zp _ _ haa
    obtain ⟨ka, ma, pl, xs, ms, hP, f0, f1b, f2, f3, f4, f5, ⟨o1, o2, o3, o4⟩, g1, g2, o5, o6⟩ := hpa
    have hok := w3 i hi
    have hlk : xs.length = (qKeys (eP σ i)).length := by rw [← f2, ksOf_len]
    have hlm : ms.length = (qMend (eP σ i)).length := by rw [← f5, List.length_map]
    have hk12 := hok.2.2.2.1
    have hw99 := hok.2.2.2.2.2.2.1
    have hm10 := hok.2.2.2.2.2.2.2
    refine r_callV (As := [(.int (nI i))]) Mm dX5_trackByFrames_2 rfl (ct_pupOk hfl h x pL sL ha ow ps ss σ r0 i a haa) (a1) rfl cw_X5_57 ⟨Nat.le_of_ble_eq_true rfl, Nat.le_of_ble_eq_true rfl, Nat.le_of_ble_eq_true rfl⟩ (Nat.le_of_ble_eq_true rfl) ⟨Nat.le_of_ble_eq_true rfl, Nat.le_of_ble_eq_true rfl⟩ (fun r2 h3 p4 => ?_) (fun Er2 h3 p4 => False.elim p4)
    obtain ⟨rfl, rfl⟩ := p4
    show V 5 _ [(.ref a)] _ _ _
    refine r_astore_n Mm dX5_trackByFrames_5 (by decide) ?_
    show V 6 [some (.ref x), some (.int (nI i)), some (.int f), some (.ref a)] _ _ _ _
    refine r_iload_n Mm dX5_trackByFrames_6 rfl ?_
    refine r_iconst (v := nI 0) Mm dX5_trackByFrames_7 (by decide) ?_
    refine r_sipush (v := nI 1999) Mm dX5_trackByFrames_8 (by decide) ?_
    by_cases k5 : (nI 0) ≤ f ∧ f ≤ (nI 1999)
    · refine r_callS (As := [(.int f), (.int (nI 0)), (.int (nI 1999))]) Mm dX5_trackByFrames_11 rfl (ct_needOk hfl h f (nI 0) (nI 1999) k5.1 k5.2) cw_X5_33 ⟨Nat.le_of_ble_eq_true rfl, Nat.le_of_ble_eq_true rfl, Nat.le_of_ble_eq_true rfl⟩ (Nat.le_of_ble_eq_true rfl) ⟨Nat.le_of_ble_eq_true rfl, Nat.le_of_ble_eq_true rfl⟩ (fun r6 h7 p8 => ?_) (fun Er6 h7 p8 => False.elim p8)
      obtain ⟨rfl, rfl⟩ := p8
      show V 14 _ [] _ _ _
      obtain ⟨F, hF, rfl⟩ := in_le k5 (by decide)
      have ecF : (nI F).toNatClampNeg = F := nI_clamp (by omega)
      refine r_aload_n Mm dX5_trackByFrames_14 rfl ?_
      refine r_iload_n Mm dX5_trackByFrames_15 rfl ?_
      refine r_callV (As := [(.int (nI F))]) Mm dX5_trackByFrames_16 rfl (ct_walkTo hfl h a ka ma pl xs ms hP F (by omega) (by rw [f2]; exact hok.2.2.1)) (hP.1) rfl cw_X5_186 ⟨Nat.le_of_ble_eq_true rfl, Nat.le_of_ble_eq_true rfl, Nat.le_of_ble_eq_true rfl⟩ (Nat.le_of_ble_eq_true rfl) ⟨Nat.le_of_ble_eq_true rfl, Nat.le_of_ble_eq_true rfl⟩ (fun r9 h10 p11 => ?_) (fun Er9 h10 p11 => False.elim p11)
      obtain ⟨rfl, rfl⟩ := p11
      rw [f0, f2]
      show V 19 _ [] _ _ _
      refine r_aload_n Mm dX5_trackByFrames_19 rfl ?_
      refine r_getR Mm dX5_trackByFrames_20 fi_X5_177 (hP.1) rfl (i := 206) rfl (hP.2.2.2.1) ?_
      refine r_callV (As := []) Mm dX5_trackByFrames_23 rfl (ct_together hfl ((pXY h pl (trk (qBar (eP σ i)) (qKeys (eP σ i)) (nI F)))) pl (hP.2.2.2.2.1)) (hP.2.2.2.2.1) rfl cw_X5_181 ⟨Nat.le_of_ble_eq_true rfl, Nat.le_of_ble_eq_true rfl, Nat.le_of_ble_eq_true rfl⟩ (Nat.le_of_ble_eq_true rfl) ⟨Nat.le_of_ble_eq_true rfl, Nat.le_of_ble_eq_true rfl⟩ (fun r12 h13 p14 => ?_) (fun Er12 h13 p14 => False.elim p14)
      obtain ⟨rfl, rfl⟩ := p14
      rw [(pXY_x h pl _).1, (pXY_x h pl _).2]
      show V 26 _ [(.int _)] _ _ _
      refine r_iret M dX5_trackByFrames_26 ?_
      exact pOp.ret (by simp only [o_tbf, oPu_ok k1 eci, oIn_ok k5, ecF, o_track]) (Aft.tm r0 (Tm.xy _ _ _))
    · refine r_callS (As := [(.int f), (.int (nI 0)), (.int (nI 1999))]) Mm dX5_trackByFrames_11 rfl (ct_needBad hfl h f (nI 0) (nI 1999) (not_le2 k5)) cw_X5_33 ⟨Nat.le_of_ble_eq_true rfl, Nat.le_of_ble_eq_true rfl, Nat.le_of_ble_eq_true rfl⟩ (Nat.le_of_ble_eq_true rfl) ⟨Nat.le_of_ble_eq_true rfl, Nat.le_of_ble_eq_true rfl⟩ (fun r15 h16 p17 => False.elim p17) (fun Er15 h16 p17 => ?_)
      obtain ⟨rfl, rfl⟩ := p17
      refine x_out M ?_
      exact pOp.thr (by simp only [o_tbf, oPu_ok k1 eci, oIn_no k5, o_track]) (Aft.rf r0)
  · refine r_callV (As := [(.int p)]) Mm dX5_trackByFrames_2 rfl (ct_pupBad hfl h x pL sL ha ow ps ss σ r0 p (by rw [b3]; exact not_in k1)) (a1) rfl cw_X5_57 ⟨Nat.le_of_ble_eq_true rfl, Nat.le_of_ble_eq_true rfl, Nat.le_of_ble_eq_true rfl⟩ (Nat.le_of_ble_eq_true rfl) ⟨Nat.le_of_ble_eq_true rfl, Nat.le_of_ble_eq_true rfl⟩ (fun r18 h19 p20 => False.elim p20) (fun Er18 h19 p20 => ?_)
    obtain ⟨rfl, rfl⟩ := p20
    refine x_out M ?_
    exact pOp.thr (by simp only [o_tbf, oPu_no k1, o_track]) (Aft.rf r0)
def o_least (σ : ST) (p : Int32) : OR := oPu σ p (fun i => .inr (leastS (qBar (eP σ i)) (qKeys (eP σ i)), σ))
set_option maxRecDepth 100000 in
set_option maxHeartbeats 4000000 in
theorem ct_o_least {g : Gl} {l : Launch} (hfl : l.stackTraces = false) (h : Hp) (x pL sL ha : Nat) (ow : Nat → Nat) (ps ss : List Nat) (σ : ST) (r : RC (gN g 2) ow h x pL sL ha ps ss σ) (hw : WF σ) (p : Int32) : CT g l iX5_least 8 [.ref x, .int p] h 1 6 (pOp (gN g 2) ow h x pL sL ha σ (o_least σ p)) := by
  have r0 := r
  obtain ⟨⟨a1, a2, a3, a4, a5⟩, ⟨b1, b2, b3, b4⟩, zp, zs, ⟨d1, d2⟩, ⟨e1, e2, e3, e4, e5, e6⟩, f1⟩ := r
  have hl1 := b1.2.2.1
  have hl2 := b2.2.2.1
  obtain ⟨w1, w2, w3, w4, w5⟩ := hw
  refine ct_mk hfl (by decide) (Nat.le_of_ble_eq_true rfl) (by intro v hv; simp only [List.mem_cons, List.not_mem_nil, or_false] at hv; rcases hv with rfl | rfl <;> rfl) (fun V X M => ?_)
  have Mm := M.m
  show V 0 [some (.ref x), some (.int p)] [] _ 0 0
  refine r_aload_n Mm dX5_least_0 rfl ?_
  refine r_iload_n Mm dX5_least_1 rfl ?_
  by_cases k1 : 0 ≤ p ∧ p < nI (eN σ)
  · obtain ⟨i, hi, rfl⟩ := in_ex k1 (by omega)
    have eci : (nI i).toNatClampNeg = i := nI_clamp (by omega)
    obtain ⟨a, haa⟩ : ∃ v, ps[i]? = some v := ⟨_, List.getElem?_eq_getElem (by omega)⟩
    have hpa := zp _ _ haa
    obtain ⟨ka, ma, pl, xs, ms, hP, f0, f1b, f2, f3, f4, f5, ⟨o1, o2, o3, o4⟩, g1, g2, o5, o6⟩ := hpa
    have hok := w3 i hi
    have hlk : xs.length = (qKeys (eP σ i)).length := by rw [← f2, ksOf_len]
    have hlm : ms.length = (qMend (eP σ i)).length := by rw [← f5, List.length_map]
    have hk12 := hok.2.2.2.1
    have hw99 := hok.2.2.2.2.2.2.1
    have hm10 := hok.2.2.2.2.2.2.2
    refine r_callV (As := [(.int (nI i))]) Mm dX5_least_2 rfl (ct_pupOk hfl h x pL sL ha ow ps ss σ r0 i a haa) (a1) rfl cw_X5_57 ⟨Nat.le_of_ble_eq_true rfl, Nat.le_of_ble_eq_true rfl, Nat.le_of_ble_eq_true rfl⟩ (Nat.le_of_ble_eq_true rfl) ⟨Nat.le_of_ble_eq_true rfl, Nat.le_of_ble_eq_true rfl⟩ (fun r2 h3 p4 => ?_) (fun Er2 h3 p4 => False.elim p4)
    obtain ⟨rfl, rfl⟩ := p4
    show V 5 _ [(.ref a)] _ _ _
    refine r_callV (As := []) Mm dX5_least_5 rfl (ct_least hfl h a ka ma pl xs ms hP) (hP.1) rfl cw_X5_206 ⟨Nat.le_of_ble_eq_true rfl, Nat.le_of_ble_eq_true rfl, Nat.le_of_ble_eq_true rfl⟩ (Nat.le_of_ble_eq_true rfl) ⟨Nat.le_of_ble_eq_true rfl, Nat.le_of_ble_eq_true rfl⟩ (fun r5 h6 p7 => ?_) (fun Er5 h6 p7 => False.elim p7)
    obtain ⟨rfl, v, rfl⟩ := p7
    rw [f0, f2]
    show V 8 _ [(.int (leastS (qBar (eP σ i)) (qKeys (eP σ i))))] _ _ _
    refine r_iret M dX5_least_8 ?_
    exact pOp.ret (by simp only [o_least, oPu_ok k1 eci]) (Aft.tm r0 (Tm.xy _ _ _))
  · refine r_callV (As := [(.int p)]) Mm dX5_least_2 rfl (ct_pupBad hfl h x pL sL ha ow ps ss σ r0 p (by rw [b3]; exact not_in k1)) (a1) rfl cw_X5_57 ⟨Nat.le_of_ble_eq_true rfl, Nat.le_of_ble_eq_true rfl, Nat.le_of_ble_eq_true rfl⟩ (Nat.le_of_ble_eq_true rfl) ⟨Nat.le_of_ble_eq_true rfl, Nat.le_of_ble_eq_true rfl⟩ (fun r8 h9 p10 => False.elim p10) (fun Er8 h9 p10 => ?_)
    obtain ⟨rfl, rfl⟩ := p10
    refine x_out M ?_
    exact pOp.thr (by simp only [o_least, oPu_no k1]) (Aft.rf r0)
def o_cue (σ : ST) (p q : Int32) : OR := oPu σ p (fun i => if q = -1 ∨ ¬ q < 0 ∧ q < nI 10 then .inr (qCue (eP σ i), wP σ i ((eP σ i).1, (eP σ i).2.1, (eP σ i).2.2.1, q, (eP σ i).2.2.2.2)) else .inl "java/lang/IndexOutOfBoundsException")
set_option maxRecDepth 100000 in
set_option maxHeartbeats 4000000 in
theorem ct_o_cue {g : Gl} {l : Launch} (hfl : l.stackTraces = false) (h : Hp) (x pL sL ha : Nat) (ow : Nat → Nat) (ps ss : List Nat) (σ : ST) (r : RC (gN g 2) ow h x pL sL ha ps ss σ) (hw : WF σ) (p q : Int32) : CT g l iX5_cue 8 [.ref x, .int p, .int q] h 1 6 (pOp (gN g 2) ow h x pL sL ha σ (o_cue σ p q)) := by
  have r0 := r
  obtain ⟨⟨a1, a2, a3, a4, a5⟩, ⟨b1, b2, b3, b4⟩, zp, zs, ⟨d1, d2⟩, ⟨e1, e2, e3, e4, e5, e6⟩, f1⟩ := r
  have hl1 := b1.2.2.1
  have hl2 := b2.2.2.1
  obtain ⟨w1, w2, w3, w4, w5⟩ := hw
  refine ct_mk hfl (by decide) (Nat.le_of_ble_eq_true rfl) (by intro v hv; simp only [List.mem_cons, List.not_mem_nil, or_false] at hv; rcases hv with rfl | rfl | rfl <;> rfl) (fun V X M => ?_)
  have Mm := M.m
  show V 0 [some (.ref x), some (.int p), some (.int q), none, none] [] _ 0 0
  refine r_aload_n Mm dX5_cue_0 rfl ?_
  refine r_iload_n Mm dX5_cue_1 rfl ?_
  by_cases k1 : 0 ≤ p ∧ p < nI (eN σ)
  · obtain ⟨i, hi, rfl⟩ := in_ex k1 (by omega)
    have eci : (nI i).toNatClampNeg = i := nI_clamp (by omega)
    obtain ⟨a, haa⟩ : ∃ v, ps[i]? = some v := ⟨_, List.getElem?_eq_getElem (by omega)⟩
    have hpa := zp _ _ haa
    obtain ⟨ka, ma, pl, xs, ms, hP, f0, f1b, f2, f3, f4, f5, ⟨o1, o2, o3, o4⟩, g1, g2, o5, o6⟩ := hpa
    have hok := w3 i hi
    have hlk : xs.length = (qKeys (eP σ i)).length := by rw [← f2, ksOf_len]
    have hlm : ms.length = (qMend (eP σ i)).length := by rw [← f5, List.length_map]
    have hk12 := hok.2.2.2.1
    have hw99 := hok.2.2.2.2.2.2.1
    have hm10 := hok.2.2.2.2.2.2.2
    refine r_callV (As := [(.int (nI i))]) Mm dX5_cue_2 rfl (ct_pupOk hfl h x pL sL ha ow ps ss σ r0 i a haa) (a1) rfl cw_X5_57 ⟨Nat.le_of_ble_eq_true rfl, Nat.le_of_ble_eq_true rfl, Nat.le_of_ble_eq_true rfl⟩ (Nat.le_of_ble_eq_true rfl) ⟨Nat.le_of_ble_eq_true rfl, Nat.le_of_ble_eq_true rfl⟩ (fun r2 h3 p4 => ?_) (fun Er2 h3 p4 => False.elim p4)
    obtain ⟨rfl, rfl⟩ := p4
    show V 5 _ [(.ref a)] _ _ _
    refine r_astore_n Mm dX5_cue_5 (by decide) ?_
    show V 6 [some (.ref x), some (.int (nI i)), some (.int q), some (.ref a), none] _ _ _ _
    refine r_iload_n Mm dX5_cue_6 rfl ?_
    refine r_iconst (v := -1) Mm dX5_cue_7 (by decide) ?_
    refine r_icmp_eq (tgt := 31) Mm dX5_cue_8 (by decide) (fun c5 => ?_) (fun c5 => ?_)
    · refine r_aload_n Mm dX5_cue_31 rfl ?_
      refine r_getI Mm dX5_cue_32 fi_X5_96 (hP.1) rfl (i := 203) rfl ?_
      refine r_top _ (qCue (eP σ i)) (f3) ?_
      refine r_istore Mm dX5_cue_35 (by decide) ?_
      show V 37 [some (.ref x), some (.int (nI i)), some (.int q), some (.ref a), some (.int (qCue (eP σ i)))] _ _ _ _
      refine r_aload_n Mm dX5_cue_37 rfl ?_
      refine r_iload_n Mm dX5_cue_38 rfl ?_
      refine r_putI (ty := .int) Mm dX5_cue_39 fi_X5_96 ki_2 rfl (hP.1) rfl (i := 203) rfl rfl (by decide +kernel) rfl rfl ?_
      refine r_iload Mm dX5_cue_42 rfl ?_
      refine r_iret M dX5_cue_44 ?_
      exact pOp.ret (by simp only [o_cue, oPu_ok k1 eci, if_pos (Or.inl c5 : q = -1 ∨ ¬ q < 0 ∧ q < nI 10)]) (Aft.pup r0 (Kp.row (Fr.yF rfl) (by omega)) haa (by omega) (PupAt.cue q (zp _ _ haa)) f1)
    · refine r_iload_n Mm dX5_cue_11 rfl ?_
      refine r_if_lt (tgt := 21) Mm dX5_cue_12 (by decide) (fun c6 => ?_) (fun c6 => ?_)
      · refine r_throw M ti_93 dX5_cue_21 dX5_cue_24 dX5_cue_25 dX5_cue_27 dX5_cue_30 (by decide) (Nat.le_of_ble_eq_true rfl) ⟨Nat.le_of_ble_eq_true rfl, Nat.le_of_ble_eq_true rfl⟩ ?_
        exact pOp.thr (by simp only [o_cue, oPu_ok k1 eci, if_neg (fun z => z.elim c5 (fun w => w.1 c6) : ¬ (q = -1 ∨ ¬ q < 0 ∧ q < nI 10))]) (Aft.rf r0)
      · refine r_iload_n Mm dX5_cue_15 rfl ?_
        refine r_bipush (v := nI 10) Mm dX5_cue_16 (by decide) ?_
        refine r_icmp_lt (tgt := 31) Mm dX5_cue_18 (by decide) (fun c7 => ?_) (fun c7 => ?_)
        · refine r_aload_n Mm dX5_cue_31 rfl ?_
          refine r_getI Mm dX5_cue_32 fi_X5_96 (hP.1) rfl (i := 203) rfl ?_
          refine r_top _ (qCue (eP σ i)) (f3) ?_
          refine r_istore Mm dX5_cue_35 (by decide) ?_
          show V 37 [some (.ref x), some (.int (nI i)), some (.int q), some (.ref a), some (.int (qCue (eP σ i)))] _ _ _ _
          refine r_aload_n Mm dX5_cue_37 rfl ?_
          refine r_iload_n Mm dX5_cue_38 rfl ?_
          refine r_putI (ty := .int) Mm dX5_cue_39 fi_X5_96 ki_2 rfl (hP.1) rfl (i := 203) rfl rfl (by decide +kernel) rfl rfl ?_
          refine r_iload Mm dX5_cue_42 rfl ?_
          refine r_iret M dX5_cue_44 ?_
          exact pOp.ret (by simp only [o_cue, oPu_ok k1 eci, if_pos (Or.inr ⟨c6, c7⟩ : q = -1 ∨ ¬ q < 0 ∧ q < nI 10)]) (Aft.pup r0 (Kp.row (Fr.yF rfl) (by omega)) haa (by omega) (PupAt.cue q (zp _ _ haa)) f1)
        · refine r_throw M ti_93 dX5_cue_21 dX5_cue_24 dX5_cue_25 dX5_cue_27 dX5_cue_30 (by decide) (Nat.le_of_ble_eq_true rfl) ⟨Nat.le_of_ble_eq_true rfl, Nat.le_of_ble_eq_true rfl⟩ ?_
          exact pOp.thr (by simp only [o_cue, oPu_ok k1 eci, if_neg (fun z => z.elim c5 (fun w => c7 w.2) : ¬ (q = -1 ∨ ¬ q < 0 ∧ q < nI 10))]) (Aft.rf r0)
  · refine r_callV (As := [(.int p)]) Mm dX5_cue_2 rfl (ct_pupBad hfl h x pL sL ha ow ps ss σ r0 p (by rw [b3]; exact not_in k1)) (a1) rfl cw_X5_57 ⟨Nat.le_of_ble_eq_true rfl, Nat.le_of_ble_eq_true rfl, Nat.le_of_ble_eq_true rfl⟩ (Nat.le_of_ble_eq_true rfl) ⟨Nat.le_of_ble_eq_true rfl, Nat.le_of_ble_eq_true rfl⟩ (fun r8 h9 p10 => False.elim p10) (fun Er8 h9 p10 => ?_)
    obtain ⟨rfl, rfl⟩ := p10
    refine x_out M ?_
    exact pOp.thr (by simp only [o_cue, oPu_no k1]) (Aft.rf r0)
theorem Aft.heard {E : Nat} {ow : Nat → Nat} {h : Hp} {x pL sL ha : Nat} {ps ss : List Nat} {σ : ST} (r : RC E ow h x pL sL ha ps ss σ) (q : Nat) (v : Int32) : Aft E ow h x pL sL ha (σ.1, σ.2.1, upt (eH σ) q v, ePaid σ) (yA h ha q v) := by
  have k : Kp (fun t => t ≠ 4) ow ow h (yA h ha q v) := Kp.row (Fr.yA rfl) (fun z => z r.2.2.2.2.2.1.2.2.2.1)
  obtain ⟨⟨a1, a2, a3, a4, a5⟩, ⟨b1, b2, b3, b4⟩, zp, zs, ⟨d1, d2⟩, ⟨e1, e2, e3, e4, e5, e6⟩, f1⟩ := r
  refine ⟨ow, ps, ss, ⟨⟨a1, a2, a3, a4, a5⟩, ⟨b1, b2, b3, b4⟩, fun i b hb => (zp i b hb).kp k f1 (fun t ht => by show t ≠ 4; omega), fun j s hs => (zs j s hs).kp k (fun t ht => by show t ≠ 4; omega), ⟨fun s => ?_, d2⟩, ⟨e1, e2, e3, e4, e5, e6⟩, f1⟩, fun _ _ _ => rfl, Ext.kp k (by show (0 : Nat) ≠ 4; omega)⟩
  show xA (yA h ha q v) ha s = upt (eH σ) q v s
  rw [zxA_yA, upt]
  by_cases c : s = q
  · rw [if_pos ⟨rfl, c⟩, if_pos c]
  · rw [if_neg (fun z => c z.2), if_neg c]; exact d1 s
def o_hear (σ : ST) (q f : Int32) : OR := if ¬ q < 0 ∧ q < nI 10 then (if f = -1 then .inr (eH σ q.toNatClampNeg, (σ.1, σ.2.1, upt (eH σ) q.toNatClampNeg f, ePaid σ)) else oIn f (nI 0) (nI 999) (.inr (eH σ q.toNatClampNeg, (σ.1, σ.2.1, upt (eH σ) q.toNatClampNeg f, ePaid σ)))) else .inl "java/lang/IndexOutOfBoundsException"
set_option maxRecDepth 100000 in
set_option maxHeartbeats 4000000 in
theorem ct_o_hear {g : Gl} {l : Launch} (hfl : l.stackTraces = false) (h : Hp) (x pL sL ha : Nat) (ow : Nat → Nat) (ps ss : List Nat) (σ : ST) (r : RC (gN g 2) ow h x pL sL ha ps ss σ) (hw : WF σ) (q f : Int32) : CT g l iX5_hear 8 [.ref x, .int q, .int f] h 1 6 (pOp (gN g 2) ow h x pL sL ha σ (o_hear σ q f)) := by
  have r0 := r
  obtain ⟨⟨a1, a2, a3, a4, a5⟩, ⟨b1, b2, b3, b4⟩, zp, zs, ⟨d1, d2⟩, ⟨e1, e2, e3, e4, e5, e6⟩, f1⟩ := r
  have hl1 := b1.2.2.1
  have hl2 := b2.2.2.1
  obtain ⟨w1, w2, w3, w4, w5⟩ := hw
  refine ct_mk hfl (by decide) (Nat.le_of_ble_eq_true rfl) (by intro v hv; simp only [List.mem_cons, List.not_mem_nil, or_false] at hv; rcases hv with rfl | rfl | rfl <;> rfl) (fun V X M => ?_)
  have Mm := M.m
  show V 0 [some (.ref x), some (.int q), some (.int f), none] [] _ 0 0
  refine r_iload_n Mm dX5_hear_0 rfl ?_
  refine r_if_lt (tgt := 13) Mm dX5_hear_1 (by decide) (fun c1 => ?_) (fun c1 => ?_)
  · refine r_throw M ti_93 dX5_hear_13 dX5_hear_16 dX5_hear_17 dX5_hear_19 dX5_hear_22 (by decide) (Nat.le_of_ble_eq_true rfl) ⟨Nat.le_of_ble_eq_true rfl, Nat.le_of_ble_eq_true rfl⟩ ?_
    exact pOp.thr (by simp only [o_hear, if_neg (fun z => z.1 c1 : ¬ (¬ q < 0 ∧ q < nI 10))]) (Aft.rf r0)
  · refine r_iload_n Mm dX5_hear_4 rfl ?_
    refine r_aload_n Mm dX5_hear_5 rfl ?_
    refine r_getR Mm dX5_hear_6 fi_X5_19 (a1) rfl (i := 502) rfl (a4) ?_
    refine r_alenI Mm dX5_hear_9 (a5) ?_
    refine r_icmp_lt (tgt := 23) Mm dX5_hear_10 (by decide) (fun c2 => ?_) (fun c2 => ?_)
    · refine r_iload_n Mm dX5_hear_23 rfl ?_
      refine r_iconst (v := -1) Mm dX5_hear_24 (by decide) ?_
      refine r_icmp_eq (tgt := 36) Mm dX5_hear_25 (by decide) (fun c3 => ?_) (fun c3 => ?_)
      · refine r_aload_n Mm dX5_hear_36 rfl ?_
        refine r_getR Mm dX5_hear_37 fi_X5_19 (a1) rfl (i := 502) rfl (a4) ?_
        refine r_iload_n Mm dX5_hear_40 rfl ?_
        refine r_iald Mm dX5_hear_41 (a5) (vp_of c1 c2 (by decide)) ?_
        refine r_top _ (eH σ q.toNatClampNeg) (d1 _) ?_
        refine r_istore_n Mm dX5_hear_42 (by decide) ?_
        show V 43 [some (.ref x), some (.int q), some (.int f), some (.int (eH σ q.toNatClampNeg))] _ _ _ _
        refine r_aload_n Mm dX5_hear_43 rfl ?_
        refine r_getR Mm dX5_hear_44 fi_X5_19 (a1) rfl (i := 502) rfl (a4) ?_
        refine r_iload_n Mm dX5_hear_47 rfl ?_
        refine r_iload_n Mm dX5_hear_48 rfl ?_
        refine r_iast Mm dX5_hear_49 (a5) (vp_of c1 c2 (by decide)) ?_
        refine r_iload_n Mm dX5_hear_50 rfl ?_
        refine r_iret M dX5_hear_51 ?_
        exact pOp.ret (by simp only [o_hear, if_pos (⟨c1, c2⟩ : ¬ q < 0 ∧ q < nI 10), if_pos (c3 : f = -1)]) (Aft.heard r0 _ _)
      · refine r_iload_n Mm dX5_hear_28 rfl ?_
        refine r_iconst (v := nI 0) Mm dX5_hear_29 (by decide) ?_
        refine r_sipush (v := nI 999) Mm dX5_hear_30 (by decide) ?_
        by_cases k4 : (nI 0) ≤ f ∧ f ≤ (nI 999)
        · refine r_callS (As := [(.int f), (.int (nI 0)), (.int (nI 999))]) Mm dX5_hear_33 rfl (ct_needOk hfl h f (nI 0) (nI 999) k4.1 k4.2) cw_X5_33 ⟨Nat.le_of_ble_eq_true rfl, Nat.le_of_ble_eq_true rfl, Nat.le_of_ble_eq_true rfl⟩ (Nat.le_of_ble_eq_true rfl) ⟨Nat.le_of_ble_eq_true rfl, Nat.le_of_ble_eq_true rfl⟩ (fun r5 h6 p7 => ?_) (fun Er5 h6 p7 => False.elim p7)
          obtain ⟨rfl, rfl⟩ := p7
          show V 36 _ [] _ _ _
          refine r_aload_n Mm dX5_hear_36 rfl ?_
          refine r_getR Mm dX5_hear_37 fi_X5_19 (a1) rfl (i := 502) rfl (a4) ?_
          refine r_iload_n Mm dX5_hear_40 rfl ?_
          refine r_iald Mm dX5_hear_41 (a5) (vp_of c1 c2 (by decide)) ?_
          refine r_top _ (eH σ q.toNatClampNeg) (d1 _) ?_
          refine r_istore_n Mm dX5_hear_42 (by decide) ?_
          show V 43 [some (.ref x), some (.int q), some (.int f), some (.int (eH σ q.toNatClampNeg))] _ _ _ _
          refine r_aload_n Mm dX5_hear_43 rfl ?_
          refine r_getR Mm dX5_hear_44 fi_X5_19 (a1) rfl (i := 502) rfl (a4) ?_
          refine r_iload_n Mm dX5_hear_47 rfl ?_
          refine r_iload_n Mm dX5_hear_48 rfl ?_
          refine r_iast Mm dX5_hear_49 (a5) (vp_of c1 c2 (by decide)) ?_
          refine r_iload_n Mm dX5_hear_50 rfl ?_
          refine r_iret M dX5_hear_51 ?_
          exact pOp.ret (by simp only [o_hear, oIn_ok k4, if_pos (⟨c1, c2⟩ : ¬ q < 0 ∧ q < nI 10), if_neg (c3 : ¬ f = -1)]) (Aft.heard r0 _ _)
        · refine r_callS (As := [(.int f), (.int (nI 0)), (.int (nI 999))]) Mm dX5_hear_33 rfl (ct_needBad hfl h f (nI 0) (nI 999) (not_le2 k4)) cw_X5_33 ⟨Nat.le_of_ble_eq_true rfl, Nat.le_of_ble_eq_true rfl, Nat.le_of_ble_eq_true rfl⟩ (Nat.le_of_ble_eq_true rfl) ⟨Nat.le_of_ble_eq_true rfl, Nat.le_of_ble_eq_true rfl⟩ (fun r8 h9 p10 => False.elim p10) (fun Er8 h9 p10 => ?_)
          obtain ⟨rfl, rfl⟩ := p10
          refine x_out M ?_
          exact pOp.thr (by simp only [o_hear, oIn_no k4, if_pos (⟨c1, c2⟩ : ¬ q < 0 ∧ q < nI 10), if_neg (c3 : ¬ f = -1)]) (Aft.rf r0)
    · refine r_throw M ti_93 dX5_hear_13 dX5_hear_16 dX5_hear_17 dX5_hear_19 dX5_hear_22 (by decide) (Nat.le_of_ble_eq_true rfl) ⟨Nat.le_of_ble_eq_true rfl, Nat.le_of_ble_eq_true rfl⟩ ?_
      exact pOp.thr (by simp only [o_hear, if_neg (fun z => c2 z.2 : ¬ (¬ q < 0 ∧ q < nI 10))]) (Aft.rf r0)
def o_x (σ : ST) (q p f : Int32) : OR := oSh σ q (fun j => oHas σ j p (fun i => oIn f (nI 0) (nI 1999) (.inr ((goQ σ (tCast (eS σ j)) f (i + 1) i).1.1, σ))))
set_option maxRecDepth 100000 in
set_option maxHeartbeats 4000000 in
theorem ct_o_x {g : Gl} {l : Launch} (hfl : l.stackTraces = false) (h : Hp) (x pL sL ha : Nat) (ow : Nat → Nat) (ps ss : List Nat) (σ : ST) (r : RC (gN g 2) ow h x pL sL ha ps ss σ) (hw : WF σ) (q p f : Int32) : CT g l iX5_x 9 [.ref x, .int q, .int p, .int f] h 1 6 (pOp (gN g 2) ow h x pL sL ha σ (o_x σ q p f)) := by
  have r0 := r
  obtain ⟨⟨a1, a2, a3, a4, a5⟩, ⟨b1, b2, b3, b4⟩, zp, zs, ⟨d1, d2⟩, ⟨e1, e2, e3, e4, e5, e6⟩, f1⟩ := r
  have hl1 := b1.2.2.1
  have hl2 := b2.2.2.1
  obtain ⟨w1, w2, w3, w4, w5⟩ := hw
  refine ct_mk hfl (by decide) (Nat.le_of_ble_eq_true rfl) (by intro v hv; simp only [List.mem_cons, List.not_mem_nil, or_false] at hv; rcases hv with rfl | rfl | rfl | rfl <;> rfl) (fun V X M => ?_)
  have Mm := M.m
  show V 0 [some (.ref x), some (.int q), some (.int p), some (.int f), none] [] _ 0 0
  refine r_aload_n Mm dX5_x_0 rfl ?_
  refine r_iload_n Mm dX5_x_1 rfl ?_
  refine r_iload_n Mm dX5_x_2 rfl ?_
  by_cases k1 : 0 ≤ q ∧ q < nI (eM σ)
  · obtain ⟨j, hj, rfl⟩ := in_ex k1 (by omega)
    have ecj : (nI j).toNatClampNeg = j := nI_clamp (by omega)
    obtain ⟨s, has⟩ : ∃ v, ss[j]? = some v := ⟨_, List.getElem?_eq_getElem (by omega)⟩
    have hsa := zs _ _ has
    obtain ⟨sp, A, t1, t2, t3, t4, t5, t6, t7, t8, t9, t10, t11, t12, t13, t14⟩ := hsa
    have hok2 := w4 j hj
    have hl50 : tLeft (eS σ j) ≤ 50 := hok2.2
    by_cases k2 : hasC (tCast (eS σ j)) p = true
    · obtain ⟨i, hi8, rfl, hci⟩ := hasC_ex k2
      have hi : i < eN σ := hok2.1 i hci
      have eci : (nI i).toNatClampNeg = i := nI_clamp (by omega)
      obtain ⟨a, haa⟩ : ∃ v, ps[i]? = some v := ⟨_, List.getElem?_eq_getElem (by omega)⟩
      have hpa := zp _ _ haa
      obtain ⟨ka, ma, pl, xs, ms, hP, f0, f1b, f2, f3, f4, f5, ⟨o1, o2, o3, o4⟩, g1, g2, o5, o6⟩ := hpa
      have hok := w3 i hi
      have hlk : xs.length = (qKeys (eP σ i)).length := by rw [← f2, ksOf_len]
      have hlm : ms.length = (qMend (eP σ i)).length := by rw [← f5, List.length_map]
      have hk12 := hok.2.2.2.1
      have hw99 := hok.2.2.2.2.2.2.1
      have hm10 := hok.2.2.2.2.2.2.2
      refine r_callV (As := [(.int (nI j)), (.int (nI i))]) Mm dX5_x_3 rfl (ct_swOk hfl h x pL sL ha ow ps ss σ r0 j s has (nI i) k2) (a1) rfl cw_X5_189 ⟨Nat.le_of_ble_eq_true rfl, Nat.le_of_ble_eq_true rfl, Nat.le_of_ble_eq_true rfl⟩ (Nat.le_of_ble_eq_true rfl) ⟨Nat.le_of_ble_eq_true rfl, Nat.le_of_ble_eq_true rfl⟩ (fun r3 h4 p5 => ?_) (fun Er3 h4 p5 => False.elim p5)
      obtain ⟨rfl, rfl⟩ := p5
      show V 6 _ [(.ref s)] _ _ _
      refine r_astore Mm dX5_x_6 (by decide) ?_
      show V 8 [some (.ref x), some (.int (nI j)), some (.int (nI i)), some (.int f), some (.ref s)] _ _ _ _
      refine r_iload_n Mm dX5_x_8 rfl ?_
      refine r_iconst (v := nI 0) Mm dX5_x_9 (by decide) ?_
      refine r_sipush (v := nI 1999) Mm dX5_x_10 (by decide) ?_
      by_cases k6 : (nI 0) ≤ f ∧ f ≤ (nI 1999)
      · refine r_callS (As := [(.int f), (.int (nI 0)), (.int (nI 1999))]) Mm dX5_x_13 rfl (ct_needOk hfl h f (nI 0) (nI 1999) k6.1 k6.2) cw_X5_33 ⟨Nat.le_of_ble_eq_true rfl, Nat.le_of_ble_eq_true rfl, Nat.le_of_ble_eq_true rfl⟩ (Nat.le_of_ble_eq_true rfl) ⟨Nat.le_of_ble_eq_true rfl, Nat.le_of_ble_eq_true rfl⟩ (fun r7 h8 p9 => ?_) (fun Er7 h8 p9 => False.elim p9)
        obtain ⟨rfl, rfl⟩ := p9
        show V 16 _ [] _ _ _
        refine r_aload_n Mm dX5_x_16 rfl ?_
        refine r_aload Mm dX5_x_17 rfl ?_
        refine r_iload_n Mm dX5_x_19 rfl ?_
        refine r_iload_n Mm dX5_x_20 rfl ?_
        refine r_callV (As := [(.ref s), (.int (nI i)), (.int f)]) Mm dX5_x_21 rfl (ct_settled hfl h x pL sL ha ow ps ss σ r0 j s has i a haa (by omega) f) (a1) rfl cw_X5_193 ⟨Nat.le_of_ble_eq_true rfl, Nat.le_of_ble_eq_true rfl, Nat.le_of_ble_eq_true rfl⟩ (Nat.le_of_ble_eq_true rfl) ⟨Nat.le_of_ble_eq_true rfl, Nat.le_of_ble_eq_true rfl⟩ (fun r10 h11 p12 => ?_) (fun Er10 h11 p12 => False.elim p12)
        obtain ⟨rfl, ht, hq⟩ := p12
        have hpm := hq i (Nat.le_refl _) hci a pl haa (hP.tm ht).2.2.2.1
        show V 24 _ [(.ref a)] _ _ _
        refine r_getR Mm dX5_x_24 fi_X5_177 ((hP.tm ht).1) rfl (i := 206) rfl ((hP.tm ht).2.2.2.1) ?_
        refine r_getI Mm dX5_x_27 fi_X5_197 ((hP.tm ht).2.2.2.2.1) rfl (i := 100) rfl ?_
        refine r_top _ ((goQ σ (tCast (eS σ j)) f (i + 1) i).1.1) (congrArg Prod.fst hpm.1) ?_
        refine r_iret M dX5_x_30 ?_
        exact pOp.ret (by simp only [o_x, oSh_ok k1 ecj, oHas_ok k2 eci, oIn_ok k6]) (Aft.tm r0 ht)
      · refine r_callS (As := [(.int f), (.int (nI 0)), (.int (nI 1999))]) Mm dX5_x_13 rfl (ct_needBad hfl h f (nI 0) (nI 1999) (not_le2 k6)) cw_X5_33 ⟨Nat.le_of_ble_eq_true rfl, Nat.le_of_ble_eq_true rfl, Nat.le_of_ble_eq_true rfl⟩ (Nat.le_of_ble_eq_true rfl) ⟨Nat.le_of_ble_eq_true rfl, Nat.le_of_ble_eq_true rfl⟩ (fun r13 h14 p15 => False.elim p15) (fun Er13 h14 p15 => ?_)
        obtain ⟨rfl, rfl⟩ := p15
        refine x_out M ?_
        exact pOp.thr (by simp only [o_x, oSh_ok k1 ecj, oHas_ok k2 eci, oIn_no k6]) (Aft.rf r0)
    · refine r_callV (As := [(.int (nI j)), (.int p)]) Mm dX5_x_3 rfl (ct_swBad2 hfl h x pL sL ha ow ps ss σ r0 j s has p (Bool.eq_false_iff.mpr k2)) (a1) rfl cw_X5_189 ⟨Nat.le_of_ble_eq_true rfl, Nat.le_of_ble_eq_true rfl, Nat.le_of_ble_eq_true rfl⟩ (Nat.le_of_ble_eq_true rfl) ⟨Nat.le_of_ble_eq_true rfl, Nat.le_of_ble_eq_true rfl⟩ (fun r16 h17 p18 => False.elim p18) (fun Er16 h17 p18 => ?_)
      obtain ⟨rfl, rfl⟩ := p18
      refine x_out M ?_
      exact pOp.thr (by simp only [o_x, oSh_ok k1 ecj, oHas_no k2]) (Aft.rf r0)
  · refine r_callV (As := [(.int q), (.int p)]) Mm dX5_x_3 rfl (ct_swBad1 hfl h x pL sL ha ow ps ss σ r0 q p (by rw [b4]; exact not_in k1)) (a1) rfl cw_X5_189 ⟨Nat.le_of_ble_eq_true rfl, Nat.le_of_ble_eq_true rfl, Nat.le_of_ble_eq_true rfl⟩ (Nat.le_of_ble_eq_true rfl) ⟨Nat.le_of_ble_eq_true rfl, Nat.le_of_ble_eq_true rfl⟩ (fun r19 h20 p21 => False.elim p21) (fun Er19 h20 p21 => ?_)
    obtain ⟨rfl, rfl⟩ := p21
    refine x_out M ?_
    exact pOp.thr (by simp only [o_x, oSh_no k1]) (Aft.rf r0)
def o_y (σ : ST) (q p f : Int32) : OR := oSh σ q (fun j => oHas σ j p (fun i => oIn f (nI 0) (nI 1999) (.inr ((goQ σ (tCast (eS σ j)) f (i + 1) i).1.2, σ))))
set_option maxRecDepth 100000 in
set_option maxHeartbeats 4000000 in
theorem ct_o_y {g : Gl} {l : Launch} (hfl : l.stackTraces = false) (h : Hp) (x pL sL ha : Nat) (ow : Nat → Nat) (ps ss : List Nat) (σ : ST) (r : RC (gN g 2) ow h x pL sL ha ps ss σ) (hw : WF σ) (q p f : Int32) : CT g l iX5_y 9 [.ref x, .int q, .int p, .int f] h 1 6 (pOp (gN g 2) ow h x pL sL ha σ (o_y σ q p f)) := by
  have r0 := r
  obtain ⟨⟨a1, a2, a3, a4, a5⟩, ⟨b1, b2, b3, b4⟩, zp, zs, ⟨d1, d2⟩, ⟨e1, e2, e3, e4, e5, e6⟩, f1⟩ := r
  have hl1 := b1.2.2.1
  have hl2 := b2.2.2.1
  obtain ⟨w1, w2, w3, w4, w5⟩ := hw
  refine ct_mk hfl (by decide) (Nat.le_of_ble_eq_true rfl) (by intro v hv; simp only [List.mem_cons, List.not_mem_nil, or_false] at hv; rcases hv with rfl | rfl | rfl | rfl <;> rfl) (fun V X M => ?_)
  have Mm := M.m
  show V 0 [some (.ref x), some (.int q), some (.int p), some (.int f), none] [] _ 0 0
  refine r_aload_n Mm dX5_y_0 rfl ?_
  refine r_iload_n Mm dX5_y_1 rfl ?_
  refine r_iload_n Mm dX5_y_2 rfl ?_
  by_cases k1 : 0 ≤ q ∧ q < nI (eM σ)
  · obtain ⟨j, hj, rfl⟩ := in_ex k1 (by omega)
    have ecj : (nI j).toNatClampNeg = j := nI_clamp (by omega)
    obtain ⟨s, has⟩ : ∃ v, ss[j]? = some v := ⟨_, List.getElem?_eq_getElem (by omega)⟩
    have hsa := zs _ _ has
    obtain ⟨sp, A, t1, t2, t3, t4, t5, t6, t7, t8, t9, t10, t11, t12, t13, t14⟩ := hsa
    have hok2 := w4 j hj
    have hl50 : tLeft (eS σ j) ≤ 50 := hok2.2
    by_cases k2 : hasC (tCast (eS σ j)) p = true
    · obtain ⟨i, hi8, rfl, hci⟩ := hasC_ex k2
      have hi : i < eN σ := hok2.1 i hci
      have eci : (nI i).toNatClampNeg = i := nI_clamp (by omega)
      obtain ⟨a, haa⟩ : ∃ v, ps[i]? = some v := ⟨_, List.getElem?_eq_getElem (by omega)⟩
      have hpa := zp _ _ haa
      obtain ⟨ka, ma, pl, xs, ms, hP, f0, f1b, f2, f3, f4, f5, ⟨o1, o2, o3, o4⟩, g1, g2, o5, o6⟩ := hpa
      have hok := w3 i hi
      have hlk : xs.length = (qKeys (eP σ i)).length := by rw [← f2, ksOf_len]
      have hlm : ms.length = (qMend (eP σ i)).length := by rw [← f5, List.length_map]
      have hk12 := hok.2.2.2.1
      have hw99 := hok.2.2.2.2.2.2.1
      have hm10 := hok.2.2.2.2.2.2.2
      refine r_callV (As := [(.int (nI j)), (.int (nI i))]) Mm dX5_y_3 rfl (ct_swOk hfl h x pL sL ha ow ps ss σ r0 j s has (nI i) k2) (a1) rfl cw_X5_189 ⟨Nat.le_of_ble_eq_true rfl, Nat.le_of_ble_eq_true rfl, Nat.le_of_ble_eq_true rfl⟩ (Nat.le_of_ble_eq_true rfl) ⟨Nat.le_of_ble_eq_true rfl, Nat.le_of_ble_eq_true rfl⟩ (fun r3 h4 p5 => ?_) (fun Er3 h4 p5 => False.elim p5)
      obtain ⟨rfl, rfl⟩ := p5
      show V 6 _ [(.ref s)] _ _ _
      refine r_astore Mm dX5_y_6 (by decide) ?_
      show V 8 [some (.ref x), some (.int (nI j)), some (.int (nI i)), some (.int f), some (.ref s)] _ _ _ _
      refine r_iload_n Mm dX5_y_8 rfl ?_
      refine r_iconst (v := nI 0) Mm dX5_y_9 (by decide) ?_
      refine r_sipush (v := nI 1999) Mm dX5_y_10 (by decide) ?_
      by_cases k6 : (nI 0) ≤ f ∧ f ≤ (nI 1999)
      · refine r_callS (As := [(.int f), (.int (nI 0)), (.int (nI 1999))]) Mm dX5_y_13 rfl (ct_needOk hfl h f (nI 0) (nI 1999) k6.1 k6.2) cw_X5_33 ⟨Nat.le_of_ble_eq_true rfl, Nat.le_of_ble_eq_true rfl, Nat.le_of_ble_eq_true rfl⟩ (Nat.le_of_ble_eq_true rfl) ⟨Nat.le_of_ble_eq_true rfl, Nat.le_of_ble_eq_true rfl⟩ (fun r7 h8 p9 => ?_) (fun Er7 h8 p9 => False.elim p9)
        obtain ⟨rfl, rfl⟩ := p9
        show V 16 _ [] _ _ _
        refine r_aload_n Mm dX5_y_16 rfl ?_
        refine r_aload Mm dX5_y_17 rfl ?_
        refine r_iload_n Mm dX5_y_19 rfl ?_
        refine r_iload_n Mm dX5_y_20 rfl ?_
        refine r_callV (As := [(.ref s), (.int (nI i)), (.int f)]) Mm dX5_y_21 rfl (ct_settled hfl h x pL sL ha ow ps ss σ r0 j s has i a haa (by omega) f) (a1) rfl cw_X5_193 ⟨Nat.le_of_ble_eq_true rfl, Nat.le_of_ble_eq_true rfl, Nat.le_of_ble_eq_true rfl⟩ (Nat.le_of_ble_eq_true rfl) ⟨Nat.le_of_ble_eq_true rfl, Nat.le_of_ble_eq_true rfl⟩ (fun r10 h11 p12 => ?_) (fun Er10 h11 p12 => False.elim p12)
        obtain ⟨rfl, ht, hq⟩ := p12
        have hpm := hq i (Nat.le_refl _) hci a pl haa (hP.tm ht).2.2.2.1
        show V 24 _ [(.ref a)] _ _ _
        refine r_getR Mm dX5_y_24 fi_X5_177 ((hP.tm ht).1) rfl (i := 206) rfl ((hP.tm ht).2.2.2.1) ?_
        refine r_getI Mm dX5_y_27 fi_X5_200 ((hP.tm ht).2.2.2.2.1) rfl (i := 101) rfl ?_
        refine r_top _ ((goQ σ (tCast (eS σ j)) f (i + 1) i).1.2) (congrArg Prod.snd hpm.1) ?_
        refine r_iret M dX5_y_30 ?_
        exact pOp.ret (by simp only [o_y, oSh_ok k1 ecj, oHas_ok k2 eci, oIn_ok k6]) (Aft.tm r0 ht)
      · refine r_callS (As := [(.int f), (.int (nI 0)), (.int (nI 1999))]) Mm dX5_y_13 rfl (ct_needBad hfl h f (nI 0) (nI 1999) (not_le2 k6)) cw_X5_33 ⟨Nat.le_of_ble_eq_true rfl, Nat.le_of_ble_eq_true rfl, Nat.le_of_ble_eq_true rfl⟩ (Nat.le_of_ble_eq_true rfl) ⟨Nat.le_of_ble_eq_true rfl, Nat.le_of_ble_eq_true rfl⟩ (fun r13 h14 p15 => False.elim p15) (fun Er13 h14 p15 => ?_)
        obtain ⟨rfl, rfl⟩ := p15
        refine x_out M ?_
        exact pOp.thr (by simp only [o_y, oSh_ok k1 ecj, oHas_ok k2 eci, oIn_no k6]) (Aft.rf r0)
    · refine r_callV (As := [(.int (nI j)), (.int p)]) Mm dX5_y_3 rfl (ct_swBad2 hfl h x pL sL ha ow ps ss σ r0 j s has p (Bool.eq_false_iff.mpr k2)) (a1) rfl cw_X5_189 ⟨Nat.le_of_ble_eq_true rfl, Nat.le_of_ble_eq_true rfl, Nat.le_of_ble_eq_true rfl⟩ (Nat.le_of_ble_eq_true rfl) ⟨Nat.le_of_ble_eq_true rfl, Nat.le_of_ble_eq_true rfl⟩ (fun r16 h17 p18 => False.elim p18) (fun Er16 h17 p18 => ?_)
      obtain ⟨rfl, rfl⟩ := p18
      refine x_out M ?_
      exact pOp.thr (by simp only [o_y, oSh_ok k1 ecj, oHas_no k2]) (Aft.rf r0)
  · refine r_callV (As := [(.int q), (.int p)]) Mm dX5_y_3 rfl (ct_swBad1 hfl h x pL sL ha ow ps ss σ r0 q p (by rw [b4]; exact not_in k1)) (a1) rfl cw_X5_189 ⟨Nat.le_of_ble_eq_true rfl, Nat.le_of_ble_eq_true rfl, Nat.le_of_ble_eq_true rfl⟩ (Nat.le_of_ble_eq_true rfl) ⟨Nat.le_of_ble_eq_true rfl, Nat.le_of_ble_eq_true rfl⟩ (fun r19 h20 p21 => False.elim p21) (fun Er19 h20 p21 => ?_)
    obtain ⟨rfl, rfl⟩ := p21
    refine x_out M ?_
    exact pOp.thr (by simp only [o_y, oSh_no k1]) (Aft.rf r0)
def o_bent (σ : ST) (q p f t : Int32) : OR := oSh σ q (fun j => oHas σ j p (fun i => oIn f (nI 0) (nI 1999) (oIn t (nI 0) (nI 1999) (.inr (nI (cntR (fun k => (goQ σ (tCast (eS σ j)) (nI k) (i + 1) i).2) f.toNatClampNeg (t.toNatClampNeg + 1 - f.toNatClampNeg)), σ)))))
set_option maxRecDepth 100000 in
set_option maxHeartbeats 4000000 in
theorem ct_o_bent {g : Gl} {l : Launch} (hfl : l.stackTraces = false) (h : Hp) (x pL sL ha : Nat) (ow : Nat → Nat) (ps ss : List Nat) (σ : ST) (r : RC (gN g 2) ow h x pL sL ha ps ss σ) (hw : WF σ) (q p f t : Int32) : CT g l iX5_bent 9 [.ref x, .int q, .int p, .int f, .int t] h 1 6 (pOp (gN g 2) ow h x pL sL ha σ (o_bent σ q p f t)) := by
  have r0 := r
  obtain ⟨⟨a1, a2, a3, a4, a5⟩, ⟨b1, b2, b3, b4⟩, zp, zs, ⟨d1, d2⟩, ⟨e1, e2, e3, e4, e5, e6⟩, f1⟩ := r
  have hl1 := b1.2.2.1
  have hl2 := b2.2.2.1
  obtain ⟨w1, w2, w3, w4, w5⟩ := hw
  refine ct_mk hfl (by decide) (Nat.le_of_ble_eq_true rfl) (by intro v hv; simp only [List.mem_cons, List.not_mem_nil, or_false] at hv; rcases hv with rfl | rfl | rfl | rfl | rfl <;> rfl) (fun V X M => ?_)
  have Mm := M.m
  show V 0 [some (.ref x), some (.int q), some (.int p), some (.int f), some (.int t), none, none, none] [] _ 0 0
  refine r_aload_n Mm dX5_bent_0 rfl ?_
  refine r_iload_n Mm dX5_bent_1 rfl ?_
  refine r_iload_n Mm dX5_bent_2 rfl ?_
  by_cases k1 : 0 ≤ q ∧ q < nI (eM σ)
  · obtain ⟨j, hj, rfl⟩ := in_ex k1 (by omega)
    have ecj : (nI j).toNatClampNeg = j := nI_clamp (by omega)
    obtain ⟨s, has⟩ : ∃ v, ss[j]? = some v := ⟨_, List.getElem?_eq_getElem (by omega)⟩
    have hsa := zs _ _ has
    obtain ⟨sp, A, t1, t2, t3, t4, t5, t6, t7, t8, t9, t10, t11, t12, t13, t14⟩ := hsa
    have hok2 := w4 j hj
    have hl50 : tLeft (eS σ j) ≤ 50 := hok2.2
    by_cases k2 : hasC (tCast (eS σ j)) p = true
    · obtain ⟨i, hi8, rfl, hci⟩ := hasC_ex k2
      have hi : i < eN σ := hok2.1 i hci
      have eci : (nI i).toNatClampNeg = i := nI_clamp (by omega)
      obtain ⟨a, haa⟩ : ∃ v, ps[i]? = some v := ⟨_, List.getElem?_eq_getElem (by omega)⟩
      have hpa := zp _ _ haa
      obtain ⟨ka, ma, pl, xs, ms, hP, f0, f1b, f2, f3, f4, f5, ⟨o1, o2, o3, o4⟩, g1, g2, o5, o6⟩ := hpa
      have hok := w3 i hi
      have hlk : xs.length = (qKeys (eP σ i)).length := by rw [← f2, ksOf_len]
      have hlm : ms.length = (qMend (eP σ i)).length := by rw [← f5, List.length_map]
      have hk12 := hok.2.2.2.1
      have hw99 := hok.2.2.2.2.2.2.1
      have hm10 := hok.2.2.2.2.2.2.2
      refine r_callV (As := [(.int (nI j)), (.int (nI i))]) Mm dX5_bent_3 rfl (ct_swOk hfl h x pL sL ha ow ps ss σ r0 j s has (nI i) k2) (a1) rfl cw_X5_189 ⟨Nat.le_of_ble_eq_true rfl, Nat.le_of_ble_eq_true rfl, Nat.le_of_ble_eq_true rfl⟩ (Nat.le_of_ble_eq_true rfl) ⟨Nat.le_of_ble_eq_true rfl, Nat.le_of_ble_eq_true rfl⟩ (fun r3 h4 p5 => ?_) (fun Er3 h4 p5 => False.elim p5)
      obtain ⟨rfl, rfl⟩ := p5
      show V 6 _ [(.ref s)] _ _ _
      refine r_astore Mm dX5_bent_6 (by decide) ?_
      show V 8 [some (.ref x), some (.int (nI j)), some (.int (nI i)), some (.int f), some (.int t), some (.ref s), none, none] _ _ _ _
      refine r_iload_n Mm dX5_bent_8 rfl ?_
      refine r_iconst (v := nI 0) Mm dX5_bent_9 (by decide) ?_
      refine r_sipush (v := nI 1999) Mm dX5_bent_10 (by decide) ?_
      by_cases k6 : (nI 0) ≤ f ∧ f ≤ (nI 1999)
      · refine r_callS (As := [(.int f), (.int (nI 0)), (.int (nI 1999))]) Mm dX5_bent_13 rfl (ct_needOk hfl h f (nI 0) (nI 1999) k6.1 k6.2) cw_X5_33 ⟨Nat.le_of_ble_eq_true rfl, Nat.le_of_ble_eq_true rfl, Nat.le_of_ble_eq_true rfl⟩ (Nat.le_of_ble_eq_true rfl) ⟨Nat.le_of_ble_eq_true rfl, Nat.le_of_ble_eq_true rfl⟩ (fun r7 h8 p9 => ?_) (fun Er7 h8 p9 => False.elim p9)
        obtain ⟨rfl, rfl⟩ := p9
        show V 16 _ [] _ _ _
        obtain ⟨F, hF, rfl⟩ := in_le k6 (by decide)
        have ecF : (nI F).toNatClampNeg = F := nI_clamp (by omega)
        refine r_iload Mm dX5_bent_16 rfl ?_
        refine r_iconst (v := nI 0) Mm dX5_bent_18 (by decide) ?_
        refine r_sipush (v := nI 1999) Mm dX5_bent_19 (by decide) ?_
        by_cases k10 : (nI 0) ≤ t ∧ t ≤ (nI 1999)
        · refine r_callS (As := [(.int t), (.int (nI 0)), (.int (nI 1999))]) Mm dX5_bent_22 rfl (ct_needOk hfl h t (nI 0) (nI 1999) k10.1 k10.2) cw_X5_33 ⟨Nat.le_of_ble_eq_true rfl, Nat.le_of_ble_eq_true rfl, Nat.le_of_ble_eq_true rfl⟩ (Nat.le_of_ble_eq_true rfl) ⟨Nat.le_of_ble_eq_true rfl, Nat.le_of_ble_eq_true rfl⟩ (fun r11 h12 p13 => ?_) (fun Er11 h12 p13 => False.elim p13)
          obtain ⟨rfl, rfl⟩ := p13
          show V 25 _ [] _ _ _
          obtain ⟨T, hT, rfl⟩ := in_le k10 (by decide)
          have ecT : (nI T).toNatClampNeg = T := nI_clamp (by omega)
          refine r_iconst (v := nI 0) Mm dX5_bent_25 (by decide) ?_
          refine r_istore Mm dX5_bent_26 (by decide) ?_
          show V 28 [some (.ref x), some (.int (nI j)), some (.int (nI i)), some (.int (nI F)), some (.int (nI T)), some (.ref s), some (.int (nI 0)), none] _ _ _ _
          refine r_iload_n Mm dX5_bent_28 rfl ?_
          refine r_istore Mm dX5_bent_29 (by decide) ?_
          show V 31 [some (.ref x), some (.int (nI j)), some (.int (nI i)), some (.int (nI F)), some (.int (nI T)), some (.ref s), some (.int (nI 0)), some (.int (nI F))] _ _ _ _
          have r9 := r0
          have loop : ∀ (m : Nat) (h1 : Hp) (k : Nat), T + 1 - F - k < m → (k ≤ T + 1 - F) → (Tm h h1) → V 31 [some (.ref x), some (.int (nI j)), some (.int (nI i)), some (.int (nI F)), some (.int (nI T)), some (.ref s), some (.int (nI (cntR (fun k => (goQ σ (tCast (eS σ j)) (nI k) (i + 1) i).2) F k))), some (.int (nI (F + k)))] [] h1 0 0 := by
            intro m
            induction m with
            | zero => intro h1 k hm; exact absurd hm (Nat.not_lt_zero _)
            | succ m ih =>
              intro h1 k hm hk ht
              have r1 := r0.tm ht
              refine r_iload Mm dX5_bent_31 rfl ?_
              refine r_iload Mm dX5_bent_33 rfl ?_
              refine r_icmp_gtN (tgt := 62) Mm dX5_bent_35 (by decide) (by omega) (by omega) (fun c14 => ?_) (fun c14 => ?_)
              · refine r_iload Mm dX5_bent_62 rfl ?_
                refine r_iret M dX5_bent_64 ?_
                obtain rfl : k = T + 1 - F := by omega
                exact pOp.ret (by simp only [o_bent, oSh_ok k1 ecj, oHas_ok k2 eci, oIn_ok k6, ecF, oIn_ok k10, ecT]) (Aft.tm r0 ht)
              · refine r_aload_n Mm dX5_bent_38 rfl ?_
                refine r_aload Mm dX5_bent_39 rfl ?_
                refine r_iload_n Mm dX5_bent_41 rfl ?_
                refine r_iload Mm dX5_bent_42 rfl ?_
                refine r_callV (As := [(.ref s), (.int (nI i)), (.int (nI (F + k)))]) Mm dX5_bent_44 rfl (ct_settled hfl h1 x pL sL ha ow ps ss σ r1 j s has i a haa (by omega) (nI (F + k))) (r1.1.1) rfl cw_X5_193 ⟨Nat.le_of_ble_eq_true rfl, Nat.le_of_ble_eq_true rfl, Nat.le_of_ble_eq_true rfl⟩ (Nat.le_of_ble_eq_true rfl) ⟨Nat.le_of_ble_eq_true rfl, Nat.le_of_ble_eq_true rfl⟩ (fun r15 h16 p17 => ?_) (fun Er15 h16 p17 => False.elim p17)
                obtain ⟨rfl, t2, hq⟩ := p17
                have hpm := hq i (Nat.le_refl _) hci a pl haa (hP.tm (Tm.tr ht t2)).2.2.2.1
                show V 47 _ [(.ref a)] _ _ _
                refine r_getI Mm dX5_bent_47 fi_X5_203 ((hP.tm (Tm.tr ht t2)).1) rfl (i := 207) rfl ?_
                refine r_top _ (bI ((goQ σ (tCast (eS σ j)) (nI (F + k)) (i + 1) i).2)) (hpm.2) ?_
                refine r_if_eqB (tgt := 56) Mm dX5_bent_50 (by decide) (fun c18 => ?_) (fun c18 => ?_)
                · refine r_iincN (k := 1) Mm dX5_bent_56 rfl (by decide) (by decide) ?_
                  show V 59 [some (.ref x), some (.int (nI j)), some (.int (nI i)), some (.int (nI F)), some (.int (nI T)), some (.ref s), some (.int (nI (cntR (fun k => (goQ σ (tCast (eS σ j)) (nI k) (i + 1) i).2) F k))), some (.int (nI (F + k + 1)))] _ _ _ _
                  refine r_goto (tgt := 31) Mm dX5_bent_59 (by decide) ?_
                  have e9 : cntR (fun k => (goQ σ (tCast (eS σ j)) (nI k) (i + 1) i).2) F (k + 1) = cntR (fun k => (goQ σ (tCast (eS σ j)) (nI k) (i + 1) i).2) F k := by rw [cntR, if_neg (by rw [c18]; exact Bool.noConfusion), Nat.add_zero]
                  have l9 := ih _ (k + 1) (by omega) (by omega) (Tm.tr ht t2)
                  rw [e9] at l9
                  exact l9
                · refine r_iincN (k := 1) Mm dX5_bent_53 rfl (by decide) (by decide) ?_
                  show V 56 [some (.ref x), some (.int (nI j)), some (.int (nI i)), some (.int (nI F)), some (.int (nI T)), some (.ref s), some (.int (nI (cntR (fun k => (goQ σ (tCast (eS σ j)) (nI k) (i + 1) i).2) F k + 1))), some (.int (nI (F + k)))] _ _ _ _
                  refine r_iincN (k := 1) Mm dX5_bent_56 rfl (by decide) (by decide) ?_
                  show V 59 [some (.ref x), some (.int (nI j)), some (.int (nI i)), some (.int (nI F)), some (.int (nI T)), some (.ref s), some (.int (nI (cntR (fun k => (goQ σ (tCast (eS σ j)) (nI k) (i + 1) i).2) F k + 1))), some (.int (nI (F + k + 1)))] _ _ _ _
                  refine r_goto (tgt := 31) Mm dX5_bent_59 (by decide) ?_
                  have e9 : cntR (fun k => (goQ σ (tCast (eS σ j)) (nI k) (i + 1) i).2) F (k + 1) = cntR (fun k => (goQ σ (tCast (eS σ j)) (nI k) (i + 1) i).2) F k + 1 := by rw [cntR, if_pos c18]
                  have l9 := ih _ (k + 1) (by omega) (by omega) (Tm.tr ht t2)
                  rw [e9] at l9
                  exact l9
          exact loop (T + 2) _ 0 (by omega) (Nat.zero_le _) Tm.rf
        · refine r_callS (As := [(.int t), (.int (nI 0)), (.int (nI 1999))]) Mm dX5_bent_22 rfl (ct_needBad hfl h t (nI 0) (nI 1999) (not_le2 k10)) cw_X5_33 ⟨Nat.le_of_ble_eq_true rfl, Nat.le_of_ble_eq_true rfl, Nat.le_of_ble_eq_true rfl⟩ (Nat.le_of_ble_eq_true rfl) ⟨Nat.le_of_ble_eq_true rfl, Nat.le_of_ble_eq_true rfl⟩ (fun r19 h20 p21 => False.elim p21) (fun Er19 h20 p21 => ?_)
          obtain ⟨rfl, rfl⟩ := p21
          refine x_out M ?_
          exact pOp.thr (by simp only [o_bent, oSh_ok k1 ecj, oHas_ok k2 eci, oIn_ok k6, ecF, oIn_no k10]) (Aft.rf r0)
      · refine r_callS (As := [(.int f), (.int (nI 0)), (.int (nI 1999))]) Mm dX5_bent_13 rfl (ct_needBad hfl h f (nI 0) (nI 1999) (not_le2 k6)) cw_X5_33 ⟨Nat.le_of_ble_eq_true rfl, Nat.le_of_ble_eq_true rfl, Nat.le_of_ble_eq_true rfl⟩ (Nat.le_of_ble_eq_true rfl) ⟨Nat.le_of_ble_eq_true rfl, Nat.le_of_ble_eq_true rfl⟩ (fun r22 h23 p24 => False.elim p24) (fun Er22 h23 p24 => ?_)
        obtain ⟨rfl, rfl⟩ := p24
        refine x_out M ?_
        exact pOp.thr (by simp only [o_bent, oSh_ok k1 ecj, oHas_ok k2 eci, oIn_no k6]) (Aft.rf r0)
    · refine r_callV (As := [(.int (nI j)), (.int p)]) Mm dX5_bent_3 rfl (ct_swBad2 hfl h x pL sL ha ow ps ss σ r0 j s has p (Bool.eq_false_iff.mpr k2)) (a1) rfl cw_X5_189 ⟨Nat.le_of_ble_eq_true rfl, Nat.le_of_ble_eq_true rfl, Nat.le_of_ble_eq_true rfl⟩ (Nat.le_of_ble_eq_true rfl) ⟨Nat.le_of_ble_eq_true rfl, Nat.le_of_ble_eq_true rfl⟩ (fun r25 h26 p27 => False.elim p27) (fun Er25 h26 p27 => ?_)
      obtain ⟨rfl, rfl⟩ := p27
      refine x_out M ?_
      exact pOp.thr (by simp only [o_bent, oSh_ok k1 ecj, oHas_no k2]) (Aft.rf r0)
  · refine r_callV (As := [(.int q), (.int p)]) Mm dX5_bent_3 rfl (ct_swBad1 hfl h x pL sL ha ow ps ss σ r0 q p (by rw [b4]; exact not_in k1)) (a1) rfl cw_X5_189 ⟨Nat.le_of_ble_eq_true rfl, Nat.le_of_ble_eq_true rfl, Nat.le_of_ble_eq_true rfl⟩ (Nat.le_of_ble_eq_true rfl) ⟨Nat.le_of_ble_eq_true rfl, Nat.le_of_ble_eq_true rfl⟩ (fun r28 h29 p30 => False.elim p30) (fun Er28 h29 p30 => ?_)
    obtain ⟨rfl, rfl⟩ := p30
    refine x_out M ?_
    exact pOp.thr (by simp only [o_bent, oSh_no k1]) (Aft.rf r0)
