/-! ===== near: both ways ===== -/
theorem near_ax {u v : Int32} (hu : -10000 ≤ u.toInt ∧ u.toInt ≤ 10000) (hv : -10000 ≤ v.toInt ∧ v.toInt ≤ 10000) : decide (absS (u - v) < nI 10) = decide (u - v < nI 10 ∧ v - u < nI 10) := by
  have e1 := i_sub (a := u) (b := v) (by omega) (by omega)
  have e2 := i_sub (a := v) (b := u) (by omega) (by omega)
  have e0 : (0 : Int32).toInt = 0 := rfl
  have e10 : (nI 10).toInt = 10 := rfl
  have e3 := i_sub (a := 0) (b := u - v) (by rw [e0, e1]; omega) (by rw [e0, e1]; omega)
  rw [decide_eq_decide, absS]
  by_cases c : 0 ≤ u - v
  · rw [if_pos c]
    rw [Int32.le_iff_toInt_le, e0, e1] at c
    simp only [Int32.lt_iff_toInt_lt, e1, e2, e10]
    omega
  · rw [if_neg c]
    rw [Int32.le_iff_toInt_le, e0, e1] at c
    simp only [Int32.lt_iff_toInt_lt, e1, e2, e3, e0, e10]
    omega
theorem sq_up {a k : Int} (h : -k ≤ a ∧ a ≤ k) (hk : 0 ≤ k) : 0 ≤ a * a ∧ a * a ≤ k * k := by
  have hz : a * a = ((a.natAbs * a.natAbs : Nat) : Int) := by rw [Int.natCast_mul]; exact (Int.natAbs_mul_self' a).symm
  have hk2 : k = (k.toNat : Int) := by omega
  have hm : a.natAbs * a.natAbs ≤ k.toNat * k.toNat := Nat.mul_le_mul (by omega) (by omega)
  rw [hz, hk2]
  rw [← Int.natCast_mul]
  omega
theorem sq_down {a : Int} {k : Nat} (h : a * a ≤ (k * k : Nat)) : -(k : Int) ≤ a ∧ a ≤ k := by
  have hz : a * a = ((a.natAbs * a.natAbs : Nat) : Int) := by rw [Int.natCast_mul]; exact (Int.natAbs_mul_self' a).symm
  rw [hz] at h
  have h2 : a.natAbs * a.natAbs ≤ k * k := by omega
  have h3 : a.natAbs ≤ k := by
    rcases Nat.lt_or_ge k a.natAbs with c | c
    · have := Nat.mul_le_mul (show k + 1 ≤ a.natAbs from c) (show k + 1 ≤ a.natAbs from c)
      have e : (k + 1) * (k + 1) = k * k + 2 * k + 1 := by rw [Nat.add_mul, Nat.mul_add]; omega
      omega
    · exact c
  omega
theorem pullS_fin {bar len X0 Y0 : Int32} (hb : 0 ≤ bar.toInt ∧ bar.toInt ≤ 999) {L : Nat} (hL : L ≤ 1500) (eL : len = nI L) (hx : -10000 ≤ X0.toInt ∧ X0.toInt ≤ 10000) (hy : -10000 ≤ Y0.toInt ∧ Y0.toInt ≤ 10000) : (-1500 ≤ (pullS bar len (X0, Y0)).1.toInt ∧ (pullS bar len (X0, Y0)).1.toInt ≤ 2499) ∧ -2047 ≤ (pullS bar len (X0, Y0)).2.toInt ∧ (pullS bar len (X0, Y0)).2.toInt ≤ 2047 := by
  have tl : len.toInt = L := by rw [eL]; exact nI_toInt (by omega)
  have hl : 0 ≤ len.toInt ∧ len.toInt ≤ 1500 := by omega
  have hLL : L * L ≤ 1500 * 1500 := Nat.mul_le_mul hL hL
  by_cases c : len * len < sq2 (X0 - bar) Y0
  · rw [show pullS bar len (X0, Y0) = (bar + clampS len (X0 - bar), rootB (len * len - clampS len (X0 - bar) * clampS len (X0 - bar))) from if_pos c]
    have hci := clamp_in hb hl hx
    rw [tl] at hci
    obtain ⟨D, hDL, eD⟩ := sq_abs hci hL
    have hDL2 : D * D ≤ L * L := Nat.mul_le_mul hDL hDL
    obtain ⟨q, eq1, eq2, eq3, eq4⟩ := rootB_spec (n := L * L - D * D) (by omega)
    rw [eD, eL, pk_mul, pk_sub hDL2, eq1]
    rw [eL] at hci
    have e1 := i_add (a := bar) (b := clampS (nI L) (X0 - bar)) (by omega) (by omega)
    have e2 : (nI q).toInt = q := nI_toInt (by omega)
    show (-1500 ≤ (bar + clampS (nI L) (X0 - bar)).toInt ∧ (bar + clampS (nI L) (X0 - bar)).toInt ≤ 2499) ∧ -2047 ≤ (nI q).toInt ∧ (nI q).toInt ≤ 2047
    rw [e1, e2]
    omega
  · rw [show pullS bar len (X0, Y0) = (X0, Y0) from if_neg c]
    have e3 := i_sub (a := X0) (b := bar) (by omega) (by omega)
    have q1 := sq_up (a := (X0 - bar).toInt) (k := 11000) (by omega) (by omega)
    have q2 := sq_up (a := Y0.toInt) (k := 10000) (by omega) (by omega)
    have e4 := i_mul (a := X0 - bar) (b := X0 - bar) (by omega) (by omega)
    have e5 := i_mul (a := Y0) (b := Y0) (by omega) (by omega)
    have e6 := i_add (a := (X0 - bar) * (X0 - bar)) (b := Y0 * Y0) (by omega) (by omega)
    have e7 : (len * len).toInt = (L * L : Nat) := by rw [eL, pk_mul]; exact nI_toInt (by omega)
    rw [Int32.lt_iff_toInt_lt, e7, sq2, e6, e4, e5] at c
    have d1 := sq_down (a := (X0 - bar).toInt) (k := L) (by omega)
    have d2 := sq_down (a := Y0.toInt) (k := L) (by omega)
    show (-1500 ≤ X0.toInt ∧ X0.toInt ≤ 2499) ∧ -2047 ≤ Y0.toInt ∧ Y0.toInt ≤ 2047
    omega
