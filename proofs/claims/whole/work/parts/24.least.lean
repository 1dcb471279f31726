/-! ===== the least length, both ways ===== -/
theorem least_spec {n : Nat} (hn : n < 4000000) : ∃ q : Nat, q ≤ 2048 ∧ (if rootB (nI n) * rootB (nI n) < nI n then rootB (nI n) + nI 1 else rootB (nI n)) = nI q ∧ n ≤ q * q ∧ ∀ j : Nat, j < q → j * j < n := by
  obtain ⟨q, e1, e2, e3, e4⟩ := rootB_spec (n := n) (by omega)
  rw [e1, pk_mul]
  have hq : q * q ≤ 2048 * 2048 := Nat.mul_le_mul (by omega) (by omega)
  by_cases c : q * q < n
  · rw [if_pos (nI_lt c (by omega)), nI_add]
    refine ⟨q + 1, by omega, rfl, by omega, fun j hj => ?_⟩
    have := Nat.mul_le_mul (show j ≤ q by omega) (show j ≤ q by omega)
    omega
  · rw [if_neg (nI_nlt (by omega) (by omega))]
    refine ⟨q, by omega, rfl, by omega, fun j hj => ?_⟩
    have h1 := Nat.mul_le_mul (show j ≤ q by omega) (show j ≤ q by omega)
    rcases Nat.lt_or_ge (j * j) n with d | d
    · exact d
    · have h2 := Nat.mul_le_mul (show j + 1 ≤ q by omega) (show j + 1 ≤ q by omega)
      have h3 : (j + 1) * (j + 1) = j * j + 2 * j + 1 := by rw [Nat.add_mul, Nat.mul_add]; omega
      omega
/-- how far the track goes -/
theorem far_bd {bar : Int32} {v : Int32 × Int32} (hb : inB bar) (h1 : inB v.1) (h2 : inB v.2) : ∃ n : Nat, n < 2000000 ∧ sq2 (v.1 - bar) v.2 = nI n := by
  obtain ⟨b1, b2⟩ := hb
  obtain ⟨x1, x2⟩ := h1
  obtain ⟨y1, y2⟩ := h2
  have e3 := i_sub (a := v.1) (b := bar) (by omega) (by omega)
  have q1 := sq_up (a := (v.1 - bar).toInt) (k := 999) (by omega) (by omega)
  have q2 := sq_up (a := v.2.toInt) (k := 999) (by omega) (by omega)
  have e4 := i_mul (a := v.1 - bar) (b := v.1 - bar) (by omega) (by omega)
  have e5 := i_mul (a := v.2) (b := v.2) (by omega) (by omega)
  have e6 := i_add (a := (v.1 - bar) * (v.1 - bar)) (b := v.2 * v.2) (by omega) (by omega)
  have e7 : (sq2 (v.1 - bar) v.2).toInt = (v.1 - bar).toInt * (v.1 - bar).toInt + v.2.toInt * v.2.toInt := by rw [sq2, e6, e4, e5]
  refine ⟨(sq2 (v.1 - bar) v.2).toInt.toNat, by omega, Int32.toInt_inj.mp ?_⟩
  rw [nI_toInt (by omega)]
  omega
theorem farF_bd {p : PS} (hok : okP p) (k : Nat) : ∃ n : Nat, n < 2000000 ∧ farF (qBar p) (qKeys p) k = nI n := by
  induction k with
  | zero => exact ⟨0, by decide, rfl⟩
  | succ k ih =>
    obtain ⟨n, hn, en⟩ := ih
    obtain ⟨t1, t2⟩ := trk_bd hok (nI k)
    obtain ⟨b, hb, eb⟩ := hok.1
    obtain ⟨d, hd, ed⟩ := far_bd (bar := qBar p) (by rw [eb]; exact inB_nI hb) t1 t2
    rw [farF, en, ed, mxS]
    by_cases c : nI n < nI d
    · rw [if_pos c]; exact ⟨d, hd, rfl⟩
    · rw [if_neg c]; exact ⟨n, hn, rfl⟩
