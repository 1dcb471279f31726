/-! ===== the string pulls: roots and ends, both ways ===== -/
theorem rootF_spec {n : Nat} (hn : n < 4194304) : ∀ (k r : Nat), r * r ≤ n → n < (r + 2 ^ k) * (r + 2 ^ k) → r + 2 ^ k ≤ 2048 → ∃ q : Nat, rootF (nI n) k (nI r) = nI q ∧ q * q ≤ n ∧ n < (q + 1) * (q + 1) ∧ q < 2048 := by
  intro k
  induction k with
  | zero => intro r h1 h2 h3; exact ⟨r, rfl, h1, by simpa using h2, by have : 2 ^ 0 = 1 := rfl; omega⟩
  | succ k ih =>
    intro r h1 h2 h3
    have hp : 2 ^ (k + 1) = 2 ^ k + 2 ^ k := by rw [Nat.pow_succ]; omega
    have hpos : 0 < 2 ^ k := Nat.pow_pos (by decide)
    have ht : r + 2 ^ k < 2048 := by omega
    have hsq : (r + 2 ^ k) * (r + 2 ^ k) ≤ 2048 * 2048 := Nat.mul_le_mul (by omega) (by omega)
    rw [rootF, nI_add, pk_mul]
    by_cases c : n < (r + 2 ^ k) * (r + 2 ^ k)
    · rw [if_pos (nI_lt c (by omega))]
      exact ih r h1 c (by omega)
    · rw [if_neg (nI_nlt (by omega) (by omega))]
      exact ih (r + 2 ^ k) (by omega) (by rw [show r + 2 ^ k + 2 ^ k = r + 2 ^ (k + 1) by omega]; exact h2) (by omega)
theorem rootB_spec {n : Nat} (hn : n < 4194304) : ∃ q : Nat, rootB (nI n) = nI q ∧ q * q ≤ n ∧ n < (q + 1) * (q + 1) ∧ q < 2048 := rootF_spec hn 11 0 (Nat.zero_le _) (by show n < (0 + 2 ^ 11) * (0 + 2 ^ 11); simpa using hn) (by decide)
theorem root_uniq {n a b : Nat} (h1 : a * a ≤ n) (h2 : n < (a + 1) * (a + 1)) (h3 : b * b ≤ n) (h4 : n < (b + 1) * (b + 1)) : a = b := by
  rcases Nat.lt_trichotomy a b with c | c | c
  · have := Nat.mul_le_mul (show a + 1 ≤ b from c) (show a + 1 ≤ b from c); omega
  · exact c
  · have := Nat.mul_le_mul (show b + 1 ≤ a from c) (show b + 1 ≤ a from c); omega
theorem i_add {a b : Int32} (h1 : -2000000000 ≤ a.toInt + b.toInt) (h2 : a.toInt + b.toInt ≤ 2000000000) : (a + b).toInt = a.toInt + b.toInt := by
  rw [Int32.toInt_add]; exact Int.bmod_eq_of_le (by omega) (by omega)
theorem i_sub {a b : Int32} (h1 : -2000000000 ≤ a.toInt - b.toInt) (h2 : a.toInt - b.toInt ≤ 2000000000) : (a - b).toInt = a.toInt - b.toInt := by
  rw [Int32.toInt_sub]; exact Int.bmod_eq_of_le (by omega) (by omega)
theorem i_neg {a : Int32} (h1 : -2000000000 ≤ a.toInt) (h2 : a.toInt ≤ 2000000000) : (-a).toInt = -a.toInt := by
  rw [Int32.toInt_neg]; exact Int.bmod_eq_of_le (by omega) (by omega)
theorem i_mul {a b : Int32} (h1 : -2000000000 ≤ a.toInt * b.toInt) (h2 : a.toInt * b.toInt ≤ 2000000000) : (a * b).toInt = a.toInt * b.toInt := by
  rw [Int32.toInt_mul]; exact Int.bmod_eq_of_le (by omega) (by omega)
/-- the end of the string, both ways -/
theorem clamp_eq {bar len x : Int32} (hb : 0 ≤ bar.toInt ∧ bar.toInt ≤ 999) (hl : 0 ≤ len.toInt ∧ len.toInt ≤ 1500) (hx : -10000 ≤ x.toInt ∧ x.toInt ≤ 10000) : (if bar + len < x then bar + len else if x < bar - len then bar - len else x) = bar + clampS len (x - bar) := by
  have e1 := i_add (a := bar) (b := len) (by omega) (by omega)
  have e2 := i_sub (a := bar) (b := len) (by omega) (by omega)
  have e3 := i_sub (a := x) (b := bar) (by omega) (by omega)
  have e4 := i_neg (a := len) (by omega) (by omega)
  apply Int32.toInt_inj.mp
  rw [clampS]
  simp only [Int32.lt_iff_toInt_lt, e1, e2, e3, e4]
  by_cases c1 : x.toInt - bar.toInt < len.toInt
  · rw [if_pos c1, e3]
    rw [if_neg (by omega)]
    by_cases c2 : x.toInt < bar.toInt - len.toInt
    · rw [if_pos c2, e2, if_neg (by omega), i_add (by omega) (by omega), e4]; omega
    · rw [if_neg c2]
      by_cases c3 : -len.toInt < x.toInt - bar.toInt
      · rw [if_pos c3, i_add (by omega) (by omega), e3]; omega
      · rw [if_neg c3, i_add (by omega) (by omega), e4]; omega
  · rw [if_neg c1]
    by_cases c2 : bar.toInt + len.toInt < x.toInt
    · rw [if_pos c2, e1]
      by_cases c3 : -len.toInt < len.toInt
      · rw [if_pos c3, i_add (by omega) (by omega)]
      · rw [if_neg c3, i_add (by omega) (by omega), e4]; omega
    · rw [if_neg c2, if_neg (by omega)]
      by_cases c3 : -len.toInt < len.toInt
      · rw [if_pos c3, i_add (by omega) (by omega)]; omega
      · rw [if_neg c3, i_add (by omega) (by omega), e4]; omega
