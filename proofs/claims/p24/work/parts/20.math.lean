/-! ===== numbers, tracks, pulls ===== -/
theorem trk_none {bar : Int32} {ks : List K4} {f : Int32} (h0 : ks.length = 0) : trk bar ks f = (bar, nI 0) := by
  rw [trk, behind, if_pos h0]
theorem trk_end {bar : Int32} {ks : List K4} {F : Nat} {kk : K4} (hs : SortK ks) (hF : F < 2000) (hk : ahead ks (nI F) = ks.length) (hkk : ks[ks.length - 1]? = some kk) : trk bar ks (nI F) = (kk.2.1, kk.2.2.1) := by
  have hlt : ks.length - 1 < ks.length := (List.getElem?_eq_some_iff.mp hkk).1
  have hn : ks[ahead ks (nI F)]? = none := List.getElem?_eq_none (by omega)
  rw [trk, nI_add, ahead_step hs (by omega), hn, if_neg (by simp), hk, behind, if_neg (by omega), if_neg (by omega), if_pos (Nat.le_refl _), hkk]
theorem trk_first {bar : Int32} {ks : List K4} {F : Nat} {kk : K4} (hs : SortK ks) (hF : F < 2000) (hk : ahead ks (nI F) = 0) (hkk : ks[0]? = some kk) (hne : ¬ kk.1 = nI F) : trk bar ks (nI F) = (kk.2.1, kk.2.2.1) := by
  have hlt : 0 < ks.length := (List.getElem?_eq_some_iff.mp hkk).1
  rw [trk, nI_add, ahead_step hs (by omega), hk, hkk, if_neg (by simpa using hne), behind, if_neg (by omega), if_pos rfl, hkk]
theorem trk_mid {bar : Int32} {ks : List K4} {F k : Nat} {ka kb : K4} (hs : SortK ks) (hF : F < 2000) (hk : ahead ks (nI F) = k) (h0 : 0 < k) (hka : ks[k - 1]? = some ka) (hkb : ks[k]? = some kb) (hne : ¬ kb.1 = nI F) : trk bar ks (nI F) = betw ka kb (nI F) := by
  have hlt : k < ks.length := (List.getElem?_eq_some_iff.mp hkb).1
  rw [trk, nI_add, ahead_step hs (by omega), hk, hkb, if_neg (by simpa using hne), behind, if_neg (by omega), if_neg (by omega), if_neg (by omega), hka, hkb]
theorem easy0 {e : Nat} (he : e ≤ 3) : esy (nI e) (nI 0) = nI 0 := by
  rcases (show e = 0 ∨ e = 1 ∨ e = 2 ∨ e = 3 by omega) with rfl | rfl | rfl | rfl <;> decide
theorem z64 (x d : Int32) : x + d * nI 0 / nI 64 = x := by
  rw [show d * nI 0 = nI 0 from Int32.mul_zero, show nI 0 / nI 64 = nI 0 from by decide]
  exact Int32.add_zero x
theorem trk_hit {bar : Int32} {ks : List K4} {F k e : Nat} {kk : K4} (hs : SortK ks) (hF : F < 2000) (hk : ahead ks (nI F) = k) (hkk : ks[k]? = some kk) (he : kk.1 = nI F) (hee : kk.2.2.2 = nI e) (he3 : e ≤ 3) : trk bar ks (nI F) = (kk.2.1, kk.2.2.1) := by
  have hlt : k < ks.length := (List.getElem?_eq_some_iff.mp hkk).1
  rw [trk, nI_add, ahead_step hs (by omega), hk, hkk, if_pos (by simpa using he), behind, if_neg (by omega), if_neg (by omega)]
  by_cases c : ks.length ≤ k + 1
  · rw [if_pos c, show ks.length - 1 = k by omega, hkk]
  · rw [if_neg c, Nat.add_sub_cancel, hkk]
    cases hb : ks[k + 1]? with
    | none => exact absurd (List.getElem?_eq_none_iff.mp hb) c
    | some kb =>
      have hsh : shr kk kb (nI F) = nI 0 := by
        rw [shr, he, hee, show nI F - nI F = nI 0 from by rw [pk_sub (Nat.le_refl _), Nat.sub_self], show nI 0 * nI 8 = nI 0 from rfl, show ∀ d : Int32, nI 0 / d = nI 0 from fun d => Int32.zero_div, easy0 he3]
        by_cases q : 0 < kb.1 - nI F
        · rw [if_pos q]
        · rw [if_neg q]
      show betw kk kb (nI F) = _
      rw [betw, hsh, z64, z64]
theorem rootF_spec {n : Nat} (hn : n < 4194304) : ∀ (k r : Nat), r * r ≤ n → n < (r + 2 ^ k) * (r + 2 ^ k) → r + 2 ^ k ≤ 2048 → ∃ q : Nat, rootF (nI n) k (nI r) = nI q ∧ q * q ≤ n ∧ n < (q + 1) * (q + 1) ∧ q < 2048 := by
  intro k
  induction k with
  | zero => intro r h1 h2 h3; exact ⟨r, rfl, h1, by simpa using h2, by have : 2 ^ 0 = 1 := rfl; omega⟩
  | succ k ih =>
    intro r h1 h2 h3
    have hp : 2 ^ (k + 1) = 2 ^ k + 2 ^ k := by rw [Nat.pow_succ]; omega
    have hpos : 0 < 2 ^ k := Nat.pow_pos (by decide)
    have ht : r + 2 ^ k < 2048 := by omega
    have hsq : (r + 2 ^ k) * (r + 2 ^ k) ≤ 2048 * 2048 := Nat.mul_le_mul (by omega) (by omega)
    rw [rootF, nI_add, pk_mul]
    by_cases c : n < (r + 2 ^ k) * (r + 2 ^ k)
    · rw [if_pos (nI_lt c (by omega))]
      exact ih r h1 c (by omega)
    · rw [if_neg (nI_nlt (by omega) (by omega))]
      exact ih (r + 2 ^ k) (by omega) (by rw [show r + 2 ^ k + 2 ^ k = r + 2 ^ (k + 1) by omega]; exact h2) (by omega)
theorem rootB_spec {n : Nat} (hn : n < 4194304) : ∃ q : Nat, rootB (nI n) = nI q ∧ q * q ≤ n ∧ n < (q + 1) * (q + 1) ∧ q < 2048 := rootF_spec hn 11 0 (Nat.zero_le _) (by show n < (0 + 2 ^ 11) * (0 + 2 ^ 11); simpa using hn) (by decide)
theorem root_uniq {n a b : Nat} (h1 : a * a ≤ n) (h2 : n < (a + 1) * (a + 1)) (h3 : b * b ≤ n) (h4 : n < (b + 1) * (b + 1)) : a = b := by
  rcases Nat.lt_trichotomy a b with c | c | c
  · have := Nat.mul_le_mul (show a + 1 ≤ b from c) (show a + 1 ≤ b from c); omega
  · exact c
  · have := Nat.mul_le_mul (show b + 1 ≤ a from c) (show b + 1 ≤ a from c); omega
theorem i_add {a b : Int32} (h1 : -2000000000 ≤ a.toInt + b.toInt) (h2 : a.toInt + b.toInt ≤ 2000000000) : (a + b).toInt = a.toInt + b.toInt := by
  rw [Int32.toInt_add]; exact Int.bmod_eq_of_le (by omega) (by omega)
theorem i_sub {a b : Int32} (h1 : -2000000000 ≤ a.toInt - b.toInt) (h2 : a.toInt - b.toInt ≤ 2000000000) : (a - b).toInt = a.toInt - b.toInt := by
  rw [Int32.toInt_sub]; exact Int.bmod_eq_of_le (by omega) (by omega)
theorem i_neg {a : Int32} (h1 : -2000000000 ≤ a.toInt) (h2 : a.toInt ≤ 2000000000) : (-a).toInt = -a.toInt := by
  rw [Int32.toInt_neg]; exact Int.bmod_eq_of_le (by omega) (by omega)
theorem i_mul {a b : Int32} (h1 : -2000000000 ≤ a.toInt * b.toInt) (h2 : a.toInt * b.toInt ≤ 2000000000) : (a * b).toInt = a.toInt * b.toInt := by
  rw [Int32.toInt_mul]; exact Int.bmod_eq_of_le (by omega) (by omega)
theorem clamp_eq {bar len x : Int32} (hb : 0 ≤ bar.toInt ∧ bar.toInt ≤ 999) (hl : 0 ≤ len.toInt ∧ len.toInt ≤ 1500) (hx : -10000 ≤ x.toInt ∧ x.toInt ≤ 10000) : (if bar + len < x then bar + len else if x < bar - len then bar - len else x) = bar + clampS len (x - bar) := by
  have e1 := i_add (a := bar) (b := len) (by omega) (by omega)
  have e2 := i_sub (a := bar) (b := len) (by omega) (by omega)
  have e3 := i_sub (a := x) (b := bar) (by omega) (by omega)
  have e4 := i_neg (a := len) (by omega) (by omega)
  apply Int32.toInt_inj.mp
  rw [clampS]
  simp only [Int32.lt_iff_toInt_lt, e1, e2, e3, e4]
  by_cases c1 : x.toInt - bar.toInt < len.toInt
  · rw [if_pos c1, e3]
    rw [if_neg (by omega)]
    by_cases c2 : x.toInt < bar.toInt - len.toInt
    · rw [if_pos c2, e2, if_neg (by omega), i_add (by omega) (by omega), e4]; omega
    · rw [if_neg c2]
      by_cases c3 : -len.toInt < x.toInt - bar.toInt
      · rw [if_pos c3, i_add (by omega) (by omega), e3]; omega
      · rw [if_neg c3, i_add (by omega) (by omega), e4]; omega
  · rw [if_neg c1]
    by_cases c2 : bar.toInt + len.toInt < x.toInt
    · rw [if_pos c2, e1]
      by_cases c3 : -len.toInt < len.toInt
      · rw [if_pos c3, i_add (by omega) (by omega)]
      · rw [if_neg c3, i_add (by omega) (by omega), e4]; omega
    · rw [if_neg c2, if_neg (by omega)]
      by_cases c3 : -len.toInt < len.toInt
      · rw [if_pos c3, i_add (by omega) (by omega)]; omega
      · rw [if_neg c3, i_add (by omega) (by omega), e4]; omega
theorem sq_abs {a : Int32} {L : Nat} (h : -(L : Int) ≤ a.toInt ∧ a.toInt ≤ L) (hL : L ≤ 1500) : ∃ D : Nat, D ≤ L ∧ a * a = nI (D * D) := by
  refine ⟨a.toInt.natAbs, by omega, ?_⟩
  have hD : a.toInt.natAbs ≤ 1500 := by omega
  have hm : a.toInt.natAbs * a.toInt.natAbs ≤ 1500 * 1500 := Nat.mul_le_mul hD hD
  have hz : a.toInt * a.toInt = ((a.toInt.natAbs * a.toInt.natAbs : Nat) : Int) := by
    rw [Int.natCast_mul]; exact (Int.natAbs_mul_self' a.toInt).symm
  apply Int32.toInt_inj.mp
  rw [i_mul (by omega) (by omega), hz, nI_toInt (by omega)]
theorem clamp_in {bar len x : Int32} (hb : 0 ≤ bar.toInt ∧ bar.toInt ≤ 999) (hl : 0 ≤ len.toInt ∧ len.toInt ≤ 1500) (hx : -10000 ≤ x.toInt ∧ x.toInt ≤ 10000) : -len.toInt ≤ (clampS len (x - bar)).toInt ∧ (clampS len (x - bar)).toInt ≤ len.toInt := by
  have e3 := i_sub (a := x) (b := bar) (by omega) (by omega)
  have e4 := i_neg (a := len) (by omega) (by omega)
  rw [clampS]
  simp only [Int32.lt_iff_toInt_lt]
  by_cases c1 : (x - bar).toInt < len.toInt
  · rw [if_pos c1]
    by_cases c3 : (-len).toInt < (x - bar).toInt
    · rw [if_pos c3]; omega
    · rw [if_neg c3]; omega
  · rw [if_neg c1]
    by_cases c3 : (-len).toInt < len.toInt
    · rw [if_pos c3]; omega
    · rw [if_neg c3]; omega
theorem add_subx (a b : Int32) : a + b - a = b := by
  rw [Int32.add_comm]; exact Int32.add_sub_cancel b a
/-! ===== near: both ways ===== -/
theorem near_ax {u v : Int32} (hu : -10000 ≤ u.toInt ∧ u.toInt ≤ 10000) (hv : -10000 ≤ v.toInt ∧ v.toInt ≤ 10000) : decide (absS (u - v) < nI 10) = decide (u - v < nI 10 ∧ v - u < nI 10) := by
  have e1 := i_sub (a := u) (b := v) (by omega) (by omega)
  have e2 := i_sub (a := v) (b := u) (by omega) (by omega)
  have e0 : (0 : Int32).toInt = 0 := rfl
  have e10 : (nI 10).toInt = 10 := rfl
  have e3 := i_sub (a := 0) (b := u - v) (by rw [e0, e1]; omega) (by rw [e0, e1]; omega)
  rw [decide_eq_decide, absS]
  by_cases c : 0 ≤ u - v
  · rw [if_pos c]
    rw [Int32.le_iff_toInt_le, e0, e1] at c
    simp only [Int32.lt_iff_toInt_lt, e1, e2, e10]
    omega
  · rw [if_neg c]
    rw [Int32.le_iff_toInt_le, e0, e1] at c
    simp only [Int32.lt_iff_toInt_lt, e1, e2, e3, e0, e10]
    omega
theorem sq_up {a k : Int} (h : -k ≤ a ∧ a ≤ k) (hk : 0 ≤ k) : 0 ≤ a * a ∧ a * a ≤ k * k := by
  have hz : a * a = ((a.natAbs * a.natAbs : Nat) : Int) := by rw [Int.natCast_mul]; exact (Int.natAbs_mul_self' a).symm
  have hk2 : k = (k.toNat : Int) := by omega
  have hm : a.natAbs * a.natAbs ≤ k.toNat * k.toNat := Nat.mul_le_mul (by omega) (by omega)
  rw [hz, hk2]
  rw [← Int.natCast_mul]
  omega
theorem sq_down {a : Int} {k : Nat} (h : a * a ≤ (k * k : Nat)) : -(k : Int) ≤ a ∧ a ≤ k := by
  have hz : a * a = ((a.natAbs * a.natAbs : Nat) : Int) := by rw [Int.natCast_mul]; exact (Int.natAbs_mul_self' a).symm
  rw [hz] at h
  have h2 : a.natAbs * a.natAbs ≤ k * k := by omega
  have h3 : a.natAbs ≤ k := by
    rcases Nat.lt_or_ge k a.natAbs with c | c
    · have := Nat.mul_le_mul (show k + 1 ≤ a.natAbs from c) (show k + 1 ≤ a.natAbs from c)
      have e : (k + 1) * (k + 1) = k * k + 2 * k + 1 := by rw [Nat.add_mul, Nat.mul_add]; omega
      omega
    · exact c
  omega
theorem pullS_fin {bar len X0 Y0 : Int32} (hb : 0 ≤ bar.toInt ∧ bar.toInt ≤ 999) {L : Nat} (hL : L ≤ 1500) (eL : len = nI L) (hx : -10000 ≤ X0.toInt ∧ X0.toInt ≤ 10000) (hy : -10000 ≤ Y0.toInt ∧ Y0.toInt ≤ 10000) : (-1500 ≤ (pullS bar len (X0, Y0)).1.toInt ∧ (pullS bar len (X0, Y0)).1.toInt ≤ 2499) ∧ -2047 ≤ (pullS bar len (X0, Y0)).2.toInt ∧ (pullS bar len (X0, Y0)).2.toInt ≤ 2047 := by
  have tl : len.toInt = L := by rw [eL]; exact nI_toInt (by omega)
  have hl : 0 ≤ len.toInt ∧ len.toInt ≤ 1500 := by omega
  have hLL : L * L ≤ 1500 * 1500 := Nat.mul_le_mul hL hL
  by_cases c : len * len < sq2 (X0 - bar) Y0
  · rw [show pullS bar len (X0, Y0) = (bar + clampS len (X0 - bar), rootB (len * len - clampS len (X0 - bar) * clampS len (X0 - bar))) from if_pos c]
    have hci := clamp_in hb hl hx
    rw [tl] at hci
    obtain ⟨D, hDL, eD⟩ := sq_abs hci hL
    have hDL2 : D * D ≤ L * L := Nat.mul_le_mul hDL hDL
    obtain ⟨q, eq1, eq2, eq3, eq4⟩ := rootB_spec (n := L * L - D * D) (by omega)
    rw [eD, eL, pk_mul, pk_sub hDL2, eq1]
    rw [eL] at hci
    have e1 := i_add (a := bar) (b := clampS (nI L) (X0 - bar)) (by omega) (by omega)
    have e2 : (nI q).toInt = q := nI_toInt (by omega)
    show (-1500 ≤ (bar + clampS (nI L) (X0 - bar)).toInt ∧ (bar + clampS (nI L) (X0 - bar)).toInt ≤ 2499) ∧ -2047 ≤ (nI q).toInt ∧ (nI q).toInt ≤ 2047
    rw [e1, e2]
    omega
  · rw [show pullS bar len (X0, Y0) = (X0, Y0) from if_neg c]
    have e3 := i_sub (a := X0) (b := bar) (by omega) (by omega)
    have q1 := sq_up (a := (X0 - bar).toInt) (k := 11000) (by omega) (by omega)
    have q2 := sq_up (a := Y0.toInt) (k := 10000) (by omega) (by omega)
    have e4 := i_mul (a := X0 - bar) (b := X0 - bar) (by omega) (by omega)
    have e5 := i_mul (a := Y0) (b := Y0) (by omega) (by omega)
    have e6 := i_add (a := (X0 - bar) * (X0 - bar)) (b := Y0 * Y0) (by omega) (by omega)
    have e7 : (len * len).toInt = (L * L : Nat) := by rw [eL, pk_mul]; exact nI_toInt (by omega)
    rw [Int32.lt_iff_toInt_lt, e7, sq2, e6, e4, e5] at c
    have d1 := sq_down (a := (X0 - bar).toInt) (k := L) (by omega)
    have d2 := sq_down (a := Y0.toInt) (k := L) (by omega)
    show (-1500 ≤ X0.toInt ∧ X0.toInt ≤ 2499) ∧ -2047 ≤ Y0.toInt ∧ Y0.toInt ≤ 2047
    omega

theorem mix_bd {a b s : Nat} (ha : a ≤ 999) (hb : b ≤ 999) (hs : s ≤ 64) : 0 ≤ (nI a + (nI b - nI a) * nI s / nI 64).toInt ∧ (nI a + (nI b - nI a) * nI s / nI 64).toInt ≤ 999 := by
  have ta : (nI a).toInt = a := nI_toInt (by omega)
  rcases Nat.lt_or_ge b a with c | c
  · obtain ⟨d, hd, hd9⟩ : ∃ d : Nat, a = b + d ∧ d ≤ 999 := ⟨a - b, by omega, by omega⟩
    have tb : (nI b).toInt = b := nI_toInt (by omega)
    have ts : (nI s).toInt = s := nI_toInt (by omega)
    have hds : d * s ≤ 64 * d := by rw [Nat.mul_comm]; exact Nat.mul_le_mul_right d hs
    have e1 : (nI b - nI a).toInt = -(d : Int) := by rw [i_sub (by omega) (by omega)]; omega
    have ep : (nI b - nI a).toInt * (nI s).toInt = -((d * s : Nat) : Int) := by rw [e1, ts, Int.neg_mul, Int.natCast_mul]
    have e2 : ((nI b - nI a) * nI s).toInt = -((d * s : Nat) : Int) := by rw [i_mul (by omega) (by omega), ep]
    have e64 : (nI 64).toInt = 64 := rfl
    have hq : d * s / 64 ≤ d := Nat.div_le_of_le_mul hds
    have e3 : ((nI b - nI a) * nI s / nI 64).toInt = -((d * s / 64 : Nat) : Int) := by
      rw [Int32.toInt_div, e2, e64, Int.neg_tdiv]
      rw [show ((d * s : Nat) : Int).tdiv 64 = ((d * s / 64 : Nat) : Int) from rfl]
      exact Int.bmod_eq_of_le (by omega) (by omega)
    rw [i_add (by omega) (by omega), e3]
    omega
  · have hds : (b - a) * s ≤ 64 * (b - a) := by rw [Nat.mul_comm]; exact Nat.mul_le_mul_right (b - a) hs
    have hq : (b - a) * s / 64 ≤ b - a := Nat.div_le_of_le_mul hds
    rw [pk_sub c, pk_mul, pk_div (by omega) (by decide) (by decide), nI_add, nI_toInt (by omega)]
    omega
theorem ease_bd : ∀ i : Nat, ∃ s ≤ 64, easeL.getD i 0 = nI s := fun i => by
  by_cases h : i < 32
  · have q : ∀ j : Fin 32, (easeL.getD j.val 0).toNatClampNeg ≤ 64 ∧ easeL.getD j.val 0 = nI (easeL.getD j.val 0).toNatClampNeg := by decide +kernel
    exact ⟨_, (q ⟨i, h⟩).1, (q ⟨i, h⟩).2⟩
  · exact ⟨0, by decide, by rw [List.getD_eq_getElem?_getD, List.getElem?_eq_none (by show 32 ≤ i; omega)]; rfl⟩
theorem shr_bd (a b : K4) (f : Int32) : ∃ s ≤ 64, shr a b f = nI s := by
  rw [shr]
  by_cases c : 0 < b.1 - a.1
  · rw [if_pos c, esy]
    by_cases d : a.2.2.2 * nI 8 + (f - a.1) * nI 8 / (b.1 - a.1) < 0 ∨ nI 32 ≤ a.2.2.2 * nI 8 + (f - a.1) * nI 8 / (b.1 - a.1)
    · rw [if_pos d]; exact ⟨0, by decide, rfl⟩
    · rw [if_neg d]; exact ease_bd _
  · rw [if_neg c]; exact ⟨0, by decide, rfl⟩
def inB (v : Int32) : Prop := 0 ≤ v.toInt ∧ v.toInt ≤ 999
theorem inB_nI {n : Nat} (h : n ≤ 999) : inB (nI n) := by rw [inB, nI_toInt (by omega)]; omega
theorem trk_bd {p : PS} (hok : okP p) (f : Int32) : inB (trk (qBar p) (qKeys p) f).1 ∧ inB (trk (qBar p) (qKeys p) f).2 := by
  obtain ⟨⟨b, hb, eb⟩, -, -, -, hk, -⟩ := hok
  have h0 : inB (qBar p, nI 0).1 ∧ inB (qBar p, nI 0).2 := ⟨by show inB (qBar p); rw [eb]; exact inB_nI hb, inB_nI (by decide)⟩
  have key : ∀ k ∈ qKeys p, inB (k.2.1, k.2.2.1).1 ∧ inB (k.2.1, k.2.2.1).2 := fun k hm => by
    obtain ⟨⟨x, hx, ex⟩, ⟨y, hy, ey⟩, -⟩ := hk k hm
    exact ⟨by show inB k.2.1; rw [ex]; exact inB_nI hx, by show inB k.2.2.1; rw [ey]; exact inB_nI hy⟩
  rw [trk, behind]
  split
  · exact h0
  · split
    · split
      · rename_i k hk2; exact key _ (List.mem_of_getElem? hk2)
      · exact h0
    · split
      · split
        · rename_i k hk2; exact key _ (List.mem_of_getElem? hk2)
        · exact h0
      · split
        · rename_i ka kb h1 h2
          obtain ⟨⟨x, hx, ex⟩, ⟨y, hy, ey⟩, -⟩ := hk _ (List.mem_of_getElem? h1)
          obtain ⟨⟨x2, hx2, ex2⟩, ⟨y2, hy2, ey2⟩, -⟩ := hk _ (List.mem_of_getElem? h2)
          obtain ⟨s, hs, es⟩ := shr_bd ka kb f
          rw [betw, es, ex, ex2, ey, ey2]
          exact ⟨mix_bd hx hx2 hs, mix_bd hy hy2 hs⟩
        · exact h0

/-! ===== the least length, both ways ===== -/
theorem least_spec {n : Nat} (hn : n < 4000000) : ∃ q : Nat, q ≤ 2048 ∧ (if rootB (nI n) * rootB (nI n) < nI n then rootB (nI n) + nI 1 else rootB (nI n)) = nI q ∧ n ≤ q * q ∧ ∀ j : Nat, j < q → j * j < n := by
  obtain ⟨q, e1, e2, e3, e4⟩ := rootB_spec (n := n) (by omega)
  rw [e1, pk_mul]
  have hq : q * q ≤ 2048 * 2048 := Nat.mul_le_mul (by omega) (by omega)
  by_cases c : q * q < n
  · rw [if_pos (nI_lt c (by omega)), nI_add]
    refine ⟨q + 1, by omega, rfl, by omega, fun j hj => ?_⟩
    have := Nat.mul_le_mul (show j ≤ q by omega) (show j ≤ q by omega)
    omega
  · rw [if_neg (nI_nlt (by omega) (by omega))]
    refine ⟨q, by omega, rfl, by omega, fun j hj => ?_⟩
    have h1 := Nat.mul_le_mul (show j ≤ q by omega) (show j ≤ q by omega)
    rcases Nat.lt_or_ge (j * j) n with d | d
    · exact d
    · have h2 := Nat.mul_le_mul (show j + 1 ≤ q by omega) (show j + 1 ≤ q by omega)
      have h3 : (j + 1) * (j + 1) = j * j + 2 * j + 1 := by rw [Nat.add_mul, Nat.mul_add]; omega
      omega
/-- how far the track goes -/
theorem far_bd {bar : Int32} {v : Int32 × Int32} (hb : inB bar) (h1 : inB v.1) (h2 : inB v.2) : ∃ n : Nat, n < 2000000 ∧ sq2 (v.1 - bar) v.2 = nI n := by
  obtain ⟨b1, b2⟩ := hb
  obtain ⟨x1, x2⟩ := h1
  obtain ⟨y1, y2⟩ := h2
  have e3 := i_sub (a := v.1) (b := bar) (by omega) (by omega)
  have q1 := sq_up (a := (v.1 - bar).toInt) (k := 999) (by omega) (by omega)
  have q2 := sq_up (a := v.2.toInt) (k := 999) (by omega) (by omega)
  have e4 := i_mul (a := v.1 - bar) (b := v.1 - bar) (by omega) (by omega)
  have e5 := i_mul (a := v.2) (b := v.2) (by omega) (by omega)
  have e6 := i_add (a := (v.1 - bar) * (v.1 - bar)) (b := v.2 * v.2) (by omega) (by omega)
  have e7 : (sq2 (v.1 - bar) v.2).toInt = (v.1 - bar).toInt * (v.1 - bar).toInt + v.2.toInt * v.2.toInt := by rw [sq2, e6, e4, e5]
  refine ⟨(sq2 (v.1 - bar) v.2).toInt.toNat, by omega, Int32.toInt_inj.mp ?_⟩
  rw [nI_toInt (by omega)]
  omega
theorem farF_bd {p : PS} (hok : okP p) (k : Nat) : ∃ n : Nat, n < 2000000 ∧ farF (qBar p) (qKeys p) k = nI n := by
  induction k with
  | zero => exact ⟨0, by decide, rfl⟩
  | succ k ih =>
    obtain ⟨n, hn, en⟩ := ih
    obtain ⟨t1, t2⟩ := trk_bd hok (nI k)
    obtain ⟨b, hb, eb⟩ := hok.1
    obtain ⟨d, hd, ed⟩ := far_bd (bar := qBar p) (by rw [eb]; exact inB_nI hb) t1 t2
    rw [farF, en, ed, mxS]
    by_cases c : nI n < nI d
    · rw [if_pos c]; exact ⟨d, hd, rfl⟩
    · rw [if_neg c]; exact ⟨n, hn, rfl⟩

theorem sub_pos {F n : Nat} (hF : F < 2000) (hn : n ≤ 999) : (if nI 0 < nI F - nI n then nI F - nI n else nI 0) = if n ≤ F then nI F - nI n else nI 0 := by
  by_cases c : n ≤ F
  · rw [if_pos c, pk_sub c]
    by_cases e : F - n = 0
    · rw [e]; exact if_neg (by decide)
    · exact if_pos (nI_lt (by omega) (by omega))
  · rw [if_neg c]
    obtain ⟨d, hd⟩ : ∃ d : Nat, n = F + d ∧ 0 < d := ⟨n - F, by omega, by omega⟩
    rw [hd.1, ← nI_add, show nI F - (nI F + nI d) = -(nI d) by apply Int32.toBitVec_inj.mp; simp only [Int32.toBitVec_sub, Int32.toBitVec_add, Int32.toBitVec_neg]; bv_omega]
    refine if_neg (fun z => ?_)
    have hd2 : d ≤ 999 := by omega
    have h3 : (nI d).toInt = d := nI_toInt (by omega)
    rw [Int32.lt_iff_toInt_lt, Int32.toInt_neg, h3] at z
    have : (nI 0).toInt = 0 := rfl
    rw [this] at z
    have hb : (-(d : Int)).bmod (2 ^ 32) = -(d : Int) := Int.bmod_eq_of_le (by omega) (by omega)
    rw [hb] at z
    omega
theorem nI_ne1 {n : Nat} (hn : n < 2000) : ¬ nI n = -1 := fun z => by
  have h := nI_ge0 (a := n) (by omega)
  rw [z] at h
  exact absurd h (by decide)
def inP (v : Int32 × Int32) : Prop := (-1500 ≤ v.1.toInt ∧ v.1.toInt ≤ 2499) ∧ -2047 ≤ v.2.toInt ∧ v.2.toInt ≤ 2047
def inK (v : Int32 × Int32) : Prop := (-1510 ≤ v.1.toInt ∧ v.1.toInt ≤ 2509) ∧ -2047 ≤ v.2.toInt ∧ v.2.toInt ≤ 2047
theorem inP.k {v : Int32 × Int32} (h : inP v) : inK v := by
  obtain ⟨⟨a, b⟩, d, e⟩ := h
  exact ⟨⟨by omega, by omega⟩, d, e⟩
theorem pS_fin {p : PS} (hok : okP p) {v : Int32 × Int32} (h1 : -10000 ≤ v.1.toInt ∧ v.1.toInt ≤ 10000) (h2 : -10000 ≤ v.2.toInt ∧ v.2.toInt ≤ 10000) : inP (pullS (qBar p) (qLen p) v) := by
  obtain ⟨⟨b, hb, eb⟩, ⟨L, hL, eL⟩, -⟩ := hok
  exact pullS_fin (X0 := v.1) (Y0 := v.2) (by rw [eb, nI_toInt (by omega)]; omega) hL eL h1 h2
theorem away_bd {x w : Int32} (hw : -1500 ≤ w.toInt ∧ w.toInt ≤ 2499) : -1510 ≤ (awayS x w).toInt ∧ (awayS x w).toInt ≤ 2509 := by
  have e10 : (nI 10).toInt = 10 := rfl
  rw [awayS]
  by_cases c : x < w
  · rw [if_pos c, i_sub (by omega) (by omega), e10]; omega
  · rw [if_neg c, i_add (by omega) (by omega), e10]; omega
theorem keepL_bd {c : Nat → Bool} {Q : Nat → Int32 × Int32} {v0 : Int32 × Int32} (h0 : inP v0) : ∀ n : Nat, (∀ q < n, c q = true → inP (Q q)) → inK (keepL c Q v0 n).1 ∧ ((keepL c Q v0 n).2 = false → inP (keepL c Q v0 n).1) := by
  intro n
  induction n with
  | zero => intro _; exact ⟨h0.k, fun _ => h0⟩
  | succ n ih =>
    intro hQ
    obtain ⟨i1, i2⟩ := ih (fun q hq hc => hQ q (by omega) hc)
    by_cases hc : c n = true
    · by_cases hn : nearS (keepL c Q v0 n).1 (Q n) = true
      · rw [show keepL c Q v0 (n + 1) = ((awayS (keepL c Q v0 n).1.1 (Q n).1, (keepL c Q v0 n).1.2), true) from (if_pos hc).trans (if_pos hn)]
        exact ⟨⟨away_bd (hQ n (by omega) hc).1, i1.2⟩, fun z => Bool.noConfusion z⟩
      · rw [show keepL c Q v0 (n + 1) = keepL c Q v0 n from (if_pos hc).trans (if_neg hn)]
        exact ⟨i1, i2⟩
    · rw [show keepL c Q v0 (n + 1) = keepL c Q v0 n from if_neg hc]
      exact ⟨i1, i2⟩
theorem inB_far {v : Int32} (h : inB v) : -10000 ≤ v.toInt ∧ v.toInt ≤ 10000 := by
  obtain ⟨a, b⟩ := h
  omega
theorem pt_bd {p : PS} (hok : okP p) (f : Int32) : inP (pullS (qBar p) (qLen p) (trk (qBar p) (qKeys p) f)) := pS_fin hok (inB_far (trk_bd hok f).1) (inB_far (trk_bd hok f).2)
theorem setP_bd {σ : ST} {c : Nat → Bool} {f : Int32} {Q : Nat → Int32 × Int32} {n : Nat} (hok : okP (eP σ n)) (hQ : ∀ q < n, c q = true → inP (Q q)) : inP (setP σ c f Q n).1 := by
  obtain ⟨k1, k2⟩ := keepL_bd (pt_bd hok (ownF (eH σ) (qCue (eP σ n)) f)) n hQ
  rw [setP, endP]
  by_cases hb : (keepL c Q (pullS (qBar (eP σ n)) (qLen (eP σ n)) (trk (qBar (eP σ n)) (qKeys (eP σ n)) (ownF (eH σ) (qCue (eP σ n)) f))) n).2 = true
  · rw [if_pos hb]
    obtain ⟨⟨a1, a2⟩, a3, a4⟩ := k1
    exact pS_fin hok ⟨by omega, by omega⟩ ⟨by omega, by omega⟩
  · rw [if_neg hb]
    exact k2 (by simpa using hb)
theorem goQ_bd {σ : ST} {c : Nat → Bool} {f : Int32} (hok : ∀ q, c q = true → okP (eP σ q)) : ∀ n q : Nat, q < n → c q = true → inP (goQ σ c f n q).1 := by
  intro n
  induction n with
  | zero => intro q hq; omega
  | succ n ih =>
    intro q hq hc
    by_cases e : q = n
    · subst e
      rw [goQ_s]
      exact setP_bd (hok _ hc) ih
    · rw [goQ_n _ _ _ e]
      exact ih q (by omega) hc
theorem nearS_eq {v w : Int32 × Int32} (hv : inK v) (hw : inK w) : nearS v w = (decide (v.1 - w.1 < nI 10 ∧ w.1 - v.1 < nI 10) && decide (v.2 - w.2 < nI 10 ∧ w.2 - v.2 < nI 10)) := by
  obtain ⟨⟨a1, a2⟩, a3, a4⟩ := hv
  obtain ⟨⟨b1, b2⟩, b3, b4⟩ := hw
  rw [nearS, near_ax ⟨by omega, by omega⟩ ⟨by omega, by omega⟩, near_ax ⟨by omega, by omega⟩ ⟨by omega, by omega⟩]
theorem ownF_fin {H : Nat → Int32} {cue : Int32} {F : Nat} (hr : ∀ s < 10, H s = -1 ∨ ∃ n ≤ 999, H s = nI n) (hcue : cue = -1 ∨ ∃ c ≤ 9, cue = nI c) (hF : F < 2000) : ∃ F2 < 2000, ownF H cue (nI F) = nI F2 := by
  rcases hcue with rfl | ⟨c, hc, rfl⟩
  · exact ⟨F, hF, if_pos (Or.inl (by decide))⟩
  · have h1 : ¬ (nI c < 0 ∨ nI 10 ≤ nI c) := fun z => z.elim (fun q => absurd (nI_ge0 (a := c) (by omega)) (Int32.not_le.mpr q)) (fun q => absurd ((nI_leI (by decide) (by omega)).mp q) (by omega))
    rw [ownF, if_neg h1, nI_clamp (by omega)]
    rcases hr c (by omega) with e | ⟨n, hn, e⟩
    · exact ⟨0, by decide, if_pos e⟩
    · rw [e, if_neg (nI_ne1 (by omega)), sub_pos hF hn]
      by_cases q : n ≤ F
      · rw [if_pos q, pk_sub q]; exact ⟨F - n, by omega, rfl⟩
      · rw [if_neg q]; exact ⟨0, by decide, rfl⟩
def pZ : PS := (0, 0, [], 0, 0, [])
def sZ : SS := ((0, 0), (fun _ => false), 50, 0, false)
def WX (σ : ST) : Prop := WF σ ∧ (∀ i, eN σ ≤ i → eP σ i = pZ) ∧ ∀ j, eM σ ≤ j → eS σ j = sZ
theorem sound_eq {q : Int32} : (nI 0 ≤ q ∧ q ≤ nI 9) ↔ (¬ q < 0 ∧ q < nI 10) := by
  refine ⟨fun z => ?_, fun z => ?_⟩
  · obtain ⟨j, hj, rfl⟩ := in_le z (by decide)
    exact ⟨Int32.not_lt.mpr z.1, nI_lt (by omega) (by decide)⟩
  · obtain ⟨j, hj, rfl⟩ := in_ex ⟨Int32.not_lt.mp z.1, z.2⟩ (by decide)
    exact ⟨nI_ge0 (by omega), (nI_leI (by omega) (by decide)).mpr (by omega)⟩
theorem yA_o {h : Hp} {a i b : Nat} {v : Int32} (n : b ≠ a) : xA (yA h a i v) b = xA h b := by
  funext j
  rw [zxA_yA, if_neg (fun z => n z.1)]
theorem yA_s {h : Hp} {a i : Nat} {v : Int32} : xA (yA h a i v) a i = v := by
  rw [zxA_yA, if_pos ⟨rfl, rfl⟩]
theorem yA_j {h : Hp} {a i j : Nat} {v : Int32} (n : j ≠ i) : xA (yA h a i v) a j = xA h a j := by
  rw [zxA_yA, if_neg (fun z => n z.2)]
theorem insG {xs : List K4} {i j : Nat} {v : K4} (hi : i ≤ xs.length) : (xs.insertIdx i v)[j]? = if j < i then xs[j]? else if j = i then some v else xs[j - 1]? := by
  rw [List.getElem?_insertIdx]
  by_cases c1 : j < i
  · rw [if_pos c1, if_pos c1]
  · rw [if_neg c1, if_neg c1]
    by_cases c2 : j = i
    · rw [if_pos c2, if_pos c2, if_pos (by omega)]
    · rw [if_neg c2, if_neg c2]
def o_cut (σ : ST) (p f : Int32) : OR := oPu σ p (fun i => if hasK (qKeys (eP σ i)) f = true then .inr (nI ((qKeys (eP σ i)).eraseIdx (ahead (qKeys (eP σ i)) f)).length, wP σ i ((eP σ i).1, (eP σ i).2.1, (qKeys (eP σ i)).eraseIdx (ahead (qKeys (eP σ i)) f), (eP σ i).2.2.2)) else .inl "java/util/NoSuchElementException")
