/-! ===== where puppets are seen: within their strings; bent, or away from the lower ones ===== -/
theorem clamp_self {len d : Int32} (h : -len.toInt ≤ d.toInt ∧ d.toInt ≤ len.toInt) (hl : 0 ≤ len.toInt ∧ len.toInt ≤ 1500) : clampS len d = d := by
  have e4 := i_neg (a := len) (by omega) (by omega)
  rw [clampS]
  simp only [Int32.lt_iff_toInt_lt]
  by_cases c1 : d.toInt < len.toInt
  · rw [if_pos c1]
    by_cases c3 : (-len).toInt < d.toInt
    · rw [if_pos c3]
    · rw [if_neg c3]
      exact Int32.toInt_inj.mp (by omega)
  · rw [if_neg c1]
    by_cases c3 : (-len).toInt < len.toInt
    · rw [if_pos c3]
      exact Int32.toInt_inj.mp (by omega)
    · rw [if_neg c3]
      exact Int32.toInt_inj.mp (by omega)
theorem clamp_far {len d : Int32} (h : ¬ (-len.toInt ≤ d.toInt ∧ d.toInt ≤ len.toInt)) (hl : 0 ≤ len.toInt ∧ len.toInt ≤ 1500) : (clampS len d).toInt * (clampS len d).toInt = len.toInt * len.toInt := by
  have e4 := i_neg (a := len) (by omega) (by omega)
  have e5 : (-len).toInt * (-len).toInt = len.toInt * len.toInt := by rw [e4, Int.neg_mul_neg]
  rw [clampS]
  simp only [Int32.lt_iff_toInt_lt]
  by_cases c1 : d.toInt < len.toInt
  · rw [if_pos c1, if_neg (by omega)]
    exact e5
  · rw [if_neg c1]
    by_cases c3 : (-len).toInt < len.toInt
    · rw [if_pos c3]
    · rw [if_neg c3]
      exact e5
theorem pull_in0 {bar len X0 Y0 : Int32} {B L : Nat} (hB : B ≤ 999) (eB : bar = nI B) (hL : L ≤ 1500) (eL : len = nI L) (hx : -10000 ≤ X0.toInt ∧ X0.toInt ≤ 10000) (hy : 0 ≤ Y0.toInt ∧ Y0.toInt ≤ 999) : (0 ≤ (pullS bar len (X0, Y0)).2.toInt ∧ (pullS bar len (X0, Y0)).2.toInt ≤ 999) ∧ ((B : Int) - L ≤ (pullS bar len (X0, Y0)).1.toInt ∧ (pullS bar len (X0, Y0)).1.toInt ≤ B + L) ∧ ((pullS bar len (X0, Y0)).1.toInt - B) * ((pullS bar len (X0, Y0)).1.toInt - B) + (pullS bar len (X0, Y0)).2.toInt * (pullS bar len (X0, Y0)).2.toInt ≤ (L : Int) * L := by
  have tb : bar.toInt = B := by rw [eB]; exact nI_toInt (by omega)
  have tl : len.toInt = L := by rw [eL]; exact nI_toInt (by omega)
  have hb : 0 ≤ bar.toInt ∧ bar.toInt ≤ 999 := by omega
  have hl : 0 ≤ len.toInt ∧ len.toInt ≤ 1500 := by omega
  have hLL : L * L ≤ 1500 * 1500 := Nat.mul_le_mul hL hL
  have e3 := i_sub (a := X0) (b := bar) (by omega) (by omega)
  have q1 := sq_up (a := (X0 - bar).toInt) (k := 11000) (by omega) (by omega)
  have q2 := sq_up (a := Y0.toInt) (k := 999) (by omega) (by omega)
  have e4 := i_mul (a := X0 - bar) (b := X0 - bar) (by omega) (by omega)
  have e5 := i_mul (a := Y0) (b := Y0) (by omega) (by omega)
  have e6 := i_add (a := (X0 - bar) * (X0 - bar)) (b := Y0 * Y0) (by omega) (by omega)
  have e7 : (len * len).toInt = (L * L : Nat) := by rw [eL, pk_mul]; exact nI_toInt (by omega)
  have eLL : ((L * L : Nat) : Int) = (L : Int) * L := Int.natCast_mul _ _
  by_cases c : len * len < sq2 (X0 - bar) Y0
  · rw [show pullS bar len (X0, Y0) = (bar + clampS len (X0 - bar), rootB (len * len - clampS len (X0 - bar) * clampS len (X0 - bar))) from if_pos c]
    have hci := clamp_in hb hl hx
    rw [tl] at hci
    obtain ⟨D, hDL, eD⟩ := sq_abs hci hL
    have hDL2 : D * D ≤ L * L := Nat.mul_le_mul hDL hDL
    obtain ⟨q, eq1, eq2, eq3, eq4⟩ := rootB_spec (n := L * L - D * D) (by omega)
    have eR : rootB (len * len - clampS len (X0 - bar) * clampS len (X0 - bar)) = nI q := by rw [eD, eL, pk_mul, pk_sub hDL2, eq1]
    have tc : (clampS len (X0 - bar)).toInt * (clampS len (X0 - bar)).toInt = ((D * D : Nat) : Int) := by
      have z := congrArg Int32.toInt eD
      have q3 := sq_up (a := (clampS len (X0 - bar)).toInt) (k := 1500) (by omega) (by omega)
      rw [i_mul (by omega) (by omega), nI_toInt (by omega)] at z
      exact z
    have e1 := i_add (a := bar) (b := clampS len (X0 - bar)) (by omega) (by omega)
    have e2 : (nI q).toInt = q := nI_toInt (by omega)
    rw [Int32.lt_iff_toInt_lt, e7, sq2, e6, e4, e5] at c
    have hq : q ≤ 999 := by
      by_cases cz : -len.toInt ≤ (X0 - bar).toInt ∧ (X0 - bar).toInt ≤ len.toInt
      · rw [clamp_self cz hl] at tc
        have h9 : q * q < 999 * 999 := by omega
        rcases Nat.lt_or_ge q 999 with z | z
        · omega
        · have := Nat.mul_le_mul z z
          omega
      · have z := clamp_far cz hl
        rw [tc, tl, ← eLL] at z
        have h0 : q * q = 0 := by omega
        rcases Nat.mul_eq_zero.mp h0 with w | w <;> omega
    dsimp only
    have e8 : (bar + clampS len (X0 - bar)).toInt - B = (clampS len (X0 - bar)).toInt := by omega
    have e9 : (q : Int) * q = ((q * q : Nat) : Int) := (Int.natCast_mul _ _).symm
    rw [e8, eR, e2, tc, e9, ← eLL]
    omega
  · rw [show pullS bar len (X0, Y0) = (X0, Y0) from if_neg c]
    rw [Int32.lt_iff_toInt_lt, e7, sq2, e6, e4, e5] at c
    have d1 := sq_down (a := (X0 - bar).toInt) (k := L) (by omega)
    have e8 : X0.toInt - B = (X0 - bar).toInt := by omega
    show (0 ≤ Y0.toInt ∧ Y0.toInt ≤ 999) ∧ ((B : Int) - L ≤ X0.toInt ∧ X0.toInt ≤ B + L) ∧ (X0.toInt - B) * (X0.toInt - B) + Y0.toInt * Y0.toInt ≤ (L : Int) * L
    rw [e8, ← eLL]
    omega
/-- where a puppet is that its string holds -/
def InS (p : PS) (w : Int32 × Int32) : Prop := (0 ≤ w.2.toInt ∧ w.2.toInt ≤ 999) ∧ ((qBar p).toInt - (qLen p).toInt ≤ w.1.toInt ∧ w.1.toInt ≤ (qBar p).toInt + (qLen p).toInt) ∧ (w.1.toInt - (qBar p).toInt) * (w.1.toInt - (qBar p).toInt) + w.2.toInt * w.2.toInt ≤ (qLen p).toInt * (qLen p).toInt
theorem okP_bl {p : PS} (hok : okP p) : (0 ≤ (qBar p).toInt ∧ (qBar p).toInt ≤ 999) ∧ 0 ≤ (qLen p).toInt ∧ (qLen p).toInt ≤ 1500 := by
  obtain ⟨⟨B, hB, eB⟩, ⟨L, hL, eL⟩, -⟩ := hok
  rw [eB, eL, nI_toInt (by omega), nI_toInt (by omega)]
  omega
theorem pull_in {p : PS} (hok : okP p) {v : Int32 × Int32} (hx : -10000 ≤ v.1.toInt ∧ v.1.toInt ≤ 10000) (hy : 0 ≤ v.2.toInt ∧ v.2.toInt ≤ 999) : InS p (pullS (qBar p) (qLen p) v) := by
  obtain ⟨⟨B, hB, eB⟩, ⟨L, hL, eL⟩, -⟩ := hok
  have tb : (qBar p).toInt = B := by rw [eB]; exact nI_toInt (by omega)
  have tl : (qLen p).toInt = L := by rw [eL]; exact nI_toInt (by omega)
  have h := pull_in0 (X0 := v.1) (Y0 := v.2) hB eB hL eL hx hy
  rw [InS, tb, tl]
  exact h
theorem InS.p {p : PS} (hok : okP p) {w : Int32 × Int32} (h : InS p w) : inP w := by
  obtain ⟨h1, h2, h3⟩ := h
  have := okP_bl hok
  exact ⟨by omega, by omega⟩
theorem InS.law {p : PS} (hok : okP p) {w : Int32 × Int32} (h : InS p w) : ¬ w.2 < 0 ∧ w.2 < nI 1000 ∧ (w.1 - qBar p) * (w.1 - qBar p) + w.2 * w.2 ≤ qLen p * qLen p ∧ ¬ w.1 < qBar p - qLen p ∧ w.1 ≤ qBar p + qLen p := by
  obtain ⟨h1, h2, h3⟩ := h
  have hb := okP_bl hok
  have e1 := i_sub (a := w.1) (b := qBar p) (by omega) (by omega)
  have q1 := sq_up (a := (w.1 - qBar p).toInt) (k := 1500) (by omega) (by omega)
  have q2 := sq_up (a := w.2.toInt) (k := 999) (by omega) (by omega)
  have q3 := sq_up (a := (qLen p).toInt) (k := 1500) (by omega) (by omega)
  have e2 := i_mul (a := w.1 - qBar p) (b := w.1 - qBar p) (by omega) (by omega)
  have e3 := i_mul (a := w.2) (b := w.2) (by omega) (by omega)
  have e4 := i_add (a := (w.1 - qBar p) * (w.1 - qBar p)) (b := w.2 * w.2) (by omega) (by omega)
  have e5 := i_mul (a := qLen p) (b := qLen p) (by omega) (by omega)
  have e6 := i_sub (a := qBar p) (b := qLen p) (by omega) (by omega)
  have e7 := i_add (a := qBar p) (b := qLen p) (by omega) (by omega)
  have e0 : (0 : Int32).toInt = 0 := rfl
  have e8 : (nI 1000).toInt = 1000 := rfl
  rw [← e1] at h3
  refine ⟨?_, ?_, ?_, ?_, ?_⟩
  · rw [Int32.lt_iff_toInt_lt, e0]; omega
  · rw [Int32.lt_iff_toInt_lt, e8]; omega
  · rw [Int32.le_iff_toInt_le, e4, e2, e3, e5]; exact h3
  · rw [Int32.lt_iff_toInt_lt, e6]; omega
  · rw [Int32.le_iff_toInt_le, e7]; omega
theorem keep_fx {c : Nat → Bool} {Q : Nat → Int32 × Int32} {v0 : Int32 × Int32} : ∀ n : Nat, (keepL c Q v0 n).1.2 = v0.2 ∧ ((keepL c Q v0 n).2 = false → (keepL c Q v0 n).1 = v0 ∧ ∀ q < n, c q = true → nearS v0 (Q q) = false) ∧ ((keepL c Q v0 n).2 = true → ∃ q, q < n ∧ c q = true) := by
  intro n
  induction n with
  | zero => exact ⟨rfl, fun _ => ⟨rfl, fun q h => absurd h (Nat.not_lt_zero _)⟩, fun h => Bool.noConfusion h⟩
  | succ n ih =>
    obtain ⟨i1, i2, i3⟩ := ih
    by_cases hc : c n = true
    · by_cases hn : nearS (keepL c Q v0 n).1 (Q n) = true
      · rw [show keepL c Q v0 (n + 1) = ((awayS (keepL c Q v0 n).1.1 (Q n).1, (keepL c Q v0 n).1.2), true) from (if_pos hc).trans (if_pos hn)]
        exact ⟨i1, fun z => Bool.noConfusion z, fun _ => ⟨n, Nat.lt_succ_self _, hc⟩⟩
      · rw [show keepL c Q v0 (n + 1) = keepL c Q v0 n from (if_pos hc).trans (if_neg hn)]
        refine ⟨i1, fun z => ⟨(i2 z).1, fun q hq hcq => ?_⟩, fun z => ?_⟩
        · by_cases e : q = n
          · rw [e, ← (i2 z).1]
            exact Bool.eq_false_iff.mpr hn
          · exact (i2 z).2 q (by omega) hcq
        · obtain ⟨q, h1, h2⟩ := i3 z
          exact ⟨q, by omega, h2⟩
    · rw [show keepL c Q v0 (n + 1) = keepL c Q v0 n from if_neg hc]
      refine ⟨i1, fun z => ⟨(i2 z).1, fun q hq hcq => ?_⟩, fun z => ?_⟩
      · by_cases e : q = n
        · rw [e] at hcq; exact absurd hcq hc
        · exact (i2 z).2 q (by omega) hcq
      · obtain ⟨q, h1, h2⟩ := i3 z
        exact ⟨q, by omega, h2⟩
/-- the place of a puppet of a show at a frame, and whether it was moved -/
def plQ (σ : ST) (c : Nat → Bool) (f : Int32) (q : Nat) : (Int32 × Int32) × Bool := goQ σ c f (q + 1) q
theorem nine_lt {a : Int32} (h : ¬ a < nI 10) : nI 9 < a := by
  have e1 : (nI 10).toInt = 10 := rfl
  have e2 : (nI 9).toInt = 9 := rfl
  rw [Int32.lt_iff_toInt_lt, e1] at h
  rw [Int32.lt_iff_toInt_lt, e2]
  omega
theorem near_nine {v w : Int32 × Int32} (hv : inP v) (hw : inP w) (h : nearS v w = false) : nI 9 < v.1 - w.1 ∨ nI 9 < w.1 - v.1 ∨ nI 9 < v.2 - w.2 ∨ nI 9 < w.2 - v.2 := by
  rw [nearS_eq hv.k hw.k, Bool.and_eq_false_iff] at h
  rcases h with h | h
  · have h := of_decide_eq_false h
    by_cases c : v.1 - w.1 < nI 10
    · exact Or.inr (Or.inl (nine_lt (fun z => h ⟨c, z⟩)))
    · exact Or.inl (nine_lt c)
  · have h := of_decide_eq_false h
    by_cases c : v.2 - w.2 < nI 10
    · exact Or.inr (Or.inr (Or.inr (nine_lt (fun z => h ⟨c, z⟩))))
    · exact Or.inr (Or.inr (Or.inl (nine_lt c)))
theorem pl_spec {σ : ST} {c : Nat → Bool} {f : Int32} (hok : ∀ q, c q = true → okP (eP σ q)) {n : Nat} (hn : c n = true) : InS (eP σ n) (plQ σ c f n).1 ∧ ((plQ σ c f n).2 = false → ∀ q, q < n → c q = true → nI 9 < (plQ σ c f n).1.1 - (plQ σ c f q).1.1 ∨ nI 9 < (plQ σ c f q).1.1 - (plQ σ c f n).1.1 ∨ nI 9 < (plQ σ c f n).1.2 - (plQ σ c f q).1.2 ∨ nI 9 < (plQ σ c f q).1.2 - (plQ σ c f n).1.2) ∧ ((plQ σ c f n).2 = true → ∃ q, q < n ∧ c q = true) := by
  have hp := hok n hn
  have ht := trk_bd hp (ownF (eH σ) (qCue (eP σ n)) f)
  have hv0 : InS (eP σ n) (pullS (qBar (eP σ n)) (qLen (eP σ n)) (trk (qBar (eP σ n)) (qKeys (eP σ n)) (ownF (eH σ) (qCue (eP σ n)) f))) := pull_in hp (inB_far ht.1) ht.2
  have hQ : ∀ q < n, c q = true → inP (goQ σ c f n q).1 := fun q hq hc => goQ_bd hok n q hq hc
  have hkb := keepL_bd (c := c) (Q := fun j => (goQ σ c f n j).1) (hv0.p hp) n hQ
  have hkf := keep_fx (c := c) (Q := fun j => (goQ σ c f n j).1) (v0 := pullS (qBar (eP σ n)) (qLen (eP σ n)) (trk (qBar (eP σ n)) (qKeys (eP σ n)) (ownF (eH σ) (qCue (eP σ n)) f))) n
  have es : plQ σ c f n = endP (qBar (eP σ n)) (qLen (eP σ n)) (keepL c (fun j => (goQ σ c f n j).1) (pullS (qBar (eP σ n)) (qLen (eP σ n)) (trk (qBar (eP σ n)) (qKeys (eP σ n)) (ownF (eH σ) (qCue (eP σ n)) f))) n) := goQ_s σ c f n
  generalize pullS (qBar (eP σ n)) (qLen (eP σ n)) (trk (qBar (eP σ n)) (qKeys (eP σ n)) (ownF (eH σ) (qCue (eP σ n)) f)) = v0 at hv0 hkb hkf es
  obtain ⟨k1, k2, k3⟩ := hkf
  cases hb : (keepL c (fun j => (goQ σ c f n j).1) v0 n).2 with
  | true =>
    have e2 : plQ σ c f n = (pullS (qBar (eP σ n)) (qLen (eP σ n)) (keepL c (fun j => (goQ σ c f n j).1) v0 n).1, true) := es.trans (if_pos hb)
    rw [e2]
    refine ⟨pull_in hp ?_ ?_, fun z => Bool.noConfusion z, fun _ => k3 hb⟩
    · have := hkb.1.1
      omega
    · rw [k1]; exact hv0.1
  | false =>
    have e2 : plQ σ c f n = keepL c (fun j => (goQ σ c f n j).1) v0 n := es.trans (if_neg (by rw [hb]; exact Bool.noConfusion))
    obtain ⟨k4, k5⟩ := k2 hb
    rw [e2, k4, hb]
    refine ⟨hv0, fun _ q hq hc => ?_, fun z => Bool.noConfusion z⟩
    have e3 : plQ σ c f q = goQ σ c f n q := (goQ_low σ c f hq).symm
    rw [e3]
    exact near_nine (hv0.p hp) (hQ q hq hc) (k5 q hq hc)
section SeenQ
variable {σ : ST}
theorem Inv.okc (hi : Inv σ) {s : Nat} (hs : s < eM σ) : ∀ q, tCast (eS σ s) q = true → q < eN σ ∧ okP (eP σ q) := fun q hq => ⟨(hi.oks hs).1 q hq, hi.okp ((hi.oks hs).1 q hq)⟩
theorem e_has (hi : Inv σ) {s p : Nat} (hs : s < eM σ) (hp : p < eN σ) (f : Nat → OR) : oSh σ (nI s) (fun j => oHas σ j (nI p) f) = if tCast (eS σ s) p = true then f p else .inl eIOO := by
  have n5 := hi.n5
  rw [sh_ok hi.wf.2.1 hs]
  by_cases c : tCast (eS σ s) p = true
  · rw [if_pos c]
    exact oHas_ok (by rw [hasC_nI8 (by omega)]; exact c) (nI_clamp (by omega)) f
  · rw [if_neg c]
    exact oHas_no (by rw [hasC_nI8 (by omega)]; exact c) f
theorem e_x (hi : Inv σ) {s p F : Nat} (hs : s < eM σ) (hp : p < eN σ) (hF : F ≤ 1999) : o_x σ (nI s) (nI p) (nI F) = if tCast (eS σ s) p = true then .inr ((plQ σ (tCast (eS σ s)) (nI F) p).1.1, σ) else .inl eIOO := by
  rw [o_x]
  refine (oSh_ok ⟨nI_ge0 (show s < 2 ^ 31 by have := hi.m4; omega), nI_lt hs (show eM σ < 2 ^ 31 by have := hi.m4; omega)⟩ (nI_clamp (show s < 2 ^ 31 by have := hi.m4; omega)) _).trans ?_
  have n5 := hi.n5
  by_cases c : tCast (eS σ s) p = true
  · rw [if_pos c]
    exact (oHas_ok (by rw [hasC_nI8 (by omega)]; exact c) (nI_clamp (by omega)) _).trans (inn_ok (Nat.zero_le _) hF (by decide))
  · rw [if_neg c]
    exact oHas_no (by rw [hasC_nI8 (by omega)]; exact c) _
theorem e_y (hi : Inv σ) {s p F : Nat} (hs : s < eM σ) (hp : p < eN σ) (hF : F ≤ 1999) : o_y σ (nI s) (nI p) (nI F) = if tCast (eS σ s) p = true then .inr ((plQ σ (tCast (eS σ s)) (nI F) p).1.2, σ) else .inl eIOO := by
  rw [o_y]
  refine (oSh_ok ⟨nI_ge0 (show s < 2 ^ 31 by have := hi.m4; omega), nI_lt hs (show eM σ < 2 ^ 31 by have := hi.m4; omega)⟩ (nI_clamp (show s < 2 ^ 31 by have := hi.m4; omega)) _).trans ?_
  have n5 := hi.n5
  by_cases c : tCast (eS σ s) p = true
  · rw [if_pos c]
    exact (oHas_ok (by rw [hasC_nI8 (by omega)]; exact c) (nI_clamp (by omega)) _).trans (inn_ok (Nat.zero_le _) hF (by decide))
  · rw [if_neg c]
    exact oHas_no (by rw [hasC_nI8 (by omega)]; exact c) _
theorem e_bent (hi : Inv σ) {s p F : Nat} (hs : s < eM σ) (hp : p < eN σ) (hF : F ≤ 1999) : o_bent σ (nI s) (nI p) (nI F) (nI F) = if tCast (eS σ s) p = true then .inr (bI (plQ σ (tCast (eS σ s)) (nI F) p).2, σ) else .inl eIOO := by
  rw [o_bent]
  refine (oSh_ok ⟨nI_ge0 (show s < 2 ^ 31 by have := hi.m4; omega), nI_lt hs (show eM σ < 2 ^ 31 by have := hi.m4; omega)⟩ (nI_clamp (show s < 2 ^ 31 by have := hi.m4; omega)) _).trans ?_
  have n5 := hi.n5
  by_cases c : tCast (eS σ s) p = true
  · rw [if_pos c]
    refine (oHas_ok (by rw [hasC_nI8 (by omega)]; exact c) (nI_clamp (by omega)) _).trans ((inn_ok (Nat.zero_le _) hF (by decide)).trans ((inn_ok (Nat.zero_le _) hF (by decide)).trans ?_))
    rw [nI_clamp (by omega), show F + 1 - F = 1 by omega]
    show Sum.inr (nI (0 + if (goQ σ (tCast (eS σ s)) (nI (F + 0)) (p + 1) p).2 = true then 1 else 0), σ) = _
    rw [Nat.add_zero, plQ]
    cases (goQ σ (tCast (eS σ s)) (nI F) (p + 1) p).2 with
    | true => rfl
    | false => rfl
  · rw [if_neg c]
    exact oHas_no (by rw [hasC_nI8 (by omega)]; exact c) _
/-- the track of a puppet behind all its keys -/
theorem trk_late {bar : Int32} {ks : List K4} (hs : SortK ks) {F : Nat} (h : 1000 ≤ F) (hF : F < 5000) : trk bar ks (nI F) = trk bar ks (nI 1000) := by
  have ha : ∀ G : Nat, 1000 ≤ G → G < 5000 → ahead ks (nI G + nI 1) = ks.length := fun G h1 h2 => by
    rw [nI_add]
    refine ahead_eq (Nat.le_refl _) (fun j k _ hk => ?_) (fun k hk => ?_)
    · obtain ⟨n, hn, e⟩ := hs.get hk
      rw [e]
      exact nI_lt (by omega) (by omega)
    · exact absurd (List.getElem?_eq_some_iff.mp hk).1 (Nat.lt_irrefl _)
  rw [trk, trk, ha F h hF, ha 1000 (by omega) (by omega), behind, behind]
  by_cases h0 : ks.length = 0
  · rw [if_pos h0, if_pos h0]
  · rw [if_neg h0, if_neg h0, if_neg h0, if_neg h0, if_pos (Nat.le_refl _), if_pos (Nat.le_refl _)]
theorem far_bd2 {bar : Int32} {v : Int32 × Int32} (hb : inB bar) (h1 : inB v.1) (h2 : inB v.2) : ∃ n : Nat, n ≤ 1996002 ∧ sq2 (v.1 - bar) v.2 = nI n := by
  obtain ⟨b, hb, eb⟩ := inB_ex hb
  obtain ⟨a, ha, ea⟩ := inB_ex h1
  obtain ⟨c, hc, ec⟩ := inB_ex h2
  rw [eb, ea, ec, sq2]
  have e := pk_sub_toInt (a := a) (b := b) (by omega) (by omega)
  obtain ⟨D, hD, eD⟩ := sq_abs (a := nI a - nI b) (L := 999) (by omega) (by omega)
  have m1 := Nat.mul_le_mul hD hD
  have m2 := Nat.mul_le_mul hc hc
  refine ⟨D * D + c * c, by omega, ?_⟩
  rw [eD, pk_mul, nI_add]
theorem far_all {p : PS} (hok : okP p) : ∀ m, ∃ n : Nat, n ≤ 1996002 ∧ farF (qBar p) (qKeys p) m = nI n ∧ ∀ k, k < m → ∃ q : Nat, q ≤ n ∧ sq2 ((trk (qBar p) (qKeys p) (nI k)).1 - qBar p) (trk (qBar p) (qKeys p) (nI k)).2 = nI q := by
  intro m
  induction m with
  | zero => exact ⟨0, Nat.zero_le _, rfl, fun k hk => absurd hk (Nat.not_lt_zero _)⟩
  | succ m ih =>
    obtain ⟨n, hn, en, hk⟩ := ih
    have hb : inB (qBar p) := (okP_bl hok).1
    obtain ⟨q, hq, eq⟩ := far_bd2 hb (trk_bd hok (nI m)).1 (trk_bd hok (nI m)).2
    refine ⟨max n q, by omega, ?_, fun k h => ?_⟩
    · show mxS (farF (qBar p) (qKeys p) m) (sq2 ((trk (qBar p) (qKeys p) (nI m)).1 - qBar p) (trk (qBar p) (qKeys p) (nI m)).2) = _
      rw [en, eq]
      exact maxN (by omega) (by omega)
    · by_cases e : k = m
      · rw [e]
        exact ⟨q, by omega, eq⟩
      · obtain ⟨r, h1, h2⟩ := hk k (by omega)
        exact ⟨r, by omega, h2⟩
theorem s_least (hi : Inv σ) {p F : Nat} (hp : p < eN σ) (hF : F ≤ 999) : ∃ L n : Nat, L ≤ 1413 ∧ n ≤ L * L ∧ o_least σ (nI p) = .inr (nI L, σ) ∧ sq2 ((trk (qBar (eP σ p)) (qKeys (eP σ p)) (nI F)).1 - qBar (eP σ p)) (trk (qBar (eP σ p)) (qKeys (eP σ p)) (nI F)).2 = nI n := by
  obtain ⟨m, hm, em, hk⟩ := far_all (hi.okp hp) 1000
  obtain ⟨q, hq, eq⟩ := hk F (by omega)
  obtain ⟨L, hL, eL, h1, h2⟩ := least_spec (n := m) (by omega)
  refine ⟨L, q, ?_, by omega, ?_, eq⟩
  · rcases Nat.lt_or_ge 1413 L with z | z
    · have := h2 1413 z
      omega
    · exact z
  · rw [o_least, pu_ok hi.wf.1 hp]
    show Sum.inr (leastS (qBar (eP σ p)) (qKeys (eP σ p)), σ) = _
    rw [leastS, em, eL]
end SeenQ
