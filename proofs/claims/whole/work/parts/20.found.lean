/-! ===== where a puppet is found: the document's track, the model's way ===== -/
theorem trk_none {bar : Int32} {ks : List K4} {f : Int32} (h0 : ks.length = 0) : trk bar ks f = (bar, nI 0) := by
  rw [trk, behind, if_pos h0]
theorem trk_end {bar : Int32} {ks : List K4} {F : Nat} {kk : K4} (hs : SortK ks) (hF : F < 2000) (hk : ahead ks (nI F) = ks.length) (hkk : ks[ks.length - 1]? = some kk) : trk bar ks (nI F) = (kk.2.1, kk.2.2.1) := by
  have hlt : ks.length - 1 < ks.length := (List.getElem?_eq_some_iff.mp hkk).1
  have hn : ks[ahead ks (nI F)]? = none := List.getElem?_eq_none (by omega)
  rw [trk, nI_add, ahead_step hs (by omega), hn, if_neg (by simp), hk, behind, if_neg (by omega), if_neg (by omega), if_pos (Nat.le_refl _), hkk]
theorem trk_first {bar : Int32} {ks : List K4} {F : Nat} {kk : K4} (hs : SortK ks) (hF : F < 2000) (hk : ahead ks (nI F) = 0) (hkk : ks[0]? = some kk) (hne : ¬ kk.1 = nI F) : trk bar ks (nI F) = (kk.2.1, kk.2.2.1) := by
  have hlt : 0 < ks.length := (List.getElem?_eq_some_iff.mp hkk).1
  rw [trk, nI_add, ahead_step hs (by omega), hk, hkk, if_neg (by simpa using hne), behind, if_neg (by omega), if_pos rfl, hkk]
theorem trk_mid {bar : Int32} {ks : List K4} {F k : Nat} {ka kb : K4} (hs : SortK ks) (hF : F < 2000) (hk : ahead ks (nI F) = k) (h0 : 0 < k) (hka : ks[k - 1]? = some ka) (hkb : ks[k]? = some kb) (hne : ¬ kb.1 = nI F) : trk bar ks (nI F) = betw ka kb (nI F) := by
  have hlt : k < ks.length := (List.getElem?_eq_some_iff.mp hkb).1
  rw [trk, nI_add, ahead_step hs (by omega), hk, hkb, if_neg (by simpa using hne), behind, if_neg (by omega), if_neg (by omega), if_neg (by omega), hka, hkb]
theorem easy0 {e : Nat} (he : e ≤ 3) : esy (nI e) (nI 0) = nI 0 := by
  rcases (show e = 0 ∨ e = 1 ∨ e = 2 ∨ e = 3 by omega) with rfl | rfl | rfl | rfl <;> decide
theorem z64 (x d : Int32) : x + d * nI 0 / nI 64 = x := by
  rw [show d * nI 0 = nI 0 from Int32.mul_zero, show nI 0 / nI 64 = nI 0 from by decide]
  exact Int32.add_zero x
theorem trk_hit {bar : Int32} {ks : List K4} {F k e : Nat} {kk : K4} (hs : SortK ks) (hF : F < 2000) (hk : ahead ks (nI F) = k) (hkk : ks[k]? = some kk) (he : kk.1 = nI F) (hee : kk.2.2.2 = nI e) (he3 : e ≤ 3) : trk bar ks (nI F) = (kk.2.1, kk.2.2.1) := by
  have hlt : k < ks.length := (List.getElem?_eq_some_iff.mp hkk).1
  rw [trk, nI_add, ahead_step hs (by omega), hk, hkk, if_pos (by simpa using he), behind, if_neg (by omega), if_neg (by omega)]
  by_cases c : ks.length ≤ k + 1
  · rw [if_pos c, show ks.length - 1 = k by omega, hkk]
  · rw [if_neg c, Nat.add_sub_cancel, hkk]
    cases hb : ks[k + 1]? with
    | none => exact absurd (List.getElem?_eq_none_iff.mp hb) c
    | some kb =>
      have hsh : shr kk kb (nI F) = nI 0 := by
        rw [shr, he, hee, show nI F - nI F = nI 0 from by rw [pk_sub (Nat.le_refl _), Nat.sub_self], show nI 0 * nI 8 = nI 0 from rfl, show ∀ d : Int32, nI 0 / d = nI 0 from fun d => Int32.zero_div, easy0 he3]
        by_cases q : 0 < kb.1 - nI F
        · rw [if_pos q]
        · rw [if_neg q]
      show betw kk kb (nI F) = _
      rw [betw, hsh, z64, z64]
theorem idx_in {a b F e : Nat} (h1 : a < F) (h2 : F < b) (hb : b ≤ 999) (he : e ≤ 3) : ∃ t : Nat, t < 32 ∧ nI 8 * nI e + (nI F - nI a) * nI 8 / (nI b - nI a) = nI t ∧ nI e * nI 8 + (nI F - nI a) * nI 8 / (nI b - nI a) = nI t := by
  rw [pk_sub (by omega), pk_sub (by omega), pk_mul, pk_mul, pk_mul, pk_div (by omega) (by omega) (by omega), nI_add, nI_add]
  have hd : (F - a) * 8 / (b - a) < 8 := by
    rw [Nat.div_lt_iff_lt_mul (by omega)]
    rw [Nat.mul_comm]
    exact Nat.mul_lt_mul_of_pos_left (by omega) (by decide)
  exact ⟨8 * e + (F - a) * 8 / (b - a), by omega, rfl, by rw [Nat.mul_comm e 8]⟩
