theorem mix_bd {a b s : Nat} (ha : a ≤ 999) (hb : b ≤ 999) (hs : s ≤ 64) : 0 ≤ (nI a + (nI b - nI a) * nI s / nI 64).toInt ∧ (nI a + (nI b - nI a) * nI s / nI 64).toInt ≤ 999 := by
  have ta : (nI a).toInt = a := nI_toInt (by omega)
  rcases Nat.lt_or_ge b a with c | c
  · obtain ⟨d, hd, hd9⟩ : ∃ d : Nat, a = b + d ∧ d ≤ 999 := ⟨a - b, by omega, by omega⟩
    have tb : (nI b).toInt = b := nI_toInt (by omega)
    have ts : (nI s).toInt = s := nI_toInt (by omega)
    have hds : d * s ≤ 64 * d := by rw [Nat.mul_comm]; exact Nat.mul_le_mul_right d hs
    have e1 : (nI b - nI a).toInt = -(d : Int) := by rw [i_sub (by omega) (by omega)]; omega
    have ep : (nI b - nI a).toInt * (nI s).toInt = -((d * s : Nat) : Int) := by rw [e1, ts, Int.neg_mul, Int.natCast_mul]
    have e2 : ((nI b - nI a) * nI s).toInt = -((d * s : Nat) : Int) := by rw [i_mul (by omega) (by omega), ep]
    have e64 : (nI 64).toInt = 64 := rfl
    have hq : d * s / 64 ≤ d := Nat.div_le_of_le_mul hds
    have e3 : ((nI b - nI a) * nI s / nI 64).toInt = -((d * s / 64 : Nat) : Int) := by
      rw [Int32.toInt_div, e2, e64, Int.neg_tdiv]
      rw [show ((d * s : Nat) : Int).tdiv 64 = ((d * s / 64 : Nat) : Int) from rfl]
      exact Int.bmod_eq_of_le (by omega) (by omega)
    rw [i_add (by omega) (by omega), e3]
    omega
  · have hds : (b - a) * s ≤ 64 * (b - a) := by rw [Nat.mul_comm]; exact Nat.mul_le_mul_right (b - a) hs
    have hq : (b - a) * s / 64 ≤ b - a := Nat.div_le_of_le_mul hds
    rw [pk_sub c, pk_mul, pk_div (by omega) (by decide) (by decide), nI_add, nI_toInt (by omega)]
    omega
theorem ease_bd : ∀ i : Nat, ∃ s ≤ 64, easeL.getD i 0 = nI s := fun i => by
  by_cases h : i < 32
  · have q : ∀ j : Fin 32, (easeL.getD j.val 0).toNatClampNeg ≤ 64 ∧ easeL.getD j.val 0 = nI (easeL.getD j.val 0).toNatClampNeg := by decide +kernel
    exact ⟨_, (q ⟨i, h⟩).1, (q ⟨i, h⟩).2⟩
  · exact ⟨0, by decide, by rw [List.getD_eq_getElem?_getD, List.getElem?_eq_none (by show 32 ≤ i; omega)]; rfl⟩
theorem shr_bd (a b : K4) (f : Int32) : ∃ s ≤ 64, shr a b f = nI s := by
  rw [shr]
  by_cases c : 0 < b.1 - a.1
  · rw [if_pos c, esy]
    by_cases d : a.2.2.2 * nI 8 + (f - a.1) * nI 8 / (b.1 - a.1) < 0 ∨ nI 32 ≤ a.2.2.2 * nI 8 + (f - a.1) * nI 8 / (b.1 - a.1)
    · rw [if_pos d]; exact ⟨0, by decide, rfl⟩
    · rw [if_neg d]; exact ease_bd _
  · rw [if_neg c]; exact ⟨0, by decide, rfl⟩
def inB (v : Int32) : Prop := 0 ≤ v.toInt ∧ v.toInt ≤ 999
theorem inB_nI {n : Nat} (h : n ≤ 999) : inB (nI n) := by rw [inB, nI_toInt (by omega)]; omega
theorem trk_bd {p : PS} (hok : okP p) (f : Int32) : inB (trk (qBar p) (qKeys p) f).1 ∧ inB (trk (qBar p) (qKeys p) f).2 := by
  obtain ⟨⟨b, hb, eb⟩, -, -, -, hk, -⟩ := hok
  have h0 : inB (qBar p, nI 0).1 ∧ inB (qBar p, nI 0).2 := ⟨by show inB (qBar p); rw [eb]; exact inB_nI hb, inB_nI (by decide)⟩
  have key : ∀ k ∈ qKeys p, inB (k.2.1, k.2.2.1).1 ∧ inB (k.2.1, k.2.2.1).2 := fun k hm => by
    obtain ⟨⟨x, hx, ex⟩, ⟨y, hy, ey⟩, -⟩ := hk k hm
    exact ⟨by show inB k.2.1; rw [ex]; exact inB_nI hx, by show inB k.2.2.1; rw [ey]; exact inB_nI hy⟩
  rw [trk, behind]
  split
  · exact h0
  · split
    · split
      · rename_i k hk2; exact key _ (List.mem_of_getElem? hk2)
      · exact h0
    · split
      · split
        · rename_i k hk2; exact key _ (List.mem_of_getElem? hk2)
        · exact h0
      · split
        · rename_i ka kb h1 h2
          obtain ⟨⟨x, hx, ex⟩, ⟨y, hy, ey⟩, -⟩ := hk _ (List.mem_of_getElem? h1)
          obtain ⟨⟨x2, hx2, ex2⟩, ⟨y2, hy2, ey2⟩, -⟩ := hk _ (List.mem_of_getElem? h2)
          obtain ⟨s, hs, es⟩ := shr_bd ka kb f
          rw [betw, es, ex, ex2, ey, ey2]
          exact ⟨mix_bd hx hx2 hs, mix_bd hy hy2 hs⟩
        · exact h0
