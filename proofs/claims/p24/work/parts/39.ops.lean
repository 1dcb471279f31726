/-! ===== the calls of the class, as the law makes them ===== -/
section Ops
variable {σ : ST}
theorem no_tk {i : Nat} {w : Int32 × Int32} (h : takenS σ i w = false) : (∀ b, b < eM σ → tCast (eS σ b) i = true → meetS (tSpan (eS σ b)) w = false) ∧ ∀ m ∈ qMend (eP σ i), meetS m w = false := by
  refine ⟨fun b hb hc => ?_, fun m hm => ?_⟩
  · rw [Bool.eq_false_iff]
    intro z
    rw [taken_iff.mpr (Or.inl ⟨b, hb, hc, z⟩)] at h
    cases h
  · rw [Bool.eq_false_iff]
    intro z
    rw [taken_iff.mpr (Or.inr ⟨m, hm, z⟩)] at h
    cases h
theorem Iv.shw (hv : Iv σ) {j : Nat} {s' : SS} (hj : j < eM σ) (h1 : tSpan s' = tSpan (eS σ j)) (h2 : okT s') (h3 : ∀ i, tCast s' i = true → tCast (eS σ j) i = true ∨ takenS σ i (tSpan (eS σ j)) = false) : Iv (wS σ j s') := by
  obtain ⟨v1, v2, v3, v4, v5, v6⟩ := hv
  refine ⟨v1, v2, fun q hq => ?_, v4, fun i a b ha hb hab ca cb => ?_, fun i q hi hq hc m hm => ?_⟩
  · show okT (upt (eS σ) j s' q)
    by_cases c : q = j
    · subst c; rw [upt_s]; exact h2
    · rw [upt_n _ _ c]; exact v3 q hq
  · have ca' : tCast (upt (eS σ) j s' a) i = true := ca
    have cb' : tCast (upt (eS σ) j s' b) i = true := cb
    have ha' : a < eM σ := ha
    have hb' : b < eM σ := hb
    show meetS (tSpan (upt (eS σ) j s' a)) (tSpan (upt (eS σ) j s' b)) = false
    by_cases c1 : a = j
    · subst c1
      have c2 : b ≠ a := fun z => hab z.symm
      rw [upt_s] at ca'
      rw [upt_n _ _ c2] at cb'
      rw [upt_s, upt_n _ _ c2, h1]
      rcases h3 i ca' with o | o
      · exact v5 i a b ha' hb' hab o cb'
      · rw [meet_comm]; exact (no_tk o).1 b hb' cb'
    · rw [upt_n _ _ c1] at ca'
      by_cases c2 : b = j
      · subst c2
        rw [upt_s] at cb'
        rw [upt_n _ _ c1, upt_s, h1]
        rcases h3 i cb' with o | o
        · exact v5 i a b ha' hb' hab ca' o
        · exact (no_tk o).1 a ha' ca'
      · rw [upt_n _ _ c2] at cb'
        rw [upt_n _ _ c1, upt_n _ _ c2]
        exact v5 i a b ha' hb' hab ca' cb'
  · have hc' : tCast (upt (eS σ) j s' q) i = true := hc
    have hm' : m ∈ qMend (eP σ i) := hm
    show meetS m (tSpan (upt (eS σ) j s' q)) = false
    by_cases c : q = j
    · subst c
      rw [upt_s] at hc'
      rw [upt_s, h1]
      rcases h3 i hc' with o | o
      · exact v6 i q hi hq o m hm'
      · exact (no_tk o).2 m hm'
    · rw [upt_n _ _ c] at hc'
      rw [upt_n _ _ c]
      exact v6 i q hi hq hc' m hm'
theorem ar_shw {j : Nat} {s' : SS} : ∀ k, k < 8 → ∀ b, AR (wS σ j s') k b = if b = j then (match k with | 3 => (tSpan s').1 | 4 => (tSpan s').2 | 5 => nI (cnt (tCast s') 8) | 6 => if j < eM σ then (if tDone s' = true then 0 else nI (tLeft s')) else 0 | 7 => if tDone s' = true then 0 else tTak s' | _ => AR σ k b) else AR σ k b := by
  intro k hk b
  by_cases c : b = j
  · subst c
    rw [if_pos rfl]
    match k, hk with
    | 0, _ => rfl
    | 1, _ => rfl
    | 2, _ => rfl
    | 3, _ => show (tSpan (upt (eS σ) b s' b)).1 = _; rw [upt_s]; rfl
    | 4, _ => show (tSpan (upt (eS σ) b s' b)).2 = _; rw [upt_s]; rfl
    | 5, _ => show nI (cnt (tCast (upt (eS σ) b s' b)) 8) = _; rw [upt_s]; rfl
    | 6, _ => show (if b < eM σ then (if tDone (upt (eS σ) b s' b) = true then 0 else nI (tLeft (upt (eS σ) b s' b))) else 0) = _; rw [upt_s]; rfl
    | 7, _ => show (if tDone (upt (eS σ) b s' b) = true then 0 else tTak (upt (eS σ) b s' b)) = _; rw [upt_s]; rfl
    | n + 8, h => omega
  · rw [if_neg c]
    match k, hk with
    | 0, _ => rfl
    | 1, _ => rfl
    | 2, _ => rfl
    | 3, _ => show (tSpan (upt (eS σ) j s' b)).1 = _; rw [upt_n _ _ c]; rfl
    | 4, _ => show (tSpan (upt (eS σ) j s' b)).2 = _; rw [upt_n _ _ c]; rfl
    | 5, _ => show nI (cnt (tCast (upt (eS σ) j s' b)) 8) = _; rw [upt_n _ _ c]; rfl
    | 6, _ => show (if b < eM σ then (if tDone (upt (eS σ) j s' b) = true then 0 else nI (tLeft (upt (eS σ) j s' b))) else 0) = _; rw [upt_n _ _ c]; rfl
    | 7, _ => show (if tDone (upt (eS σ) j s' b) = true then 0 else tTak (upt (eS σ) j s' b)) = _; rw [upt_n _ _ c]; rfl
    | n + 8, h => omega
/-- one row of the shows is written -/
theorem ar_shw5 {j : Nat} {s' : SS} (hj : j < eM σ) (h1 : tSpan s' = tSpan (eS σ j)) (h2 : tLeft s' = tLeft (eS σ j)) (h3 : tTak s' = tTak (eS σ j)) (h4 : tDone s' = tDone (eS σ j)) : ∀ k, k < 8 → ∀ b, u2 (AR σ) 5 j (nI (cnt (tCast s') 8)) k b = AR (wS σ j s') k b := by
  refine ar_one ?_ (fun k hk b c => ?_)
  · rw [ar_shw 5 (by decide), if_pos rfl]; rfl
  · rw [ar_shw k hk]
    by_cases e : b = j
    · subst e
      rw [if_pos rfl]
      match k, hk, c with
      | 0, _, _ => rfl
      | 1, _, _ => rfl
      | 2, _, _ => rfl
      | 3, _, _ => exact congrArg Prod.fst h1
      | 4, _, _ => exact congrArg Prod.snd h1
      | 5, _, c => exact absurd ⟨rfl, rfl⟩ c
      | 6, _, _ => show (if b < eM σ then (if tDone s' = true then 0 else nI (tLeft s')) else 0) = _; rw [h2, h4]; rfl
      | 7, _, _ => show (if tDone s' = true then 0 else tTak s') = _; rw [h3, h4]; rfl
      | n + 8, h, _ => omega
    · rw [if_neg e]
abbrev eISE : String := "java/lang/IllegalStateException"
abbrev eIOO : String := "java/lang/IndexOutOfBoundsException"
abbrev eNSE : String := "java/util/NoSuchElementException"
theorem s_cast (hi : Inv σ) {t p : Nat} (ht : t < eM σ) (hp : p < eN σ) : o_cast σ (nI t) (nI p) = .inl eISE ∨ ∃ σ', o_cast σ (nI t) (nI p) = .inr (nI (cnt (tCast (eS σ t)) 8 + 1), σ') ∧ Nx σ σ' ∧ (∀ k, k < 8 → ∀ b, u2 (AR σ) 5 t (nI (cnt (tCast (eS σ t)) 8 + 1)) k b = AR σ' k b) ∧ takenS σ p (tSpan (eS σ t)) = false ∧ qWorn (eP σ' p) < 50 ∧ ∀ m, meetS (tSpan (eS σ t)) (nI m, nI 1) = true → takenS σ' p (nI m, nI 1) = true := by
  have n5 := hi.n5
  by_cases c1 : tDone (eS σ t) = true ∨ tCast (eS σ t) p = true
  · left
    rw [o_cast, sh_ok hi.wf.2.1 ht, pu_ok hi.wf.1 hp, if_pos c1]
  · by_cases c2 : 50 ≤ qWorn (eP σ p) ∨ takenS σ p (tSpan (eS σ t)) = true
    · left
      rw [o_cast, sh_ok hi.wf.2.1 ht, pu_ok hi.wf.1 hp, if_neg c1, if_pos c2]
    · right
      have hc : tCast (eS σ t) p = false := Bool.eq_false_iff.mpr (fun z => c1 (Or.inr z))
      have hk : takenS σ p (tSpan (eS σ t)) = false := Bool.eq_false_iff.mpr (fun z => c2 (Or.inr z))
      have ec : cnt (upt (tCast (eS σ t)) p true) 8 = cnt (tCast (eS σ t)) 8 + 1 := cnt_set (by omega) hc
      have e : o_cast σ (nI t) (nI p) = .inr (nI (cnt (tCast (eS σ t)) 8 + 1), wS σ t ((eS σ t).1, upt (tCast (eS σ t)) p true, (eS σ t).2.2)) := by
        rw [o_cast, sh_ok hi.wf.2.1 ht, pu_ok hi.wf.1 hp, if_neg c1, if_neg c2, ec]
      refine ⟨_, e, ⟨⟨wx_cast hi.1 _ _ _ _ e, hi.2.shw ht rfl (hi.okt ht) (fun i hx => ?_)⟩, rfl, rfl, rfl⟩, ?_, hk, ?_, fun m hm => ?_⟩
      · have hx' : upt (tCast (eS σ t)) p true i = true := hx
        by_cases z : i = p
        · subst z; exact Or.inr hk
        · rw [upt_n _ _ z] at hx'; exact Or.inl hx'
      · rw [← ec]
        exact ar_shw5 (s' := ((eS σ t).1, upt (tCast (eS σ t)) p true, (eS σ t).2.2)) ht rfl rfl rfl rfl
      · exact Nat.not_le.mp (fun z => c2 (Or.inl z))
      · refine taken_iff.mpr (Or.inl ⟨t, ht, ?_, ?_⟩)
        · show tCast (upt (eS σ) t _ t) p = true
          rw [upt_s]
          show upt (tCast (eS σ t)) p true p = true
          rw [upt_s]
        · show meetS (tSpan (upt (eS σ) t _ t)) (nI m, nI 1) = true
          rw [upt_s]; exact hm
theorem s_leave (hi : Inv σ) {t p : Nat} (ht : t < eM σ) (hp : p < eN σ) : o_leave σ (nI t) (nI p) = .inl eISE ∨ ∃ σ', 1 ≤ cnt (tCast (eS σ t)) 8 ∧ o_leave σ (nI t) (nI p) = .inr (nI (cnt (tCast (eS σ t)) 8 - 1), σ') ∧ Nx σ σ' ∧ (∀ k, k < 8 → ∀ b, u2 (AR σ) 5 t (nI (cnt (tCast (eS σ t)) 8 - 1)) k b = AR σ' k b) ∧ takenS σ' p (tSpan (eS σ t)) = false ∧ o_x σ' (nI t) (nI p) (nI 0) = .inl eIOO := by
  have n5 := hi.n5
  by_cases c1 : tDone (eS σ t) = true ∨ tCast (eS σ t) p = false
  · left
    rw [o_leave, sh_ok hi.wf.2.1 ht, pu_ok hi.wf.1 hp, if_pos c1]
  · right
    have hc : tCast (eS σ t) p = true := by
      cases z : tCast (eS σ t) p with
      | true => rfl
      | false => exact absurd (Or.inr z) c1
    obtain ⟨ec, e1⟩ := cnt_clr (c := tCast (eS σ t)) (i := p) (n := 8) (by omega) hc
    have e : o_leave σ (nI t) (nI p) = .inr (nI (cnt (tCast (eS σ t)) 8 - 1), wS σ t ((eS σ t).1, upt (tCast (eS σ t)) p false, (eS σ t).2.2)) := by
      rw [o_leave, sh_ok hi.wf.2.1 ht, pu_ok hi.wf.1 hp, if_neg c1, ec]
    have hcz : tCast (upt (eS σ) t ((eS σ t).1, upt (tCast (eS σ t)) p false, (eS σ t).2.2) t) p = false := by
      rw [upt_s]
      show upt (tCast (eS σ t)) p false p = false
      rw [upt_s]
    refine ⟨_, e1, e, ⟨⟨wx_leave hi.1 _ _ _ _ e, hi.2.shw ht rfl (hi.okt ht) (fun i hx => ?_)⟩, rfl, rfl, rfl⟩, ?_, ?_, ?_⟩
    · have hx' : upt (tCast (eS σ t)) p false i = true := hx
      by_cases z : i = p
      · subst z; rw [upt_s] at hx'; cases hx'
      · rw [upt_n _ _ z] at hx'; exact Or.inl hx'
    · rw [← ec]
      exact ar_shw5 (s' := ((eS σ t).1, upt (tCast (eS σ t)) p false, (eS σ t).2.2)) ht rfl rfl rfl rfl
    · rw [Bool.eq_false_iff]
      intro z
      rcases taken_iff.mp z with ⟨j, j1, j2, j3⟩ | ⟨m, m1, m2⟩
      · have j2' : tCast (upt (eS σ) t ((eS σ t).1, upt (tCast (eS σ t)) p false, (eS σ t).2.2) j) p = true := j2
        have j3' : meetS (tSpan (upt (eS σ) t ((eS σ t).1, upt (tCast (eS σ t)) p false, (eS σ t).2.2) j)) (tSpan (eS σ t)) = true := j3
        by_cases c : j = t
        · subst c
          rw [hcz] at j2'; cases j2'
        · rw [upt_n _ _ c] at j2' j3'
          rw [hi.2.2.2.2.2.1 p j t j1 ht c j2' hc] at j3'
          cases j3'
      · have m1' : m ∈ qMend (eP σ p) := m1
        rw [hi.2.2.2.2.2.2 p t hp ht hc m m1'] at m2
        cases m2
    · rw [o_x, sh_ok (σ := wS σ t ((eS σ t).1, upt (tCast (eS σ t)) p false, (eS σ t).2.2)) hi.wf.2.1 ht]
      refine oHas_no ?_ _
      rw [hasC_nI8 (by omega)]
      intro z
      have z' : tCast (upt (eS σ) t ((eS σ t).1, upt (tCast (eS σ t)) p false, (eS σ t).2.2) t) p = true := z
      rw [hcz] at z'; cases z'
theorem s_sell (hi : Inv σ) {t n u : Nat} (ht : t < eM σ) (hn : 1 ≤ n) (hn2 : n ≤ 50) (hu : u ≤ 100) : ∃ L : Nat, L ≤ 50 ∧ AR σ 6 t = nI L ∧ ((o_sell σ (nI t) (nI n) (nI u) = .inl eISE ∧ L < n) ∨ ∃ σ', n ≤ L ∧ o_sell σ (nI t) (nI n) (nI u) = .inr (nI (L - n), σ') ∧ Nx σ σ' ∧ ∀ k, k < 8 → ∀ b, u2 (u2 (AR σ) 7 t (AR σ 7 t + nI (n * u))) 6 t (nI (L - n)) k b = AR σ' k b) := by
  have h50 : tLeft (eS σ t) ≤ 50 := (hi.oks ht).2
  have e0 : o_sell σ (nI t) (nI n) (nI u) = if tDone (eS σ t) = true ∨ ¬ n ≤ tLeft (eS σ t) then .inl eISE else .inr (nI (tLeft (eS σ t) - n), wS σ t ((eS σ t).1, tCast (eS σ t), tLeft (eS σ t) - n, tTak (eS σ t) + nI n * nI u, tDone (eS σ t))) := by
    rw [o_sell, sh_ok hi.wf.2.1 ht, inn_ok hn hn2 (by decide), inn_ok (Nat.zero_le _) hu (by decide), nI_clamp (by omega)]
  cases hd : tDone (eS σ t) with
  | true =>
    refine ⟨0, Nat.zero_le _, ?_, Or.inl ⟨?_, hn⟩⟩
    · show (if t < eM σ then (if tDone (eS σ t) = true then 0 else nI (tLeft (eS σ t))) else 0) = _
      rw [if_pos ht, if_pos hd]; rfl
    · rw [e0, if_pos (Or.inl hd)]
  | false =>
    have hd2 : ¬ tDone (eS σ t) = true := by rw [hd]; exact Bool.noConfusion
    have a6 : AR σ 6 t = nI (tLeft (eS σ t)) := by
      show (if t < eM σ then (if tDone (eS σ t) = true then 0 else nI (tLeft (eS σ t))) else 0) = _
      rw [if_pos ht, if_neg hd2]
    have a7 : AR σ 7 t = tTak (eS σ t) := by
      show (if tDone (eS σ t) = true then 0 else tTak (eS σ t)) = _
      rw [if_neg hd2]
    refine ⟨tLeft (eS σ t), h50, a6, ?_⟩
    by_cases c : n ≤ tLeft (eS σ t)
    · right
      have e : o_sell σ (nI t) (nI n) (nI u) = .inr (nI (tLeft (eS σ t) - n), wS σ t ((eS σ t).1, tCast (eS σ t), tLeft (eS σ t) - n, tTak (eS σ t) + nI n * nI u, tDone (eS σ t))) := by
        rw [e0, if_neg (fun z => z.elim hd2 (fun w => w c))]
      refine ⟨_, c, e, ⟨⟨wx_sell hi.1 _ _ _ _ _ e, hi.2.shw ht rfl ⟨(hi.okt ht).1, ?_⟩ (fun i hx => Or.inl hx)⟩, rfl, rfl, rfl⟩, ?_⟩
      · obtain ⟨T, hT, bT⟩ := (hi.okt ht).2
        refine ⟨T + n * u, ?_, ?_⟩
        · show tTak (eS σ t) + nI n * nI u = _
          rw [hT, pk_mul, nI_add]
        · show T + n * u ≤ (50 - (tLeft (eS σ t) - n)) * 100
          have := Nat.mul_le_mul_left n hu
          omega
      · intro k hk b
        rw [ar_shw k hk]
        by_cases e6 : b = t
        · subst e6
          rw [if_pos rfl]
          match k, hk with
          | 0, _ => rw [u2_n _ _ (fun z => absurd z.1 (by decide)), u2_n _ _ (fun z => absurd z.1 (by decide))]; rfl
          | 1, _ => rw [u2_n _ _ (fun z => absurd z.1 (by decide)), u2_n _ _ (fun z => absurd z.1 (by decide))]; rfl
          | 2, _ => rw [u2_n _ _ (fun z => absurd z.1 (by decide)), u2_n _ _ (fun z => absurd z.1 (by decide))]; rfl
          | 3, _ => rw [u2_n _ _ (fun z => absurd z.1 (by decide)), u2_n _ _ (fun z => absurd z.1 (by decide))]; rfl
          | 4, _ => rw [u2_n _ _ (fun z => absurd z.1 (by decide)), u2_n _ _ (fun z => absurd z.1 (by decide))]; rfl
          | 5, _ => rw [u2_n _ _ (fun z => absurd z.1 (by decide)), u2_n _ _ (fun z => absurd z.1 (by decide))]; rfl
          | 6, _ =>
            rw [u2_s]
            show _ = (if b < eM σ then (if tDone (eS σ b) = true then 0 else nI (tLeft (eS σ b) - n)) else 0)
            rw [if_pos ht, if_neg hd2]
          | 7, _ =>
            rw [u2_n _ _ (fun z => absurd z.1 (by decide)), u2_s, a7]
            show _ = (if tDone (eS σ b) = true then 0 else tTak (eS σ b) + nI n * nI u)
            rw [if_neg hd2, pk_mul]
          | n + 8, h => omega
        · rw [if_neg e6, u2_n _ _ (fun z => e6 z.2), u2_n _ _ (fun z => e6 z.2)]
    · left
      exact ⟨by rw [e0, if_pos (Or.inr c)], by omega⟩
end Ops
