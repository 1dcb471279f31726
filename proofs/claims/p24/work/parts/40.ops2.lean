/-! ===== more calls of the class, as the law makes them ===== -/
section Ops2
variable {σ : ST}
/-- the state behind a show performed -/
def pfS (σ : ST) (t : Nat) : ST := ((perfS σ t (eN σ)).1, (perfS σ t (eN σ)).2.1, eH (perfS σ t (eN σ)), ePaid σ + tTak (eS σ t))
theorem pf_P (t q : Nat) : eP (pfS σ t) q = if q < eN σ ∧ tCast (eS σ t) q = true then wearP (eP σ q) else eP σ q := rfl
theorem pf_S (t q : Nat) : eS (pfS σ t) q = upt (eS σ) t ((eS σ t).1, tCast (eS σ t), tLeft (eS σ t), tTak (eS σ t), true) q := rfl
theorem pf_keep {α : Type} (F : PS → α) (hF : ∀ p, F (wearP p) = F p) (t q : Nat) : F (eP (pfS σ t) q) = F (eP σ q) := by
  rw [pf_P]
  by_cases c : q < eN σ ∧ tCast (eS σ t) q = true
  · rw [if_pos c, hF]
  · rw [if_neg c]
theorem pf_keepS {α : Type} (F : SS → α) (t : Nat) (hF : F ((eS σ t).1, tCast (eS σ t), tLeft (eS σ t), tTak (eS σ t), true) = F (eS σ t)) (q : Nat) : F (eS (pfS σ t) q) = F (eS σ q) := by
  rw [pf_S]
  by_cases c : q = t
  · subst c; rw [upt_s, hF]
  · rw [upt_n _ _ c]
theorem s_perform (hi : Inv σ) {t : Nat} (ht : t < eM σ) : ∃ T : Nat, T ≤ 5000 ∧ AR σ 7 t = nI T ∧ (o_perform σ (nI t) = .inl eISE ∨ ∃ σ', o_perform σ (nI t) = .inr (nI T, σ') ∧ (∃ C : Nat, 1 ≤ C ∧ C ≤ 8 ∧ AR σ 5 t = nI C) ∧ Inv σ' ∧ eN σ' = eN σ ∧ eM σ' = eM σ ∧ ePaid σ' = ePaid σ + nI T ∧ o_perform σ' (nI t) = .inl eISE ∧ (∀ p, p < eN σ → qWorn (eP σ p) ≤ qWorn (eP σ' p) ∧ qWorn (eP σ' p) ≤ qWorn (eP σ p) + (qKeys (eP σ p)).length) ∧ ∀ k, k < 8 → ∀ b, u2 (u2 (AR σ) 6 t 0) 7 t 0 k b = AR σ' k b) := by
  obtain ⟨T, hT, bT⟩ := (hi.okt ht).2
  have e0 : o_perform σ (nI t) = if tDone (eS σ t) = true ∨ cnt (tCast (eS σ t)) 8 = 0 then .inl eISE else .inr (tTak (eS σ t), pfS σ t) := by
    rw [o_perform, sh_ok hi.wf.2.1 ht]; rfl
  cases hd : tDone (eS σ t) with
  | true =>
    refine ⟨0, Nat.zero_le _, ?_, Or.inl ?_⟩
    · show (if tDone (eS σ t) = true then 0 else tTak (eS σ t)) = _
      rw [if_pos hd]; rfl
    · rw [e0, if_pos (Or.inl hd)]
  | false =>
    have hd2 : ¬ tDone (eS σ t) = true := by rw [hd]; exact Bool.noConfusion
    have a7 : AR σ 7 t = nI T := by
      show (if tDone (eS σ t) = true then 0 else tTak (eS σ t)) = _
      rw [if_neg hd2, hT]
    refine ⟨T, by omega, a7, ?_⟩
    by_cases c0 : cnt (tCast (eS σ t)) 8 = 0
    · left; rw [e0, if_pos (Or.inr c0)]
    · right
      have e : o_perform σ (nI t) = .inr (nI T, pfS σ t) := by
        rw [e0, if_neg (fun z => z.elim hd2 c0), hT]
      have hwx : WX (pfS σ t) := wx_perform hi.1 _ _ _ e
      have fsp : ∀ q, tSpan (eS (pfS σ t) q) = tSpan (eS σ q) := pf_keepS (fun s => tSpan s) t rfl
      have fca : ∀ q, tCast (eS (pfS σ t) q) = tCast (eS σ q) := pf_keepS (fun s => tCast s) t rfl
      have flf : ∀ q, tLeft (eS (pfS σ t) q) = tLeft (eS σ q) := pf_keepS (fun s => tLeft s) t rfl
      have ftk : ∀ q, tTak (eS (pfS σ t) q) = tTak (eS σ q) := pf_keepS (fun s => tTak s) t rfl
      have fme : ∀ q, qMend (eP (pfS σ t) q) = qMend (eP σ q) := pf_keep (fun p => qMend p) (fun _ => rfl) t
      have fbr : ∀ q, qBar (eP (pfS σ t) q) = qBar (eP σ q) := pf_keep (fun p => qBar p) (fun _ => rfl) t
      have fln : ∀ q, qLen (eP (pfS σ t) q) = qLen (eP σ q) := pf_keep (fun p => qLen p) (fun _ => rfl) t
      have fky : ∀ q, qKeys (eP (pfS σ t) q) = qKeys (eP σ q) := pf_keep (fun p => qKeys p) (fun _ => rfl) t
      have fdn : tDone (eS (pfS σ t) t) = true := by rw [pf_S, upt_s]
      have fdo : ∀ q, q ≠ t → tDone (eS (pfS σ t) q) = tDone (eS σ q) := fun q c => by rw [pf_S, upt_n _ _ c]
      obtain ⟨v1, v2, v3, v4, v5, v6⟩ := hi.2
      refine ⟨_, e, ⟨cnt (tCast (eS σ t)) 8, Nat.pos_of_ne_zero c0, cnt_le _ _, rfl⟩, ⟨hwx, v1, v2, fun j hj => ?_, fun i hq m hm => ?_, fun i j k hj hk hne cj ck => ?_, fun i j hq hj hc m hm => ?_⟩, rfl, rfl, ?_, ?_, fun p hp => ?_, fun k hk b => ?_⟩
      · obtain ⟨x1, x2⟩ := v3 j hj
        exact ⟨by rw [fsp]; exact x1, by rw [ftk, flf]; exact x2⟩
      · rw [fme] at hm; exact v4 i hq m hm
      · rw [fca] at cj ck
        rw [fsp, fsp]; exact v5 i j k hj hk hne cj ck
      · rw [fca] at hc
        rw [fme] at hm
        rw [fsp]; exact v6 i j hq hj hc m hm
      · show ePaid σ + tTak (eS σ t) = _
        rw [hT]
      · rw [o_perform, sh_ok (σ := pfS σ t) hwx.1.2.1 ht, if_pos (Or.inl fdn)]
      · rw [pf_P]
        by_cases c : p < eN σ ∧ tCast (eS σ t) p = true
        · rw [if_pos c]
          have h99 := (hi.okp hp).2.2.2.2.2.2.1
          show qWorn (eP σ p) ≤ min 99 (qWorn (eP σ p) + (qKeys (eP σ p)).length) ∧ min 99 (qWorn (eP σ p) + (qKeys (eP σ p)).length) ≤ _
          omega
        · rw [if_neg c]; omega
      · match k, hk with
        | 0, _ => rw [u2_n _ _ (fun z => absurd z.1 (by decide)), u2_n _ _ (fun z => absurd z.1 (by decide))]; exact (fbr b).symm
        | 1, _ => rw [u2_n _ _ (fun z => absurd z.1 (by decide)), u2_n _ _ (fun z => absurd z.1 (by decide))]; exact (fln b).symm
        | 2, _ => rw [u2_n _ _ (fun z => absurd z.1 (by decide)), u2_n _ _ (fun z => absurd z.1 (by decide))]; exact (congrArg (fun l : List K4 => nI l.length) (fky b)).symm
        | 3, _ => rw [u2_n _ _ (fun z => absurd z.1 (by decide)), u2_n _ _ (fun z => absurd z.1 (by decide))]; exact (congrArg Prod.fst (fsp b)).symm
        | 4, _ => rw [u2_n _ _ (fun z => absurd z.1 (by decide)), u2_n _ _ (fun z => absurd z.1 (by decide))]; exact (congrArg Prod.snd (fsp b)).symm
        | 5, _ => rw [u2_n _ _ (fun z => absurd z.1 (by decide)), u2_n _ _ (fun z => absurd z.1 (by decide))]; exact (congrArg (fun c : Nat → Bool => nI (cnt c 8)) (fca b)).symm
        | 6, _ =>
          rw [u2_n _ _ (fun z => absurd z.1 (by decide))]
          show _ = (if b < eM σ then (if tDone (eS (pfS σ t) b) = true then 0 else nI (tLeft (eS (pfS σ t) b))) else 0)
          by_cases c : b = t
          · subst c
            rw [u2_s, if_pos ht, if_pos fdn]
          · rw [u2_n _ _ (fun z => c z.2), fdo b c, flf]; rfl
        | 7, _ =>
          show _ = (if tDone (eS (pfS σ t) b) = true then 0 else tTak (eS (pfS σ t) b))
          by_cases c : b = t
          · subst c
            rw [u2_s, if_pos fdn]
          · rw [u2_n _ _ (fun z => c z.2), u2_n _ _ (fun z => c z.2), fdo b c, ftk]; rfl
        | n + 8, h => omega
theorem s_mend (hi : Inv σ) {p m : Nat} (hp : p < eN σ) (hm : m ≤ 400) : o_mend σ (nI p) (nI m) = .inl eISE ∨ ∃ σ', 1 ≤ qWorn (eP σ p) ∧ o_mend σ (nI p) (nI m) = .inr (nI (qWorn (eP σ p)), σ') ∧ Nx σ σ' ∧ (∀ k, k < 8 → ∀ b, AR σ k b = AR σ' k b) ∧ takenS σ p (nI m, nI 1) = false ∧ qWorn (eP σ' p) = 0 ∧ ∀ q, m ≤ q → q < m + qWorn (eP σ p) → takenS σ' p (nI q, nI 1) = true := by
  have h99 := (hi.okp hp).2.2.2.2.2.2.1
  have e0 : o_mend σ (nI p) (nI m) = if qWorn (eP σ p) = 0 ∨ 10 ≤ (qMend (eP σ p)).length then .inl eISE else if takenS σ p (nI m, nI (qWorn (eP σ p))) = true then .inl eISE else .inr (nI (qWorn (eP σ p)), wP σ p ((eP σ p).1, (eP σ p).2.1, (eP σ p).2.2.1, (eP σ p).2.2.2.1, 0, qMend (eP σ p) ++ [(nI m, nI (qWorn (eP σ p)))])) := by
    rw [o_mend, pu_ok hi.wf.1 hp, inn_ok (Nat.zero_le _) (by omega) (by decide)]
  by_cases c1 : qWorn (eP σ p) = 0 ∨ 10 ≤ (qMend (eP σ p)).length
  · left; rw [e0, if_pos c1]
  · by_cases c2 : takenS σ p (nI m, nI (qWorn (eP σ p))) = true
    · left; rw [e0, if_neg c1, if_pos c2]
    · right
      have w1 : 1 ≤ qWorn (eP σ p) := Nat.pos_of_ne_zero (fun z => c1 (Or.inl z))
      have hk : takenS σ p (nI m, nI (qWorn (eP σ p))) = false := Bool.eq_false_iff.mpr c2
      have e : o_mend σ (nI p) (nI m) = .inr (nI (qWorn (eP σ p)), wP σ p ((eP σ p).1, (eP σ p).2.1, (eP σ p).2.2.1, (eP σ p).2.2.2.1, 0, qMend (eP σ p) ++ [(nI m, nI (qWorn (eP σ p)))])) := by
        rw [e0, if_neg c1, if_neg c2]
      obtain ⟨v1, v2, v3, v4, v5, v6⟩ := hi.2
      have om : okM (nI m, nI (qWorn (eP σ p))) := ⟨m, qWorn (eP σ p), hm, w1, by omega, rfl⟩
      refine ⟨_, w1, e, ⟨⟨wx_mend hi.1 _ _ _ _ e, v1, v2, v3, fun i hq w hw => ?_, v5, fun i j hq hj hc w hw => ?_⟩, rfl, rfl, rfl⟩, ar_same rfl rfl rfl, taken_sub hi hp (Nat.le_refl _) (by omega) (by omega) hk, ?_, fun q h1 h2 => ?_⟩
      · have hw' : w ∈ qMend (upt (eP σ) p ((eP σ p).1, (eP σ p).2.1, (eP σ p).2.2.1, (eP σ p).2.2.2.1, 0, qMend (eP σ p) ++ [(nI m, nI (qWorn (eP σ p)))]) i) := hw
        by_cases z : i = p
        · subst z
          rw [upt_s] at hw'
          rcases List.mem_append.mp hw' with y | y
          · exact v4 i hq w y
          · rw [List.mem_singleton.mp y]; exact om
        · rw [upt_n _ _ z] at hw'
          exact v4 i hq w hw'
      · have hw' : w ∈ qMend (upt (eP σ) p ((eP σ p).1, (eP σ p).2.1, (eP σ p).2.2.1, (eP σ p).2.2.2.1, 0, qMend (eP σ p) ++ [(nI m, nI (qWorn (eP σ p)))]) i) := hw
        have hc' : tCast (eS σ j) i = true := hc
        show meetS w (tSpan (eS σ j)) = false
        by_cases z : i = p
        · subst z
          rw [upt_s] at hw'
          rcases List.mem_append.mp hw' with y | y
          · exact v6 i j hq hj hc' w y
          · rw [List.mem_singleton.mp y, meet_comm]
            exact (no_tk hk).1 j hj hc'
        · rw [upt_n _ _ z] at hw'
          exact v6 i j hq hj hc' w hw'
      · show qWorn (upt (eP σ) p _ p) = 0
        rw [upt_s]
      · refine taken_iff.mpr (Or.inr ⟨(nI m, nI (qWorn (eP σ p))), ?_, ?_⟩)
        · show _ ∈ qMend (upt (eP σ) p _ p)
          rw [upt_s]
          exact List.mem_append.mpr (Or.inr (List.mem_singleton.mpr rfl))
        · rw [meet_nI (by omega) (by omega)]
          omega
theorem s_show (hi : Inv σ) {m n : Nat} (h4 : eM σ < 4) (hm : m ≤ 400) (hn : 1 ≤ n) (hn2 : n ≤ 100) : ∃ σ', o_show σ (nI m) (nI n) = .inr (nI (eM σ), σ') ∧ Inv σ' ∧ eN σ' = eN σ ∧ eM σ' = eM σ + 1 ∧ ePaid σ' = ePaid σ ∧ ∀ k, k < 8 → ∀ b, u2 (u2 (u2 (AR σ) 3 (eM σ) (nI m)) 4 (eM σ) (nI n)) 6 (eM σ) (nI 50) k b = AR σ' k b := by
  have e : o_show σ (nI m) (nI n) = .inr (nI (eM σ), (σ.1, (eM σ + 1, upt (eS σ) (eM σ) ((nI m, nI n), (fun _ => false), 50, 0, false)), σ.2.2)) := by
    rw [o_show, inn_ok (Nat.zero_le _) (by omega) (by decide), inn_ok hn (by omega) (by decide), if_pos (by omega)]
  obtain ⟨v1, v2, v3, v4, v5, v6⟩ := hi.2
  have z0 := hi.1.2.2 (eM σ) (Nat.le_refl _)
  refine ⟨_, e, ⟨wx_show hi.1 _ _ _ _ e, v1, (by show eM σ + 1 ≤ 4; omega), fun j hj => ?_, v4, fun i a b ha hb hab ca cb => ?_, fun i j hq hj hc w hw => ?_⟩, rfl, rfl, rfl, fun k hk b => ?_⟩
  · have hj' : j < eM σ + 1 := hj
    show okT (upt (eS σ) (eM σ) ((nI m, nI n), (fun _ => false), 50, 0, false) j)
    by_cases c : j = eM σ
    · rw [c, upt_s]
      exact ⟨⟨m, n, hm, hn, hn2, rfl⟩, 0, rfl, Nat.zero_le _⟩
    · rw [upt_n _ _ c]; exact v3 j (by omega)
  · have ha' : a < eM σ + 1 := ha
    have hb' : b < eM σ + 1 := hb
    have ca' : tCast (upt (eS σ) (eM σ) ((nI m, nI n), (fun _ => false), 50, 0, false) a) i = true := ca
    have cb' : tCast (upt (eS σ) (eM σ) ((nI m, nI n), (fun _ => false), 50, 0, false) b) i = true := cb
    show meetS (tSpan (upt (eS σ) (eM σ) ((nI m, nI n), (fun _ => false), 50, 0, false) a)) (tSpan (upt (eS σ) (eM σ) ((nI m, nI n), (fun _ => false), 50, 0, false) b)) = false
    by_cases c1 : a = eM σ
    · rw [c1, upt_s] at ca'; cases ca'
    · by_cases c2 : b = eM σ
      · rw [c2, upt_s] at cb'; cases cb'
      · rw [upt_n _ _ c1] at ca'
        rw [upt_n _ _ c2] at cb'
        rw [upt_n _ _ c1, upt_n _ _ c2]
        exact v5 i a b (by omega) (by omega) hab ca' cb'
  · have hj' : j < eM σ + 1 := hj
    have hc' : tCast (upt (eS σ) (eM σ) ((nI m, nI n), (fun _ => false), 50, 0, false) j) i = true := hc
    show meetS w (tSpan (upt (eS σ) (eM σ) ((nI m, nI n), (fun _ => false), 50, 0, false) j)) = false
    by_cases c1 : j = eM σ
    · rw [c1, upt_s] at hc'; cases hc'
    · rw [upt_n _ _ c1] at hc'
      rw [upt_n _ _ c1]
      exact v6 i j hq (by omega) hc' w hw
  · by_cases c : b = eM σ
    · subst c
      match k, hk with
      | 0, _ => rw [u2_n _ _ (fun z => absurd z.1 (by decide)), u2_n _ _ (fun z => absurd z.1 (by decide)), u2_n _ _ (fun z => absurd z.1 (by decide))]; rfl
      | 1, _ => rw [u2_n _ _ (fun z => absurd z.1 (by decide)), u2_n _ _ (fun z => absurd z.1 (by decide)), u2_n _ _ (fun z => absurd z.1 (by decide))]; rfl
      | 2, _ => rw [u2_n _ _ (fun z => absurd z.1 (by decide)), u2_n _ _ (fun z => absurd z.1 (by decide)), u2_n _ _ (fun z => absurd z.1 (by decide))]; rfl
      | 3, _ =>
        rw [u2_n _ _ (fun z => absurd z.1 (by decide)), u2_n _ _ (fun z => absurd z.1 (by decide)), u2_s]
        show _ = (tSpan (upt (eS σ) (eM σ) ((nI m, nI n), (fun _ => false), 50, 0, false) (eM σ))).1
        rw [upt_s]
      | 4, _ =>
        rw [u2_n _ _ (fun z => absurd z.1 (by decide)), u2_s]
        show _ = (tSpan (upt (eS σ) (eM σ) ((nI m, nI n), (fun _ => false), 50, 0, false) (eM σ))).2
        rw [upt_s]
      | 5, _ =>
        rw [u2_n _ _ (fun z => absurd z.1 (by decide)), u2_n _ _ (fun z => absurd z.1 (by decide)), u2_n _ _ (fun z => absurd z.1 (by decide))]
        show nI (cnt (tCast (eS σ (eM σ))) 8) = nI (cnt (tCast (upt (eS σ) (eM σ) ((nI m, nI n), (fun _ => false), 50, 0, false) (eM σ))) 8)
        rw [upt_s, z0]; rfl
      | 6, _ =>
        rw [u2_s]
        show _ = (if eM σ < eM σ + 1 then (if tDone (upt (eS σ) (eM σ) ((nI m, nI n), (fun _ => false), 50, 0, false) (eM σ)) = true then 0 else nI (tLeft (upt (eS σ) (eM σ) ((nI m, nI n), (fun _ => false), 50, 0, false) (eM σ)))) else 0)
        rw [upt_s, if_pos (Nat.lt_succ_self _)]; rfl
      | 7, _ =>
        rw [u2_n _ _ (fun z => absurd z.1 (by decide)), u2_n _ _ (fun z => absurd z.1 (by decide)), u2_n _ _ (fun z => absurd z.1 (by decide))]
        show (if tDone (eS σ (eM σ)) = true then 0 else tTak (eS σ (eM σ))) = (if tDone (upt (eS σ) (eM σ) ((nI m, nI n), (fun _ => false), 50, 0, false) (eM σ)) = true then 0 else tTak (upt (eS σ) (eM σ) ((nI m, nI n), (fun _ => false), 50, 0, false) (eM σ)))
        rw [upt_s, z0]; rfl
      | n + 8, h => omega
    · rw [u2_n _ _ (fun z => c z.2), u2_n _ _ (fun z => c z.2), u2_n _ _ (fun z => c z.2)]
      match k, hk with
      | 0, _ => rfl
      | 1, _ => rfl
      | 2, _ => rfl
      | 3, _ => exact (congrArg (fun s : SS => (tSpan s).1) (upt_n (eS σ) _ c)).symm
      | 4, _ => exact (congrArg (fun s : SS => (tSpan s).2) (upt_n (eS σ) _ c)).symm
      | 5, _ => exact (congrArg (fun s : SS => nI (cnt (tCast s) 8)) (upt_n (eS σ) _ c)).symm
      | 6, _ =>
        show (if b < eM σ then (if tDone (eS σ b) = true then 0 else nI (tLeft (eS σ b))) else 0) = (if b < eM σ + 1 then (if tDone (upt (eS σ) (eM σ) ((nI m, nI n), (fun _ => false), 50, 0, false) b) = true then 0 else nI (tLeft (upt (eS σ) (eM σ) ((nI m, nI n), (fun _ => false), 50, 0, false) b))) else 0)
        rw [upt_n _ _ c]
        by_cases d : b < eM σ
        · rw [if_pos d, if_pos (show b < eM σ + 1 by omega)]
        · rw [if_neg d, if_neg (show ¬ b < eM σ + 1 by omega)]
      | 7, _ => exact (congrArg (fun s : SS => if tDone s = true then 0 else tTak s) (upt_n (eS σ) _ c)).symm
      | n + 8, h => omega
theorem s_puppet (hi : Inv σ) {b n : Nat} (h5 : eN σ < 5) (hb : b ≤ 999) (hn : n ≤ 1500) : ∃ σ', o_puppet σ (nI b) (nI n) = .inr (nI (eN σ), σ') ∧ Inv σ' ∧ eN σ' = eN σ + 1 ∧ eM σ' = eM σ ∧ ePaid σ' = ePaid σ ∧ o_track σ' (nI (eN σ)) (nI 0) = .inr (nI (1000 * b), σ') ∧ o_worn σ' (nI (eN σ)) = .inr (nI 0, σ') ∧ ∀ k, k < 8 → ∀ q, u2 (u2 (AR σ) 0 (eN σ) (nI b)) 1 (eN σ) (nI n) k q = AR σ' k q := by
  have e : o_puppet σ (nI b) (nI n) = .inr (nI (eN σ), ((eN σ + 1, upt (eP σ) (eN σ) (nI b, nI n, [], -1, 0, [])), σ.2)) := by
    rw [o_puppet, inn_ok (Nat.zero_le _) hb (by decide), inn_ok (Nat.zero_le _) hn (by decide), if_pos (by omega)]
  obtain ⟨v1, v2, v3, v4, v5, v6⟩ := hi.2
  have z0 := hi.1.2.1 (eN σ) (Nat.le_refl _)
  have hcz : ∀ j, j < eM σ → tCast (eS σ j) (eN σ) = false := fun j hj => by
    rw [Bool.eq_false_iff]
    intro z
    exact absurd ((hi.oks hj).1 _ z) (Nat.lt_irrefl _)
  have eP1 : upt (eP σ) (eN σ) (nI b, nI n, [], -1, 0, []) (eN σ) = (nI b, nI n, [], -1, 0, []) := upt_s _ _ _
  have hwx := wx_puppet hi.1 _ _ _ _ e
  have h8 : eN σ + 1 ≤ 8 := by omega
  refine ⟨_, e, ⟨hwx, (by show eN σ + 1 ≤ 5; omega), v2, v3, fun i hq w hw => ?_, v5, fun i j hq hj hc w hw => ?_⟩, rfl, rfl, rfl, ?_, ?_, fun k hk q => ?_⟩
  · have hq' : i < eN σ + 1 := hq
    have hw' : w ∈ qMend (upt (eP σ) (eN σ) (nI b, nI n, [], -1, 0, []) i) := hw
    by_cases c : i = eN σ
    · rw [c, eP1] at hw'; cases hw'
    · rw [upt_n _ _ c] at hw'; exact v4 i (by omega) w hw'
  · have hq' : i < eN σ + 1 := hq
    have hc' : tCast (eS σ j) i = true := hc
    have hw' : w ∈ qMend (upt (eP σ) (eN σ) (nI b, nI n, [], -1, 0, []) i) := hw
    by_cases c : i = eN σ
    · rw [c, eP1] at hw'; cases hw'
    · rw [upt_n _ _ c] at hw'; exact v6 i j (by omega) hj hc' w hw'
  · rw [o_track, pu_ok (σ := ((eN σ + 1, upt (eP σ) (eN σ) (nI b, nI n, [], -1, 0, [])), σ.2)) h8 (Nat.lt_succ_self _), inn_ok (Nat.zero_le _) (by decide) (by decide)]
    have et : trk (qBar (upt (eP σ) (eN σ) (nI b, nI n, [], -1, 0, []) (eN σ))) (qKeys (upt (eP σ) (eN σ) (nI b, nI n, [], -1, 0, []) (eN σ))) (nI 0) = (nI b, nI 0) := by
      rw [eP1]; exact trk_none rfl
    show Sum.inr (nI 1000 * (trk (qBar (upt (eP σ) (eN σ) (nI b, nI n, [], -1, 0, []) (eN σ))) (qKeys (upt (eP σ) (eN σ) (nI b, nI n, [], -1, 0, []) (eN σ))) (nI 0)).1 + (trk (qBar (upt (eP σ) (eN σ) (nI b, nI n, [], -1, 0, []) (eN σ))) (qKeys (upt (eP σ) (eN σ) (nI b, nI n, [], -1, 0, []) (eN σ))) (nI 0)).2, _) = _
    rw [et, pk_mul, nI_add, Nat.add_zero]
  · rw [o_worn, pu_ok (σ := ((eN σ + 1, upt (eP σ) (eN σ) (nI b, nI n, [], -1, 0, [])), σ.2)) h8 (Nat.lt_succ_self _)]
    show Sum.inr (nI (qWorn (upt (eP σ) (eN σ) (nI b, nI n, [], -1, 0, []) (eN σ))), _) = _
    rw [eP1]
  · by_cases c : q = eN σ
    · subst c
      match k, hk with
      | 0, _ =>
        rw [u2_n _ _ (fun z => absurd z.1 (by decide)), u2_s]
        show _ = qBar (upt (eP σ) (eN σ) (nI b, nI n, [], -1, 0, []) (eN σ))
        rw [eP1]
      | 1, _ =>
        rw [u2_s]
        show _ = qLen (upt (eP σ) (eN σ) (nI b, nI n, [], -1, 0, []) (eN σ))
        rw [eP1]
      | 2, _ =>
        rw [u2_n _ _ (fun z => absurd z.1 (by decide)), u2_n _ _ (fun z => absurd z.1 (by decide))]
        show nI (qKeys (eP σ (eN σ))).length = nI (qKeys (upt (eP σ) (eN σ) (nI b, nI n, [], -1, 0, []) (eN σ))).length
        rw [eP1, z0]; rfl
      | 3, _ => rw [u2_n _ _ (fun z => absurd z.1 (by decide)), u2_n _ _ (fun z => absurd z.1 (by decide))]; rfl
      | 4, _ => rw [u2_n _ _ (fun z => absurd z.1 (by decide)), u2_n _ _ (fun z => absurd z.1 (by decide))]; rfl
      | 5, _ => rw [u2_n _ _ (fun z => absurd z.1 (by decide)), u2_n _ _ (fun z => absurd z.1 (by decide))]; rfl
      | 6, _ => rw [u2_n _ _ (fun z => absurd z.1 (by decide)), u2_n _ _ (fun z => absurd z.1 (by decide))]; rfl
      | 7, _ => rw [u2_n _ _ (fun z => absurd z.1 (by decide)), u2_n _ _ (fun z => absurd z.1 (by decide))]; rfl
      | n + 8, h => omega
    · rw [u2_n _ _ (fun z => c z.2), u2_n _ _ (fun z => c z.2)]
      match k, hk with
      | 0, _ => exact (congrArg (fun p : PS => qBar p) (upt_n (eP σ) _ c)).symm
      | 1, _ => exact (congrArg (fun p : PS => qLen p) (upt_n (eP σ) _ c)).symm
      | 2, _ => exact (congrArg (fun p : PS => nI (qKeys p).length) (upt_n (eP σ) _ c)).symm
      | 3, _ => rfl
      | 4, _ => rfl
      | 5, _ => rfl
      | 6, _ => rfl
      | 7, _ => rfl
      | n + 8, h => omega
end Ops2
