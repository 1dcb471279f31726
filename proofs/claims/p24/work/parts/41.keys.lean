/-! ===== keys, as the law sets and cuts them ===== -/
section KeysQ
variable {σ : ST}
theorem SortK.inj {ks : List K4} (hs : SortK ks) {i j : Nat} {a b : K4} (ha : ks[i]? = some a) (hb : ks[j]? = some b) (e : a.1 = b.1) : i = j := by
  rcases Nat.lt_trichotomy i j with h | h | h
  · have z := hs.lt h ha hb
    rw [Int32.lt_iff_toInt_lt, e] at z
    omega
  · exact h
  · have z := hs.lt h hb ha
    rw [Int32.lt_iff_toInt_lt, e] at z
    omega
theorem hasK_cut {ks : List K4} {f : Int32} (hs : SortK ks) (h : hasK ks f = true) : hasK (ks.eraseIdx (ahead ks f)) f = false := by
  rw [Bool.eq_false_iff]
  intro z
  obtain ⟨k, hk, ek⟩ := hasK_at h
  obtain ⟨k2, hk2, ek2⟩ := hasK_at z
  rw [List.getElem?_eraseIdx] at hk2
  split at hk2
  · have := hs.inj hk2 hk (ek2.trans ek.symm)
    omega
  · have := hs.inj hk2 hk (ek2.trans ek.symm)
    omega
theorem put_kAt {ks : List K4} {kk : K4} : ahead (putK ks kk) kk.1 = ahead ks kk.1 ∧ (putK ks kk)[ahead ks kk.1]? = some kk := by
  have hal := ahead_le ks kk.1
  have hsp := (ahead_spec ks kk.1).1
  have irr : ¬ kk.1 < kk.1 := fun z => by
    rw [Int32.lt_iff_toInt_lt] at z
    omega
  by_cases c : hasK ks kk.1 = true
  · obtain ⟨k0, h0, e0⟩ := hasK_at c
    have ha : ahead ks kk.1 < ks.length := (List.getElem?_eq_some_iff.mp h0).1
    rw [show putK ks kk = ks.set (ahead ks kk.1) kk from if_pos c]
    have g : (ks.set (ahead ks kk.1) kk)[ahead ks kk.1]? = some kk := List.getElem?_set_self ha
    refine ⟨ahead_eq (by rw [List.length_set]; exact hal) (fun j k hj hk => ?_) (fun k hk => ?_), g⟩
    · rw [List.getElem?_set_ne (by omega)] at hk
      exact hsp j k hj hk
    · rw [g] at hk
      cases hk
      exact irr
  · rw [show putK ks kk = ks.insertIdx (ahead ks kk.1) kk from if_neg c]
    have g : (ks.insertIdx (ahead ks kk.1) kk)[ahead ks kk.1]? = some kk := by
      rw [insG hal, if_neg (Nat.lt_irrefl _), if_pos rfl]
    refine ⟨ahead_eq (by rw [List.length_insertIdx, if_pos hal]; omega) (fun j k hj hk => ?_) (fun k hk => ?_), g⟩
    · rw [insG hal, if_pos hj] at hk
      exact hsp j k hj hk
    · rw [g] at hk
      cases hk
      exact irr
theorem put_len (ks : List K4) (kk : K4) : ((putK ks kk).length = ks.length ∧ hasK ks kk.1 = true) ∨ (putK ks kk).length = ks.length + 1 ∧ ¬ hasK ks kk.1 = true := by
  by_cases c : hasK ks kk.1 = true
  · left
    rw [show putK ks kk = ks.set (ahead ks kk.1) kk from if_pos c, List.length_set]
    exact ⟨rfl, c⟩
  · right
    rw [show putK ks kk = ks.insertIdx (ahead ks kk.1) kk from if_neg c, List.length_insertIdx, if_pos (ahead_le _ _)]
    exact ⟨rfl, c⟩
theorem s_key (hi : Inv σ) {p f u v e : Nat} (hp : p < eN σ) (hf : f ≤ 999) (hu : u ≤ 999) (hv : v ≤ 999) (he : e ≤ 3) : ∃ L : Nat, L ≤ 12 ∧ AR σ 2 p = nI L ∧ ((o_key σ (nI p) (nI f) (nI u) (nI v) (nI e) = .inl eISE ∧ L = 12) ∨ ∃ (σ' : ST) (K : Nat), o_key σ (nI p) (nI f) (nI u) (nI v) (nI e) = .inr (nI K, σ') ∧ (K = L ∨ K = L + 1) ∧ 1 ≤ K ∧ K ≤ 12 ∧ Nx σ σ' ∧ o_track σ' (nI p) (nI f) = .inr (nI (1000 * u + v), σ') ∧ ∀ k, k < 8 → ∀ b, u2 (AR σ) 2 p (nI K) k b = AR σ' k b) := by
  have hok := hi.okp hp
  have hs : SortK (qKeys (eP σ p)) := hok.2.2.1
  have h12 : (qKeys (eP σ p)).length ≤ 12 := hok.2.2.2.1
  have e0 : o_key σ (nI p) (nI f) (nI u) (nI v) (nI e) = if hasK (qKeys (eP σ p)) (nI f) = false ∧ 12 ≤ (qKeys (eP σ p)).length then .inl eISE else .inr (nI (putK (qKeys (eP σ p)) (nI f, nI u, nI v, nI e)).length, wP σ p ((eP σ p).1, (eP σ p).2.1, putK (qKeys (eP σ p)) (nI f, nI u, nI v, nI e), (eP σ p).2.2.2)) := by
    rw [o_key, pu_ok hi.wf.1 hp, inn_ok (Nat.zero_le _) hf (by decide), inn_ok (Nat.zero_le _) hu (by decide), inn_ok (Nat.zero_le _) hv (by decide), inn_ok (Nat.zero_le _) he (by decide)]
  refine ⟨(qKeys (eP σ p)).length, h12, rfl, ?_⟩
  by_cases c : hasK (qKeys (eP σ p)) (nI f) = false ∧ 12 ≤ (qKeys (eP σ p)).length
  · left
    exact ⟨by rw [e0, if_pos c], by omega⟩
  · right
    have ee := e0.trans (if_neg c)
    have hl := putK_len (k := (nI f, nI u, nI v, nI e)) c h12
    have hpl := put_len (qKeys (eP σ p)) (nI f, nI u, nI v, nI e)
    have hpa := put_kAt (ks := qKeys (eP σ p)) (kk := (nI f, nI u, nI v, nI e))
    have eU : upt (eP σ) p ((eP σ p).1, (eP σ p).2.1, putK (qKeys (eP σ p)) (nI f, nI u, nI v, nI e), (eP σ p).2.2.2) p = ((eP σ p).1, (eP σ p).2.1, putK (qKeys (eP σ p)) (nI f, nI u, nI v, nI e), (eP σ p).2.2.2) := upt_s _ _ _
    refine ⟨_, _, ee, ?_, ?_, hl, ⟨⟨wx_key hi.1 _ _ _ _ _ _ _ ee, hi.2.pup rfl⟩, rfl, rfl, rfl⟩, ?_, ar_pup1 (by decide) ?_ (fun k h3 hk => ?_)⟩
    · rcases hpl with ⟨h, -⟩ | ⟨h, -⟩ <;> omega
    · have := (List.getElem?_eq_some_iff.mp hpa.2).1
      omega
    · rw [o_track, pu_ok (σ := wP σ p ((eP σ p).1, (eP σ p).2.1, putK (qKeys (eP σ p)) (nI f, nI u, nI v, nI e), (eP σ p).2.2.2)) hi.wf.1 hp, inn_ok (Nat.zero_le _) (by omega) (by decide)]
      have et : trk (qBar (eP σ p)) (putK (qKeys (eP σ p)) (nI f, nI u, nI v, nI e)) (nI f) = (nI u, nI v) := trk_hit (hs.put ⟨f, hf, rfl⟩) (by omega) hpa.1 hpa.2 rfl rfl he
      show Sum.inr (nI 1000 * (trk (qBar (upt (eP σ) p ((eP σ p).1, (eP σ p).2.1, putK (qKeys (eP σ p)) (nI f, nI u, nI v, nI e), (eP σ p).2.2.2) p)) (qKeys (upt (eP σ) p ((eP σ p).1, (eP σ p).2.1, putK (qKeys (eP σ p)) (nI f, nI u, nI v, nI e), (eP σ p).2.2.2) p)) (nI f)).1 + (trk (qBar (upt (eP σ) p ((eP σ p).1, (eP σ p).2.1, putK (qKeys (eP σ p)) (nI f, nI u, nI v, nI e), (eP σ p).2.2.2) p)) (qKeys (upt (eP σ) p ((eP σ p).1, (eP σ p).2.1, putK (qKeys (eP σ p)) (nI f, nI u, nI v, nI e), (eP σ p).2.2.2) p)) (nI f)).2, _) = _
      rw [eU, et, pk_mul, nI_add]
    · show nI (qKeys (upt (eP σ) p _ p)).length = _
      rw [upt_s]
    · match k, h3, hk with
      | 0, _, _ => show qBar (upt (eP σ) p _ p) = _; rw [upt_s]; rfl
      | 1, _, _ => show qLen (upt (eP σ) p _ p) = _; rw [upt_s]; rfl
      | 2, _, h => exact absurd rfl h
      | n + 3, h, _ => omega
theorem s_cut (hi : Inv σ) {p : Nat} {f : Int32} (hp : p < eN σ) : o_cut σ (nI p) f = .inl eNSE ∨ ∃ (σ' : ST) (L : Nat), AR σ 2 p = nI L ∧ 1 ≤ L ∧ L ≤ 12 ∧ o_cut σ (nI p) f = .inr (nI (L - 1), σ') ∧ Nx σ σ' ∧ o_cut σ' (nI p) f = .inl eNSE ∧ ∀ k, k < 8 → ∀ b, u2 (AR σ) 2 p (nI (L - 1)) k b = AR σ' k b := by
  have hok := hi.okp hp
  have hs : SortK (qKeys (eP σ p)) := hok.2.2.1
  have h12 : (qKeys (eP σ p)).length ≤ 12 := hok.2.2.2.1
  have e0 : o_cut σ (nI p) f = if hasK (qKeys (eP σ p)) f = true then .inr (nI ((qKeys (eP σ p)).eraseIdx (ahead (qKeys (eP σ p)) f)).length, wP σ p ((eP σ p).1, (eP σ p).2.1, (qKeys (eP σ p)).eraseIdx (ahead (qKeys (eP σ p)) f), (eP σ p).2.2.2)) else .inl eNSE := by
    rw [o_cut, pu_ok hi.wf.1 hp]
  by_cases c : hasK (qKeys (eP σ p)) f = true
  · right
    have ee := e0.trans (if_pos c)
    obtain ⟨k0, h0, -⟩ := hasK_at c
    have ha : ahead (qKeys (eP σ p)) f < (qKeys (eP σ p)).length := (List.getElem?_eq_some_iff.mp h0).1
    have el : ((qKeys (eP σ p)).eraseIdx (ahead (qKeys (eP σ p)) f)).length = (qKeys (eP σ p)).length - 1 := by
      rw [List.length_eraseIdx, if_pos ha]
    have eU : upt (eP σ) p ((eP σ p).1, (eP σ p).2.1, (qKeys (eP σ p)).eraseIdx (ahead (qKeys (eP σ p)) f), (eP σ p).2.2.2) p = ((eP σ p).1, (eP σ p).2.1, (qKeys (eP σ p)).eraseIdx (ahead (qKeys (eP σ p)) f), (eP σ p).2.2.2) := upt_s _ _ _
    refine ⟨_, (qKeys (eP σ p)).length, rfl, by omega, h12, (by rw [el] at ee; exact ee), ⟨⟨wx_cutKey hi.1 _ _ _ _ ee, hi.2.pup rfl⟩, rfl, rfl, rfl⟩, ?_, ar_pup1 (by decide) ?_ (fun k h3 hk => ?_)⟩
    · rw [o_cut, pu_ok (σ := wP σ p ((eP σ p).1, (eP σ p).2.1, (qKeys (eP σ p)).eraseIdx (ahead (qKeys (eP σ p)) f), (eP σ p).2.2.2)) hi.wf.1 hp]
      refine if_neg ?_
      show ¬ hasK (qKeys (upt (eP σ) p ((eP σ p).1, (eP σ p).2.1, (qKeys (eP σ p)).eraseIdx (ahead (qKeys (eP σ p)) f), (eP σ p).2.2.2) p)) f = true
      rw [eU]
      show ¬ hasK ((qKeys (eP σ p)).eraseIdx (ahead (qKeys (eP σ p)) f)) f = true
      rw [hasK_cut hs c]
      exact Bool.noConfusion
    · show nI (qKeys (upt (eP σ) p _ p)).length = _
      rw [upt_s, ← el]
    · match k, h3, hk with
      | 0, _, _ => show qBar (upt (eP σ) p _ p) = _; rw [upt_s]; rfl
      | 1, _, _ => show qLen (upt (eP σ) p _ p) = _; rw [upt_s]; rfl
      | 2, _, h => exact absurd rfl h
      | n + 3, h, _ => omega
  · left
    rw [e0, if_neg c]
end KeysQ
