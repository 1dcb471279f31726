/-! ===== what holds of the state between two turns of the law ===== -/
def AR (σ : ST) : Nat → Nat → Int32
  | 0 => fun i => qBar (eP σ i)
  | 1 => fun i => qLen (eP σ i)
  | 2 => fun i => nI (qKeys (eP σ i)).length
  | 3 => fun j => (tSpan (eS σ j)).1
  | 4 => fun j => (tSpan (eS σ j)).2
  | 5 => fun j => nI (cnt (tCast (eS σ j)) 8)
  | 6 => fun j => if j < eM σ then (if tDone (eS σ j) = true then 0 else nI (tLeft (eS σ j))) else 0
  | 7 => fun j => if tDone (eS σ j) = true then 0 else tTak (eS σ j)
  | _ => fun _ => 0
/-- a span of the law's: its minute, its minutes -/
def okM (m : Int32 × Int32) : Prop := ∃ b n : Nat, b ≤ 400 ∧ 1 ≤ n ∧ n ≤ 100 ∧ m = (nI b, nI n)
def okT (s : SS) : Prop := okM (tSpan s) ∧ ∃ T : Nat, tTak s = nI T ∧ T ≤ (50 - tLeft s) * 100
def Iv (σ : ST) : Prop := eN σ ≤ 5 ∧ eM σ ≤ 4 ∧ (∀ j, j < eM σ → okT (eS σ j)) ∧ (∀ i, i < eN σ → ∀ m ∈ qMend (eP σ i), okM m) ∧ (∀ i j k, j < eM σ → k < eM σ → j ≠ k → tCast (eS σ j) i = true → tCast (eS σ k) i = true → meetS (tSpan (eS σ j)) (tSpan (eS σ k)) = false) ∧ ∀ i j, i < eN σ → j < eM σ → tCast (eS σ j) i = true → ∀ m ∈ qMend (eP σ i), meetS m (tSpan (eS σ j)) = false
def Inv (σ : ST) : Prop := WX σ ∧ Iv σ
theorem u2_id {A : Nat → Nat → Int32} {k i : Nat} {v : Int32} (h : A k i = v) : u2 A k i v = A := by
  funext j b
  by_cases c : j = k ∧ b = i
  · rw [c.1, c.2, u2_s]; exact h.symm
  · rw [u2_n _ _ c]
section Inv1
variable {σ : ST}
theorem Inv.wf (hi : Inv σ) : WF σ := hi.1.1
theorem Inv.n5 (hi : Inv σ) : eN σ ≤ 5 := hi.2.1
theorem Inv.m4 (hi : Inv σ) : eM σ ≤ 4 := hi.2.2.1
theorem Inv.okp (hi : Inv σ) {i : Nat} (h : i < eN σ) : okP (eP σ i) := hi.1.1.2.2.1 i h
theorem Inv.oks (hi : Inv σ) {j : Nat} (h : j < eM σ) : okS (eN σ) (eS σ j) := hi.1.1.2.2.2.1 j h
theorem Inv.okt (hi : Inv σ) {j : Nat} (h : j < eM σ) : okT (eS σ j) := hi.2.2.2.1 j h
theorem anyN_iff {f : Nat → Bool} {n : Nat} : anyN f n = true ↔ ∃ j, j < n ∧ f j = true := by
  refine ⟨fun h => ?_, fun ⟨j, h1, h2⟩ => anyN_yes h1 h2⟩
  induction n with
  | zero => cases h
  | succ n ih =>
    rw [anyN, Bool.or_eq_true] at h
    rcases h with h | h
    · obtain ⟨j, h1, h2⟩ := ih h
      exact ⟨j, by omega, h2⟩
    · exact ⟨n, by omega, h⟩
theorem meet_nI {a b c d : Nat} (h : a + b < 2 ^ 31) (h' : c + d < 2 ^ 31) : meetS (nI a, nI b) (nI c, nI d) = true ↔ a < c + d ∧ c < a + b := by
  simp only [meetS, nI_add, Bool.and_eq_true, decide_eq_true_eq]
  rw [nI_ltI (by omega) (by omega), nI_ltI (by omega) (by omega)]
theorem meet_comm (a b : Int32 × Int32) : meetS a b = meetS b a := Bool.and_comm _ _
theorem taken_iff {i : Nat} {w : Int32 × Int32} : takenS σ i w = true ↔ (∃ j, j < eM σ ∧ tCast (eS σ j) i = true ∧ meetS (tSpan (eS σ j)) w = true) ∨ ∃ m ∈ qMend (eP σ i), meetS m w = true := by
  rw [takenS, Bool.or_eq_true, anyN_iff, List.any_eq_true]
  simp only [Bool.and_eq_true]
theorem meet_sub {w : Int32 × Int32} {b n m : Nat} (hw : okM w) (h1 : b ≤ m) (h2 : m < b + n) (h3 : b + n < 100000) (h : meetS w (nI m, nI 1) = true) : meetS w (nI b, nI n) = true := by
  obtain ⟨c, d, k1, k2, k3, rfl⟩ := hw
  rw [meet_nI (by omega) (by omega)] at h ⊢
  omega
theorem taken_sub (hi : Inv σ) {i b n m : Nat} (hn : i < eN σ) (h1 : b ≤ m) (h2 : m < b + n) (h3 : b + n < 100000) (h : takenS σ i (nI b, nI n) = false) : takenS σ i (nI m, nI 1) = false := by
  rw [Bool.eq_false_iff] at h ⊢
  intro z
  refine h (taken_iff.mpr ?_)
  rcases taken_iff.mp z with ⟨j, j1, j2, j3⟩ | ⟨w, w1, w2⟩
  · exact Or.inl ⟨j, j1, j2, meet_sub (hi.okt j1).1 h1 h2 h3 j3⟩
  · exact Or.inr ⟨w, w1, meet_sub (hi.2.2.2.2.1 i hn w w1) h1 h2 h3 w2⟩
theorem pu_ok (h8 : eN σ ≤ 8) {i : Nat} (hi : i < eN σ) (f : Nat → OR) : oPu σ (nI i) f = f i := oPu_ok ⟨nI_ge0 (by omega), nI_lt hi (by omega)⟩ (nI_clamp (by omega)) f
theorem sh_ok (h6 : eM σ ≤ 6) {j : Nat} (hj : j < eM σ) (f : Nat → OR) : oSh σ (nI j) f = f j := oSh_ok ⟨nI_ge0 (by omega), nI_lt hj (by omega)⟩ (nI_clamp (by omega)) f
theorem inn_ok {a lo hi : Nat} {o : OR} (h : lo ≤ a) (h' : a ≤ hi) (hh : hi < 2 ^ 31) : oIn (nI a) (nI lo) (nI hi) o = o := oIn_ok ⟨nI_le h (by omega), nI_le h' hh⟩ o
theorem inB_ex {v : Int32} (h : inB v) : ∃ n : Nat, n ≤ 999 ∧ v = nI n := by
  obtain ⟨h1, h2⟩ := h
  have h0 : ¬ v < 0 := by
    rw [Int32.lt_iff_toInt_lt]
    have : (0 : Int32).toInt = 0 := rfl
    omega
  obtain ⟨j, hj, rfl⟩ := nI_of h0
  rw [nI_toInt hj] at h2
  exact ⟨j, by omega, rfl⟩
theorem e_worn (hi : Inv σ) {p : Nat} (hp : p < eN σ) : o_worn σ (nI p) = .inr (nI (qWorn (eP σ p)), σ) := pu_ok hi.wf.1 hp _
theorem e_isBusy (hi : Inv σ) {p m : Nat} (hp : p < eN σ) (hm : m ≤ 200000) : o_isBusy σ (nI p) (nI m) = .inr (bI (takenS σ p (nI m, nI 1)), σ) := by
  rw [o_isBusy, pu_ok hi.wf.1 hp]
  exact inn_ok (Nat.zero_le _) hm (by decide)
theorem e_income : o_income σ = .inr (ePaid σ, σ) := rfl
theorem e_track (hi : Inv σ) {p F : Nat} (hp : p < eN σ) (hF : F ≤ 1999) : ∃ X Y : Nat, X ≤ 999 ∧ Y ≤ 999 ∧ trk (qBar (eP σ p)) (qKeys (eP σ p)) (nI F) = (nI X, nI Y) ∧ o_track σ (nI p) (nI F) = .inr (nI (1000 * X + Y), σ) := by
  obtain ⟨b1, b2⟩ := trk_bd (hi.okp hp) (nI F)
  obtain ⟨X, hX, eX⟩ := inB_ex b1
  obtain ⟨Y, hY, eY⟩ := inB_ex b2
  refine ⟨X, Y, hX, hY, Prod.ext eX eY, ?_⟩
  rw [o_track, pu_ok hi.wf.1 hp]
  refine (inn_ok (Nat.zero_le _) hF (by decide)).trans ?_
  rw [eX, eY, pk_mul, nI_add]
end Inv1
/-- the state goes on to another; who there is and what is paid stays -/
def Nx (σ σ' : ST) : Prop := Inv σ' ∧ eN σ' = eN σ ∧ eM σ' = eM σ ∧ ePaid σ' = ePaid σ
section Inv2
variable {σ : ST}
theorem Iv.pup (hv : Iv σ) {i : Nat} {p' : PS} (hm : qMend p' = qMend (eP σ i)) : Iv (wP σ i p') := by
  obtain ⟨v1, v2, v3, v4, v5, v6⟩ := hv
  have e : ∀ q, qMend (upt (eP σ) i p' q) = qMend (eP σ q) := fun q => by
    by_cases c : q = i
    · subst c; rw [upt_s]; exact hm
    · rw [upt_n _ _ c]
  exact ⟨v1, v2, v3, fun q hq m hm => v4 q hq m ((e q) ▸ hm), v5, fun q j hq hj hc m hm => v6 q j hq hj hc m ((e q) ▸ hm)⟩
theorem ar_pup {i : Nat} {p' : PS} : ∀ k, k < 8 → ∀ b, AR (wP σ i p') k b = if b = i then (match k with | 0 => qBar p' | 1 => qLen p' | 2 => nI (qKeys p').length | _ => AR σ k b) else AR σ k b := by
  intro k hk b
  by_cases c : b = i
  · subst c
    rw [if_pos rfl]
    match k, hk with
    | 0, _ => show qBar (upt (eP σ) b p' b) = _; rw [upt_s]; rfl
    | 1, _ => show qLen (upt (eP σ) b p' b) = _; rw [upt_s]; rfl
    | 2, _ => show nI (qKeys (upt (eP σ) b p' b)).length = _; rw [upt_s]; rfl
    | 3, _ => rfl
    | 4, _ => rfl
    | 5, _ => rfl
    | 6, _ => rfl
    | 7, _ => rfl
    | n + 8, h => omega
  · rw [if_neg c]
    match k, hk with
    | 0, _ => show qBar (upt (eP σ) i p' b) = _; rw [upt_n _ _ c]; rfl
    | 1, _ => show qLen (upt (eP σ) i p' b) = _; rw [upt_n _ _ c]; rfl
    | 2, _ => show nI (qKeys (upt (eP σ) i p' b)).length = _; rw [upt_n _ _ c]; rfl
    | 3, _ => rfl
    | 4, _ => rfl
    | 5, _ => rfl
    | 6, _ => rfl
    | 7, _ => rfl
    | n + 8, h => omega
/-- one row is written at one place -/
theorem ar_one {σ' : ST} {k0 i : Nat} {v : Int32} (h1 : AR σ' k0 i = v) (h2 : ∀ k, k < 8 → ∀ b, ¬ (k = k0 ∧ b = i) → AR σ' k b = AR σ k b) : ∀ k, k < 8 → ∀ b, u2 (AR σ) k0 i v k b = AR σ' k b := by
  intro k hk b
  by_cases c : k = k0 ∧ b = i
  · rw [c.1, c.2, u2_s]; exact h1.symm
  · rw [u2_n _ _ c]; exact (h2 k hk b c).symm
theorem ar_pup1 {i : Nat} {p' : PS} {k0 : Nat} {v : Int32} (hk0 : k0 < 8) (h1 : AR (wP σ i p') k0 i = v) (h2 : ∀ k, k < 3 → k ≠ k0 → AR (wP σ i p') k i = AR σ k i) : ∀ k, k < 8 → ∀ b, u2 (AR σ) k0 i v k b = AR (wP σ i p') k b := by
  refine ar_one h1 (fun k hk b c => ?_)
  by_cases e : b = i
  · subst e
    by_cases k3 : k < 3
    · exact h2 k k3 (fun z => c ⟨z, rfl⟩)
    · rw [ar_pup k hk, if_pos rfl]
      match k, k3 with
      | n + 3, _ => rfl
      | 0, h => omega
      | 1, h => omega
      | 2, h => omega
  · rw [ar_pup k hk, if_neg e]
theorem s_len (hi : Inv σ) {p n : Nat} (hp : p < eN σ) (hn : n ≤ 1500) : ∃ σ', o_setLength σ (nI p) (nI n) = .inr (AR σ 1 p, σ') ∧ Nx σ σ' ∧ ∀ k, k < 8 → ∀ b, u2 (AR σ) 1 p (nI n) k b = AR σ' k b := by
  have e : o_setLength σ (nI p) (nI n) = .inr (qLen (eP σ p), wP σ p ((eP σ p).1, nI n, (eP σ p).2.2)) := by
    rw [o_setLength, pu_ok hi.wf.1 hp]
    exact inn_ok (Nat.zero_le _) hn (by decide)
  refine ⟨_, e, ⟨⟨wx_setLength hi.1 _ _ _ _ e, hi.2.pup rfl⟩, rfl, rfl, rfl⟩, ?_⟩
  refine ar_pup1 (by decide) ?_ (fun k h3 hk => ?_)
  · show qLen (upt (eP σ) p _ p) = nI n
    rw [upt_s]
  · match k, h3, hk with
    | 0, _, _ => show qBar (upt (eP σ) p _ p) = _; rw [upt_s]; rfl
    | 1, _, h => exact absurd rfl h
    | 2, _, _ => show nI (qKeys (upt (eP σ) p _ p)).length = _; rw [upt_s]; rfl
    | n + 3, h, _ => omega
theorem ar_same {i : Nat} {p' : PS} (h0 : qBar p' = qBar (eP σ i)) (h1 : qLen p' = qLen (eP σ i)) (h2 : (qKeys p').length = (qKeys (eP σ i)).length) : ∀ k, k < 8 → ∀ b, AR σ k b = AR (wP σ i p') k b := by
  intro k hk b
  rw [ar_pup k hk]
  by_cases c : b = i
  · subst c
    rw [if_pos rfl]
    match k, hk with
    | 0, _ => exact h0.symm
    | 1, _ => exact h1.symm
    | 2, _ => exact (congrArg nI h2).symm
    | n + 3, _ => rfl
  · rw [if_neg c]
theorem s_cue (hi : Inv σ) {p : Nat} {q : Int32} (hp : p < eN σ) (hq : q = -1 ∨ ∃ c ≤ 9, q = nI c) : ∃ v σ', o_cue σ (nI p) q = .inr (v, σ') ∧ ¬ v < -1 ∧ Nx σ σ' ∧ (∀ k, k < 8 → ∀ b, AR σ k b = AR σ' k b) ∧ qCue (eP σ' p) = q := by
  have hc : q = -1 ∨ ¬ q < 0 ∧ q < nI 10 := by
    rcases hq with e | ⟨c, hc, rfl⟩
    · exact Or.inl e
    · exact Or.inr ⟨nI_pos (by omega), nI_lt (by omega) (by decide)⟩
  have e : o_cue σ (nI p) q = .inr (qCue (eP σ p), wP σ p ((eP σ p).1, (eP σ p).2.1, (eP σ p).2.2.1, q, (eP σ p).2.2.2.2)) := by
    rw [o_cue, pu_ok hi.wf.1 hp]
    exact if_pos hc
  refine ⟨_, _, e, ?_, ⟨⟨wx_cue hi.1 _ _ _ _ e, hi.2.pup rfl⟩, rfl, rfl, rfl⟩, ar_same rfl rfl rfl, ?_⟩
  · obtain ⟨y1, y2, y3, y4, y5, y6, y7⟩ := hi.okp hp
    rcases y6 with y | ⟨c, hc, y⟩
    · rw [y]; decide
    · rw [y]
      intro z
      exact nI_pos (show c < 2 ^ 31 by omega) (Int32.lt_trans z (by decide))
  · show qCue (upt (eP σ) p _ p) = q
    rw [upt_s]
theorem s_hear (hi : Inv σ) {q : Nat} {f : Int32} (hq : q ≤ 9) (hf : f = -1 ∨ ∃ m ≤ 999, f = nI m) : ∃ v σ', o_hear σ (nI q) f = .inr (v, σ') ∧ ¬ v < -1 ∧ Nx σ σ' ∧ (∀ k, k < 8 → ∀ b, AR σ k b = AR σ' k b) ∧ eH σ' q = f := by
  have e : o_hear σ (nI q) f = .inr (eH σ q, (σ.1, σ.2.1, upt (eH σ) q f, ePaid σ)) := by
    rw [o_hear, if_pos ⟨nI_pos (by omega), nI_lt (by omega) (by decide)⟩, nI_clamp (by omega)]
    rcases hf with e | ⟨m, hm, rfl⟩
    · rw [if_pos e]
    · rw [if_neg (fun z => by
        have := congrArg Int32.toInt z
        rw [nI_toInt (by omega)] at this
        have h1 : (-1 : Int32).toInt = -1 := rfl
        omega)]
      exact inn_ok (Nat.zero_le _) hm (by decide)
  refine ⟨_, _, e, ?_, ⟨⟨wx_hear hi.1 _ _ _ _ e, hi.2⟩, rfl, rfl, rfl⟩, ?_, ?_⟩
  · rcases hi.1.1.2.2.2.2 q (by omega) with y | ⟨c, hc, y⟩
    · rw [y]; decide
    · rw [y]
      intro z
      exact nI_pos (show c < 2 ^ 31 by omega) (Int32.lt_trans z (by decide))
  · intro k hk b
    match k, hk with
    | 0, _ => rfl
    | 1, _ => rfl
    | 2, _ => rfl
    | 3, _ => rfl
    | 4, _ => rfl
    | 5, _ => rfl
    | 6, _ => rfl
    | 7, _ => rfl
    | n + 8, h => omega
  · show upt (eH σ) q f q = f
    rw [upt_s]
theorem e_hear {q : Nat} {f : Int32} (hi : Inv σ) (hq : q ≤ 9) (hf : f = -1 ∨ ∃ m ≤ 999, f = nI m) {v : Int32} {σ' : ST} (e : o_hear σ (nI q) f = .inr (v, σ')) : v = eH σ q := by
  rw [o_hear, if_pos ⟨nI_pos (by omega), nI_lt (by omega) (by decide)⟩, nI_clamp (by omega)] at e
  rcases hf with c | ⟨m, hm, rfl⟩
  · rw [if_pos c] at e; cases e; rfl
  · rw [if_neg (fun z => by
        have := congrArg Int32.toInt z
        rw [nI_toInt (by omega)] at this
        have h1 : (-1 : Int32).toInt = -1 := rfl
        omega), inn_ok (Nat.zero_le _) hm (by decide)] at e
    cases e; rfl
theorem e_cue {p : Nat} {q : Int32} (hi : Inv σ) (hp : p < eN σ) {v : Int32} {σ' : ST} (e : o_cue σ (nI p) q = .inr (v, σ')) : v = qCue (eP σ p) := by
  rw [o_cue, pu_ok hi.wf.1 hp] at e
  split at e
  · cases e; rfl
  · cases e
end Inv2
