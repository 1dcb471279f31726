/-! ===== the model: its cells, and how they hold the state ===== -/
def mSl : List (Nat × Nat × Nat) := [(1, 8, 8), (2, 8, 8), (3, 8, 8), (4, 8, 8), (5, 8, 8), (7, 8, 96), (8, 8, 96), (9, 8, 96), (10, 8, 96), (11, 8, 80), (12, 8, 80), (13, 8, 8), (14, 8, 10), (15, 8, 6), (16, 8, 6), (17, 9, 6), (18, 8, 6), (19, 8, 6), (20, 9, 48), (23, 8, 32), (26, 8, 8), (27, 8, 8), (28, 9, 8)]
def MS (h : Hp) (m : Nat) (ad : Nat → Nat) : Prop := xS h m = some (6, 0) ∧ (∀ s k n, (s, k, n) ∈ mSl → xP h (600 + s) m = some (ad s) ∧ xS h (ad s) = some (k, n)) ∧ ∀ s k n t k' n', (s, k, n) ∈ mSl → (t, k', n') ∈ mSl → ad s = ad t → s = t
def MW (m : Nat) (ad : Nat → Nat) (b : Nat) : Prop := b = m ∨ ∃ s k n, (s, k, n) ∈ mSl ∧ b = ad s
def MPup (h : Hp) (ad : Nat → Nat) (i : Nat) (p : PS) : Prop := xA h (ad 1) i = qBar p ∧ xA h (ad 2) i = qLen p ∧ xA h (ad 3) i = nI (qKeys p).length ∧ xA h (ad 4) i = qCue p ∧ xA h (ad 5) i = nI (qWorn p) ∧ (∀ (k : Nat) (kk : K4), (qKeys p)[k]? = some kk → xA h (ad 7) (12 * i + k) = kk.1 ∧ xA h (ad 8) (12 * i + k) = kk.2.1 ∧ xA h (ad 9) (12 * i + k) = kk.2.2.1 ∧ xA h (ad 10) (12 * i + k) = kk.2.2.2) ∧ xA h (ad 13) i = nI (qMend p).length ∧ ∀ (k : Nat) (w : Int32 × Int32), (qMend p)[k]? = some w → xA h (ad 11) (10 * i + k) = w.1 ∧ xA h (ad 12) (10 * i + k) = w.2
def MSho (h : Hp) (ad : Nat → Nat) (j : Nat) (s : SS) : Prop := xA h (ad 15) j = (tSpan s).1 ∧ xA h (ad 16) j = (tSpan s).2 ∧ xA h (ad 17) j = bI (tDone s) ∧ xA h (ad 18) j = nI (50 - tLeft s) ∧ xA h (ad 19) j = tTak s ∧ ∀ q < 8, xA h (ad 20) (8 * j + q) = bI (tCast s q)
def RM (h : Hp) (m : Nat) (ad : Nat → Nat) (σ : ST) : Prop := MS h m ad ∧ (xF h 606 m = nI (eN σ) ∧ xF h 621 m = nI (eM σ) ∧ xF h 622 m = ePaid σ) ∧ (∀ i < 8, MPup h ad i (eP σ i)) ∧ (∀ j < 6, MSho h ad j (eS σ j)) ∧ (∀ s < 10, xA h (ad 14) s = eH σ s) ∧ ∀ t < 32, xA h (ad 23) t = easeL.getD t 0
/-- what is only of the moment: thrown, where puppets are found and stand -/
def Mt (m : Nat) (ad : Nat → Nat) (h h' : Hp) : Prop := xS h' = xS h ∧ xP h' = xP h ∧ xB h' = xB h ∧ xL h' = xL h ∧ (∀ i b, b ≠ m ∨ (i ≠ 600 ∧ i ≠ 624 ∧ i ≠ 625) → xF h' i b = xF h i b) ∧ ∀ b j, b ≠ ad 26 → b ≠ ad 27 → b ≠ ad 28 → xA h' b j = xA h b j
theorem Mt.rf {m : Nat} {ad : Nat → Nat} {h : Hp} : Mt m ad h h := ⟨rfl, rfl, rfl, rfl, fun _ _ _ => rfl, fun _ _ _ _ _ => rfl⟩
theorem Mt.tr {m : Nat} {ad : Nat → Nat} {h1 h2 h3 : Hp} (a : Mt m ad h1 h2) (b : Mt m ad h2 h3) : Mt m ad h1 h3 := by
  obtain ⟨a1, a2, a3, a4, a5, a6⟩ := a
  obtain ⟨b1, b2, b3, b4, b5, b6⟩ := b
  exact ⟨b1.trans a1, b2.trans a2, b3.trans a3, b4.trans a4, fun i c q => (b5 i c q).trans (a5 i c q), fun c j p q r => (b6 c j p q r).trans (a6 c j p q r)⟩
theorem MS.ne {h : Hp} {m : Nat} {ad : Nat → Nat} (hm : MS h m ad) {s k n t k' n' : Nat} (hs : (s, k, n) ∈ mSl) (ht : (t, k', n') ∈ mSl) (hst : s ≠ t) : ad s ≠ ad t := fun e => hst (hm.2.2 s k n t k' n' hs ht e)
theorem MS.eq {h h' : Hp} {m : Nat} {ad : Nat → Nat} (hm : MS h m ad) (h1 : xS h' = xS h) (h2 : xP h' = xP h) : MS h' m ad := by
  obtain ⟨a, b, c⟩ := hm
  exact ⟨by rw [h1]; exact a, fun s k n q => by rw [h1, h2]; exact b s k n q, c⟩
theorem RM.mt {h h' : Hp} {m : Nat} {ad : Nat → Nat} {σ : ST} (r : RM h m ad σ) (t : Mt m ad h h') : RM h' m ad σ := by
  obtain ⟨hm, ⟨g1, g2, g3⟩, rp, rs, rh, rt⟩ := r
  obtain ⟨t1, t2, t3, t4, t5, t6⟩ := t
  have A : ∀ s k n, (s, k, n) ∈ mSl → s ≠ 26 → s ≠ 27 → s ≠ 28 → ∀ j, xA h' (ad s) j = xA h (ad s) j := fun s k n hs n1 n2 n3 j => t6 _ _ (hm.ne hs (by decide : (26, 8, 8) ∈ mSl) n1) (hm.ne hs (by decide : (27, 8, 8) ∈ mSl) n2) (hm.ne hs (by decide : (28, 9, 8) ∈ mSl) n3)
  refine ⟨hm.eq t1 t2, ⟨by rw [t5 _ _ (Or.inr (by decide)), g1], by rw [t5 _ _ (Or.inr (by decide)), g2], by rw [t5 _ _ (Or.inr (by decide)), g3]⟩, fun i hi => ?_, fun j hj => ?_, fun s hs => ?_, fun s hs => ?_⟩
  · have := rp i hi
    unfold MPup at this ⊢
    rw [A 1 8 8 (by decide) (by decide) (by decide) (by decide), A 2 8 8 (by decide) (by decide) (by decide) (by decide), A 3 8 8 (by decide) (by decide) (by decide) (by decide), A 4 8 8 (by decide) (by decide) (by decide) (by decide), A 5 8 8 (by decide) (by decide) (by decide) (by decide), A 13 8 8 (by decide) (by decide) (by decide) (by decide)]
    simp only [A 7 8 96 (by decide) (by decide) (by decide) (by decide), A 8 8 96 (by decide) (by decide) (by decide) (by decide), A 9 8 96 (by decide) (by decide) (by decide) (by decide), A 10 8 96 (by decide) (by decide) (by decide) (by decide), A 11 8 80 (by decide) (by decide) (by decide) (by decide), A 12 8 80 (by decide) (by decide) (by decide) (by decide)]
    exact this
  · have := rs j hj
    unfold MSho at this ⊢
    simp only [A 15 8 6 (by decide) (by decide) (by decide) (by decide), A 16 8 6 (by decide) (by decide) (by decide) (by decide), A 17 9 6 (by decide) (by decide) (by decide) (by decide), A 18 8 6 (by decide) (by decide) (by decide) (by decide), A 19 8 6 (by decide) (by decide) (by decide) (by decide), A 20 9 48 (by decide) (by decide) (by decide) (by decide)]
    exact this
  · rw [A 14 8 10 (by decide) (by decide) (by decide) (by decide)]; exact rh s hs
  · rw [A 23 8 32 (by decide) (by decide) (by decide) (by decide)]; exact rt s hs
set_option maxRecDepth 100000 in
set_option maxHeartbeats 4000000 in
theorem cm_isIn {g : Gl} {l : Launch} (hfl : l.stackTraces = false) (h : Hp) (v lo hi : Int32) : CT g l iX6_isIn 1 [.int v, .int lo, .int hi] h 0 0 (pRet (some (.int (bI (decide (lo ≤ v ∧ v ≤ hi))))) h) := by
  refine ct_mk hfl (by decide) (Nat.le_of_ble_eq_true rfl) (by intro v hv; simp only [List.mem_cons, List.not_mem_nil, or_false] at hv; rcases hv with rfl | rfl | rfl <;> rfl) (fun V X M => ?_)
  have Mm := M.m
  show V 0 [some (.int v), some (.int lo), some (.int hi)] [] _ 0 0
  refine r_iload_n Mm dX6_isIn_0 rfl ?_
  refine r_iload_n Mm dX6_isIn_1 rfl ?_
  refine r_icmp_lt (tgt := 14) Mm dX6_isIn_2 (by decide) (fun c1 => ?_) (fun c1 => ?_)
  · refine r_iconst (v := nI 0) Mm dX6_isIn_14 (by decide) ?_
    refine r_zret M dX6_isIn_15 (by decide) ?_
    refine ⟨?_, rfl⟩
    rw [decide_eq_false (show ¬ (lo ≤ v ∧ v ≤ hi) from fun z => by first | exact c1 z.1 | exact Int32.not_le.mpr c1 z.1)]; rfl
  · refine r_iload_n Mm dX6_isIn_5 rfl ?_
    refine r_iload_n Mm dX6_isIn_6 rfl ?_
    refine r_icmp_gt (tgt := 14) Mm dX6_isIn_7 (by decide) (fun c2 => ?_) (fun c2 => ?_)
    · refine r_iconst (v := nI 0) Mm dX6_isIn_14 (by decide) ?_
      refine r_zret M dX6_isIn_15 (by decide) ?_
      refine ⟨?_, rfl⟩
      rw [decide_eq_false (show ¬ (lo ≤ v ∧ v ≤ hi) from fun z => by first | exact c2 z.2 | exact Int32.not_le.mpr c2 z.2)]; rfl
    · refine r_iconst (v := nI 1) Mm dX6_isIn_10 (by decide) ?_
      refine r_goto (tgt := 15) Mm dX6_isIn_11 (by decide) ?_
      refine r_zret M dX6_isIn_15 (by decide) ?_
      refine ⟨?_, rfl⟩
      rw [decide_eq_true (show lo ≤ v ∧ v ≤ hi from ⟨by first | exact c1 | exact Int32.not_lt.mp c1, by first | exact c2 | exact Int32.not_lt.mp c2⟩)]; rfl
