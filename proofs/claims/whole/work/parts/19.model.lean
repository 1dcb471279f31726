/-! ===== the model: its cells, and how they hold the state ===== -/
def mSl : List (Nat × Nat × Nat) := [(1, 8, 8), (2, 8, 8), (3, 8, 8), (4, 8, 8), (5, 8, 8), (7, 8, 96), (8, 8, 96), (9, 8, 96), (10, 8, 96), (11, 8, 80), (12, 8, 80), (13, 8, 8), (14, 8, 10), (15, 8, 6), (16, 8, 6), (17, 9, 6), (18, 8, 6), (19, 8, 6), (20, 9, 48), (23, 8, 32), (26, 8, 8), (27, 8, 8), (28, 9, 8)]
def MS (h : Hp) (m : Nat) (ad : Nat → Nat) : Prop := xS h m = some (6, 0) ∧ (∀ s k n, (s, k, n) ∈ mSl → xP h (600 + s) m = some (ad s) ∧ xS h (ad s) = some (k, n)) ∧ ∀ s k n t k' n', (s, k, n) ∈ mSl → (t, k', n') ∈ mSl → ad s = ad t → s = t
def MW (m : Nat) (ad : Nat → Nat) (b : Nat) : Prop := b = m ∨ ∃ s k n, (s, k, n) ∈ mSl ∧ b = ad s
def MPup (h : Hp) (ad : Nat → Nat) (i : Nat) (p : PS) : Prop := xA h (ad 1) i = qBar p ∧ xA h (ad 2) i = qLen p ∧ xA h (ad 3) i = nI (qKeys p).length ∧ xA h (ad 4) i = qCue p ∧ xA h (ad 5) i = nI (qWorn p) ∧ (∀ (k : Nat) (kk : K4), (qKeys p)[k]? = some kk → xA h (ad 7) (12 * i + k) = kk.1 ∧ xA h (ad 8) (12 * i + k) = kk.2.1 ∧ xA h (ad 9) (12 * i + k) = kk.2.2.1 ∧ xA h (ad 10) (12 * i + k) = kk.2.2.2) ∧ xA h (ad 13) i = nI (qMend p).length ∧ ∀ (k : Nat) (w : Int32 × Int32), (qMend p)[k]? = some w → xA h (ad 11) (10 * i + k) = w.1 ∧ xA h (ad 12) (10 * i + k) = w.2
def MSho (h : Hp) (ad : Nat → Nat) (j : Nat) (s : SS) : Prop := xA h (ad 15) j = (tSpan s).1 ∧ xA h (ad 16) j = (tSpan s).2 ∧ xA h (ad 17) j = bI (tDone s) ∧ xA h (ad 18) j = nI (50 - tLeft s) ∧ xA h (ad 19) j = tTak s ∧ ∀ q < 8, xA h (ad 20) (8 * j + q) = bI (tCast s q)
def RM (h : Hp) (m : Nat) (ad : Nat → Nat) (σ : ST) : Prop := MS h m ad ∧ (xF h 606 m = nI (eN σ) ∧ xF h 621 m = nI (eM σ) ∧ xF h 622 m = ePaid σ) ∧ (∀ i < 8, MPup h ad i (eP σ i)) ∧ (∀ j < 6, MSho h ad j (eS σ j)) ∧ (∀ s < 10, xA h (ad 14) s = eH σ s) ∧ ∀ t < 32, xA h (ad 23) t = easeL.getD t 0
/-- what is only of the moment: where puppets are found and stand -/
def Mt (m : Nat) (ad : Nat → Nat) (h h' : Hp) : Prop := xS h' = xS h ∧ xP h' = xP h ∧ xB h' = xB h ∧ xL h' = xL h ∧ (∀ i b, b ≠ m ∨ (i ≠ 624 ∧ i ≠ 625) → xF h' i b = xF h i b) ∧ ∀ b j, b ≠ ad 26 → b ≠ ad 27 → b ≠ ad 28 → xA h' b j = xA h b j
theorem Mt.rf {m : Nat} {ad : Nat → Nat} {h : Hp} : Mt m ad h h := ⟨rfl, rfl, rfl, rfl, fun _ _ _ => rfl, fun _ _ _ _ _ => rfl⟩
theorem Mt.tr {m : Nat} {ad : Nat → Nat} {h1 h2 h3 : Hp} (a : Mt m ad h1 h2) (b : Mt m ad h2 h3) : Mt m ad h1 h3 := by
  obtain ⟨a1, a2, a3, a4, a5, a6⟩ := a
  obtain ⟨b1, b2, b3, b4, b5, b6⟩ := b
  exact ⟨b1.trans a1, b2.trans a2, b3.trans a3, b4.trans a4, fun i c q => (b5 i c q).trans (a5 i c q), fun c j p q r => (b6 c j p q r).trans (a6 c j p q r)⟩
theorem MS.ne {h : Hp} {m : Nat} {ad : Nat → Nat} (hM : MS h m ad) {s k n t k' n' : Nat} (hs : (s, k, n) ∈ mSl) (ht : (t, k', n') ∈ mSl) (hst : s ≠ t) : ad s ≠ ad t := fun e => hst (hM.2.2 s k n t k' n' hs ht e)
theorem MS.eq {h h' : Hp} {m : Nat} {ad : Nat → Nat} (hM : MS h m ad) (h1 : xS h' = xS h) (h2 : xP h' = xP h) : MS h' m ad := by
  obtain ⟨a, b, c⟩ := hM
  exact ⟨by rw [h1]; exact a, fun s k n q => by rw [h1, h2]; exact b s k n q, c⟩
theorem RM.mt {h h' : Hp} {m : Nat} {ad : Nat → Nat} {σ : ST} (r : RM h m ad σ) (t : Mt m ad h h') : RM h' m ad σ := by
  obtain ⟨hM, ⟨g1, g2, g3⟩, rp, rs, rh, rt⟩ := r
  obtain ⟨t1, t2, t3, t4, t5, t6⟩ := t
  have A : ∀ s k n, (s, k, n) ∈ mSl → s ≠ 26 → s ≠ 27 → s ≠ 28 → ∀ j, xA h' (ad s) j = xA h (ad s) j := fun s k n hs n1 n2 n3 j => t6 _ _ (hM.ne hs (by decide : (26, 8, 8) ∈ mSl) n1) (hM.ne hs (by decide : (27, 8, 8) ∈ mSl) n2) (hM.ne hs (by decide : (28, 9, 8) ∈ mSl) n3)
  refine ⟨hM.eq t1 t2, ⟨by rw [t5 _ _ (Or.inr (by decide)), g1], by rw [t5 _ _ (Or.inr (by decide)), g2], by rw [t5 _ _ (Or.inr (by decide)), g3]⟩, fun i hi => ?_, fun j hj => ?_, fun s hs => ?_, fun s hs => ?_⟩
  · have := rp i hi
    unfold MPup at this ⊢
    rw [A 1 8 8 (by decide) (by decide) (by decide) (by decide), A 2 8 8 (by decide) (by decide) (by decide) (by decide), A 3 8 8 (by decide) (by decide) (by decide) (by decide), A 4 8 8 (by decide) (by decide) (by decide) (by decide), A 5 8 8 (by decide) (by decide) (by decide) (by decide), A 13 8 8 (by decide) (by decide) (by decide) (by decide)]
    simp only [A 7 8 96 (by decide) (by decide) (by decide) (by decide), A 8 8 96 (by decide) (by decide) (by decide) (by decide), A 9 8 96 (by decide) (by decide) (by decide) (by decide), A 10 8 96 (by decide) (by decide) (by decide) (by decide), A 11 8 80 (by decide) (by decide) (by decide) (by decide), A 12 8 80 (by decide) (by decide) (by decide) (by decide)]
    exact this
  · have := rs j hj
    unfold MSho at this ⊢
    simp only [A 15 8 6 (by decide) (by decide) (by decide) (by decide), A 16 8 6 (by decide) (by decide) (by decide) (by decide), A 17 9 6 (by decide) (by decide) (by decide) (by decide), A 18 8 6 (by decide) (by decide) (by decide) (by decide), A 19 8 6 (by decide) (by decide) (by decide) (by decide), A 20 9 48 (by decide) (by decide) (by decide) (by decide)]
    exact this
  · rw [A 14 8 10 (by decide) (by decide) (by decide) (by decide)]; exact rh s hs
  · rw [A 23 8 32 (by decide) (by decide) (by decide) (by decide)]; exact rt s hs
set_option maxRecDepth 100000 in
set_option maxHeartbeats 4000000 in
theorem cm_isIn {g : Gl} {l : Launch} (hfl : l.stackTraces = false) (h : Hp) (v lo hi : Int32) : CT g l iX6_isIn 1 [.int v, .int lo, .int hi] h 0 0 (pRet (some (.int (bI (decide (lo ≤ v ∧ v ≤ hi))))) h) := by
  refine ct_mk hfl (by decide) (Nat.le_of_ble_eq_true rfl) (by intro v hv; simp only [List.mem_cons, List.not_mem_nil, or_false] at hv; rcases hv with rfl | rfl | rfl <;> rfl) (fun V X M => ?_)
  have Mm := M.m
  show V 0 [some (.int v), some (.int lo), some (.int hi)] [] _ 0 0
  refine r_iload_n Mm dX6_isIn_0 rfl ?_
  refine r_iload_n Mm dX6_isIn_1 rfl ?_
  refine r_icmp_lt (tgt := 14) Mm dX6_isIn_2 (by decide) (fun c1 => ?_) (fun c1 => ?_)
  · refine r_iconst (v := nI 0) Mm dX6_isIn_14 (by decide) ?_
    refine r_zret M dX6_isIn_15 (by decide) ?_
    refine ⟨?_, rfl⟩
    rw [decide_eq_false (show ¬ (lo ≤ v ∧ v ≤ hi) from fun z => by first | exact c1 z.1 | exact Int32.not_le.mpr c1 z.1)]; rfl
  · refine r_iload_n Mm dX6_isIn_5 rfl ?_
    refine r_iload_n Mm dX6_isIn_6 rfl ?_
    refine r_icmp_gt (tgt := 14) Mm dX6_isIn_7 (by decide) (fun c2 => ?_) (fun c2 => ?_)
    · refine r_iconst (v := nI 0) Mm dX6_isIn_14 (by decide) ?_
      refine r_zret M dX6_isIn_15 (by decide) ?_
      refine ⟨?_, rfl⟩
      rw [decide_eq_false (show ¬ (lo ≤ v ∧ v ≤ hi) from fun z => by first | exact c2 z.2 | exact Int32.not_le.mpr c2 z.2)]; rfl
    · refine r_iconst (v := nI 1) Mm dX6_isIn_10 (by decide) ?_
      refine r_goto (tgt := 15) Mm dX6_isIn_11 (by decide) ?_
      refine r_zret M dX6_isIn_15 (by decide) ?_
      refine ⟨?_, rfl⟩
      rw [decide_eq_true (show lo ≤ v ∧ v ≤ hi from ⟨by first | exact c1 | exact Int32.not_lt.mp c1, by first | exact c2 | exact Int32.not_lt.mp c2⟩)]; rfl
set_option maxRecDepth 100000 in
set_option maxHeartbeats 4000000 in
theorem cm_isFine {g : Gl} {l : Launch} (hfl : l.stackTraces = false) (h : Hp) (m : Nat) (ad : Nat → Nat) (hM : MS h m ad) (v : Int32) : CT g l iX6_isFine 1 [.ref m, .int v] h 0 0 (pRet (some (.int (bI (decide (v = 0))))) (yF h 600 m v)) := by
  refine ct_mk hfl (by decide) (Nat.le_of_ble_eq_true rfl) (by intro v hv; simp only [List.mem_cons, List.not_mem_nil, or_false] at hv; rcases hv with rfl | rfl <;> rfl) (fun V X M => ?_)
  have Mm := M.m
  show V 0 [some (.ref m), some (.int v)] [] _ 0 0
  refine r_aload_n Mm dX6_isFine_0 rfl ?_
  refine r_iload_n Mm dX6_isFine_1 rfl ?_
  refine r_putI (ty := .int) Mm dX6_isFine_2 fi_X6_80 ki_6 rfl (hM.1) rfl (i := 600) rfl rfl (by decide +kernel) rfl rfl ?_
  refine r_iload_n Mm dX6_isFine_5 rfl ?_
  refine r_if_ne (tgt := 13) Mm dX6_isFine_6 (by decide) (fun c1 => ?_) (fun c1 => ?_)
  · refine r_iconst (v := nI 0) Mm dX6_isFine_13 (by decide) ?_
    refine r_zret M dX6_isFine_14 (by decide) ?_
    exact ⟨by rw [decide_eq_false c1]; rfl, rfl⟩
  · refine r_iconst (v := nI 1) Mm dX6_isFine_9 (by decide) ?_
    refine r_goto (tgt := 14) Mm dX6_isFine_10 (by decide) ?_
    refine r_zret M dX6_isFine_14 (by decide) ?_
    exact ⟨by rw [decide_eq_true c1]; rfl, rfl⟩
theorem le_pred {p : Int32} {n : Nat} (hn : n < 2000) : (nI 0 ≤ p ∧ p ≤ nI n - nI 1) ↔ (0 ≤ p ∧ p < nI n) := by
  cases n with
  | zero =>
    refine ⟨fun z => ?_, fun z => ?_⟩
    · have h1 : (0 : Int32) ≤ nI 0 - nI 1 := Int32.le_trans z.1 z.2
      exact absurd h1 (by decide)
    · exact absurd (Int32.lt_of_le_of_lt z.1 z.2) (by decide)
  | succ n =>
    rw [pk_sub (show 1 ≤ n + 1 by omega), Nat.add_sub_cancel]
    refine ⟨fun z => ⟨z.1, ?_⟩, fun z => ⟨z.1, ?_⟩⟩
    · obtain ⟨j, hj, rfl⟩ := in_le z (by omega)
      exact nI_lt (by omega) (by omega)
    · obtain ⟨j, hj, rfl⟩ := in_ex z (by omega)
      exact (nI_leI (by omega) (by omega)).mpr (by omega)
set_option maxRecDepth 100000 in
set_option maxHeartbeats 4000000 in
theorem cm_isPuppet {g : Gl} {l : Launch} (hfl : l.stackTraces = false) (h : Hp) (m n : Nat) (p : Int32) (hs : xS h m = some (6, 0)) (hn : n < 2000) (hg : xF h 606 m = nI n) : CT g l iX6_isPuppet 2 [.ref m, .int p] h 0 0 (pRet (some (.int (bI (decide (0 ≤ p ∧ p < nI n))))) h) := by
  refine ct_mk hfl (by decide) (Nat.le_of_ble_eq_true rfl) (by intro v hv; simp only [List.mem_cons, List.not_mem_nil, or_false] at hv; rcases hv with rfl | rfl <;> rfl) (fun V X M => ?_)
  have Mm := M.m
  show V 0 [some (.ref m), some (.int p)] [] _ 0 0
  refine r_iload_n Mm dX6_isPuppet_0 rfl ?_
  refine r_iconst (v := nI 0) Mm dX6_isPuppet_1 (by decide) ?_
  refine r_aload_n Mm dX6_isPuppet_2 rfl ?_
  refine r_getI Mm dX6_isPuppet_3 fi_X6_84 (hs) rfl (i := 606) rfl ?_
  refine r_top _ (nI n) (hg) ?_
  refine r_iconst (v := nI 1) Mm dX6_isPuppet_6 (by decide) ?_
  refine r_isub Mm dX6_isPuppet_7 ?_
  refine r_callS (As := [(.int p), (.int (nI 0)), (.int ((nI n) - (nI 1)))]) Mm dX6_isPuppet_8 rfl (cm_isIn hfl h p (nI 0) ((nI n) - (nI 1))) cw_X6_87 ⟨Nat.le_of_ble_eq_true rfl, Nat.le_of_ble_eq_true rfl, Nat.le_of_ble_eq_true rfl⟩ (Nat.le_of_ble_eq_true rfl) ⟨Nat.le_of_ble_eq_true rfl, Nat.le_of_ble_eq_true rfl⟩ (fun r1 h2 p3 => ?_) (fun Er1 h2 p3 => False.elim p3)
  obtain ⟨rfl, rfl⟩ := p3
  show V 11 _ [(.int (bI (decide ((nI 0) ≤ p ∧ p ≤ ((nI n) - (nI 1))))))] _ _ _
  refine r_zret M dX6_isPuppet_11 (bI_nar (decide ((nI 0) ≤ p ∧ p ≤ ((nI n) - (nI 1))))) ?_
  exact ⟨by rw [decide_eq_decide.mpr (le_pred hn)], rfl⟩
set_option maxRecDepth 100000 in
set_option maxHeartbeats 4000000 in
theorem cm_isShow {g : Gl} {l : Launch} (hfl : l.stackTraces = false) (h : Hp) (m n : Nat) (p : Int32) (hs : xS h m = some (6, 0)) (hn : n < 2000) (hg : xF h 621 m = nI n) : CT g l iX6_isShow 2 [.ref m, .int p] h 0 0 (pRet (some (.int (bI (decide (0 ≤ p ∧ p < nI n))))) h) := by
  refine ct_mk hfl (by decide) (Nat.le_of_ble_eq_true rfl) (by intro v hv; simp only [List.mem_cons, List.not_mem_nil, or_false] at hv; rcases hv with rfl | rfl <;> rfl) (fun V X M => ?_)
  have Mm := M.m
  show V 0 [some (.ref m), some (.int p)] [] _ 0 0
  refine r_iload_n Mm dX6_isShow_0 rfl ?_
  refine r_iconst (v := nI 0) Mm dX6_isShow_1 (by decide) ?_
  refine r_aload_n Mm dX6_isShow_2 rfl ?_
  refine r_getI Mm dX6_isShow_3 fi_X6_91 (hs) rfl (i := 621) rfl ?_
  refine r_top _ (nI n) (hg) ?_
  refine r_iconst (v := nI 1) Mm dX6_isShow_6 (by decide) ?_
  refine r_isub Mm dX6_isShow_7 ?_
  refine r_callS (As := [(.int p), (.int (nI 0)), (.int ((nI n) - (nI 1)))]) Mm dX6_isShow_8 rfl (cm_isIn hfl h p (nI 0) ((nI n) - (nI 1))) cw_X6_87 ⟨Nat.le_of_ble_eq_true rfl, Nat.le_of_ble_eq_true rfl, Nat.le_of_ble_eq_true rfl⟩ (Nat.le_of_ble_eq_true rfl) ⟨Nat.le_of_ble_eq_true rfl, Nat.le_of_ble_eq_true rfl⟩ (fun r1 h2 p3 => ?_) (fun Er1 h2 p3 => False.elim p3)
  obtain ⟨rfl, rfl⟩ := p3
  show V 11 _ [(.int (bI (decide ((nI 0) ≤ p ∧ p ≤ ((nI n) - (nI 1))))))] _ _ _
  refine r_zret M dX6_isShow_11 (bI_nar (decide ((nI 0) ≤ p ∧ p ≤ ((nI n) - (nI 1))))) ?_
  exact ⟨by rw [decide_eq_decide.mpr (le_pred hn)], rfl⟩
set_option maxRecDepth 100000 in
set_option maxHeartbeats 4000000 in
theorem cm_isFrame {g : Gl} {l : Launch} (hfl : l.stackTraces = false) (h : Hp) (v : Int32) : CT g l iX6_isFrame 2 [.int v] h 0 0 (pRet (some (.int (bI (decide (nI 0 ≤ v ∧ v ≤ nI 1999))))) h) := by
  refine ct_mk hfl (by decide) (Nat.le_of_ble_eq_true rfl) (by intro v hv; simp only [List.mem_cons, List.not_mem_nil, or_false] at hv; rcases hv with rfl <;> rfl) (fun V X M => ?_)
  have Mm := M.m
  show V 0 [some (.int v)] [] _ 0 0
  refine r_iload_n Mm dX6_isFrame_0 rfl ?_
  refine r_iconst (v := nI 0) Mm dX6_isFrame_1 (by decide) ?_
  refine r_sipush (v := nI 1999) Mm dX6_isFrame_2 (by decide) ?_
  refine r_callS (As := [(.int v), (.int (nI 0)), (.int (nI 1999))]) Mm dX6_isFrame_5 rfl (cm_isIn hfl h v (nI 0) (nI 1999)) cw_X6_87 ⟨Nat.le_of_ble_eq_true rfl, Nat.le_of_ble_eq_true rfl, Nat.le_of_ble_eq_true rfl⟩ (Nat.le_of_ble_eq_true rfl) ⟨Nat.le_of_ble_eq_true rfl, Nat.le_of_ble_eq_true rfl⟩ (fun r1 h2 p3 => ?_) (fun Er1 h2 p3 => False.elim p3)
  obtain ⟨rfl, rfl⟩ := p3
  show V 8 _ [(.int (bI (decide ((nI 0) ≤ v ∧ v ≤ (nI 1999)))))] _ _ _
  refine r_zret M dX6_isFrame_8 (bI_nar (decide ((nI 0) ≤ v ∧ v ≤ (nI 1999)))) ?_
  exact ⟨rfl, rfl⟩
set_option maxRecDepth 100000 in
set_option maxHeartbeats 4000000 in
theorem cm_isSound {g : Gl} {l : Launch} (hfl : l.stackTraces = false) (h : Hp) (v : Int32) : CT g l iX6_isSound 2 [.int v] h 0 0 (pRet (some (.int (bI (decide (nI 0 ≤ v ∧ v ≤ nI 9))))) h) := by
  refine ct_mk hfl (by decide) (Nat.le_of_ble_eq_true rfl) (by intro v hv; simp only [List.mem_cons, List.not_mem_nil, or_false] at hv; rcases hv with rfl <;> rfl) (fun V X M => ?_)
  have Mm := M.m
  show V 0 [some (.int v)] [] _ 0 0
  refine r_iload_n Mm dX6_isSound_0 rfl ?_
  refine r_iconst (v := nI 0) Mm dX6_isSound_1 (by decide) ?_
  refine r_bipush (v := nI 9) Mm dX6_isSound_2 (by decide) ?_
  refine r_callS (As := [(.int v), (.int (nI 0)), (.int (nI 9))]) Mm dX6_isSound_4 rfl (cm_isIn hfl h v (nI 0) (nI 9)) cw_X6_87 ⟨Nat.le_of_ble_eq_true rfl, Nat.le_of_ble_eq_true rfl, Nat.le_of_ble_eq_true rfl⟩ (Nat.le_of_ble_eq_true rfl) ⟨Nat.le_of_ble_eq_true rfl, Nat.le_of_ble_eq_true rfl⟩ (fun r1 h2 p3 => ?_) (fun Er1 h2 p3 => False.elim p3)
  obtain ⟨rfl, rfl⟩ := p3
  show V 7 _ [(.int (bI (decide ((nI 0) ≤ v ∧ v ≤ (nI 9)))))] _ _ _
  refine r_zret M dX6_isSound_7 (bI_nar (decide ((nI 0) ≤ v ∧ v ≤ (nI 9)))) ?_
  exact ⟨rfl, rfl⟩
set_option maxRecDepth 100000 in
set_option maxHeartbeats 4000000 in
theorem cm_areOver {g : Gl} {l : Launch} (hfl : l.stackTraces = false) (h : Hp) (f n o os : Int32) : CT g l iX6_areOver 1 [.int f, .int n, .int o, .int os] h 0 0 (pRet (some (.int (bI (meetS (o, os) (f, n))))) h) := by
  refine ct_mk hfl (by decide) (Nat.le_of_ble_eq_true rfl) (by intro v hv; simp only [List.mem_cons, List.not_mem_nil, or_false] at hv; rcases hv with rfl | rfl | rfl | rfl <;> rfl) (fun V X M => ?_)
  have Mm := M.m
  show V 0 [some (.int f), some (.int n), some (.int o), some (.int os)] [] _ 0 0
  refine r_iload_n Mm dX6_areOver_0 rfl ?_
  refine r_iload_n Mm dX6_areOver_1 rfl ?_
  refine r_iload_n Mm dX6_areOver_2 rfl ?_
  refine r_iadd Mm dX6_areOver_3 ?_
  refine r_icmp_ge (tgt := 18) Mm dX6_areOver_4 (by decide) (fun c1 => ?_) (fun c1 => ?_)
  · refine r_iconst (v := nI 0) Mm dX6_areOver_18 (by decide) ?_
    refine r_zret M dX6_areOver_19 (by decide) ?_
    refine ⟨?_, rfl⟩
    rw [show meetS (o, os) (f, n) = false by simp only [meetS]; rw [decide_eq_false (show ¬ f < o + os from Int32.not_lt.mpr c1), Bool.and_false]]; rfl
  · refine r_iload_n Mm dX6_areOver_7 rfl ?_
    refine r_iload_n Mm dX6_areOver_8 rfl ?_
    refine r_iload_n Mm dX6_areOver_9 rfl ?_
    refine r_iadd Mm dX6_areOver_10 ?_
    refine r_icmp_ge (tgt := 18) Mm dX6_areOver_11 (by decide) (fun c2 => ?_) (fun c2 => ?_)
    · refine r_iconst (v := nI 0) Mm dX6_areOver_18 (by decide) ?_
      refine r_zret M dX6_areOver_19 (by decide) ?_
      refine ⟨?_, rfl⟩
      rw [show meetS (o, os) (f, n) = false by simp only [meetS]; rw [decide_eq_false (show ¬ o < f + n from Int32.not_lt.mpr c2), Bool.false_and]]; rfl
    · refine r_iconst (v := nI 1) Mm dX6_areOver_14 (by decide) ?_
      refine r_goto (tgt := 19) Mm dX6_areOver_15 (by decide) ?_
      refine r_zret M dX6_areOver_19 (by decide) ?_
      refine ⟨?_, rfl⟩
      rw [show meetS (o, os) (f, n) = true by simp only [meetS, Bool.and_eq_true, decide_eq_true_eq]; exact ⟨Int32.not_le.mp c2, Int32.not_le.mp c1⟩]; rfl
set_option maxRecDepth 100000 in
set_option maxHeartbeats 4000000 in
theorem cm_far {g : Gl} {l : Launch} (hfl : l.stackTraces = false) (h : Hp) (u v : Int32) : CT g l iX6_far 1 [.int u, .int v] h 0 0 (pRet (some (.int (sq2 u v))) h) := by
  refine ct_mk hfl (by decide) (Nat.le_of_ble_eq_true rfl) (by intro v hv; simp only [List.mem_cons, List.not_mem_nil, or_false] at hv; rcases hv with rfl | rfl <;> rfl) (fun V X M => ?_)
  have Mm := M.m
  show V 0 [some (.int u), some (.int v)] [] _ 0 0
  refine r_iload_n Mm dX6_far_0 rfl ?_
  refine r_iload_n Mm dX6_far_1 rfl ?_
  refine r_imul Mm dX6_far_2 ?_
  refine r_iload_n Mm dX6_far_3 rfl ?_
  refine r_iload_n Mm dX6_far_4 rfl ?_
  refine r_imul Mm dX6_far_5 ?_
  refine r_iadd Mm dX6_far_6 ?_
  refine r_iret M dX6_far_7 ?_
  exact ⟨rfl, rfl⟩
set_option maxRecDepth 100000 in
set_option maxHeartbeats 4000000 in
theorem cm_areNear {g : Gl} {l : Launch} (hfl : l.stackTraces = false) (h : Hp) (u v : Int32) : CT g l iX6_areNear 1 [.int u, .int v] h 0 0 (pRet (some (.int (bI (decide (u - v < nI 10 ∧ v - u < nI 10))))) h) := by
  refine ct_mk hfl (by decide) (Nat.le_of_ble_eq_true rfl) (by intro v hv; simp only [List.mem_cons, List.not_mem_nil, or_false] at hv; rcases hv with rfl | rfl <;> rfl) (fun V X M => ?_)
  have Mm := M.m
  show V 0 [some (.int u), some (.int v)] [] _ 0 0
  refine r_iload_n Mm dX6_areNear_0 rfl ?_
  refine r_iload_n Mm dX6_areNear_1 rfl ?_
  refine r_isub Mm dX6_areNear_2 ?_
  refine r_bipush (v := nI 10) Mm dX6_areNear_3 (by decide) ?_
  refine r_icmp_ge (tgt := 20) Mm dX6_areNear_5 (by decide) (fun c1 => ?_) (fun c1 => ?_)
  · refine r_iconst (v := nI 0) Mm dX6_areNear_20 (by decide) ?_
    refine r_zret M dX6_areNear_21 (by decide) ?_
    refine ⟨?_, rfl⟩
    rw [decide_eq_false (show ¬ (u - v < nI 10 ∧ v - u < nI 10) from fun z => Int32.not_lt.mpr c1 z.1)]; rfl
  · refine r_iload_n Mm dX6_areNear_8 rfl ?_
    refine r_iload_n Mm dX6_areNear_9 rfl ?_
    refine r_isub Mm dX6_areNear_10 ?_
    refine r_bipush (v := nI 10) Mm dX6_areNear_11 (by decide) ?_
    refine r_icmp_ge (tgt := 20) Mm dX6_areNear_13 (by decide) (fun c2 => ?_) (fun c2 => ?_)
    · refine r_iconst (v := nI 0) Mm dX6_areNear_20 (by decide) ?_
      refine r_zret M dX6_areNear_21 (by decide) ?_
      refine ⟨?_, rfl⟩
      rw [decide_eq_false (show ¬ (u - v < nI 10 ∧ v - u < nI 10) from fun z => Int32.not_lt.mpr c2 z.2)]; rfl
    · refine r_iconst (v := nI 1) Mm dX6_areNear_16 (by decide) ?_
      refine r_goto (tgt := 21) Mm dX6_areNear_17 (by decide) ?_
      refine r_zret M dX6_areNear_21 (by decide) ?_
      refine ⟨?_, rfl⟩
      rw [decide_eq_true (show u - v < nI 10 ∧ v - u < nI 10 from ⟨Int32.not_le.mp c1, Int32.not_le.mp c2⟩)]; rfl
set_option maxRecDepth 100000 in
set_option maxHeartbeats 4000000 in
theorem cm_placeOf {g : Gl} {l : Launch} (hfl : l.stackTraces = false) (h : Hp) (m : Nat) (ad : Nat → Nat) (hM : MS h m ad) (i : Nat) (p : PS) (hi : i < 8) (hp : MPup h ad i p) (hl : (qKeys p).length ≤ 12) (f : Int32) : CT g l iX6_placeOf 1 [.ref m, .int (nI i), .int f] h 0 0 (pRet (some (.int (nI (ahead (qKeys p) f)))) h) := by
  obtain ⟨p1, p2, p3, p4, p5, p6, p7, p8⟩ := hp
  refine ct_mk hfl (by decide) (Nat.le_of_ble_eq_true rfl) (by intro v hv; simp only [List.mem_cons, List.not_mem_nil, or_false] at hv; rcases hv with rfl | rfl | rfl <;> rfl) (fun V X M => ?_)
  have Mm := M.m
  show V 0 [some (.ref m), some (.int (nI i)), some (.int f), none] [] _ 0 0
  refine r_iconst (v := nI 0) Mm dX6_placeOf_0 (by decide) ?_
  refine r_istore_n Mm dX6_placeOf_1 (by decide) ?_
  show V 2 [some (.ref m), some (.int (nI i)), some (.int f), some (.int (nI 0))] _ _ _ _
  have loop : ∀ (n : Nat) (k : Nat), (qKeys p).length - k < n → (k ≤ (qKeys p).length) → (∀ (j : Nat) (q : K4), j < k → (qKeys p)[j]? = some q → q.1 < f) → V 2 [some (.ref m), some (.int (nI i)), some (.int f), some (.int (nI k))] [] h 0 0 := by
    intro n
    induction n with
    | zero => intro k hm; exact absurd hm (Nat.not_lt_zero _)
    | succ n ih =>
      intro k hm hk hf
      refine r_iload_n Mm dX6_placeOf_2 rfl ?_
      refine r_aload_n Mm dX6_placeOf_3 rfl ?_
      refine r_getR Mm dX6_placeOf_4 fi_X6_16 (hM.1) rfl (i := 603) rfl ((hM.2.1 3 8 8 (by decide)).1) ?_
      refine r_iload_n Mm dX6_placeOf_7 rfl ?_
      refine r_ialdN Mm dX6_placeOf_8 ((hM.2.1 3 8 8 (by decide)).2) (by omega) (by omega) ?_
      refine r_top _ (nI ((qKeys p).length)) (p3) ?_
      refine r_icmp_geN (tgt := 33) Mm dX6_placeOf_9 (by decide) (by omega) (by omega) (fun c1 => ?_) (fun c1 => ?_)
      · refine r_iload_n Mm dX6_placeOf_33 rfl ?_
        refine r_iret M dX6_placeOf_34 ?_
        exact ⟨by rw [ahead_eq hk hf (fun k hk => absurd (List.getElem?_eq_some_iff.mp hk).1 (by omega))], rfl⟩
      · refine r_aload_n Mm dX6_placeOf_12 rfl ?_
        refine r_getR Mm dX6_placeOf_13 fi_X6_25 (hM.1) rfl (i := 607) rfl ((hM.2.1 7 8 96 (by decide)).1) ?_
        refine r_bipush (v := nI 12) Mm dX6_placeOf_16 (by decide) ?_
        refine r_iload_n Mm dX6_placeOf_18 rfl ?_
        refine r_imulN Mm dX6_placeOf_19 ?_
        refine r_iload_n Mm dX6_placeOf_20 rfl ?_
        refine r_iaddN Mm dX6_placeOf_21 ?_
        refine r_ialdN Mm dX6_placeOf_22 ((hM.2.1 7 8 96 (by decide)).2) (by omega) (by omega) ?_
        obtain ⟨kk, hkk⟩ : ∃ v, (qKeys p)[k]? = some v := ⟨_, List.getElem?_eq_getElem (by omega)⟩
        refine r_top _ kk.1 ((p6 k kk hkk).1) ?_
        refine r_iload_n Mm dX6_placeOf_23 rfl ?_
        refine r_icmp_ge (tgt := 33) Mm dX6_placeOf_24 (by decide) (fun c2 => ?_) (fun c2 => ?_)
        · refine r_iload_n Mm dX6_placeOf_33 rfl ?_
          refine r_iret M dX6_placeOf_34 ?_
          exact ⟨by rw [ahead_eq hk hf (fun k hk => by rw [hkk] at hk; cases hk; exact Int32.not_lt.mpr c2)], rfl⟩
        · refine r_iincN (k := 1) Mm dX6_placeOf_27 rfl (by decide) (by decide) ?_
          show V 30 [some (.ref m), some (.int (nI i)), some (.int f), some (.int (nI (k + 1)))] _ _ _ _
          refine r_goto (tgt := 2) Mm dX6_placeOf_30 (by decide) ?_
          exact ih (k + 1) (by omega) (by omega) (fun j q hj hq => by
            by_cases hji : j < k
            · exact hf j q hji hq
            · obtain rfl : j = k := by omega
              rw [hkk] at hq; cases hq; exact Int32.not_le.mp c2)
  exact loop ((qKeys p).length + 1) 0 (by omega) (Nat.zero_le _) (fun j _ hj => absurd hj (Nat.not_lt_zero _))
set_option maxRecDepth 100000 in
set_option maxHeartbeats 4000000 in
theorem cm_hasKey {g : Gl} {l : Launch} (hfl : l.stackTraces = false) (h : Hp) (m : Nat) (ad : Nat → Nat) (hM : MS h m ad) (i : Nat) (p : PS) (hi : i < 8) (hp : MPup h ad i p) (hl : (qKeys p).length ≤ 12) (f : Int32) : CT g l iX6_hasKey 2 [.ref m, .int (nI i), .int f] h 0 0 (pRet (some (.int (bI (hasK (qKeys p) f)))) h) := by
  have hp0 := hp
  obtain ⟨p1, p2, p3, p4, p5, p6, p7, p8⟩ := hp
  refine ct_mk hfl (by decide) (Nat.le_of_ble_eq_true rfl) (by intro v hv; simp only [List.mem_cons, List.not_mem_nil, or_false] at hv; rcases hv with rfl | rfl | rfl <;> rfl) (fun V X M => ?_)
  have Mm := M.m
  show V 0 [some (.ref m), some (.int (nI i)), some (.int f), none] [] _ 0 0
  refine r_aload_n Mm dX6_hasKey_0 rfl ?_
  refine r_iload_n Mm dX6_hasKey_1 rfl ?_
  refine r_iload_n Mm dX6_hasKey_2 rfl ?_
  have hal := ahead_le (qKeys p) f
  refine r_callV (As := [(.int (nI i)), (.int f)]) Mm dX6_hasKey_3 rfl (cm_placeOf hfl h m ad hM i p hi hp0 hl f) (hM.1) rfl cw_X6_101 ⟨Nat.le_of_ble_eq_true rfl, Nat.le_of_ble_eq_true rfl, Nat.le_of_ble_eq_true rfl⟩ (Nat.le_of_ble_eq_true rfl) ⟨Nat.le_of_ble_eq_true rfl, Nat.le_of_ble_eq_true rfl⟩ (fun r1 h2 p3 => ?_) (fun Er1 h2 p3 => False.elim p3)
  obtain ⟨rfl, rfl⟩ := p3
  show V 6 _ [(.int (nI (ahead (qKeys p) f)))] _ _ _
  refine r_istore_n Mm dX6_hasKey_6 (by decide) ?_
  show V 7 [some (.ref m), some (.int (nI i)), some (.int f), some (.int (nI (ahead (qKeys p) f)))] _ _ _ _
  refine r_iload_n Mm dX6_hasKey_7 rfl ?_
  refine r_aload_n Mm dX6_hasKey_8 rfl ?_
  refine r_getR Mm dX6_hasKey_9 fi_X6_16 (hM.1) rfl (i := 603) rfl ((hM.2.1 3 8 8 (by decide)).1) ?_
  refine r_iload_n Mm dX6_hasKey_12 rfl ?_
  refine r_ialdN Mm dX6_hasKey_13 ((hM.2.1 3 8 8 (by decide)).2) (by omega) (by omega) ?_
  refine r_top _ (nI ((qKeys p).length)) (p3) ?_
  refine r_icmp_geN (tgt := 36) Mm dX6_hasKey_14 (by decide) (by omega) (by omega) (fun c4 => ?_) (fun c4 => ?_)
  · refine r_iconst (v := nI 0) Mm dX6_hasKey_36 (by decide) ?_
    refine r_zret M dX6_hasKey_37 (by decide) ?_
    refine ⟨?_, rfl⟩
    rw [show hasK (qKeys p) f = false by unfold hasK; rw [List.getElem?_eq_none (by omega)]; rfl]; rfl
  · refine r_aload_n Mm dX6_hasKey_17 rfl ?_
    refine r_getR Mm dX6_hasKey_18 fi_X6_25 (hM.1) rfl (i := 607) rfl ((hM.2.1 7 8 96 (by decide)).1) ?_
    refine r_bipush (v := nI 12) Mm dX6_hasKey_21 (by decide) ?_
    refine r_iload_n Mm dX6_hasKey_23 rfl ?_
    refine r_imulN Mm dX6_hasKey_24 ?_
    refine r_iload_n Mm dX6_hasKey_25 rfl ?_
    refine r_iaddN Mm dX6_hasKey_26 ?_
    refine r_ialdN Mm dX6_hasKey_27 ((hM.2.1 7 8 96 (by decide)).2) (by omega) (by omega) ?_
    obtain ⟨kk, hkk⟩ : ∃ v, (qKeys p)[ahead (qKeys p) f]? = some v := ⟨_, List.getElem?_eq_getElem (by omega)⟩
    refine r_top _ kk.1 ((p6 _ kk hkk).1) ?_
    refine r_iload_n Mm dX6_hasKey_28 rfl ?_
    refine r_icmp_ne (tgt := 36) Mm dX6_hasKey_29 (by decide) (fun c5 => ?_) (fun c5 => ?_)
    · refine r_iconst (v := nI 0) Mm dX6_hasKey_36 (by decide) ?_
      refine r_zret M dX6_hasKey_37 (by decide) ?_
      refine ⟨?_, rfl⟩
      rw [show hasK (qKeys p) f = false by unfold hasK; rw [hkk]; simpa using c5]; rfl
    · refine r_iconst (v := nI 1) Mm dX6_hasKey_32 (by decide) ?_
      refine r_goto (tgt := 37) Mm dX6_hasKey_33 (by decide) ?_
      refine r_zret M dX6_hasKey_37 (by decide) ?_
      refine ⟨?_, rfl⟩
      rw [show hasK (qKeys p) f = true by unfold hasK; rw [hkk]; simpa using c5]; rfl
theorem sub_pos {F n : Nat} (hF : F < 2000) (hn : n ≤ 999) : (if nI 0 < nI F - nI n then nI F - nI n else nI 0) = if n ≤ F then nI F - nI n else nI 0 := by
  by_cases c : n ≤ F
  · rw [if_pos c, pk_sub c]
    by_cases e : F - n = 0
    · rw [e]; exact if_neg (by decide)
    · exact if_pos (nI_lt (by omega) (by omega))
  · rw [if_neg c]
    obtain ⟨d, hd⟩ : ∃ d : Nat, n = F + d ∧ 0 < d := ⟨n - F, by omega, by omega⟩
    rw [hd.1, ← nI_add, show nI F - (nI F + nI d) = -(nI d) by apply Int32.toBitVec_inj.mp; simp only [Int32.toBitVec_sub, Int32.toBitVec_add, Int32.toBitVec_neg]; bv_omega]
    refine if_neg (fun z => ?_)
    have hd2 : d ≤ 999 := by omega
    have h3 : (nI d).toInt = d := nI_toInt (by omega)
    rw [Int32.lt_iff_toInt_lt, Int32.toInt_neg, h3] at z
    have : (nI 0).toInt = 0 := rfl
    rw [this] at z
    have hb : (-(d : Int)).bmod (2 ^ 32) = -(d : Int) := Int.bmod_eq_of_le (by omega) (by omega)
    rw [hb] at z
    omega
theorem nI_ne1 {n : Nat} (hn : n < 2000) : ¬ nI n = -1 := fun z => by
  have h := nI_ge0 (a := n) (by omega)
  rw [z] at h
  exact absurd h (by decide)
set_option maxRecDepth 100000 in
set_option maxHeartbeats 4000000 in
theorem cm_ownFrame {g : Gl} {l : Launch} (hfl : l.stackTraces = false) (h : Hp) (m : Nat) (ad : Nat → Nat) (hM : MS h m ad) (i : Nat) (p : PS) (hi : i < 8) (hp : MPup h ad i p) (hl : (qKeys p).length ≤ 12) (H : Nat → Int32) (hH : ∀ s < 10, xA h (ad 14) s = H s) (hr : ∀ s < 10, H s = -1 ∨ ∃ n ≤ 999, H s = nI n) (hcue : qCue p = -1 ∨ ∃ c ≤ 9, qCue p = nI c) (F : Nat) (hF : F < 2000) : CT g l iX6_ownFrame 1 [.ref m, .int (nI i), .int (nI F)] h 0 0 (pRet (some (.int (ownF H (qCue p) (nI F)))) h) := by
  have hp0 := hp
  obtain ⟨p1, p2, p3, p4, p5, p6, p7, p8⟩ := hp
  refine ct_mk hfl (by decide) (Nat.le_of_ble_eq_true rfl) (by intro v hv; simp only [List.mem_cons, List.not_mem_nil, or_false] at hv; rcases hv with rfl | rfl | rfl <;> rfl) (fun V X M => ?_)
  have Mm := M.m
  show V 0 [some (.ref m), some (.int (nI i)), some (.int (nI F)), none] [] _ 0 0
  refine r_aload_n Mm dX6_ownFrame_0 rfl ?_
  refine r_getR Mm dX6_ownFrame_1 fi_X6_19 (hM.1) rfl (i := 604) rfl ((hM.2.1 4 8 8 (by decide)).1) ?_
  refine r_iload_n Mm dX6_ownFrame_4 rfl ?_
  refine r_ialdN Mm dX6_ownFrame_5 ((hM.2.1 4 8 8 (by decide)).2) (by omega) (by omega) ?_
  refine r_top _ (qCue p) (p4) ?_
  rcases hcue with hc | ⟨c0, hc9, hc⟩
  · refine r_top _ (-1) hc ?_
    refine r_iconst (v := -1) Mm dX6_ownFrame_6 (by decide) ?_
    refine r_icmp_ne (tgt := 12) Mm dX6_ownFrame_7 (by decide) (fun c1 => ?_) (fun c1 => ?_)
    · exact absurd rfl c1
    · refine r_iload_n Mm dX6_ownFrame_10 rfl ?_
      refine r_iret M dX6_ownFrame_11 ?_
      refine ⟨?_, rfl⟩
      rw [show ownF H (qCue p) (nI F) = nI F by rw [hc]; exact if_pos (Or.inl (by decide))]
  · refine r_top _ (nI c0) hc ?_
    refine r_iconst (v := -1) Mm dX6_ownFrame_6 (by decide) ?_
    refine r_icmp_ne (tgt := 12) Mm dX6_ownFrame_7 (by decide) (fun c2 => ?_) (fun c2 => ?_)
    · refine r_aload_n Mm dX6_ownFrame_12 rfl ?_
      refine r_getR Mm dX6_ownFrame_13 fi_X6_46 (hM.1) rfl (i := 614) rfl ((hM.2.1 14 8 10 (by decide)).1) ?_
      refine r_aload_n Mm dX6_ownFrame_16 rfl ?_
      refine r_getR Mm dX6_ownFrame_17 fi_X6_19 (hM.1) rfl (i := 604) rfl ((hM.2.1 4 8 8 (by decide)).1) ?_
      refine r_iload_n Mm dX6_ownFrame_20 rfl ?_
      refine r_ialdN Mm dX6_ownFrame_21 ((hM.2.1 4 8 8 (by decide)).2) (by omega) (by omega) ?_
      refine r_top _ (nI c0) (p4.trans hc) ?_
      refine r_ialdN Mm dX6_ownFrame_22 ((hM.2.1 14 8 10 (by decide)).2) (by omega) (by omega) ?_
      refine r_top _ (H c0) (hH c0 (by omega)) ?_
      refine r_istore_n Mm dX6_ownFrame_23 (by decide) ?_
      show V 24 [some (.ref m), some (.int (nI i)), some (.int (nI F)), some (.int (H c0))] _ _ _ _
      refine r_iload_n Mm dX6_ownFrame_24 rfl ?_
      refine r_iconst (v := -1) Mm dX6_ownFrame_25 (by decide) ?_
      refine r_icmp_eq (tgt := 34) Mm dX6_ownFrame_26 (by decide) (fun c3 => ?_) (fun c3 => ?_)
      · refine r_iconst (v := nI 0) Mm dX6_ownFrame_34 (by decide) ?_
        refine r_goto (tgt := 41) Mm dX6_ownFrame_35 (by decide) ?_
        refine r_iret M dX6_ownFrame_41 ?_
        refine ⟨?_, rfl⟩
        have e : ownF H (qCue p) (nI F) = if H c0 = -1 then nI 0 else if nI 0 < nI F - H c0 then nI F - H c0 else nI 0 := by
          rw [hc, ownF, if_neg (fun z => z.elim (fun q => absurd (nI_ge0 (a := c0) (by omega)) (Int32.not_le.mpr q)) (fun q => Int32.not_le.mpr (nI_lt (show c0 < 10 by omega) (by decide)) q)), nI_clamp (by omega)]
        rw [e, if_pos c3]
      · refine r_iload_n Mm dX6_ownFrame_29 rfl ?_
        refine r_iload_n Mm dX6_ownFrame_30 rfl ?_
        refine r_icmp_ge (tgt := 38) Mm dX6_ownFrame_31 (by decide) (fun c4 => ?_) (fun c4 => ?_)
        · refine r_iload_n Mm dX6_ownFrame_38 rfl ?_
          refine r_iload_n Mm dX6_ownFrame_39 rfl ?_
          refine r_isub Mm dX6_ownFrame_40 ?_
          refine r_iret M dX6_ownFrame_41 ?_
          refine ⟨?_, rfl⟩
          have e : ownF H (qCue p) (nI F) = if H c0 = -1 then nI 0 else if nI 0 < nI F - H c0 then nI F - H c0 else nI 0 := by
            rw [hc, ownF, if_neg (fun z => z.elim (fun q => absurd (nI_ge0 (a := c0) (by omega)) (Int32.not_le.mpr q)) (fun q => Int32.not_le.mpr (nI_lt (show c0 < 10 by omega) (by decide)) q)), nI_clamp (by omega)]
          obtain ⟨n, hn, hN⟩ := (hr c0 (by omega)).resolve_left c3
          rw [e, if_neg c3]
          rw [hN] at c4 ⊢
          rw [sub_pos hF hn, if_pos ((nI_leI (by omega) (by omega)).mp c4)]
        · refine r_iconst (v := nI 0) Mm dX6_ownFrame_34 (by decide) ?_
          refine r_goto (tgt := 41) Mm dX6_ownFrame_35 (by decide) ?_
          refine r_iret M dX6_ownFrame_41 ?_
          refine ⟨?_, rfl⟩
          have e : ownF H (qCue p) (nI F) = if H c0 = -1 then nI 0 else if nI 0 < nI F - H c0 then nI F - H c0 else nI 0 := by
            rw [hc, ownF, if_neg (fun z => z.elim (fun q => absurd (nI_ge0 (a := c0) (by omega)) (Int32.not_le.mpr q)) (fun q => Int32.not_le.mpr (nI_lt (show c0 < 10 by omega) (by decide)) q)), nI_clamp (by omega)]
          obtain ⟨n, hn, hN⟩ := (hr c0 (by omega)).resolve_left c3
          rw [e, if_neg c3]
          rw [hN] at c4 ⊢
          rw [sub_pos hF hn, if_neg (fun z => c4 ((nI_leI (by omega) (by omega)).mpr z))]
    · exact absurd c2 (nI_ne1 (by omega))
set_option maxRecDepth 100000 in
set_option maxHeartbeats 4000000 in
theorem cm_castOf {g : Gl} {l : Launch} (hfl : l.stackTraces = false) (h : Hp) (m : Nat) (ad : Nat → Nat) (hM : MS h m ad) (j N : Nat) (S : SS) (hj : j < 6) (hs : MSho h ad j S) (hN : N ≤ 8) (hg : xF h 606 m = nI N) : CT g l iX6_castOf 1 [.ref m, .int (nI j)] h 0 0 (pRet (some (.int (nI (cnt (tCast S) N)))) h) := by
  obtain ⟨s1, s2, s3, s4, s5, s6⟩ := hs
  refine ct_mk hfl (by decide) (Nat.le_of_ble_eq_true rfl) (by intro v hv; simp only [List.mem_cons, List.not_mem_nil, or_false] at hv; rcases hv with rfl | rfl <;> rfl) (fun V X M => ?_)
  have Mm := M.m
  show V 0 [some (.ref m), some (.int (nI j)), none, none] [] _ 0 0
  refine r_iconst (v := nI 0) Mm dX6_castOf_0 (by decide) ?_
  refine r_istore_n Mm dX6_castOf_1 (by decide) ?_
  show V 2 [some (.ref m), some (.int (nI j)), some (.int (nI 0)), none] _ _ _ _
  refine r_iconst (v := nI 0) Mm dX6_castOf_2 (by decide) ?_
  refine r_istore_n Mm dX6_castOf_3 (by decide) ?_
  show V 4 [some (.ref m), some (.int (nI j)), some (.int (nI 0)), some (.int (nI 0))] _ _ _ _
  have loop : ∀ (n : Nat) (q : Nat), N - q < n → (q ≤ N) → V 4 [some (.ref m), some (.int (nI j)), some (.int (nI (cnt (tCast S) q))), some (.int (nI q))] [] h 0 0 := by
    intro n
    induction n with
    | zero => intro q hm; exact absurd hm (Nat.not_lt_zero _)
    | succ n ih =>
      intro q hm hq
      have hcl := cnt_le (tCast S) q
      refine r_iload_n Mm dX6_castOf_4 rfl ?_
      refine r_aload_n Mm dX6_castOf_5 rfl ?_
      refine r_getI Mm dX6_castOf_6 fi_X6_84 (hM.1) rfl (i := 606) rfl ?_
      refine r_top _ (nI N) (hg) ?_
      refine r_icmp_geN (tgt := 40) Mm dX6_castOf_9 (by decide) (by omega) (by omega) (fun c1 => ?_) (fun c1 => ?_)
      · refine r_iload_n Mm dX6_castOf_40 rfl ?_
        refine r_iret M dX6_castOf_41 ?_
        obtain rfl : q = N := by omega
        exact ⟨rfl, rfl⟩
      · refine r_iload_n Mm dX6_castOf_12 rfl ?_
        refine r_aload_n Mm dX6_castOf_13 rfl ?_
        refine r_getR Mm dX6_castOf_14 fi_X6_65 (hM.1) rfl (i := 620) rfl ((hM.2.1 20 9 48 (by decide)).1) ?_
        refine r_bipush (v := nI 8) Mm dX6_castOf_17 (by decide) ?_
        refine r_iload_n Mm dX6_castOf_19 rfl ?_
        refine r_imulN Mm dX6_castOf_20 ?_
        refine r_iload_n Mm dX6_castOf_21 rfl ?_
        refine r_iaddN Mm dX6_castOf_22 ?_
        refine r_zaldN Mm dX6_castOf_23 ((hM.2.1 20 9 48 (by decide)).2) (by omega) (by omega) ?_
        refine r_top _ (bI (tCast S q)) (s6 q (by omega)) ?_
        refine r_if_eqB (tgt := 31) Mm dX6_castOf_24 (by decide) (fun c2 => ?_) (fun c2 => ?_)
        · refine r_iconst (v := nI 0) Mm dX6_castOf_31 (by decide) ?_
          refine r_iaddN Mm dX6_castOf_32 ?_
          refine r_istore_n Mm dX6_castOf_33 (by decide) ?_
          show V 34 [some (.ref m), some (.int (nI j)), some (.int (nI ((cnt (tCast S) q) + 0))), some (.int (nI q))] _ _ _ _
          refine r_iincN (k := 1) Mm dX6_castOf_34 rfl (by decide) (by decide) ?_
          show V 37 [some (.ref m), some (.int (nI j)), some (.int (nI ((cnt (tCast S) q) + 0))), some (.int (nI (q + 1)))] _ _ _ _
          refine r_goto (tgt := 4) Mm dX6_castOf_37 (by decide) ?_
          have e9 : cnt (tCast S) (q + 1) = cnt (tCast S) q + 0 := by rw [cnt, if_neg (by rw [c2]; exact Bool.noConfusion)]
          have l9 := ih (q + 1) (by omega) (by omega)
          rw [e9] at l9
          exact l9
        · refine r_iconst (v := nI 1) Mm dX6_castOf_27 (by decide) ?_
          refine r_goto (tgt := 32) Mm dX6_castOf_28 (by decide) ?_
          refine r_iaddN Mm dX6_castOf_32 ?_
          refine r_istore_n Mm dX6_castOf_33 (by decide) ?_
          show V 34 [some (.ref m), some (.int (nI j)), some (.int (nI ((cnt (tCast S) q) + 1))), some (.int (nI q))] _ _ _ _
          refine r_iincN (k := 1) Mm dX6_castOf_34 rfl (by decide) (by decide) ?_
          show V 37 [some (.ref m), some (.int (nI j)), some (.int (nI ((cnt (tCast S) q) + 1))), some (.int (nI (q + 1)))] _ _ _ _
          refine r_goto (tgt := 4) Mm dX6_castOf_37 (by decide) ?_
          have e9 : cnt (tCast S) (q + 1) = cnt (tCast S) q + 1 := by rw [cnt, if_pos c2]
          have l9 := ih (q + 1) (by omega) (by omega)
          rw [e9] at l9
          exact l9
  exact loop (N + 1) 0 (by omega) (Nat.zero_le _)
theorem anyN_list {α : Type} (l : List α) (P : α → Bool) : anyN (fun k => (l[k]?).any P) l.length = l.any P := by
  cases hb : l.any P with
  | true =>
    obtain ⟨w, hw, hp⟩ := List.any_eq_true.mp hb
    obtain ⟨k, hk⟩ := List.getElem?_of_mem hw
    exact anyN_yes (j := k) (List.getElem?_eq_some_iff.mp hk).1 (by rw [hk]; exact hp)
  | false =>
    refine anyN_no (fun k hk => ?_)
    rw [List.getElem?_eq_getElem hk]
    exact Bool.eq_false_iff.mpr ((List.any_eq_false.mp hb) _ (List.getElem_mem hk))
set_option maxRecDepth 100000 in
set_option maxHeartbeats 4000000 in
theorem cm_busy {g : Gl} {l : Launch} (hfl : l.stackTraces = false) (h : Hp) (m : Nat) (ad : Nat → Nat) (hM : MS h m ad) (i : Nat) (p : PS) (hi : i < 8) (hp : MPup h ad i p) (hl : (qMend p).length ≤ 10) (S : Nat → SS) (ns : Nat) (hM6 : ns ≤ 6) (hsh : ∀ j < 6, MSho h ad j (S j)) (hg : xF h 621 m = nI ns) (f n : Int32) : CT g l iX6_isBusyIn 2 [.ref m, .int (nI i), .int f, .int n] h 0 0 (pRet (some (.int (bI (anyN (fun j => tCast (S j) i && meetS (tSpan (S j)) (f, n)) ns || (qMend p).any (fun w => meetS w (f, n)))))) h) := by
  obtain ⟨p1, p2, p3, p4, p5, p6, p7, p8⟩ := hp
  refine ct_mk hfl (by decide) (Nat.le_of_ble_eq_true rfl) (by intro v hv; simp only [List.mem_cons, List.not_mem_nil, or_false] at hv; rcases hv with rfl | rfl | rfl | rfl <;> rfl) (fun V X M => ?_)
  have Mm := M.m
  show V 0 [some (.ref m), some (.int (nI i)), some (.int f), some (.int n), none, none] [] _ 0 0
  refine r_iconst (v := nI 0) Mm dX6_isBusyIn_0 (by decide) ?_
  refine r_istore Mm dX6_isBusyIn_1 (by decide) ?_
  show V 3 [some (.ref m), some (.int (nI i)), some (.int f), some (.int n), some (.int (nI 0)), none] _ _ _ _
  refine r_iconst (v := nI 0) Mm dX6_isBusyIn_3 (by decide) ?_
  refine r_istore Mm dX6_isBusyIn_4 (by decide) ?_
  show V 6 [some (.ref m), some (.int (nI i)), some (.int f), some (.int n), some (.int (nI 0)), some (.int (nI 0))] _ _ _ _
  have loop : ∀ (u : Nat) (j : Nat), ns - j < u → (j ≤ ns) → V 6 [some (.ref m), some (.int (nI i)), some (.int f), some (.int n), some (.int (bI (anyN (fun j => tCast (S j) i && meetS (tSpan (S j)) (f, n)) j))), some (.int (nI j))] [] h 0 0 := by
    intro u
    induction u with
    | zero => intro j hm; exact absurd hm (Nat.not_lt_zero _)
    | succ u ih =>
      intro j hm hj
      refine r_iload Mm dX6_isBusyIn_6 rfl ?_
      refine r_aload_n Mm dX6_isBusyIn_8 rfl ?_
      refine r_getI Mm dX6_isBusyIn_9 fi_X6_91 (hM.1) rfl (i := 621) rfl ?_
      refine r_top _ (nI ns) (hg) ?_
      refine r_icmp_geN (tgt := 70) Mm dX6_isBusyIn_12 (by decide) (by omega) (by omega) (fun c1 => ?_) (fun c1 => ?_)
      · refine r_bipush (v := nI 10) Mm dX6_isBusyIn_70 (by decide) ?_
        refine r_iload_n Mm dX6_isBusyIn_72 rfl ?_
        refine r_imulN Mm dX6_isBusyIn_73 ?_
        refine r_istore Mm dX6_isBusyIn_74 (by decide) ?_
        show V 76 [some (.ref m), some (.int (nI i)), some (.int f), some (.int n), some (.int (bI (anyN (fun j => tCast (S j) i && meetS (tSpan (S j)) (f, n)) j))), some (.int (nI (10 * i)))] _ _ _ _
        obtain rfl : j = ns := by omega
        have h0 : (anyN (fun j => tCast (S j) i && meetS (tSpan (S j)) (f, n)) j || anyN (fun k => ((qMend p)[k]?).any (fun w => meetS w (f, n))) 0) = anyN (fun j => tCast (S j) i && meetS (tSpan (S j)) (f, n)) j := Bool.or_false _
        rw [← h0]
        have loop : ∀ (q : Nat) (k : Nat), (qMend p).length - k < q → (k ≤ (qMend p).length) → V 76 [some (.ref m), some (.int (nI i)), some (.int f), some (.int n), some (.int (bI (anyN (fun j => tCast (S j) i && meetS (tSpan (S j)) (f, n)) j || anyN (fun k => ((qMend p)[k]?).any (fun w => meetS w (f, n))) k))), some (.int (nI (10 * i + k)))] [] h 0 0 := by
          intro q
          induction q with
          | zero => intro k hm; exact absurd hm (Nat.not_lt_zero _)
          | succ q ih =>
            intro k hm hk
            refine r_iload Mm dX6_isBusyIn_76 rfl ?_
            refine r_bipush (v := nI 10) Mm dX6_isBusyIn_78 (by decide) ?_
            refine r_iload_n Mm dX6_isBusyIn_80 rfl ?_
            refine r_imulN Mm dX6_isBusyIn_81 ?_
            refine r_aload_n Mm dX6_isBusyIn_82 rfl ?_
            refine r_getR Mm dX6_isBusyIn_83 fi_X6_43 (hM.1) rfl (i := 613) rfl ((hM.2.1 13 8 8 (by decide)).1) ?_
            refine r_iload_n Mm dX6_isBusyIn_86 rfl ?_
            refine r_ialdN Mm dX6_isBusyIn_87 ((hM.2.1 13 8 8 (by decide)).2) (by omega) (by omega) ?_
            refine r_top _ (nI ((qMend p).length)) (p7) ?_
            refine r_iaddN Mm dX6_isBusyIn_88 ?_
            refine r_icmp_geN (tgt := 132) Mm dX6_isBusyIn_89 (by decide) (by omega) (by omega) (fun c2 => ?_) (fun c2 => ?_)
            · refine r_iload Mm dX6_isBusyIn_132 rfl ?_
              refine r_zret M dX6_isBusyIn_134 (bI_nar (anyN (fun j => tCast (S j) i && meetS (tSpan (S j)) (f, n)) j || anyN (fun k => ((qMend p)[k]?).any (fun w => meetS w (f, n))) k)) ?_
              obtain rfl : k = (qMend p).length := by omega
              rw [anyN_list]
              exact ⟨rfl, rfl⟩
            · refine r_iload Mm dX6_isBusyIn_92 rfl ?_
              refine r_if_neB (tgt := 119) Mm dX6_isBusyIn_94 (by decide) (fun c3 => ?_) (fun c3 => ?_)
              · refine r_iconst (v := nI 1) Mm dX6_isBusyIn_119 (by decide) ?_
                refine r_goto (tgt := 124) Mm dX6_isBusyIn_120 (by decide) ?_
                refine r_istore Mm dX6_isBusyIn_124 (by decide) ?_
                show V 126 [some (.ref m), some (.int (nI i)), some (.int f), some (.int n), some (.int (nI 1)), some (.int (nI (10 * i + k)))] _ _ _ _
                refine r_iincN (k := 1) Mm dX6_isBusyIn_126 rfl (by decide) (by decide) ?_
                show V 129 [some (.ref m), some (.int (nI i)), some (.int f), some (.int n), some (.int (nI 1)), some (.int (nI (10 * i + k + 1)))] _ _ _ _
                refine r_goto (tgt := 76) Mm dX6_isBusyIn_129 (by decide) ?_
                have e9 : (anyN (fun j => tCast (S j) i && meetS (tSpan (S j)) (f, n)) j || anyN (fun k => ((qMend p)[k]?).any (fun w => meetS w (f, n))) (k + 1)) = true := by rw [show anyN (fun k => ((qMend p)[k]?).any (fun w => meetS w (f, n))) (k + 1) = (anyN (fun k => ((qMend p)[k]?).any (fun w => meetS w (f, n))) k || (fun k => ((qMend p)[k]?).any (fun w => meetS w (f, n))) k) from rfl, ← Bool.or_assoc, c3, Bool.true_or]
                have l9 := ih (k + 1) (by omega) (by omega)
                rw [e9] at l9
                exact l9
              · refine r_iload_n Mm dX6_isBusyIn_97 rfl ?_
                refine r_iload_n Mm dX6_isBusyIn_98 rfl ?_
                refine r_aload_n Mm dX6_isBusyIn_99 rfl ?_
                refine r_getR Mm dX6_isBusyIn_100 fi_X6_37 (hM.1) rfl (i := 611) rfl ((hM.2.1 11 8 80 (by decide)).1) ?_
                refine r_iload Mm dX6_isBusyIn_103 rfl ?_
                refine r_ialdN Mm dX6_isBusyIn_105 ((hM.2.1 11 8 80 (by decide)).2) (by omega) (by omega) ?_
                obtain ⟨ww, hww⟩ : ∃ v, (qMend p)[k]? = some v := ⟨_, List.getElem?_eq_getElem (by omega)⟩
                refine r_top _ ww.1 ((p8 k ww hww).1) ?_
                refine r_aload_n Mm dX6_isBusyIn_106 rfl ?_
                refine r_getR Mm dX6_isBusyIn_107 fi_X6_40 (hM.1) rfl (i := 612) rfl ((hM.2.1 12 8 80 (by decide)).1) ?_
                refine r_iload Mm dX6_isBusyIn_110 rfl ?_
                refine r_ialdN Mm dX6_isBusyIn_112 ((hM.2.1 12 8 80 (by decide)).2) (by omega) (by omega) ?_
                refine r_top _ ww.2 ((p8 k ww hww).2) ?_
                refine r_callS (As := [(.int f), (.int n), (.int ww.1), (.int ww.2)]) Mm dX6_isBusyIn_113 rfl (cm_areOver hfl h f n ww.1 ww.2) cw_X6_117 ⟨Nat.le_of_ble_eq_true rfl, Nat.le_of_ble_eq_true rfl, Nat.le_of_ble_eq_true rfl⟩ (Nat.le_of_ble_eq_true rfl) ⟨Nat.le_of_ble_eq_true rfl, Nat.le_of_ble_eq_true rfl⟩ (fun r4 h5 p6 => ?_) (fun Er4 h5 p6 => False.elim p6)
                obtain ⟨rfl, rfl⟩ := p6
                show V 116 _ [(.int (bI (meetS (ww.1, ww.2) (f, n))))] _ _ _
                refine r_if_eqB (tgt := 123) Mm dX6_isBusyIn_116 (by decide) (fun c7 => ?_) (fun c7 => ?_)
                · refine r_iconst (v := nI 0) Mm dX6_isBusyIn_123 (by decide) ?_
                  refine r_istore Mm dX6_isBusyIn_124 (by decide) ?_
                  show V 126 [some (.ref m), some (.int (nI i)), some (.int f), some (.int n), some (.int (nI 0)), some (.int (nI (10 * i + k)))] _ _ _ _
                  refine r_iincN (k := 1) Mm dX6_isBusyIn_126 rfl (by decide) (by decide) ?_
                  show V 129 [some (.ref m), some (.int (nI i)), some (.int f), some (.int n), some (.int (nI 0)), some (.int (nI (10 * i + k + 1)))] _ _ _ _
                  refine r_goto (tgt := 76) Mm dX6_isBusyIn_129 (by decide) ?_
                  have eg : (fun k => ((qMend p)[k]?).any (fun w => meetS w (f, n))) k = meetS ww (f, n) := by show ((qMend p)[k]?).any (fun w => meetS w (f, n)) = _; rw [hww]; rfl
                  have e9 : (anyN (fun j => tCast (S j) i && meetS (tSpan (S j)) (f, n)) j || anyN (fun k => ((qMend p)[k]?).any (fun w => meetS w (f, n))) (k + 1)) = false := by rw [show anyN (fun k => ((qMend p)[k]?).any (fun w => meetS w (f, n))) (k + 1) = (anyN (fun k => ((qMend p)[k]?).any (fun w => meetS w (f, n))) k || (fun k => ((qMend p)[k]?).any (fun w => meetS w (f, n))) k) from rfl, ← Bool.or_assoc, c3, eg, show meetS ww (f, n) = false from c7]; rfl
                  have l9 := ih (k + 1) (by omega) (by omega)
                  rw [e9] at l9
                  exact l9
                · refine r_iconst (v := nI 1) Mm dX6_isBusyIn_119 (by decide) ?_
                  refine r_goto (tgt := 124) Mm dX6_isBusyIn_120 (by decide) ?_
                  refine r_istore Mm dX6_isBusyIn_124 (by decide) ?_
                  show V 126 [some (.ref m), some (.int (nI i)), some (.int f), some (.int n), some (.int (nI 1)), some (.int (nI (10 * i + k)))] _ _ _ _
                  refine r_iincN (k := 1) Mm dX6_isBusyIn_126 rfl (by decide) (by decide) ?_
                  show V 129 [some (.ref m), some (.int (nI i)), some (.int f), some (.int n), some (.int (nI 1)), some (.int (nI (10 * i + k + 1)))] _ _ _ _
                  refine r_goto (tgt := 76) Mm dX6_isBusyIn_129 (by decide) ?_
                  have eg : (fun k => ((qMend p)[k]?).any (fun w => meetS w (f, n))) k = meetS ww (f, n) := by show ((qMend p)[k]?).any (fun w => meetS w (f, n)) = _; rw [hww]; rfl
                  have e9 : (anyN (fun j => tCast (S j) i && meetS (tSpan (S j)) (f, n)) j || anyN (fun k => ((qMend p)[k]?).any (fun w => meetS w (f, n))) (k + 1)) = true := by rw [show anyN (fun k => ((qMend p)[k]?).any (fun w => meetS w (f, n))) (k + 1) = (anyN (fun k => ((qMend p)[k]?).any (fun w => meetS w (f, n))) k || (fun k => ((qMend p)[k]?).any (fun w => meetS w (f, n))) k) from rfl, ← Bool.or_assoc, c3, eg, show meetS ww (f, n) = true from c7]; rfl
                  have l9 := ih (k + 1) (by omega) (by omega)
                  rw [e9] at l9
                  exact l9
        exact loop ((qMend p).length + 1) 0 (by omega) (Nat.zero_le _)
      · refine r_iload Mm dX6_isBusyIn_15 rfl ?_
        refine r_if_neB (tgt := 57) Mm dX6_isBusyIn_17 (by decide) (fun c8 => ?_) (fun c8 => ?_)
        · refine r_iconst (v := nI 1) Mm dX6_isBusyIn_57 (by decide) ?_
          refine r_goto (tgt := 62) Mm dX6_isBusyIn_58 (by decide) ?_
          refine r_istore Mm dX6_isBusyIn_62 (by decide) ?_
          show V 64 [some (.ref m), some (.int (nI i)), some (.int f), some (.int n), some (.int (nI 1)), some (.int (nI j))] _ _ _ _
          refine r_iincN (k := 1) Mm dX6_isBusyIn_64 rfl (by decide) (by decide) ?_
          show V 67 [some (.ref m), some (.int (nI i)), some (.int f), some (.int n), some (.int (nI 1)), some (.int (nI (j + 1)))] _ _ _ _
          refine r_goto (tgt := 6) Mm dX6_isBusyIn_67 (by decide) ?_
          have e9 : anyN (fun j => tCast (S j) i && meetS (tSpan (S j)) (f, n)) (j + 1) = true := by rw [anyN, c8, Bool.true_or]
          have l9 := ih (j + 1) (by omega) (by omega)
          rw [e9] at l9
          exact l9
        · refine r_aload_n Mm dX6_isBusyIn_20 rfl ?_
          refine r_getR Mm dX6_isBusyIn_21 fi_X6_65 (hM.1) rfl (i := 620) rfl ((hM.2.1 20 9 48 (by decide)).1) ?_
          refine r_bipush (v := nI 8) Mm dX6_isBusyIn_24 (by decide) ?_
          refine r_iload Mm dX6_isBusyIn_26 rfl ?_
          refine r_imulN Mm dX6_isBusyIn_28 ?_
          refine r_iload_n Mm dX6_isBusyIn_29 rfl ?_
          refine r_iaddN Mm dX6_isBusyIn_30 ?_
          refine r_zaldN Mm dX6_isBusyIn_31 ((hM.2.1 20 9 48 (by decide)).2) (by omega) (by omega) ?_
          refine r_top _ (bI (tCast (S j) i)) ((hsh j (by omega)).2.2.2.2.2 i hi) ?_
          refine r_if_eqB (tgt := 61) Mm dX6_isBusyIn_32 (by decide) (fun c9 => ?_) (fun c9 => ?_)
          · refine r_iconst (v := nI 0) Mm dX6_isBusyIn_61 (by decide) ?_
            refine r_istore Mm dX6_isBusyIn_62 (by decide) ?_
            show V 64 [some (.ref m), some (.int (nI i)), some (.int f), some (.int n), some (.int (nI 0)), some (.int (nI j))] _ _ _ _
            refine r_iincN (k := 1) Mm dX6_isBusyIn_64 rfl (by decide) (by decide) ?_
            show V 67 [some (.ref m), some (.int (nI i)), some (.int f), some (.int n), some (.int (nI 0)), some (.int (nI (j + 1)))] _ _ _ _
            refine r_goto (tgt := 6) Mm dX6_isBusyIn_67 (by decide) ?_
            have e9 : anyN (fun j => tCast (S j) i && meetS (tSpan (S j)) (f, n)) (j + 1) = false := by rw [anyN, c8, c9, Bool.false_and, Bool.or_self]
            have l9 := ih (j + 1) (by omega) (by omega)
            rw [e9] at l9
            exact l9
          · refine r_iload_n Mm dX6_isBusyIn_35 rfl ?_
            refine r_iload_n Mm dX6_isBusyIn_36 rfl ?_
            refine r_aload_n Mm dX6_isBusyIn_37 rfl ?_
            refine r_getR Mm dX6_isBusyIn_38 fi_X6_49 (hM.1) rfl (i := 615) rfl ((hM.2.1 15 8 6 (by decide)).1) ?_
            refine r_iload Mm dX6_isBusyIn_41 rfl ?_
            refine r_ialdN Mm dX6_isBusyIn_43 ((hM.2.1 15 8 6 (by decide)).2) (by omega) (by omega) ?_
            refine r_top _ (tSpan (S j)).1 ((hsh j (by omega)).1) ?_
            refine r_aload_n Mm dX6_isBusyIn_44 rfl ?_
            refine r_getR Mm dX6_isBusyIn_45 fi_X6_52 (hM.1) rfl (i := 616) rfl ((hM.2.1 16 8 6 (by decide)).1) ?_
            refine r_iload Mm dX6_isBusyIn_48 rfl ?_
            refine r_ialdN Mm dX6_isBusyIn_50 ((hM.2.1 16 8 6 (by decide)).2) (by omega) (by omega) ?_
            refine r_top _ (tSpan (S j)).2 ((hsh j (by omega)).2.1) ?_
            refine r_callS (As := [(.int f), (.int n), (.int (tSpan (S j)).1), (.int (tSpan (S j)).2)]) Mm dX6_isBusyIn_51 rfl (cm_areOver hfl h f n (tSpan (S j)).1 (tSpan (S j)).2) cw_X6_117 ⟨Nat.le_of_ble_eq_true rfl, Nat.le_of_ble_eq_true rfl, Nat.le_of_ble_eq_true rfl⟩ (Nat.le_of_ble_eq_true rfl) ⟨Nat.le_of_ble_eq_true rfl, Nat.le_of_ble_eq_true rfl⟩ (fun r10 h11 p12 => ?_) (fun Er10 h11 p12 => False.elim p12)
            obtain ⟨rfl, rfl⟩ := p12
            show V 54 _ [(.int (bI (meetS ((tSpan (S j)).1, (tSpan (S j)).2) (f, n))))] _ _ _
            refine r_if_eqB (tgt := 61) Mm dX6_isBusyIn_54 (by decide) (fun c13 => ?_) (fun c13 => ?_)
            · refine r_iconst (v := nI 0) Mm dX6_isBusyIn_61 (by decide) ?_
              refine r_istore Mm dX6_isBusyIn_62 (by decide) ?_
              show V 64 [some (.ref m), some (.int (nI i)), some (.int f), some (.int n), some (.int (nI 0)), some (.int (nI j))] _ _ _ _
              refine r_iincN (k := 1) Mm dX6_isBusyIn_64 rfl (by decide) (by decide) ?_
              show V 67 [some (.ref m), some (.int (nI i)), some (.int f), some (.int n), some (.int (nI 0)), some (.int (nI (j + 1)))] _ _ _ _
              refine r_goto (tgt := 6) Mm dX6_isBusyIn_67 (by decide) ?_
              have e9 : anyN (fun j => tCast (S j) i && meetS (tSpan (S j)) (f, n)) (j + 1) = false := by rw [anyN, c8, show meetS (tSpan (S j)) (f, n) = false from c13, Bool.and_false, Bool.or_self]
              have l9 := ih (j + 1) (by omega) (by omega)
              rw [e9] at l9
              exact l9
            · refine r_iconst (v := nI 1) Mm dX6_isBusyIn_57 (by decide) ?_
              refine r_goto (tgt := 62) Mm dX6_isBusyIn_58 (by decide) ?_
              refine r_istore Mm dX6_isBusyIn_62 (by decide) ?_
              show V 64 [some (.ref m), some (.int (nI i)), some (.int f), some (.int n), some (.int (nI 1)), some (.int (nI j))] _ _ _ _
              refine r_iincN (k := 1) Mm dX6_isBusyIn_64 rfl (by decide) (by decide) ?_
              show V 67 [some (.ref m), some (.int (nI i)), some (.int f), some (.int n), some (.int (nI 1)), some (.int (nI (j + 1)))] _ _ _ _
              refine r_goto (tgt := 6) Mm dX6_isBusyIn_67 (by decide) ?_
              have e9 : anyN (fun j => tCast (S j) i && meetS (tSpan (S j)) (f, n)) (j + 1) = true := by rw [anyN, c9, show meetS (tSpan (S j)) (f, n) = true from c13, Bool.and_self, Bool.or_true]
              have l9 := ih (j + 1) (by omega) (by omega)
              rw [e9] at l9
              exact l9
  exact loop (ns + 1) 0 (by omega) (Nat.zero_le _)
