/-! ===== what the calls share ===== -/
def anyN (f : Nat → Bool) : Nat → Bool
  | 0 => false
  | n + 1 => anyN f n || f n
theorem anyN_no {f : Nat → Bool} {n : Nat} (h : ∀ j < n, f j = false) : anyN f n = false := by
  induction n with
  | zero => rfl
  | succ n ih => rw [anyN, ih (fun j hj => h j (by omega)), h n (by omega)]; rfl
theorem anyN_yes {f : Nat → Bool} {n j : Nat} (hj : j < n) (h : f j = true) : anyN f n = true := by
  induction n with
  | zero => omega
  | succ n ih =>
    rw [anyN]
    by_cases e : j = n
    · subst e; rw [h, Bool.or_true]
    · rw [ih (by omega), Bool.true_or]
def takenS (σ : ST) (i : Nat) (w : Int32 × Int32) : Bool := anyN (fun j => tCast (eS σ j) i && meetS (tSpan (eS σ j)) w) (eM σ) || (qMend (eP σ i)).any (fun m => meetS m w)
def ownF (H : Nat → Int32) (cue f : Int32) : Int32 := if cue < 0 ∨ nI 10 ≤ cue then f else if H cue.toNatClampNeg = -1 then nI 0 else if nI 0 < f - H cue.toNatClampNeg then f - H cue.toNatClampNeg else nI 0
/-- one lower puppet of the show: keep off it -/
def keepStep (c : Nat → Bool) (Q : Nat → Int32 × Int32) (q : Nat) (v : (Int32 × Int32) × Bool) : (Int32 × Int32) × Bool := if c q = true then (if nearS v.1 (Q q) = true then ((awayS v.1.1 (Q q).1, v.1.2), true) else v) else v
def keepL (c : Nat → Bool) (Q : Nat → Int32 × Int32) (v0 : Int32 × Int32) : Nat → (Int32 × Int32) × Bool
  | 0 => (v0, false)
  | n + 1 => keepStep c Q n (keepL c Q v0 n)
def endP (bar len : Int32) (v : (Int32 × Int32) × Bool) : (Int32 × Int32) × Bool := if v.2 = true then (pullS bar len v.1, true) else v
def setP (σ : ST) (c : Nat → Bool) (f : Int32) (Q : Nat → Int32 × Int32) (n : Nat) : (Int32 × Int32) × Bool := endP (qBar (eP σ n)) (qLen (eP σ n)) (keepL c Q (pullS (qBar (eP σ n)) (qLen (eP σ n)) (trk (qBar (eP σ n)) (qKeys (eP σ n)) (ownF (eH σ) (qCue (eP σ n)) f))) n)
def goQ (σ : ST) (c : Nat → Bool) (f : Int32) : Nat → Nat → (Int32 × Int32) × Bool
  | 0 => fun _ => ((0, 0), false)
  | n + 1 => fun q => if q = n then setP σ c f (fun j => (goQ σ c f n j).1) n else goQ σ c f n q
theorem goQ_low (σ : ST) (c : Nat → Bool) (f : Int32) {q n : Nat} (h : q < n) : goQ σ c f n q = goQ σ c f (q + 1) q := by
  induction n with
  | zero => omega
  | succ n ih =>
    by_cases e : q = n
    · subst e; rfl
    · rw [goQ]; simp only [if_neg e]; exact ih (by omega)
theorem hasC_nI8 {c : Nat → Bool} {i : Nat} (h : i < 8) : hasC c (nI i) = c i := hasC_nI h
set_option maxRecDepth 100000 in
set_option maxHeartbeats 4000000 in
theorem ct_needOk {g : Gl} {l : Launch} (hfl : l.stackTraces = false) (h : Hp) (v lo hi : Int32) (h1 : lo ≤ v) (h2 : v ≤ hi) : CT g l iX5_needWithin 7 [.int v, .int lo, .int hi] h 0 0 (pRet none h) := by
  refine ct_mk hfl (by decide) (Nat.le_of_ble_eq_true rfl) (by intro v hv; simp only [List.mem_cons, List.not_mem_nil, or_false] at hv; rcases hv with rfl | rfl | rfl <;> rfl) (fun V X M => ?_)
  have Mm := M.m
  show V 0 [some (.int v), some (.int lo), some (.int hi)] [] _ 0 0
  refine r_iload_n Mm dX5_needWithin_0 rfl ?_
  refine r_iload_n Mm dX5_needWithin_1 rfl ?_
  refine r_icmp_lt (tgt := 10) Mm dX5_needWithin_2 (by decide) (fun c1 => ?_) (fun c1 => ?_)
  · exact absurd c1 (Int32.not_lt.mpr h1)
  · refine r_iload_n Mm dX5_needWithin_5 rfl ?_
    refine r_iload_n Mm dX5_needWithin_6 rfl ?_
    refine r_icmp_le (tgt := 20) Mm dX5_needWithin_7 (by decide) (fun c2 => ?_) (fun c2 => ?_)
    · refine r_vret M dX5_needWithin_20 ?_
      exact ⟨rfl, rfl⟩
    · exact absurd h2 c2
set_option maxRecDepth 100000 in
set_option maxHeartbeats 4000000 in
theorem ct_needBad {g : Gl} {l : Launch} (hfl : l.stackTraces = false) (h : Hp) (v lo hi : Int32) (hb : v < lo ∨ hi < v) : CT g l iX5_needWithin 7 [.int v, .int lo, .int hi] h 1 6 (pThr "java/lang/IllegalArgumentException" h) := by
  refine ct_mk hfl (by decide) (Nat.le_of_ble_eq_true rfl) (by intro v hv; simp only [List.mem_cons, List.not_mem_nil, or_false] at hv; rcases hv with rfl | rfl | rfl <;> rfl) (fun V X M => ?_)
  have Mm := M.m
  show V 0 [some (.int v), some (.int lo), some (.int hi)] [] _ 0 0
  refine r_iload_n Mm dX5_needWithin_0 rfl ?_
  refine r_iload_n Mm dX5_needWithin_1 rfl ?_
  refine r_icmp_lt (tgt := 10) Mm dX5_needWithin_2 (by decide) (fun c1 => ?_) (fun c1 => ?_)
  · refine r_throw M ti_212 dX5_needWithin_10 dX5_needWithin_13 dX5_needWithin_14 dX5_needWithin_16 dX5_needWithin_19 (by decide) (Nat.le_of_ble_eq_true rfl) ⟨Nat.le_of_ble_eq_true rfl, Nat.le_of_ble_eq_true rfl⟩ ?_
    exact ⟨rfl, rfl⟩
  · refine r_iload_n Mm dX5_needWithin_5 rfl ?_
    refine r_iload_n Mm dX5_needWithin_6 rfl ?_
    refine r_icmp_le (tgt := 20) Mm dX5_needWithin_7 (by decide) (fun c2 => ?_) (fun c2 => ?_)
    · exact absurd hb (fun z => z.elim c1 (Int32.not_lt.mpr c2))
    · refine r_throw M ti_212 dX5_needWithin_10 dX5_needWithin_13 dX5_needWithin_14 dX5_needWithin_16 dX5_needWithin_19 (by decide) (Nat.le_of_ble_eq_true rfl) ⟨Nat.le_of_ble_eq_true rfl, Nat.le_of_ble_eq_true rfl⟩ ?_
      exact ⟨rfl, rfl⟩
set_option maxRecDepth 100000 in
set_option maxHeartbeats 4000000 in
theorem ct_pupOk {g : Gl} {l : Launch} (hfl : l.stackTraces = false) {E : Nat} (h : Hp) (x pL sL ha : Nat) (ow : Nat → Nat) (ps ss : List Nat) (σ : ST) (r : RC E ow h x pL sL ha ps ss σ) (i a : Nat) (ha0 : ps[i]? = some a) : CT g l iX5_puppetNumbered 7 [.ref x, .int (nI i)] h 0 0 (pRet (some (.ref a)) h) := by
  have r0 := r
  obtain ⟨⟨a1, a2, a3, a4, a5⟩, ⟨b1, b2, b3, b4⟩, zp, zs, ⟨d1, d2⟩, ⟨e1, e2, e3, e4, e5, e6⟩, f1⟩ := r
  have hl1 := b1.2.2.1
  have hl2 := b2.2.2.1
  have hlt : i < ps.length := (List.getElem?_eq_some_iff.mp ha0).1
  refine ct_mk hfl (by decide) (Nat.le_of_ble_eq_true rfl) (by intro v hv; simp only [List.mem_cons, List.not_mem_nil, or_false] at hv; rcases hv with rfl | rfl <;> rfl) (fun V X M => ?_)
  have Mm := M.m
  show V 0 [some (.ref x), some (.int (nI i))] [] _ 0 0
  refine r_iload_n Mm dX5_puppetNumbered_0 rfl ?_
  refine r_if_lt (tgt := 15) Mm dX5_puppetNumbered_1 (by decide) (fun c1 => absurd c1 (nI_pos (by omega))) (fun _ => ?_)
  refine r_iload_n Mm dX5_puppetNumbered_4 rfl ?_
  refine r_aload_n Mm dX5_puppetNumbered_5 rfl ?_
  refine r_getR Mm dX5_puppetNumbered_6 fi_X5_10 (a1) rfl (i := 500) rfl (a2) ?_
  refine r_callV (As := []) Mm dX5_puppetNumbered_9 rfl (ct_lsize hfl h pL ps b1) (b1.1) rfl cw_X5_37 ⟨Nat.le_of_ble_eq_true rfl, Nat.le_of_ble_eq_true rfl, Nat.le_of_ble_eq_true rfl⟩ (Nat.le_of_ble_eq_true rfl) ⟨Nat.le_of_ble_eq_true rfl, Nat.le_of_ble_eq_true rfl⟩ (fun r2 h3 p4 => ?_) (fun Er2 h3 p4 => False.elim p4)
  obtain ⟨rfl, rfl⟩ := p4
  show V 12 _ [(.int (nI (ps.length))), (.int (nI i))] _ _ _
  refine r_icmp_ltN (tgt := 25) Mm dX5_puppetNumbered_12 (by decide) (by omega) (by omega) (fun c5 => ?_) (fun c5 => ?_)
  · refine r_aload_n Mm dX5_puppetNumbered_25 rfl ?_
    refine r_getR Mm dX5_puppetNumbered_26 fi_X5_10 (a1) rfl (i := 500) rfl (a2) ?_
    refine r_iload_n Mm dX5_puppetNumbered_29 rfl ?_
    have sa := (zp _ _ ha0).choose_spec.choose_spec.choose_spec.choose_spec.choose_spec.1.1
    refine r_callV (As := [(.int (nI i))]) Mm dX5_puppetNumbered_30 rfl (ct_lget hfl h pL i a ps b1 ha0) (b1.1) rfl cw_X5_157 ⟨Nat.le_of_ble_eq_true rfl, Nat.le_of_ble_eq_true rfl, Nat.le_of_ble_eq_true rfl⟩ (Nat.le_of_ble_eq_true rfl) ⟨Nat.le_of_ble_eq_true rfl, Nat.le_of_ble_eq_true rfl⟩ (fun r6 h7 p8 => ?_) (fun Er6 h7 p8 => False.elim p8)
    obtain ⟨rfl, rfl⟩ := p8
    show V 33 _ [(.ref a)] _ _ _
    refine r_cast Mm dX5_puppetNumbered_33 (sa) rfl cl_X5_48 ?_
    refine r_aret M dX5_puppetNumbered_36 (Or.inl ⟨_, rfl⟩) ?_
    exact ⟨rfl, rfl⟩
  · exact absurd hlt (by omega)
set_option maxRecDepth 100000 in
set_option maxHeartbeats 4000000 in
theorem ct_pupBad {g : Gl} {l : Launch} (hfl : l.stackTraces = false) {E : Nat} (h : Hp) (x pL sL ha : Nat) (ow : Nat → Nat) (ps ss : List Nat) (σ : ST) (r : RC E ow h x pL sL ha ps ss σ) (p : Int32) (hb : p < 0 ∨ nI ps.length ≤ p) : CT g l iX5_puppetNumbered 7 [.ref x, .int p] h 1 6 (pThr "java/lang/IndexOutOfBoundsException" h) := by
  have r0 := r
  obtain ⟨⟨a1, a2, a3, a4, a5⟩, ⟨b1, b2, b3, b4⟩, zp, zs, ⟨d1, d2⟩, ⟨e1, e2, e3, e4, e5, e6⟩, f1⟩ := r
  have hl1 := b1.2.2.1
  have hl2 := b2.2.2.1
  refine ct_mk hfl (by decide) (Nat.le_of_ble_eq_true rfl) (by intro v hv; simp only [List.mem_cons, List.not_mem_nil, or_false] at hv; rcases hv with rfl | rfl <;> rfl) (fun V X M => ?_)
  have Mm := M.m
  show V 0 [some (.ref x), some (.int p)] [] _ 0 0
  refine r_iload_n Mm dX5_puppetNumbered_0 rfl ?_
  refine r_if_lt (tgt := 15) Mm dX5_puppetNumbered_1 (by decide) (fun c1 => ?_) (fun c1 => ?_)
  · refine r_throw M ti_215 dX5_puppetNumbered_15 dX5_puppetNumbered_18 dX5_puppetNumbered_19 dX5_puppetNumbered_21 dX5_puppetNumbered_24 (by decide) (Nat.le_of_ble_eq_true rfl) ⟨Nat.le_of_ble_eq_true rfl, Nat.le_of_ble_eq_true rfl⟩ ?_
    exact ⟨rfl, rfl⟩
  · refine r_iload_n Mm dX5_puppetNumbered_4 rfl ?_
    refine r_aload_n Mm dX5_puppetNumbered_5 rfl ?_
    refine r_getR Mm dX5_puppetNumbered_6 fi_X5_10 (a1) rfl (i := 500) rfl (a2) ?_
    refine r_callV (As := []) Mm dX5_puppetNumbered_9 rfl (ct_lsize hfl h pL ps b1) (b1.1) rfl cw_X5_37 ⟨Nat.le_of_ble_eq_true rfl, Nat.le_of_ble_eq_true rfl, Nat.le_of_ble_eq_true rfl⟩ (Nat.le_of_ble_eq_true rfl) ⟨Nat.le_of_ble_eq_true rfl, Nat.le_of_ble_eq_true rfl⟩ (fun r2 h3 p4 => ?_) (fun Er2 h3 p4 => False.elim p4)
    obtain ⟨rfl, rfl⟩ := p4
    show V 12 _ [(.int (nI (ps.length))), (.int p)] _ _ _
    refine r_icmp_lt (tgt := 25) Mm dX5_puppetNumbered_12 (by decide) (fun c5 => ?_) (fun c5 => ?_)
    · exact absurd hb (fun z => z.elim c1 (Int32.not_le.mpr c5))
    · refine r_throw M ti_215 dX5_puppetNumbered_15 dX5_puppetNumbered_18 dX5_puppetNumbered_19 dX5_puppetNumbered_21 dX5_puppetNumbered_24 (by decide) (Nat.le_of_ble_eq_true rfl) ⟨Nat.le_of_ble_eq_true rfl, Nat.le_of_ble_eq_true rfl⟩ ?_
      exact ⟨rfl, rfl⟩
set_option maxRecDepth 100000 in
set_option maxHeartbeats 4000000 in
theorem ct_showOk {g : Gl} {l : Launch} (hfl : l.stackTraces = false) {E : Nat} (h : Hp) (x pL sL ha : Nat) (ow : Nat → Nat) (ps ss : List Nat) (σ : ST) (r : RC E ow h x pL sL ha ps ss σ) (i a : Nat) (ha0 : ss[i]? = some a) : CT g l iX5_showNumbered 7 [.ref x, .int (nI i)] h 0 0 (pRet (some (.ref a)) h) := by
  have r0 := r
  obtain ⟨⟨a1, a2, a3, a4, a5⟩, ⟨b1, b2, b3, b4⟩, zp, zs, ⟨d1, d2⟩, ⟨e1, e2, e3, e4, e5, e6⟩, f1⟩ := r
  have hl1 := b1.2.2.1
  have hl2 := b2.2.2.1
  have hlt : i < ss.length := (List.getElem?_eq_some_iff.mp ha0).1
  refine ct_mk hfl (by decide) (Nat.le_of_ble_eq_true rfl) (by intro v hv; simp only [List.mem_cons, List.not_mem_nil, or_false] at hv; rcases hv with rfl | rfl <;> rfl) (fun V X M => ?_)
  have Mm := M.m
  show V 0 [some (.ref x), some (.int (nI i))] [] _ 0 0
  refine r_iload_n Mm dX5_showNumbered_0 rfl ?_
  refine r_if_lt (tgt := 15) Mm dX5_showNumbered_1 (by decide) (fun c1 => absurd c1 (nI_pos (by omega))) (fun _ => ?_)
  refine r_iload_n Mm dX5_showNumbered_4 rfl ?_
  refine r_aload_n Mm dX5_showNumbered_5 rfl ?_
  refine r_getR Mm dX5_showNumbered_6 fi_X5_16 (a1) rfl (i := 501) rfl (a3) ?_
  refine r_callV (As := []) Mm dX5_showNumbered_9 rfl (ct_lsize hfl h sL ss b2) (b2.1) rfl cw_X5_37 ⟨Nat.le_of_ble_eq_true rfl, Nat.le_of_ble_eq_true rfl, Nat.le_of_ble_eq_true rfl⟩ (Nat.le_of_ble_eq_true rfl) ⟨Nat.le_of_ble_eq_true rfl, Nat.le_of_ble_eq_true rfl⟩ (fun r2 h3 p4 => ?_) (fun Er2 h3 p4 => False.elim p4)
  obtain ⟨rfl, rfl⟩ := p4
  show V 12 _ [(.int (nI (ss.length))), (.int (nI i))] _ _ _
  refine r_icmp_ltN (tgt := 25) Mm dX5_showNumbered_12 (by decide) (by omega) (by omega) (fun c5 => ?_) (fun c5 => ?_)
  · refine r_aload_n Mm dX5_showNumbered_25 rfl ?_
    refine r_getR Mm dX5_showNumbered_26 fi_X5_16 (a1) rfl (i := 501) rfl (a3) ?_
    refine r_iload_n Mm dX5_showNumbered_29 rfl ?_
    have sa := (zs _ _ ha0).choose_spec.choose_spec.1
    refine r_callV (As := [(.int (nI i))]) Mm dX5_showNumbered_30 rfl (ct_lget hfl h sL i a ss b2 ha0) (b2.1) rfl cw_X5_157 ⟨Nat.le_of_ble_eq_true rfl, Nat.le_of_ble_eq_true rfl, Nat.le_of_ble_eq_true rfl⟩ (Nat.le_of_ble_eq_true rfl) ⟨Nat.le_of_ble_eq_true rfl, Nat.le_of_ble_eq_true rfl⟩ (fun r6 h7 p8 => ?_) (fun Er6 h7 p8 => False.elim p8)
    obtain ⟨rfl, rfl⟩ := p8
    show V 33 _ [(.ref a)] _ _ _
    refine r_cast Mm dX5_showNumbered_33 (sa) rfl cl_X5_102 ?_
    refine r_aret M dX5_showNumbered_36 (Or.inl ⟨_, rfl⟩) ?_
    exact ⟨rfl, rfl⟩
  · exact absurd hlt (by omega)
set_option maxRecDepth 100000 in
set_option maxHeartbeats 4000000 in
theorem ct_showBad {g : Gl} {l : Launch} (hfl : l.stackTraces = false) {E : Nat} (h : Hp) (x pL sL ha : Nat) (ow : Nat → Nat) (ps ss : List Nat) (σ : ST) (r : RC E ow h x pL sL ha ps ss σ) (p : Int32) (hb : p < 0 ∨ nI ss.length ≤ p) : CT g l iX5_showNumbered 7 [.ref x, .int p] h 1 6 (pThr "java/lang/IndexOutOfBoundsException" h) := by
  have r0 := r
  obtain ⟨⟨a1, a2, a3, a4, a5⟩, ⟨b1, b2, b3, b4⟩, zp, zs, ⟨d1, d2⟩, ⟨e1, e2, e3, e4, e5, e6⟩, f1⟩ := r
  have hl1 := b1.2.2.1
  have hl2 := b2.2.2.1
  refine ct_mk hfl (by decide) (Nat.le_of_ble_eq_true rfl) (by intro v hv; simp only [List.mem_cons, List.not_mem_nil, or_false] at hv; rcases hv with rfl | rfl <;> rfl) (fun V X M => ?_)
  have Mm := M.m
  show V 0 [some (.ref x), some (.int p)] [] _ 0 0
  refine r_iload_n Mm dX5_showNumbered_0 rfl ?_
  refine r_if_lt (tgt := 15) Mm dX5_showNumbered_1 (by decide) (fun c1 => ?_) (fun c1 => ?_)
  · refine r_throw M ti_217 dX5_showNumbered_15 dX5_showNumbered_18 dX5_showNumbered_19 dX5_showNumbered_21 dX5_showNumbered_24 (by decide) (Nat.le_of_ble_eq_true rfl) ⟨Nat.le_of_ble_eq_true rfl, Nat.le_of_ble_eq_true rfl⟩ ?_
    exact ⟨rfl, rfl⟩
  · refine r_iload_n Mm dX5_showNumbered_4 rfl ?_
    refine r_aload_n Mm dX5_showNumbered_5 rfl ?_
    refine r_getR Mm dX5_showNumbered_6 fi_X5_16 (a1) rfl (i := 501) rfl (a3) ?_
    refine r_callV (As := []) Mm dX5_showNumbered_9 rfl (ct_lsize hfl h sL ss b2) (b2.1) rfl cw_X5_37 ⟨Nat.le_of_ble_eq_true rfl, Nat.le_of_ble_eq_true rfl, Nat.le_of_ble_eq_true rfl⟩ (Nat.le_of_ble_eq_true rfl) ⟨Nat.le_of_ble_eq_true rfl, Nat.le_of_ble_eq_true rfl⟩ (fun r2 h3 p4 => ?_) (fun Er2 h3 p4 => False.elim p4)
    obtain ⟨rfl, rfl⟩ := p4
    show V 12 _ [(.int (nI (ss.length))), (.int p)] _ _ _
    refine r_icmp_lt (tgt := 25) Mm dX5_showNumbered_12 (by decide) (fun c5 => ?_) (fun c5 => ?_)
    · exact absurd hb (fun z => z.elim c1 (Int32.not_le.mpr c5))
    · refine r_throw M ti_217 dX5_showNumbered_15 dX5_showNumbered_18 dX5_showNumbered_19 dX5_showNumbered_21 dX5_showNumbered_24 (by decide) (Nat.le_of_ble_eq_true rfl) ⟨Nat.le_of_ble_eq_true rfl, Nat.le_of_ble_eq_true rfl⟩ ?_
      exact ⟨rfl, rfl⟩
set_option maxRecDepth 100000 in
set_option maxHeartbeats 4000000 in
theorem ct_swOk {g : Gl} {l : Launch} (hfl : l.stackTraces = false) {E : Nat} (h : Hp) (x pL sL ha : Nat) (ow : Nat → Nat) (ps ss : List Nat) (σ : ST) (r : RC E ow h x pL sL ha ps ss σ) (j s : Nat) (hs : ss[j]? = some s) (p : Int32) (hc : hasC (tCast (eS σ j)) p = true) : CT g l iX5_showWith 8 [.ref x, .int (nI j), .int p] h 0 0 (pRet (some (.ref s)) h) := by
  have r0 := r
  obtain ⟨⟨a1, a2, a3, a4, a5⟩, ⟨b1, b2, b3, b4⟩, zp, zs, ⟨d1, d2⟩, ⟨e1, e2, e3, e4, e5, e6⟩, f1⟩ := r
  have hl1 := b1.2.2.1
  have hl2 := b2.2.2.1
  obtain ⟨sp, A, t1, t2, t3, t4, t5, t6, t7, t8, t9, t10, t11, t12, t13, t14⟩ := zs _ _ hs
  refine ct_mk hfl (by decide) (Nat.le_of_ble_eq_true rfl) (by intro v hv; simp only [List.mem_cons, List.not_mem_nil, or_false] at hv; rcases hv with rfl | rfl | rfl <;> rfl) (fun V X M => ?_)
  have Mm := M.m
  show V 0 [some (.ref x), some (.int (nI j)), some (.int p), none] [] _ 0 0
  refine r_aload_n Mm dX5_showWith_0 rfl ?_
  refine r_iload_n Mm dX5_showWith_1 rfl ?_
  refine r_callV (As := [(.int (nI j))]) Mm dX5_showWith_2 rfl (ct_showOk hfl h x pL sL ha ow ps ss σ r0 j s hs) (a1) rfl cw_X5_110 ⟨Nat.le_of_ble_eq_true rfl, Nat.le_of_ble_eq_true rfl, Nat.le_of_ble_eq_true rfl⟩ (Nat.le_of_ble_eq_true rfl) ⟨Nat.le_of_ble_eq_true rfl, Nat.le_of_ble_eq_true rfl⟩ (fun r1 h2 p3 => ?_) (fun Er1 h2 p3 => False.elim p3)
  obtain ⟨rfl, rfl⟩ := p3
  show V 5 _ [(.ref s)] _ _ _
  refine r_astore_n Mm dX5_showWith_5 (by decide) ?_
  show V 6 [some (.ref x), some (.int (nI j)), some (.int p), some (.ref s)] _ _ _ _
  refine r_aload_n Mm dX5_showWith_6 rfl ?_
  refine r_iload_n Mm dX5_showWith_7 rfl ?_
  refine r_callV (As := [(.int p)]) Mm dX5_showWith_8 rfl (ct_hasPuppet hfl h s A (tCast (eS σ j)) t1 t6 t7 t8 p) (t1) rfl cw_X5_118 ⟨Nat.le_of_ble_eq_true rfl, Nat.le_of_ble_eq_true rfl, Nat.le_of_ble_eq_true rfl⟩ (Nat.le_of_ble_eq_true rfl) ⟨Nat.le_of_ble_eq_true rfl, Nat.le_of_ble_eq_true rfl⟩ (fun r4 h5 p6 => ?_) (fun Er4 h5 p6 => False.elim p6)
  obtain ⟨rfl, rfl⟩ := p6
  show V 11 _ [(.int (bI (hasC (tCast (eS σ j)) p)))] _ _ _
  refine r_if_neB (tgt := 24) Mm dX5_showWith_11 (by decide) (fun c7 => ?_) (fun c7 => ?_)
  · refine r_aload_n Mm dX5_showWith_24 rfl ?_
    refine r_aret M dX5_showWith_25 (Or.inl ⟨_, rfl⟩) ?_
    exact ⟨rfl, rfl⟩
  · exact absurd hc (by rw [c7]; exact Bool.noConfusion)
set_option maxRecDepth 100000 in
set_option maxHeartbeats 4000000 in
theorem ct_swBad2 {g : Gl} {l : Launch} (hfl : l.stackTraces = false) {E : Nat} (h : Hp) (x pL sL ha : Nat) (ow : Nat → Nat) (ps ss : List Nat) (σ : ST) (r : RC E ow h x pL sL ha ps ss σ) (j s : Nat) (hs : ss[j]? = some s) (p : Int32) (hc : hasC (tCast (eS σ j)) p = false) : CT g l iX5_showWith 8 [.ref x, .int (nI j), .int p] h 1 6 (pThr "java/lang/IndexOutOfBoundsException" h) := by
  have r0 := r
  obtain ⟨⟨a1, a2, a3, a4, a5⟩, ⟨b1, b2, b3, b4⟩, zp, zs, ⟨d1, d2⟩, ⟨e1, e2, e3, e4, e5, e6⟩, f1⟩ := r
  have hl1 := b1.2.2.1
  have hl2 := b2.2.2.1
  obtain ⟨sp, A, t1, t2, t3, t4, t5, t6, t7, t8, t9, t10, t11, t12, t13, t14⟩ := zs _ _ hs
  refine ct_mk hfl (by decide) (Nat.le_of_ble_eq_true rfl) (by intro v hv; simp only [List.mem_cons, List.not_mem_nil, or_false] at hv; rcases hv with rfl | rfl | rfl <;> rfl) (fun V X M => ?_)
  have Mm := M.m
  show V 0 [some (.ref x), some (.int (nI j)), some (.int p), none] [] _ 0 0
  refine r_aload_n Mm dX5_showWith_0 rfl ?_
  refine r_iload_n Mm dX5_showWith_1 rfl ?_
  refine r_callV (As := [(.int (nI j))]) Mm dX5_showWith_2 rfl (ct_showOk hfl h x pL sL ha ow ps ss σ r0 j s hs) (a1) rfl cw_X5_110 ⟨Nat.le_of_ble_eq_true rfl, Nat.le_of_ble_eq_true rfl, Nat.le_of_ble_eq_true rfl⟩ (Nat.le_of_ble_eq_true rfl) ⟨Nat.le_of_ble_eq_true rfl, Nat.le_of_ble_eq_true rfl⟩ (fun r1 h2 p3 => ?_) (fun Er1 h2 p3 => False.elim p3)
  obtain ⟨rfl, rfl⟩ := p3
  show V 5 _ [(.ref s)] _ _ _
  refine r_astore_n Mm dX5_showWith_5 (by decide) ?_
  show V 6 [some (.ref x), some (.int (nI j)), some (.int p), some (.ref s)] _ _ _ _
  refine r_aload_n Mm dX5_showWith_6 rfl ?_
  refine r_iload_n Mm dX5_showWith_7 rfl ?_
  refine r_callV (As := [(.int p)]) Mm dX5_showWith_8 rfl (ct_hasPuppet hfl h s A (tCast (eS σ j)) t1 t6 t7 t8 p) (t1) rfl cw_X5_118 ⟨Nat.le_of_ble_eq_true rfl, Nat.le_of_ble_eq_true rfl, Nat.le_of_ble_eq_true rfl⟩ (Nat.le_of_ble_eq_true rfl) ⟨Nat.le_of_ble_eq_true rfl, Nat.le_of_ble_eq_true rfl⟩ (fun r4 h5 p6 => ?_) (fun Er4 h5 p6 => False.elim p6)
  obtain ⟨rfl, rfl⟩ := p6
  show V 11 _ [(.int (bI (hasC (tCast (eS σ j)) p)))] _ _ _
  refine r_if_neB (tgt := 24) Mm dX5_showWith_11 (by decide) (fun c7 => ?_) (fun c7 => ?_)
  · exact absurd hc (by rw [c7]; exact Bool.noConfusion)
  · refine r_throw M ti_219 dX5_showWith_14 dX5_showWith_17 dX5_showWith_18 dX5_showWith_20 dX5_showWith_23 (by decide) (Nat.le_of_ble_eq_true rfl) ⟨Nat.le_of_ble_eq_true rfl, Nat.le_of_ble_eq_true rfl⟩ ?_
    exact ⟨rfl, rfl⟩
set_option maxRecDepth 100000 in
set_option maxHeartbeats 4000000 in
theorem ct_swBad1 {g : Gl} {l : Launch} (hfl : l.stackTraces = false) {E : Nat} (h : Hp) (x pL sL ha : Nat) (ow : Nat → Nat) (ps ss : List Nat) (σ : ST) (r : RC E ow h x pL sL ha ps ss σ) (j p : Int32) (hb : j < 0 ∨ nI ss.length ≤ j) : CT g l iX5_showWith 8 [.ref x, .int j, .int p] h 1 6 (pThr "java/lang/IndexOutOfBoundsException" h) := by
  have r0 := r
  obtain ⟨⟨a1, a2, a3, a4, a5⟩, ⟨b1, b2, b3, b4⟩, zp, zs, ⟨d1, d2⟩, ⟨e1, e2, e3, e4, e5, e6⟩, f1⟩ := r
  have hl1 := b1.2.2.1
  have hl2 := b2.2.2.1
  refine ct_mk hfl (by decide) (Nat.le_of_ble_eq_true rfl) (by intro v hv; simp only [List.mem_cons, List.not_mem_nil, or_false] at hv; rcases hv with rfl | rfl | rfl <;> rfl) (fun V X M => ?_)
  have Mm := M.m
  show V 0 [some (.ref x), some (.int j), some (.int p), none] [] _ 0 0
  refine r_aload_n Mm dX5_showWith_0 rfl ?_
  refine r_iload_n Mm dX5_showWith_1 rfl ?_
  refine r_callV (As := [(.int j)]) Mm dX5_showWith_2 rfl (ct_showBad hfl h x pL sL ha ow ps ss σ r0 j hb) (a1) rfl cw_X5_110 ⟨Nat.le_of_ble_eq_true rfl, Nat.le_of_ble_eq_true rfl, Nat.le_of_ble_eq_true rfl⟩ (Nat.le_of_ble_eq_true rfl) ⟨Nat.le_of_ble_eq_true rfl, Nat.le_of_ble_eq_true rfl⟩ (fun r1 h2 p3 => False.elim p3) (fun Er1 h2 p3 => ?_)
  obtain ⟨rfl, rfl⟩ := p3
  refine x_out M ?_
  exact ⟨rfl, rfl⟩
set_option maxRecDepth 100000 in
set_option maxHeartbeats 4000000 in
theorem ct_taken {g : Gl} {l : Launch} (hfl : l.stackTraces = false) {E : Nat} (h : Hp) (x pL sL ha : Nat) (ow : Nat → Nat) (ps ss : List Nat) (σ : ST) (r : RC E ow h x pL sL ha ps ss σ) (i a b : Nat) (hi : ps[i]? = some a) (hi8 : i < 8) (hb : xS h b = some (4, 0)) : CT g l iX5_isTaken 5 [.ref x, .ref a, .int (nI i), .ref b] h 0 0 (pRet (some (.int (bI (takenS σ i (sv h b))))) h) := by
  have r0 := r
  obtain ⟨⟨a1, a2, a3, a4, a5⟩, ⟨b1, b2, b3, b4⟩, zp, zs, ⟨d1, d2⟩, ⟨e1, e2, e3, e4, e5, e6⟩, f1⟩ := r
  have hl1 := b1.2.2.1
  have hl2 := b2.2.2.1
  obtain ⟨ka, ma, pl, xs, ms, hP, f0, f1b, f2, f3, f4, f5, ⟨o1, o2, o3, o4⟩, g1, g2, o5, o6⟩ := zp _ _ hi
  refine ct_mk hfl (by decide) (Nat.le_of_ble_eq_true rfl) (by intro v hv; simp only [List.mem_cons, List.not_mem_nil, or_false] at hv; rcases hv with rfl | rfl | rfl | rfl <;> rfl) (fun V X M => ?_)
  have Mm := M.m
  show V 0 [some (.ref x), some (.ref a), some (.int (nI i)), some (.ref b), none, none] [] _ 0 0
  refine r_iconst (v := nI 0) Mm dX5_isTaken_0 (by decide) ?_
  refine r_istore Mm dX5_isTaken_1 (by decide) ?_
  show V 3 [some (.ref x), some (.ref a), some (.int (nI i)), some (.ref b), some (.int (nI 0)), none] _ _ _ _
  have loop : ∀ (n : Nat) (j : Nat) (z : Option Value), ss.length - j < n → (j ≤ ss.length) → (∀ q < j, (tCast (eS σ q) i && meetS (tSpan (eS σ q)) (sv h b)) = false) → V 3 [some (.ref x), some (.ref a), some (.int (nI i)), some (.ref b), some (.int (nI j)), z] [] h 0 0 := by
    intro n
    induction n with
    | zero => intro j z hm; exact absurd hm (Nat.not_lt_zero _)
    | succ n ih =>
      intro j z hm hj hn
      refine r_iload Mm dX5_isTaken_3 rfl ?_
      refine r_aload_n Mm dX5_isTaken_5 rfl ?_
      refine r_getR Mm dX5_isTaken_6 fi_X5_16 (a1) rfl (i := 501) rfl (a3) ?_
      refine r_callV (As := []) Mm dX5_isTaken_9 rfl (ct_lsize hfl h sL ss (b2)) (b2.1) rfl cw_X5_37 ⟨Nat.le_of_ble_eq_true rfl, Nat.le_of_ble_eq_true rfl, Nat.le_of_ble_eq_true rfl⟩ (Nat.le_of_ble_eq_true rfl) ⟨Nat.le_of_ble_eq_true rfl, Nat.le_of_ble_eq_true rfl⟩ (fun r1 h2 p3 => ?_) (fun Er1 h2 p3 => False.elim p3)
      obtain ⟨rfl, rfl⟩ := p3
      show V 12 _ [(.int (nI (ss.length))), (.int (nI j))] _ _ _
      refine r_icmp_geN (tgt := 58) Mm dX5_isTaken_12 (by decide) (by omega) (by omega) (fun c4 => ?_) (fun c4 => ?_)
      · refine r_aload_n Mm dX5_isTaken_58 rfl ?_
        refine r_aload_n Mm dX5_isTaken_59 rfl ?_
        refine r_callV (As := [(.ref b)]) Mm dX5_isTaken_60 rfl (ct_mended hfl h a ka ma pl xs ms hP b hb) (hP.1) rfl cw_X5_225 ⟨Nat.le_of_ble_eq_true rfl, Nat.le_of_ble_eq_true rfl, Nat.le_of_ble_eq_true rfl⟩ (Nat.le_of_ble_eq_true rfl) ⟨Nat.le_of_ble_eq_true rfl, Nat.le_of_ble_eq_true rfl⟩ (fun r5 h6 p7 => ?_) (fun Er5 h6 p7 => False.elim p7)
        obtain ⟨rfl, rfl⟩ := p7
        show V 63 _ [(.int (bI (ms.any (fun m => meetS (sv h m) (sv h b)))))] _ _ _
        refine r_zret M dX5_isTaken_63 (bI_nar (ms.any (fun m => meetS (sv h m) (sv h b)))) ?_
        refine ⟨?_, rfl⟩
        have e1 : anyN (fun j => tCast (eS σ j) i && meetS (tSpan (eS σ j)) (sv h b)) (eM σ) = false := anyN_no (fun q hq => hn q (by omega))
        have e2 : (qMend (eP σ i)).any (fun m => meetS m (sv h b)) = ms.any (fun m => meetS (sv h m) (sv h b)) := by rw [← f5, List.any_map]; rfl
        rw [takenS, e1, e2, Bool.false_or]
      · refine r_aload_n Mm dX5_isTaken_15 rfl ?_
        refine r_getR Mm dX5_isTaken_16 fi_X5_16 (a1) rfl (i := 501) rfl (a3) ?_
        refine r_iload Mm dX5_isTaken_19 rfl ?_
        obtain ⟨v8, hv8⟩ : ∃ v, ss[j]? = some v := ⟨_, List.getElem?_eq_getElem (by omega)⟩
        have sv8 := (zs _ _ hv8).choose_spec.choose_spec.1
        obtain ⟨sp, A, t1, t2, t3, t4, t5, t6, t7, t8, t9, t10, t11, t12, t13, t14⟩ := zs _ _ hv8
        refine r_callV (As := [(.int (nI j))]) Mm dX5_isTaken_21 rfl (ct_lget hfl h sL j v8 ss (b2) hv8) (b2.1) rfl cw_X5_157 ⟨Nat.le_of_ble_eq_true rfl, Nat.le_of_ble_eq_true rfl, Nat.le_of_ble_eq_true rfl⟩ (Nat.le_of_ble_eq_true rfl) ⟨Nat.le_of_ble_eq_true rfl, Nat.le_of_ble_eq_true rfl⟩ (fun r9 h10 p11 => ?_) (fun Er9 h10 p11 => False.elim p11)
        obtain ⟨rfl, rfl⟩ := p11
        show V 24 _ [(.ref v8)] _ _ _
        refine r_cast Mm dX5_isTaken_24 (sv8) rfl cl_X5_102 ?_
        refine r_astore Mm dX5_isTaken_27 (by decide) ?_
        show V 29 [some (.ref x), some (.ref a), some (.int (nI i)), some (.ref b), some (.int (nI j)), some (.ref v8)] _ _ _ _
        refine r_aload Mm dX5_isTaken_29 rfl ?_
        refine r_iload_n Mm dX5_isTaken_31 rfl ?_
        refine r_callV (As := [(.int (nI i))]) Mm dX5_isTaken_32 rfl (ct_hasPuppet hfl h v8 A (tCast (eS σ j)) t1 t6 t7 t8 (nI i)) (sv8) rfl cw_X5_118 ⟨Nat.le_of_ble_eq_true rfl, Nat.le_of_ble_eq_true rfl, Nat.le_of_ble_eq_true rfl⟩ (Nat.le_of_ble_eq_true rfl) ⟨Nat.le_of_ble_eq_true rfl, Nat.le_of_ble_eq_true rfl⟩ (fun r12 h13 p14 => ?_) (fun Er12 h13 p14 => False.elim p14)
        obtain ⟨rfl, rfl⟩ := p14
        show V 35 _ [(.int (bI (hasC (tCast (eS σ j)) (nI i))))] _ _ _
        refine r_if_eqB (tgt := 52) Mm dX5_isTaken_35 (by decide) (fun c15 => ?_) (fun c15 => ?_)
        · refine r_iincN (k := 1) Mm dX5_isTaken_52 rfl (by decide) (by decide) ?_
          show V 55 [some (.ref x), some (.ref a), some (.int (nI i)), some (.ref b), some (.int (nI (j + 1))), some (.ref v8)] _ _ _ _
          refine r_goto (tgt := 3) Mm dX5_isTaken_55 (by decide) ?_
          exact ih (j + 1) _ (by omega) (by omega) (fun q hq => by
            by_cases e : q = j
            · subst e; show (tCast (eS σ q) i && meetS (tSpan (eS σ q)) (sv h b)) = false; rw [show hasC (tCast (eS σ q)) (nI i) = tCast (eS σ q) i from hasC_nI8 hi8] at c15; rw [c15, Bool.false_and]
            · exact hn q (by omega))
        · refine r_aload Mm dX5_isTaken_38 rfl ?_
          refine r_getR Mm dX5_isTaken_40 fi_X5_126 (sv8) rfl (i := 300) rfl (t2) ?_
          refine r_aload_n Mm dX5_isTaken_43 rfl ?_
          refine r_callV (As := [(.ref b)]) Mm dX5_isTaken_44 rfl (ct_meets hfl h sp b t3 hb) (t3) rfl cw_X5_221 ⟨Nat.le_of_ble_eq_true rfl, Nat.le_of_ble_eq_true rfl, Nat.le_of_ble_eq_true rfl⟩ (Nat.le_of_ble_eq_true rfl) ⟨Nat.le_of_ble_eq_true rfl, Nat.le_of_ble_eq_true rfl⟩ (fun r16 h17 p18 => ?_) (fun Er16 h17 p18 => False.elim p18)
          obtain ⟨rfl, rfl⟩ := p18
          show V 47 _ [(.int (bI (meetS (sv h sp) (sv h b))))] _ _ _
          refine r_if_eqB (tgt := 52) Mm dX5_isTaken_47 (by decide) (fun c19 => ?_) (fun c19 => ?_)
          · refine r_iincN (k := 1) Mm dX5_isTaken_52 rfl (by decide) (by decide) ?_
            show V 55 [some (.ref x), some (.ref a), some (.int (nI i)), some (.ref b), some (.int (nI (j + 1))), some (.ref v8)] _ _ _ _
            refine r_goto (tgt := 3) Mm dX5_isTaken_55 (by decide) ?_
            exact ih (j + 1) _ (by omega) (by omega) (fun q hq => by
              by_cases e : q = j
              · subst e; show (tCast (eS σ q) i && meetS (tSpan (eS σ q)) (sv h b)) = false; rw [← t5, c19, Bool.and_false]
              · exact hn q (by omega))
          · refine r_iconst (v := nI 1) Mm dX5_isTaken_50 (by decide) ?_
            refine r_zret M dX5_isTaken_51 (by decide) ?_
            refine ⟨?_, rfl⟩
            have e1 : anyN (fun j => tCast (eS σ j) i && meetS (tSpan (eS σ j)) (sv h b)) (eM σ) = true := anyN_yes (j := j) (by omega) (by show (tCast (eS σ j) i && meetS (tSpan (eS σ j)) (sv h b)) = true; rw [← t5, c19, Bool.and_true, ← hasC_nI8 (c := tCast (eS σ j)) hi8]; exact c15)
            rw [takenS, e1, Bool.true_or]; rfl
  exact loop (ss.length + 1) 0 none (by omega) (Nat.zero_le _) (fun q hq => absurd hq (Nat.not_lt_zero _))
set_option maxRecDepth 100000 in
set_option maxHeartbeats 4000000 in
theorem ct_ownFrame {g : Gl} {l : Launch} (hfl : l.stackTraces = false) {E : Nat} (h : Hp) (x pL sL ha : Nat) (ow : Nat → Nat) (ps ss : List Nat) (σ : ST) (r : RC E ow h x pL sL ha ps ss σ) (i a : Nat) (hi : ps[i]? = some a) (f : Int32) : CT g l iX5_ownFrame 2 [.ref x, .ref a, .int f] h 0 0 (pRet (some (.int (ownF (eH σ) (qCue (eP σ i)) f))) h) := by
  have r0 := r
  obtain ⟨⟨a1, a2, a3, a4, a5⟩, ⟨b1, b2, b3, b4⟩, zp, zs, ⟨d1, d2⟩, ⟨e1, e2, e3, e4, e5, e6⟩, f1⟩ := r
  have hl1 := b1.2.2.1
  have hl2 := b2.2.2.1
  obtain ⟨ka, ma, pl, xs, ms, hP, f0, f1b, f2, f3, f4, f5, ⟨o1, o2, o3, o4⟩, g1, g2, o5, o6⟩ := zp _ _ hi
  refine ct_mk hfl (by decide) (Nat.le_of_ble_eq_true rfl) (by intro v hv; simp only [List.mem_cons, List.not_mem_nil, or_false] at hv; rcases hv with rfl | rfl | rfl <;> rfl) (fun V X M => ?_)
  have Mm := M.m
  show V 0 [some (.ref x), some (.ref a), some (.int f), none] [] _ 0 0
  refine r_aload_n Mm dX5_ownFrame_0 rfl ?_
  refine r_getI Mm dX5_ownFrame_1 fi_X5_96 (hP.1) rfl (i := 203) rfl ?_
  refine r_top _ (qCue (eP σ i)) (f3) ?_
  refine r_if_lt (tgt := 19) Mm dX5_ownFrame_4 (by decide) (fun c1 => ?_) (fun c1 => ?_)
  · refine r_iload_n Mm dX5_ownFrame_19 rfl ?_
    refine r_iret M dX5_ownFrame_20 ?_
    refine ⟨?_, rfl⟩
    rw [show ownF (eH σ) (qCue (eP σ i)) f = f from if_pos (Or.inl c1)]
  · refine r_aload_n Mm dX5_ownFrame_7 rfl ?_
    refine r_getI Mm dX5_ownFrame_8 fi_X5_96 (hP.1) rfl (i := 203) rfl ?_
    refine r_top _ (qCue (eP σ i)) (f3) ?_
    refine r_aload_n Mm dX5_ownFrame_11 rfl ?_
    refine r_getR Mm dX5_ownFrame_12 fi_X5_19 (a1) rfl (i := 502) rfl (a4) ?_
    refine r_alenI Mm dX5_ownFrame_15 (a5) ?_
    refine r_icmp_lt (tgt := 21) Mm dX5_ownFrame_16 (by decide) (fun c2 => ?_) (fun c2 => ?_)
    · refine r_aload_n Mm dX5_ownFrame_21 rfl ?_
      refine r_getR Mm dX5_ownFrame_22 fi_X5_19 (a1) rfl (i := 502) rfl (a4) ?_
      refine r_aload_n Mm dX5_ownFrame_25 rfl ?_
      refine r_getI Mm dX5_ownFrame_26 fi_X5_96 (hP.1) rfl (i := 203) rfl ?_
      refine r_top _ (qCue (eP σ i)) (f3) ?_
      refine r_iald Mm dX5_ownFrame_29 (a5) (vp_of c1 c2 (by decide)) ?_
      refine r_top _ (eH σ (qCue (eP σ i)).toNatClampNeg) (d1 _) ?_
      refine r_istore_n Mm dX5_ownFrame_30 (by decide) ?_
      show V 31 [some (.ref x), some (.ref a), some (.int f), some (.int (eH σ (qCue (eP σ i)).toNatClampNeg))] _ _ _ _
      refine r_iload_n Mm dX5_ownFrame_31 rfl ?_
      refine r_iconst (v := -1) Mm dX5_ownFrame_32 (by decide) ?_
      refine r_icmp_ne (tgt := 40) Mm dX5_ownFrame_33 (by decide) (fun c3 => ?_) (fun c3 => ?_)
      · refine r_iconst (v := nI 0) Mm dX5_ownFrame_40 (by decide) ?_
        refine r_iload_n Mm dX5_ownFrame_41 rfl ?_
        refine r_iload_n Mm dX5_ownFrame_42 rfl ?_
        refine r_isub Mm dX5_ownFrame_43 ?_
        refine r_max Mm dX5_ownFrame_44 cm_X5_228 cms_max cmi cmc_max (Nat.le_of_ble_eq_true rfl) (Nat.le_of_ble_eq_true rfl) ?_
        refine r_iret M dX5_ownFrame_47 ?_
        refine ⟨?_, rfl⟩
        rw [show ownF (eH σ) (qCue (eP σ i)) f = (if (nI 0) < (f - (eH σ (qCue (eP σ i)).toNatClampNeg)) then (f - (eH σ (qCue (eP σ i)).toNatClampNeg)) else (nI 0)) from (if_neg (fun z => z.elim c1 (fun q => Int32.not_lt.mpr q c2))).trans (if_neg c3)]
      · refine r_iconst (v := nI 0) Mm dX5_ownFrame_36 (by decide) ?_
        refine r_goto (tgt := 47) Mm dX5_ownFrame_37 (by decide) ?_
        refine r_iret M dX5_ownFrame_47 ?_
        refine ⟨?_, rfl⟩
        rw [show ownF (eH σ) (qCue (eP σ i)) f = (nI 0) from (if_neg (fun z => z.elim c1 (fun q => Int32.not_lt.mpr q c2))).trans (if_pos c3)]
    · refine r_iload_n Mm dX5_ownFrame_19 rfl ?_
      refine r_iret M dX5_ownFrame_20 ?_
      refine ⟨?_, rfl⟩
      rw [show ownF (eH σ) (qCue (eP σ i)) f = f from if_pos (Or.inr (Int32.not_lt.mp c2))]
def PMQ (h : Hp) (ps : List Nat) (q : Nat) (v : (Int32 × Int32) × Bool) : Prop := ∀ a pl : Nat, ps[q]? = some a → xP h 206 a = some pl → (xF h 100 pl, xF h 101 pl) = v.1 ∧ xF h 207 a = bI v.2
def KeI (h h1 : Hp) (ps : List Nat) (c : Nat → Bool) (Q : Nat → (Int32 × Int32) × Bool) (v0 : Int32 × Int32) (a pl n q : Nat) : Prop := Tm h h1 ∧ (xF h1 100 pl, xF h1 101 pl) = (keepL c (fun j => (Q j).1) v0 q).1 ∧ xF h1 207 a = bI (keepL c (fun j => (Q j).1) v0 q).2 ∧ ∀ r < n, c r = true → PMQ h1 ps r (Q r)
theorem KeI.skip {h h1 : Hp} {ps : List Nat} {c : Nat → Bool} {Q : Nat → (Int32 × Int32) × Bool} {v0 : Int32 × Int32} {a pl n q : Nat} (hc : c q = false) (k : KeI h h1 ps c Q v0 a pl n q) : KeI h h1 ps c Q v0 a pl n (q + 1) := by
  have e : keepL c (fun j => (Q j).1) v0 (q + 1) = keepL c (fun j => (Q j).1) v0 q := if_neg (by rw [hc]; exact Bool.noConfusion)
  obtain ⟨k1, k2, k3, k4⟩ := k
  exact ⟨k1, by rw [e]; exact k2, by rw [e]; exact k3, k4⟩
/-- the lower ones stand elsewhere -/
def Apart (h : Hp) (ps : List Nat) (a pl n : Nat) : Prop := ∀ r < n, ∀ b pb : Nat, ps[r]? = some b → xP h 206 b = some pb → b ≠ a ∧ pb ≠ pl
theorem PMQ.apart {h : Hp} {ps : List Nat} {a pl n r : Nat} {v : (Int32 × Int32) × Bool} (ap : Apart h ps a pl n) (hr : r < n) (hq : PMQ h ps r v) {h' : Hp} (hP : xP h' = xP h) (h1 : ∀ b, b ≠ pl → xF h' 100 b = xF h 100 b ∧ xF h' 101 b = xF h 101 b) (h2 : ∀ b, b ≠ a → xF h' 207 b = xF h 207 b) : PMQ h' ps r v := fun b pb hb hpb => by
  rw [hP] at hpb
  obtain ⟨n1, n2⟩ := ap r hr b pb hb hpb
  obtain ⟨e1, e2⟩ := hq b pb hb hpb
  rw [(h1 pb n2).1, (h1 pb n2).2, h2 b n1]
  exact ⟨e1, e2⟩
theorem Apart.tm {h h' : Hp} {ps : List Nat} {a pl n : Nat} (t : Tm h h') (ap : Apart h ps a pl n) : Apart h' ps a pl n := fun r hr b pb hb hpb => ap r hr b pb hb (by rw [← t.2.1]; exact hpb)
theorem pXY_u (h : Hp) (p : Nat) (v : Int32 × Int32) : pXY h p v = yF (yF h 100 p v.1) 101 p v.2 := rfl
theorem pXY_x (h : Hp) (p : Nat) (v : Int32 × Int32) : xF (pXY h p v) 100 p = v.1 ∧ xF (pXY h p v) 101 p = v.2 := by
  rw [pXY_u]
  refine ⟨?_, ?_⟩
  · rw [zxF_yF, if_neg (fun z => absurd z.1 (by decide)), zxF_yF, if_pos ⟨rfl, rfl⟩]
  · rw [zxF_yF, if_pos ⟨rfl, rfl⟩]
theorem pXY_o (h : Hp) (p : Nat) (v : Int32 × Int32) {b : Nat} (hb : b ≠ p) (i : Nat) : xF (pXY h p v) i b = xF h i b := by
  rw [pXY_u, zxF_yF, if_neg (fun z => hb z.2), zxF_yF, if_neg (fun z => hb z.2)]
theorem pXY_7 (h : Hp) (p : Nat) (v : Int32 × Int32) (b : Nat) : xF (pXY h p v) 207 b = xF h 207 b := by
  rw [pXY_u, zxF_yF, if_neg (fun z => absurd z.1 (by decide)), zxF_yF, if_neg (fun z => absurd z.1 (by decide))]
theorem KeI.step {h h1 : Hp} {ps : List Nat} {c : Nat → Bool} {Q : Nat → (Int32 × Int32) × Bool} {v0 : Int32 × Int32} {a pl n q b p2 : Nat} (hc : c q = true) (hq : q < n) (ap : Apart h ps a pl n) (hb : ps[q]? = some b) (hp : xP h1 206 b = some p2) (k : KeI h h1 ps c Q v0 a pl n q) : KeI h (if nearS (xF h1 100 pl, xF h1 101 pl) (xF h1 100 p2, xF h1 101 p2) = true then yF (yF h1 100 pl (awayS (xF h1 100 pl) (xF h1 100 p2))) 207 a (nI 1) else h1) ps c Q v0 a pl n (q + 1) := by
  have e : keepL c (fun j => (Q j).1) v0 (q + 1) = (if nearS (keepL c (fun j => (Q j).1) v0 q).1 (Q q).1 = true then ((awayS (keepL c (fun j => (Q j).1) v0 q).1.1 (Q q).1.1, (keepL c (fun j => (Q j).1) v0 q).1.2), true) else keepL c (fun j => (Q j).1) v0 q) := if_pos hc
  obtain ⟨k1, k2, k3, k4⟩ := k
  obtain ⟨g1, g2⟩ := k4 q hq hc b p2 hb hp
  rw [KeI, e, k2, g1]
  have k2a : xF h1 100 pl = (keepL c (fun j => (Q j).1) v0 q).1.1 := congrArg Prod.fst k2
  have k2b : xF h1 101 pl = (keepL c (fun j => (Q j).1) v0 q).1.2 := congrArg Prod.snd k2
  have g1a : xF h1 100 p2 = (Q q).1.1 := congrArg Prod.fst g1
  by_cases hn : nearS (keepL c (fun j => (Q j).1) v0 q).1 (Q q).1 = true
  · rw [if_pos hn, if_pos hn]
    refine ⟨(k1.tr (Tm.x0 _ _ _)).tr (Tm.mv _ _ _), ?_, u2_s _ _ _ _, fun r hr hcr => PMQ.apart (ap.tm k1) hr (k4 r hr hcr) rfl (fun b hb => ⟨?_, ?_⟩) (fun b hb => ?_)⟩
    · rw [zxF_yF, if_neg (fun z => absurd z.1 (by decide)), zxF_yF, if_pos ⟨rfl, rfl⟩, zxF_yF, if_neg (fun z => absurd z.1 (by decide)), zxF_yF, if_neg (fun z => absurd z.1 (by decide)), k2a, k2b, g1a]
    · rw [zxF_yF, if_neg (fun z => absurd z.1 (by decide)), zxF_yF, if_neg (fun z => hb z.2)]
    · rw [zxF_yF, if_neg (fun z => absurd z.1 (by decide)), zxF_yF, if_neg (fun z => absurd z.1 (by decide))]
    · rw [zxF_yF, if_neg (fun z => hb z.2), zxF_yF, if_neg (fun z => absurd z.1 (by decide))]
  · rw [if_neg hn, if_neg hn]
    exact ⟨k1, k2, k3, k4⟩
theorem RC.apart {E : Nat} {h : Hp} {x pL sL ha : Nat} {ow : Nat → Nat} {ps ss : List Nat} {σ : ST} (r : RC E ow h x pL sL ha ps ss σ) {n a pl : Nat} (hi : ps[n]? = some a) (hpl : xP h 206 a = some pl) : Apart h ps a pl n := fun q hq b pb hb hpb => by
  obtain ⟨ka, ma, pl', xs, ms, hP, -, -, -, -, -, -, ⟨o1, o2, o3, o4⟩, -⟩ := r.2.2.1 _ _ hi
  obtain ⟨kb, mb, pb', xb, yb, hPb, -, -, -, -, -, -, ⟨u1, u2, u3, u4⟩, -⟩ := r.2.2.1 _ _ hb
  rw [hP.2.2.2.1] at hpl
  rw [hPb.2.2.2.1] at hpb
  cases hpl
  cases hpb
  exact ⟨fun e => by rw [e] at u1; omega, fun e => by rw [e] at u4; omega⟩
theorem KeI.endF {h h1 : Hp} {ps : List Nat} {c : Nat → Bool} {Q : Nat → (Int32 × Int32) × Bool} {v0 : Int32 × Int32} {a pl n : Nat} (b l : Int32) (hf : (keepL c (fun j => (Q j).1) v0 n).2 = false) (hi : ps[n]? = some a) (hpl : xP h 206 a = some pl) (k : KeI h h1 ps c Q v0 a pl n n) : Tm h h1 ∧ (∀ r < n, c r = true → PMQ h1 ps r (Q r)) ∧ PMQ h1 ps n (endP b l (keepL c (fun j => (Q j).1) v0 n)) := by
  obtain ⟨k1, k2, k3, k4⟩ := k
  refine ⟨k1, k4, fun a' pl' ha' hp' => ?_⟩
  rw [hi] at ha'; cases ha'
  rw [k1.2.1, hpl] at hp'; cases hp'
  rw [show endP b l (keepL c (fun j => (Q j).1) v0 n) = keepL c (fun j => (Q j).1) v0 n from if_neg (by rw [hf]; exact Bool.noConfusion)]
  exact ⟨k2, k3⟩
theorem KeI.endT {h h1 : Hp} {ps : List Nat} {c : Nat → Bool} {Q : Nat → (Int32 × Int32) × Bool} {v0 : Int32 × Int32} {a pl n : Nat} (b l : Int32) (hf : (keepL c (fun j => (Q j).1) v0 n).2 = true) (hi : ps[n]? = some a) (hpl : xP h 206 a = some pl) (ap : Apart h ps a pl n) (k : KeI h h1 ps c Q v0 a pl n n) : Tm h (pXY h1 pl (pullS b l (xF h1 100 pl, xF h1 101 pl))) ∧ (∀ r < n, c r = true → PMQ (pXY h1 pl (pullS b l (xF h1 100 pl, xF h1 101 pl))) ps r (Q r)) ∧ PMQ (pXY h1 pl (pullS b l (xF h1 100 pl, xF h1 101 pl))) ps n (endP b l (keepL c (fun j => (Q j).1) v0 n)) := by
  obtain ⟨k1, k2, k3, k4⟩ := k
  refine ⟨k1.tr (Tm.xy _ _ _), fun r hr hc => PMQ.apart (ap.tm k1) hr (k4 r hr hc) rfl (fun b hb => ⟨pXY_o _ _ _ hb _, pXY_o _ _ _ hb _⟩) (fun b hb => pXY_7 _ _ _ _), fun a' pl' ha' hp' => ?_⟩
  rw [hi] at ha'; cases ha'
  have hp2 : xP h1 206 a = some pl' := hp'
  rw [k1.2.1, hpl] at hp2; cases hp2
  rw [show endP b l (keepL c (fun j => (Q j).1) v0 n) = (pullS b l (keepL c (fun j => (Q j).1) v0 n).1, true) from if_pos hf, k2, (pXY_x h1 pl _).1, (pXY_x h1 pl _).2, pXY_7, k3, hf]
  exact ⟨rfl, rfl⟩
theorem KeI.start {h : Hp} {ps : List Nat} {c : Nat → Bool} {Q : Nat → (Int32 × Int32) × Bool} {v0 : Int32 × Int32} {a pl n : Nat} (ap : Apart h ps a pl n) (hv : (xF h 100 pl, xF h 101 pl) = v0) (hQ : ∀ r < n, c r = true → PMQ h ps r (Q r)) : KeI h (yF h 207 a (nI 0)) ps c Q v0 a pl n 0 := by
  refine ⟨Tm.mv _ _ _, ?_, u2_s _ _ _ _, fun r hr hc => PMQ.apart ap hr (hQ r hr hc) rfl (fun b hb => ⟨?_, ?_⟩) (fun b hb => ?_)⟩
  · rw [zxF_yF, if_neg (fun z => absurd z.1 (by decide)), zxF_yF, if_neg (fun z => absurd z.1 (by decide))]; exact hv
  · rw [zxF_yF, if_neg (fun z => absurd z.1 (by decide))]
  · rw [zxF_yF, if_neg (fun z => absurd z.1 (by decide))]
  · rw [zxF_yF, if_neg (fun z => hb z.2)]
set_option maxRecDepth 100000 in
set_option maxHeartbeats 4000000 in
theorem ct_keepLower {g : Gl} {l : Launch} (hfl : l.stackTraces = false) {E : Nat} (h : Hp) (x pL sL ha : Nat) (ow : Nat → Nat) (ps ss : List Nat) (σ : ST) (r : RC E ow h x pL sL ha ps ss σ) (j s : Nat) (hs : ss[j]? = some s) (n a : Nat) (hi : ps[n]? = some a) (hn8 : n < 8) (Q : Nat → (Int32 × Int32) × Bool) (v0 : Int32 × Int32) (hv : ∀ pl, xP h 206 a = some pl → (xF h 100 pl, xF h 101 pl) = v0) (hQ : ∀ r < n, tCast (eS σ j) r = true → PMQ h ps r (Q r)) : CT g l iX5_keepOffLower 4 [.ref x, .ref s, .ref a, .int (nI n)] h 0 0 (pRel (fun r h' => r = none ∧ Tm h h' ∧ (∀ r < n, tCast (eS σ j) r = true → PMQ h' ps r (Q r)) ∧ PMQ h' ps n (endP (qBar (eP σ n)) (qLen (eP σ n)) (keepL (tCast (eS σ j)) (fun j => (Q j).1) v0 n)))) := by
  have r0 := r
  obtain ⟨⟨a1, a2, a3, a4, a5⟩, ⟨b1, b2, b3, b4⟩, zp, zs, ⟨d1, d2⟩, ⟨e1, e2, e3, e4, e5, e6⟩, f1⟩ := r
  have hl1 := b1.2.2.1
  have hl2 := b2.2.2.1
  obtain ⟨ka, ma, pl, xs, ms, hP, f0, f1b, f2, f3, f4, f5, ⟨o1, o2, o3, o4⟩, g1, g2, o5, o6⟩ := zp _ _ hi
  obtain ⟨sp, A, t1, t2, t3, t4, t5, t6, t7, t8, t9, t10, t11, t12, t13, t14⟩ := zs _ _ hs
  have hlt : n < ps.length := (List.getElem?_eq_some_iff.mp hi).1
  have ap := r0.apart hi hP.2.2.2.1
  refine ct_mk hfl (by decide) (Nat.le_of_ble_eq_true rfl) (by intro v hv; simp only [List.mem_cons, List.not_mem_nil, or_false] at hv; rcases hv with rfl | rfl | rfl | rfl <;> rfl) (fun V X M => ?_)
  have Mm := M.m
  show V 0 [some (.ref x), some (.ref s), some (.ref a), some (.int (nI n)), none] [] _ 0 0
  refine r_aload_n Mm dX5_keepOffLower_0 rfl ?_
  refine r_iconst (v := nI 0) Mm dX5_keepOffLower_1 (by decide) ?_
  refine r_putI (ty := .boolean) Mm dX5_keepOffLower_2 fi_X5_203 ki_2 rfl (hP.1) rfl (i := 207) rfl rfl (by decide +kernel) rfl rfl ?_
  refine r_iconst (v := nI 0) Mm dX5_keepOffLower_5 (by decide) ?_
  refine r_istore Mm dX5_keepOffLower_6 (by decide) ?_
  show V 8 [some (.ref x), some (.ref s), some (.ref a), some (.int (nI n)), some (.int (nI 0))] _ _ _ _
  have loop : ∀ (k : Nat) (h1 : Hp) (q : Nat), n - q < k → (q ≤ n) → (KeI h h1 ps (tCast (eS σ j)) Q v0 a pl n q) → V 8 [some (.ref x), some (.ref s), some (.ref a), some (.int (nI n)), some (.int (nI q))] [] h1 0 0 := by
    intro k
    induction k with
    | zero => intro h1 q hm; exact absurd hm (Nat.not_lt_zero _)
    | succ k ih =>
      intro h1 q hm hq hk
      have hP1 := hP.tm hk.1
      have f01 : xF h1 200 a = qBar (eP σ n) := (hk.1.2.2.2.2.2 200 a (by decide) (by decide) (by decide)).trans f0
      have f11 : xF h1 201 a = qLen (eP σ n) := (hk.1.2.2.2.2.2 201 a (by decide) (by decide) (by decide)).trans f1b
      have r1 := r0.tm hk.1
      clear a1 a2 a3 a4 a5 b1 b2 zp zs d1 d2 e5 e6 f1
      obtain ⟨⟨a1, a2, a3, a4, a5⟩, ⟨b1, b2, -, -⟩, zp, zs, ⟨d1, d2⟩, -, f1⟩ := r1
      obtain ⟨sp, A, t1, t2, t3, t4, t5, t6, t7, t8, t9, t10, t11, t12, t13, t14⟩ := zs _ _ hs
      refine r_iload Mm dX5_keepOffLower_8 rfl ?_
      refine r_iload_n Mm dX5_keepOffLower_10 rfl ?_
      refine r_icmp_geN (tgt := 60) Mm dX5_keepOffLower_11 (by decide) (by omega) (by omega) (fun c1 => ?_) (fun c1 => ?_)
      · refine r_aload_n Mm dX5_keepOffLower_60 rfl ?_
        refine r_getI Mm dX5_keepOffLower_61 fi_X5_203 (hP1.1) rfl (i := 207) rfl ?_
        refine r_top _ (bI ((keepL (tCast (eS σ j)) (fun j => (Q j).1) v0 q).2)) (hk.2.2.1) ?_
        refine r_if_eqB (tgt := 71) Mm dX5_keepOffLower_64 (by decide) (fun c2 => ?_) (fun c2 => ?_)
        · refine r_vret M dX5_keepOffLower_71 ?_
          obtain rfl : q = n := by omega
          exact ⟨rfl, KeI.endF (qBar (eP σ q)) (qLen (eP σ q)) c2 hi hP.2.2.2.1 hk⟩
        · refine r_aload_n Mm dX5_keepOffLower_67 rfl ?_
          refine r_callV (As := []) Mm dX5_keepOffLower_68 rfl (ct_pull hfl h1 a ka ma pl xs ms hP1) (hP1.1) rfl cw_X5_238 ⟨Nat.le_of_ble_eq_true rfl, Nat.le_of_ble_eq_true rfl, Nat.le_of_ble_eq_true rfl⟩ (Nat.le_of_ble_eq_true rfl) ⟨Nat.le_of_ble_eq_true rfl, Nat.le_of_ble_eq_true rfl⟩ (fun r3 h4 p5 => ?_) (fun Er3 h4 p5 => False.elim p5)
          obtain ⟨rfl, rfl⟩ := p5
          show V 71 _ [] _ _ _
          refine r_vret M dX5_keepOffLower_71 ?_
          obtain rfl : q = n := by omega
          rw [f01, f11]
          exact ⟨rfl, KeI.endT (qBar (eP σ q)) (qLen (eP σ q)) c2 hi hP.2.2.2.1 ap hk⟩
      · refine r_iload Mm dX5_keepOffLower_14 rfl ?_
        refine r_aload_n Mm dX5_keepOffLower_16 rfl ?_
        refine r_getR Mm dX5_keepOffLower_17 fi_X5_10 (a1) rfl (i := 500) rfl (a2) ?_
        refine r_callV (As := []) Mm dX5_keepOffLower_20 rfl (ct_lsize hfl h1 pL ps b1) (b1.1) rfl cw_X5_37 ⟨Nat.le_of_ble_eq_true rfl, Nat.le_of_ble_eq_true rfl, Nat.le_of_ble_eq_true rfl⟩ (Nat.le_of_ble_eq_true rfl) ⟨Nat.le_of_ble_eq_true rfl, Nat.le_of_ble_eq_true rfl⟩ (fun r6 h7 p8 => ?_) (fun Er6 h7 p8 => False.elim p8)
        obtain ⟨rfl, rfl⟩ := p8
        show V 23 _ [(.int (nI (ps.length))), (.int (nI q))] _ _ _
        refine r_icmp_geN (tgt := 60) Mm dX5_keepOffLower_23 (by decide) (by omega) (by omega) (fun c9 => ?_) (fun c9 => ?_)
        · exact absurd hlt (by omega)
        · refine r_aload_n Mm dX5_keepOffLower_26 rfl ?_
          refine r_iload Mm dX5_keepOffLower_27 rfl ?_
          refine r_callV (As := [(.int (nI q))]) Mm dX5_keepOffLower_29 rfl (ct_hasPuppet hfl h1 s A (tCast (eS σ j)) t1 t6 t7 t8 (nI q)) (t1) rfl cw_X5_118 ⟨Nat.le_of_ble_eq_true rfl, Nat.le_of_ble_eq_true rfl, Nat.le_of_ble_eq_true rfl⟩ (Nat.le_of_ble_eq_true rfl) ⟨Nat.le_of_ble_eq_true rfl, Nat.le_of_ble_eq_true rfl⟩ (fun r10 h11 p12 => ?_) (fun Er10 h11 p12 => False.elim p12)
          obtain ⟨rfl, rfl⟩ := p12
          show V 32 _ [(.int (bI (hasC (tCast (eS σ j)) (nI q))))] _ _ _
          refine r_if_eqB (tgt := 54) Mm dX5_keepOffLower_32 (by decide) (fun c13 => ?_) (fun c13 => ?_)
          · refine r_iincN (k := 1) Mm dX5_keepOffLower_54 rfl (by decide) (by decide) ?_
            show V 57 [some (.ref x), some (.ref s), some (.ref a), some (.int (nI n)), some (.int (nI (q + 1)))] _ _ _ _
            refine r_goto (tgt := 8) Mm dX5_keepOffLower_57 (by decide) ?_
            exact ih _ (q + 1) (by omega) (by omega) (KeI.skip (by rw [← hasC_nI8 (c := tCast (eS σ j)) (show q < 8 by omega)]; exact c13) hk)
          · refine r_aload_n Mm dX5_keepOffLower_35 rfl ?_
            refine r_aload_n Mm dX5_keepOffLower_36 rfl ?_
            refine r_getR Mm dX5_keepOffLower_37 fi_X5_10 (a1) rfl (i := 500) rfl (a2) ?_
            refine r_iload Mm dX5_keepOffLower_40 rfl ?_
            obtain ⟨v14, hv14⟩ : ∃ v, ps[q]? = some v := ⟨_, List.getElem?_eq_getElem (by omega)⟩
            have sv14 := (zp _ _ hv14).choose_spec.choose_spec.choose_spec.choose_spec.choose_spec.1.1
            obtain ⟨kb, mb, pb, xb, yb, hPb, u1, u2, u3, u4, u5, u6, ⟨w1, w2, w3, w4⟩, w5, w6, w7, w8⟩ := zp _ _ hv14
            refine r_callV (As := [(.int (nI q))]) Mm dX5_keepOffLower_42 rfl (ct_lget hfl h1 pL q v14 ps (b1) hv14) (b1.1) rfl cw_X5_157 ⟨Nat.le_of_ble_eq_true rfl, Nat.le_of_ble_eq_true rfl, Nat.le_of_ble_eq_true rfl⟩ (Nat.le_of_ble_eq_true rfl) ⟨Nat.le_of_ble_eq_true rfl, Nat.le_of_ble_eq_true rfl⟩ (fun r15 h16 p17 => ?_) (fun Er15 h16 p17 => False.elim p17)
            obtain ⟨rfl, rfl⟩ := p17
            show V 45 _ [(.ref v14), (.ref a)] _ _ _
            refine r_cast Mm dX5_keepOffLower_45 (sv14) rfl cl_X5_48 ?_
            refine r_getR Mm dX5_keepOffLower_48 fi_X5_177 (sv14) rfl (i := 206) rfl (hPb.2.2.2.1) ?_
            refine r_callV (As := [(.ref pb)]) Mm dX5_keepOffLower_51 rfl (ct_keepOff hfl h1 a ka ma pl xs ms hP1 pb hPb.2.2.2.2.1) (hP1.1) rfl cw_X5_245 ⟨Nat.le_of_ble_eq_true rfl, Nat.le_of_ble_eq_true rfl, Nat.le_of_ble_eq_true rfl⟩ (Nat.le_of_ble_eq_true rfl) ⟨Nat.le_of_ble_eq_true rfl, Nat.le_of_ble_eq_true rfl⟩ (fun r18 h19 p20 => ?_) (fun Er18 h19 p20 => False.elim p20)
            obtain ⟨rfl, rfl⟩ := p20
            show V 54 _ [] _ _ _
            refine r_iincN (k := 1) Mm dX5_keepOffLower_54 rfl (by decide) (by decide) ?_
            show V 57 [some (.ref x), some (.ref s), some (.ref a), some (.int (nI n)), some (.int (nI (q + 1)))] _ _ _ _
            refine r_goto (tgt := 8) Mm dX5_keepOffLower_57 (by decide) ?_
            exact ih _ (q + 1) (by omega) (by omega) (KeI.step (by rw [← hasC_nI8 (c := tCast (eS σ j)) (show q < 8 by omega)]; exact c13) (by omega) ap hv14 hPb.2.2.2.1 hk)
  exact loop (n + 1) _ 0 (by omega) (Nat.zero_le _) (KeI.start ap (hv _ hP.2.2.2.1) hQ)
theorem goQ_s (σ : ST) (c : Nat → Bool) (f : Int32) (n : Nat) : goQ σ c f (n + 1) n = setP σ c f (fun j => (goQ σ c f n j).1) n := if_pos rfl
theorem goQ_n (σ : ST) (c : Nat → Bool) (f : Int32) {n q : Nat} (h : q ≠ n) : goQ σ c f (n + 1) q = goQ σ c f n q := if_neg h
theorem pXY_k (h : Hp) (p : Nat) (v : Int32 × Int32) {i : Nat} (b : Nat) (h0 : i ≠ 100) (h1 : i ≠ 101) : xF (pXY h p v) i b = xF h i b := by
  rw [pXY_u, zxF_yF, if_neg (fun z => h1 z.1), zxF_yF, if_neg (fun z => h0 z.1)]
theorem pull_pull (h : Hp) (p a : Nat) (t : Int32 × Int32) : pXY (pXY h p t) p (pullS (xF (pXY h p t) 200 a) (xF (pXY h p t) 201 a) (xF (pXY h p t) 100 p, xF (pXY h p t) 101 p)) = pXY h p (pullS (xF h 200 a) (xF h 201 a) t) := by
  rw [pXY_pXY, pXY_k h p t a (by decide) (by decide), pXY_k h p t a (by decide) (by decide), (pXY_x h p t).1, (pXY_x h p t).2]
theorem PMQ.pxy {h : Hp} {ps : List Nat} {a pl n r : Nat} {v : (Int32 × Int32) × Bool} (w : Int32 × Int32) (ap : Apart h ps a pl n) (hr : r < n) (hq : PMQ h ps r v) : PMQ (pXY h pl w) ps r v := PMQ.apart ap hr hq rfl (fun b hb => ⟨pXY_o _ _ _ hb _, pXY_o _ _ _ hb _⟩) (fun b hb => pXY_7 _ _ _ _)
theorem goQ_next {h' : Hp} {ps : List Nat} {σ : ST} {c : Nat → Bool} {f : Int32} {n : Nat} (k2 : ∀ r < n, c r = true → PMQ h' ps r (goQ σ c f n r)) (k3 : c n = true → PMQ h' ps n (setP σ c f (fun j => (goQ σ c f n j).1) n)) : ∀ q < n + 1, c q = true → PMQ h' ps q (goQ σ c f (n + 1) q) := fun q hq hc => by
  by_cases e : q = n
  · subst e; rw [goQ_s]; exact k3 hc
  · rw [goQ_n _ _ _ e]; exact k2 q (by omega) hc
set_option maxRecDepth 100000 in
set_option maxHeartbeats 4000000 in
theorem ct_settled {g : Gl} {l : Launch} (hfl : l.stackTraces = false) {E : Nat} (h : Hp) (x pL sL ha : Nat) (ow : Nat → Nat) (ps ss : List Nat) (σ : ST) (r : RC E ow h x pL sL ha ps ss σ) (j s : Nat) (hs : ss[j]? = some s) (i a : Nat) (ha0 : ps[i]? = some a) (hi8 : i < 8) (f : Int32) : CT g l iX5_settled 8 [.ref x, .ref s, .int (nI i), .int f] h 0 0 (pRel (fun r h' => r = some (.ref a) ∧ Tm h h' ∧ ∀ q ≤ i, (tCast (eS σ j)) q = true → PMQ h' ps q (goQ σ (tCast (eS σ j)) f (q + 1) q))) := by
  have r0 := r
  obtain ⟨⟨a1, a2, a3, a4, a5⟩, ⟨b1, b2, b3, b4⟩, zp, zs, ⟨d1, d2⟩, ⟨e1, e2, e3, e4, e5, e6⟩, f1⟩ := r
  have hl1 := b1.2.2.1
  have hl2 := b2.2.2.1
  obtain ⟨sp, A, t1, t2, t3, t4, t5, t6, t7, t8, t9, t10, t11, t12, t13, t14⟩ := zs _ _ hs
  have hlt : i < ps.length := (List.getElem?_eq_some_iff.mp ha0).1
  refine ct_mk hfl (by decide) (Nat.le_of_ble_eq_true rfl) (by intro v hv; simp only [List.mem_cons, List.not_mem_nil, or_false] at hv; rcases hv with rfl | rfl | rfl | rfl <;> rfl) (fun V X M => ?_)
  have Mm := M.m
  show V 0 [some (.ref x), some (.ref s), some (.int (nI i)), some (.int f), none, none, none] [] _ 0 0
  refine r_aload_n Mm dX5_settled_0 rfl ?_
  refine r_iload_n Mm dX5_settled_1 rfl ?_
  refine r_callV (As := [(.int (nI i))]) Mm dX5_settled_2 rfl (ct_pupOk hfl h x pL sL ha ow ps ss σ r0 i a ha0) (a1) rfl cw_X5_57 ⟨Nat.le_of_ble_eq_true rfl, Nat.le_of_ble_eq_true rfl, Nat.le_of_ble_eq_true rfl⟩ (Nat.le_of_ble_eq_true rfl) ⟨Nat.le_of_ble_eq_true rfl, Nat.le_of_ble_eq_true rfl⟩ (fun r1 h2 p3 => ?_) (fun Er1 h2 p3 => False.elim p3)
  obtain ⟨rfl, rfl⟩ := p3
  show V 5 _ [(.ref a)] _ _ _
  refine r_astore Mm dX5_settled_5 (by decide) ?_
  show V 7 [some (.ref x), some (.ref s), some (.int (nI i)), some (.int f), some (.ref a), none, none] _ _ _ _
  refine r_iconst (v := nI 0) Mm dX5_settled_7 (by decide) ?_
  refine r_istore Mm dX5_settled_8 (by decide) ?_
  show V 10 [some (.ref x), some (.ref s), some (.int (nI i)), some (.int f), some (.ref a), some (.int (nI 0)), none] _ _ _ _
  have loop : ∀ (k : Nat) (h1 : Hp) (n : Nat) (z : Option Value), i + 1 - n < k → (n ≤ i + 1) → (Tm h h1) → (∀ q < n, (tCast (eS σ j)) q = true → PMQ h1 ps q (goQ σ (tCast (eS σ j)) f n q)) → V 10 [some (.ref x), some (.ref s), some (.int (nI i)), some (.int f), some (.ref a), some (.int (nI n)), z] [] h1 0 0 := by
    intro k
    induction k with
    | zero => intro h1 n z hm; exact absurd hm (Nat.not_lt_zero _)
    | succ k ih =>
      intro h1 n z hm hn ht hQ
      have r1 := r0.tm ht
      have r2 := r1
      clear a1 a2 a3 a4 a5 b1 b2 zp zs d1 d2 e5 e6 f1
      obtain ⟨⟨a1, a2, a3, a4, a5⟩, ⟨b1, b2, -, -⟩, zp, zs, ⟨d1, d2⟩, -, f1⟩ := r2
      obtain ⟨sp, A, t1, t2, t3, t4, t5, t6, t7, t8, t9, t10, t11, t12, t13, t14⟩ := zs _ _ hs
      refine r_iload Mm dX5_settled_10 rfl ?_
      refine r_iload_n Mm dX5_settled_12 rfl ?_
      refine r_icmp_gtN (tgt := 83) Mm dX5_settled_13 (by decide) (by omega) (by omega) (fun c4 => ?_) (fun c4 => ?_)
      · refine r_aload Mm dX5_settled_83 rfl ?_
        refine r_aret M dX5_settled_85 (Or.inl ⟨_, rfl⟩) ?_
        obtain rfl : n = i + 1 := by omega
        exact ⟨rfl, ht, fun q hq hc => by rw [← goQ_low σ (tCast (eS σ j)) f (show q < i + 1 by omega)]; exact hQ q (by omega) hc⟩
      · refine r_iload Mm dX5_settled_16 rfl ?_
        refine r_aload_n Mm dX5_settled_18 rfl ?_
        refine r_getR Mm dX5_settled_19 fi_X5_10 (a1) rfl (i := 500) rfl (a2) ?_
        refine r_callV (As := []) Mm dX5_settled_22 rfl (ct_lsize hfl h1 pL ps b1) (b1.1) rfl cw_X5_37 ⟨Nat.le_of_ble_eq_true rfl, Nat.le_of_ble_eq_true rfl, Nat.le_of_ble_eq_true rfl⟩ (Nat.le_of_ble_eq_true rfl) ⟨Nat.le_of_ble_eq_true rfl, Nat.le_of_ble_eq_true rfl⟩ (fun r5 h6 p7 => ?_) (fun Er5 h6 p7 => False.elim p7)
        obtain ⟨rfl, rfl⟩ := p7
        show V 25 _ [(.int (nI (ps.length))), (.int (nI n))] _ _ _
        refine r_icmp_geN (tgt := 83) Mm dX5_settled_25 (by decide) (by omega) (by omega) (fun c8 => ?_) (fun c8 => ?_)
        · exact absurd hlt (by omega)
        · refine r_aload_n Mm dX5_settled_28 rfl ?_
          refine r_iload Mm dX5_settled_29 rfl ?_
          refine r_callV (As := [(.int (nI n))]) Mm dX5_settled_31 rfl (ct_hasPuppet hfl h1 s A (tCast (eS σ j)) t1 t6 t7 t8 (nI n)) (t1) rfl cw_X5_118 ⟨Nat.le_of_ble_eq_true rfl, Nat.le_of_ble_eq_true rfl, Nat.le_of_ble_eq_true rfl⟩ (Nat.le_of_ble_eq_true rfl) ⟨Nat.le_of_ble_eq_true rfl, Nat.le_of_ble_eq_true rfl⟩ (fun r9 h10 p11 => ?_) (fun Er9 h10 p11 => False.elim p11)
          obtain ⟨rfl, rfl⟩ := p11
          show V 34 _ [(.int (bI (hasC (tCast (eS σ j)) (nI n))))] _ _ _
          refine r_if_eqB (tgt := 77) Mm dX5_settled_34 (by decide) (fun c12 => ?_) (fun c12 => ?_)
          · refine r_iincN (k := 1) Mm dX5_settled_77 rfl (by decide) (by decide) ?_
            show V 80 [some (.ref x), some (.ref s), some (.int (nI i)), some (.int f), some (.ref a), some (.int (nI (n + 1))), z] _ _ _ _
            refine r_goto (tgt := 10) Mm dX5_settled_80 (by decide) ?_
            have hc : (tCast (eS σ j)) n = false := by rw [← hasC_nI8 (c := (tCast (eS σ j))) (show n < 8 by omega)]; exact c12
            exact ih _ (n + 1) _ (by omega) (by omega) ht (goQ_next hQ (fun q => absurd q (by rw [hc]; exact Bool.noConfusion)))
          · refine r_aload_n Mm dX5_settled_37 rfl ?_
            refine r_getR Mm dX5_settled_38 fi_X5_10 (a1) rfl (i := 500) rfl (a2) ?_
            refine r_iload Mm dX5_settled_41 rfl ?_
            obtain ⟨v13, hv13⟩ : ∃ v, ps[n]? = some v := ⟨_, List.getElem?_eq_getElem (by omega)⟩
            have sv13 := (zp _ _ hv13).choose_spec.choose_spec.choose_spec.choose_spec.choose_spec.1.1
            obtain ⟨kb, mb, pb, xb, yb, hPb, u1, u2, u3, u4, u5, u6, ⟨w1, w2, w3, w4⟩, w5, w6, w7, w8⟩ := zp _ _ hv13
            refine r_callV (As := [(.int (nI n))]) Mm dX5_settled_43 rfl (ct_lget hfl h1 pL n v13 ps (b1) hv13) (b1.1) rfl cw_X5_157 ⟨Nat.le_of_ble_eq_true rfl, Nat.le_of_ble_eq_true rfl, Nat.le_of_ble_eq_true rfl⟩ (Nat.le_of_ble_eq_true rfl) ⟨Nat.le_of_ble_eq_true rfl, Nat.le_of_ble_eq_true rfl⟩ (fun r14 h15 p16 => ?_) (fun Er14 h15 p16 => False.elim p16)
            obtain ⟨rfl, rfl⟩ := p16
            show V 46 _ [(.ref v13)] _ _ _
            refine r_cast Mm dX5_settled_46 (sv13) rfl cl_X5_48 ?_
            refine r_astore Mm dX5_settled_49 (by decide) ?_
            show V 51 [some (.ref x), some (.ref s), some (.int (nI i)), some (.int f), some (.ref a), some (.int (nI n)), some (.ref v13)] _ _ _ _
            refine r_aload Mm dX5_settled_51 rfl ?_
            refine r_aload_n Mm dX5_settled_53 rfl ?_
            refine r_aload Mm dX5_settled_54 rfl ?_
            refine r_iload_n Mm dX5_settled_56 rfl ?_
            refine r_callV (As := [(.ref v13), (.int f)]) Mm dX5_settled_57 rfl (ct_ownFrame hfl h1 x pL sL ha ow ps ss σ r1 n v13 hv13 f) (a1) rfl cw_X5_234 ⟨Nat.le_of_ble_eq_true rfl, Nat.le_of_ble_eq_true rfl, Nat.le_of_ble_eq_true rfl⟩ (Nat.le_of_ble_eq_true rfl) ⟨Nat.le_of_ble_eq_true rfl, Nat.le_of_ble_eq_true rfl⟩ (fun r17 h18 p19 => ?_) (fun Er17 h18 p19 => False.elim p19)
            obtain ⟨rfl, rfl⟩ := p19
            show V 60 _ [(.int (ownF (eH σ) (qCue (eP σ n)) f)), (.ref v13)] _ _ _
            refine r_callV (As := [(.int (ownF (eH σ) (qCue (eP σ n)) f))]) Mm dX5_settled_60 rfl (ct_standAt hfl h1 v13 kb mb pb xb yb hPb (ownF (eH σ) (qCue (eP σ n)) f)) (sv13) rfl cw_X5_174 ⟨Nat.le_of_ble_eq_true rfl, Nat.le_of_ble_eq_true rfl, Nat.le_of_ble_eq_true rfl⟩ (Nat.le_of_ble_eq_true rfl) ⟨Nat.le_of_ble_eq_true rfl, Nat.le_of_ble_eq_true rfl⟩ (fun r20 h21 p22 => ?_) (fun Er20 h21 p22 => False.elim p22)
            obtain ⟨rfl, rfl⟩ := p22
            rw [u1, u3]
            show V 63 _ [] _ _ _
            refine r_aload Mm dX5_settled_63 rfl ?_
            refine r_callV (As := []) Mm dX5_settled_65 rfl (ct_pull hfl (pXY h1 pb (trk (qBar (eP σ n)) (qKeys (eP σ n)) (ownF (eH σ) (qCue (eP σ n)) f))) v13 kb mb pb xb yb (isPup.xy hPb pb (trk (qBar (eP σ n)) (qKeys (eP σ n)) (ownF (eH σ) (qCue (eP σ n)) f)))) (sv13) rfl cw_X5_238 ⟨Nat.le_of_ble_eq_true rfl, Nat.le_of_ble_eq_true rfl, Nat.le_of_ble_eq_true rfl⟩ (Nat.le_of_ble_eq_true rfl) ⟨Nat.le_of_ble_eq_true rfl, Nat.le_of_ble_eq_true rfl⟩ (fun r23 h24 p25 => ?_) (fun Er23 h24 p25 => False.elim p25)
            obtain ⟨rfl, rfl⟩ := p25
            rw [pull_pull, u1, u2]
            show V 68 _ [] _ _ _
            refine r_aload_n Mm dX5_settled_68 rfl ?_
            refine r_aload_n Mm dX5_settled_69 rfl ?_
            refine r_aload Mm dX5_settled_70 rfl ?_
            refine r_iload Mm dX5_settled_72 rfl ?_
            have ap := r1.apart hv13 hPb.2.2.2.1
            refine r_callV (As := [(.ref s), (.ref v13), (.int (nI n))]) Mm dX5_settled_74 rfl (ct_keepLower hfl (pXY h1 pb (pullS (qBar (eP σ n)) (qLen (eP σ n)) (trk (qBar (eP σ n)) (qKeys (eP σ n)) (ownF (eH σ) (qCue (eP σ n)) f)))) x pL sL ha ow ps ss σ (r1.tm (Tm.xy h1 pb (pullS (qBar (eP σ n)) (qLen (eP σ n)) (trk (qBar (eP σ n)) (qKeys (eP σ n)) (ownF (eH σ) (qCue (eP σ n)) f))))) j s hs n v13 hv13 (by omega) (goQ σ (tCast (eS σ j)) f n) (pullS (qBar (eP σ n)) (qLen (eP σ n)) (trk (qBar (eP σ n)) (qKeys (eP σ n)) (ownF (eH σ) (qCue (eP σ n)) f))) (fun p hp => by rw [show p = pb from Option.some.inj (hp.symm.trans hPb.2.2.2.1), (pXY_x h1 pb _).1, (pXY_x h1 pb _).2]) (fun r hr hc => PMQ.pxy _ ap hr (hQ r hr hc))) (a1) rfl cw_X5_241 ⟨Nat.le_of_ble_eq_true rfl, Nat.le_of_ble_eq_true rfl, Nat.le_of_ble_eq_true rfl⟩ (Nat.le_of_ble_eq_true rfl) ⟨Nat.le_of_ble_eq_true rfl, Nat.le_of_ble_eq_true rfl⟩ (fun r26 h27 p28 => ?_) (fun Er26 h27 p28 => False.elim p28)
            obtain ⟨rfl, k1, k2, k3⟩ := p28
            show V 77 _ [] _ _ _
            refine r_iincN (k := 1) Mm dX5_settled_77 rfl (by decide) (by decide) ?_
            show V 80 [some (.ref x), some (.ref s), some (.int (nI i)), some (.int f), some (.ref a), some (.int (nI (n + 1))), some (.ref v13)] _ _ _ _
            refine r_goto (tgt := 10) Mm dX5_settled_80 (by decide) ?_
            exact ih h27 (n + 1) _ (by omega) (by omega) (ht.tr ((Tm.xy h1 pb (pullS (qBar (eP σ n)) (qLen (eP σ n)) (trk (qBar (eP σ n)) (qKeys (eP σ n)) (ownF (eH σ) (qCue (eP σ n)) f)))).tr k1)) (goQ_next k2 (fun _ => k3))
  exact loop (i + 2) _ 0 _ (by omega) (Nat.zero_le _) Tm.rf (fun q hq => absurd hq (Nat.not_lt_zero _))
