/-! ===== the model's puppets of a show at a frame ===== -/
def inP (v : Int32 × Int32) : Prop := (-1500 ≤ v.1.toInt ∧ v.1.toInt ≤ 2499) ∧ -2047 ≤ v.2.toInt ∧ v.2.toInt ≤ 2047
def inK (v : Int32 × Int32) : Prop := (-1510 ≤ v.1.toInt ∧ v.1.toInt ≤ 2509) ∧ -2047 ≤ v.2.toInt ∧ v.2.toInt ≤ 2047
theorem inP.k {v : Int32 × Int32} (h : inP v) : inK v := by
  obtain ⟨⟨a, b⟩, d, e⟩ := h
  exact ⟨⟨by omega, by omega⟩, d, e⟩
theorem pS_fin {p : PS} (hok : okP p) {v : Int32 × Int32} (h1 : -10000 ≤ v.1.toInt ∧ v.1.toInt ≤ 10000) (h2 : -10000 ≤ v.2.toInt ∧ v.2.toInt ≤ 10000) : inP (pullS (qBar p) (qLen p) v) := by
  obtain ⟨⟨b, hb, eb⟩, ⟨L, hL, eL⟩, -⟩ := hok
  exact pullS_fin (X0 := v.1) (Y0 := v.2) (by rw [eb, nI_toInt (by omega)]; omega) hL eL h1 h2
theorem away_bd {x w : Int32} (hw : -1500 ≤ w.toInt ∧ w.toInt ≤ 2499) : -1510 ≤ (awayS x w).toInt ∧ (awayS x w).toInt ≤ 2509 := by
  have e10 : (nI 10).toInt = 10 := rfl
  rw [awayS]
  by_cases c : x < w
  · rw [if_pos c, i_sub (by omega) (by omega), e10]; omega
  · rw [if_neg c, i_add (by omega) (by omega), e10]; omega
theorem keepL_bd {c : Nat → Bool} {Q : Nat → Int32 × Int32} {v0 : Int32 × Int32} (h0 : inP v0) : ∀ n : Nat, (∀ q < n, c q = true → inP (Q q)) → inK (keepL c Q v0 n).1 ∧ ((keepL c Q v0 n).2 = false → inP (keepL c Q v0 n).1) := by
  intro n
  induction n with
  | zero => intro _; exact ⟨h0.k, fun _ => h0⟩
  | succ n ih =>
    intro hQ
    obtain ⟨i1, i2⟩ := ih (fun q hq hc => hQ q (by omega) hc)
    by_cases hc : c n = true
    · by_cases hn : nearS (keepL c Q v0 n).1 (Q n) = true
      · rw [show keepL c Q v0 (n + 1) = ((awayS (keepL c Q v0 n).1.1 (Q n).1, (keepL c Q v0 n).1.2), true) from (if_pos hc).trans (if_pos hn)]
        exact ⟨⟨away_bd (hQ n (by omega) hc).1, i1.2⟩, fun z => Bool.noConfusion z⟩
      · rw [show keepL c Q v0 (n + 1) = keepL c Q v0 n from (if_pos hc).trans (if_neg hn)]
        exact ⟨i1, i2⟩
    · rw [show keepL c Q v0 (n + 1) = keepL c Q v0 n from if_neg hc]
      exact ⟨i1, i2⟩
theorem inB_far {v : Int32} (h : inB v) : -10000 ≤ v.toInt ∧ v.toInt ≤ 10000 := by
  obtain ⟨a, b⟩ := h
  omega
theorem pt_bd {p : PS} (hok : okP p) (f : Int32) : inP (pullS (qBar p) (qLen p) (trk (qBar p) (qKeys p) f)) := pS_fin hok (inB_far (trk_bd hok f).1) (inB_far (trk_bd hok f).2)
theorem setP_bd {σ : ST} {c : Nat → Bool} {f : Int32} {Q : Nat → Int32 × Int32} {n : Nat} (hok : okP (eP σ n)) (hQ : ∀ q < n, c q = true → inP (Q q)) : inP (setP σ c f Q n).1 := by
  obtain ⟨k1, k2⟩ := keepL_bd (pt_bd hok (ownF (eH σ) (qCue (eP σ n)) f)) n hQ
  rw [setP, endP]
  by_cases hb : (keepL c Q (pullS (qBar (eP σ n)) (qLen (eP σ n)) (trk (qBar (eP σ n)) (qKeys (eP σ n)) (ownF (eH σ) (qCue (eP σ n)) f))) n).2 = true
  · rw [if_pos hb]
    obtain ⟨⟨a1, a2⟩, a3, a4⟩ := k1
    exact pS_fin hok ⟨by omega, by omega⟩ ⟨by omega, by omega⟩
  · rw [if_neg hb]
    exact k2 (by simpa using hb)
theorem goQ_bd {σ : ST} {c : Nat → Bool} {f : Int32} (hok : ∀ q, c q = true → okP (eP σ q)) : ∀ n q : Nat, q < n → c q = true → inP (goQ σ c f n q).1 := by
  intro n
  induction n with
  | zero => intro q hq; omega
  | succ n ih =>
    intro q hq hc
    by_cases e : q = n
    · subst e
      rw [goQ_s]
      exact setP_bd (hok _ hc) ih
    · rw [goQ_n _ _ _ e]
      exact ih q (by omega) hc
theorem nearS_eq {v w : Int32 × Int32} (hv : inK v) (hw : inK w) : nearS v w = (decide (v.1 - w.1 < nI 10 ∧ w.1 - v.1 < nI 10) && decide (v.2 - w.2 < nI 10 ∧ w.2 - v.2 < nI 10)) := by
  obtain ⟨⟨a1, a2⟩, a3, a4⟩ := hv
  obtain ⟨⟨b1, b2⟩, b3, b4⟩ := hw
  rw [nearS, near_ax ⟨by omega, by omega⟩ ⟨by omega, by omega⟩, near_ax ⟨by omega, by omega⟩ ⟨by omega, by omega⟩]
theorem ownF_fin {H : Nat → Int32} {cue : Int32} {F : Nat} (hr : ∀ s < 10, H s = -1 ∨ ∃ n ≤ 999, H s = nI n) (hcue : cue = -1 ∨ ∃ c ≤ 9, cue = nI c) (hF : F < 2000) : ∃ F2 < 2000, ownF H cue (nI F) = nI F2 := by
  rcases hcue with rfl | ⟨c, hc, rfl⟩
  · exact ⟨F, hF, if_pos (Or.inl (by decide))⟩
  · have h1 : ¬ (nI c < 0 ∨ nI 10 ≤ nI c) := fun z => z.elim (fun q => absurd (nI_ge0 (a := c) (by omega)) (Int32.not_le.mpr q)) (fun q => absurd ((nI_leI (by decide) (by omega)).mp q) (by omega))
    rw [ownF, if_neg h1, nI_clamp (by omega)]
    rcases hr c (by omega) with e | ⟨n, hn, e⟩
    · exact ⟨0, by decide, if_pos e⟩
    · rw [e, if_neg (nI_ne1 (by omega)), sub_pos hF hn]
      by_cases q : n ≤ F
      · rw [if_pos q, pk_sub q]; exact ⟨F - n, by omega, rfl⟩
      · rw [if_neg q]; exact ⟨0, by decide, rfl⟩
def MAt (h : Hp) (ad : Nat → Nat) (q : Nat) (v : (Int32 × Int32) × Bool) : Prop := xA h (ad 26) q = v.1.1 ∧ xA h (ad 27) q = v.1.2 ∧ xA h (ad 28) q = bI v.2
def KeM (h h2 : Hp) (m : Nat) (ad : Nat → Nat) (c : Nat → Bool) (Q : Nat → (Int32 × Int32) × Bool) (v0 : Int32 × Int32) (n q : Nat) : Prop := Mt m ad h h2 ∧ MAt h2 ad n (keepL c (fun j => (Q j).1) v0 q) ∧ ∀ r < n, c r = true → MAt h2 ad r (Q r)
section KeML
variable {h h2 : Hp} {m : Nat} {ad : Nat → Nat} {c : Nat → Bool} {Q : Nat → (Int32 × Int32) × Bool} {v0 : Int32 × Int32} {n q : Nat}
theorem KeM.skip (hc : c q = false) (k : KeM h h2 m ad c Q v0 n q) : KeM h h2 m ad c Q v0 n (q + 1) := by
  have e : keepL c (fun j => (Q j).1) v0 (q + 1) = keepL c (fun j => (Q j).1) v0 q := if_neg (by rw [hc]; exact Bool.noConfusion)
  obtain ⟨k1, k2, k3⟩ := k
  exact ⟨k1, by rw [e]; exact k2, k3⟩
theorem KeM.far (hc : c q = true) (hn : nearS (keepL c (fun j => (Q j).1) v0 q).1 (Q q).1 = false) (k : KeM h h2 m ad c Q v0 n q) : KeM h h2 m ad c Q v0 n (q + 1) := by
  have e : keepL c (fun j => (Q j).1) v0 (q + 1) = keepL c (fun j => (Q j).1) v0 q := (if_pos hc).trans (if_neg (by rw [hn]; exact Bool.noConfusion))
  obtain ⟨k1, k2, k3⟩ := k
  exact ⟨k1, by rw [e]; exact k2, k3⟩
theorem KeM.step (n68 : ad 26 ≠ ad 28) (n78 : ad 27 ≠ ad 28) (n67 : ad 26 ≠ ad 27) (hc : c q = true) (hn : nearS (keepL c (fun j => (Q j).1) v0 q).1 (Q q).1 = true) (k : KeM h h2 m ad c Q v0 n q) : KeM h (yA (yA h2 (ad 26) n (awayS (keepL c (fun j => (Q j).1) v0 q).1.1 (Q q).1.1)) (ad 28) n (nI 1)) m ad c Q v0 n (q + 1) := by
  have e : keepL c (fun j => (Q j).1) v0 (q + 1) = ((awayS (keepL c (fun j => (Q j).1) v0 q).1.1 (Q q).1.1, (keepL c (fun j => (Q j).1) v0 q).1.2), true) := (if_pos hc).trans (if_pos hn)
  obtain ⟨k1, ⟨k2, k3, k4⟩, k5⟩ := k
  rw [KeM, e]
  refine ⟨(k1.tr (Mt.a6 _ _ _)).tr (Mt.a8 _ _ _), ⟨?_, ?_, ?_⟩, fun r hr hc => ?_⟩
  · rw [zxA_yA, if_neg (fun z => n68 z.1), zxA_yA, if_pos ⟨rfl, rfl⟩]
  · rw [zxA_yA, if_neg (fun z => n78 z.1), zxA_yA, if_neg (fun z => n67 z.1.symm)]; exact k3
  · rw [zxA_yA, if_pos ⟨rfl, rfl⟩]; rfl
  · obtain ⟨u1, u2, u3⟩ := k5 r hr hc
    have hne : r ≠ n := by omega
    refine ⟨?_, ?_, ?_⟩
    · rw [zxA_yA, if_neg (fun z => hne z.2), zxA_yA, if_neg (fun z => hne z.2)]; exact u1
    · rw [zxA_yA, if_neg (fun z => hne z.2), zxA_yA, if_neg (fun z => hne z.2)]; exact u2
    · rw [zxA_yA, if_neg (fun z => hne z.2), zxA_yA, if_neg (fun z => hne z.2)]; exact u3
theorem goQ_nextM {h' : Hp} {σ : ST} {f : Int32} (k2 : ∀ r < n, c r = true → MAt h' ad r (goQ σ c f n r)) (k3 : c n = true → MAt h' ad n (setP σ c f (fun j => (goQ σ c f n j).1) n)) : ∀ q < n + 1, c q = true → MAt h' ad q (goQ σ c f (n + 1) q) := fun q hq hc => by
  by_cases e : q = n
  · subst e; rw [goQ_s]; exact k3 hc
  · rw [goQ_n _ _ _ e]; exact k2 q (by omega) hc
/-- the start: found, put, pulled, not bent -/
theorem KeM.start {h1 hf hp : Hp} {X Y : Int32} (n67 : ad 26 ≠ ad 27) (n68 : ad 26 ≠ ad 28) (n78 : ad 27 ≠ ad 28) (t1 : Mt m ad h h1) (t2 : Mt m ad h1 hf) (tx : xA hf = xA h1) (t3 : Mt m ad (yA (yA hf (ad 26) n X) (ad 27) n Y) hp) (pm : pulledM (yA (yA hf (ad 26) n X) (ad 27) n Y) hp ad n v0) (hQ : ∀ r < n, c r = true → MAt h1 ad r (Q r)) : KeM h (yA hp (ad 28) n (nI 0)) m ad c Q v0 n 0 := by
  obtain ⟨p1, p2, p3⟩ := pm
  have p1a : xA hp (ad 26) n = v0.1 := congrArg Prod.fst p1
  have p1b : xA hp (ad 27) n = v0.2 := congrArg Prod.snd p1
  refine ⟨(((t1.tr t2).tr ((Mt.a6 _ _ _).tr (Mt.a7 _ _ _))).tr t3).tr (Mt.a8 _ _ _), ⟨?_, ?_, ?_⟩, fun r hr hc => ?_⟩
  · rw [zxA_yA, if_neg (fun z => n68 z.1)]; exact p1a
  · rw [zxA_yA, if_neg (fun z => n78 z.1)]; exact p1b
  · rw [zxA_yA, if_pos ⟨rfl, rfl⟩]; rfl
  · obtain ⟨u1, u2, u3⟩ := hQ r hr hc
    have hne : r ≠ n := by omega
    refine ⟨?_, ?_, ?_⟩
    · rw [zxA_yA, if_neg (fun z => hne z.2), (p2 r hne).1, zxA_yA, if_neg (fun z => hne z.2), zxA_yA, if_neg (fun z => hne z.2), tx]; exact u1
    · rw [zxA_yA, if_neg (fun z => hne z.2), (p2 r hne).2, zxA_yA, if_neg (fun z => hne z.2), zxA_yA, if_neg (fun z => hne z.2), tx]; exact u2
    · rw [zxA_yA, if_neg (fun z => hne z.2), p3 r, zxA_yA, if_neg (fun z => hne z.2), zxA_yA, if_neg (fun z => hne z.2), tx]; exact u3
theorem KeM.endF {σ : ST} {f : Int32} (k : KeM h h2 m ad c Q v0 n n) (b l : Int32) (hf : (keepL c (fun j => (Q j).1) v0 n).2 = false) : MAt h2 ad n (endP b l (keepL c (fun j => (Q j).1) v0 n)) := by
  rw [show endP b l (keepL c (fun j => (Q j).1) v0 n) = keepL c (fun j => (Q j).1) v0 n from if_neg (by rw [hf]; exact Bool.noConfusion)]
  exact k.2.1
theorem KeM.endT {h3 : Hp} (b l : Int32) (hf : (keepL c (fun j => (Q j).1) v0 n).2 = true) (k : KeM h h2 m ad c Q v0 n n) (pm : pulledM h2 h3 ad n (pullS b l (keepL c (fun j => (Q j).1) v0 n).1)) : MAt h3 ad n (endP b l (keepL c (fun j => (Q j).1) v0 n)) ∧ ∀ r < n, c r = true → MAt h3 ad r (Q r) := by
  obtain ⟨p1, p2, p3⟩ := pm
  rw [show endP b l (keepL c (fun j => (Q j).1) v0 n) = (pullS b l (keepL c (fun j => (Q j).1) v0 n).1, true) from if_pos hf]
  refine ⟨⟨congrArg Prod.fst p1, congrArg Prod.snd p1, by rw [p3 n, k.2.1.2.2, hf]⟩, fun r hr hc => ?_⟩
  obtain ⟨u1, u2, u3⟩ := k.2.2 r hr hc
  have hne : r ≠ n := by omega
  exact ⟨(p2 r hne).1.trans u1, (p2 r hne).2.trans u2, (p3 r).trans u3⟩
end KeML
