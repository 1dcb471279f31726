/-! ===== the model's keys ===== -/
theorem insG {xs : List K4} {i j : Nat} {v : K4} (hi : i ≤ xs.length) : (xs.insertIdx i v)[j]? = if j < i then xs[j]? else if j = i then some v else xs[j - 1]? := by
  rw [List.getElem?_insertIdx]
  by_cases c1 : j < i
  · rw [if_pos c1, if_pos c1]
  · rw [if_neg c1, if_neg c1]
    by_cases c2 : j = i
    · rw [if_pos c2, if_pos c2, if_pos (by omega)]
    · rw [if_neg c2, if_neg c2]
def rw4 (h : Hp) (ad : Nat → Nat) (z : Nat) : K4 := (xA h (ad 7) z, xA h (ad 8) z, xA h (ad 9) z, xA h (ad 10) z)
theorem rw4_of {h : Hp} {ad : Nat → Nat} {z : Nat} {k : K4} (e : xA h (ad 7) z = k.1 ∧ xA h (ad 8) z = k.2.1 ∧ xA h (ad 9) z = k.2.2.1 ∧ xA h (ad 10) z = k.2.2.2) : rw4 h ad z = k := by
  obtain ⟨a, b, c, d⟩ := e
  rw [rw4, a, b, c, d]
theorem rw4_to {h : Hp} {ad : Nat → Nat} {z : Nat} {k : K4} (e : rw4 h ad z = k) : xA h (ad 7) z = k.1 ∧ xA h (ad 8) z = k.2.1 ∧ xA h (ad 9) z = k.2.2.1 ∧ xA h (ad 10) z = k.2.2.2 := by
  subst e
  exact ⟨rfl, rfl, rfl, rfl⟩
/-- a row of keys written -/
def cpK (h : Hp) (ad : Nat → Nat) (y : Nat) (k : K4) : Hp := yA (yA (yA (yA h (ad 7) y k.1) (ad 8) y k.2.1) (ad 9) y k.2.2.1) (ad 10) y k.2.2.2
/-- what changes nothing but rows of keys -/
def RF (ad : Nat → Nat) (h h' : Hp) : Prop := xS h' = xS h ∧ xP h' = xP h ∧ xF h' = xF h ∧ xB h' = xB h ∧ xL h' = xL h ∧ ∀ b, b ≠ ad 7 → b ≠ ad 8 → b ≠ ad 9 → b ≠ ad 10 → xA h' b = xA h b
section RFL
variable {m : Nat} {ad : Nat → Nat} {h h' h1 h2 h3 : Hp} {σ : ST}
theorem cpK_u (y : Nat) (k : K4) : cpK h ad y k = yA (yA (yA (yA h (ad 7) y k.1) (ad 8) y k.2.1) (ad 9) y k.2.2.1) (ad 10) y k.2.2.2 := rfl
theorem cpK_row (hM : MS h m ad) (y : Nat) (k : K4) (z : Nat) : rw4 (cpK h ad y k) ad z = if z = y then k else rw4 h ad z := by
  have n87 : ad 8 ≠ ad 7 := hM.ne (by decide : (8, 8, 96) ∈ mSl) (by decide : (7, 8, 96) ∈ mSl) (by decide)
  have n78 : ad 7 ≠ ad 8 := hM.ne (by decide : (7, 8, 96) ∈ mSl) (by decide : (8, 8, 96) ∈ mSl) (by decide)
  have n97 : ad 9 ≠ ad 7 := hM.ne (by decide : (9, 8, 96) ∈ mSl) (by decide : (7, 8, 96) ∈ mSl) (by decide)
  have n79 : ad 7 ≠ ad 9 := hM.ne (by decide : (7, 8, 96) ∈ mSl) (by decide : (9, 8, 96) ∈ mSl) (by decide)
  have n107 : ad 10 ≠ ad 7 := hM.ne (by decide : (10, 8, 96) ∈ mSl) (by decide : (7, 8, 96) ∈ mSl) (by decide)
  have n710 : ad 7 ≠ ad 10 := hM.ne (by decide : (7, 8, 96) ∈ mSl) (by decide : (10, 8, 96) ∈ mSl) (by decide)
  have n98 : ad 9 ≠ ad 8 := hM.ne (by decide : (9, 8, 96) ∈ mSl) (by decide : (8, 8, 96) ∈ mSl) (by decide)
  have n89 : ad 8 ≠ ad 9 := hM.ne (by decide : (8, 8, 96) ∈ mSl) (by decide : (9, 8, 96) ∈ mSl) (by decide)
  have n108 : ad 10 ≠ ad 8 := hM.ne (by decide : (10, 8, 96) ∈ mSl) (by decide : (8, 8, 96) ∈ mSl) (by decide)
  have n810 : ad 8 ≠ ad 10 := hM.ne (by decide : (8, 8, 96) ∈ mSl) (by decide : (10, 8, 96) ∈ mSl) (by decide)
  have n109 : ad 10 ≠ ad 9 := hM.ne (by decide : (10, 8, 96) ∈ mSl) (by decide : (9, 8, 96) ∈ mSl) (by decide)
  have n910 : ad 9 ≠ ad 10 := hM.ne (by decide : (9, 8, 96) ∈ mSl) (by decide : (10, 8, 96) ∈ mSl) (by decide)
  rw [rw4, cpK_u]
  by_cases e : z = y
  · rw [if_pos e, e, yA_o n710, yA_o n79, yA_o n78, yA_s, yA_o n810, yA_o n89, yA_s, yA_o n910, yA_s, yA_s]
  · rw [if_neg e, yA_o n710, yA_o n79, yA_o n78, yA_j e, yA_o n810, yA_o n89, yA_j e, yA_o n87, yA_o n910, yA_j e, yA_o n98, yA_o n97, yA_j e, yA_o n109, yA_o n108, yA_o n107, rw4]
theorem RF.rf : RF ad h h := ⟨rfl, rfl, rfl, rfl, rfl, fun _ _ _ _ _ => rfl⟩
theorem RF.tr (a : RF ad h1 h2) (b : RF ad h2 h3) : RF ad h1 h3 := by
  obtain ⟨a1, a2, a3, a4, a5, a6⟩ := a
  obtain ⟨b1, b2, b3, b4, b5, b6⟩ := b
  exact ⟨b1.trans a1, b2.trans a2, b3.trans a3, b4.trans a4, b5.trans a5, fun b n1 n2 n3 n4 => (b6 b n1 n2 n3 n4).trans (a6 b n1 n2 n3 n4)⟩
theorem RF.cp (y : Nat) (k : K4) : RF ad h (cpK h ad y k) := ⟨rfl, rfl, rfl, rfl, rfl, fun b n1 n2 n3 n4 => by rw [cpK_u, yA_o n4, yA_o n3, yA_o n2, yA_o n1]⟩
theorem RF.fr (a : RF ad h h') : Fr (MW m ad) h h' := fun b z hz => by
  obtain ⟨a1, a2, a3, a4, a5, a6⟩ := a
  refine ⟨by rw [a1]; exact hz, fun hb => ⟨fun i => by rw [a3], fun i => by rw [a2], ?_, by rw [a4], by rw [a5]⟩⟩
  exact a6 b (fun e => hb (e ▸ MW.at 7 8 96 (by decide))) (fun e => hb (e ▸ MW.at 8 8 96 (by decide))) (fun e => hb (e ▸ MW.at 9 8 96 (by decide))) (fun e => hb (e ▸ MW.at 10 8 96 (by decide)))
theorem RF.ms (a : RF ad h h') (hM : MS h m ad) : MS h' m ad := hM.eq a.1 a.2.1
/-- new keys of one puppet -/
theorem RM.keysIs {i : Nat} (hi : i < 8) (ks : List K4) (hlen : ∀ q, (qKeys (eP σ q)).length ≤ 12 ∧ (qMend (eP σ q)).length ≤ 10) (r : RM h m ad σ) (c1 : xS h' = xS h) (c2 : xP h' = xP h) (c3 : xF h' = xF h) (c4 : ∀ b, b ≠ ad 3 → b ≠ ad 7 → b ≠ ad 8 → b ≠ ad 9 → b ≠ ad 10 → xA h' b = xA h b) (c5 : xA h' (ad 3) i = nI ks.length) (c6 : ∀ q, q ≠ i → xA h' (ad 3) q = xA h (ad 3) q) (c7 : ∀ z, ¬ (12 * i ≤ z ∧ z < 12 * i + 12) → rw4 h' ad z = rw4 h ad z) (c8 : ∀ (k : Nat) (kk : K4), ks[k]? = some kk → rw4 h' ad (12 * i + k) = kk) : RM h' m ad (wP σ i ((eP σ i).1, (eP σ i).2.1, ks, (eP σ i).2.2.2)) := by
  obtain ⟨hM, ⟨g1, g2, g3⟩, rp, rs, rh, rt⟩ := r
  have A : ∀ s k n, (s, k, n) ∈ mSl → s ≠ 3 → s ≠ 7 → s ≠ 8 → s ≠ 9 → s ≠ 10 → ∀ j, xA h' (ad s) j = xA h (ad s) j := fun s k n hs n1 n2 n3 n4 n5 j => by rw [c4 _ (hM.ne hs (by decide : (3, 8, 8) ∈ mSl) n1) (hM.ne hs (by decide : (7, 8, 96) ∈ mSl) n2) (hM.ne hs (by decide : (8, 8, 96) ∈ mSl) n3) (hM.ne hs (by decide : (9, 8, 96) ∈ mSl) n4) (hM.ne hs (by decide : (10, 8, 96) ∈ mSl) n5)]
  refine ⟨hM.eq c1 c2, ⟨by rw [c3]; exact g1, by rw [c3]; exact g2, by rw [c3]; exact g3⟩, fun q hq => ?_, fun q hq => ?_, fun q hq => (A 14 8 10 (by decide) (by decide) (by decide) (by decide) (by decide) (by decide) q).trans (rh q hq), fun q hq => (A 23 8 32 (by decide) (by decide) (by decide) (by decide) (by decide) (by decide) q).trans (rt q hq)⟩
  · show MPup h' ad q (upt (eP σ) i ((eP σ i).1, (eP σ i).2.1, ks, (eP σ i).2.2.2) q)
    obtain ⟨p1, p2, p3, p4, p5, p6, p7, p8⟩ := rp q hq
    by_cases e : q = i
    · subst e
      rw [upt_s]
      exact ⟨(A 1 8 8 (by decide) (by decide) (by decide) (by decide) (by decide) (by decide) _).trans p1, (A 2 8 8 (by decide) (by decide) (by decide) (by decide) (by decide) (by decide) _).trans p2, c5, (A 4 8 8 (by decide) (by decide) (by decide) (by decide) (by decide) (by decide) _).trans p4, (A 5 8 8 (by decide) (by decide) (by decide) (by decide) (by decide) (by decide) _).trans p5, fun k kk hk => rw4_to (c8 k kk hk), (A 13 8 8 (by decide) (by decide) (by decide) (by decide) (by decide) (by decide) _).trans p7, fun k w hk => ⟨(A 11 8 80 (by decide) (by decide) (by decide) (by decide) (by decide) (by decide) _).trans (p8 k w hk).1, (A 12 8 80 (by decide) (by decide) (by decide) (by decide) (by decide) (by decide) _).trans (p8 k w hk).2⟩⟩
    · rw [upt_n _ _ e]
      refine ⟨(A 1 8 8 (by decide) (by decide) (by decide) (by decide) (by decide) (by decide) _).trans p1, (A 2 8 8 (by decide) (by decide) (by decide) (by decide) (by decide) (by decide) _).trans p2, (c6 q e).trans p3, (A 4 8 8 (by decide) (by decide) (by decide) (by decide) (by decide) (by decide) _).trans p4, (A 5 8 8 (by decide) (by decide) (by decide) (by decide) (by decide) (by decide) _).trans p5, fun k kk hk => ?_, (A 13 8 8 (by decide) (by decide) (by decide) (by decide) (by decide) (by decide) _).trans p7, fun k w hk => ⟨(A 11 8 80 (by decide) (by decide) (by decide) (by decide) (by decide) (by decide) _).trans (p8 k w hk).1, (A 12 8 80 (by decide) (by decide) (by decide) (by decide) (by decide) (by decide) _).trans (p8 k w hk).2⟩⟩
      have hk1 := (List.getElem?_eq_some_iff.mp hk).1
      have hk2 := (hlen q).1
      exact rw4_to ((c7 (12 * q + k) (by omega)).trans (rw4_of (p6 k kk hk)))
  · obtain ⟨s1, s2, s3, s4, s5, s6⟩ := rs q hq
    exact ⟨(A 15 8 6 (by decide) (by decide) (by decide) (by decide) (by decide) (by decide) _).trans s1, (A 16 8 6 (by decide) (by decide) (by decide) (by decide) (by decide) (by decide) _).trans s2, (A 17 9 6 (by decide) (by decide) (by decide) (by decide) (by decide) (by decide) _).trans s3, (A 18 8 6 (by decide) (by decide) (by decide) (by decide) (by decide) (by decide) _).trans s4, (A 19 8 6 (by decide) (by decide) (by decide) (by decide) (by decide) (by decide) _).trans s5, fun y hy => (A 20 9 48 (by decide) (by decide) (by decide) (by decide) (by decide) (by decide) _).trans (s6 y hy)⟩
/-- rows pushed up, rows drawn down: what the loops of copies do -/
def pushR (h h1 : Hp) (ad : Nat → Nat) (z L : Nat) : Prop := ∀ w, rw4 h1 ad w = if z < w ∧ w ≤ L then rw4 h ad (w - 1) else rw4 h ad w
def drawR (h h1 : Hp) (ad : Nat → Nat) (A z : Nat) : Prop := ∀ w, rw4 h1 ad w = if A ≤ w ∧ w < z then rw4 h ad (w + 1) else rw4 h ad w
theorem pushR.rf {L : Nat} : pushR h h ad L L := fun w => by rw [if_neg (by omega)]
theorem pushR.step {z L : Nat} (hM : MS h1 m ad) (hz : 0 < z) (hL : z ≤ L) (u : pushR h h1 ad z L) : pushR h (cpK h1 ad z (rw4 h1 ad (z - 1))) ad (z - 1) L := fun w => by
  rw [cpK_row hM]
  by_cases e : w = z
  · rw [if_pos e, u (z - 1), if_neg (by omega), if_pos (by omega), e]
  · rw [if_neg e, u w]
    by_cases c : z < w ∧ w ≤ L
    · rw [if_pos c, if_pos (by omega)]
    · rw [if_neg c, if_neg (by omega)]
theorem drawR.rf {A : Nat} : drawR h h ad A A := fun w => by rw [if_neg (by omega)]
theorem drawR.step {A z : Nat} (hM : MS h1 m ad) (hA : A ≤ z) (u : drawR h h1 ad A z) : drawR h (cpK h1 ad z (rw4 h1 ad (z + 1))) ad A (z + 1) := fun w => by
  rw [cpK_row hM]
  by_cases e : w = z
  · rw [if_pos e, u (z + 1), if_neg (by omega), if_pos (by omega), e]
  · rw [if_neg e, u w]
    by_cases c : A ≤ w ∧ w < z
    · rw [if_pos c, if_pos (by omega)]
    · rw [if_neg c, if_neg (by omega)]
end RFL
set_option maxRecDepth 100000 in
set_option maxHeartbeats 4000000 in
theorem cm_copies {g : Gl} {l : Launch} (hfl : l.stackTraces = false) (h : Hp) (m : Nat) (ad : Nat → Nat) (hMz : MS h m ad) (x y : Nat) (hx : x < 96) (hy : y < 96) : CT g l iX6_copies 1 [.ref m, .int (nI x), .int (nI y)] h 0 0 (pRet none (cpK h ad y (rw4 h ad x))) := by
  refine ct_mk hfl (by decide) (Nat.le_of_ble_eq_true rfl) (by intro v hv; simp only [List.mem_cons, List.not_mem_nil, or_false] at hv; rcases hv with rfl | rfl | rfl <;> rfl) (fun V X M => ?_)
  have Mm := M.m
  show V 0 [some (.ref m), some (.int (nI x)), some (.int (nI y))] [] _ 0 0
  refine r_aload_n Mm dX6_copies_0 rfl ?_
  refine r_getR Mm dX6_copies_1 fi_X6_25 (hMz.1) rfl (i := 607) rfl ((hMz.2.1 7 8 96 (by decide)).1) ?_
  refine r_iload_n Mm dX6_copies_4 rfl ?_
  refine r_aload_n Mm dX6_copies_5 rfl ?_
  refine r_getR Mm dX6_copies_6 fi_X6_25 (hMz.1) rfl (i := 607) rfl ((hMz.2.1 7 8 96 (by decide)).1) ?_
  refine r_iload_n Mm dX6_copies_9 rfl ?_
  refine r_ialdN Mm dX6_copies_10 ((hMz.2.1 7 8 96 (by decide)).2) (by omega) (by omega) ?_
  refine r_top _ ((rw4 h ad x).1) (rfl) ?_
  refine r_iastN Mm dX6_copies_11 ((hMz.2.1 7 8 96 (by decide)).2) (by omega) (by omega) ?_
  refine r_aload_n Mm dX6_copies_12 rfl ?_
  refine r_getR Mm dX6_copies_13 fi_X6_28 (hMz.1) rfl (i := 608) rfl ((hMz.2.1 8 8 96 (by decide)).1) ?_
  refine r_iload_n Mm dX6_copies_16 rfl ?_
  refine r_aload_n Mm dX6_copies_17 rfl ?_
  refine r_getR Mm dX6_copies_18 fi_X6_28 (hMz.1) rfl (i := 608) rfl ((hMz.2.1 8 8 96 (by decide)).1) ?_
  refine r_iload_n Mm dX6_copies_21 rfl ?_
  refine r_ialdN Mm dX6_copies_22 ((hMz.2.1 8 8 96 (by decide)).2) (by omega) (by omega) ?_
  refine r_top _ ((rw4 h ad x).2.1) (by rw [yA_o (hMz.ne (by decide : (8, 8, 96) ∈ mSl) (by decide : (7, 8, 96) ∈ mSl) (by decide))]; exact rfl) ?_
  refine r_iastN Mm dX6_copies_23 ((hMz.2.1 8 8 96 (by decide)).2) (by omega) (by omega) ?_
  refine r_aload_n Mm dX6_copies_24 rfl ?_
  refine r_getR Mm dX6_copies_25 fi_X6_31 (hMz.1) rfl (i := 609) rfl ((hMz.2.1 9 8 96 (by decide)).1) ?_
  refine r_iload_n Mm dX6_copies_28 rfl ?_
  refine r_aload_n Mm dX6_copies_29 rfl ?_
  refine r_getR Mm dX6_copies_30 fi_X6_31 (hMz.1) rfl (i := 609) rfl ((hMz.2.1 9 8 96 (by decide)).1) ?_
  refine r_iload_n Mm dX6_copies_33 rfl ?_
  refine r_ialdN Mm dX6_copies_34 ((hMz.2.1 9 8 96 (by decide)).2) (by omega) (by omega) ?_
  refine r_top _ ((rw4 h ad x).2.2.1) (by rw [yA_o (hMz.ne (by decide : (9, 8, 96) ∈ mSl) (by decide : (8, 8, 96) ∈ mSl) (by decide)), yA_o (hMz.ne (by decide : (9, 8, 96) ∈ mSl) (by decide : (7, 8, 96) ∈ mSl) (by decide))]; exact rfl) ?_
  refine r_iastN Mm dX6_copies_35 ((hMz.2.1 9 8 96 (by decide)).2) (by omega) (by omega) ?_
  refine r_aload_n Mm dX6_copies_36 rfl ?_
  refine r_getR Mm dX6_copies_37 fi_X6_34 (hMz.1) rfl (i := 610) rfl ((hMz.2.1 10 8 96 (by decide)).1) ?_
  refine r_iload_n Mm dX6_copies_40 rfl ?_
  refine r_aload_n Mm dX6_copies_41 rfl ?_
  refine r_getR Mm dX6_copies_42 fi_X6_34 (hMz.1) rfl (i := 610) rfl ((hMz.2.1 10 8 96 (by decide)).1) ?_
  refine r_iload_n Mm dX6_copies_45 rfl ?_
  refine r_ialdN Mm dX6_copies_46 ((hMz.2.1 10 8 96 (by decide)).2) (by omega) (by omega) ?_
  refine r_top _ ((rw4 h ad x).2.2.2) (by rw [yA_o (hMz.ne (by decide : (10, 8, 96) ∈ mSl) (by decide : (9, 8, 96) ∈ mSl) (by decide)), yA_o (hMz.ne (by decide : (10, 8, 96) ∈ mSl) (by decide : (8, 8, 96) ∈ mSl) (by decide)), yA_o (hMz.ne (by decide : (10, 8, 96) ∈ mSl) (by decide : (7, 8, 96) ∈ mSl) (by decide))]; exact rfl) ?_
  refine r_iastN Mm dX6_copies_47 ((hMz.2.1 10 8 96 (by decide)).2) (by omega) (by omega) ?_
  refine r_vret M dX6_copies_48 ?_
  exact ⟨rfl, rfl⟩
set_option maxRecDepth 100000 in
set_option maxHeartbeats 4000000 in
theorem cm_key {g : Gl} {l : Launch} (hfl : l.stackTraces = false) (h : Hp) (m : Nat) (ad : Nat → Nat) (σ : ST) (rm : RM h m ad σ) (hx : WX σ) (p f u v e : Int32) : CT g l iX6_key 3 [.ref m, .int p, .int f, .int u, .int v, .int e] h 0 0 (pMd m ad h σ ["java/lang/IndexOutOfBoundsException", "java/lang/IllegalArgumentException", "java/lang/IllegalStateException"] (o_key σ p f u v e)) := by
  have hx0 := hx
  obtain ⟨hw, hx1, hx2⟩ := hx
  have hw0 := hw
  obtain ⟨w1, w2, w3, w4, w5⟩ := hw
  have rm0 := rm
  obtain ⟨hM, ⟨g1, g2, g3⟩, rp, rs, rh, rt⟩ := rm
  refine ct_mk hfl (by decide) (Nat.le_of_ble_eq_true rfl) (by intro v hv; simp only [List.mem_cons, List.not_mem_nil, or_false] at hv; rcases hv with rfl | rfl | rfl | rfl | rfl | rfl <;> rfl) (fun V X M => ?_)
  have Mm := M.m
  show V 0 [some (.ref m), some (.int p), some (.int f), some (.int u), some (.int v), some (.int e), none, none, none, none, none] [] _ 0 0
  refine r_aload_n Mm dX6_key_0 rfl ?_
  refine r_iload_n Mm dX6_key_1 rfl ?_
  by_cases k1 : 0 ≤ p ∧ p < nI (eN σ)
  · refine r_callV (As := [(.int p)]) Mm dX6_key_2 rfl (cm_isPuppet hfl h m (eN σ) p hM.1 (by omega) g1) (hM.1) rfl cw_X6_98 ⟨Nat.le_of_ble_eq_true rfl, Nat.le_of_ble_eq_true rfl, Nat.le_of_ble_eq_true rfl⟩ (Nat.le_of_ble_eq_true rfl) ⟨Nat.le_of_ble_eq_true rfl, Nat.le_of_ble_eq_true rfl⟩ (fun r2 h3 p4 => ?_) (fun Er2 h3 p4 => False.elim p4)
    obtain ⟨rfl, rfl⟩ := p4
    rw [decide_eq_true k1]
    obtain ⟨i, hi, rfl⟩ := in_ex k1 (by omega)
    have eci : (nI i).toNatClampNeg = i := nI_clamp (by omega)
    show V 5 _ [(.int (nI 1))] _ _ _
    refine r_istore Mm dX6_key_5 (by decide) ?_
    show V 7 [some (.ref m), some (.int (nI i)), some (.int f), some (.int u), some (.int v), some (.int e), some (.int (nI 1)), none, none, none, none] _ _ _ _
    refine r_iload_n Mm dX6_key_7 rfl ?_
    refine r_iconst (v := nI 0) Mm dX6_key_8 (by decide) ?_
    refine r_sipush (v := nI 999) Mm dX6_key_9 (by decide) ?_
    by_cases k5 : (nI 0) ≤ f ∧ f ≤ (nI 999)
    · refine r_callS (As := [(.int f), (.int (nI 0)), (.int (nI 999))]) Mm dX6_key_12 rfl (cm_isIn hfl h f (nI 0) (nI 999)) cw_X6_87 ⟨Nat.le_of_ble_eq_true rfl, Nat.le_of_ble_eq_true rfl, Nat.le_of_ble_eq_true rfl⟩ (Nat.le_of_ble_eq_true rfl) ⟨Nat.le_of_ble_eq_true rfl, Nat.le_of_ble_eq_true rfl⟩ (fun r6 h7 p8 => ?_) (fun Er6 h7 p8 => False.elim p8)
      obtain ⟨rfl, rfl⟩ := p8
      rw [decide_eq_true k5]
      show V 15 _ [(.int (nI 1))] _ _ _
      refine r_if_eq (tgt := 55) Mm dX6_key_15 (by decide) (fun c9 => absurd c9 (by decide)) (fun _ => ?_)
      refine r_iload_n Mm dX6_key_18 rfl ?_
      refine r_iconst (v := nI 0) Mm dX6_key_19 (by decide) ?_
      refine r_sipush (v := nI 999) Mm dX6_key_20 (by decide) ?_
      by_cases k10 : (nI 0) ≤ u ∧ u ≤ (nI 999)
      · refine r_callS (As := [(.int u), (.int (nI 0)), (.int (nI 999))]) Mm dX6_key_23 rfl (cm_isIn hfl h u (nI 0) (nI 999)) cw_X6_87 ⟨Nat.le_of_ble_eq_true rfl, Nat.le_of_ble_eq_true rfl, Nat.le_of_ble_eq_true rfl⟩ (Nat.le_of_ble_eq_true rfl) ⟨Nat.le_of_ble_eq_true rfl, Nat.le_of_ble_eq_true rfl⟩ (fun r11 h12 p13 => ?_) (fun Er11 h12 p13 => False.elim p13)
        obtain ⟨rfl, rfl⟩ := p13
        rw [decide_eq_true k10]
        show V 26 _ [(.int (nI 1))] _ _ _
        refine r_if_eq (tgt := 55) Mm dX6_key_26 (by decide) (fun c14 => absurd c14 (by decide)) (fun _ => ?_)
        refine r_iload Mm dX6_key_29 rfl ?_
        refine r_iconst (v := nI 0) Mm dX6_key_31 (by decide) ?_
        refine r_sipush (v := nI 999) Mm dX6_key_32 (by decide) ?_
        by_cases k15 : (nI 0) ≤ v ∧ v ≤ (nI 999)
        · refine r_callS (As := [(.int v), (.int (nI 0)), (.int (nI 999))]) Mm dX6_key_35 rfl (cm_isIn hfl h v (nI 0) (nI 999)) cw_X6_87 ⟨Nat.le_of_ble_eq_true rfl, Nat.le_of_ble_eq_true rfl, Nat.le_of_ble_eq_true rfl⟩ (Nat.le_of_ble_eq_true rfl) ⟨Nat.le_of_ble_eq_true rfl, Nat.le_of_ble_eq_true rfl⟩ (fun r16 h17 p18 => ?_) (fun Er16 h17 p18 => False.elim p18)
          obtain ⟨rfl, rfl⟩ := p18
          rw [decide_eq_true k15]
          show V 38 _ [(.int (nI 1))] _ _ _
          refine r_if_eq (tgt := 55) Mm dX6_key_38 (by decide) (fun c19 => absurd c19 (by decide)) (fun _ => ?_)
          refine r_iload Mm dX6_key_41 rfl ?_
          refine r_iconst (v := nI 0) Mm dX6_key_43 (by decide) ?_
          refine r_iconst (v := nI 3) Mm dX6_key_44 (by decide) ?_
          by_cases k20 : (nI 0) ≤ e ∧ e ≤ (nI 3)
          · refine r_callS (As := [(.int e), (.int (nI 0)), (.int (nI 3))]) Mm dX6_key_45 rfl (cm_isIn hfl h e (nI 0) (nI 3)) cw_X6_87 ⟨Nat.le_of_ble_eq_true rfl, Nat.le_of_ble_eq_true rfl, Nat.le_of_ble_eq_true rfl⟩ (Nat.le_of_ble_eq_true rfl) ⟨Nat.le_of_ble_eq_true rfl, Nat.le_of_ble_eq_true rfl⟩ (fun r21 h22 p23 => ?_) (fun Er21 h22 p23 => False.elim p23)
            obtain ⟨rfl, rfl⟩ := p23
            rw [decide_eq_true k20]
            show V 48 _ [(.int (nI 1))] _ _ _
            refine r_if_eq (tgt := 55) Mm dX6_key_48 (by decide) (fun c24 => absurd c24 (by decide)) (fun _ => ?_)
            refine r_iconst (v := nI 1) Mm dX6_key_51 (by decide) ?_
            refine r_goto (tgt := 56) Mm dX6_key_52 (by decide) ?_
            refine r_istore Mm dX6_key_56 (by decide) ?_
            show V 58 [some (.ref m), some (.int (nI i)), some (.int f), some (.int u), some (.int v), some (.int e), some (.int (nI 1)), some (.int (nI 1)), none, none, none] _ _ _ _
            refine r_iload Mm dX6_key_58 rfl ?_
            refine r_if_eq (tgt := 81) Mm dX6_key_60 (by decide) (fun c25 => absurd c25 (by decide)) (fun _ => ?_)
            refine r_iload Mm dX6_key_63 rfl ?_
            refine r_if_eq (tgt := 81) Mm dX6_key_65 (by decide) (fun c26 => absurd c26 (by decide)) (fun _ => ?_)
            refine r_aload_n Mm dX6_key_68 rfl ?_
            refine r_iload_n Mm dX6_key_69 rfl ?_
            refine r_iload_n Mm dX6_key_70 rfl ?_
            have hk12 := (w3 i hi).2.2.2.1
            by_cases k27 : hasK (qKeys (eP σ i)) f = true
            · refine r_callV (As := [(.int (nI i)), (.int f)]) Mm dX6_key_71 rfl (cm_hasKey hfl h m ad hM i (eP σ i) (by omega) (rp i (by omega)) (w3 i hi).2.2.2.1 f) (hM.1) rfl cw_X6_105 ⟨Nat.le_of_ble_eq_true rfl, Nat.le_of_ble_eq_true rfl, Nat.le_of_ble_eq_true rfl⟩ (Nat.le_of_ble_eq_true rfl) ⟨Nat.le_of_ble_eq_true rfl, Nat.le_of_ble_eq_true rfl⟩ (fun r28 h29 p30 => ?_) (fun Er28 h29 p30 => False.elim p30)
              obtain ⟨rfl, rfl⟩ := p30
              rw [k27]
              show V 74 _ [(.int (nI 1))] _ _ _
              refine r_if_ne (tgt := 81) Mm dX6_key_74 (by decide) (fun _ => ?_) (fun c31 => absurd c31 (by decide))
              refine r_iconst (v := nI 0) Mm dX6_key_81 (by decide) ?_
              refine r_istore Mm dX6_key_82 (by decide) ?_
              show V 84 [some (.ref m), some (.int (nI i)), some (.int f), some (.int u), some (.int v), some (.int e), some (.int (nI 1)), some (.int (nI 1)), some (.int (nI 0)), none, none] _ _ _ _
              refine r_aload_n Mm dX6_key_84 rfl ?_
              refine r_iload Mm dX6_key_85 rfl ?_
              refine r_if_ne (tgt := 94) Mm dX6_key_87 (by decide) (fun _ => ?_) (fun c32 => absurd c32 (by decide))
              refine r_iload Mm dX6_key_94 rfl ?_
              refine r_if_ne (tgt := 103) Mm dX6_key_96 (by decide) (fun _ => ?_) (fun c33 => absurd c33 (by decide))
              refine r_iload Mm dX6_key_103 rfl ?_
              refine r_if_eq (tgt := 123) Mm dX6_key_105 (by decide) (fun _ => ?_) (fun c34 => absurd (by decide) c34)
              refine r_iconst (v := nI 0) Mm dX6_key_123 (by decide) ?_
              refine r_callV (As := [(.int (nI 0))]) Mm dX6_key_124 rfl (cm_isFine hfl h m ad hM (nI 0)) (hM.1) rfl cw_X6_94 ⟨Nat.le_of_ble_eq_true rfl, Nat.le_of_ble_eq_true rfl, Nat.le_of_ble_eq_true rfl⟩ (Nat.le_of_ble_eq_true rfl) ⟨Nat.le_of_ble_eq_true rfl, Nat.le_of_ble_eq_true rfl⟩ (fun r35 h36 p37 => ?_) (fun Er35 h36 p37 => False.elim p37)
              obtain ⟨rfl, rfl⟩ := p37
              rw [show bI (decide (nI 0 = 0)) = nI 1 from by decide]
              obtain ⟨hz, fz, z0, rz, ez⟩ : ∃ z, Fr (MW m ad) h z ∧ xF z 600 m = nI 0 ∧ RM z m ad σ ∧ z = yF h 600 m (nI 0) := ⟨_, Fr.yF (Or.inl rfl), u2_s _ _ _ _, rm0.f0 _, rfl⟩
              rw [← ez]
              clear ez
              have rz0 := rz
              obtain ⟨hMz, ⟨gz1, gz2, gz3⟩, rpz, rsz, rhz, rtz⟩ := rz
              show V 127 _ [(.int (nI 1))] _ _ _
              refine r_if_ne (tgt := 132) Mm dX6_key_127 (by decide) (fun _ => ?_) (fun c38 => absurd c38 (by decide))
              refine r_bipush (v := nI 12) Mm dX6_key_132 (by decide) ?_
              refine r_iload_n Mm dX6_key_134 rfl ?_
              refine r_imulN Mm dX6_key_135 ?_
              refine r_aload_n Mm dX6_key_136 rfl ?_
              refine r_iload_n Mm dX6_key_137 rfl ?_
              refine r_iload_n Mm dX6_key_138 rfl ?_
              have hal := ahead_le (qKeys (eP σ i)) f
              refine r_callV (As := [(.int (nI i)), (.int f)]) Mm dX6_key_139 rfl (cm_placeOf hfl hz m ad hMz i (eP σ i) (by omega) (rpz i (by omega)) hk12 f) (hMz.1) rfl cw_X6_101 ⟨Nat.le_of_ble_eq_true rfl, Nat.le_of_ble_eq_true rfl, Nat.le_of_ble_eq_true rfl⟩ (Nat.le_of_ble_eq_true rfl) ⟨Nat.le_of_ble_eq_true rfl, Nat.le_of_ble_eq_true rfl⟩ (fun r39 h40 p41 => ?_) (fun Er39 h40 p41 => False.elim p41)
              obtain ⟨rfl, rfl⟩ := p41
              obtain ⟨a, ha⟩ : ∃ a, ahead (qKeys (eP σ i)) f = a := ⟨_, rfl⟩
              rw [ha]
              rw [ha] at hal
              show V 142 _ [(.int (nI a)), (.int (nI (12 * i)))] _ _ _
              refine r_iaddN Mm dX6_key_142 ?_
              refine r_istore Mm dX6_key_143 (by decide) ?_
              show V 145 [some (.ref m), some (.int (nI i)), some (.int f), some (.int u), some (.int v), some (.int e), some (.int (nI 1)), some (.int (nI 1)), some (.int (nI 0)), some (.int (nI ((12 * i) + a))), none] _ _ _ _
              have hl3 := (rpz i (by omega)).2.2.1
              have ha12 : a < 12 := by
                rcases Nat.lt_or_ge a (qKeys (eP σ i)).length with q | q
                · omega
                · have q2 := k27; rw [hasK, ha, List.getElem?_eq_none q] at q2; cases q2
              refine r_iload Mm dX6_key_145 rfl ?_
              refine r_if_eq (tgt := 196) Mm dX6_key_147 (by decide) (fun _ => ?_) (fun c42 => absurd (by decide) c42)
              refine r_aload_n Mm dX6_key_196 rfl ?_
              refine r_getR Mm dX6_key_197 fi_X6_25 (hMz.1) rfl (i := 607) rfl ((hMz.2.1 7 8 96 (by decide)).1) ?_
              refine r_iload Mm dX6_key_200 rfl ?_
              refine r_iload_n Mm dX6_key_202 rfl ?_
              refine r_iastN Mm dX6_key_203 ((hMz.2.1 7 8 96 (by decide)).2) (by omega) (by omega) ?_
              refine r_aload_n Mm dX6_key_204 rfl ?_
              refine r_getR Mm dX6_key_205 fi_X6_28 (hMz.1) rfl (i := 608) rfl ((hMz.2.1 8 8 96 (by decide)).1) ?_
              refine r_iload Mm dX6_key_208 rfl ?_
              refine r_iload_n Mm dX6_key_210 rfl ?_
              refine r_iastN Mm dX6_key_211 ((hMz.2.1 8 8 96 (by decide)).2) (by omega) (by omega) ?_
              refine r_aload_n Mm dX6_key_212 rfl ?_
              refine r_getR Mm dX6_key_213 fi_X6_31 (hMz.1) rfl (i := 609) rfl ((hMz.2.1 9 8 96 (by decide)).1) ?_
              refine r_iload Mm dX6_key_216 rfl ?_
              refine r_iload Mm dX6_key_218 rfl ?_
              refine r_iastN Mm dX6_key_220 ((hMz.2.1 9 8 96 (by decide)).2) (by omega) (by omega) ?_
              refine r_aload_n Mm dX6_key_221 rfl ?_
              refine r_getR Mm dX6_key_222 fi_X6_34 (hMz.1) rfl (i := 610) rfl ((hMz.2.1 10 8 96 (by decide)).1) ?_
              refine r_iload Mm dX6_key_225 rfl ?_
              refine r_iload Mm dX6_key_227 rfl ?_
              refine r_iastN Mm dX6_key_229 ((hMz.2.1 10 8 96 (by decide)).2) (by omega) (by omega) ?_
              refine r_aload_n Mm dX6_key_230 rfl ?_
              refine r_getR Mm dX6_key_231 fi_X6_16 (hMz.1) rfl (i := 603) rfl ((hMz.2.1 3 8 8 (by decide)).1) ?_
              refine r_iload_n Mm dX6_key_234 rfl ?_
              refine r_ialdN Mm dX6_key_235 ((hMz.2.1 3 8 8 (by decide)).2) (by omega) (by omega) ?_
              refine r_top _ (nI ((qKeys (eP σ i)).length)) (by rw [yA_o (hMz.ne (by decide : (3, 8, 8) ∈ mSl) (by decide : (10, 8, 96) ∈ mSl) (by decide)), yA_o (hMz.ne (by decide : (3, 8, 8) ∈ mSl) (by decide : (9, 8, 96) ∈ mSl) (by decide)), yA_o (hMz.ne (by decide : (3, 8, 8) ∈ mSl) (by decide : (8, 8, 96) ∈ mSl) (by decide)), yA_o (hMz.ne (by decide : (3, 8, 8) ∈ mSl) (by decide : (7, 8, 96) ∈ mSl) (by decide))]; exact hl3) ?_
              refine r_iret M dX6_key_236 ?_
              have eput : putK (qKeys (eP σ i)) (f, u, v, e) = ((qKeys (eP σ i)).set a (f, u, v, e)) := by
                have q : putK (qKeys (eP σ i)) (f, u, v, e) = (qKeys (eP σ i)).set (ahead (qKeys (eP σ i)) f) (f, u, v, e) := if_pos k27
                rw [ha] at q; exact q
              have hlt : a < (qKeys (eP σ i)).length := by
                rcases Nat.lt_or_ge a (qKeys (eP σ i)).length with q | q
                · exact q
                · have q2 := k27; rw [hasK, ha, List.getElem?_eq_none q] at q2; cases q2
              have elen : ((qKeys (eP σ i)).set a (f, u, v, e)).length = (qKeys (eP σ i)).length := List.length_set
              have hrow : ∀ w, rw4 (cpK hz ad (12 * i + a) (f, u, v, e)) ad w = if w = 12 * i + a then (f, u, v, e) else rw4 hz ad w := fun w => cpK_row hMz _ _ w
              have r9 : RM (cpK hz ad (12 * i + a) (f, u, v, e)) m ad (wP σ i ((eP σ i).1, (eP σ i).2.1, ((qKeys (eP σ i)).set a (f, u, v, e)), (eP σ i).2.2.2)) := by
                refine RM.keysIs (by omega) ((qKeys (eP σ i)).set a (f, u, v, e)) hx0.len rz0 rfl rfl rfl (fun b n3 n7 n8 n9 n10 => ?_) ?_ (fun q hq => ?_) (fun w hw => ?_) (fun k kk hk => ?_)
                · rw [cpK_u, yA_o n10, yA_o n9, yA_o n8, yA_o n7]
                · rw [cpK_u, yA_o (hMz.ne (by decide : (3, 8, 8) ∈ mSl) (by decide : (10, 8, 96) ∈ mSl) (by decide)), yA_o (hMz.ne (by decide : (3, 8, 8) ∈ mSl) (by decide : (9, 8, 96) ∈ mSl) (by decide)), yA_o (hMz.ne (by decide : (3, 8, 8) ∈ mSl) (by decide : (8, 8, 96) ∈ mSl) (by decide)), yA_o (hMz.ne (by decide : (3, 8, 8) ∈ mSl) (by decide : (7, 8, 96) ∈ mSl) (by decide)), elen]; exact (rpz i (by omega)).2.2.1
                · rw [cpK_u, yA_o (hMz.ne (by decide : (3, 8, 8) ∈ mSl) (by decide : (10, 8, 96) ∈ mSl) (by decide)), yA_o (hMz.ne (by decide : (3, 8, 8) ∈ mSl) (by decide : (9, 8, 96) ∈ mSl) (by decide)), yA_o (hMz.ne (by decide : (3, 8, 8) ∈ mSl) (by decide : (8, 8, 96) ∈ mSl) (by decide)), yA_o (hMz.ne (by decide : (3, 8, 8) ∈ mSl) (by decide : (7, 8, 96) ∈ mSl) (by decide))]
                · rw [hrow, if_neg (by omega)]
                · rw [hrow]
                  by_cases q2 : k = a
                  · rw [q2, List.getElem?_set_self hlt] at hk; cases hk; rw [q2, if_pos rfl]
                  · rw [List.getElem?_set_ne (fun z => q2 z.symm)] at hk
                    rw [if_neg (by omega)]
                    exact rw4_of ((rpz i (by omega)).2.2.2.2.2.1 k kk hk)
              rw [← eput] at r9 elen
              exact pMd.ret fz z0 (by simp only [o_key, oPu_ok k1 eci, oIn_ok k5, oIn_ok k10, oIn_ok k15, oIn_ok k20, if_neg (fun z => by rw [k27] at z; cases z.1 : ¬ (hasK (qKeys (eP σ i)) f = false ∧ 12 ≤ (qKeys (eP σ i)).length)), elen]) (RF.cp (12 * i + a) (f, u, v, e)).fr (by rw [zxF_yA, zxF_yA, zxF_yA, zxF_yA]) r9
            · refine r_callV (As := [(.int (nI i)), (.int f)]) Mm dX6_key_71 rfl (cm_hasKey hfl h m ad hM i (eP σ i) (by omega) (rp i (by omega)) (w3 i hi).2.2.2.1 f) (hM.1) rfl cw_X6_105 ⟨Nat.le_of_ble_eq_true rfl, Nat.le_of_ble_eq_true rfl, Nat.le_of_ble_eq_true rfl⟩ (Nat.le_of_ble_eq_true rfl) ⟨Nat.le_of_ble_eq_true rfl, Nat.le_of_ble_eq_true rfl⟩ (fun r43 h44 p45 => ?_) (fun Er43 h44 p45 => False.elim p45)
              obtain ⟨rfl, rfl⟩ := p45
              rw [Bool.eq_false_iff.mpr k27]
              show V 74 _ [(.int (nI 0))] _ _ _
              refine r_if_ne (tgt := 81) Mm dX6_key_74 (by decide) (fun c46 => absurd c46 (by decide)) (fun _ => ?_)
              refine r_iconst (v := nI 1) Mm dX6_key_77 (by decide) ?_
              refine r_goto (tgt := 82) Mm dX6_key_78 (by decide) ?_
              refine r_istore Mm dX6_key_82 (by decide) ?_
              show V 84 [some (.ref m), some (.int (nI i)), some (.int f), some (.int u), some (.int v), some (.int e), some (.int (nI 1)), some (.int (nI 1)), some (.int (nI 1)), none, none] _ _ _ _
              refine r_aload_n Mm dX6_key_84 rfl ?_
              refine r_iload Mm dX6_key_85 rfl ?_
              refine r_if_ne (tgt := 94) Mm dX6_key_87 (by decide) (fun _ => ?_) (fun c47 => absurd c47 (by decide))
              refine r_iload Mm dX6_key_94 rfl ?_
              refine r_if_ne (tgt := 103) Mm dX6_key_96 (by decide) (fun _ => ?_) (fun c48 => absurd c48 (by decide))
              refine r_iload Mm dX6_key_103 rfl ?_
              refine r_if_eq (tgt := 123) Mm dX6_key_105 (by decide) (fun c49 => absurd c49 (by decide)) (fun _ => ?_)
              refine r_aload_n Mm dX6_key_108 rfl ?_
              refine r_getR Mm dX6_key_109 fi_X6_16 (hM.1) rfl (i := 603) rfl ((hM.2.1 3 8 8 (by decide)).1) ?_
              refine r_iload_n Mm dX6_key_112 rfl ?_
              refine r_ialdN Mm dX6_key_113 ((hM.2.1 3 8 8 (by decide)).2) (by omega) (by omega) ?_
              refine r_top _ (nI ((qKeys (eP σ i)).length)) ((rp i (by omega)).2.2.1) ?_
              refine r_bipush (v := nI 12) Mm dX6_key_114 (by decide) ?_
              refine r_icmp_neN (tgt := 123) Mm dX6_key_116 (by decide) (by omega) (by omega) (fun c50 => ?_) (fun c50 => ?_)
              · refine r_iconst (v := nI 0) Mm dX6_key_123 (by decide) ?_
                refine r_callV (As := [(.int (nI 0))]) Mm dX6_key_124 rfl (cm_isFine hfl h m ad hM (nI 0)) (hM.1) rfl cw_X6_94 ⟨Nat.le_of_ble_eq_true rfl, Nat.le_of_ble_eq_true rfl, Nat.le_of_ble_eq_true rfl⟩ (Nat.le_of_ble_eq_true rfl) ⟨Nat.le_of_ble_eq_true rfl, Nat.le_of_ble_eq_true rfl⟩ (fun r51 h52 p53 => ?_) (fun Er51 h52 p53 => False.elim p53)
                obtain ⟨rfl, rfl⟩ := p53
                rw [show bI (decide (nI 0 = 0)) = nI 1 from by decide]
                obtain ⟨hz, fz, z0, rz, ez⟩ : ∃ z, Fr (MW m ad) h z ∧ xF z 600 m = nI 0 ∧ RM z m ad σ ∧ z = yF h 600 m (nI 0) := ⟨_, Fr.yF (Or.inl rfl), u2_s _ _ _ _, rm0.f0 _, rfl⟩
                rw [← ez]
                clear ez
                have rz0 := rz
                obtain ⟨hMz, ⟨gz1, gz2, gz3⟩, rpz, rsz, rhz, rtz⟩ := rz
                show V 127 _ [(.int (nI 1))] _ _ _
                refine r_if_ne (tgt := 132) Mm dX6_key_127 (by decide) (fun _ => ?_) (fun c54 => absurd c54 (by decide))
                refine r_bipush (v := nI 12) Mm dX6_key_132 (by decide) ?_
                refine r_iload_n Mm dX6_key_134 rfl ?_
                refine r_imulN Mm dX6_key_135 ?_
                refine r_aload_n Mm dX6_key_136 rfl ?_
                refine r_iload_n Mm dX6_key_137 rfl ?_
                refine r_iload_n Mm dX6_key_138 rfl ?_
                have hal := ahead_le (qKeys (eP σ i)) f
                refine r_callV (As := [(.int (nI i)), (.int f)]) Mm dX6_key_139 rfl (cm_placeOf hfl hz m ad hMz i (eP σ i) (by omega) (rpz i (by omega)) hk12 f) (hMz.1) rfl cw_X6_101 ⟨Nat.le_of_ble_eq_true rfl, Nat.le_of_ble_eq_true rfl, Nat.le_of_ble_eq_true rfl⟩ (Nat.le_of_ble_eq_true rfl) ⟨Nat.le_of_ble_eq_true rfl, Nat.le_of_ble_eq_true rfl⟩ (fun r55 h56 p57 => ?_) (fun Er55 h56 p57 => False.elim p57)
                obtain ⟨rfl, rfl⟩ := p57
                obtain ⟨a, ha⟩ : ∃ a, ahead (qKeys (eP σ i)) f = a := ⟨_, rfl⟩
                rw [ha]
                rw [ha] at hal
                show V 142 _ [(.int (nI a)), (.int (nI (12 * i)))] _ _ _
                refine r_iaddN Mm dX6_key_142 ?_
                refine r_istore Mm dX6_key_143 (by decide) ?_
                show V 145 [some (.ref m), some (.int (nI i)), some (.int f), some (.int u), some (.int v), some (.int e), some (.int (nI 1)), some (.int (nI 1)), some (.int (nI 1)), some (.int (nI ((12 * i) + a))), none] _ _ _ _
                have hl3 := (rpz i (by omega)).2.2.1
                have ha12 : a < 12 := by omega
                refine r_iload Mm dX6_key_145 rfl ?_
                refine r_if_eq (tgt := 196) Mm dX6_key_147 (by decide) (fun c58 => absurd c58 (by decide)) (fun _ => ?_)
                refine r_bipush (v := nI 12) Mm dX6_key_150 (by decide) ?_
                refine r_iload_n Mm dX6_key_152 rfl ?_
                refine r_imulN Mm dX6_key_153 ?_
                refine r_aload_n Mm dX6_key_154 rfl ?_
                refine r_getR Mm dX6_key_155 fi_X6_16 (hMz.1) rfl (i := 603) rfl ((hMz.2.1 3 8 8 (by decide)).1) ?_
                refine r_iload_n Mm dX6_key_158 rfl ?_
                refine r_ialdN Mm dX6_key_159 ((hMz.2.1 3 8 8 (by decide)).2) (by omega) (by omega) ?_
                refine r_top _ (nI ((qKeys (eP σ i)).length)) (hl3) ?_
                refine r_iaddN Mm dX6_key_160 ?_
                refine r_istore Mm dX6_key_161 (by decide) ?_
                show V 163 [some (.ref m), some (.int (nI i)), some (.int f), some (.int u), some (.int v), some (.int e), some (.int (nI 1)), some (.int (nI 1)), some (.int (nI 1)), some (.int (nI ((12 * i) + a))), some (.int (nI ((12 * i) + ((qKeys (eP σ i)).length))))] _ _ _ _
                have loop : ∀ (uu : Nat) (h1 : Hp) (z : Nat), z - (12 * i + a) < uu → (12 * i + a ≤ z) → (z ≤ 12 * i + (qKeys (eP σ i)).length) → (RF ad hz h1) → (pushR hz h1 ad z (12 * i + (qKeys (eP σ i)).length)) → V 163 [some (.ref m), some (.int (nI i)), some (.int f), some (.int u), some (.int v), some (.int e), some (.int (nI 1)), some (.int (nI 1)), some (.int (nI 1)), some (.int (nI ((12 * i) + a))), some (.int (nI z))] [] h1 0 0 := by
                  intro uu
                  induction uu with
                  | zero => intro h1 z hm; exact absurd hm (Nat.not_lt_zero _)
                  | succ uu ih =>
                    intro h1 z hm hz1 hz2 rf1 hup
                    have hM1 := rf1.ms hMz
                    refine r_iload Mm dX6_key_163 rfl ?_
                    refine r_iload Mm dX6_key_165 rfl ?_
                    refine r_icmp_leN (tgt := 186) Mm dX6_key_167 (by decide) (by omega) (by omega) (fun c59 => ?_) (fun c59 => ?_)
                    · have hze : z = 12 * i + a := by omega
                      subst hze
                      have hl3 : xA h1 (ad 3) i = nI (qKeys (eP σ i)).length := by rw [rf1.2.2.2.2.2 _ (hMz.ne (by decide : (3, 8, 8) ∈ mSl) (by decide : (7, 8, 96) ∈ mSl) (by decide)) (hMz.ne (by decide : (3, 8, 8) ∈ mSl) (by decide : (8, 8, 96) ∈ mSl) (by decide)) (hMz.ne (by decide : (3, 8, 8) ∈ mSl) (by decide : (9, 8, 96) ∈ mSl) (by decide)) (hMz.ne (by decide : (3, 8, 8) ∈ mSl) (by decide : (10, 8, 96) ∈ mSl) (by decide))]; exact (rpz i (by omega)).2.2.1
                      refine r_aload_n Mm dX6_key_186 rfl ?_
                      refine r_getR Mm dX6_key_187 fi_X6_16 (hM1.1) rfl (i := 603) rfl ((hM1.2.1 3 8 8 (by decide)).1) ?_
                      refine r_iload_n Mm dX6_key_190 rfl ?_
                      refine r_dup2 Mm dX6_key_191 rfl rfl ?_
                      refine r_ialdN Mm dX6_key_192 ((hM1.2.1 3 8 8 (by decide)).2) (by omega) (by omega) ?_
                      refine r_top _ (nI ((qKeys (eP σ i)).length)) (hl3) ?_
                      refine r_iconst (v := nI 1) Mm dX6_key_193 (by decide) ?_
                      refine r_iaddN Mm dX6_key_194 ?_
                      refine r_iastN Mm dX6_key_195 ((hM1.2.1 3 8 8 (by decide)).2) (by omega) (by omega) ?_
                      refine r_aload_n Mm dX6_key_196 rfl ?_
                      refine r_getR Mm dX6_key_197 fi_X6_25 (hM1.1) rfl (i := 607) rfl ((hM1.2.1 7 8 96 (by decide)).1) ?_
                      refine r_iload Mm dX6_key_200 rfl ?_
                      refine r_iload_n Mm dX6_key_202 rfl ?_
                      refine r_iastN Mm dX6_key_203 ((hM1.2.1 7 8 96 (by decide)).2) (by omega) (by omega) ?_
                      refine r_aload_n Mm dX6_key_204 rfl ?_
                      refine r_getR Mm dX6_key_205 fi_X6_28 (hM1.1) rfl (i := 608) rfl ((hM1.2.1 8 8 96 (by decide)).1) ?_
                      refine r_iload Mm dX6_key_208 rfl ?_
                      refine r_iload_n Mm dX6_key_210 rfl ?_
                      refine r_iastN Mm dX6_key_211 ((hM1.2.1 8 8 96 (by decide)).2) (by omega) (by omega) ?_
                      refine r_aload_n Mm dX6_key_212 rfl ?_
                      refine r_getR Mm dX6_key_213 fi_X6_31 (hM1.1) rfl (i := 609) rfl ((hM1.2.1 9 8 96 (by decide)).1) ?_
                      refine r_iload Mm dX6_key_216 rfl ?_
                      refine r_iload Mm dX6_key_218 rfl ?_
                      refine r_iastN Mm dX6_key_220 ((hM1.2.1 9 8 96 (by decide)).2) (by omega) (by omega) ?_
                      refine r_aload_n Mm dX6_key_221 rfl ?_
                      refine r_getR Mm dX6_key_222 fi_X6_34 (hM1.1) rfl (i := 610) rfl ((hM1.2.1 10 8 96 (by decide)).1) ?_
                      refine r_iload Mm dX6_key_225 rfl ?_
                      refine r_iload Mm dX6_key_227 rfl ?_
                      refine r_iastN Mm dX6_key_229 ((hM1.2.1 10 8 96 (by decide)).2) (by omega) (by omega) ?_
                      refine r_aload_n Mm dX6_key_230 rfl ?_
                      refine r_getR Mm dX6_key_231 fi_X6_16 (hM1.1) rfl (i := 603) rfl ((hM1.2.1 3 8 8 (by decide)).1) ?_
                      refine r_iload_n Mm dX6_key_234 rfl ?_
                      refine r_ialdN Mm dX6_key_235 ((hM1.2.1 3 8 8 (by decide)).2) (by omega) (by omega) ?_
                      refine r_top _ (nI (((qKeys (eP σ i)).length) + 1)) (by rw [yA_o (hMz.ne (by decide : (3, 8, 8) ∈ mSl) (by decide : (10, 8, 96) ∈ mSl) (by decide)), yA_o (hMz.ne (by decide : (3, 8, 8) ∈ mSl) (by decide : (9, 8, 96) ∈ mSl) (by decide)), yA_o (hMz.ne (by decide : (3, 8, 8) ∈ mSl) (by decide : (8, 8, 96) ∈ mSl) (by decide)), yA_o (hMz.ne (by decide : (3, 8, 8) ∈ mSl) (by decide : (7, 8, 96) ∈ mSl) (by decide)), yA_s]) ?_
                      refine r_iret M dX6_key_236 ?_
                      have eput : putK (qKeys (eP σ i)) (f, u, v, e) = ((qKeys (eP σ i)).insertIdx a (f, u, v, e)) := by
                        have q : putK (qKeys (eP σ i)) (f, u, v, e) = (qKeys (eP σ i)).insertIdx (ahead (qKeys (eP σ i)) f) (f, u, v, e) := if_neg k27
                        rw [ha] at q; exact q
                      have elen : ((qKeys (eP σ i)).insertIdx a (f, u, v, e)).length = (qKeys (eP σ i)).length + 1 := by rw [List.length_insertIdx, if_pos hal]
                      have hM3 : MS (yA h1 (ad 3) i (nI ((qKeys (eP σ i)).length + 1))) m ad := (rf1.ms hMz).eq rfl rfl
                      have hrow : ∀ w, rw4 (cpK (yA h1 (ad 3) i (nI ((qKeys (eP σ i)).length + 1))) ad (12 * i + a) (f, u, v, e)) ad w = if w = 12 * i + a then (f, u, v, e) else rw4 h1 ad w := fun w => by
                        rw [cpK_row hM3]
                        have q : rw4 (yA h1 (ad 3) i (nI ((qKeys (eP σ i)).length + 1))) ad w = rw4 h1 ad w := by rw [rw4, rw4, yA_o (hMz.ne (by decide : (7, 8, 96) ∈ mSl) (by decide : (3, 8, 8) ∈ mSl) (by decide)), yA_o (hMz.ne (by decide : (8, 8, 96) ∈ mSl) (by decide : (3, 8, 8) ∈ mSl) (by decide)), yA_o (hMz.ne (by decide : (9, 8, 96) ∈ mSl) (by decide : (3, 8, 8) ∈ mSl) (by decide)), yA_o (hMz.ne (by decide : (10, 8, 96) ∈ mSl) (by decide : (3, 8, 8) ∈ mSl) (by decide))]
                        rw [q]
                      have r9 : RM (cpK (yA h1 (ad 3) i (nI ((qKeys (eP σ i)).length + 1))) ad (12 * i + a) (f, u, v, e)) m ad (wP σ i ((eP σ i).1, (eP σ i).2.1, ((qKeys (eP σ i)).insertIdx a (f, u, v, e)), (eP σ i).2.2.2)) := by
                        refine RM.keysIs (by omega) ((qKeys (eP σ i)).insertIdx a (f, u, v, e)) hx0.len rz0 rf1.1 rf1.2.1 rf1.2.2.1 (fun b n3 n7 n8 n9 n10 => ?_) ?_ (fun q hq => ?_) (fun w hw => ?_) (fun k kk hk => ?_)
                        · rw [cpK_u, yA_o n10, yA_o n9, yA_o n8, yA_o n7, yA_o n3]; exact rf1.2.2.2.2.2 b n7 n8 n9 n10
                        · rw [cpK_u, yA_o (hMz.ne (by decide : (3, 8, 8) ∈ mSl) (by decide : (10, 8, 96) ∈ mSl) (by decide)), yA_o (hMz.ne (by decide : (3, 8, 8) ∈ mSl) (by decide : (9, 8, 96) ∈ mSl) (by decide)), yA_o (hMz.ne (by decide : (3, 8, 8) ∈ mSl) (by decide : (8, 8, 96) ∈ mSl) (by decide)), yA_o (hMz.ne (by decide : (3, 8, 8) ∈ mSl) (by decide : (7, 8, 96) ∈ mSl) (by decide)), yA_s, elen]
                        · rw [cpK_u, yA_o (hMz.ne (by decide : (3, 8, 8) ∈ mSl) (by decide : (10, 8, 96) ∈ mSl) (by decide)), yA_o (hMz.ne (by decide : (3, 8, 8) ∈ mSl) (by decide : (9, 8, 96) ∈ mSl) (by decide)), yA_o (hMz.ne (by decide : (3, 8, 8) ∈ mSl) (by decide : (8, 8, 96) ∈ mSl) (by decide)), yA_o (hMz.ne (by decide : (3, 8, 8) ∈ mSl) (by decide : (7, 8, 96) ∈ mSl) (by decide)), yA_j hq, rf1.2.2.2.2.2 _ (hMz.ne (by decide : (3, 8, 8) ∈ mSl) (by decide : (7, 8, 96) ∈ mSl) (by decide)) (hMz.ne (by decide : (3, 8, 8) ∈ mSl) (by decide : (8, 8, 96) ∈ mSl) (by decide)) (hMz.ne (by decide : (3, 8, 8) ∈ mSl) (by decide : (9, 8, 96) ∈ mSl) (by decide)) (hMz.ne (by decide : (3, 8, 8) ∈ mSl) (by decide : (10, 8, 96) ∈ mSl) (by decide))]
                        · rw [hrow, if_neg (by omega), hup w, if_neg (by omega)]
                        · rw [hrow]
                          rw [insG hal] at hk
                          by_cases q1 : k < a
                          · rw [if_pos q1] at hk
                            rw [if_neg (by omega), hup, if_neg (by omega)]
                            exact rw4_of ((rpz i (by omega)).2.2.2.2.2.1 k kk hk)
                          · rw [if_neg q1] at hk
                            by_cases q2 : k = a
                            · rw [if_pos q2] at hk; cases hk; rw [q2, if_pos rfl]
                            · rw [if_neg q2] at hk
                              have hk1 := (List.getElem?_eq_some_iff.mp hk).1
                              rw [if_neg (by omega), hup, if_pos (by omega), show 12 * i + k - 1 = 12 * i + (k - 1) by omega]
                              exact rw4_of ((rpz i (by omega)).2.2.2.2.2.1 (k - 1) kk hk)
                      rw [← eput] at r9 elen
                      exact pMd.ret fz z0 (by simp only [o_key, oPu_ok k1 eci, oIn_ok k5, oIn_ok k10, oIn_ok k15, oIn_ok k20, if_neg (fun z => by omega : ¬ (hasK (qKeys (eP σ i)) f = false ∧ 12 ≤ (qKeys (eP σ i)).length)), elen]) (rf1.fr.tr ((Fr.yA (MW.at 3 8 8 (by decide))).tr (RF.cp (12 * i + a) (f, u, v, e)).fr)) (by rw [zxF_yA, zxF_yA, zxF_yA, zxF_yA, zxF_yA, rf1.2.2.1]) r9
                    · refine r_aload_n Mm dX6_key_170 rfl ?_
                      refine r_iload Mm dX6_key_171 rfl ?_
                      refine r_iconst (v := nI 1) Mm dX6_key_173 (by decide) ?_
                      refine r_isubN Mm dX6_key_174 (by omega) ?_
                      refine r_iload Mm dX6_key_175 rfl ?_
                      refine r_callV (As := [(.int (nI (z - 1))), (.int (nI z))]) Mm dX6_key_177 rfl (cm_copies hfl h1 m ad hM1 (z - 1) z (by omega) (by omega)) (hM1.1) rfl cw_X6_109 ⟨Nat.le_of_ble_eq_true rfl, Nat.le_of_ble_eq_true rfl, Nat.le_of_ble_eq_true rfl⟩ (Nat.le_of_ble_eq_true rfl) ⟨Nat.le_of_ble_eq_true rfl, Nat.le_of_ble_eq_true rfl⟩ (fun r60 h61 p62 => ?_) (fun Er60 h61 p62 => False.elim p62)
                      obtain ⟨rfl, rfl⟩ := p62
                      show V 180 _ [] _ _ _
                      refine r_iinc (v := nI (z - 1)) Mm dX6_key_180 rfl (nI_m1 (by omega)) (by decide) ?_
                      show V 183 [some (.ref m), some (.int (nI i)), some (.int f), some (.int u), some (.int v), some (.int e), some (.int (nI 1)), some (.int (nI 1)), some (.int (nI 1)), some (.int (nI ((12 * i) + a))), some (.int (nI (z - 1)))] _ _ _ _
                      refine r_goto (tgt := 163) Mm dX6_key_183 (by decide) ?_
                      exact ih _ (z - 1) (by omega) (by omega) (by omega) (rf1.tr (RF.cp _ _)) (pushR.step hM1 (by omega) (by omega) hup)
                exact loop (12 * i + (qKeys (eP σ i)).length + 1) _ _ (by omega) (by omega) (Nat.le_refl _) RF.rf pushR.rf
              · refine r_iconst (v := nI 3) Mm dX6_key_119 (by decide) ?_
                refine r_goto (tgt := 124) Mm dX6_key_120 (by decide) ?_
                refine r_callV (As := [(.int (nI 3))]) Mm dX6_key_124 rfl (cm_isFine hfl h m ad hM (nI 3)) (hM.1) rfl cw_X6_94 ⟨Nat.le_of_ble_eq_true rfl, Nat.le_of_ble_eq_true rfl, Nat.le_of_ble_eq_true rfl⟩ (Nat.le_of_ble_eq_true rfl) ⟨Nat.le_of_ble_eq_true rfl, Nat.le_of_ble_eq_true rfl⟩ (fun r63 h64 p65 => ?_) (fun Er63 h64 p65 => False.elim p65)
                obtain ⟨rfl, rfl⟩ := p65
                rw [show bI (decide (nI 3 = 0)) = nI 0 from by decide]
                show V 127 _ [(.int (nI 0))] _ _ _
                refine r_if_ne (tgt := 132) Mm dX6_key_127 (by decide) (fun c66 => absurd c66 (by decide)) (fun _ => ?_)
                refine r_iconst (v := nI 0) Mm dX6_key_130 (by decide) ?_
                refine r_iret M dX6_key_131 ?_
                exact pMd.thr rm0 "java/lang/IllegalStateException" 3 (by simp only [o_key, oPu_ok k1 eci, oIn_ok k5, oIn_ok k10, oIn_ok k15, oIn_ok k20, if_pos (⟨Bool.eq_false_iff.mpr k27, by omega⟩ : hasK (qKeys (eP σ i)) f = false ∧ 12 ≤ (qKeys (eP σ i)).length)]) (by decide +kernel)
          · refine r_callS (As := [(.int e), (.int (nI 0)), (.int (nI 3))]) Mm dX6_key_45 rfl (cm_isIn hfl h e (nI 0) (nI 3)) cw_X6_87 ⟨Nat.le_of_ble_eq_true rfl, Nat.le_of_ble_eq_true rfl, Nat.le_of_ble_eq_true rfl⟩ (Nat.le_of_ble_eq_true rfl) ⟨Nat.le_of_ble_eq_true rfl, Nat.le_of_ble_eq_true rfl⟩ (fun r67 h68 p69 => ?_) (fun Er67 h68 p69 => False.elim p69)
            obtain ⟨rfl, rfl⟩ := p69
            rw [decide_eq_false k20]
            show V 48 _ [(.int (nI 0))] _ _ _
            refine r_if_eq (tgt := 55) Mm dX6_key_48 (by decide) (fun _ => ?_) (fun c70 => absurd (by decide) c70)
            refine r_iconst (v := nI 0) Mm dX6_key_55 (by decide) ?_
            refine r_istore Mm dX6_key_56 (by decide) ?_
            show V 58 [some (.ref m), some (.int (nI i)), some (.int f), some (.int u), some (.int v), some (.int e), some (.int (nI 1)), some (.int (nI 0)), none, none, none] _ _ _ _
            refine r_iload Mm dX6_key_58 rfl ?_
            refine r_if_eq (tgt := 81) Mm dX6_key_60 (by decide) (fun c71 => absurd c71 (by decide)) (fun _ => ?_)
            refine r_iload Mm dX6_key_63 rfl ?_
            refine r_if_eq (tgt := 81) Mm dX6_key_65 (by decide) (fun _ => ?_) (fun c72 => absurd (by decide) c72)
            refine r_iconst (v := nI 0) Mm dX6_key_81 (by decide) ?_
            refine r_istore Mm dX6_key_82 (by decide) ?_
            show V 84 [some (.ref m), some (.int (nI i)), some (.int f), some (.int u), some (.int v), some (.int e), some (.int (nI 1)), some (.int (nI 0)), some (.int (nI 0)), none, none] _ _ _ _
            refine r_aload_n Mm dX6_key_84 rfl ?_
            refine r_iload Mm dX6_key_85 rfl ?_
            refine r_if_ne (tgt := 94) Mm dX6_key_87 (by decide) (fun _ => ?_) (fun c73 => absurd c73 (by decide))
            refine r_iload Mm dX6_key_94 rfl ?_
            refine r_if_ne (tgt := 103) Mm dX6_key_96 (by decide) (fun c74 => absurd c74 (by decide)) (fun _ => ?_)
            refine r_iconst (v := nI 2) Mm dX6_key_99 (by decide) ?_
            refine r_goto (tgt := 124) Mm dX6_key_100 (by decide) ?_
            refine r_callV (As := [(.int (nI 2))]) Mm dX6_key_124 rfl (cm_isFine hfl h m ad hM (nI 2)) (hM.1) rfl cw_X6_94 ⟨Nat.le_of_ble_eq_true rfl, Nat.le_of_ble_eq_true rfl, Nat.le_of_ble_eq_true rfl⟩ (Nat.le_of_ble_eq_true rfl) ⟨Nat.le_of_ble_eq_true rfl, Nat.le_of_ble_eq_true rfl⟩ (fun r75 h76 p77 => ?_) (fun Er75 h76 p77 => False.elim p77)
            obtain ⟨rfl, rfl⟩ := p77
            rw [show bI (decide (nI 2 = 0)) = nI 0 from by decide]
            show V 127 _ [(.int (nI 0))] _ _ _
            refine r_if_ne (tgt := 132) Mm dX6_key_127 (by decide) (fun c78 => absurd c78 (by decide)) (fun _ => ?_)
            refine r_iconst (v := nI 0) Mm dX6_key_130 (by decide) ?_
            refine r_iret M dX6_key_131 ?_
            exact pMd.thr rm0 "java/lang/IllegalArgumentException" 2 (by simp only [o_key, oPu_ok k1 eci, oIn_ok k5, oIn_ok k10, oIn_ok k15, oIn_no k20]) (by decide +kernel)
        · refine r_callS (As := [(.int v), (.int (nI 0)), (.int (nI 999))]) Mm dX6_key_35 rfl (cm_isIn hfl h v (nI 0) (nI 999)) cw_X6_87 ⟨Nat.le_of_ble_eq_true rfl, Nat.le_of_ble_eq_true rfl, Nat.le_of_ble_eq_true rfl⟩ (Nat.le_of_ble_eq_true rfl) ⟨Nat.le_of_ble_eq_true rfl, Nat.le_of_ble_eq_true rfl⟩ (fun r79 h80 p81 => ?_) (fun Er79 h80 p81 => False.elim p81)
          obtain ⟨rfl, rfl⟩ := p81
          rw [decide_eq_false k15]
          show V 38 _ [(.int (nI 0))] _ _ _
          refine r_if_eq (tgt := 55) Mm dX6_key_38 (by decide) (fun _ => ?_) (fun c82 => absurd (by decide) c82)
          refine r_iconst (v := nI 0) Mm dX6_key_55 (by decide) ?_
          refine r_istore Mm dX6_key_56 (by decide) ?_
          show V 58 [some (.ref m), some (.int (nI i)), some (.int f), some (.int u), some (.int v), some (.int e), some (.int (nI 1)), some (.int (nI 0)), none, none, none] _ _ _ _
          refine r_iload Mm dX6_key_58 rfl ?_
          refine r_if_eq (tgt := 81) Mm dX6_key_60 (by decide) (fun c83 => absurd c83 (by decide)) (fun _ => ?_)
          refine r_iload Mm dX6_key_63 rfl ?_
          refine r_if_eq (tgt := 81) Mm dX6_key_65 (by decide) (fun _ => ?_) (fun c84 => absurd (by decide) c84)
          refine r_iconst (v := nI 0) Mm dX6_key_81 (by decide) ?_
          refine r_istore Mm dX6_key_82 (by decide) ?_
          show V 84 [some (.ref m), some (.int (nI i)), some (.int f), some (.int u), some (.int v), some (.int e), some (.int (nI 1)), some (.int (nI 0)), some (.int (nI 0)), none, none] _ _ _ _
          refine r_aload_n Mm dX6_key_84 rfl ?_
          refine r_iload Mm dX6_key_85 rfl ?_
          refine r_if_ne (tgt := 94) Mm dX6_key_87 (by decide) (fun _ => ?_) (fun c85 => absurd c85 (by decide))
          refine r_iload Mm dX6_key_94 rfl ?_
          refine r_if_ne (tgt := 103) Mm dX6_key_96 (by decide) (fun c86 => absurd c86 (by decide)) (fun _ => ?_)
          refine r_iconst (v := nI 2) Mm dX6_key_99 (by decide) ?_
          refine r_goto (tgt := 124) Mm dX6_key_100 (by decide) ?_
          refine r_callV (As := [(.int (nI 2))]) Mm dX6_key_124 rfl (cm_isFine hfl h m ad hM (nI 2)) (hM.1) rfl cw_X6_94 ⟨Nat.le_of_ble_eq_true rfl, Nat.le_of_ble_eq_true rfl, Nat.le_of_ble_eq_true rfl⟩ (Nat.le_of_ble_eq_true rfl) ⟨Nat.le_of_ble_eq_true rfl, Nat.le_of_ble_eq_true rfl⟩ (fun r87 h88 p89 => ?_) (fun Er87 h88 p89 => False.elim p89)
          obtain ⟨rfl, rfl⟩ := p89
          rw [show bI (decide (nI 2 = 0)) = nI 0 from by decide]
          show V 127 _ [(.int (nI 0))] _ _ _
          refine r_if_ne (tgt := 132) Mm dX6_key_127 (by decide) (fun c90 => absurd c90 (by decide)) (fun _ => ?_)
          refine r_iconst (v := nI 0) Mm dX6_key_130 (by decide) ?_
          refine r_iret M dX6_key_131 ?_
          exact pMd.thr rm0 "java/lang/IllegalArgumentException" 2 (by simp only [o_key, oPu_ok k1 eci, oIn_ok k5, oIn_ok k10, oIn_no k15]) (by decide +kernel)
      · refine r_callS (As := [(.int u), (.int (nI 0)), (.int (nI 999))]) Mm dX6_key_23 rfl (cm_isIn hfl h u (nI 0) (nI 999)) cw_X6_87 ⟨Nat.le_of_ble_eq_true rfl, Nat.le_of_ble_eq_true rfl, Nat.le_of_ble_eq_true rfl⟩ (Nat.le_of_ble_eq_true rfl) ⟨Nat.le_of_ble_eq_true rfl, Nat.le_of_ble_eq_true rfl⟩ (fun r91 h92 p93 => ?_) (fun Er91 h92 p93 => False.elim p93)
        obtain ⟨rfl, rfl⟩ := p93
        rw [decide_eq_false k10]
        show V 26 _ [(.int (nI 0))] _ _ _
        refine r_if_eq (tgt := 55) Mm dX6_key_26 (by decide) (fun _ => ?_) (fun c94 => absurd (by decide) c94)
        refine r_iconst (v := nI 0) Mm dX6_key_55 (by decide) ?_
        refine r_istore Mm dX6_key_56 (by decide) ?_
        show V 58 [some (.ref m), some (.int (nI i)), some (.int f), some (.int u), some (.int v), some (.int e), some (.int (nI 1)), some (.int (nI 0)), none, none, none] _ _ _ _
        refine r_iload Mm dX6_key_58 rfl ?_
        refine r_if_eq (tgt := 81) Mm dX6_key_60 (by decide) (fun c95 => absurd c95 (by decide)) (fun _ => ?_)
        refine r_iload Mm dX6_key_63 rfl ?_
        refine r_if_eq (tgt := 81) Mm dX6_key_65 (by decide) (fun _ => ?_) (fun c96 => absurd (by decide) c96)
        refine r_iconst (v := nI 0) Mm dX6_key_81 (by decide) ?_
        refine r_istore Mm dX6_key_82 (by decide) ?_
        show V 84 [some (.ref m), some (.int (nI i)), some (.int f), some (.int u), some (.int v), some (.int e), some (.int (nI 1)), some (.int (nI 0)), some (.int (nI 0)), none, none] _ _ _ _
        refine r_aload_n Mm dX6_key_84 rfl ?_
        refine r_iload Mm dX6_key_85 rfl ?_
        refine r_if_ne (tgt := 94) Mm dX6_key_87 (by decide) (fun _ => ?_) (fun c97 => absurd c97 (by decide))
        refine r_iload Mm dX6_key_94 rfl ?_
        refine r_if_ne (tgt := 103) Mm dX6_key_96 (by decide) (fun c98 => absurd c98 (by decide)) (fun _ => ?_)
        refine r_iconst (v := nI 2) Mm dX6_key_99 (by decide) ?_
        refine r_goto (tgt := 124) Mm dX6_key_100 (by decide) ?_
        refine r_callV (As := [(.int (nI 2))]) Mm dX6_key_124 rfl (cm_isFine hfl h m ad hM (nI 2)) (hM.1) rfl cw_X6_94 ⟨Nat.le_of_ble_eq_true rfl, Nat.le_of_ble_eq_true rfl, Nat.le_of_ble_eq_true rfl⟩ (Nat.le_of_ble_eq_true rfl) ⟨Nat.le_of_ble_eq_true rfl, Nat.le_of_ble_eq_true rfl⟩ (fun r99 h100 p101 => ?_) (fun Er99 h100 p101 => False.elim p101)
        obtain ⟨rfl, rfl⟩ := p101
        rw [show bI (decide (nI 2 = 0)) = nI 0 from by decide]
        show V 127 _ [(.int (nI 0))] _ _ _
        refine r_if_ne (tgt := 132) Mm dX6_key_127 (by decide) (fun c102 => absurd c102 (by decide)) (fun _ => ?_)
        refine r_iconst (v := nI 0) Mm dX6_key_130 (by decide) ?_
        refine r_iret M dX6_key_131 ?_
        exact pMd.thr rm0 "java/lang/IllegalArgumentException" 2 (by simp only [o_key, oPu_ok k1 eci, oIn_ok k5, oIn_no k10]) (by decide +kernel)
    · refine r_callS (As := [(.int f), (.int (nI 0)), (.int (nI 999))]) Mm dX6_key_12 rfl (cm_isIn hfl h f (nI 0) (nI 999)) cw_X6_87 ⟨Nat.le_of_ble_eq_true rfl, Nat.le_of_ble_eq_true rfl, Nat.le_of_ble_eq_true rfl⟩ (Nat.le_of_ble_eq_true rfl) ⟨Nat.le_of_ble_eq_true rfl, Nat.le_of_ble_eq_true rfl⟩ (fun r103 h104 p105 => ?_) (fun Er103 h104 p105 => False.elim p105)
      obtain ⟨rfl, rfl⟩ := p105
      rw [decide_eq_false k5]
      show V 15 _ [(.int (nI 0))] _ _ _
      refine r_if_eq (tgt := 55) Mm dX6_key_15 (by decide) (fun _ => ?_) (fun c106 => absurd (by decide) c106)
      refine r_iconst (v := nI 0) Mm dX6_key_55 (by decide) ?_
      refine r_istore Mm dX6_key_56 (by decide) ?_
      show V 58 [some (.ref m), some (.int (nI i)), some (.int f), some (.int u), some (.int v), some (.int e), some (.int (nI 1)), some (.int (nI 0)), none, none, none] _ _ _ _
      refine r_iload Mm dX6_key_58 rfl ?_
      refine r_if_eq (tgt := 81) Mm dX6_key_60 (by decide) (fun c107 => absurd c107 (by decide)) (fun _ => ?_)
      refine r_iload Mm dX6_key_63 rfl ?_
      refine r_if_eq (tgt := 81) Mm dX6_key_65 (by decide) (fun _ => ?_) (fun c108 => absurd (by decide) c108)
      refine r_iconst (v := nI 0) Mm dX6_key_81 (by decide) ?_
      refine r_istore Mm dX6_key_82 (by decide) ?_
      show V 84 [some (.ref m), some (.int (nI i)), some (.int f), some (.int u), some (.int v), some (.int e), some (.int (nI 1)), some (.int (nI 0)), some (.int (nI 0)), none, none] _ _ _ _
      refine r_aload_n Mm dX6_key_84 rfl ?_
      refine r_iload Mm dX6_key_85 rfl ?_
      refine r_if_ne (tgt := 94) Mm dX6_key_87 (by decide) (fun _ => ?_) (fun c109 => absurd c109 (by decide))
      refine r_iload Mm dX6_key_94 rfl ?_
      refine r_if_ne (tgt := 103) Mm dX6_key_96 (by decide) (fun c110 => absurd c110 (by decide)) (fun _ => ?_)
      refine r_iconst (v := nI 2) Mm dX6_key_99 (by decide) ?_
      refine r_goto (tgt := 124) Mm dX6_key_100 (by decide) ?_
      refine r_callV (As := [(.int (nI 2))]) Mm dX6_key_124 rfl (cm_isFine hfl h m ad hM (nI 2)) (hM.1) rfl cw_X6_94 ⟨Nat.le_of_ble_eq_true rfl, Nat.le_of_ble_eq_true rfl, Nat.le_of_ble_eq_true rfl⟩ (Nat.le_of_ble_eq_true rfl) ⟨Nat.le_of_ble_eq_true rfl, Nat.le_of_ble_eq_true rfl⟩ (fun r111 h112 p113 => ?_) (fun Er111 h112 p113 => False.elim p113)
      obtain ⟨rfl, rfl⟩ := p113
      rw [show bI (decide (nI 2 = 0)) = nI 0 from by decide]
      show V 127 _ [(.int (nI 0))] _ _ _
      refine r_if_ne (tgt := 132) Mm dX6_key_127 (by decide) (fun c114 => absurd c114 (by decide)) (fun _ => ?_)
      refine r_iconst (v := nI 0) Mm dX6_key_130 (by decide) ?_
      refine r_iret M dX6_key_131 ?_
      exact pMd.thr rm0 "java/lang/IllegalArgumentException" 2 (by simp only [o_key, oPu_ok k1 eci, oIn_no k5]) (by decide +kernel)
  · refine r_callV (As := [(.int p)]) Mm dX6_key_2 rfl (cm_isPuppet hfl h m (eN σ) p hM.1 (by omega) g1) (hM.1) rfl cw_X6_98 ⟨Nat.le_of_ble_eq_true rfl, Nat.le_of_ble_eq_true rfl, Nat.le_of_ble_eq_true rfl⟩ (Nat.le_of_ble_eq_true rfl) ⟨Nat.le_of_ble_eq_true rfl, Nat.le_of_ble_eq_true rfl⟩ (fun r115 h116 p117 => ?_) (fun Er115 h116 p117 => False.elim p117)
    obtain ⟨rfl, rfl⟩ := p117
    rw [decide_eq_false k1]
    show V 5 _ [(.int (nI 0))] _ _ _
    refine r_istore Mm dX6_key_5 (by decide) ?_
    show V 7 [some (.ref m), some (.int p), some (.int f), some (.int u), some (.int v), some (.int e), some (.int (nI 0)), none, none, none, none] _ _ _ _
    refine r_iload_n Mm dX6_key_7 rfl ?_
    refine r_iconst (v := nI 0) Mm dX6_key_8 (by decide) ?_
    refine r_sipush (v := nI 999) Mm dX6_key_9 (by decide) ?_
    by_cases k118 : (nI 0) ≤ f ∧ f ≤ (nI 999)
    · refine r_callS (As := [(.int f), (.int (nI 0)), (.int (nI 999))]) Mm dX6_key_12 rfl (cm_isIn hfl h f (nI 0) (nI 999)) cw_X6_87 ⟨Nat.le_of_ble_eq_true rfl, Nat.le_of_ble_eq_true rfl, Nat.le_of_ble_eq_true rfl⟩ (Nat.le_of_ble_eq_true rfl) ⟨Nat.le_of_ble_eq_true rfl, Nat.le_of_ble_eq_true rfl⟩ (fun r119 h120 p121 => ?_) (fun Er119 h120 p121 => False.elim p121)
      obtain ⟨rfl, rfl⟩ := p121
      rw [decide_eq_true k118]
      show V 15 _ [(.int (nI 1))] _ _ _
      refine r_if_eq (tgt := 55) Mm dX6_key_15 (by decide) (fun c122 => absurd c122 (by decide)) (fun _ => ?_)
      refine r_iload_n Mm dX6_key_18 rfl ?_
      refine r_iconst (v := nI 0) Mm dX6_key_19 (by decide) ?_
      refine r_sipush (v := nI 999) Mm dX6_key_20 (by decide) ?_
      by_cases k123 : (nI 0) ≤ u ∧ u ≤ (nI 999)
      · refine r_callS (As := [(.int u), (.int (nI 0)), (.int (nI 999))]) Mm dX6_key_23 rfl (cm_isIn hfl h u (nI 0) (nI 999)) cw_X6_87 ⟨Nat.le_of_ble_eq_true rfl, Nat.le_of_ble_eq_true rfl, Nat.le_of_ble_eq_true rfl⟩ (Nat.le_of_ble_eq_true rfl) ⟨Nat.le_of_ble_eq_true rfl, Nat.le_of_ble_eq_true rfl⟩ (fun r124 h125 p126 => ?_) (fun Er124 h125 p126 => False.elim p126)
        obtain ⟨rfl, rfl⟩ := p126
        rw [decide_eq_true k123]
        show V 26 _ [(.int (nI 1))] _ _ _
        refine r_if_eq (tgt := 55) Mm dX6_key_26 (by decide) (fun c127 => absurd c127 (by decide)) (fun _ => ?_)
        refine r_iload Mm dX6_key_29 rfl ?_
        refine r_iconst (v := nI 0) Mm dX6_key_31 (by decide) ?_
        refine r_sipush (v := nI 999) Mm dX6_key_32 (by decide) ?_
        by_cases k128 : (nI 0) ≤ v ∧ v ≤ (nI 999)
        · refine r_callS (As := [(.int v), (.int (nI 0)), (.int (nI 999))]) Mm dX6_key_35 rfl (cm_isIn hfl h v (nI 0) (nI 999)) cw_X6_87 ⟨Nat.le_of_ble_eq_true rfl, Nat.le_of_ble_eq_true rfl, Nat.le_of_ble_eq_true rfl⟩ (Nat.le_of_ble_eq_true rfl) ⟨Nat.le_of_ble_eq_true rfl, Nat.le_of_ble_eq_true rfl⟩ (fun r129 h130 p131 => ?_) (fun Er129 h130 p131 => False.elim p131)
          obtain ⟨rfl, rfl⟩ := p131
          rw [decide_eq_true k128]
          show V 38 _ [(.int (nI 1))] _ _ _
          refine r_if_eq (tgt := 55) Mm dX6_key_38 (by decide) (fun c132 => absurd c132 (by decide)) (fun _ => ?_)
          refine r_iload Mm dX6_key_41 rfl ?_
          refine r_iconst (v := nI 0) Mm dX6_key_43 (by decide) ?_
          refine r_iconst (v := nI 3) Mm dX6_key_44 (by decide) ?_
          by_cases k133 : (nI 0) ≤ e ∧ e ≤ (nI 3)
          · refine r_callS (As := [(.int e), (.int (nI 0)), (.int (nI 3))]) Mm dX6_key_45 rfl (cm_isIn hfl h e (nI 0) (nI 3)) cw_X6_87 ⟨Nat.le_of_ble_eq_true rfl, Nat.le_of_ble_eq_true rfl, Nat.le_of_ble_eq_true rfl⟩ (Nat.le_of_ble_eq_true rfl) ⟨Nat.le_of_ble_eq_true rfl, Nat.le_of_ble_eq_true rfl⟩ (fun r134 h135 p136 => ?_) (fun Er134 h135 p136 => False.elim p136)
            obtain ⟨rfl, rfl⟩ := p136
            rw [decide_eq_true k133]
            show V 48 _ [(.int (nI 1))] _ _ _
            refine r_if_eq (tgt := 55) Mm dX6_key_48 (by decide) (fun c137 => absurd c137 (by decide)) (fun _ => ?_)
            refine r_iconst (v := nI 1) Mm dX6_key_51 (by decide) ?_
            refine r_goto (tgt := 56) Mm dX6_key_52 (by decide) ?_
            refine r_istore Mm dX6_key_56 (by decide) ?_
            show V 58 [some (.ref m), some (.int p), some (.int f), some (.int u), some (.int v), some (.int e), some (.int (nI 0)), some (.int (nI 1)), none, none, none] _ _ _ _
            refine r_iload Mm dX6_key_58 rfl ?_
            refine r_if_eq (tgt := 81) Mm dX6_key_60 (by decide) (fun _ => ?_) (fun c138 => absurd (by decide) c138)
            refine r_iconst (v := nI 0) Mm dX6_key_81 (by decide) ?_
            refine r_istore Mm dX6_key_82 (by decide) ?_
            show V 84 [some (.ref m), some (.int p), some (.int f), some (.int u), some (.int v), some (.int e), some (.int (nI 0)), some (.int (nI 1)), some (.int (nI 0)), none, none] _ _ _ _
            refine r_aload_n Mm dX6_key_84 rfl ?_
            refine r_iload Mm dX6_key_85 rfl ?_
            refine r_if_ne (tgt := 94) Mm dX6_key_87 (by decide) (fun c139 => absurd c139 (by decide)) (fun _ => ?_)
            refine r_iconst (v := nI 1) Mm dX6_key_90 (by decide) ?_
            refine r_goto (tgt := 124) Mm dX6_key_91 (by decide) ?_
            refine r_callV (As := [(.int (nI 1))]) Mm dX6_key_124 rfl (cm_isFine hfl h m ad hM (nI 1)) (hM.1) rfl cw_X6_94 ⟨Nat.le_of_ble_eq_true rfl, Nat.le_of_ble_eq_true rfl, Nat.le_of_ble_eq_true rfl⟩ (Nat.le_of_ble_eq_true rfl) ⟨Nat.le_of_ble_eq_true rfl, Nat.le_of_ble_eq_true rfl⟩ (fun r140 h141 p142 => ?_) (fun Er140 h141 p142 => False.elim p142)
            obtain ⟨rfl, rfl⟩ := p142
            rw [show bI (decide (nI 1 = 0)) = nI 0 from by decide]
            show V 127 _ [(.int (nI 0))] _ _ _
            refine r_if_ne (tgt := 132) Mm dX6_key_127 (by decide) (fun c143 => absurd c143 (by decide)) (fun _ => ?_)
            refine r_iconst (v := nI 0) Mm dX6_key_130 (by decide) ?_
            refine r_iret M dX6_key_131 ?_
            exact pMd.thr rm0 "java/lang/IndexOutOfBoundsException" 1 (by simp only [o_key, oPu_no k1, oIn_ok k118, oIn_ok k123, oIn_ok k128, oIn_ok k133]) (by decide +kernel)
          · refine r_callS (As := [(.int e), (.int (nI 0)), (.int (nI 3))]) Mm dX6_key_45 rfl (cm_isIn hfl h e (nI 0) (nI 3)) cw_X6_87 ⟨Nat.le_of_ble_eq_true rfl, Nat.le_of_ble_eq_true rfl, Nat.le_of_ble_eq_true rfl⟩ (Nat.le_of_ble_eq_true rfl) ⟨Nat.le_of_ble_eq_true rfl, Nat.le_of_ble_eq_true rfl⟩ (fun r144 h145 p146 => ?_) (fun Er144 h145 p146 => False.elim p146)
            obtain ⟨rfl, rfl⟩ := p146
            rw [decide_eq_false k133]
            show V 48 _ [(.int (nI 0))] _ _ _
            refine r_if_eq (tgt := 55) Mm dX6_key_48 (by decide) (fun _ => ?_) (fun c147 => absurd (by decide) c147)
            refine r_iconst (v := nI 0) Mm dX6_key_55 (by decide) ?_
            refine r_istore Mm dX6_key_56 (by decide) ?_
            show V 58 [some (.ref m), some (.int p), some (.int f), some (.int u), some (.int v), some (.int e), some (.int (nI 0)), some (.int (nI 0)), none, none, none] _ _ _ _
            refine r_iload Mm dX6_key_58 rfl ?_
            refine r_if_eq (tgt := 81) Mm dX6_key_60 (by decide) (fun _ => ?_) (fun c148 => absurd (by decide) c148)
            refine r_iconst (v := nI 0) Mm dX6_key_81 (by decide) ?_
            refine r_istore Mm dX6_key_82 (by decide) ?_
            show V 84 [some (.ref m), some (.int p), some (.int f), some (.int u), some (.int v), some (.int e), some (.int (nI 0)), some (.int (nI 0)), some (.int (nI 0)), none, none] _ _ _ _
            refine r_aload_n Mm dX6_key_84 rfl ?_
            refine r_iload Mm dX6_key_85 rfl ?_
            refine r_if_ne (tgt := 94) Mm dX6_key_87 (by decide) (fun c149 => absurd c149 (by decide)) (fun _ => ?_)
            refine r_iconst (v := nI 1) Mm dX6_key_90 (by decide) ?_
            refine r_goto (tgt := 124) Mm dX6_key_91 (by decide) ?_
            refine r_callV (As := [(.int (nI 1))]) Mm dX6_key_124 rfl (cm_isFine hfl h m ad hM (nI 1)) (hM.1) rfl cw_X6_94 ⟨Nat.le_of_ble_eq_true rfl, Nat.le_of_ble_eq_true rfl, Nat.le_of_ble_eq_true rfl⟩ (Nat.le_of_ble_eq_true rfl) ⟨Nat.le_of_ble_eq_true rfl, Nat.le_of_ble_eq_true rfl⟩ (fun r150 h151 p152 => ?_) (fun Er150 h151 p152 => False.elim p152)
            obtain ⟨rfl, rfl⟩ := p152
            rw [show bI (decide (nI 1 = 0)) = nI 0 from by decide]
            show V 127 _ [(.int (nI 0))] _ _ _
            refine r_if_ne (tgt := 132) Mm dX6_key_127 (by decide) (fun c153 => absurd c153 (by decide)) (fun _ => ?_)
            refine r_iconst (v := nI 0) Mm dX6_key_130 (by decide) ?_
            refine r_iret M dX6_key_131 ?_
            exact pMd.thr rm0 "java/lang/IndexOutOfBoundsException" 1 (by simp only [o_key, oPu_no k1, oIn_ok k118, oIn_ok k123, oIn_ok k128, oIn_no k133]) (by decide +kernel)
        · refine r_callS (As := [(.int v), (.int (nI 0)), (.int (nI 999))]) Mm dX6_key_35 rfl (cm_isIn hfl h v (nI 0) (nI 999)) cw_X6_87 ⟨Nat.le_of_ble_eq_true rfl, Nat.le_of_ble_eq_true rfl, Nat.le_of_ble_eq_true rfl⟩ (Nat.le_of_ble_eq_true rfl) ⟨Nat.le_of_ble_eq_true rfl, Nat.le_of_ble_eq_true rfl⟩ (fun r154 h155 p156 => ?_) (fun Er154 h155 p156 => False.elim p156)
          obtain ⟨rfl, rfl⟩ := p156
          rw [decide_eq_false k128]
          show V 38 _ [(.int (nI 0))] _ _ _
          refine r_if_eq (tgt := 55) Mm dX6_key_38 (by decide) (fun _ => ?_) (fun c157 => absurd (by decide) c157)
          refine r_iconst (v := nI 0) Mm dX6_key_55 (by decide) ?_
          refine r_istore Mm dX6_key_56 (by decide) ?_
          show V 58 [some (.ref m), some (.int p), some (.int f), some (.int u), some (.int v), some (.int e), some (.int (nI 0)), some (.int (nI 0)), none, none, none] _ _ _ _
          refine r_iload Mm dX6_key_58 rfl ?_
          refine r_if_eq (tgt := 81) Mm dX6_key_60 (by decide) (fun _ => ?_) (fun c158 => absurd (by decide) c158)
          refine r_iconst (v := nI 0) Mm dX6_key_81 (by decide) ?_
          refine r_istore Mm dX6_key_82 (by decide) ?_
          show V 84 [some (.ref m), some (.int p), some (.int f), some (.int u), some (.int v), some (.int e), some (.int (nI 0)), some (.int (nI 0)), some (.int (nI 0)), none, none] _ _ _ _
          refine r_aload_n Mm dX6_key_84 rfl ?_
          refine r_iload Mm dX6_key_85 rfl ?_
          refine r_if_ne (tgt := 94) Mm dX6_key_87 (by decide) (fun c159 => absurd c159 (by decide)) (fun _ => ?_)
          refine r_iconst (v := nI 1) Mm dX6_key_90 (by decide) ?_
          refine r_goto (tgt := 124) Mm dX6_key_91 (by decide) ?_
          refine r_callV (As := [(.int (nI 1))]) Mm dX6_key_124 rfl (cm_isFine hfl h m ad hM (nI 1)) (hM.1) rfl cw_X6_94 ⟨Nat.le_of_ble_eq_true rfl, Nat.le_of_ble_eq_true rfl, Nat.le_of_ble_eq_true rfl⟩ (Nat.le_of_ble_eq_true rfl) ⟨Nat.le_of_ble_eq_true rfl, Nat.le_of_ble_eq_true rfl⟩ (fun r160 h161 p162 => ?_) (fun Er160 h161 p162 => False.elim p162)
          obtain ⟨rfl, rfl⟩ := p162
          rw [show bI (decide (nI 1 = 0)) = nI 0 from by decide]
          show V 127 _ [(.int (nI 0))] _ _ _
          refine r_if_ne (tgt := 132) Mm dX6_key_127 (by decide) (fun c163 => absurd c163 (by decide)) (fun _ => ?_)
          refine r_iconst (v := nI 0) Mm dX6_key_130 (by decide) ?_
          refine r_iret M dX6_key_131 ?_
          exact pMd.thr rm0 "java/lang/IndexOutOfBoundsException" 1 (by simp only [o_key, oPu_no k1, oIn_ok k118, oIn_ok k123, oIn_no k128]) (by decide +kernel)
      · refine r_callS (As := [(.int u), (.int (nI 0)), (.int (nI 999))]) Mm dX6_key_23 rfl (cm_isIn hfl h u (nI 0) (nI 999)) cw_X6_87 ⟨Nat.le_of_ble_eq_true rfl, Nat.le_of_ble_eq_true rfl, Nat.le_of_ble_eq_true rfl⟩ (Nat.le_of_ble_eq_true rfl) ⟨Nat.le_of_ble_eq_true rfl, Nat.le_of_ble_eq_true rfl⟩ (fun r164 h165 p166 => ?_) (fun Er164 h165 p166 => False.elim p166)
        obtain ⟨rfl, rfl⟩ := p166
        rw [decide_eq_false k123]
        show V 26 _ [(.int (nI 0))] _ _ _
        refine r_if_eq (tgt := 55) Mm dX6_key_26 (by decide) (fun _ => ?_) (fun c167 => absurd (by decide) c167)
        refine r_iconst (v := nI 0) Mm dX6_key_55 (by decide) ?_
        refine r_istore Mm dX6_key_56 (by decide) ?_
        show V 58 [some (.ref m), some (.int p), some (.int f), some (.int u), some (.int v), some (.int e), some (.int (nI 0)), some (.int (nI 0)), none, none, none] _ _ _ _
        refine r_iload Mm dX6_key_58 rfl ?_
        refine r_if_eq (tgt := 81) Mm dX6_key_60 (by decide) (fun _ => ?_) (fun c168 => absurd (by decide) c168)
        refine r_iconst (v := nI 0) Mm dX6_key_81 (by decide) ?_
        refine r_istore Mm dX6_key_82 (by decide) ?_
        show V 84 [some (.ref m), some (.int p), some (.int f), some (.int u), some (.int v), some (.int e), some (.int (nI 0)), some (.int (nI 0)), some (.int (nI 0)), none, none] _ _ _ _
        refine r_aload_n Mm dX6_key_84 rfl ?_
        refine r_iload Mm dX6_key_85 rfl ?_
        refine r_if_ne (tgt := 94) Mm dX6_key_87 (by decide) (fun c169 => absurd c169 (by decide)) (fun _ => ?_)
        refine r_iconst (v := nI 1) Mm dX6_key_90 (by decide) ?_
        refine r_goto (tgt := 124) Mm dX6_key_91 (by decide) ?_
        refine r_callV (As := [(.int (nI 1))]) Mm dX6_key_124 rfl (cm_isFine hfl h m ad hM (nI 1)) (hM.1) rfl cw_X6_94 ⟨Nat.le_of_ble_eq_true rfl, Nat.le_of_ble_eq_true rfl, Nat.le_of_ble_eq_true rfl⟩ (Nat.le_of_ble_eq_true rfl) ⟨Nat.le_of_ble_eq_true rfl, Nat.le_of_ble_eq_true rfl⟩ (fun r170 h171 p172 => ?_) (fun Er170 h171 p172 => False.elim p172)
        obtain ⟨rfl, rfl⟩ := p172
        rw [show bI (decide (nI 1 = 0)) = nI 0 from by decide]
        show V 127 _ [(.int (nI 0))] _ _ _
        refine r_if_ne (tgt := 132) Mm dX6_key_127 (by decide) (fun c173 => absurd c173 (by decide)) (fun _ => ?_)
        refine r_iconst (v := nI 0) Mm dX6_key_130 (by decide) ?_
        refine r_iret M dX6_key_131 ?_
        exact pMd.thr rm0 "java/lang/IndexOutOfBoundsException" 1 (by simp only [o_key, oPu_no k1, oIn_ok k118, oIn_no k123]) (by decide +kernel)
    · refine r_callS (As := [(.int f), (.int (nI 0)), (.int (nI 999))]) Mm dX6_key_12 rfl (cm_isIn hfl h f (nI 0) (nI 999)) cw_X6_87 ⟨Nat.le_of_ble_eq_true rfl, Nat.le_of_ble_eq_true rfl, Nat.le_of_ble_eq_true rfl⟩ (Nat.le_of_ble_eq_true rfl) ⟨Nat.le_of_ble_eq_true rfl, Nat.le_of_ble_eq_true rfl⟩ (fun r174 h175 p176 => ?_) (fun Er174 h175 p176 => False.elim p176)
      obtain ⟨rfl, rfl⟩ := p176
      rw [decide_eq_false k118]
      show V 15 _ [(.int (nI 0))] _ _ _
      refine r_if_eq (tgt := 55) Mm dX6_key_15 (by decide) (fun _ => ?_) (fun c177 => absurd (by decide) c177)
      refine r_iconst (v := nI 0) Mm dX6_key_55 (by decide) ?_
      refine r_istore Mm dX6_key_56 (by decide) ?_
      show V 58 [some (.ref m), some (.int p), some (.int f), some (.int u), some (.int v), some (.int e), some (.int (nI 0)), some (.int (nI 0)), none, none, none] _ _ _ _
      refine r_iload Mm dX6_key_58 rfl ?_
      refine r_if_eq (tgt := 81) Mm dX6_key_60 (by decide) (fun _ => ?_) (fun c178 => absurd (by decide) c178)
      refine r_iconst (v := nI 0) Mm dX6_key_81 (by decide) ?_
      refine r_istore Mm dX6_key_82 (by decide) ?_
      show V 84 [some (.ref m), some (.int p), some (.int f), some (.int u), some (.int v), some (.int e), some (.int (nI 0)), some (.int (nI 0)), some (.int (nI 0)), none, none] _ _ _ _
      refine r_aload_n Mm dX6_key_84 rfl ?_
      refine r_iload Mm dX6_key_85 rfl ?_
      refine r_if_ne (tgt := 94) Mm dX6_key_87 (by decide) (fun c179 => absurd c179 (by decide)) (fun _ => ?_)
      refine r_iconst (v := nI 1) Mm dX6_key_90 (by decide) ?_
      refine r_goto (tgt := 124) Mm dX6_key_91 (by decide) ?_
      refine r_callV (As := [(.int (nI 1))]) Mm dX6_key_124 rfl (cm_isFine hfl h m ad hM (nI 1)) (hM.1) rfl cw_X6_94 ⟨Nat.le_of_ble_eq_true rfl, Nat.le_of_ble_eq_true rfl, Nat.le_of_ble_eq_true rfl⟩ (Nat.le_of_ble_eq_true rfl) ⟨Nat.le_of_ble_eq_true rfl, Nat.le_of_ble_eq_true rfl⟩ (fun r180 h181 p182 => ?_) (fun Er180 h181 p182 => False.elim p182)
      obtain ⟨rfl, rfl⟩ := p182
      rw [show bI (decide (nI 1 = 0)) = nI 0 from by decide]
      show V 127 _ [(.int (nI 0))] _ _ _
      refine r_if_ne (tgt := 132) Mm dX6_key_127 (by decide) (fun c183 => absurd c183 (by decide)) (fun _ => ?_)
      refine r_iconst (v := nI 0) Mm dX6_key_130 (by decide) ?_
      refine r_iret M dX6_key_131 ?_
      exact pMd.thr rm0 "java/lang/IndexOutOfBoundsException" 1 (by simp only [o_key, oPu_no k1, oIn_no k118]) (by decide +kernel)
def o_cut (σ : ST) (p f : Int32) : OR := oPu σ p (fun i => if hasK (qKeys (eP σ i)) f = true then .inr (nI ((qKeys (eP σ i)).eraseIdx (ahead (qKeys (eP σ i)) f)).length, wP σ i ((eP σ i).1, (eP σ i).2.1, (qKeys (eP σ i)).eraseIdx (ahead (qKeys (eP σ i)) f), (eP σ i).2.2.2)) else .inl "java/util/NoSuchElementException")
set_option maxRecDepth 100000 in
set_option maxHeartbeats 4000000 in
theorem cm_cutKey {g : Gl} {l : Launch} (hfl : l.stackTraces = false) (h : Hp) (m : Nat) (ad : Nat → Nat) (σ : ST) (rm : RM h m ad σ) (hx : WX σ) (p f : Int32) : CT g l iX6_cutKey 3 [.ref m, .int p, .int f] h 0 0 (pMd m ad h σ ["java/lang/IndexOutOfBoundsException", "java/util/NoSuchElementException"] (o_cut σ p f)) := by
  have hx0 := hx
  obtain ⟨hw, hx1, hx2⟩ := hx
  have hw0 := hw
  obtain ⟨w1, w2, w3, w4, w5⟩ := hw
  have rm0 := rm
  obtain ⟨hM, ⟨g1, g2, g3⟩, rp, rs, rh, rt⟩ := rm
  refine ct_mk hfl (by decide) (Nat.le_of_ble_eq_true rfl) (by intro v hv; simp only [List.mem_cons, List.not_mem_nil, or_false] at hv; rcases hv with rfl | rfl | rfl <;> rfl) (fun V X M => ?_)
  have Mm := M.m
  show V 0 [some (.ref m), some (.int p), some (.int f), none, none] [] _ 0 0
  refine r_aload_n Mm dX6_cutKey_0 rfl ?_
  refine r_iload_n Mm dX6_cutKey_1 rfl ?_
  by_cases k1 : 0 ≤ p ∧ p < nI (eN σ)
  · refine r_callV (As := [(.int p)]) Mm dX6_cutKey_2 rfl (cm_isPuppet hfl h m (eN σ) p hM.1 (by omega) g1) (hM.1) rfl cw_X6_98 ⟨Nat.le_of_ble_eq_true rfl, Nat.le_of_ble_eq_true rfl, Nat.le_of_ble_eq_true rfl⟩ (Nat.le_of_ble_eq_true rfl) ⟨Nat.le_of_ble_eq_true rfl, Nat.le_of_ble_eq_true rfl⟩ (fun r2 h3 p4 => ?_) (fun Er2 h3 p4 => False.elim p4)
    obtain ⟨rfl, rfl⟩ := p4
    rw [decide_eq_true k1]
    obtain ⟨i, hi, rfl⟩ := in_ex k1 (by omega)
    have eci : (nI i).toNatClampNeg = i := nI_clamp (by omega)
    show V 5 _ [(.int (nI 1))] _ _ _
    refine r_istore_n Mm dX6_cutKey_5 (by decide) ?_
    show V 6 [some (.ref m), some (.int (nI i)), some (.int f), some (.int (nI 1)), none] _ _ _ _
    refine r_aload_n Mm dX6_cutKey_6 rfl ?_
    refine r_iload_n Mm dX6_cutKey_7 rfl ?_
    refine r_if_ne (tgt := 15) Mm dX6_cutKey_8 (by decide) (fun _ => ?_) (fun c5 => absurd c5 (by decide))
    refine r_aload_n Mm dX6_cutKey_15 rfl ?_
    refine r_iload_n Mm dX6_cutKey_16 rfl ?_
    refine r_iload_n Mm dX6_cutKey_17 rfl ?_
    have hk12 := (w3 i hi).2.2.2.1
    by_cases k6 : hasK (qKeys (eP σ i)) f = true
    · refine r_callV (As := [(.int (nI i)), (.int f)]) Mm dX6_cutKey_18 rfl (cm_hasKey hfl h m ad hM i (eP σ i) (by omega) (rp i (by omega)) (w3 i hi).2.2.2.1 f) (hM.1) rfl cw_X6_105 ⟨Nat.le_of_ble_eq_true rfl, Nat.le_of_ble_eq_true rfl, Nat.le_of_ble_eq_true rfl⟩ (Nat.le_of_ble_eq_true rfl) ⟨Nat.le_of_ble_eq_true rfl, Nat.le_of_ble_eq_true rfl⟩ (fun r7 h8 p9 => ?_) (fun Er7 h8 p9 => False.elim p9)
      obtain ⟨rfl, rfl⟩ := p9
      rw [k6]
      show V 21 _ [(.int (nI 1)), (.ref m)] _ _ _
      refine r_if_ne (tgt := 28) Mm dX6_cutKey_21 (by decide) (fun _ => ?_) (fun c10 => absurd c10 (by decide))
      refine r_iconst (v := nI 0) Mm dX6_cutKey_28 (by decide) ?_
      refine r_callV (As := [(.int (nI 0))]) Mm dX6_cutKey_29 rfl (cm_isFine hfl h m ad hM (nI 0)) (hM.1) rfl cw_X6_94 ⟨Nat.le_of_ble_eq_true rfl, Nat.le_of_ble_eq_true rfl, Nat.le_of_ble_eq_true rfl⟩ (Nat.le_of_ble_eq_true rfl) ⟨Nat.le_of_ble_eq_true rfl, Nat.le_of_ble_eq_true rfl⟩ (fun r11 h12 p13 => ?_) (fun Er11 h12 p13 => False.elim p13)
      obtain ⟨rfl, rfl⟩ := p13
      rw [show bI (decide (nI 0 = 0)) = nI 1 from by decide]
      obtain ⟨hz, fz, z0, rz, ez⟩ : ∃ z, Fr (MW m ad) h z ∧ xF z 600 m = nI 0 ∧ RM z m ad σ ∧ z = yF h 600 m (nI 0) := ⟨_, Fr.yF (Or.inl rfl), u2_s _ _ _ _, rm0.f0 _, rfl⟩
      rw [← ez]
      clear ez
      have rz0 := rz
      obtain ⟨hMz, ⟨gz1, gz2, gz3⟩, rpz, rsz, rhz, rtz⟩ := rz
      show V 32 _ [(.int (nI 1))] _ _ _
      refine r_if_ne (tgt := 37) Mm dX6_cutKey_32 (by decide) (fun _ => ?_) (fun c14 => absurd c14 (by decide))
      obtain ⟨a, ha⟩ : ∃ a, ahead (qKeys (eP σ i)) f = a := ⟨_, rfl⟩
      have hlt : a < (qKeys (eP σ i)).length := by
        rcases Nat.lt_or_ge a (qKeys (eP σ i)).length with q | q
        · exact q
        · have q2 := k6; rw [hasK, ha, List.getElem?_eq_none q] at q2; cases q2
      have hl3 := (rpz i (by omega)).2.2.1
      obtain ⟨n1, hn1⟩ : ∃ n, n = (qKeys (eP σ i)).length - 1 := ⟨_, rfl⟩
      refine r_aload_n Mm dX6_cutKey_37 rfl ?_
      refine r_getR Mm dX6_cutKey_38 fi_X6_16 (hMz.1) rfl (i := 603) rfl ((hMz.2.1 3 8 8 (by decide)).1) ?_
      refine r_iload_n Mm dX6_cutKey_41 rfl ?_
      refine r_dup2 Mm dX6_cutKey_42 rfl rfl ?_
      refine r_ialdN Mm dX6_cutKey_43 ((hMz.2.1 3 8 8 (by decide)).2) (by omega) (by omega) ?_
      refine r_top _ (nI ((qKeys (eP σ i)).length)) (hl3) ?_
      refine r_iconst (v := nI 1) Mm dX6_cutKey_44 (by decide) ?_
      refine r_isubN Mm dX6_cutKey_45 (by omega) ?_
      refine r_top _ (nI n1) (by rw [hn1]) ?_
      refine r_iastN Mm dX6_cutKey_46 ((hMz.2.1 3 8 8 (by decide)).2) (by omega) (by omega) ?_
      refine r_bipush (v := nI 12) Mm dX6_cutKey_47 (by decide) ?_
      refine r_iload_n Mm dX6_cutKey_49 rfl ?_
      refine r_imulN Mm dX6_cutKey_50 ?_
      refine r_aload_n Mm dX6_cutKey_51 rfl ?_
      refine r_iload_n Mm dX6_cutKey_52 rfl ?_
      refine r_iload_n Mm dX6_cutKey_53 rfl ?_
      have etl : ((qKeys (eP σ i)).take n1).length = n1 := by rw [List.length_take]; omega
      have hMT : MS (yA hz (ad 3) i (nI n1)) m ad := hMz.eq rfl rfl
      have hpT : MPup (yA hz (ad 3) i (nI n1)) ad i ((eP σ i).1, (eP σ i).2.1, (qKeys (eP σ i)).take n1, (eP σ i).2.2.2) := by
        obtain ⟨p1, p2, p3, p4, p5, p6, p7, p8⟩ := rpz i (by omega)
        refine ⟨by rw [yA_o (hMz.ne (by decide : (1, 8, 8) ∈ mSl) (by decide : (3, 8, 8) ∈ mSl) (by decide))]; exact p1, by rw [yA_o (hMz.ne (by decide : (2, 8, 8) ∈ mSl) (by decide : (3, 8, 8) ∈ mSl) (by decide))]; exact p2, by rw [yA_s]; exact congrArg nI etl.symm, by rw [yA_o (hMz.ne (by decide : (4, 8, 8) ∈ mSl) (by decide : (3, 8, 8) ∈ mSl) (by decide))]; exact p4, by rw [yA_o (hMz.ne (by decide : (5, 8, 8) ∈ mSl) (by decide : (3, 8, 8) ∈ mSl) (by decide))]; exact p5, fun k kk hk => ?_, by rw [yA_o (hMz.ne (by decide : (13, 8, 8) ∈ mSl) (by decide : (3, 8, 8) ∈ mSl) (by decide))]; exact p7, fun k ww hk => ⟨by rw [yA_o (hMz.ne (by decide : (11, 8, 80) ∈ mSl) (by decide : (3, 8, 8) ∈ mSl) (by decide))]; exact (p8 k ww hk).1, by rw [yA_o (hMz.ne (by decide : (12, 8, 80) ∈ mSl) (by decide : (3, 8, 8) ∈ mSl) (by decide))]; exact (p8 k ww hk).2⟩⟩
        have hk0 : (qKeys (eP σ i))[k]? = some kk := by
          have hk2 : ((qKeys (eP σ i)).take n1)[k]? = some kk := hk
          rw [List.getElem?_take] at hk2
          by_cases q : k < n1
          · rw [if_pos q] at hk2; exact hk2
          · rw [if_neg q] at hk2; cases hk2
        exact ⟨by rw [yA_o (hMz.ne (by decide : (7, 8, 96) ∈ mSl) (by decide : (3, 8, 8) ∈ mSl) (by decide))]; exact (p6 k kk hk0).1, by rw [yA_o (hMz.ne (by decide : (8, 8, 96) ∈ mSl) (by decide : (3, 8, 8) ∈ mSl) (by decide))]; exact (p6 k kk hk0).2.1, by rw [yA_o (hMz.ne (by decide : (9, 8, 96) ∈ mSl) (by decide : (3, 8, 8) ∈ mSl) (by decide))]; exact (p6 k kk hk0).2.2.1, by rw [yA_o (hMz.ne (by decide : (10, 8, 96) ∈ mSl) (by decide : (3, 8, 8) ∈ mSl) (by decide))]; exact (p6 k kk hk0).2.2.2⟩
      have haT : ahead (qKeys ((eP σ i).1, (eP σ i).2.1, (qKeys (eP σ i)).take n1, (eP σ i).2.2.2)) f = a := by
        obtain ⟨y1, y2⟩ := ahead_spec (qKeys (eP σ i)) f
        rw [ha] at y1 y2
        show ahead ((qKeys (eP σ i)).take n1) f = a
        refine ahead_eq (by omega) (fun k kk hk hkk => ?_) (fun kk hkk => ?_)
        · rw [List.getElem?_take, if_pos (by omega)] at hkk; exact y1 k kk hk hkk
        · rw [List.getElem?_take] at hkk
          by_cases q : a < n1
          · rw [if_pos q] at hkk; exact y2 kk hkk
          · rw [if_neg q] at hkk; cases hkk
      refine r_callV (As := [(.int (nI i)), (.int f)]) Mm dX6_cutKey_54 rfl (cm_placeOf hfl (yA hz (ad 3) i (nI n1)) m ad hMT i ((eP σ i).1, (eP σ i).2.1, (qKeys (eP σ i)).take n1, (eP σ i).2.2.2) (by omega) hpT (by show ((qKeys (eP σ i)).take n1).length ≤ 12; omega) f) (hMz.1) rfl cw_X6_101 ⟨Nat.le_of_ble_eq_true rfl, Nat.le_of_ble_eq_true rfl, Nat.le_of_ble_eq_true rfl⟩ (Nat.le_of_ble_eq_true rfl) ⟨Nat.le_of_ble_eq_true rfl, Nat.le_of_ble_eq_true rfl⟩ (fun r15 h16 p17 => ?_) (fun Er15 h16 p17 => False.elim p17)
      obtain ⟨rfl, rfl⟩ := p17
      rw [haT]
      show V 57 _ [(.int (nI a)), (.int (nI (12 * i)))] _ _ _
      refine r_iaddN Mm dX6_cutKey_57 ?_
      refine r_istore Mm dX6_cutKey_58 (by decide) ?_
      show V 60 [some (.ref m), some (.int (nI i)), some (.int f), some (.int (nI 1)), some (.int (nI ((12 * i) + a)))] _ _ _ _
      have loop : ∀ (uu : Nat) (h1 : Hp) (z : Nat), 12 * i + n1 - z < uu → (12 * i + a ≤ z) → (z ≤ 12 * i + n1) → (RF ad (yA hz (ad 3) i (nI n1)) h1) → (drawR (yA hz (ad 3) i (nI n1)) h1 ad (12 * i + a) z) → V 60 [some (.ref m), some (.int (nI i)), some (.int f), some (.int (nI 1)), some (.int (nI z))] [] h1 0 0 := by
        intro uu
        induction uu with
        | zero => intro h1 z hm; exact absurd hm (Nat.not_lt_zero _)
        | succ uu ih =>
          intro h1 z hm hz1 hz2 rf1 hdn
          have hM1 := rf1.ms hMT
          have hl4 : xA h1 (ad 3) i = nI n1 := by rw [rf1.2.2.2.2.2 _ (hMz.ne (by decide : (3, 8, 8) ∈ mSl) (by decide : (7, 8, 96) ∈ mSl) (by decide)) (hMz.ne (by decide : (3, 8, 8) ∈ mSl) (by decide : (8, 8, 96) ∈ mSl) (by decide)) (hMz.ne (by decide : (3, 8, 8) ∈ mSl) (by decide : (9, 8, 96) ∈ mSl) (by decide)) (hMz.ne (by decide : (3, 8, 8) ∈ mSl) (by decide : (10, 8, 96) ∈ mSl) (by decide)), yA_s]
          refine r_iload Mm dX6_cutKey_60 rfl ?_
          refine r_bipush (v := nI 12) Mm dX6_cutKey_62 (by decide) ?_
          refine r_iload_n Mm dX6_cutKey_64 rfl ?_
          refine r_imulN Mm dX6_cutKey_65 ?_
          refine r_aload_n Mm dX6_cutKey_66 rfl ?_
          refine r_getR Mm dX6_cutKey_67 fi_X6_16 (hM1.1) rfl (i := 603) rfl ((hM1.2.1 3 8 8 (by decide)).1) ?_
          refine r_iload_n Mm dX6_cutKey_70 rfl ?_
          refine r_ialdN Mm dX6_cutKey_71 ((hM1.2.1 3 8 8 (by decide)).2) (by omega) (by omega) ?_
          refine r_top _ (nI n1) (hl4) ?_
          refine r_iaddN Mm dX6_cutKey_72 ?_
          refine r_icmp_geN (tgt := 92) Mm dX6_cutKey_73 (by decide) (by omega) (by omega) (fun c18 => ?_) (fun c18 => ?_)
          · refine r_aload_n Mm dX6_cutKey_92 rfl ?_
            refine r_getR Mm dX6_cutKey_93 fi_X6_16 (hM1.1) rfl (i := 603) rfl ((hM1.2.1 3 8 8 (by decide)).1) ?_
            refine r_iload_n Mm dX6_cutKey_96 rfl ?_
            refine r_ialdN Mm dX6_cutKey_97 ((hM1.2.1 3 8 8 (by decide)).2) (by omega) (by omega) ?_
            refine r_top _ (nI n1) (hl4) ?_
            refine r_iret M dX6_cutKey_98 ?_
            have hze : z = 12 * i + n1 := by omega
            subst hze
            have elen : ((qKeys (eP σ i)).eraseIdx a).length = n1 := by rw [List.length_eraseIdx_of_lt hlt]; omega
            have hrw : ∀ w, rw4 (yA hz (ad 3) i (nI n1)) ad w = rw4 hz ad w := fun w => by rw [rw4, rw4, yA_o (hMz.ne (by decide : (7, 8, 96) ∈ mSl) (by decide : (3, 8, 8) ∈ mSl) (by decide)), yA_o (hMz.ne (by decide : (8, 8, 96) ∈ mSl) (by decide : (3, 8, 8) ∈ mSl) (by decide)), yA_o (hMz.ne (by decide : (9, 8, 96) ∈ mSl) (by decide : (3, 8, 8) ∈ mSl) (by decide)), yA_o (hMz.ne (by decide : (10, 8, 96) ∈ mSl) (by decide : (3, 8, 8) ∈ mSl) (by decide))]
            have r9 : RM h1 m ad (wP σ i ((eP σ i).1, (eP σ i).2.1, ((qKeys (eP σ i)).eraseIdx a), (eP σ i).2.2.2)) := by
              refine RM.keysIs (by omega) ((qKeys (eP σ i)).eraseIdx a) hx0.len rz0 rf1.1 rf1.2.1 rf1.2.2.1 (fun b n3 n7 n8 n9 n10 => ?_) ?_ (fun q hq => ?_) (fun w hw => ?_) (fun k kk hk => ?_)
              · rw [rf1.2.2.2.2.2 b n7 n8 n9 n10, yA_o n3]
              · rw [hl4, elen]
              · rw [rf1.2.2.2.2.2 _ (hMz.ne (by decide : (3, 8, 8) ∈ mSl) (by decide : (7, 8, 96) ∈ mSl) (by decide)) (hMz.ne (by decide : (3, 8, 8) ∈ mSl) (by decide : (8, 8, 96) ∈ mSl) (by decide)) (hMz.ne (by decide : (3, 8, 8) ∈ mSl) (by decide : (9, 8, 96) ∈ mSl) (by decide)) (hMz.ne (by decide : (3, 8, 8) ∈ mSl) (by decide : (10, 8, 96) ∈ mSl) (by decide)), yA_j hq]
              · rw [hdn w, if_neg (by omega), hrw]
              · rw [hdn]
                have hk1 := (List.getElem?_eq_some_iff.mp hk).1
                rw [List.getElem?_eraseIdx] at hk
                by_cases q1 : k < a
                · rw [if_pos q1] at hk
                  rw [if_neg (by omega), hrw]
                  exact rw4_of ((rpz i (by omega)).2.2.2.2.2.1 k kk hk)
                · rw [if_neg q1] at hk
                  rw [if_pos (by omega), hrw, show 12 * i + k + 1 = 12 * i + (k + 1) by omega]
                  exact rw4_of ((rpz i (by omega)).2.2.2.2.2.1 (k + 1) kk hk)
            exact pMd.ret fz z0 (by simp only [o_cut, oPu_ok k1 eci, if_pos k6, ha, elen]) ((Fr.yA (MW.at 3 8 8 (by decide))).tr rf1.fr) (by rw [rf1.2.2.1, zxF_yA]) r9
          · refine r_aload_n Mm dX6_cutKey_76 rfl ?_
            refine r_iload Mm dX6_cutKey_77 rfl ?_
            refine r_iconst (v := nI 1) Mm dX6_cutKey_79 (by decide) ?_
            refine r_iaddN Mm dX6_cutKey_80 ?_
            refine r_iload Mm dX6_cutKey_81 rfl ?_
            refine r_callV (As := [(.int (nI (z + 1))), (.int (nI z))]) Mm dX6_cutKey_83 rfl (cm_copies hfl h1 m ad hM1 (z + 1) z (by omega) (by omega)) (hM1.1) rfl cw_X6_109 ⟨Nat.le_of_ble_eq_true rfl, Nat.le_of_ble_eq_true rfl, Nat.le_of_ble_eq_true rfl⟩ (Nat.le_of_ble_eq_true rfl) ⟨Nat.le_of_ble_eq_true rfl, Nat.le_of_ble_eq_true rfl⟩ (fun r19 h20 p21 => ?_) (fun Er19 h20 p21 => False.elim p21)
            obtain ⟨rfl, rfl⟩ := p21
            show V 86 _ [] _ _ _
            refine r_iincN (k := 1) Mm dX6_cutKey_86 rfl (by decide) (by decide) ?_
            show V 89 [some (.ref m), some (.int (nI i)), some (.int f), some (.int (nI 1)), some (.int (nI (z + 1)))] _ _ _ _
            refine r_goto (tgt := 60) Mm dX6_cutKey_89 (by decide) ?_
            exact ih _ (z + 1) (by omega) (by omega) (by omega) (rf1.tr (RF.cp _ _)) (drawR.step hM1 (by omega) hdn)
      exact loop (12 * i + n1 + 1) _ _ (by omega) (Nat.le_refl _) (by omega) RF.rf drawR.rf
    · refine r_callV (As := [(.int (nI i)), (.int f)]) Mm dX6_cutKey_18 rfl (cm_hasKey hfl h m ad hM i (eP σ i) (by omega) (rp i (by omega)) (w3 i hi).2.2.2.1 f) (hM.1) rfl cw_X6_105 ⟨Nat.le_of_ble_eq_true rfl, Nat.le_of_ble_eq_true rfl, Nat.le_of_ble_eq_true rfl⟩ (Nat.le_of_ble_eq_true rfl) ⟨Nat.le_of_ble_eq_true rfl, Nat.le_of_ble_eq_true rfl⟩ (fun r22 h23 p24 => ?_) (fun Er22 h23 p24 => False.elim p24)
      obtain ⟨rfl, rfl⟩ := p24
      rw [Bool.eq_false_iff.mpr k6]
      show V 21 _ [(.int (nI 0)), (.ref m)] _ _ _
      refine r_if_ne (tgt := 28) Mm dX6_cutKey_21 (by decide) (fun c25 => absurd c25 (by decide)) (fun _ => ?_)
      refine r_iconst (v := nI 2) Mm dX6_cutKey_24 (by decide) ?_
      refine r_goto (tgt := 29) Mm dX6_cutKey_25 (by decide) ?_
      refine r_callV (As := [(.int (nI 2))]) Mm dX6_cutKey_29 rfl (cm_isFine hfl h m ad hM (nI 2)) (hM.1) rfl cw_X6_94 ⟨Nat.le_of_ble_eq_true rfl, Nat.le_of_ble_eq_true rfl, Nat.le_of_ble_eq_true rfl⟩ (Nat.le_of_ble_eq_true rfl) ⟨Nat.le_of_ble_eq_true rfl, Nat.le_of_ble_eq_true rfl⟩ (fun r26 h27 p28 => ?_) (fun Er26 h27 p28 => False.elim p28)
      obtain ⟨rfl, rfl⟩ := p28
      rw [show bI (decide (nI 2 = 0)) = nI 0 from by decide]
      show V 32 _ [(.int (nI 0))] _ _ _
      refine r_if_ne (tgt := 37) Mm dX6_cutKey_32 (by decide) (fun c29 => absurd c29 (by decide)) (fun _ => ?_)
      refine r_iconst (v := nI 0) Mm dX6_cutKey_35 (by decide) ?_
      refine r_iret M dX6_cutKey_36 ?_
      exact pMd.thr rm0 "java/util/NoSuchElementException" 2 (by simp only [o_cut, oPu_ok k1 eci, if_neg k6]) (by decide +kernel)
  · refine r_callV (As := [(.int p)]) Mm dX6_cutKey_2 rfl (cm_isPuppet hfl h m (eN σ) p hM.1 (by omega) g1) (hM.1) rfl cw_X6_98 ⟨Nat.le_of_ble_eq_true rfl, Nat.le_of_ble_eq_true rfl, Nat.le_of_ble_eq_true rfl⟩ (Nat.le_of_ble_eq_true rfl) ⟨Nat.le_of_ble_eq_true rfl, Nat.le_of_ble_eq_true rfl⟩ (fun r30 h31 p32 => ?_) (fun Er30 h31 p32 => False.elim p32)
    obtain ⟨rfl, rfl⟩ := p32
    rw [decide_eq_false k1]
    show V 5 _ [(.int (nI 0))] _ _ _
    refine r_istore_n Mm dX6_cutKey_5 (by decide) ?_
    show V 6 [some (.ref m), some (.int p), some (.int f), some (.int (nI 0)), none] _ _ _ _
    refine r_aload_n Mm dX6_cutKey_6 rfl ?_
    refine r_iload_n Mm dX6_cutKey_7 rfl ?_
    refine r_if_ne (tgt := 15) Mm dX6_cutKey_8 (by decide) (fun c33 => absurd c33 (by decide)) (fun _ => ?_)
    refine r_iconst (v := nI 1) Mm dX6_cutKey_11 (by decide) ?_
    refine r_goto (tgt := 29) Mm dX6_cutKey_12 (by decide) ?_
    refine r_callV (As := [(.int (nI 1))]) Mm dX6_cutKey_29 rfl (cm_isFine hfl h m ad hM (nI 1)) (hM.1) rfl cw_X6_94 ⟨Nat.le_of_ble_eq_true rfl, Nat.le_of_ble_eq_true rfl, Nat.le_of_ble_eq_true rfl⟩ (Nat.le_of_ble_eq_true rfl) ⟨Nat.le_of_ble_eq_true rfl, Nat.le_of_ble_eq_true rfl⟩ (fun r34 h35 p36 => ?_) (fun Er34 h35 p36 => False.elim p36)
    obtain ⟨rfl, rfl⟩ := p36
    rw [show bI (decide (nI 1 = 0)) = nI 0 from by decide]
    show V 32 _ [(.int (nI 0))] _ _ _
    refine r_if_ne (tgt := 37) Mm dX6_cutKey_32 (by decide) (fun c37 => absurd c37 (by decide)) (fun _ => ?_)
    refine r_iconst (v := nI 0) Mm dX6_cutKey_35 (by decide) ?_
    refine r_iret M dX6_cutKey_36 ?_
    exact pMd.thr rm0 "java/lang/IndexOutOfBoundsException" 1 (by simp only [o_cut, oPu_no k1]) (by decide +kernel)
