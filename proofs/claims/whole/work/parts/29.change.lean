/-! ===== the model's calls that change ===== -/
theorem hear_ok {f : Int32} (k : -1 ≤ f ∧ f ≤ nI 999) (o : OR) : (if f = -1 then o else oIn f (nI 0) (nI 999) o) = o := by
  by_cases e : f = -1
  · exact if_pos e
  · rw [if_neg e]
    refine oIn_ok ⟨?_, k.2⟩ o
    have h1 := k.1
    rw [Int32.le_iff_toInt_le] at h1 ⊢
    have e1 : ((-1 : Int32)).toInt = -1 := rfl
    have e0 : (nI 0).toInt = 0 := rfl
    rw [e1] at h1
    rw [e0]
    by_cases c : f.toInt < 0
    · exact absurd (Int32.toInt_inj.mp (show f.toInt = (-1 : Int32).toInt by rw [e1]; omega)) e
    · omega
theorem hear_no {f : Int32} (k : ¬ (-1 ≤ f ∧ f ≤ nI 999)) (o : OR) : (if f = -1 then o else oIn f (nI 0) (nI 999) o) = .inl "java/lang/IllegalArgumentException" := by
  rw [if_neg (fun e => k (by rw [e]; decide))]
  refine oIn_no (fun z => k ⟨?_, z.2⟩) o
  exact Int32.le_trans (by decide) z.1
theorem perf_len {σ : ST} {j n : Nat} (hlen : ∀ q, (qKeys (eP σ q)).length ≤ 12 ∧ (qMend (eP σ q)).length ≤ 10) (q : Nat) : (qKeys (eP (perfS σ j n) q)).length ≤ 12 ∧ (qMend (eP (perfS σ j n) q)).length ≤ 10 := by
  by_cases c : q < n ∧ tCast (eS σ j) q = true
  · rw [show eP (perfS σ j n) q = wearP (eP σ q) from if_pos c]; exact hlen q
  · rw [show eP (perfS σ j n) q = eP σ q from if_neg c]; exact hlen q
theorem RM.worn2 {m : Nat} {ad : Nat → Nat} {h : Hp} {σ : ST} {i : Nat} (hi : i < 8) (v : Int32) (n : Nat) (hlen : ∀ q, (qKeys (eP σ q)).length ≤ 12 ∧ (qMend (eP σ q)).length ≤ 10) (r : RM h m ad σ) : RM (yA (yA h (ad 5) i v) (ad 5) i (nI n)) m ad (wP σ i ((eP σ i).1, (eP σ i).2.1, (eP σ i).2.2.1, (eP σ i).2.2.2.1, n, (eP σ i).2.2.2.2.2)) := by
  obtain ⟨hM, ⟨g1, g2, g3⟩, rp, rs, rh, rt⟩ := r
  refine ⟨hM.eq rfl rfl, ⟨g1, g2, g3⟩, fun q hq => ?_, fun q hq => ?_, fun q hq => ?_, fun q hq => by rw [yA_o (hM.ne (by decide : (23, 8, 32) ∈ mSl) (by decide : (5, 8, 8) ∈ mSl) (by decide)), yA_o (hM.ne (by decide : (23, 8, 32) ∈ mSl) (by decide : (5, 8, 8) ∈ mSl) (by decide))]; exact rt q hq⟩
  · have hml : ∀ (k : Nat), k < (qMend (eP σ q)).length → k < 10 := fun k hk => by have := (hlen q).2; omega
    have hkl : ∀ (k : Nat), k < (qKeys (eP σ q)).length → k < 12 := fun k hk => by have := (hlen q).1; omega
    show MPup (yA (yA h (ad 5) i v) (ad 5) i (nI n)) ad q (upt (eP σ) i ((eP σ i).1, (eP σ i).2.1, (eP σ i).2.2.1, (eP σ i).2.2.2.1, n, (eP σ i).2.2.2.2.2) q)
    by_cases e : q = i
    · rw [e, upt_s]
      obtain ⟨p1, p2, p3, p4, p5, p6, p7, p8⟩ := rp i (by omega)
      refine ⟨by rw [yA_o (hM.ne (by decide : (1, 8, 8) ∈ mSl) (by decide : (5, 8, 8) ∈ mSl) (by decide)), yA_o (hM.ne (by decide : (1, 8, 8) ∈ mSl) (by decide : (5, 8, 8) ∈ mSl) (by decide))]; exact p1, by rw [yA_o (hM.ne (by decide : (2, 8, 8) ∈ mSl) (by decide : (5, 8, 8) ∈ mSl) (by decide)), yA_o (hM.ne (by decide : (2, 8, 8) ∈ mSl) (by decide : (5, 8, 8) ∈ mSl) (by decide))]; exact p2, by rw [yA_o (hM.ne (by decide : (3, 8, 8) ∈ mSl) (by decide : (5, 8, 8) ∈ mSl) (by decide)), yA_o (hM.ne (by decide : (3, 8, 8) ∈ mSl) (by decide : (5, 8, 8) ∈ mSl) (by decide))]; exact p3, by rw [yA_o (hM.ne (by decide : (4, 8, 8) ∈ mSl) (by decide : (5, 8, 8) ∈ mSl) (by decide)), yA_o (hM.ne (by decide : (4, 8, 8) ∈ mSl) (by decide : (5, 8, 8) ∈ mSl) (by decide))]; exact p4, by rw [yA_s], fun k kk hk => ⟨by rw [yA_o (hM.ne (by decide : (7, 8, 96) ∈ mSl) (by decide : (5, 8, 8) ∈ mSl) (by decide)), yA_o (hM.ne (by decide : (7, 8, 96) ∈ mSl) (by decide : (5, 8, 8) ∈ mSl) (by decide))]; exact (p6 k kk hk).1, by rw [yA_o (hM.ne (by decide : (8, 8, 96) ∈ mSl) (by decide : (5, 8, 8) ∈ mSl) (by decide)), yA_o (hM.ne (by decide : (8, 8, 96) ∈ mSl) (by decide : (5, 8, 8) ∈ mSl) (by decide))]; exact (p6 k kk hk).2.1, by rw [yA_o (hM.ne (by decide : (9, 8, 96) ∈ mSl) (by decide : (5, 8, 8) ∈ mSl) (by decide)), yA_o (hM.ne (by decide : (9, 8, 96) ∈ mSl) (by decide : (5, 8, 8) ∈ mSl) (by decide))]; exact (p6 k kk hk).2.2.1, by rw [yA_o (hM.ne (by decide : (10, 8, 96) ∈ mSl) (by decide : (5, 8, 8) ∈ mSl) (by decide)), yA_o (hM.ne (by decide : (10, 8, 96) ∈ mSl) (by decide : (5, 8, 8) ∈ mSl) (by decide))]; exact (p6 k kk hk).2.2.2⟩, by rw [yA_o (hM.ne (by decide : (13, 8, 8) ∈ mSl) (by decide : (5, 8, 8) ∈ mSl) (by decide)), yA_o (hM.ne (by decide : (13, 8, 8) ∈ mSl) (by decide : (5, 8, 8) ∈ mSl) (by decide))]; exact p7, fun k ww hk => ⟨by rw [yA_o (hM.ne (by decide : (11, 8, 80) ∈ mSl) (by decide : (5, 8, 8) ∈ mSl) (by decide)), yA_o (hM.ne (by decide : (11, 8, 80) ∈ mSl) (by decide : (5, 8, 8) ∈ mSl) (by decide))]; exact (p8 k ww hk).1, by rw [yA_o (hM.ne (by decide : (12, 8, 80) ∈ mSl) (by decide : (5, 8, 8) ∈ mSl) (by decide)), yA_o (hM.ne (by decide : (12, 8, 80) ∈ mSl) (by decide : (5, 8, 8) ∈ mSl) (by decide))]; exact (p8 k ww hk).2⟩⟩
    · rw [upt_n _ _ e]
      obtain ⟨p1, p2, p3, p4, p5, p6, p7, p8⟩ := rp q hq
      exact ⟨by rw [yA_o (hM.ne (by decide : (1, 8, 8) ∈ mSl) (by decide : (5, 8, 8) ∈ mSl) (by decide)), yA_o (hM.ne (by decide : (1, 8, 8) ∈ mSl) (by decide : (5, 8, 8) ∈ mSl) (by decide))]; exact p1, by rw [yA_o (hM.ne (by decide : (2, 8, 8) ∈ mSl) (by decide : (5, 8, 8) ∈ mSl) (by decide)), yA_o (hM.ne (by decide : (2, 8, 8) ∈ mSl) (by decide : (5, 8, 8) ∈ mSl) (by decide))]; exact p2, by rw [yA_o (hM.ne (by decide : (3, 8, 8) ∈ mSl) (by decide : (5, 8, 8) ∈ mSl) (by decide)), yA_o (hM.ne (by decide : (3, 8, 8) ∈ mSl) (by decide : (5, 8, 8) ∈ mSl) (by decide))]; exact p3, by rw [yA_o (hM.ne (by decide : (4, 8, 8) ∈ mSl) (by decide : (5, 8, 8) ∈ mSl) (by decide)), yA_o (hM.ne (by decide : (4, 8, 8) ∈ mSl) (by decide : (5, 8, 8) ∈ mSl) (by decide))]; exact p4, by rw [yA_j e, yA_j e]; exact p5, fun k kk hk => ⟨by rw [yA_o (hM.ne (by decide : (7, 8, 96) ∈ mSl) (by decide : (5, 8, 8) ∈ mSl) (by decide)), yA_o (hM.ne (by decide : (7, 8, 96) ∈ mSl) (by decide : (5, 8, 8) ∈ mSl) (by decide))]; exact (p6 k kk hk).1, by rw [yA_o (hM.ne (by decide : (8, 8, 96) ∈ mSl) (by decide : (5, 8, 8) ∈ mSl) (by decide)), yA_o (hM.ne (by decide : (8, 8, 96) ∈ mSl) (by decide : (5, 8, 8) ∈ mSl) (by decide))]; exact (p6 k kk hk).2.1, by rw [yA_o (hM.ne (by decide : (9, 8, 96) ∈ mSl) (by decide : (5, 8, 8) ∈ mSl) (by decide)), yA_o (hM.ne (by decide : (9, 8, 96) ∈ mSl) (by decide : (5, 8, 8) ∈ mSl) (by decide))]; exact (p6 k kk hk).2.2.1, by rw [yA_o (hM.ne (by decide : (10, 8, 96) ∈ mSl) (by decide : (5, 8, 8) ∈ mSl) (by decide)), yA_o (hM.ne (by decide : (10, 8, 96) ∈ mSl) (by decide : (5, 8, 8) ∈ mSl) (by decide))]; exact (p6 k kk hk).2.2.2⟩, by rw [yA_o (hM.ne (by decide : (13, 8, 8) ∈ mSl) (by decide : (5, 8, 8) ∈ mSl) (by decide)), yA_o (hM.ne (by decide : (13, 8, 8) ∈ mSl) (by decide : (5, 8, 8) ∈ mSl) (by decide))]; exact p7, fun k ww hk => ⟨by rw [yA_o (hM.ne (by decide : (11, 8, 80) ∈ mSl) (by decide : (5, 8, 8) ∈ mSl) (by decide)), yA_o (hM.ne (by decide : (11, 8, 80) ∈ mSl) (by decide : (5, 8, 8) ∈ mSl) (by decide))]; exact (p8 k ww hk).1, by rw [yA_o (hM.ne (by decide : (12, 8, 80) ∈ mSl) (by decide : (5, 8, 8) ∈ mSl) (by decide)), yA_o (hM.ne (by decide : (12, 8, 80) ∈ mSl) (by decide : (5, 8, 8) ∈ mSl) (by decide))]; exact (p8 k ww hk).2⟩⟩
  · obtain ⟨s1, s2, s3, s4, s5, s6⟩ := rs q hq
    exact ⟨by rw [yA_o (hM.ne (by decide : (15, 8, 6) ∈ mSl) (by decide : (5, 8, 8) ∈ mSl) (by decide)), yA_o (hM.ne (by decide : (15, 8, 6) ∈ mSl) (by decide : (5, 8, 8) ∈ mSl) (by decide))]; exact s1, by rw [yA_o (hM.ne (by decide : (16, 8, 6) ∈ mSl) (by decide : (5, 8, 8) ∈ mSl) (by decide)), yA_o (hM.ne (by decide : (16, 8, 6) ∈ mSl) (by decide : (5, 8, 8) ∈ mSl) (by decide))]; exact s2, by rw [yA_o (hM.ne (by decide : (17, 9, 6) ∈ mSl) (by decide : (5, 8, 8) ∈ mSl) (by decide)), yA_o (hM.ne (by decide : (17, 9, 6) ∈ mSl) (by decide : (5, 8, 8) ∈ mSl) (by decide))]; exact s3, by rw [yA_o (hM.ne (by decide : (18, 8, 6) ∈ mSl) (by decide : (5, 8, 8) ∈ mSl) (by decide)), yA_o (hM.ne (by decide : (18, 8, 6) ∈ mSl) (by decide : (5, 8, 8) ∈ mSl) (by decide))]; exact s4, by rw [yA_o (hM.ne (by decide : (19, 8, 6) ∈ mSl) (by decide : (5, 8, 8) ∈ mSl) (by decide)), yA_o (hM.ne (by decide : (19, 8, 6) ∈ mSl) (by decide : (5, 8, 8) ∈ mSl) (by decide))]; exact s5, fun y hy => by rw [yA_o (hM.ne (by decide : (20, 9, 48) ∈ mSl) (by decide : (5, 8, 8) ∈ mSl) (by decide)), yA_o (hM.ne (by decide : (20, 9, 48) ∈ mSl) (by decide : (5, 8, 8) ∈ mSl) (by decide))]; exact s6 y hy⟩
  · rw [yA_o (hM.ne (by decide : (14, 8, 10) ∈ mSl) (by decide : (5, 8, 8) ∈ mSl) (by decide)), yA_o (hM.ne (by decide : (14, 8, 10) ∈ mSl) (by decide : (5, 8, 8) ∈ mSl) (by decide))]; exact rh q hq
set_option maxRecDepth 100000 in
set_option maxHeartbeats 4000000 in
theorem cm_setLength {g : Gl} {l : Launch} (hfl : l.stackTraces = false) (h : Hp) (m : Nat) (ad : Nat → Nat) (σ : ST) (rm : RM h m ad σ) (hx : WX σ) (p n : Int32) : CT g l iX6_setLength 3 [.ref m, .int p, .int n] h 0 0 (pMd m ad h σ ["java/lang/IndexOutOfBoundsException", "java/lang/IllegalArgumentException"] (o_setLength σ p n)) := by
  have hx0 := hx
  obtain ⟨hw, hx1, hx2⟩ := hx
  have hw0 := hw
  obtain ⟨w1, w2, w3, w4, w5⟩ := hw
  have rm0 := rm
  obtain ⟨hM, ⟨g1, g2, g3⟩, rp, rs, rh, rt⟩ := rm
  refine ct_mk hfl (by decide) (Nat.le_of_ble_eq_true rfl) (by intro v hv; simp only [List.mem_cons, List.not_mem_nil, or_false] at hv; rcases hv with rfl | rfl | rfl <;> rfl) (fun V X M => ?_)
  have Mm := M.m
  show V 0 [some (.ref m), some (.int p), some (.int n), none] [] _ 0 0
  refine r_aload_n Mm dX6_setLength_0 rfl ?_
  refine r_aload_n Mm dX6_setLength_1 rfl ?_
  refine r_iload_n Mm dX6_setLength_2 rfl ?_
  by_cases k1 : 0 ≤ p ∧ p < nI (eN σ)
  · refine r_callV (As := [(.int p)]) Mm dX6_setLength_3 rfl (cm_isPuppet hfl h m (eN σ) p hM.1 (by omega) g1) (hM.1) rfl cw_X6_98 ⟨Nat.le_of_ble_eq_true rfl, Nat.le_of_ble_eq_true rfl, Nat.le_of_ble_eq_true rfl⟩ (Nat.le_of_ble_eq_true rfl) ⟨Nat.le_of_ble_eq_true rfl, Nat.le_of_ble_eq_true rfl⟩ (fun r2 h3 p4 => ?_) (fun Er2 h3 p4 => False.elim p4)
    obtain ⟨rfl, rfl⟩ := p4
    rw [decide_eq_true k1]
    obtain ⟨i, hi, rfl⟩ := in_ex k1 (by omega)
    have eci : (nI i).toNatClampNeg = i := nI_clamp (by omega)
    show V 6 _ [(.int (nI 1)), (.ref m)] _ _ _
    refine r_if_ne (tgt := 13) Mm dX6_setLength_6 (by decide) (fun _ => ?_) (fun c5 => absurd c5 (by decide))
    refine r_iload_n Mm dX6_setLength_13 rfl ?_
    refine r_iconst (v := nI 0) Mm dX6_setLength_14 (by decide) ?_
    refine r_sipush (v := nI 1500) Mm dX6_setLength_15 (by decide) ?_
    by_cases k6 : (nI 0) ≤ n ∧ n ≤ (nI 1500)
    · refine r_callS (As := [(.int n), (.int (nI 0)), (.int (nI 1500))]) Mm dX6_setLength_18 rfl (cm_isIn hfl h n (nI 0) (nI 1500)) cw_X6_87 ⟨Nat.le_of_ble_eq_true rfl, Nat.le_of_ble_eq_true rfl, Nat.le_of_ble_eq_true rfl⟩ (Nat.le_of_ble_eq_true rfl) ⟨Nat.le_of_ble_eq_true rfl, Nat.le_of_ble_eq_true rfl⟩ (fun r7 h8 p9 => ?_) (fun Er7 h8 p9 => False.elim p9)
      obtain ⟨rfl, rfl⟩ := p9
      rw [decide_eq_true k6]
      show V 21 _ [(.int (nI 1)), (.ref m)] _ _ _
      refine r_if_ne (tgt := 28) Mm dX6_setLength_21 (by decide) (fun _ => ?_) (fun c10 => absurd c10 (by decide))
      refine r_iconst (v := nI 0) Mm dX6_setLength_28 (by decide) ?_
      refine r_callV (As := [(.int (nI 0))]) Mm dX6_setLength_29 rfl (cm_isFine hfl h m ad hM (nI 0)) (hM.1) rfl cw_X6_94 ⟨Nat.le_of_ble_eq_true rfl, Nat.le_of_ble_eq_true rfl, Nat.le_of_ble_eq_true rfl⟩ (Nat.le_of_ble_eq_true rfl) ⟨Nat.le_of_ble_eq_true rfl, Nat.le_of_ble_eq_true rfl⟩ (fun r11 h12 p13 => ?_) (fun Er11 h12 p13 => False.elim p13)
      obtain ⟨rfl, rfl⟩ := p13
      rw [show bI (decide (nI 0 = 0)) = nI 1 from by decide]
      obtain ⟨hz, fz, z0, rz, ez⟩ : ∃ z, Fr (MW m ad) h z ∧ xF z 600 m = nI 0 ∧ RM z m ad σ ∧ z = yF h 600 m (nI 0) := ⟨_, Fr.yF (Or.inl rfl), u2_s _ _ _ _, rm0.f0 _, rfl⟩
      rw [← ez]
      clear ez
      have rz0 := rz
      obtain ⟨hMz, ⟨gz1, gz2, gz3⟩, rpz, rsz, rhz, rtz⟩ := rz
      show V 32 _ [(.int (nI 1))] _ _ _
      refine r_if_ne (tgt := 37) Mm dX6_setLength_32 (by decide) (fun _ => ?_) (fun c14 => absurd c14 (by decide))
      refine r_aload_n Mm dX6_setLength_37 rfl ?_
      refine r_getR Mm dX6_setLength_38 fi_X6_13 (hMz.1) rfl (i := 602) rfl ((hMz.2.1 2 8 8 (by decide)).1) ?_
      refine r_iload_n Mm dX6_setLength_41 rfl ?_
      refine r_ialdN Mm dX6_setLength_42 ((hMz.2.1 2 8 8 (by decide)).2) (by omega) (by omega) ?_
      refine r_top _ (qLen (eP σ i)) ((rpz i (by omega)).2.1) ?_
      refine r_istore_n Mm dX6_setLength_43 (by decide) ?_
      show V 44 [some (.ref m), some (.int (nI i)), some (.int n), some (.int (qLen (eP σ i)))] _ _ _ _
      refine r_aload_n Mm dX6_setLength_44 rfl ?_
      refine r_getR Mm dX6_setLength_45 fi_X6_13 (hMz.1) rfl (i := 602) rfl ((hMz.2.1 2 8 8 (by decide)).1) ?_
      refine r_iload_n Mm dX6_setLength_48 rfl ?_
      refine r_iload_n Mm dX6_setLength_49 rfl ?_
      refine r_iastN Mm dX6_setLength_50 ((hMz.2.1 2 8 8 (by decide)).2) (by omega) (by omega) ?_
      refine r_iload_n Mm dX6_setLength_51 rfl ?_
      refine r_iret M dX6_setLength_52 ?_
      exact pMd.ret fz z0 (by simp only [o_setLength, oPu_ok k1 eci, oIn_ok k6]) (Fr.yA (MW.at 2 8 8 (by decide))) (by rw [zxF_yA]) (rz0.len (by omega) n hx0.len)
    · refine r_callS (As := [(.int n), (.int (nI 0)), (.int (nI 1500))]) Mm dX6_setLength_18 rfl (cm_isIn hfl h n (nI 0) (nI 1500)) cw_X6_87 ⟨Nat.le_of_ble_eq_true rfl, Nat.le_of_ble_eq_true rfl, Nat.le_of_ble_eq_true rfl⟩ (Nat.le_of_ble_eq_true rfl) ⟨Nat.le_of_ble_eq_true rfl, Nat.le_of_ble_eq_true rfl⟩ (fun r15 h16 p17 => ?_) (fun Er15 h16 p17 => False.elim p17)
      obtain ⟨rfl, rfl⟩ := p17
      rw [decide_eq_false k6]
      show V 21 _ [(.int (nI 0)), (.ref m)] _ _ _
      refine r_if_ne (tgt := 28) Mm dX6_setLength_21 (by decide) (fun c18 => absurd c18 (by decide)) (fun _ => ?_)
      refine r_iconst (v := nI 2) Mm dX6_setLength_24 (by decide) ?_
      refine r_goto (tgt := 29) Mm dX6_setLength_25 (by decide) ?_
      refine r_callV (As := [(.int (nI 2))]) Mm dX6_setLength_29 rfl (cm_isFine hfl h m ad hM (nI 2)) (hM.1) rfl cw_X6_94 ⟨Nat.le_of_ble_eq_true rfl, Nat.le_of_ble_eq_true rfl, Nat.le_of_ble_eq_true rfl⟩ (Nat.le_of_ble_eq_true rfl) ⟨Nat.le_of_ble_eq_true rfl, Nat.le_of_ble_eq_true rfl⟩ (fun r19 h20 p21 => ?_) (fun Er19 h20 p21 => False.elim p21)
      obtain ⟨rfl, rfl⟩ := p21
      rw [show bI (decide (nI 2 = 0)) = nI 0 from by decide]
      show V 32 _ [(.int (nI 0))] _ _ _
      refine r_if_ne (tgt := 37) Mm dX6_setLength_32 (by decide) (fun c22 => absurd c22 (by decide)) (fun _ => ?_)
      refine r_iconst (v := nI 0) Mm dX6_setLength_35 (by decide) ?_
      refine r_iret M dX6_setLength_36 ?_
      exact pMd.thr rm0 "java/lang/IllegalArgumentException" 2 (by simp only [o_setLength, oPu_ok k1 eci, oIn_no k6]) (by decide +kernel)
  · refine r_callV (As := [(.int p)]) Mm dX6_setLength_3 rfl (cm_isPuppet hfl h m (eN σ) p hM.1 (by omega) g1) (hM.1) rfl cw_X6_98 ⟨Nat.le_of_ble_eq_true rfl, Nat.le_of_ble_eq_true rfl, Nat.le_of_ble_eq_true rfl⟩ (Nat.le_of_ble_eq_true rfl) ⟨Nat.le_of_ble_eq_true rfl, Nat.le_of_ble_eq_true rfl⟩ (fun r23 h24 p25 => ?_) (fun Er23 h24 p25 => False.elim p25)
    obtain ⟨rfl, rfl⟩ := p25
    rw [decide_eq_false k1]
    show V 6 _ [(.int (nI 0)), (.ref m)] _ _ _
    refine r_if_ne (tgt := 13) Mm dX6_setLength_6 (by decide) (fun c26 => absurd c26 (by decide)) (fun _ => ?_)
    refine r_iconst (v := nI 1) Mm dX6_setLength_9 (by decide) ?_
    refine r_goto (tgt := 29) Mm dX6_setLength_10 (by decide) ?_
    refine r_callV (As := [(.int (nI 1))]) Mm dX6_setLength_29 rfl (cm_isFine hfl h m ad hM (nI 1)) (hM.1) rfl cw_X6_94 ⟨Nat.le_of_ble_eq_true rfl, Nat.le_of_ble_eq_true rfl, Nat.le_of_ble_eq_true rfl⟩ (Nat.le_of_ble_eq_true rfl) ⟨Nat.le_of_ble_eq_true rfl, Nat.le_of_ble_eq_true rfl⟩ (fun r27 h28 p29 => ?_) (fun Er27 h28 p29 => False.elim p29)
    obtain ⟨rfl, rfl⟩ := p29
    rw [show bI (decide (nI 1 = 0)) = nI 0 from by decide]
    show V 32 _ [(.int (nI 0))] _ _ _
    refine r_if_ne (tgt := 37) Mm dX6_setLength_32 (by decide) (fun c30 => absurd c30 (by decide)) (fun _ => ?_)
    refine r_iconst (v := nI 0) Mm dX6_setLength_35 (by decide) ?_
    refine r_iret M dX6_setLength_36 ?_
    exact pMd.thr rm0 "java/lang/IndexOutOfBoundsException" 1 (by simp only [o_setLength, oPu_no k1]) (by decide +kernel)
set_option maxRecDepth 100000 in
set_option maxHeartbeats 4000000 in
theorem cm_hear {g : Gl} {l : Launch} (hfl : l.stackTraces = false) (h : Hp) (m : Nat) (ad : Nat → Nat) (σ : ST) (rm : RM h m ad σ) (hw : WF σ) (q f : Int32) : CT g l iX6_hear 3 [.ref m, .int q, .int f] h 0 0 (pMd m ad h σ ["java/lang/IndexOutOfBoundsException", "java/lang/IllegalArgumentException"] (o_hear σ q f)) := by
  have hw0 := hw
  obtain ⟨w1, w2, w3, w4, w5⟩ := hw
  have rm0 := rm
  obtain ⟨hM, ⟨g1, g2, g3⟩, rp, rs, rh, rt⟩ := rm
  refine ct_mk hfl (by decide) (Nat.le_of_ble_eq_true rfl) (by intro v hv; simp only [List.mem_cons, List.not_mem_nil, or_false] at hv; rcases hv with rfl | rfl | rfl <;> rfl) (fun V X M => ?_)
  have Mm := M.m
  show V 0 [some (.ref m), some (.int q), some (.int f), none] [] _ 0 0
  refine r_aload_n Mm dX6_hear_0 rfl ?_
  refine r_iload_n Mm dX6_hear_1 rfl ?_
  by_cases k1 : nI 0 ≤ q ∧ q ≤ nI 9
  · refine r_callS (As := [(.int q)]) Mm dX6_hear_2 rfl (cm_isSound hfl h q) cw_X6_113 ⟨Nat.le_of_ble_eq_true rfl, Nat.le_of_ble_eq_true rfl, Nat.le_of_ble_eq_true rfl⟩ (Nat.le_of_ble_eq_true rfl) ⟨Nat.le_of_ble_eq_true rfl, Nat.le_of_ble_eq_true rfl⟩ (fun r2 h3 p4 => ?_) (fun Er2 h3 p4 => False.elim p4)
    obtain ⟨rfl, rfl⟩ := p4
    rw [decide_eq_true k1]
    obtain ⟨s, hs, rfl⟩ := in_le k1 (by decide)
    have ecs : (nI s).toNatClampNeg = s := nI_clamp (by omega)
    show V 5 _ [(.int (nI 1)), (.ref m)] _ _ _
    refine r_if_ne (tgt := 12) Mm dX6_hear_5 (by decide) (fun _ => ?_) (fun c5 => absurd c5 (by decide))
    refine r_iload_n Mm dX6_hear_12 rfl ?_
    refine r_iconst (v := -1) Mm dX6_hear_13 (by decide) ?_
    refine r_sipush (v := nI 999) Mm dX6_hear_14 (by decide) ?_
    by_cases k6 : (-1) ≤ f ∧ f ≤ (nI 999)
    · refine r_callS (As := [(.int f), (.int (-1)), (.int (nI 999))]) Mm dX6_hear_17 rfl (cm_isIn hfl h f (-1) (nI 999)) cw_X6_87 ⟨Nat.le_of_ble_eq_true rfl, Nat.le_of_ble_eq_true rfl, Nat.le_of_ble_eq_true rfl⟩ (Nat.le_of_ble_eq_true rfl) ⟨Nat.le_of_ble_eq_true rfl, Nat.le_of_ble_eq_true rfl⟩ (fun r7 h8 p9 => ?_) (fun Er7 h8 p9 => False.elim p9)
      obtain ⟨rfl, rfl⟩ := p9
      rw [decide_eq_true k6]
      show V 20 _ [(.int (nI 1)), (.ref m)] _ _ _
      refine r_if_ne (tgt := 27) Mm dX6_hear_20 (by decide) (fun _ => ?_) (fun c10 => absurd c10 (by decide))
      refine r_iconst (v := nI 0) Mm dX6_hear_27 (by decide) ?_
      refine r_callV (As := [(.int (nI 0))]) Mm dX6_hear_28 rfl (cm_isFine hfl h m ad hM (nI 0)) (hM.1) rfl cw_X6_94 ⟨Nat.le_of_ble_eq_true rfl, Nat.le_of_ble_eq_true rfl, Nat.le_of_ble_eq_true rfl⟩ (Nat.le_of_ble_eq_true rfl) ⟨Nat.le_of_ble_eq_true rfl, Nat.le_of_ble_eq_true rfl⟩ (fun r11 h12 p13 => ?_) (fun Er11 h12 p13 => False.elim p13)
      obtain ⟨rfl, rfl⟩ := p13
      rw [show bI (decide (nI 0 = 0)) = nI 1 from by decide]
      obtain ⟨hz, fz, z0, rz, ez⟩ : ∃ z, Fr (MW m ad) h z ∧ xF z 600 m = nI 0 ∧ RM z m ad σ ∧ z = yF h 600 m (nI 0) := ⟨_, Fr.yF (Or.inl rfl), u2_s _ _ _ _, rm0.f0 _, rfl⟩
      rw [← ez]
      clear ez
      have rz0 := rz
      obtain ⟨hMz, ⟨gz1, gz2, gz3⟩, rpz, rsz, rhz, rtz⟩ := rz
      show V 31 _ [(.int (nI 1))] _ _ _
      refine r_if_ne (tgt := 36) Mm dX6_hear_31 (by decide) (fun _ => ?_) (fun c14 => absurd c14 (by decide))
      refine r_aload_n Mm dX6_hear_36 rfl ?_
      refine r_getR Mm dX6_hear_37 fi_X6_46 (hMz.1) rfl (i := 614) rfl ((hMz.2.1 14 8 10 (by decide)).1) ?_
      refine r_iload_n Mm dX6_hear_40 rfl ?_
      refine r_ialdN Mm dX6_hear_41 ((hMz.2.1 14 8 10 (by decide)).2) (by omega) (by omega) ?_
      refine r_top _ (eH σ s) (rhz s (by omega)) ?_
      refine r_istore_n Mm dX6_hear_42 (by decide) ?_
      show V 43 [some (.ref m), some (.int (nI s)), some (.int f), some (.int (eH σ s))] _ _ _ _
      refine r_aload_n Mm dX6_hear_43 rfl ?_
      refine r_getR Mm dX6_hear_44 fi_X6_46 (hMz.1) rfl (i := 614) rfl ((hMz.2.1 14 8 10 (by decide)).1) ?_
      refine r_iload_n Mm dX6_hear_47 rfl ?_
      refine r_iload_n Mm dX6_hear_48 rfl ?_
      refine r_iastN Mm dX6_hear_49 ((hMz.2.1 14 8 10 (by decide)).2) (by omega) (by omega) ?_
      refine r_iload_n Mm dX6_hear_50 rfl ?_
      refine r_iret M dX6_hear_51 ?_
      exact pMd.ret fz z0 (by simp only [o_hear, if_pos (sound_eq.mp k1), ecs, hear_ok k6]) (Fr.yA (MW.at 14 8 10 (by decide))) (by rw [zxF_yA]) (rz0.heardAt f)
    · refine r_callS (As := [(.int f), (.int (-1)), (.int (nI 999))]) Mm dX6_hear_17 rfl (cm_isIn hfl h f (-1) (nI 999)) cw_X6_87 ⟨Nat.le_of_ble_eq_true rfl, Nat.le_of_ble_eq_true rfl, Nat.le_of_ble_eq_true rfl⟩ (Nat.le_of_ble_eq_true rfl) ⟨Nat.le_of_ble_eq_true rfl, Nat.le_of_ble_eq_true rfl⟩ (fun r15 h16 p17 => ?_) (fun Er15 h16 p17 => False.elim p17)
      obtain ⟨rfl, rfl⟩ := p17
      rw [decide_eq_false k6]
      show V 20 _ [(.int (nI 0)), (.ref m)] _ _ _
      refine r_if_ne (tgt := 27) Mm dX6_hear_20 (by decide) (fun c18 => absurd c18 (by decide)) (fun _ => ?_)
      refine r_iconst (v := nI 2) Mm dX6_hear_23 (by decide) ?_
      refine r_goto (tgt := 28) Mm dX6_hear_24 (by decide) ?_
      refine r_callV (As := [(.int (nI 2))]) Mm dX6_hear_28 rfl (cm_isFine hfl h m ad hM (nI 2)) (hM.1) rfl cw_X6_94 ⟨Nat.le_of_ble_eq_true rfl, Nat.le_of_ble_eq_true rfl, Nat.le_of_ble_eq_true rfl⟩ (Nat.le_of_ble_eq_true rfl) ⟨Nat.le_of_ble_eq_true rfl, Nat.le_of_ble_eq_true rfl⟩ (fun r19 h20 p21 => ?_) (fun Er19 h20 p21 => False.elim p21)
      obtain ⟨rfl, rfl⟩ := p21
      rw [show bI (decide (nI 2 = 0)) = nI 0 from by decide]
      show V 31 _ [(.int (nI 0))] _ _ _
      refine r_if_ne (tgt := 36) Mm dX6_hear_31 (by decide) (fun c22 => absurd c22 (by decide)) (fun _ => ?_)
      refine r_iconst (v := nI 0) Mm dX6_hear_34 (by decide) ?_
      refine r_iret M dX6_hear_35 ?_
      exact pMd.thr rm0 "java/lang/IllegalArgumentException" 2 (by simp only [o_hear, if_pos (sound_eq.mp k1), ecs, hear_no k6]) (by decide +kernel)
  · refine r_callS (As := [(.int q)]) Mm dX6_hear_2 rfl (cm_isSound hfl h q) cw_X6_113 ⟨Nat.le_of_ble_eq_true rfl, Nat.le_of_ble_eq_true rfl, Nat.le_of_ble_eq_true rfl⟩ (Nat.le_of_ble_eq_true rfl) ⟨Nat.le_of_ble_eq_true rfl, Nat.le_of_ble_eq_true rfl⟩ (fun r23 h24 p25 => ?_) (fun Er23 h24 p25 => False.elim p25)
    obtain ⟨rfl, rfl⟩ := p25
    rw [decide_eq_false k1]
    show V 5 _ [(.int (nI 0)), (.ref m)] _ _ _
    refine r_if_ne (tgt := 12) Mm dX6_hear_5 (by decide) (fun c26 => absurd c26 (by decide)) (fun _ => ?_)
    refine r_iconst (v := nI 1) Mm dX6_hear_8 (by decide) ?_
    refine r_goto (tgt := 28) Mm dX6_hear_9 (by decide) ?_
    refine r_callV (As := [(.int (nI 1))]) Mm dX6_hear_28 rfl (cm_isFine hfl h m ad hM (nI 1)) (hM.1) rfl cw_X6_94 ⟨Nat.le_of_ble_eq_true rfl, Nat.le_of_ble_eq_true rfl, Nat.le_of_ble_eq_true rfl⟩ (Nat.le_of_ble_eq_true rfl) ⟨Nat.le_of_ble_eq_true rfl, Nat.le_of_ble_eq_true rfl⟩ (fun r27 h28 p29 => ?_) (fun Er27 h28 p29 => False.elim p29)
    obtain ⟨rfl, rfl⟩ := p29
    rw [show bI (decide (nI 1 = 0)) = nI 0 from by decide]
    show V 31 _ [(.int (nI 0))] _ _ _
    refine r_if_ne (tgt := 36) Mm dX6_hear_31 (by decide) (fun c30 => absurd c30 (by decide)) (fun _ => ?_)
    refine r_iconst (v := nI 0) Mm dX6_hear_34 (by decide) ?_
    refine r_iret M dX6_hear_35 ?_
    exact pMd.thr rm0 "java/lang/IndexOutOfBoundsException" 1 (by simp only [o_hear, if_neg (fun z => k1 (sound_eq.mpr z))]) (by decide +kernel)
set_option maxRecDepth 100000 in
set_option maxHeartbeats 4000000 in
theorem cm_cue {g : Gl} {l : Launch} (hfl : l.stackTraces = false) (h : Hp) (m : Nat) (ad : Nat → Nat) (σ : ST) (rm : RM h m ad σ) (hx : WX σ) (p q : Int32) : CT g l iX6_cue 3 [.ref m, .int p, .int q] h 0 0 (pMd m ad h σ ["java/lang/IndexOutOfBoundsException"] (o_cue σ p q)) := by
  have hx0 := hx
  obtain ⟨hw, hx1, hx2⟩ := hx
  have hw0 := hw
  obtain ⟨w1, w2, w3, w4, w5⟩ := hw
  have rm0 := rm
  obtain ⟨hM, ⟨g1, g2, g3⟩, rp, rs, rh, rt⟩ := rm
  refine ct_mk hfl (by decide) (Nat.le_of_ble_eq_true rfl) (by intro v hv; simp only [List.mem_cons, List.not_mem_nil, or_false] at hv; rcases hv with rfl | rfl | rfl <;> rfl) (fun V X M => ?_)
  have Mm := M.m
  show V 0 [some (.ref m), some (.int p), some (.int q), none] [] _ 0 0
  refine r_aload_n Mm dX6_cue_0 rfl ?_
  refine r_aload_n Mm dX6_cue_1 rfl ?_
  refine r_iload_n Mm dX6_cue_2 rfl ?_
  by_cases k1 : 0 ≤ p ∧ p < nI (eN σ)
  · refine r_callV (As := [(.int p)]) Mm dX6_cue_3 rfl (cm_isPuppet hfl h m (eN σ) p hM.1 (by omega) g1) (hM.1) rfl cw_X6_98 ⟨Nat.le_of_ble_eq_true rfl, Nat.le_of_ble_eq_true rfl, Nat.le_of_ble_eq_true rfl⟩ (Nat.le_of_ble_eq_true rfl) ⟨Nat.le_of_ble_eq_true rfl, Nat.le_of_ble_eq_true rfl⟩ (fun r2 h3 p4 => ?_) (fun Er2 h3 p4 => False.elim p4)
    obtain ⟨rfl, rfl⟩ := p4
    rw [decide_eq_true k1]
    obtain ⟨i, hi, rfl⟩ := in_ex k1 (by omega)
    have eci : (nI i).toNatClampNeg = i := nI_clamp (by omega)
    show V 6 _ [(.int (nI 1)), (.ref m)] _ _ _
    refine r_if_eq (tgt := 25) Mm dX6_cue_6 (by decide) (fun c5 => absurd c5 (by decide)) (fun _ => ?_)
    refine r_iload_n Mm dX6_cue_9 rfl ?_
    refine r_iconst (v := -1) Mm dX6_cue_10 (by decide) ?_
    refine r_icmp_eq (tgt := 21) Mm dX6_cue_11 (by decide) (fun c6 => ?_) (fun c6 => ?_)
    · refine r_iconst (v := nI 0) Mm dX6_cue_21 (by decide) ?_
      refine r_goto (tgt := 26) Mm dX6_cue_22 (by decide) ?_
      refine r_callV (As := [(.int (nI 0))]) Mm dX6_cue_26 rfl (cm_isFine hfl h m ad hM (nI 0)) (hM.1) rfl cw_X6_94 ⟨Nat.le_of_ble_eq_true rfl, Nat.le_of_ble_eq_true rfl, Nat.le_of_ble_eq_true rfl⟩ (Nat.le_of_ble_eq_true rfl) ⟨Nat.le_of_ble_eq_true rfl, Nat.le_of_ble_eq_true rfl⟩ (fun r7 h8 p9 => ?_) (fun Er7 h8 p9 => False.elim p9)
      obtain ⟨rfl, rfl⟩ := p9
      rw [show bI (decide (nI 0 = 0)) = nI 1 from by decide]
      obtain ⟨hz, fz, z0, rz, ez⟩ : ∃ z, Fr (MW m ad) h z ∧ xF z 600 m = nI 0 ∧ RM z m ad σ ∧ z = yF h 600 m (nI 0) := ⟨_, Fr.yF (Or.inl rfl), u2_s _ _ _ _, rm0.f0 _, rfl⟩
      rw [← ez]
      clear ez
      have rz0 := rz
      obtain ⟨hMz, ⟨gz1, gz2, gz3⟩, rpz, rsz, rhz, rtz⟩ := rz
      show V 29 _ [(.int (nI 1))] _ _ _
      refine r_if_ne (tgt := 34) Mm dX6_cue_29 (by decide) (fun _ => ?_) (fun c10 => absurd c10 (by decide))
      refine r_aload_n Mm dX6_cue_34 rfl ?_
      refine r_getR Mm dX6_cue_35 fi_X6_19 (hMz.1) rfl (i := 604) rfl ((hMz.2.1 4 8 8 (by decide)).1) ?_
      refine r_iload_n Mm dX6_cue_38 rfl ?_
      refine r_ialdN Mm dX6_cue_39 ((hMz.2.1 4 8 8 (by decide)).2) (by omega) (by omega) ?_
      refine r_top _ (qCue (eP σ i)) ((rpz i (by omega)).2.2.2.1) ?_
      refine r_istore_n Mm dX6_cue_40 (by decide) ?_
      show V 41 [some (.ref m), some (.int (nI i)), some (.int q), some (.int (qCue (eP σ i)))] _ _ _ _
      refine r_aload_n Mm dX6_cue_41 rfl ?_
      refine r_getR Mm dX6_cue_42 fi_X6_19 (hMz.1) rfl (i := 604) rfl ((hMz.2.1 4 8 8 (by decide)).1) ?_
      refine r_iload_n Mm dX6_cue_45 rfl ?_
      refine r_iload_n Mm dX6_cue_46 rfl ?_
      refine r_iastN Mm dX6_cue_47 ((hMz.2.1 4 8 8 (by decide)).2) (by omega) (by omega) ?_
      refine r_iload_n Mm dX6_cue_48 rfl ?_
      refine r_iret M dX6_cue_49 ?_
      exact pMd.ret fz z0 (by simp only [o_cue, oPu_ok k1 eci, if_pos (Or.inl c6 : q = -1 ∨ ¬ q < 0 ∧ q < nI 10)]) (Fr.yA (MW.at 4 8 8 (by decide))) (by rw [zxF_yA]) (rz0.cue (by omega) q hx0.len)
    · refine r_iload_n Mm dX6_cue_14 rfl ?_
      by_cases k11 : nI 0 ≤ q ∧ q ≤ nI 9
      · refine r_callS (As := [(.int q)]) Mm dX6_cue_15 rfl (cm_isSound hfl h q) cw_X6_113 ⟨Nat.le_of_ble_eq_true rfl, Nat.le_of_ble_eq_true rfl, Nat.le_of_ble_eq_true rfl⟩ (Nat.le_of_ble_eq_true rfl) ⟨Nat.le_of_ble_eq_true rfl, Nat.le_of_ble_eq_true rfl⟩ (fun r12 h13 p14 => ?_) (fun Er12 h13 p14 => False.elim p14)
        obtain ⟨rfl, rfl⟩ := p14
        rw [decide_eq_true k11]
        show V 18 _ [(.int (nI 1)), (.ref m)] _ _ _
        refine r_if_eq (tgt := 25) Mm dX6_cue_18 (by decide) (fun c15 => absurd c15 (by decide)) (fun _ => ?_)
        refine r_iconst (v := nI 0) Mm dX6_cue_21 (by decide) ?_
        refine r_goto (tgt := 26) Mm dX6_cue_22 (by decide) ?_
        refine r_callV (As := [(.int (nI 0))]) Mm dX6_cue_26 rfl (cm_isFine hfl h m ad hM (nI 0)) (hM.1) rfl cw_X6_94 ⟨Nat.le_of_ble_eq_true rfl, Nat.le_of_ble_eq_true rfl, Nat.le_of_ble_eq_true rfl⟩ (Nat.le_of_ble_eq_true rfl) ⟨Nat.le_of_ble_eq_true rfl, Nat.le_of_ble_eq_true rfl⟩ (fun r16 h17 p18 => ?_) (fun Er16 h17 p18 => False.elim p18)
        obtain ⟨rfl, rfl⟩ := p18
        rw [show bI (decide (nI 0 = 0)) = nI 1 from by decide]
        obtain ⟨hz, fz, z0, rz, ez⟩ : ∃ z, Fr (MW m ad) h z ∧ xF z 600 m = nI 0 ∧ RM z m ad σ ∧ z = yF h 600 m (nI 0) := ⟨_, Fr.yF (Or.inl rfl), u2_s _ _ _ _, rm0.f0 _, rfl⟩
        rw [← ez]
        clear ez
        have rz0 := rz
        obtain ⟨hMz, ⟨gz1, gz2, gz3⟩, rpz, rsz, rhz, rtz⟩ := rz
        show V 29 _ [(.int (nI 1))] _ _ _
        refine r_if_ne (tgt := 34) Mm dX6_cue_29 (by decide) (fun _ => ?_) (fun c19 => absurd c19 (by decide))
        refine r_aload_n Mm dX6_cue_34 rfl ?_
        refine r_getR Mm dX6_cue_35 fi_X6_19 (hMz.1) rfl (i := 604) rfl ((hMz.2.1 4 8 8 (by decide)).1) ?_
        refine r_iload_n Mm dX6_cue_38 rfl ?_
        refine r_ialdN Mm dX6_cue_39 ((hMz.2.1 4 8 8 (by decide)).2) (by omega) (by omega) ?_
        refine r_top _ (qCue (eP σ i)) ((rpz i (by omega)).2.2.2.1) ?_
        refine r_istore_n Mm dX6_cue_40 (by decide) ?_
        show V 41 [some (.ref m), some (.int (nI i)), some (.int q), some (.int (qCue (eP σ i)))] _ _ _ _
        refine r_aload_n Mm dX6_cue_41 rfl ?_
        refine r_getR Mm dX6_cue_42 fi_X6_19 (hMz.1) rfl (i := 604) rfl ((hMz.2.1 4 8 8 (by decide)).1) ?_
        refine r_iload_n Mm dX6_cue_45 rfl ?_
        refine r_iload_n Mm dX6_cue_46 rfl ?_
        refine r_iastN Mm dX6_cue_47 ((hMz.2.1 4 8 8 (by decide)).2) (by omega) (by omega) ?_
        refine r_iload_n Mm dX6_cue_48 rfl ?_
        refine r_iret M dX6_cue_49 ?_
        exact pMd.ret fz z0 (by simp only [o_cue, oPu_ok k1 eci, if_pos (Or.inr (sound_eq.mp k11) : q = -1 ∨ ¬ q < 0 ∧ q < nI 10)]) (Fr.yA (MW.at 4 8 8 (by decide))) (by rw [zxF_yA]) (rz0.cue (by omega) q hx0.len)
      · refine r_callS (As := [(.int q)]) Mm dX6_cue_15 rfl (cm_isSound hfl h q) cw_X6_113 ⟨Nat.le_of_ble_eq_true rfl, Nat.le_of_ble_eq_true rfl, Nat.le_of_ble_eq_true rfl⟩ (Nat.le_of_ble_eq_true rfl) ⟨Nat.le_of_ble_eq_true rfl, Nat.le_of_ble_eq_true rfl⟩ (fun r20 h21 p22 => ?_) (fun Er20 h21 p22 => False.elim p22)
        obtain ⟨rfl, rfl⟩ := p22
        rw [decide_eq_false k11]
        show V 18 _ [(.int (nI 0)), (.ref m)] _ _ _
        refine r_if_eq (tgt := 25) Mm dX6_cue_18 (by decide) (fun _ => ?_) (fun c23 => absurd (by decide) c23)
        refine r_iconst (v := nI 1) Mm dX6_cue_25 (by decide) ?_
        refine r_callV (As := [(.int (nI 1))]) Mm dX6_cue_26 rfl (cm_isFine hfl h m ad hM (nI 1)) (hM.1) rfl cw_X6_94 ⟨Nat.le_of_ble_eq_true rfl, Nat.le_of_ble_eq_true rfl, Nat.le_of_ble_eq_true rfl⟩ (Nat.le_of_ble_eq_true rfl) ⟨Nat.le_of_ble_eq_true rfl, Nat.le_of_ble_eq_true rfl⟩ (fun r24 h25 p26 => ?_) (fun Er24 h25 p26 => False.elim p26)
        obtain ⟨rfl, rfl⟩ := p26
        rw [show bI (decide (nI 1 = 0)) = nI 0 from by decide]
        show V 29 _ [(.int (nI 0))] _ _ _
        refine r_if_ne (tgt := 34) Mm dX6_cue_29 (by decide) (fun c27 => absurd c27 (by decide)) (fun _ => ?_)
        refine r_iconst (v := nI 0) Mm dX6_cue_32 (by decide) ?_
        refine r_iret M dX6_cue_33 ?_
        exact pMd.thr rm0 "java/lang/IndexOutOfBoundsException" 1 (by simp only [o_cue, oPu_ok k1 eci, if_neg (fun z => z.elim c6 (fun w => k11 (sound_eq.mpr w)) : ¬ (q = -1 ∨ ¬ q < 0 ∧ q < nI 10))]) (by decide +kernel)
  · refine r_callV (As := [(.int p)]) Mm dX6_cue_3 rfl (cm_isPuppet hfl h m (eN σ) p hM.1 (by omega) g1) (hM.1) rfl cw_X6_98 ⟨Nat.le_of_ble_eq_true rfl, Nat.le_of_ble_eq_true rfl, Nat.le_of_ble_eq_true rfl⟩ (Nat.le_of_ble_eq_true rfl) ⟨Nat.le_of_ble_eq_true rfl, Nat.le_of_ble_eq_true rfl⟩ (fun r28 h29 p30 => ?_) (fun Er28 h29 p30 => False.elim p30)
    obtain ⟨rfl, rfl⟩ := p30
    rw [decide_eq_false k1]
    show V 6 _ [(.int (nI 0)), (.ref m)] _ _ _
    refine r_if_eq (tgt := 25) Mm dX6_cue_6 (by decide) (fun _ => ?_) (fun c31 => absurd (by decide) c31)
    refine r_iconst (v := nI 1) Mm dX6_cue_25 (by decide) ?_
    refine r_callV (As := [(.int (nI 1))]) Mm dX6_cue_26 rfl (cm_isFine hfl h m ad hM (nI 1)) (hM.1) rfl cw_X6_94 ⟨Nat.le_of_ble_eq_true rfl, Nat.le_of_ble_eq_true rfl, Nat.le_of_ble_eq_true rfl⟩ (Nat.le_of_ble_eq_true rfl) ⟨Nat.le_of_ble_eq_true rfl, Nat.le_of_ble_eq_true rfl⟩ (fun r32 h33 p34 => ?_) (fun Er32 h33 p34 => False.elim p34)
    obtain ⟨rfl, rfl⟩ := p34
    rw [show bI (decide (nI 1 = 0)) = nI 0 from by decide]
    show V 29 _ [(.int (nI 0))] _ _ _
    refine r_if_ne (tgt := 34) Mm dX6_cue_29 (by decide) (fun c35 => absurd c35 (by decide)) (fun _ => ?_)
    refine r_iconst (v := nI 0) Mm dX6_cue_32 (by decide) ?_
    refine r_iret M dX6_cue_33 ?_
    exact pMd.thr rm0 "java/lang/IndexOutOfBoundsException" 1 (by simp only [o_cue, oPu_no k1]) (by decide +kernel)
set_option maxRecDepth 100000 in
set_option maxHeartbeats 4000000 in
theorem cm_puppet {g : Gl} {l : Launch} (hfl : l.stackTraces = false) (h : Hp) (m : Nat) (ad : Nat → Nat) (σ : ST) (rm : RM h m ad σ) (hx : WX σ) (b n : Int32) : CT g l iX6_puppet 2 [.ref m, .int b, .int n] h 0 0 (pMd m ad h σ ["java/lang/IllegalArgumentException", "java/lang/IllegalStateException"] (o_puppet σ b n)) := by
  have hx0 := hx
  obtain ⟨hw, hx1, hx2⟩ := hx
  have hw0 := hw
  obtain ⟨w1, w2, w3, w4, w5⟩ := hw
  have rm0 := rm
  obtain ⟨hM, ⟨g1, g2, g3⟩, rp, rs, rh, rt⟩ := rm
  refine ct_mk hfl (by decide) (Nat.le_of_ble_eq_true rfl) (by intro v hv; simp only [List.mem_cons, List.not_mem_nil, or_false] at hv; rcases hv with rfl | rfl | rfl <;> rfl) (fun V X M => ?_)
  have Mm := M.m
  show V 0 [some (.ref m), some (.int b), some (.int n), none] [] _ 0 0
  refine r_iload_n Mm dX6_puppet_0 rfl ?_
  refine r_iconst (v := nI 0) Mm dX6_puppet_1 (by decide) ?_
  refine r_sipush (v := nI 999) Mm dX6_puppet_2 (by decide) ?_
  by_cases k1 : (nI 0) ≤ b ∧ b ≤ (nI 999)
  · refine r_callS (As := [(.int b), (.int (nI 0)), (.int (nI 999))]) Mm dX6_puppet_5 rfl (cm_isIn hfl h b (nI 0) (nI 999)) cw_X6_87 ⟨Nat.le_of_ble_eq_true rfl, Nat.le_of_ble_eq_true rfl, Nat.le_of_ble_eq_true rfl⟩ (Nat.le_of_ble_eq_true rfl) ⟨Nat.le_of_ble_eq_true rfl, Nat.le_of_ble_eq_true rfl⟩ (fun r2 h3 p4 => ?_) (fun Er2 h3 p4 => False.elim p4)
    obtain ⟨rfl, rfl⟩ := p4
    rw [decide_eq_true k1]
    show V 8 _ [(.int (nI 1))] _ _ _
    refine r_if_eq (tgt := 26) Mm dX6_puppet_8 (by decide) (fun c5 => absurd c5 (by decide)) (fun _ => ?_)
    refine r_iload_n Mm dX6_puppet_11 rfl ?_
    refine r_iconst (v := nI 0) Mm dX6_puppet_12 (by decide) ?_
    refine r_sipush (v := nI 1500) Mm dX6_puppet_13 (by decide) ?_
    by_cases k6 : (nI 0) ≤ n ∧ n ≤ (nI 1500)
    · refine r_callS (As := [(.int n), (.int (nI 0)), (.int (nI 1500))]) Mm dX6_puppet_16 rfl (cm_isIn hfl h n (nI 0) (nI 1500)) cw_X6_87 ⟨Nat.le_of_ble_eq_true rfl, Nat.le_of_ble_eq_true rfl, Nat.le_of_ble_eq_true rfl⟩ (Nat.le_of_ble_eq_true rfl) ⟨Nat.le_of_ble_eq_true rfl, Nat.le_of_ble_eq_true rfl⟩ (fun r7 h8 p9 => ?_) (fun Er7 h8 p9 => False.elim p9)
      obtain ⟨rfl, rfl⟩ := p9
      rw [decide_eq_true k6]
      show V 19 _ [(.int (nI 1))] _ _ _
      refine r_if_eq (tgt := 26) Mm dX6_puppet_19 (by decide) (fun c10 => absurd c10 (by decide)) (fun _ => ?_)
      refine r_iconst (v := nI 1) Mm dX6_puppet_22 (by decide) ?_
      refine r_goto (tgt := 27) Mm dX6_puppet_23 (by decide) ?_
      refine r_istore_n Mm dX6_puppet_27 (by decide) ?_
      show V 28 [some (.ref m), some (.int b), some (.int n), some (.int (nI 1))] _ _ _ _
      refine r_aload_n Mm dX6_puppet_28 rfl ?_
      refine r_iload_n Mm dX6_puppet_29 rfl ?_
      refine r_if_ne (tgt := 37) Mm dX6_puppet_30 (by decide) (fun _ => ?_) (fun c11 => absurd c11 (by decide))
      refine r_aload_n Mm dX6_puppet_37 rfl ?_
      refine r_getI Mm dX6_puppet_38 fi_X6_84 (hM.1) rfl (i := 606) rfl ?_
      refine r_top _ (nI (eN σ)) (g1) ?_
      refine r_bipush (v := nI 8) Mm dX6_puppet_41 (by decide) ?_
      refine r_icmp_neN (tgt := 50) Mm dX6_puppet_43 (by decide) (by omega) (by omega) (fun c12 => ?_) (fun c12 => ?_)
      · refine r_iconst (v := nI 0) Mm dX6_puppet_50 (by decide) ?_
        refine r_callV (As := [(.int (nI 0))]) Mm dX6_puppet_51 rfl (cm_isFine hfl h m ad hM (nI 0)) (hM.1) rfl cw_X6_94 ⟨Nat.le_of_ble_eq_true rfl, Nat.le_of_ble_eq_true rfl, Nat.le_of_ble_eq_true rfl⟩ (Nat.le_of_ble_eq_true rfl) ⟨Nat.le_of_ble_eq_true rfl, Nat.le_of_ble_eq_true rfl⟩ (fun r13 h14 p15 => ?_) (fun Er13 h14 p15 => False.elim p15)
        obtain ⟨rfl, rfl⟩ := p15
        rw [show bI (decide (nI 0 = 0)) = nI 1 from by decide]
        obtain ⟨hz, fz, z0, rz, ez⟩ : ∃ z, Fr (MW m ad) h z ∧ xF z 600 m = nI 0 ∧ RM z m ad σ ∧ z = yF h 600 m (nI 0) := ⟨_, Fr.yF (Or.inl rfl), u2_s _ _ _ _, rm0.f0 _, rfl⟩
        rw [← ez]
        clear ez
        have rz0 := rz
        obtain ⟨hMz, ⟨gz1, gz2, gz3⟩, rpz, rsz, rhz, rtz⟩ := rz
        show V 54 _ [(.int (nI 1))] _ _ _
        refine r_if_ne (tgt := 59) Mm dX6_puppet_54 (by decide) (fun _ => ?_) (fun c16 => absurd c16 (by decide))
        refine r_aload_n Mm dX6_puppet_59 rfl ?_
        refine r_getR Mm dX6_puppet_60 fi_X6_7 (hMz.1) rfl (i := 601) rfl ((hMz.2.1 1 8 8 (by decide)).1) ?_
        refine r_aload_n Mm dX6_puppet_63 rfl ?_
        refine r_getI Mm dX6_puppet_64 fi_X6_84 (hMz.1) rfl (i := 606) rfl ?_
        refine r_top _ (nI (eN σ)) (gz1) ?_
        refine r_iload_n Mm dX6_puppet_67 rfl ?_
        refine r_iastN Mm dX6_puppet_68 ((hMz.2.1 1 8 8 (by decide)).2) (by omega) (by omega) ?_
        refine r_aload_n Mm dX6_puppet_69 rfl ?_
        refine r_getR Mm dX6_puppet_70 fi_X6_13 (hMz.1) rfl (i := 602) rfl ((hMz.2.1 2 8 8 (by decide)).1) ?_
        refine r_aload_n Mm dX6_puppet_73 rfl ?_
        refine r_getI Mm dX6_puppet_74 fi_X6_84 (hMz.1) rfl (i := 606) rfl ?_
        refine r_top _ (nI (eN σ)) (by rw [zxF_yA]; exact gz1) ?_
        refine r_iload_n Mm dX6_puppet_77 rfl ?_
        refine r_iastN Mm dX6_puppet_78 ((hMz.2.1 2 8 8 (by decide)).2) (by omega) (by omega) ?_
        refine r_aload_n Mm dX6_puppet_79 rfl ?_
        refine r_getR Mm dX6_puppet_80 fi_X6_19 (hMz.1) rfl (i := 604) rfl ((hMz.2.1 4 8 8 (by decide)).1) ?_
        refine r_aload_n Mm dX6_puppet_83 rfl ?_
        refine r_getI Mm dX6_puppet_84 fi_X6_84 (hMz.1) rfl (i := 606) rfl ?_
        refine r_top _ (nI (eN σ)) (by rw [zxF_yA,zxF_yA]; exact gz1) ?_
        refine r_iconst (v := -1) Mm dX6_puppet_87 (by decide) ?_
        refine r_iastN Mm dX6_puppet_88 ((hMz.2.1 4 8 8 (by decide)).2) (by omega) (by omega) ?_
        refine r_aload_n Mm dX6_puppet_89 rfl ?_
        refine r_dup Mm dX6_puppet_90 rfl ?_
        refine r_getI Mm dX6_puppet_91 fi_X6_84 (hMz.1) rfl (i := 606) rfl ?_
        refine r_top _ (nI (eN σ)) (by rw [zxF_yA,zxF_yA,zxF_yA]; exact gz1) ?_
        refine r_iconst (v := nI 1) Mm dX6_puppet_94 (by decide) ?_
        refine r_iaddN Mm dX6_puppet_95 ?_
        refine r_putI (ty := .int) Mm dX6_puppet_96 fi_X6_84 ki_6 rfl (hMz.1) rfl (i := 606) rfl rfl (by decide +kernel) rfl rfl ?_
        refine r_aload_n Mm dX6_puppet_99 rfl ?_
        refine r_getI Mm dX6_puppet_100 fi_X6_84 (hMz.1) rfl (i := 606) rfl ?_
        refine r_top _ (nI ((eN σ) + 1)) (by rw [zxF_yF, if_pos ⟨rfl, rfl⟩]) ?_
        refine r_iconst (v := nI 1) Mm dX6_puppet_103 (by decide) ?_
        refine r_isubN Mm dX6_puppet_104 (by omega) ?_
        refine r_top _ (nI (eN σ)) (by congr 1) ?_
        refine r_iret M dX6_puppet_105 ?_
        exact pMd.ret fz z0 (by simp only [o_puppet, oIn_ok k1, oIn_ok k6, if_pos (by omega : eN σ < 8)]) (Fr.tr (Fr.tr (Fr.tr (Fr.yA (MW.at 1 8 8 (by decide))) (Fr.yA (MW.at 2 8 8 (by decide)))) (Fr.yA (MW.at 4 8 8 (by decide)))) (Fr.yF (Or.inl rfl))) (by rw [zxF_yF, if_neg (fun z => absurd z.1 (by decide)), zxF_yA, zxF_yA, zxF_yA]) (rz0.newPup b n (by omega) (hx1 _ (Nat.le_refl _)) hx0.len)
      · refine r_iconst (v := nI 2) Mm dX6_puppet_46 (by decide) ?_
        refine r_goto (tgt := 51) Mm dX6_puppet_47 (by decide) ?_
        refine r_callV (As := [(.int (nI 2))]) Mm dX6_puppet_51 rfl (cm_isFine hfl h m ad hM (nI 2)) (hM.1) rfl cw_X6_94 ⟨Nat.le_of_ble_eq_true rfl, Nat.le_of_ble_eq_true rfl, Nat.le_of_ble_eq_true rfl⟩ (Nat.le_of_ble_eq_true rfl) ⟨Nat.le_of_ble_eq_true rfl, Nat.le_of_ble_eq_true rfl⟩ (fun r17 h18 p19 => ?_) (fun Er17 h18 p19 => False.elim p19)
        obtain ⟨rfl, rfl⟩ := p19
        rw [show bI (decide (nI 2 = 0)) = nI 0 from by decide]
        show V 54 _ [(.int (nI 0))] _ _ _
        refine r_if_ne (tgt := 59) Mm dX6_puppet_54 (by decide) (fun c20 => absurd c20 (by decide)) (fun _ => ?_)
        refine r_iconst (v := nI 0) Mm dX6_puppet_57 (by decide) ?_
        refine r_iret M dX6_puppet_58 ?_
        exact pMd.thr rm0 "java/lang/IllegalStateException" 2 (by simp only [o_puppet, oIn_ok k1, oIn_ok k6, if_neg (by omega : ¬ eN σ < 8)]) (by decide +kernel)
    · refine r_callS (As := [(.int n), (.int (nI 0)), (.int (nI 1500))]) Mm dX6_puppet_16 rfl (cm_isIn hfl h n (nI 0) (nI 1500)) cw_X6_87 ⟨Nat.le_of_ble_eq_true rfl, Nat.le_of_ble_eq_true rfl, Nat.le_of_ble_eq_true rfl⟩ (Nat.le_of_ble_eq_true rfl) ⟨Nat.le_of_ble_eq_true rfl, Nat.le_of_ble_eq_true rfl⟩ (fun r21 h22 p23 => ?_) (fun Er21 h22 p23 => False.elim p23)
      obtain ⟨rfl, rfl⟩ := p23
      rw [decide_eq_false k6]
      show V 19 _ [(.int (nI 0))] _ _ _
      refine r_if_eq (tgt := 26) Mm dX6_puppet_19 (by decide) (fun _ => ?_) (fun c24 => absurd (by decide) c24)
      refine r_iconst (v := nI 0) Mm dX6_puppet_26 (by decide) ?_
      refine r_istore_n Mm dX6_puppet_27 (by decide) ?_
      show V 28 [some (.ref m), some (.int b), some (.int n), some (.int (nI 0))] _ _ _ _
      refine r_aload_n Mm dX6_puppet_28 rfl ?_
      refine r_iload_n Mm dX6_puppet_29 rfl ?_
      refine r_if_ne (tgt := 37) Mm dX6_puppet_30 (by decide) (fun c25 => absurd c25 (by decide)) (fun _ => ?_)
      refine r_iconst (v := nI 1) Mm dX6_puppet_33 (by decide) ?_
      refine r_goto (tgt := 51) Mm dX6_puppet_34 (by decide) ?_
      refine r_callV (As := [(.int (nI 1))]) Mm dX6_puppet_51 rfl (cm_isFine hfl h m ad hM (nI 1)) (hM.1) rfl cw_X6_94 ⟨Nat.le_of_ble_eq_true rfl, Nat.le_of_ble_eq_true rfl, Nat.le_of_ble_eq_true rfl⟩ (Nat.le_of_ble_eq_true rfl) ⟨Nat.le_of_ble_eq_true rfl, Nat.le_of_ble_eq_true rfl⟩ (fun r26 h27 p28 => ?_) (fun Er26 h27 p28 => False.elim p28)
      obtain ⟨rfl, rfl⟩ := p28
      rw [show bI (decide (nI 1 = 0)) = nI 0 from by decide]
      show V 54 _ [(.int (nI 0))] _ _ _
      refine r_if_ne (tgt := 59) Mm dX6_puppet_54 (by decide) (fun c29 => absurd c29 (by decide)) (fun _ => ?_)
      refine r_iconst (v := nI 0) Mm dX6_puppet_57 (by decide) ?_
      refine r_iret M dX6_puppet_58 ?_
      exact pMd.thr rm0 "java/lang/IllegalArgumentException" 1 (by simp only [o_puppet, oIn_ok k1, oIn_no k6]) (by decide +kernel)
  · refine r_callS (As := [(.int b), (.int (nI 0)), (.int (nI 999))]) Mm dX6_puppet_5 rfl (cm_isIn hfl h b (nI 0) (nI 999)) cw_X6_87 ⟨Nat.le_of_ble_eq_true rfl, Nat.le_of_ble_eq_true rfl, Nat.le_of_ble_eq_true rfl⟩ (Nat.le_of_ble_eq_true rfl) ⟨Nat.le_of_ble_eq_true rfl, Nat.le_of_ble_eq_true rfl⟩ (fun r30 h31 p32 => ?_) (fun Er30 h31 p32 => False.elim p32)
    obtain ⟨rfl, rfl⟩ := p32
    rw [decide_eq_false k1]
    show V 8 _ [(.int (nI 0))] _ _ _
    refine r_if_eq (tgt := 26) Mm dX6_puppet_8 (by decide) (fun _ => ?_) (fun c33 => absurd (by decide) c33)
    refine r_iconst (v := nI 0) Mm dX6_puppet_26 (by decide) ?_
    refine r_istore_n Mm dX6_puppet_27 (by decide) ?_
    show V 28 [some (.ref m), some (.int b), some (.int n), some (.int (nI 0))] _ _ _ _
    refine r_aload_n Mm dX6_puppet_28 rfl ?_
    refine r_iload_n Mm dX6_puppet_29 rfl ?_
    refine r_if_ne (tgt := 37) Mm dX6_puppet_30 (by decide) (fun c34 => absurd c34 (by decide)) (fun _ => ?_)
    refine r_iconst (v := nI 1) Mm dX6_puppet_33 (by decide) ?_
    refine r_goto (tgt := 51) Mm dX6_puppet_34 (by decide) ?_
    refine r_callV (As := [(.int (nI 1))]) Mm dX6_puppet_51 rfl (cm_isFine hfl h m ad hM (nI 1)) (hM.1) rfl cw_X6_94 ⟨Nat.le_of_ble_eq_true rfl, Nat.le_of_ble_eq_true rfl, Nat.le_of_ble_eq_true rfl⟩ (Nat.le_of_ble_eq_true rfl) ⟨Nat.le_of_ble_eq_true rfl, Nat.le_of_ble_eq_true rfl⟩ (fun r35 h36 p37 => ?_) (fun Er35 h36 p37 => False.elim p37)
    obtain ⟨rfl, rfl⟩ := p37
    rw [show bI (decide (nI 1 = 0)) = nI 0 from by decide]
    show V 54 _ [(.int (nI 0))] _ _ _
    refine r_if_ne (tgt := 59) Mm dX6_puppet_54 (by decide) (fun c38 => absurd c38 (by decide)) (fun _ => ?_)
    refine r_iconst (v := nI 0) Mm dX6_puppet_57 (by decide) ?_
    refine r_iret M dX6_puppet_58 ?_
    exact pMd.thr rm0 "java/lang/IllegalArgumentException" 1 (by simp only [o_puppet, oIn_no k1]) (by decide +kernel)
set_option maxRecDepth 100000 in
set_option maxHeartbeats 4000000 in
theorem cm_show {g : Gl} {l : Launch} (hfl : l.stackTraces = false) (h : Hp) (m : Nat) (ad : Nat → Nat) (σ : ST) (rm : RM h m ad σ) (hx : WX σ) (t n : Int32) : CT g l iX6_show 2 [.ref m, .int t, .int n] h 0 0 (pMd m ad h σ ["java/lang/IllegalArgumentException", "java/lang/IllegalStateException"] (o_show σ t n)) := by
  have hx0 := hx
  obtain ⟨hw, hx1, hx2⟩ := hx
  have hw0 := hw
  obtain ⟨w1, w2, w3, w4, w5⟩ := hw
  have rm0 := rm
  obtain ⟨hM, ⟨g1, g2, g3⟩, rp, rs, rh, rt⟩ := rm
  refine ct_mk hfl (by decide) (Nat.le_of_ble_eq_true rfl) (by intro v hv; simp only [List.mem_cons, List.not_mem_nil, or_false] at hv; rcases hv with rfl | rfl | rfl <;> rfl) (fun V X M => ?_)
  have Mm := M.m
  show V 0 [some (.ref m), some (.int t), some (.int n), none] [] _ 0 0
  refine r_iload_n Mm dX6_show_0 rfl ?_
  refine r_iconst (v := nI 0) Mm dX6_show_1 (by decide) ?_
  refine r_ldc (v := nI 100000) Mm dX6_show_2 (by rw [show nI 100000 = 100000 from rfl]; exact cc_X6_116) ?_
  by_cases k1 : (nI 0) ≤ t ∧ t ≤ (nI 100000)
  · refine r_callS (As := [(.int t), (.int (nI 0)), (.int (nI 100000))]) Mm dX6_show_4 rfl (cm_isIn hfl h t (nI 0) (nI 100000)) cw_X6_87 ⟨Nat.le_of_ble_eq_true rfl, Nat.le_of_ble_eq_true rfl, Nat.le_of_ble_eq_true rfl⟩ (Nat.le_of_ble_eq_true rfl) ⟨Nat.le_of_ble_eq_true rfl, Nat.le_of_ble_eq_true rfl⟩ (fun r2 h3 p4 => ?_) (fun Er2 h3 p4 => False.elim p4)
    obtain ⟨rfl, rfl⟩ := p4
    rw [decide_eq_true k1]
    show V 7 _ [(.int (nI 1))] _ _ _
    refine r_if_eq (tgt := 25) Mm dX6_show_7 (by decide) (fun c5 => absurd c5 (by decide)) (fun _ => ?_)
    refine r_iload_n Mm dX6_show_10 rfl ?_
    refine r_iconst (v := nI 1) Mm dX6_show_11 (by decide) ?_
    refine r_sipush (v := nI 600) Mm dX6_show_12 (by decide) ?_
    by_cases k6 : (nI 1) ≤ n ∧ n ≤ (nI 600)
    · refine r_callS (As := [(.int n), (.int (nI 1)), (.int (nI 600))]) Mm dX6_show_15 rfl (cm_isIn hfl h n (nI 1) (nI 600)) cw_X6_87 ⟨Nat.le_of_ble_eq_true rfl, Nat.le_of_ble_eq_true rfl, Nat.le_of_ble_eq_true rfl⟩ (Nat.le_of_ble_eq_true rfl) ⟨Nat.le_of_ble_eq_true rfl, Nat.le_of_ble_eq_true rfl⟩ (fun r7 h8 p9 => ?_) (fun Er7 h8 p9 => False.elim p9)
      obtain ⟨rfl, rfl⟩ := p9
      rw [decide_eq_true k6]
      show V 18 _ [(.int (nI 1))] _ _ _
      refine r_if_eq (tgt := 25) Mm dX6_show_18 (by decide) (fun c10 => absurd c10 (by decide)) (fun _ => ?_)
      refine r_iconst (v := nI 1) Mm dX6_show_21 (by decide) ?_
      refine r_goto (tgt := 26) Mm dX6_show_22 (by decide) ?_
      refine r_istore_n Mm dX6_show_26 (by decide) ?_
      show V 27 [some (.ref m), some (.int t), some (.int n), some (.int (nI 1))] _ _ _ _
      refine r_aload_n Mm dX6_show_27 rfl ?_
      refine r_iload_n Mm dX6_show_28 rfl ?_
      refine r_if_ne (tgt := 36) Mm dX6_show_29 (by decide) (fun _ => ?_) (fun c11 => absurd c11 (by decide))
      refine r_aload_n Mm dX6_show_36 rfl ?_
      refine r_getI Mm dX6_show_37 fi_X6_91 (hM.1) rfl (i := 621) rfl ?_
      refine r_top _ (nI (eM σ)) (g2) ?_
      refine r_bipush (v := nI 6) Mm dX6_show_40 (by decide) ?_
      refine r_icmp_neN (tgt := 49) Mm dX6_show_42 (by decide) (by omega) (by omega) (fun c12 => ?_) (fun c12 => ?_)
      · refine r_iconst (v := nI 0) Mm dX6_show_49 (by decide) ?_
        refine r_callV (As := [(.int (nI 0))]) Mm dX6_show_50 rfl (cm_isFine hfl h m ad hM (nI 0)) (hM.1) rfl cw_X6_94 ⟨Nat.le_of_ble_eq_true rfl, Nat.le_of_ble_eq_true rfl, Nat.le_of_ble_eq_true rfl⟩ (Nat.le_of_ble_eq_true rfl) ⟨Nat.le_of_ble_eq_true rfl, Nat.le_of_ble_eq_true rfl⟩ (fun r13 h14 p15 => ?_) (fun Er13 h14 p15 => False.elim p15)
        obtain ⟨rfl, rfl⟩ := p15
        rw [show bI (decide (nI 0 = 0)) = nI 1 from by decide]
        obtain ⟨hz, fz, z0, rz, ez⟩ : ∃ z, Fr (MW m ad) h z ∧ xF z 600 m = nI 0 ∧ RM z m ad σ ∧ z = yF h 600 m (nI 0) := ⟨_, Fr.yF (Or.inl rfl), u2_s _ _ _ _, rm0.f0 _, rfl⟩
        rw [← ez]
        clear ez
        have rz0 := rz
        obtain ⟨hMz, ⟨gz1, gz2, gz3⟩, rpz, rsz, rhz, rtz⟩ := rz
        show V 53 _ [(.int (nI 1))] _ _ _
        refine r_if_ne (tgt := 58) Mm dX6_show_53 (by decide) (fun _ => ?_) (fun c16 => absurd c16 (by decide))
        refine r_aload_n Mm dX6_show_58 rfl ?_
        refine r_getR Mm dX6_show_59 fi_X6_49 (hMz.1) rfl (i := 615) rfl ((hMz.2.1 15 8 6 (by decide)).1) ?_
        refine r_aload_n Mm dX6_show_62 rfl ?_
        refine r_getI Mm dX6_show_63 fi_X6_91 (hMz.1) rfl (i := 621) rfl ?_
        refine r_top _ (nI (eM σ)) (gz2) ?_
        refine r_iload_n Mm dX6_show_66 rfl ?_
        refine r_iastN Mm dX6_show_67 ((hMz.2.1 15 8 6 (by decide)).2) (by omega) (by omega) ?_
        refine r_aload_n Mm dX6_show_68 rfl ?_
        refine r_getR Mm dX6_show_69 fi_X6_52 (hMz.1) rfl (i := 616) rfl ((hMz.2.1 16 8 6 (by decide)).1) ?_
        refine r_aload_n Mm dX6_show_72 rfl ?_
        refine r_getI Mm dX6_show_73 fi_X6_91 (hMz.1) rfl (i := 621) rfl ?_
        refine r_top _ (nI (eM σ)) (by rw [zxF_yA]; exact gz2) ?_
        refine r_iload_n Mm dX6_show_76 rfl ?_
        refine r_iastN Mm dX6_show_77 ((hMz.2.1 16 8 6 (by decide)).2) (by omega) (by omega) ?_
        refine r_aload_n Mm dX6_show_78 rfl ?_
        refine r_dup Mm dX6_show_79 rfl ?_
        refine r_getI Mm dX6_show_80 fi_X6_91 (hMz.1) rfl (i := 621) rfl ?_
        refine r_top _ (nI (eM σ)) (by rw [zxF_yA,zxF_yA]; exact gz2) ?_
        refine r_iconst (v := nI 1) Mm dX6_show_83 (by decide) ?_
        refine r_iaddN Mm dX6_show_84 ?_
        refine r_putI (ty := .int) Mm dX6_show_85 fi_X6_91 ki_6 rfl (hMz.1) rfl (i := 621) rfl rfl (by decide +kernel) rfl rfl ?_
        refine r_aload_n Mm dX6_show_88 rfl ?_
        refine r_getI Mm dX6_show_89 fi_X6_91 (hMz.1) rfl (i := 621) rfl ?_
        refine r_top _ (nI ((eM σ) + 1)) (by rw [zxF_yF, if_pos ⟨rfl, rfl⟩]) ?_
        refine r_iconst (v := nI 1) Mm dX6_show_92 (by decide) ?_
        refine r_isubN Mm dX6_show_93 (by omega) ?_
        refine r_top _ (nI (eM σ)) (by congr 1) ?_
        refine r_iret M dX6_show_94 ?_
        exact pMd.ret fz z0 (by simp only [o_show, oIn_ok k1, oIn_ok k6, if_pos (by omega : eM σ < 6)]) (Fr.tr (Fr.tr (Fr.yA (MW.at 15 8 6 (by decide))) (Fr.yA (MW.at 16 8 6 (by decide)))) (Fr.yF (Or.inl rfl))) (by rw [zxF_yF, if_neg (fun z => absurd z.1 (by decide)), zxF_yA, zxF_yA]) (rz0.newShow t n (by omega) (hx2 _ (Nat.le_refl _)))
      · refine r_iconst (v := nI 2) Mm dX6_show_45 (by decide) ?_
        refine r_goto (tgt := 50) Mm dX6_show_46 (by decide) ?_
        refine r_callV (As := [(.int (nI 2))]) Mm dX6_show_50 rfl (cm_isFine hfl h m ad hM (nI 2)) (hM.1) rfl cw_X6_94 ⟨Nat.le_of_ble_eq_true rfl, Nat.le_of_ble_eq_true rfl, Nat.le_of_ble_eq_true rfl⟩ (Nat.le_of_ble_eq_true rfl) ⟨Nat.le_of_ble_eq_true rfl, Nat.le_of_ble_eq_true rfl⟩ (fun r17 h18 p19 => ?_) (fun Er17 h18 p19 => False.elim p19)
        obtain ⟨rfl, rfl⟩ := p19
        rw [show bI (decide (nI 2 = 0)) = nI 0 from by decide]
        show V 53 _ [(.int (nI 0))] _ _ _
        refine r_if_ne (tgt := 58) Mm dX6_show_53 (by decide) (fun c20 => absurd c20 (by decide)) (fun _ => ?_)
        refine r_iconst (v := nI 0) Mm dX6_show_56 (by decide) ?_
        refine r_iret M dX6_show_57 ?_
        exact pMd.thr rm0 "java/lang/IllegalStateException" 2 (by simp only [o_show, oIn_ok k1, oIn_ok k6, if_neg (by omega : ¬ eM σ < 6)]) (by decide +kernel)
    · refine r_callS (As := [(.int n), (.int (nI 1)), (.int (nI 600))]) Mm dX6_show_15 rfl (cm_isIn hfl h n (nI 1) (nI 600)) cw_X6_87 ⟨Nat.le_of_ble_eq_true rfl, Nat.le_of_ble_eq_true rfl, Nat.le_of_ble_eq_true rfl⟩ (Nat.le_of_ble_eq_true rfl) ⟨Nat.le_of_ble_eq_true rfl, Nat.le_of_ble_eq_true rfl⟩ (fun r21 h22 p23 => ?_) (fun Er21 h22 p23 => False.elim p23)
      obtain ⟨rfl, rfl⟩ := p23
      rw [decide_eq_false k6]
      show V 18 _ [(.int (nI 0))] _ _ _
      refine r_if_eq (tgt := 25) Mm dX6_show_18 (by decide) (fun _ => ?_) (fun c24 => absurd (by decide) c24)
      refine r_iconst (v := nI 0) Mm dX6_show_25 (by decide) ?_
      refine r_istore_n Mm dX6_show_26 (by decide) ?_
      show V 27 [some (.ref m), some (.int t), some (.int n), some (.int (nI 0))] _ _ _ _
      refine r_aload_n Mm dX6_show_27 rfl ?_
      refine r_iload_n Mm dX6_show_28 rfl ?_
      refine r_if_ne (tgt := 36) Mm dX6_show_29 (by decide) (fun c25 => absurd c25 (by decide)) (fun _ => ?_)
      refine r_iconst (v := nI 1) Mm dX6_show_32 (by decide) ?_
      refine r_goto (tgt := 50) Mm dX6_show_33 (by decide) ?_
      refine r_callV (As := [(.int (nI 1))]) Mm dX6_show_50 rfl (cm_isFine hfl h m ad hM (nI 1)) (hM.1) rfl cw_X6_94 ⟨Nat.le_of_ble_eq_true rfl, Nat.le_of_ble_eq_true rfl, Nat.le_of_ble_eq_true rfl⟩ (Nat.le_of_ble_eq_true rfl) ⟨Nat.le_of_ble_eq_true rfl, Nat.le_of_ble_eq_true rfl⟩ (fun r26 h27 p28 => ?_) (fun Er26 h27 p28 => False.elim p28)
      obtain ⟨rfl, rfl⟩ := p28
      rw [show bI (decide (nI 1 = 0)) = nI 0 from by decide]
      show V 53 _ [(.int (nI 0))] _ _ _
      refine r_if_ne (tgt := 58) Mm dX6_show_53 (by decide) (fun c29 => absurd c29 (by decide)) (fun _ => ?_)
      refine r_iconst (v := nI 0) Mm dX6_show_56 (by decide) ?_
      refine r_iret M dX6_show_57 ?_
      exact pMd.thr rm0 "java/lang/IllegalArgumentException" 1 (by simp only [o_show, oIn_ok k1, oIn_no k6]) (by decide +kernel)
  · refine r_callS (As := [(.int t), (.int (nI 0)), (.int (nI 100000))]) Mm dX6_show_4 rfl (cm_isIn hfl h t (nI 0) (nI 100000)) cw_X6_87 ⟨Nat.le_of_ble_eq_true rfl, Nat.le_of_ble_eq_true rfl, Nat.le_of_ble_eq_true rfl⟩ (Nat.le_of_ble_eq_true rfl) ⟨Nat.le_of_ble_eq_true rfl, Nat.le_of_ble_eq_true rfl⟩ (fun r30 h31 p32 => ?_) (fun Er30 h31 p32 => False.elim p32)
    obtain ⟨rfl, rfl⟩ := p32
    rw [decide_eq_false k1]
    show V 7 _ [(.int (nI 0))] _ _ _
    refine r_if_eq (tgt := 25) Mm dX6_show_7 (by decide) (fun _ => ?_) (fun c33 => absurd (by decide) c33)
    refine r_iconst (v := nI 0) Mm dX6_show_25 (by decide) ?_
    refine r_istore_n Mm dX6_show_26 (by decide) ?_
    show V 27 [some (.ref m), some (.int t), some (.int n), some (.int (nI 0))] _ _ _ _
    refine r_aload_n Mm dX6_show_27 rfl ?_
    refine r_iload_n Mm dX6_show_28 rfl ?_
    refine r_if_ne (tgt := 36) Mm dX6_show_29 (by decide) (fun c34 => absurd c34 (by decide)) (fun _ => ?_)
    refine r_iconst (v := nI 1) Mm dX6_show_32 (by decide) ?_
    refine r_goto (tgt := 50) Mm dX6_show_33 (by decide) ?_
    refine r_callV (As := [(.int (nI 1))]) Mm dX6_show_50 rfl (cm_isFine hfl h m ad hM (nI 1)) (hM.1) rfl cw_X6_94 ⟨Nat.le_of_ble_eq_true rfl, Nat.le_of_ble_eq_true rfl, Nat.le_of_ble_eq_true rfl⟩ (Nat.le_of_ble_eq_true rfl) ⟨Nat.le_of_ble_eq_true rfl, Nat.le_of_ble_eq_true rfl⟩ (fun r35 h36 p37 => ?_) (fun Er35 h36 p37 => False.elim p37)
    obtain ⟨rfl, rfl⟩ := p37
    rw [show bI (decide (nI 1 = 0)) = nI 0 from by decide]
    show V 53 _ [(.int (nI 0))] _ _ _
    refine r_if_ne (tgt := 58) Mm dX6_show_53 (by decide) (fun c38 => absurd c38 (by decide)) (fun _ => ?_)
    refine r_iconst (v := nI 0) Mm dX6_show_56 (by decide) ?_
    refine r_iret M dX6_show_57 ?_
    exact pMd.thr rm0 "java/lang/IllegalArgumentException" 1 (by simp only [o_show, oIn_no k1]) (by decide +kernel)
set_option maxRecDepth 100000 in
set_option maxHeartbeats 4000000 in
theorem cm_cast {g : Gl} {l : Launch} (hfl : l.stackTraces = false) (h : Hp) (m : Nat) (ad : Nat → Nat) (σ : ST) (rm : RM h m ad σ) (hw : WF σ) (q p : Int32) : CT g l iX6_cast 3 [.ref m, .int q, .int p] h 0 0 (pMd m ad h σ ["java/lang/IndexOutOfBoundsException", "java/lang/IllegalStateException"] (o_cast σ q p)) := by
  have hw0 := hw
  obtain ⟨w1, w2, w3, w4, w5⟩ := hw
  have rm0 := rm
  obtain ⟨hM, ⟨g1, g2, g3⟩, rp, rs, rh, rt⟩ := rm
  refine ct_mk hfl (by decide) (Nat.le_of_ble_eq_true rfl) (by intro v hv; simp only [List.mem_cons, List.not_mem_nil, or_false] at hv; rcases hv with rfl | rfl | rfl <;> rfl) (fun V X M => ?_)
  have Mm := M.m
  show V 0 [some (.ref m), some (.int q), some (.int p), none, none] [] _ 0 0
  refine r_aload_n Mm dX6_cast_0 rfl ?_
  refine r_iload_n Mm dX6_cast_1 rfl ?_
  by_cases k1 : 0 ≤ q ∧ q < nI (eM σ)
  · refine r_callV (As := [(.int q)]) Mm dX6_cast_2 rfl (cm_isShow hfl h m (eM σ) q hM.1 (by omega) g2) (hM.1) rfl cw_X6_121 ⟨Nat.le_of_ble_eq_true rfl, Nat.le_of_ble_eq_true rfl, Nat.le_of_ble_eq_true rfl⟩ (Nat.le_of_ble_eq_true rfl) ⟨Nat.le_of_ble_eq_true rfl, Nat.le_of_ble_eq_true rfl⟩ (fun r2 h3 p4 => ?_) (fun Er2 h3 p4 => False.elim p4)
    obtain ⟨rfl, rfl⟩ := p4
    rw [decide_eq_true k1]
    obtain ⟨j, hj, rfl⟩ := in_ex k1 (by omega)
    have ecj : (nI j).toNatClampNeg = j := nI_clamp (by omega)
    show V 5 _ [(.int (nI 1))] _ _ _
    refine r_if_eq (tgt := 20) Mm dX6_cast_5 (by decide) (fun c5 => absurd c5 (by decide)) (fun _ => ?_)
    refine r_aload_n Mm dX6_cast_8 rfl ?_
    refine r_iload_n Mm dX6_cast_9 rfl ?_
    by_cases k6 : 0 ≤ p ∧ p < nI (eN σ)
    · refine r_callV (As := [(.int p)]) Mm dX6_cast_10 rfl (cm_isPuppet hfl h m (eN σ) p hM.1 (by omega) g1) (hM.1) rfl cw_X6_98 ⟨Nat.le_of_ble_eq_true rfl, Nat.le_of_ble_eq_true rfl, Nat.le_of_ble_eq_true rfl⟩ (Nat.le_of_ble_eq_true rfl) ⟨Nat.le_of_ble_eq_true rfl, Nat.le_of_ble_eq_true rfl⟩ (fun r7 h8 p9 => ?_) (fun Er7 h8 p9 => False.elim p9)
      obtain ⟨rfl, rfl⟩ := p9
      rw [decide_eq_true k6]
      obtain ⟨i, hi, rfl⟩ := in_ex k6 (by omega)
      have eci : (nI i).toNatClampNeg = i := nI_clamp (by omega)
      show V 13 _ [(.int (nI 1))] _ _ _
      refine r_if_eq (tgt := 20) Mm dX6_cast_13 (by decide) (fun c10 => absurd c10 (by decide)) (fun _ => ?_)
      refine r_iconst (v := nI 1) Mm dX6_cast_16 (by decide) ?_
      refine r_goto (tgt := 21) Mm dX6_cast_17 (by decide) ?_
      refine r_istore_n Mm dX6_cast_21 (by decide) ?_
      show V 22 [some (.ref m), some (.int (nI j)), some (.int (nI i)), some (.int (nI 1)), none] _ _ _ _
      refine r_iload_n Mm dX6_cast_22 rfl ?_
      refine r_if_eq (tgt := 84) Mm dX6_cast_23 (by decide) (fun c11 => absurd c11 (by decide)) (fun _ => ?_)
      refine r_aload_n Mm dX6_cast_26 rfl ?_
      refine r_getR Mm dX6_cast_27 fi_X6_55 (hM.1) rfl (i := 617) rfl ((hM.2.1 17 9 6 (by decide)).1) ?_
      refine r_iload_n Mm dX6_cast_30 rfl ?_
      refine r_zaldN Mm dX6_cast_31 ((hM.2.1 17 9 6 (by decide)).2) (by omega) (by omega) ?_
      refine r_top _ (bI (tDone (eS σ j))) ((rs j (by omega)).2.2.1) ?_
      refine r_if_neB (tgt := 84) Mm dX6_cast_32 (by decide) (fun c12 => ?_) (fun c12 => ?_)
      · refine r_iconst (v := nI 0) Mm dX6_cast_84 (by decide) ?_
        refine r_istore Mm dX6_cast_85 (by decide) ?_
        show V 87 [some (.ref m), some (.int (nI j)), some (.int (nI i)), some (.int (nI 1)), some (.int (nI 0))] _ _ _ _
        refine r_aload_n Mm dX6_cast_87 rfl ?_
        refine r_iload_n Mm dX6_cast_88 rfl ?_
        refine r_if_ne (tgt := 96) Mm dX6_cast_89 (by decide) (fun _ => ?_) (fun c13 => absurd c13 (by decide))
        refine r_iload Mm dX6_cast_96 rfl ?_
        refine r_if_ne (tgt := 105) Mm dX6_cast_98 (by decide) (fun c14 => absurd c14 (by decide)) (fun _ => ?_)
        refine r_iconst (v := nI 2) Mm dX6_cast_101 (by decide) ?_
        refine r_goto (tgt := 106) Mm dX6_cast_102 (by decide) ?_
        refine r_callV (As := [(.int (nI 2))]) Mm dX6_cast_106 rfl (cm_isFine hfl h m ad hM (nI 2)) (hM.1) rfl cw_X6_94 ⟨Nat.le_of_ble_eq_true rfl, Nat.le_of_ble_eq_true rfl, Nat.le_of_ble_eq_true rfl⟩ (Nat.le_of_ble_eq_true rfl) ⟨Nat.le_of_ble_eq_true rfl, Nat.le_of_ble_eq_true rfl⟩ (fun r15 h16 p17 => ?_) (fun Er15 h16 p17 => False.elim p17)
        obtain ⟨rfl, rfl⟩ := p17
        rw [show bI (decide (nI 2 = 0)) = nI 0 from by decide]
        show V 109 _ [(.int (nI 0))] _ _ _
        refine r_if_ne (tgt := 114) Mm dX6_cast_109 (by decide) (fun c18 => absurd c18 (by decide)) (fun _ => ?_)
        refine r_iconst (v := nI 0) Mm dX6_cast_112 (by decide) ?_
        refine r_iret M dX6_cast_113 ?_
        exact pMd.thr rm0 "java/lang/IllegalStateException" 2 (by simp only [o_cast, oSh_ok k1 ecj, oPu_ok k6 eci, if_pos (Or.inl c12 : tDone (eS σ j) = true ∨ tCast (eS σ j) i = true)]) (by decide +kernel)
      · refine r_aload_n Mm dX6_cast_35 rfl ?_
        refine r_getR Mm dX6_cast_36 fi_X6_65 (hM.1) rfl (i := 620) rfl ((hM.2.1 20 9 48 (by decide)).1) ?_
        refine r_bipush (v := nI 8) Mm dX6_cast_39 (by decide) ?_
        refine r_iload_n Mm dX6_cast_41 rfl ?_
        refine r_imulN Mm dX6_cast_42 ?_
        refine r_iload_n Mm dX6_cast_43 rfl ?_
        refine r_iaddN Mm dX6_cast_44 ?_
        refine r_zaldN Mm dX6_cast_45 ((hM.2.1 20 9 48 (by decide)).2) (by omega) (by omega) ?_
        refine r_top _ (bI (tCast (eS σ j) i)) ((rs j (by omega)).2.2.2.2.2 i (by omega)) ?_
        refine r_if_neB (tgt := 84) Mm dX6_cast_46 (by decide) (fun c19 => ?_) (fun c19 => ?_)
        · refine r_iconst (v := nI 0) Mm dX6_cast_84 (by decide) ?_
          refine r_istore Mm dX6_cast_85 (by decide) ?_
          show V 87 [some (.ref m), some (.int (nI j)), some (.int (nI i)), some (.int (nI 1)), some (.int (nI 0))] _ _ _ _
          refine r_aload_n Mm dX6_cast_87 rfl ?_
          refine r_iload_n Mm dX6_cast_88 rfl ?_
          refine r_if_ne (tgt := 96) Mm dX6_cast_89 (by decide) (fun _ => ?_) (fun c20 => absurd c20 (by decide))
          refine r_iload Mm dX6_cast_96 rfl ?_
          refine r_if_ne (tgt := 105) Mm dX6_cast_98 (by decide) (fun c21 => absurd c21 (by decide)) (fun _ => ?_)
          refine r_iconst (v := nI 2) Mm dX6_cast_101 (by decide) ?_
          refine r_goto (tgt := 106) Mm dX6_cast_102 (by decide) ?_
          refine r_callV (As := [(.int (nI 2))]) Mm dX6_cast_106 rfl (cm_isFine hfl h m ad hM (nI 2)) (hM.1) rfl cw_X6_94 ⟨Nat.le_of_ble_eq_true rfl, Nat.le_of_ble_eq_true rfl, Nat.le_of_ble_eq_true rfl⟩ (Nat.le_of_ble_eq_true rfl) ⟨Nat.le_of_ble_eq_true rfl, Nat.le_of_ble_eq_true rfl⟩ (fun r22 h23 p24 => ?_) (fun Er22 h23 p24 => False.elim p24)
          obtain ⟨rfl, rfl⟩ := p24
          rw [show bI (decide (nI 2 = 0)) = nI 0 from by decide]
          show V 109 _ [(.int (nI 0))] _ _ _
          refine r_if_ne (tgt := 114) Mm dX6_cast_109 (by decide) (fun c25 => absurd c25 (by decide)) (fun _ => ?_)
          refine r_iconst (v := nI 0) Mm dX6_cast_112 (by decide) ?_
          refine r_iret M dX6_cast_113 ?_
          exact pMd.thr rm0 "java/lang/IllegalStateException" 2 (by simp only [o_cast, oSh_ok k1 ecj, oPu_ok k6 eci, if_pos (Or.inr c19 : tDone (eS σ j) = true ∨ tCast (eS σ j) i = true)]) (by decide +kernel)
        · have hw99 := (w3 i hi).2.2.2.2.2.2.1
          refine r_aload_n Mm dX6_cast_49 rfl ?_
          refine r_getR Mm dX6_cast_50 fi_X6_22 (hM.1) rfl (i := 605) rfl ((hM.2.1 5 8 8 (by decide)).1) ?_
          refine r_iload_n Mm dX6_cast_53 rfl ?_
          refine r_ialdN Mm dX6_cast_54 ((hM.2.1 5 8 8 (by decide)).2) (by omega) (by omega) ?_
          refine r_top _ (nI (qWorn (eP σ i))) ((rp i (by omega)).2.2.2.2.1) ?_
          refine r_bipush (v := nI 50) Mm dX6_cast_55 (by decide) ?_
          refine r_icmp_geN (tgt := 84) Mm dX6_cast_57 (by decide) (by omega) (by omega) (fun c26 => ?_) (fun c26 => ?_)
          · refine r_iconst (v := nI 0) Mm dX6_cast_84 (by decide) ?_
            refine r_istore Mm dX6_cast_85 (by decide) ?_
            show V 87 [some (.ref m), some (.int (nI j)), some (.int (nI i)), some (.int (nI 1)), some (.int (nI 0))] _ _ _ _
            refine r_aload_n Mm dX6_cast_87 rfl ?_
            refine r_iload_n Mm dX6_cast_88 rfl ?_
            refine r_if_ne (tgt := 96) Mm dX6_cast_89 (by decide) (fun _ => ?_) (fun c27 => absurd c27 (by decide))
            refine r_iload Mm dX6_cast_96 rfl ?_
            refine r_if_ne (tgt := 105) Mm dX6_cast_98 (by decide) (fun c28 => absurd c28 (by decide)) (fun _ => ?_)
            refine r_iconst (v := nI 2) Mm dX6_cast_101 (by decide) ?_
            refine r_goto (tgt := 106) Mm dX6_cast_102 (by decide) ?_
            refine r_callV (As := [(.int (nI 2))]) Mm dX6_cast_106 rfl (cm_isFine hfl h m ad hM (nI 2)) (hM.1) rfl cw_X6_94 ⟨Nat.le_of_ble_eq_true rfl, Nat.le_of_ble_eq_true rfl, Nat.le_of_ble_eq_true rfl⟩ (Nat.le_of_ble_eq_true rfl) ⟨Nat.le_of_ble_eq_true rfl, Nat.le_of_ble_eq_true rfl⟩ (fun r29 h30 p31 => ?_) (fun Er29 h30 p31 => False.elim p31)
            obtain ⟨rfl, rfl⟩ := p31
            rw [show bI (decide (nI 2 = 0)) = nI 0 from by decide]
            show V 109 _ [(.int (nI 0))] _ _ _
            refine r_if_ne (tgt := 114) Mm dX6_cast_109 (by decide) (fun c32 => absurd c32 (by decide)) (fun _ => ?_)
            refine r_iconst (v := nI 0) Mm dX6_cast_112 (by decide) ?_
            refine r_iret M dX6_cast_113 ?_
            exact pMd.thr rm0 "java/lang/IllegalStateException" 2 (by simp only [o_cast, oSh_ok k1 ecj, oPu_ok k6 eci, if_neg (or_no c12 c19 : ¬ (tDone (eS σ j) = true ∨ tCast (eS σ j) i = true)), if_pos (Or.inl c26 : 50 ≤ qWorn (eP σ i) ∨ takenS σ i (tSpan (eS σ j)) = true)]) (by decide +kernel)
          · refine r_aload_n Mm dX6_cast_60 rfl ?_
            refine r_iload_n Mm dX6_cast_61 rfl ?_
            refine r_aload_n Mm dX6_cast_62 rfl ?_
            refine r_getR Mm dX6_cast_63 fi_X6_49 (hM.1) rfl (i := 615) rfl ((hM.2.1 15 8 6 (by decide)).1) ?_
            refine r_iload_n Mm dX6_cast_66 rfl ?_
            refine r_ialdN Mm dX6_cast_67 ((hM.2.1 15 8 6 (by decide)).2) (by omega) (by omega) ?_
            refine r_top _ (tSpan (eS σ j)).1 ((rs j (by omega)).1) ?_
            refine r_aload_n Mm dX6_cast_68 rfl ?_
            refine r_getR Mm dX6_cast_69 fi_X6_52 (hM.1) rfl (i := 616) rfl ((hM.2.1 16 8 6 (by decide)).1) ?_
            refine r_iload_n Mm dX6_cast_72 rfl ?_
            refine r_ialdN Mm dX6_cast_73 ((hM.2.1 16 8 6 (by decide)).2) (by omega) (by omega) ?_
            refine r_top _ (tSpan (eS σ j)).2 ((rs j (by omega)).2.1) ?_
            refine r_callV (As := [(.int (nI i)), (.int (tSpan (eS σ j)).1), (.int (tSpan (eS σ j)).2)]) Mm dX6_cast_74 rfl (cm_busy hfl h m ad hM i (eP σ i) (by omega) (rp i (by omega)) (w3 i hi).2.2.2.2.2.2.2 (eS σ) (eM σ) w2 rs g2 (tSpan (eS σ j)).1 (tSpan (eS σ j)).2) (hM.1) rfl cw_X6_124 ⟨Nat.le_of_ble_eq_true rfl, Nat.le_of_ble_eq_true rfl, Nat.le_of_ble_eq_true rfl⟩ (Nat.le_of_ble_eq_true rfl) ⟨Nat.le_of_ble_eq_true rfl, Nat.le_of_ble_eq_true rfl⟩ (fun r33 h34 p35 => ?_) (fun Er33 h34 p35 => False.elim p35)
            obtain ⟨rfl, rfl⟩ := p35
            show V 77 _ [(.int (bI (takenS σ i ((tSpan (eS σ j)).1, (tSpan (eS σ j)).2))))] _ _ _
            refine r_if_neB (tgt := 84) Mm dX6_cast_77 (by decide) (fun c36 => ?_) (fun c36 => ?_)
            · refine r_iconst (v := nI 0) Mm dX6_cast_84 (by decide) ?_
              refine r_istore Mm dX6_cast_85 (by decide) ?_
              show V 87 [some (.ref m), some (.int (nI j)), some (.int (nI i)), some (.int (nI 1)), some (.int (nI 0))] _ _ _ _
              refine r_aload_n Mm dX6_cast_87 rfl ?_
              refine r_iload_n Mm dX6_cast_88 rfl ?_
              refine r_if_ne (tgt := 96) Mm dX6_cast_89 (by decide) (fun _ => ?_) (fun c37 => absurd c37 (by decide))
              refine r_iload Mm dX6_cast_96 rfl ?_
              refine r_if_ne (tgt := 105) Mm dX6_cast_98 (by decide) (fun c38 => absurd c38 (by decide)) (fun _ => ?_)
              refine r_iconst (v := nI 2) Mm dX6_cast_101 (by decide) ?_
              refine r_goto (tgt := 106) Mm dX6_cast_102 (by decide) ?_
              refine r_callV (As := [(.int (nI 2))]) Mm dX6_cast_106 rfl (cm_isFine hfl h m ad hM (nI 2)) (hM.1) rfl cw_X6_94 ⟨Nat.le_of_ble_eq_true rfl, Nat.le_of_ble_eq_true rfl, Nat.le_of_ble_eq_true rfl⟩ (Nat.le_of_ble_eq_true rfl) ⟨Nat.le_of_ble_eq_true rfl, Nat.le_of_ble_eq_true rfl⟩ (fun r39 h40 p41 => ?_) (fun Er39 h40 p41 => False.elim p41)
              obtain ⟨rfl, rfl⟩ := p41
              rw [show bI (decide (nI 2 = 0)) = nI 0 from by decide]
              show V 109 _ [(.int (nI 0))] _ _ _
              refine r_if_ne (tgt := 114) Mm dX6_cast_109 (by decide) (fun c42 => absurd c42 (by decide)) (fun _ => ?_)
              refine r_iconst (v := nI 0) Mm dX6_cast_112 (by decide) ?_
              refine r_iret M dX6_cast_113 ?_
              exact pMd.thr rm0 "java/lang/IllegalStateException" 2 (by simp only [o_cast, oSh_ok k1 ecj, oPu_ok k6 eci, if_neg (or_no c12 c19 : ¬ (tDone (eS σ j) = true ∨ tCast (eS σ j) i = true)), if_pos (Or.inr c36 : 50 ≤ qWorn (eP σ i) ∨ takenS σ i (tSpan (eS σ j)) = true)]) (by decide +kernel)
            · refine r_iconst (v := nI 1) Mm dX6_cast_80 (by decide) ?_
              refine r_goto (tgt := 85) Mm dX6_cast_81 (by decide) ?_
              refine r_istore Mm dX6_cast_85 (by decide) ?_
              show V 87 [some (.ref m), some (.int (nI j)), some (.int (nI i)), some (.int (nI 1)), some (.int (nI 1))] _ _ _ _
              refine r_aload_n Mm dX6_cast_87 rfl ?_
              refine r_iload_n Mm dX6_cast_88 rfl ?_
              refine r_if_ne (tgt := 96) Mm dX6_cast_89 (by decide) (fun _ => ?_) (fun c43 => absurd c43 (by decide))
              refine r_iload Mm dX6_cast_96 rfl ?_
              refine r_if_ne (tgt := 105) Mm dX6_cast_98 (by decide) (fun _ => ?_) (fun c44 => absurd c44 (by decide))
              refine r_iconst (v := nI 0) Mm dX6_cast_105 (by decide) ?_
              refine r_callV (As := [(.int (nI 0))]) Mm dX6_cast_106 rfl (cm_isFine hfl h m ad hM (nI 0)) (hM.1) rfl cw_X6_94 ⟨Nat.le_of_ble_eq_true rfl, Nat.le_of_ble_eq_true rfl, Nat.le_of_ble_eq_true rfl⟩ (Nat.le_of_ble_eq_true rfl) ⟨Nat.le_of_ble_eq_true rfl, Nat.le_of_ble_eq_true rfl⟩ (fun r45 h46 p47 => ?_) (fun Er45 h46 p47 => False.elim p47)
              obtain ⟨rfl, rfl⟩ := p47
              rw [show bI (decide (nI 0 = 0)) = nI 1 from by decide]
              obtain ⟨hz, fz, z0, rz, ez⟩ : ∃ z, Fr (MW m ad) h z ∧ xF z 600 m = nI 0 ∧ RM z m ad σ ∧ z = yF h 600 m (nI 0) := ⟨_, Fr.yF (Or.inl rfl), u2_s _ _ _ _, rm0.f0 _, rfl⟩
              rw [← ez]
              clear ez
              have rz0 := rz
              obtain ⟨hMz, ⟨gz1, gz2, gz3⟩, rpz, rsz, rhz, rtz⟩ := rz
              show V 109 _ [(.int (nI 1))] _ _ _
              refine r_if_ne (tgt := 114) Mm dX6_cast_109 (by decide) (fun _ => ?_) (fun c48 => absurd c48 (by decide))
              refine r_aload_n Mm dX6_cast_114 rfl ?_
              refine r_getR Mm dX6_cast_115 fi_X6_65 (hMz.1) rfl (i := 620) rfl ((hMz.2.1 20 9 48 (by decide)).1) ?_
              refine r_bipush (v := nI 8) Mm dX6_cast_118 (by decide) ?_
              refine r_iload_n Mm dX6_cast_120 rfl ?_
              refine r_imulN Mm dX6_cast_121 ?_
              refine r_iload_n Mm dX6_cast_122 rfl ?_
              refine r_iaddN Mm dX6_cast_123 ?_
              refine r_iconst (v := nI 1) Mm dX6_cast_124 (by decide) ?_
              refine r_zastN Mm dX6_cast_125 ((hMz.2.1 20 9 48 (by decide)).2) (by omega) (by omega) (by decide) ?_
              refine r_aload_n Mm dX6_cast_126 rfl ?_
              refine r_iload_n Mm dX6_cast_127 rfl ?_
              have r9 := rz0.castIs (j := j) (i := i) (by omega) (by omega) true
              rw [bI_t] at r9
              have hS9 : MSho ((yA hz (ad 20) ((8 * j) + i) (nI 1))) ad j ((eS σ j).1, upt (tCast (eS σ j)) i true, (eS σ j).2.2) := by have q := r9.2.2.2.1 j (by omega); rw [show eS (wS σ j ((eS σ j).1, upt (tCast (eS σ j)) i true, (eS σ j).2.2)) j = ((eS σ j).1, upt (tCast (eS σ j)) i true, (eS σ j).2.2) from upt_s _ _ _] at q; exact q
              have hcc : cnt (upt (tCast (eS σ j)) i true) 8 = cnt (upt (tCast (eS σ j)) i true) (eN σ) := cnt_cut (fun q hq => by
                by_cases e : q = i
                · omega
                · rw [upt_n _ _ e] at hq; exact (w4 j hj).1 q hq) 8 w1
              refine r_callV (As := [(.int (nI j))]) Mm dX6_cast_128 rfl (cm_castOf hfl ((yA hz (ad 20) ((8 * j) + i) (nI 1))) m ad r9.1 j (eN σ) ((eS σ j).1, upt (tCast (eS σ j)) i true, (eS σ j).2.2) (by omega) hS9 w1 r9.2.1.1) (hMz.1) rfl cw_X6_127 ⟨Nat.le_of_ble_eq_true rfl, Nat.le_of_ble_eq_true rfl, Nat.le_of_ble_eq_true rfl⟩ (Nat.le_of_ble_eq_true rfl) ⟨Nat.le_of_ble_eq_true rfl, Nat.le_of_ble_eq_true rfl⟩ (fun r49 h50 p51 => ?_) (fun Er49 h50 p51 => False.elim p51)
              obtain ⟨rfl, rfl⟩ := p51
              rw [show cnt (tCast ((eS σ j).1, upt (tCast (eS σ j)) i true, (eS σ j).2.2)) (eN σ) = cnt (upt (tCast (eS σ j)) i true) 8 from hcc.symm]
              show V 131 _ [(.int (nI (cnt (upt (tCast (eS σ j)) i true) 8)))] _ _ _
              refine r_iret M dX6_cast_131 ?_
              exact pMd.ret fz z0 (by simp only [o_cast, oSh_ok k1 ecj, oPu_ok k6 eci, if_neg (or_no c12 c19 : ¬ (tDone (eS σ j) = true ∨ tCast (eS σ j) i = true)), if_neg (or_noP (Nat.not_le.mpr c26) c36 : ¬ (50 ≤ qWorn (eP σ i) ∨ takenS σ i (tSpan (eS σ j)) = true))]) (Fr.yA (MW.at 20 9 48 (by decide))) (by rw [zxF_yA]) (r9)
    · refine r_callV (As := [(.int p)]) Mm dX6_cast_10 rfl (cm_isPuppet hfl h m (eN σ) p hM.1 (by omega) g1) (hM.1) rfl cw_X6_98 ⟨Nat.le_of_ble_eq_true rfl, Nat.le_of_ble_eq_true rfl, Nat.le_of_ble_eq_true rfl⟩ (Nat.le_of_ble_eq_true rfl) ⟨Nat.le_of_ble_eq_true rfl, Nat.le_of_ble_eq_true rfl⟩ (fun r52 h53 p54 => ?_) (fun Er52 h53 p54 => False.elim p54)
      obtain ⟨rfl, rfl⟩ := p54
      rw [decide_eq_false k6]
      show V 13 _ [(.int (nI 0))] _ _ _
      refine r_if_eq (tgt := 20) Mm dX6_cast_13 (by decide) (fun _ => ?_) (fun c55 => absurd (by decide) c55)
      refine r_iconst (v := nI 0) Mm dX6_cast_20 (by decide) ?_
      refine r_istore_n Mm dX6_cast_21 (by decide) ?_
      show V 22 [some (.ref m), some (.int (nI j)), some (.int p), some (.int (nI 0)), none] _ _ _ _
      refine r_iload_n Mm dX6_cast_22 rfl ?_
      refine r_if_eq (tgt := 84) Mm dX6_cast_23 (by decide) (fun _ => ?_) (fun c56 => absurd (by decide) c56)
      refine r_iconst (v := nI 0) Mm dX6_cast_84 (by decide) ?_
      refine r_istore Mm dX6_cast_85 (by decide) ?_
      show V 87 [some (.ref m), some (.int (nI j)), some (.int p), some (.int (nI 0)), some (.int (nI 0))] _ _ _ _
      refine r_aload_n Mm dX6_cast_87 rfl ?_
      refine r_iload_n Mm dX6_cast_88 rfl ?_
      refine r_if_ne (tgt := 96) Mm dX6_cast_89 (by decide) (fun c57 => absurd c57 (by decide)) (fun _ => ?_)
      refine r_iconst (v := nI 1) Mm dX6_cast_92 (by decide) ?_
      refine r_goto (tgt := 106) Mm dX6_cast_93 (by decide) ?_
      refine r_callV (As := [(.int (nI 1))]) Mm dX6_cast_106 rfl (cm_isFine hfl h m ad hM (nI 1)) (hM.1) rfl cw_X6_94 ⟨Nat.le_of_ble_eq_true rfl, Nat.le_of_ble_eq_true rfl, Nat.le_of_ble_eq_true rfl⟩ (Nat.le_of_ble_eq_true rfl) ⟨Nat.le_of_ble_eq_true rfl, Nat.le_of_ble_eq_true rfl⟩ (fun r58 h59 p60 => ?_) (fun Er58 h59 p60 => False.elim p60)
      obtain ⟨rfl, rfl⟩ := p60
      rw [show bI (decide (nI 1 = 0)) = nI 0 from by decide]
      show V 109 _ [(.int (nI 0))] _ _ _
      refine r_if_ne (tgt := 114) Mm dX6_cast_109 (by decide) (fun c61 => absurd c61 (by decide)) (fun _ => ?_)
      refine r_iconst (v := nI 0) Mm dX6_cast_112 (by decide) ?_
      refine r_iret M dX6_cast_113 ?_
      exact pMd.thr rm0 "java/lang/IndexOutOfBoundsException" 1 (by simp only [o_cast, oSh_ok k1 ecj, oPu_no k6]) (by decide +kernel)
  · refine r_callV (As := [(.int q)]) Mm dX6_cast_2 rfl (cm_isShow hfl h m (eM σ) q hM.1 (by omega) g2) (hM.1) rfl cw_X6_121 ⟨Nat.le_of_ble_eq_true rfl, Nat.le_of_ble_eq_true rfl, Nat.le_of_ble_eq_true rfl⟩ (Nat.le_of_ble_eq_true rfl) ⟨Nat.le_of_ble_eq_true rfl, Nat.le_of_ble_eq_true rfl⟩ (fun r62 h63 p64 => ?_) (fun Er62 h63 p64 => False.elim p64)
    obtain ⟨rfl, rfl⟩ := p64
    rw [decide_eq_false k1]
    show V 5 _ [(.int (nI 0))] _ _ _
    refine r_if_eq (tgt := 20) Mm dX6_cast_5 (by decide) (fun _ => ?_) (fun c65 => absurd (by decide) c65)
    refine r_iconst (v := nI 0) Mm dX6_cast_20 (by decide) ?_
    refine r_istore_n Mm dX6_cast_21 (by decide) ?_
    show V 22 [some (.ref m), some (.int q), some (.int p), some (.int (nI 0)), none] _ _ _ _
    refine r_iload_n Mm dX6_cast_22 rfl ?_
    refine r_if_eq (tgt := 84) Mm dX6_cast_23 (by decide) (fun _ => ?_) (fun c66 => absurd (by decide) c66)
    refine r_iconst (v := nI 0) Mm dX6_cast_84 (by decide) ?_
    refine r_istore Mm dX6_cast_85 (by decide) ?_
    show V 87 [some (.ref m), some (.int q), some (.int p), some (.int (nI 0)), some (.int (nI 0))] _ _ _ _
    refine r_aload_n Mm dX6_cast_87 rfl ?_
    refine r_iload_n Mm dX6_cast_88 rfl ?_
    refine r_if_ne (tgt := 96) Mm dX6_cast_89 (by decide) (fun c67 => absurd c67 (by decide)) (fun _ => ?_)
    refine r_iconst (v := nI 1) Mm dX6_cast_92 (by decide) ?_
    refine r_goto (tgt := 106) Mm dX6_cast_93 (by decide) ?_
    refine r_callV (As := [(.int (nI 1))]) Mm dX6_cast_106 rfl (cm_isFine hfl h m ad hM (nI 1)) (hM.1) rfl cw_X6_94 ⟨Nat.le_of_ble_eq_true rfl, Nat.le_of_ble_eq_true rfl, Nat.le_of_ble_eq_true rfl⟩ (Nat.le_of_ble_eq_true rfl) ⟨Nat.le_of_ble_eq_true rfl, Nat.le_of_ble_eq_true rfl⟩ (fun r68 h69 p70 => ?_) (fun Er68 h69 p70 => False.elim p70)
    obtain ⟨rfl, rfl⟩ := p70
    rw [show bI (decide (nI 1 = 0)) = nI 0 from by decide]
    show V 109 _ [(.int (nI 0))] _ _ _
    refine r_if_ne (tgt := 114) Mm dX6_cast_109 (by decide) (fun c71 => absurd c71 (by decide)) (fun _ => ?_)
    refine r_iconst (v := nI 0) Mm dX6_cast_112 (by decide) ?_
    refine r_iret M dX6_cast_113 ?_
    exact pMd.thr rm0 "java/lang/IndexOutOfBoundsException" 1 (by simp only [o_cast, oSh_no k1]) (by decide +kernel)
set_option maxRecDepth 100000 in
set_option maxHeartbeats 4000000 in
theorem cm_leave {g : Gl} {l : Launch} (hfl : l.stackTraces = false) (h : Hp) (m : Nat) (ad : Nat → Nat) (σ : ST) (rm : RM h m ad σ) (hw : WF σ) (q p : Int32) : CT g l iX6_leave 3 [.ref m, .int q, .int p] h 0 0 (pMd m ad h σ ["java/lang/IndexOutOfBoundsException", "java/lang/IllegalStateException"] (o_leave σ q p)) := by
  have hw0 := hw
  obtain ⟨w1, w2, w3, w4, w5⟩ := hw
  have rm0 := rm
  obtain ⟨hM, ⟨g1, g2, g3⟩, rp, rs, rh, rt⟩ := rm
  refine ct_mk hfl (by decide) (Nat.le_of_ble_eq_true rfl) (by intro v hv; simp only [List.mem_cons, List.not_mem_nil, or_false] at hv; rcases hv with rfl | rfl | rfl <;> rfl) (fun V X M => ?_)
  have Mm := M.m
  show V 0 [some (.ref m), some (.int q), some (.int p), none] [] _ 0 0
  refine r_aload_n Mm dX6_leave_0 rfl ?_
  refine r_iload_n Mm dX6_leave_1 rfl ?_
  by_cases k1 : 0 ≤ q ∧ q < nI (eM σ)
  · refine r_callV (As := [(.int q)]) Mm dX6_leave_2 rfl (cm_isShow hfl h m (eM σ) q hM.1 (by omega) g2) (hM.1) rfl cw_X6_121 ⟨Nat.le_of_ble_eq_true rfl, Nat.le_of_ble_eq_true rfl, Nat.le_of_ble_eq_true rfl⟩ (Nat.le_of_ble_eq_true rfl) ⟨Nat.le_of_ble_eq_true rfl, Nat.le_of_ble_eq_true rfl⟩ (fun r2 h3 p4 => ?_) (fun Er2 h3 p4 => False.elim p4)
    obtain ⟨rfl, rfl⟩ := p4
    rw [decide_eq_true k1]
    obtain ⟨j, hj, rfl⟩ := in_ex k1 (by omega)
    have ecj : (nI j).toNatClampNeg = j := nI_clamp (by omega)
    show V 5 _ [(.int (nI 1))] _ _ _
    refine r_if_eq (tgt := 20) Mm dX6_leave_5 (by decide) (fun c5 => absurd c5 (by decide)) (fun _ => ?_)
    refine r_aload_n Mm dX6_leave_8 rfl ?_
    refine r_iload_n Mm dX6_leave_9 rfl ?_
    by_cases k6 : 0 ≤ p ∧ p < nI (eN σ)
    · refine r_callV (As := [(.int p)]) Mm dX6_leave_10 rfl (cm_isPuppet hfl h m (eN σ) p hM.1 (by omega) g1) (hM.1) rfl cw_X6_98 ⟨Nat.le_of_ble_eq_true rfl, Nat.le_of_ble_eq_true rfl, Nat.le_of_ble_eq_true rfl⟩ (Nat.le_of_ble_eq_true rfl) ⟨Nat.le_of_ble_eq_true rfl, Nat.le_of_ble_eq_true rfl⟩ (fun r7 h8 p9 => ?_) (fun Er7 h8 p9 => False.elim p9)
      obtain ⟨rfl, rfl⟩ := p9
      rw [decide_eq_true k6]
      obtain ⟨i, hi, rfl⟩ := in_ex k6 (by omega)
      have eci : (nI i).toNatClampNeg = i := nI_clamp (by omega)
      show V 13 _ [(.int (nI 1))] _ _ _
      refine r_if_eq (tgt := 20) Mm dX6_leave_13 (by decide) (fun c10 => absurd c10 (by decide)) (fun _ => ?_)
      refine r_iconst (v := nI 1) Mm dX6_leave_16 (by decide) ?_
      refine r_goto (tgt := 21) Mm dX6_leave_17 (by decide) ?_
      refine r_istore_n Mm dX6_leave_21 (by decide) ?_
      show V 22 [some (.ref m), some (.int (nI j)), some (.int (nI i)), some (.int (nI 1))] _ _ _ _
      refine r_aload_n Mm dX6_leave_22 rfl ?_
      refine r_iload_n Mm dX6_leave_23 rfl ?_
      refine r_if_ne (tgt := 31) Mm dX6_leave_24 (by decide) (fun _ => ?_) (fun c11 => absurd c11 (by decide))
      refine r_aload_n Mm dX6_leave_31 rfl ?_
      refine r_getR Mm dX6_leave_32 fi_X6_55 (hM.1) rfl (i := 617) rfl ((hM.2.1 17 9 6 (by decide)).1) ?_
      refine r_iload_n Mm dX6_leave_35 rfl ?_
      refine r_zaldN Mm dX6_leave_36 ((hM.2.1 17 9 6 (by decide)).2) (by omega) (by omega) ?_
      refine r_top _ (bI (tDone (eS σ j))) ((rs j (by omega)).2.2.1) ?_
      refine r_if_neB (tgt := 54) Mm dX6_leave_37 (by decide) (fun c12 => ?_) (fun c12 => ?_)
      · refine r_iconst (v := nI 2) Mm dX6_leave_54 (by decide) ?_
        refine r_goto (tgt := 59) Mm dX6_leave_55 (by decide) ?_
        refine r_callV (As := [(.int (nI 2))]) Mm dX6_leave_59 rfl (cm_isFine hfl h m ad hM (nI 2)) (hM.1) rfl cw_X6_94 ⟨Nat.le_of_ble_eq_true rfl, Nat.le_of_ble_eq_true rfl, Nat.le_of_ble_eq_true rfl⟩ (Nat.le_of_ble_eq_true rfl) ⟨Nat.le_of_ble_eq_true rfl, Nat.le_of_ble_eq_true rfl⟩ (fun r13 h14 p15 => ?_) (fun Er13 h14 p15 => False.elim p15)
        obtain ⟨rfl, rfl⟩ := p15
        rw [show bI (decide (nI 2 = 0)) = nI 0 from by decide]
        show V 62 _ [(.int (nI 0))] _ _ _
        refine r_if_ne (tgt := 67) Mm dX6_leave_62 (by decide) (fun c16 => absurd c16 (by decide)) (fun _ => ?_)
        refine r_iconst (v := nI 0) Mm dX6_leave_65 (by decide) ?_
        refine r_iret M dX6_leave_66 ?_
        exact pMd.thr rm0 "java/lang/IllegalStateException" 2 (by simp only [o_leave, oSh_ok k1 ecj, oPu_ok k6 eci, if_pos (Or.inl c12 : tDone (eS σ j) = true ∨ tCast (eS σ j) i = false)]) (by decide +kernel)
      · refine r_aload_n Mm dX6_leave_40 rfl ?_
        refine r_getR Mm dX6_leave_41 fi_X6_65 (hM.1) rfl (i := 620) rfl ((hM.2.1 20 9 48 (by decide)).1) ?_
        refine r_bipush (v := nI 8) Mm dX6_leave_44 (by decide) ?_
        refine r_iload_n Mm dX6_leave_46 rfl ?_
        refine r_imulN Mm dX6_leave_47 ?_
        refine r_iload_n Mm dX6_leave_48 rfl ?_
        refine r_iaddN Mm dX6_leave_49 ?_
        refine r_zaldN Mm dX6_leave_50 ((hM.2.1 20 9 48 (by decide)).2) (by omega) (by omega) ?_
        refine r_top _ (bI (tCast (eS σ j) i)) ((rs j (by omega)).2.2.2.2.2 i (by omega)) ?_
        refine r_if_neB (tgt := 58) Mm dX6_leave_51 (by decide) (fun c17 => ?_) (fun c17 => ?_)
        · refine r_iconst (v := nI 0) Mm dX6_leave_58 (by decide) ?_
          refine r_callV (As := [(.int (nI 0))]) Mm dX6_leave_59 rfl (cm_isFine hfl h m ad hM (nI 0)) (hM.1) rfl cw_X6_94 ⟨Nat.le_of_ble_eq_true rfl, Nat.le_of_ble_eq_true rfl, Nat.le_of_ble_eq_true rfl⟩ (Nat.le_of_ble_eq_true rfl) ⟨Nat.le_of_ble_eq_true rfl, Nat.le_of_ble_eq_true rfl⟩ (fun r18 h19 p20 => ?_) (fun Er18 h19 p20 => False.elim p20)
          obtain ⟨rfl, rfl⟩ := p20
          rw [show bI (decide (nI 0 = 0)) = nI 1 from by decide]
          obtain ⟨hz, fz, z0, rz, ez⟩ : ∃ z, Fr (MW m ad) h z ∧ xF z 600 m = nI 0 ∧ RM z m ad σ ∧ z = yF h 600 m (nI 0) := ⟨_, Fr.yF (Or.inl rfl), u2_s _ _ _ _, rm0.f0 _, rfl⟩
          rw [← ez]
          clear ez
          have rz0 := rz
          obtain ⟨hMz, ⟨gz1, gz2, gz3⟩, rpz, rsz, rhz, rtz⟩ := rz
          show V 62 _ [(.int (nI 1))] _ _ _
          refine r_if_ne (tgt := 67) Mm dX6_leave_62 (by decide) (fun _ => ?_) (fun c21 => absurd c21 (by decide))
          refine r_aload_n Mm dX6_leave_67 rfl ?_
          refine r_getR Mm dX6_leave_68 fi_X6_65 (hMz.1) rfl (i := 620) rfl ((hMz.2.1 20 9 48 (by decide)).1) ?_
          refine r_bipush (v := nI 8) Mm dX6_leave_71 (by decide) ?_
          refine r_iload_n Mm dX6_leave_73 rfl ?_
          refine r_imulN Mm dX6_leave_74 ?_
          refine r_iload_n Mm dX6_leave_75 rfl ?_
          refine r_iaddN Mm dX6_leave_76 ?_
          refine r_iconst (v := nI 0) Mm dX6_leave_77 (by decide) ?_
          refine r_zastN Mm dX6_leave_78 ((hMz.2.1 20 9 48 (by decide)).2) (by omega) (by omega) (by decide) ?_
          refine r_aload_n Mm dX6_leave_79 rfl ?_
          refine r_iload_n Mm dX6_leave_80 rfl ?_
          have r9 := rz0.castIs (j := j) (i := i) (by omega) (by omega) false
          rw [bI_f] at r9
          have hS9 : MSho ((yA hz (ad 20) ((8 * j) + i) (nI 0))) ad j ((eS σ j).1, upt (tCast (eS σ j)) i false, (eS σ j).2.2) := by have q := r9.2.2.2.1 j (by omega); rw [show eS (wS σ j ((eS σ j).1, upt (tCast (eS σ j)) i false, (eS σ j).2.2)) j = ((eS σ j).1, upt (tCast (eS σ j)) i false, (eS σ j).2.2) from upt_s _ _ _] at q; exact q
          have hcc : cnt (upt (tCast (eS σ j)) i false) 8 = cnt (upt (tCast (eS σ j)) i false) (eN σ) := cnt_cut (fun q hq => by
            by_cases e : q = i
            · omega
            · rw [upt_n _ _ e] at hq; exact (w4 j hj).1 q hq) 8 w1
          refine r_callV (As := [(.int (nI j))]) Mm dX6_leave_81 rfl (cm_castOf hfl ((yA hz (ad 20) ((8 * j) + i) (nI 0))) m ad r9.1 j (eN σ) ((eS σ j).1, upt (tCast (eS σ j)) i false, (eS σ j).2.2) (by omega) hS9 w1 r9.2.1.1) (hMz.1) rfl cw_X6_127 ⟨Nat.le_of_ble_eq_true rfl, Nat.le_of_ble_eq_true rfl, Nat.le_of_ble_eq_true rfl⟩ (Nat.le_of_ble_eq_true rfl) ⟨Nat.le_of_ble_eq_true rfl, Nat.le_of_ble_eq_true rfl⟩ (fun r22 h23 p24 => ?_) (fun Er22 h23 p24 => False.elim p24)
          obtain ⟨rfl, rfl⟩ := p24
          rw [show cnt (tCast ((eS σ j).1, upt (tCast (eS σ j)) i false, (eS σ j).2.2)) (eN σ) = cnt (upt (tCast (eS σ j)) i false) 8 from hcc.symm]
          show V 84 _ [(.int (nI (cnt (upt (tCast (eS σ j)) i false) 8)))] _ _ _
          refine r_iret M dX6_leave_84 ?_
          exact pMd.ret fz z0 (by simp only [o_leave, oSh_ok k1 ecj, oPu_ok k6 eci, if_neg (fun z => z.elim (fun w => by rw [c12] at w; cases w) (fun w => by rw [c17] at w; cases w) : ¬ (tDone (eS σ j) = true ∨ tCast (eS σ j) i = false))]) (Fr.yA (MW.at 20 9 48 (by decide))) (by rw [zxF_yA]) (r9)
        · refine r_iconst (v := nI 2) Mm dX6_leave_54 (by decide) ?_
          refine r_goto (tgt := 59) Mm dX6_leave_55 (by decide) ?_
          refine r_callV (As := [(.int (nI 2))]) Mm dX6_leave_59 rfl (cm_isFine hfl h m ad hM (nI 2)) (hM.1) rfl cw_X6_94 ⟨Nat.le_of_ble_eq_true rfl, Nat.le_of_ble_eq_true rfl, Nat.le_of_ble_eq_true rfl⟩ (Nat.le_of_ble_eq_true rfl) ⟨Nat.le_of_ble_eq_true rfl, Nat.le_of_ble_eq_true rfl⟩ (fun r25 h26 p27 => ?_) (fun Er25 h26 p27 => False.elim p27)
          obtain ⟨rfl, rfl⟩ := p27
          rw [show bI (decide (nI 2 = 0)) = nI 0 from by decide]
          show V 62 _ [(.int (nI 0))] _ _ _
          refine r_if_ne (tgt := 67) Mm dX6_leave_62 (by decide) (fun c28 => absurd c28 (by decide)) (fun _ => ?_)
          refine r_iconst (v := nI 0) Mm dX6_leave_65 (by decide) ?_
          refine r_iret M dX6_leave_66 ?_
          exact pMd.thr rm0 "java/lang/IllegalStateException" 2 (by simp only [o_leave, oSh_ok k1 ecj, oPu_ok k6 eci, if_pos (Or.inr c17 : tDone (eS σ j) = true ∨ tCast (eS σ j) i = false)]) (by decide +kernel)
    · refine r_callV (As := [(.int p)]) Mm dX6_leave_10 rfl (cm_isPuppet hfl h m (eN σ) p hM.1 (by omega) g1) (hM.1) rfl cw_X6_98 ⟨Nat.le_of_ble_eq_true rfl, Nat.le_of_ble_eq_true rfl, Nat.le_of_ble_eq_true rfl⟩ (Nat.le_of_ble_eq_true rfl) ⟨Nat.le_of_ble_eq_true rfl, Nat.le_of_ble_eq_true rfl⟩ (fun r29 h30 p31 => ?_) (fun Er29 h30 p31 => False.elim p31)
      obtain ⟨rfl, rfl⟩ := p31
      rw [decide_eq_false k6]
      show V 13 _ [(.int (nI 0))] _ _ _
      refine r_if_eq (tgt := 20) Mm dX6_leave_13 (by decide) (fun _ => ?_) (fun c32 => absurd (by decide) c32)
      refine r_iconst (v := nI 0) Mm dX6_leave_20 (by decide) ?_
      refine r_istore_n Mm dX6_leave_21 (by decide) ?_
      show V 22 [some (.ref m), some (.int (nI j)), some (.int p), some (.int (nI 0))] _ _ _ _
      refine r_aload_n Mm dX6_leave_22 rfl ?_
      refine r_iload_n Mm dX6_leave_23 rfl ?_
      refine r_if_ne (tgt := 31) Mm dX6_leave_24 (by decide) (fun c33 => absurd c33 (by decide)) (fun _ => ?_)
      refine r_iconst (v := nI 1) Mm dX6_leave_27 (by decide) ?_
      refine r_goto (tgt := 59) Mm dX6_leave_28 (by decide) ?_
      refine r_callV (As := [(.int (nI 1))]) Mm dX6_leave_59 rfl (cm_isFine hfl h m ad hM (nI 1)) (hM.1) rfl cw_X6_94 ⟨Nat.le_of_ble_eq_true rfl, Nat.le_of_ble_eq_true rfl, Nat.le_of_ble_eq_true rfl⟩ (Nat.le_of_ble_eq_true rfl) ⟨Nat.le_of_ble_eq_true rfl, Nat.le_of_ble_eq_true rfl⟩ (fun r34 h35 p36 => ?_) (fun Er34 h35 p36 => False.elim p36)
      obtain ⟨rfl, rfl⟩ := p36
      rw [show bI (decide (nI 1 = 0)) = nI 0 from by decide]
      show V 62 _ [(.int (nI 0))] _ _ _
      refine r_if_ne (tgt := 67) Mm dX6_leave_62 (by decide) (fun c37 => absurd c37 (by decide)) (fun _ => ?_)
      refine r_iconst (v := nI 0) Mm dX6_leave_65 (by decide) ?_
      refine r_iret M dX6_leave_66 ?_
      exact pMd.thr rm0 "java/lang/IndexOutOfBoundsException" 1 (by simp only [o_leave, oSh_ok k1 ecj, oPu_no k6]) (by decide +kernel)
  · refine r_callV (As := [(.int q)]) Mm dX6_leave_2 rfl (cm_isShow hfl h m (eM σ) q hM.1 (by omega) g2) (hM.1) rfl cw_X6_121 ⟨Nat.le_of_ble_eq_true rfl, Nat.le_of_ble_eq_true rfl, Nat.le_of_ble_eq_true rfl⟩ (Nat.le_of_ble_eq_true rfl) ⟨Nat.le_of_ble_eq_true rfl, Nat.le_of_ble_eq_true rfl⟩ (fun r38 h39 p40 => ?_) (fun Er38 h39 p40 => False.elim p40)
    obtain ⟨rfl, rfl⟩ := p40
    rw [decide_eq_false k1]
    show V 5 _ [(.int (nI 0))] _ _ _
    refine r_if_eq (tgt := 20) Mm dX6_leave_5 (by decide) (fun _ => ?_) (fun c41 => absurd (by decide) c41)
    refine r_iconst (v := nI 0) Mm dX6_leave_20 (by decide) ?_
    refine r_istore_n Mm dX6_leave_21 (by decide) ?_
    show V 22 [some (.ref m), some (.int q), some (.int p), some (.int (nI 0))] _ _ _ _
    refine r_aload_n Mm dX6_leave_22 rfl ?_
    refine r_iload_n Mm dX6_leave_23 rfl ?_
    refine r_if_ne (tgt := 31) Mm dX6_leave_24 (by decide) (fun c42 => absurd c42 (by decide)) (fun _ => ?_)
    refine r_iconst (v := nI 1) Mm dX6_leave_27 (by decide) ?_
    refine r_goto (tgt := 59) Mm dX6_leave_28 (by decide) ?_
    refine r_callV (As := [(.int (nI 1))]) Mm dX6_leave_59 rfl (cm_isFine hfl h m ad hM (nI 1)) (hM.1) rfl cw_X6_94 ⟨Nat.le_of_ble_eq_true rfl, Nat.le_of_ble_eq_true rfl, Nat.le_of_ble_eq_true rfl⟩ (Nat.le_of_ble_eq_true rfl) ⟨Nat.le_of_ble_eq_true rfl, Nat.le_of_ble_eq_true rfl⟩ (fun r43 h44 p45 => ?_) (fun Er43 h44 p45 => False.elim p45)
    obtain ⟨rfl, rfl⟩ := p45
    rw [show bI (decide (nI 1 = 0)) = nI 0 from by decide]
    show V 62 _ [(.int (nI 0))] _ _ _
    refine r_if_ne (tgt := 67) Mm dX6_leave_62 (by decide) (fun c46 => absurd c46 (by decide)) (fun _ => ?_)
    refine r_iconst (v := nI 0) Mm dX6_leave_65 (by decide) ?_
    refine r_iret M dX6_leave_66 ?_
    exact pMd.thr rm0 "java/lang/IndexOutOfBoundsException" 1 (by simp only [o_leave, oSh_no k1]) (by decide +kernel)
set_option maxRecDepth 100000 in
set_option maxHeartbeats 4000000 in
theorem cm_sell {g : Gl} {l : Launch} (hfl : l.stackTraces = false) (h : Hp) (m : Nat) (ad : Nat → Nat) (σ : ST) (rm : RM h m ad σ) (hw : WF σ) (q n u : Int32) : CT g l iX6_sell 3 [.ref m, .int q, .int n, .int u] h 0 0 (pMd m ad h σ ["java/lang/IndexOutOfBoundsException", "java/lang/IllegalArgumentException", "java/lang/IllegalStateException"] (o_sell σ q n u)) := by
  have hw0 := hw
  obtain ⟨w1, w2, w3, w4, w5⟩ := hw
  have rm0 := rm
  obtain ⟨hM, ⟨g1, g2, g3⟩, rp, rs, rh, rt⟩ := rm
  refine ct_mk hfl (by decide) (Nat.le_of_ble_eq_true rfl) (by intro v hv; simp only [List.mem_cons, List.not_mem_nil, or_false] at hv; rcases hv with rfl | rfl | rfl | rfl <;> rfl) (fun V X M => ?_)
  have Mm := M.m
  show V 0 [some (.ref m), some (.int q), some (.int n), some (.int u), none, none] [] _ 0 0
  refine r_aload_n Mm dX6_sell_0 rfl ?_
  refine r_iload_n Mm dX6_sell_1 rfl ?_
  by_cases k1 : 0 ≤ q ∧ q < nI (eM σ)
  · refine r_callV (As := [(.int q)]) Mm dX6_sell_2 rfl (cm_isShow hfl h m (eM σ) q hM.1 (by omega) g2) (hM.1) rfl cw_X6_121 ⟨Nat.le_of_ble_eq_true rfl, Nat.le_of_ble_eq_true rfl, Nat.le_of_ble_eq_true rfl⟩ (Nat.le_of_ble_eq_true rfl) ⟨Nat.le_of_ble_eq_true rfl, Nat.le_of_ble_eq_true rfl⟩ (fun r2 h3 p4 => ?_) (fun Er2 h3 p4 => False.elim p4)
    obtain ⟨rfl, rfl⟩ := p4
    rw [decide_eq_true k1]
    obtain ⟨j, hj, rfl⟩ := in_ex k1 (by omega)
    have ecj : (nI j).toNatClampNeg = j := nI_clamp (by omega)
    show V 5 _ [(.int (nI 1))] _ _ _
    refine r_istore Mm dX6_sell_5 (by decide) ?_
    show V 7 [some (.ref m), some (.int (nI j)), some (.int n), some (.int u), some (.int (nI 1)), none] _ _ _ _
    refine r_iload_n Mm dX6_sell_7 rfl ?_
    refine r_iconst (v := nI 1) Mm dX6_sell_8 (by decide) ?_
    refine r_bipush (v := nI 50) Mm dX6_sell_9 (by decide) ?_
    by_cases k5 : (nI 1) ≤ n ∧ n ≤ (nI 50)
    · refine r_callS (As := [(.int n), (.int (nI 1)), (.int (nI 50))]) Mm dX6_sell_11 rfl (cm_isIn hfl h n (nI 1) (nI 50)) cw_X6_87 ⟨Nat.le_of_ble_eq_true rfl, Nat.le_of_ble_eq_true rfl, Nat.le_of_ble_eq_true rfl⟩ (Nat.le_of_ble_eq_true rfl) ⟨Nat.le_of_ble_eq_true rfl, Nat.le_of_ble_eq_true rfl⟩ (fun r6 h7 p8 => ?_) (fun Er6 h7 p8 => False.elim p8)
      obtain ⟨rfl, rfl⟩ := p8
      rw [decide_eq_true k5]
      obtain ⟨K, hK, rfl⟩ := in_le ⟨Int32.le_trans (by decide) k5.1, k5.2⟩ (by decide)
      have ecK : (nI K).toNatClampNeg = K := nI_clamp (by omega)
      show V 14 _ [(.int (nI 1))] _ _ _
      refine r_if_eq (tgt := 31) Mm dX6_sell_14 (by decide) (fun c9 => absurd c9 (by decide)) (fun _ => ?_)
      refine r_iload_n Mm dX6_sell_17 rfl ?_
      refine r_iconst (v := nI 0) Mm dX6_sell_18 (by decide) ?_
      refine r_bipush (v := nI 100) Mm dX6_sell_19 (by decide) ?_
      by_cases k10 : (nI 0) ≤ u ∧ u ≤ (nI 100)
      · refine r_callS (As := [(.int u), (.int (nI 0)), (.int (nI 100))]) Mm dX6_sell_21 rfl (cm_isIn hfl h u (nI 0) (nI 100)) cw_X6_87 ⟨Nat.le_of_ble_eq_true rfl, Nat.le_of_ble_eq_true rfl, Nat.le_of_ble_eq_true rfl⟩ (Nat.le_of_ble_eq_true rfl) ⟨Nat.le_of_ble_eq_true rfl, Nat.le_of_ble_eq_true rfl⟩ (fun r11 h12 p13 => ?_) (fun Er11 h12 p13 => False.elim p13)
        obtain ⟨rfl, rfl⟩ := p13
        rw [decide_eq_true k10]
        show V 24 _ [(.int (nI 1))] _ _ _
        refine r_if_eq (tgt := 31) Mm dX6_sell_24 (by decide) (fun c14 => absurd c14 (by decide)) (fun _ => ?_)
        refine r_iconst (v := nI 1) Mm dX6_sell_27 (by decide) ?_
        refine r_goto (tgt := 32) Mm dX6_sell_28 (by decide) ?_
        refine r_istore Mm dX6_sell_32 (by decide) ?_
        show V 34 [some (.ref m), some (.int (nI j)), some (.int (nI K)), some (.int u), some (.int (nI 1)), some (.int (nI 1))] _ _ _ _
        refine r_aload_n Mm dX6_sell_34 rfl ?_
        refine r_iload Mm dX6_sell_35 rfl ?_
        refine r_if_ne (tgt := 44) Mm dX6_sell_37 (by decide) (fun _ => ?_) (fun c15 => absurd c15 (by decide))
        refine r_iload Mm dX6_sell_44 rfl ?_
        refine r_if_ne (tgt := 53) Mm dX6_sell_46 (by decide) (fun _ => ?_) (fun c16 => absurd c16 (by decide))
        have hl50 := (w4 j hj).2
        refine r_aload_n Mm dX6_sell_53 rfl ?_
        refine r_getR Mm dX6_sell_54 fi_X6_55 (hM.1) rfl (i := 617) rfl ((hM.2.1 17 9 6 (by decide)).1) ?_
        refine r_iload_n Mm dX6_sell_57 rfl ?_
        refine r_zaldN Mm dX6_sell_58 ((hM.2.1 17 9 6 (by decide)).2) (by omega) (by omega) ?_
        refine r_top _ (bI (tDone (eS σ j))) ((rs j (by omega)).2.2.1) ?_
        refine r_if_neB (tgt := 75) Mm dX6_sell_59 (by decide) (fun c17 => ?_) (fun c17 => ?_)
        · refine r_iconst (v := nI 3) Mm dX6_sell_75 (by decide) ?_
          refine r_goto (tgt := 80) Mm dX6_sell_76 (by decide) ?_
          refine r_callV (As := [(.int (nI 3))]) Mm dX6_sell_80 rfl (cm_isFine hfl h m ad hM (nI 3)) (hM.1) rfl cw_X6_94 ⟨Nat.le_of_ble_eq_true rfl, Nat.le_of_ble_eq_true rfl, Nat.le_of_ble_eq_true rfl⟩ (Nat.le_of_ble_eq_true rfl) ⟨Nat.le_of_ble_eq_true rfl, Nat.le_of_ble_eq_true rfl⟩ (fun r18 h19 p20 => ?_) (fun Er18 h19 p20 => False.elim p20)
          obtain ⟨rfl, rfl⟩ := p20
          rw [show bI (decide (nI 3 = 0)) = nI 0 from by decide]
          show V 83 _ [(.int (nI 0))] _ _ _
          refine r_if_ne (tgt := 88) Mm dX6_sell_83 (by decide) (fun c21 => absurd c21 (by decide)) (fun _ => ?_)
          refine r_iconst (v := nI 0) Mm dX6_sell_86 (by decide) ?_
          refine r_iret M dX6_sell_87 ?_
          exact pMd.thr rm0 "java/lang/IllegalStateException" 3 (by simp only [o_sell, oSh_ok k1 ecj, oIn_ok k5, ecK, oIn_ok k10, if_pos (Or.inl c17 : tDone (eS σ j) = true ∨ ¬ K ≤ tLeft (eS σ j))]) (by decide +kernel)
        · refine r_aload_n Mm dX6_sell_62 rfl ?_
          refine r_getR Mm dX6_sell_63 fi_X6_59 (hM.1) rfl (i := 618) rfl ((hM.2.1 18 8 6 (by decide)).1) ?_
          refine r_iload_n Mm dX6_sell_66 rfl ?_
          refine r_ialdN Mm dX6_sell_67 ((hM.2.1 18 8 6 (by decide)).2) (by omega) (by omega) ?_
          refine r_top _ (nI (50 - tLeft (eS σ j))) ((rs j (by omega)).2.2.2.1) ?_
          refine r_iload_n Mm dX6_sell_68 rfl ?_
          refine r_iaddN Mm dX6_sell_69 ?_
          refine r_bipush (v := nI 50) Mm dX6_sell_70 (by decide) ?_
          refine r_icmp_leN (tgt := 79) Mm dX6_sell_72 (by decide) (by omega) (by omega) (fun c22 => ?_) (fun c22 => ?_)
          · refine r_iconst (v := nI 0) Mm dX6_sell_79 (by decide) ?_
            refine r_callV (As := [(.int (nI 0))]) Mm dX6_sell_80 rfl (cm_isFine hfl h m ad hM (nI 0)) (hM.1) rfl cw_X6_94 ⟨Nat.le_of_ble_eq_true rfl, Nat.le_of_ble_eq_true rfl, Nat.le_of_ble_eq_true rfl⟩ (Nat.le_of_ble_eq_true rfl) ⟨Nat.le_of_ble_eq_true rfl, Nat.le_of_ble_eq_true rfl⟩ (fun r23 h24 p25 => ?_) (fun Er23 h24 p25 => False.elim p25)
            obtain ⟨rfl, rfl⟩ := p25
            rw [show bI (decide (nI 0 = 0)) = nI 1 from by decide]
            obtain ⟨hz, fz, z0, rz, ez⟩ : ∃ z, Fr (MW m ad) h z ∧ xF z 600 m = nI 0 ∧ RM z m ad σ ∧ z = yF h 600 m (nI 0) := ⟨_, Fr.yF (Or.inl rfl), u2_s _ _ _ _, rm0.f0 _, rfl⟩
            rw [← ez]
            clear ez
            have rz0 := rz
            obtain ⟨hMz, ⟨gz1, gz2, gz3⟩, rpz, rsz, rhz, rtz⟩ := rz
            show V 83 _ [(.int (nI 1))] _ _ _
            refine r_if_ne (tgt := 88) Mm dX6_sell_83 (by decide) (fun _ => ?_) (fun c26 => absurd c26 (by decide))
            refine r_aload_n Mm dX6_sell_88 rfl ?_
            refine r_getR Mm dX6_sell_89 fi_X6_59 (hMz.1) rfl (i := 618) rfl ((hMz.2.1 18 8 6 (by decide)).1) ?_
            refine r_iload_n Mm dX6_sell_92 rfl ?_
            refine r_dup2 Mm dX6_sell_93 rfl rfl ?_
            refine r_ialdN Mm dX6_sell_94 ((hMz.2.1 18 8 6 (by decide)).2) (by omega) (by omega) ?_
            refine r_top _ (nI (50 - tLeft (eS σ j))) ((rsz j (by omega)).2.2.2.1) ?_
            refine r_iload_n Mm dX6_sell_95 rfl ?_
            refine r_iaddN Mm dX6_sell_96 ?_
            refine r_top _ (nI (50 - (tLeft (eS σ j) - K))) (by congr 1; omega) ?_
            refine r_iastN Mm dX6_sell_97 ((hMz.2.1 18 8 6 (by decide)).2) (by omega) (by omega) ?_
            refine r_aload_n Mm dX6_sell_98 rfl ?_
            refine r_getR Mm dX6_sell_99 fi_X6_62 (hMz.1) rfl (i := 619) rfl ((hMz.2.1 19 8 6 (by decide)).1) ?_
            refine r_iload_n Mm dX6_sell_102 rfl ?_
            refine r_dup2 Mm dX6_sell_103 rfl rfl ?_
            refine r_ialdN Mm dX6_sell_104 ((hMz.2.1 19 8 6 (by decide)).2) (by omega) (by omega) ?_
            refine r_top _ (tTak (eS σ j)) (by rw [yA_o (hMz.ne (by decide : (19, 8, 6) ∈ mSl) (by decide : (18, 8, 6) ∈ mSl) (by decide))]; exact (rsz j (by omega)).2.2.2.2.1) ?_
            refine r_iload_n Mm dX6_sell_105 rfl ?_
            refine r_iload_n Mm dX6_sell_106 rfl ?_
            refine r_imul Mm dX6_sell_107 ?_
            refine r_iadd Mm dX6_sell_108 ?_
            refine r_iastN Mm dX6_sell_109 ((hMz.2.1 19 8 6 (by decide)).2) (by omega) (by omega) ?_
            refine r_bipush (v := nI 50) Mm dX6_sell_110 (by decide) ?_
            refine r_aload_n Mm dX6_sell_112 rfl ?_
            refine r_getR Mm dX6_sell_113 fi_X6_59 (hMz.1) rfl (i := 618) rfl ((hMz.2.1 18 8 6 (by decide)).1) ?_
            refine r_iload_n Mm dX6_sell_116 rfl ?_
            refine r_ialdN Mm dX6_sell_117 ((hMz.2.1 18 8 6 (by decide)).2) (by omega) (by omega) ?_
            refine r_top _ (nI (50 - (tLeft (eS σ j) - K))) (by rw [yA_o (hMz.ne (by decide : (18, 8, 6) ∈ mSl) (by decide : (19, 8, 6) ∈ mSl) (by decide)), yA_s]) ?_
            refine r_isubN Mm dX6_sell_118 (by omega) ?_
            refine r_top _ (nI (tLeft (eS σ j) - K)) (by congr 1; omega) ?_
            refine r_iret M dX6_sell_119 ?_
            exact pMd.ret fz z0 (by simp only [o_sell, oSh_ok k1 ecj, oIn_ok k5, ecK, oIn_ok k10, if_neg (fun z => z.elim (fun w => by rw [c17] at w; cases w) (fun w => w (by omega)) : ¬ (tDone (eS σ j) = true ∨ ¬ K ≤ tLeft (eS σ j)))]) (Fr.tr (Fr.yA (MW.at 18 8 6 (by decide))) (Fr.yA (MW.at 19 8 6 (by decide)))) (by rw [zxF_yA, zxF_yA]) (rz0.soldIs (n := tLeft (eS σ j) - K) (by omega) _)
          · refine r_iconst (v := nI 3) Mm dX6_sell_75 (by decide) ?_
            refine r_goto (tgt := 80) Mm dX6_sell_76 (by decide) ?_
            refine r_callV (As := [(.int (nI 3))]) Mm dX6_sell_80 rfl (cm_isFine hfl h m ad hM (nI 3)) (hM.1) rfl cw_X6_94 ⟨Nat.le_of_ble_eq_true rfl, Nat.le_of_ble_eq_true rfl, Nat.le_of_ble_eq_true rfl⟩ (Nat.le_of_ble_eq_true rfl) ⟨Nat.le_of_ble_eq_true rfl, Nat.le_of_ble_eq_true rfl⟩ (fun r27 h28 p29 => ?_) (fun Er27 h28 p29 => False.elim p29)
            obtain ⟨rfl, rfl⟩ := p29
            rw [show bI (decide (nI 3 = 0)) = nI 0 from by decide]
            show V 83 _ [(.int (nI 0))] _ _ _
            refine r_if_ne (tgt := 88) Mm dX6_sell_83 (by decide) (fun c30 => absurd c30 (by decide)) (fun _ => ?_)
            refine r_iconst (v := nI 0) Mm dX6_sell_86 (by decide) ?_
            refine r_iret M dX6_sell_87 ?_
            exact pMd.thr rm0 "java/lang/IllegalStateException" 3 (by simp only [o_sell, oSh_ok k1 ecj, oIn_ok k5, ecK, oIn_ok k10, if_pos (Or.inr (by omega) : tDone (eS σ j) = true ∨ ¬ K ≤ tLeft (eS σ j))]) (by decide +kernel)
      · refine r_callS (As := [(.int u), (.int (nI 0)), (.int (nI 100))]) Mm dX6_sell_21 rfl (cm_isIn hfl h u (nI 0) (nI 100)) cw_X6_87 ⟨Nat.le_of_ble_eq_true rfl, Nat.le_of_ble_eq_true rfl, Nat.le_of_ble_eq_true rfl⟩ (Nat.le_of_ble_eq_true rfl) ⟨Nat.le_of_ble_eq_true rfl, Nat.le_of_ble_eq_true rfl⟩ (fun r31 h32 p33 => ?_) (fun Er31 h32 p33 => False.elim p33)
        obtain ⟨rfl, rfl⟩ := p33
        rw [decide_eq_false k10]
        show V 24 _ [(.int (nI 0))] _ _ _
        refine r_if_eq (tgt := 31) Mm dX6_sell_24 (by decide) (fun _ => ?_) (fun c34 => absurd (by decide) c34)
        refine r_iconst (v := nI 0) Mm dX6_sell_31 (by decide) ?_
        refine r_istore Mm dX6_sell_32 (by decide) ?_
        show V 34 [some (.ref m), some (.int (nI j)), some (.int (nI K)), some (.int u), some (.int (nI 1)), some (.int (nI 0))] _ _ _ _
        refine r_aload_n Mm dX6_sell_34 rfl ?_
        refine r_iload Mm dX6_sell_35 rfl ?_
        refine r_if_ne (tgt := 44) Mm dX6_sell_37 (by decide) (fun _ => ?_) (fun c35 => absurd c35 (by decide))
        refine r_iload Mm dX6_sell_44 rfl ?_
        refine r_if_ne (tgt := 53) Mm dX6_sell_46 (by decide) (fun c36 => absurd c36 (by decide)) (fun _ => ?_)
        refine r_iconst (v := nI 2) Mm dX6_sell_49 (by decide) ?_
        refine r_goto (tgt := 80) Mm dX6_sell_50 (by decide) ?_
        refine r_callV (As := [(.int (nI 2))]) Mm dX6_sell_80 rfl (cm_isFine hfl h m ad hM (nI 2)) (hM.1) rfl cw_X6_94 ⟨Nat.le_of_ble_eq_true rfl, Nat.le_of_ble_eq_true rfl, Nat.le_of_ble_eq_true rfl⟩ (Nat.le_of_ble_eq_true rfl) ⟨Nat.le_of_ble_eq_true rfl, Nat.le_of_ble_eq_true rfl⟩ (fun r37 h38 p39 => ?_) (fun Er37 h38 p39 => False.elim p39)
        obtain ⟨rfl, rfl⟩ := p39
        rw [show bI (decide (nI 2 = 0)) = nI 0 from by decide]
        show V 83 _ [(.int (nI 0))] _ _ _
        refine r_if_ne (tgt := 88) Mm dX6_sell_83 (by decide) (fun c40 => absurd c40 (by decide)) (fun _ => ?_)
        refine r_iconst (v := nI 0) Mm dX6_sell_86 (by decide) ?_
        refine r_iret M dX6_sell_87 ?_
        exact pMd.thr rm0 "java/lang/IllegalArgumentException" 2 (by simp only [o_sell, oSh_ok k1 ecj, oIn_ok k5, ecK, oIn_no k10]) (by decide +kernel)
    · refine r_callS (As := [(.int n), (.int (nI 1)), (.int (nI 50))]) Mm dX6_sell_11 rfl (cm_isIn hfl h n (nI 1) (nI 50)) cw_X6_87 ⟨Nat.le_of_ble_eq_true rfl, Nat.le_of_ble_eq_true rfl, Nat.le_of_ble_eq_true rfl⟩ (Nat.le_of_ble_eq_true rfl) ⟨Nat.le_of_ble_eq_true rfl, Nat.le_of_ble_eq_true rfl⟩ (fun r41 h42 p43 => ?_) (fun Er41 h42 p43 => False.elim p43)
      obtain ⟨rfl, rfl⟩ := p43
      rw [decide_eq_false k5]
      show V 14 _ [(.int (nI 0))] _ _ _
      refine r_if_eq (tgt := 31) Mm dX6_sell_14 (by decide) (fun _ => ?_) (fun c44 => absurd (by decide) c44)
      refine r_iconst (v := nI 0) Mm dX6_sell_31 (by decide) ?_
      refine r_istore Mm dX6_sell_32 (by decide) ?_
      show V 34 [some (.ref m), some (.int (nI j)), some (.int n), some (.int u), some (.int (nI 1)), some (.int (nI 0))] _ _ _ _
      refine r_aload_n Mm dX6_sell_34 rfl ?_
      refine r_iload Mm dX6_sell_35 rfl ?_
      refine r_if_ne (tgt := 44) Mm dX6_sell_37 (by decide) (fun _ => ?_) (fun c45 => absurd c45 (by decide))
      refine r_iload Mm dX6_sell_44 rfl ?_
      refine r_if_ne (tgt := 53) Mm dX6_sell_46 (by decide) (fun c46 => absurd c46 (by decide)) (fun _ => ?_)
      refine r_iconst (v := nI 2) Mm dX6_sell_49 (by decide) ?_
      refine r_goto (tgt := 80) Mm dX6_sell_50 (by decide) ?_
      refine r_callV (As := [(.int (nI 2))]) Mm dX6_sell_80 rfl (cm_isFine hfl h m ad hM (nI 2)) (hM.1) rfl cw_X6_94 ⟨Nat.le_of_ble_eq_true rfl, Nat.le_of_ble_eq_true rfl, Nat.le_of_ble_eq_true rfl⟩ (Nat.le_of_ble_eq_true rfl) ⟨Nat.le_of_ble_eq_true rfl, Nat.le_of_ble_eq_true rfl⟩ (fun r47 h48 p49 => ?_) (fun Er47 h48 p49 => False.elim p49)
      obtain ⟨rfl, rfl⟩ := p49
      rw [show bI (decide (nI 2 = 0)) = nI 0 from by decide]
      show V 83 _ [(.int (nI 0))] _ _ _
      refine r_if_ne (tgt := 88) Mm dX6_sell_83 (by decide) (fun c50 => absurd c50 (by decide)) (fun _ => ?_)
      refine r_iconst (v := nI 0) Mm dX6_sell_86 (by decide) ?_
      refine r_iret M dX6_sell_87 ?_
      exact pMd.thr rm0 "java/lang/IllegalArgumentException" 2 (by simp only [o_sell, oSh_ok k1 ecj, oIn_no k5]) (by decide +kernel)
  · refine r_callV (As := [(.int q)]) Mm dX6_sell_2 rfl (cm_isShow hfl h m (eM σ) q hM.1 (by omega) g2) (hM.1) rfl cw_X6_121 ⟨Nat.le_of_ble_eq_true rfl, Nat.le_of_ble_eq_true rfl, Nat.le_of_ble_eq_true rfl⟩ (Nat.le_of_ble_eq_true rfl) ⟨Nat.le_of_ble_eq_true rfl, Nat.le_of_ble_eq_true rfl⟩ (fun r51 h52 p53 => ?_) (fun Er51 h52 p53 => False.elim p53)
    obtain ⟨rfl, rfl⟩ := p53
    rw [decide_eq_false k1]
    show V 5 _ [(.int (nI 0))] _ _ _
    refine r_istore Mm dX6_sell_5 (by decide) ?_
    show V 7 [some (.ref m), some (.int q), some (.int n), some (.int u), some (.int (nI 0)), none] _ _ _ _
    refine r_iload_n Mm dX6_sell_7 rfl ?_
    refine r_iconst (v := nI 1) Mm dX6_sell_8 (by decide) ?_
    refine r_bipush (v := nI 50) Mm dX6_sell_9 (by decide) ?_
    by_cases k54 : (nI 1) ≤ n ∧ n ≤ (nI 50)
    · refine r_callS (As := [(.int n), (.int (nI 1)), (.int (nI 50))]) Mm dX6_sell_11 rfl (cm_isIn hfl h n (nI 1) (nI 50)) cw_X6_87 ⟨Nat.le_of_ble_eq_true rfl, Nat.le_of_ble_eq_true rfl, Nat.le_of_ble_eq_true rfl⟩ (Nat.le_of_ble_eq_true rfl) ⟨Nat.le_of_ble_eq_true rfl, Nat.le_of_ble_eq_true rfl⟩ (fun r55 h56 p57 => ?_) (fun Er55 h56 p57 => False.elim p57)
      obtain ⟨rfl, rfl⟩ := p57
      rw [decide_eq_true k54]
      obtain ⟨K, hK, rfl⟩ := in_le ⟨Int32.le_trans (by decide) k54.1, k54.2⟩ (by decide)
      have ecK : (nI K).toNatClampNeg = K := nI_clamp (by omega)
      show V 14 _ [(.int (nI 1))] _ _ _
      refine r_if_eq (tgt := 31) Mm dX6_sell_14 (by decide) (fun c58 => absurd c58 (by decide)) (fun _ => ?_)
      refine r_iload_n Mm dX6_sell_17 rfl ?_
      refine r_iconst (v := nI 0) Mm dX6_sell_18 (by decide) ?_
      refine r_bipush (v := nI 100) Mm dX6_sell_19 (by decide) ?_
      by_cases k59 : (nI 0) ≤ u ∧ u ≤ (nI 100)
      · refine r_callS (As := [(.int u), (.int (nI 0)), (.int (nI 100))]) Mm dX6_sell_21 rfl (cm_isIn hfl h u (nI 0) (nI 100)) cw_X6_87 ⟨Nat.le_of_ble_eq_true rfl, Nat.le_of_ble_eq_true rfl, Nat.le_of_ble_eq_true rfl⟩ (Nat.le_of_ble_eq_true rfl) ⟨Nat.le_of_ble_eq_true rfl, Nat.le_of_ble_eq_true rfl⟩ (fun r60 h61 p62 => ?_) (fun Er60 h61 p62 => False.elim p62)
        obtain ⟨rfl, rfl⟩ := p62
        rw [decide_eq_true k59]
        show V 24 _ [(.int (nI 1))] _ _ _
        refine r_if_eq (tgt := 31) Mm dX6_sell_24 (by decide) (fun c63 => absurd c63 (by decide)) (fun _ => ?_)
        refine r_iconst (v := nI 1) Mm dX6_sell_27 (by decide) ?_
        refine r_goto (tgt := 32) Mm dX6_sell_28 (by decide) ?_
        refine r_istore Mm dX6_sell_32 (by decide) ?_
        show V 34 [some (.ref m), some (.int q), some (.int (nI K)), some (.int u), some (.int (nI 0)), some (.int (nI 1))] _ _ _ _
        refine r_aload_n Mm dX6_sell_34 rfl ?_
        refine r_iload Mm dX6_sell_35 rfl ?_
        refine r_if_ne (tgt := 44) Mm dX6_sell_37 (by decide) (fun c64 => absurd c64 (by decide)) (fun _ => ?_)
        refine r_iconst (v := nI 1) Mm dX6_sell_40 (by decide) ?_
        refine r_goto (tgt := 80) Mm dX6_sell_41 (by decide) ?_
        refine r_callV (As := [(.int (nI 1))]) Mm dX6_sell_80 rfl (cm_isFine hfl h m ad hM (nI 1)) (hM.1) rfl cw_X6_94 ⟨Nat.le_of_ble_eq_true rfl, Nat.le_of_ble_eq_true rfl, Nat.le_of_ble_eq_true rfl⟩ (Nat.le_of_ble_eq_true rfl) ⟨Nat.le_of_ble_eq_true rfl, Nat.le_of_ble_eq_true rfl⟩ (fun r65 h66 p67 => ?_) (fun Er65 h66 p67 => False.elim p67)
        obtain ⟨rfl, rfl⟩ := p67
        rw [show bI (decide (nI 1 = 0)) = nI 0 from by decide]
        show V 83 _ [(.int (nI 0))] _ _ _
        refine r_if_ne (tgt := 88) Mm dX6_sell_83 (by decide) (fun c68 => absurd c68 (by decide)) (fun _ => ?_)
        refine r_iconst (v := nI 0) Mm dX6_sell_86 (by decide) ?_
        refine r_iret M dX6_sell_87 ?_
        exact pMd.thr rm0 "java/lang/IndexOutOfBoundsException" 1 (by simp only [o_sell, oSh_no k1, oIn_ok k54, ecK, oIn_ok k59]) (by decide +kernel)
      · refine r_callS (As := [(.int u), (.int (nI 0)), (.int (nI 100))]) Mm dX6_sell_21 rfl (cm_isIn hfl h u (nI 0) (nI 100)) cw_X6_87 ⟨Nat.le_of_ble_eq_true rfl, Nat.le_of_ble_eq_true rfl, Nat.le_of_ble_eq_true rfl⟩ (Nat.le_of_ble_eq_true rfl) ⟨Nat.le_of_ble_eq_true rfl, Nat.le_of_ble_eq_true rfl⟩ (fun r69 h70 p71 => ?_) (fun Er69 h70 p71 => False.elim p71)
        obtain ⟨rfl, rfl⟩ := p71
        rw [decide_eq_false k59]
        show V 24 _ [(.int (nI 0))] _ _ _
        refine r_if_eq (tgt := 31) Mm dX6_sell_24 (by decide) (fun _ => ?_) (fun c72 => absurd (by decide) c72)
        refine r_iconst (v := nI 0) Mm dX6_sell_31 (by decide) ?_
        refine r_istore Mm dX6_sell_32 (by decide) ?_
        show V 34 [some (.ref m), some (.int q), some (.int (nI K)), some (.int u), some (.int (nI 0)), some (.int (nI 0))] _ _ _ _
        refine r_aload_n Mm dX6_sell_34 rfl ?_
        refine r_iload Mm dX6_sell_35 rfl ?_
        refine r_if_ne (tgt := 44) Mm dX6_sell_37 (by decide) (fun c73 => absurd c73 (by decide)) (fun _ => ?_)
        refine r_iconst (v := nI 1) Mm dX6_sell_40 (by decide) ?_
        refine r_goto (tgt := 80) Mm dX6_sell_41 (by decide) ?_
        refine r_callV (As := [(.int (nI 1))]) Mm dX6_sell_80 rfl (cm_isFine hfl h m ad hM (nI 1)) (hM.1) rfl cw_X6_94 ⟨Nat.le_of_ble_eq_true rfl, Nat.le_of_ble_eq_true rfl, Nat.le_of_ble_eq_true rfl⟩ (Nat.le_of_ble_eq_true rfl) ⟨Nat.le_of_ble_eq_true rfl, Nat.le_of_ble_eq_true rfl⟩ (fun r74 h75 p76 => ?_) (fun Er74 h75 p76 => False.elim p76)
        obtain ⟨rfl, rfl⟩ := p76
        rw [show bI (decide (nI 1 = 0)) = nI 0 from by decide]
        show V 83 _ [(.int (nI 0))] _ _ _
        refine r_if_ne (tgt := 88) Mm dX6_sell_83 (by decide) (fun c77 => absurd c77 (by decide)) (fun _ => ?_)
        refine r_iconst (v := nI 0) Mm dX6_sell_86 (by decide) ?_
        refine r_iret M dX6_sell_87 ?_
        exact pMd.thr rm0 "java/lang/IndexOutOfBoundsException" 1 (by simp only [o_sell, oSh_no k1, oIn_ok k54, ecK, oIn_no k59]) (by decide +kernel)
    · refine r_callS (As := [(.int n), (.int (nI 1)), (.int (nI 50))]) Mm dX6_sell_11 rfl (cm_isIn hfl h n (nI 1) (nI 50)) cw_X6_87 ⟨Nat.le_of_ble_eq_true rfl, Nat.le_of_ble_eq_true rfl, Nat.le_of_ble_eq_true rfl⟩ (Nat.le_of_ble_eq_true rfl) ⟨Nat.le_of_ble_eq_true rfl, Nat.le_of_ble_eq_true rfl⟩ (fun r78 h79 p80 => ?_) (fun Er78 h79 p80 => False.elim p80)
      obtain ⟨rfl, rfl⟩ := p80
      rw [decide_eq_false k54]
      show V 14 _ [(.int (nI 0))] _ _ _
      refine r_if_eq (tgt := 31) Mm dX6_sell_14 (by decide) (fun _ => ?_) (fun c81 => absurd (by decide) c81)
      refine r_iconst (v := nI 0) Mm dX6_sell_31 (by decide) ?_
      refine r_istore Mm dX6_sell_32 (by decide) ?_
      show V 34 [some (.ref m), some (.int q), some (.int n), some (.int u), some (.int (nI 0)), some (.int (nI 0))] _ _ _ _
      refine r_aload_n Mm dX6_sell_34 rfl ?_
      refine r_iload Mm dX6_sell_35 rfl ?_
      refine r_if_ne (tgt := 44) Mm dX6_sell_37 (by decide) (fun c82 => absurd c82 (by decide)) (fun _ => ?_)
      refine r_iconst (v := nI 1) Mm dX6_sell_40 (by decide) ?_
      refine r_goto (tgt := 80) Mm dX6_sell_41 (by decide) ?_
      refine r_callV (As := [(.int (nI 1))]) Mm dX6_sell_80 rfl (cm_isFine hfl h m ad hM (nI 1)) (hM.1) rfl cw_X6_94 ⟨Nat.le_of_ble_eq_true rfl, Nat.le_of_ble_eq_true rfl, Nat.le_of_ble_eq_true rfl⟩ (Nat.le_of_ble_eq_true rfl) ⟨Nat.le_of_ble_eq_true rfl, Nat.le_of_ble_eq_true rfl⟩ (fun r83 h84 p85 => ?_) (fun Er83 h84 p85 => False.elim p85)
      obtain ⟨rfl, rfl⟩ := p85
      rw [show bI (decide (nI 1 = 0)) = nI 0 from by decide]
      show V 83 _ [(.int (nI 0))] _ _ _
      refine r_if_ne (tgt := 88) Mm dX6_sell_83 (by decide) (fun c86 => absurd c86 (by decide)) (fun _ => ?_)
      refine r_iconst (v := nI 0) Mm dX6_sell_86 (by decide) ?_
      refine r_iret M dX6_sell_87 ?_
      exact pMd.thr rm0 "java/lang/IndexOutOfBoundsException" 1 (by simp only [o_sell, oSh_no k1, oIn_no k54]) (by decide +kernel)
set_option maxRecDepth 100000 in
set_option maxHeartbeats 4000000 in
theorem cm_mend {g : Gl} {l : Launch} (hfl : l.stackTraces = false) (h : Hp) (m : Nat) (ad : Nat → Nat) (σ : ST) (rm : RM h m ad σ) (hx : WX σ) (p t : Int32) : CT g l iX6_mend 3 [.ref m, .int p, .int t] h 0 0 (pMd m ad h σ ["java/lang/IndexOutOfBoundsException", "java/lang/IllegalArgumentException", "java/lang/IllegalStateException"] (o_mend σ p t)) := by
  have hx0 := hx
  obtain ⟨hw, hx1, hx2⟩ := hx
  have hw0 := hw
  obtain ⟨w1, w2, w3, w4, w5⟩ := hw
  have rm0 := rm
  obtain ⟨hM, ⟨g1, g2, g3⟩, rp, rs, rh, rt⟩ := rm
  refine ct_mk hfl (by decide) (Nat.le_of_ble_eq_true rfl) (by intro v hv; simp only [List.mem_cons, List.not_mem_nil, or_false] at hv; rcases hv with rfl | rfl | rfl <;> rfl) (fun V X M => ?_)
  have Mm := M.m
  show V 0 [some (.ref m), some (.int p), some (.int t), none, none, none, none] [] _ 0 0
  refine r_aload_n Mm dX6_mend_0 rfl ?_
  refine r_iload_n Mm dX6_mend_1 rfl ?_
  by_cases k1 : 0 ≤ p ∧ p < nI (eN σ)
  · refine r_callV (As := [(.int p)]) Mm dX6_mend_2 rfl (cm_isPuppet hfl h m (eN σ) p hM.1 (by omega) g1) (hM.1) rfl cw_X6_98 ⟨Nat.le_of_ble_eq_true rfl, Nat.le_of_ble_eq_true rfl, Nat.le_of_ble_eq_true rfl⟩ (Nat.le_of_ble_eq_true rfl) ⟨Nat.le_of_ble_eq_true rfl, Nat.le_of_ble_eq_true rfl⟩ (fun r2 h3 p4 => ?_) (fun Er2 h3 p4 => False.elim p4)
    obtain ⟨rfl, rfl⟩ := p4
    rw [decide_eq_true k1]
    obtain ⟨i, hi, rfl⟩ := in_ex k1 (by omega)
    have eci : (nI i).toNatClampNeg = i := nI_clamp (by omega)
    show V 5 _ [(.int (nI 1))] _ _ _
    refine r_istore_n Mm dX6_mend_5 (by decide) ?_
    show V 6 [some (.ref m), some (.int (nI i)), some (.int t), some (.int (nI 1)), none, none, none] _ _ _ _
    refine r_iload_n Mm dX6_mend_6 rfl ?_
    refine r_if_eq (tgt := 24) Mm dX6_mend_7 (by decide) (fun c5 => absurd c5 (by decide)) (fun _ => ?_)
    refine r_iload_n Mm dX6_mend_10 rfl ?_
    refine r_iconst (v := nI 0) Mm dX6_mend_11 (by decide) ?_
    refine r_ldc (v := nI 100000) Mm dX6_mend_12 (by rw [show nI 100000 = 100000 from rfl]; exact cc_X6_116) ?_
    by_cases k6 : (nI 0) ≤ t ∧ t ≤ (nI 100000)
    · refine r_callS (As := [(.int t), (.int (nI 0)), (.int (nI 100000))]) Mm dX6_mend_14 rfl (cm_isIn hfl h t (nI 0) (nI 100000)) cw_X6_87 ⟨Nat.le_of_ble_eq_true rfl, Nat.le_of_ble_eq_true rfl, Nat.le_of_ble_eq_true rfl⟩ (Nat.le_of_ble_eq_true rfl) ⟨Nat.le_of_ble_eq_true rfl, Nat.le_of_ble_eq_true rfl⟩ (fun r7 h8 p9 => ?_) (fun Er7 h8 p9 => False.elim p9)
      obtain ⟨rfl, rfl⟩ := p9
      rw [decide_eq_true k6]
      show V 17 _ [(.int (nI 1))] _ _ _
      refine r_if_eq (tgt := 24) Mm dX6_mend_17 (by decide) (fun c10 => absurd c10 (by decide)) (fun _ => ?_)
      refine r_iconst (v := nI 1) Mm dX6_mend_20 (by decide) ?_
      refine r_goto (tgt := 25) Mm dX6_mend_21 (by decide) ?_
      refine r_istore Mm dX6_mend_25 (by decide) ?_
      show V 27 [some (.ref m), some (.int (nI i)), some (.int t), some (.int (nI 1)), some (.int (nI 1)), none, none] _ _ _ _
      refine r_iload Mm dX6_mend_27 rfl ?_
      refine r_if_eq (tgt := 71) Mm dX6_mend_29 (by decide) (fun c11 => absurd c11 (by decide)) (fun _ => ?_)
      have hw99 := (w3 i hi).2.2.2.2.2.2.1
      have hm10 := (w3 i hi).2.2.2.2.2.2.2
      refine r_aload_n Mm dX6_mend_32 rfl ?_
      refine r_getR Mm dX6_mend_33 fi_X6_22 (hM.1) rfl (i := 605) rfl ((hM.2.1 5 8 8 (by decide)).1) ?_
      refine r_iload_n Mm dX6_mend_36 rfl ?_
      refine r_ialdN Mm dX6_mend_37 ((hM.2.1 5 8 8 (by decide)).2) (by omega) (by omega) ?_
      refine r_top _ (nI (qWorn (eP σ i))) ((rp i (by omega)).2.2.2.2.1) ?_
      refine r_if_leN (tgt := 71) Mm dX6_mend_38 (by decide) (by omega) (fun c12 => ?_) (fun c12 => ?_)
      · refine r_iconst (v := nI 0) Mm dX6_mend_71 (by decide) ?_
        refine r_istore Mm dX6_mend_72 (by decide) ?_
        show V 74 [some (.ref m), some (.int (nI i)), some (.int t), some (.int (nI 1)), some (.int (nI 1)), some (.int (nI 0)), none] _ _ _ _
        refine r_aload_n Mm dX6_mend_74 rfl ?_
        refine r_iload_n Mm dX6_mend_75 rfl ?_
        refine r_if_ne (tgt := 83) Mm dX6_mend_76 (by decide) (fun _ => ?_) (fun c13 => absurd c13 (by decide))
        refine r_iload Mm dX6_mend_83 rfl ?_
        refine r_if_ne (tgt := 92) Mm dX6_mend_85 (by decide) (fun _ => ?_) (fun c14 => absurd c14 (by decide))
        refine r_iload Mm dX6_mend_92 rfl ?_
        refine r_if_ne (tgt := 101) Mm dX6_mend_94 (by decide) (fun c15 => absurd c15 (by decide)) (fun _ => ?_)
        refine r_iconst (v := nI 3) Mm dX6_mend_97 (by decide) ?_
        refine r_goto (tgt := 102) Mm dX6_mend_98 (by decide) ?_
        refine r_callV (As := [(.int (nI 3))]) Mm dX6_mend_102 rfl (cm_isFine hfl h m ad hM (nI 3)) (hM.1) rfl cw_X6_94 ⟨Nat.le_of_ble_eq_true rfl, Nat.le_of_ble_eq_true rfl, Nat.le_of_ble_eq_true rfl⟩ (Nat.le_of_ble_eq_true rfl) ⟨Nat.le_of_ble_eq_true rfl, Nat.le_of_ble_eq_true rfl⟩ (fun r16 h17 p18 => ?_) (fun Er16 h17 p18 => False.elim p18)
        obtain ⟨rfl, rfl⟩ := p18
        rw [show bI (decide (nI 3 = 0)) = nI 0 from by decide]
        show V 105 _ [(.int (nI 0))] _ _ _
        refine r_if_ne (tgt := 110) Mm dX6_mend_105 (by decide) (fun c19 => absurd c19 (by decide)) (fun _ => ?_)
        refine r_iconst (v := nI 0) Mm dX6_mend_108 (by decide) ?_
        refine r_iret M dX6_mend_109 ?_
        exact pMd.thr rm0 "java/lang/IllegalStateException" 3 (by simp only [o_mend, oPu_ok k1 eci, oIn_ok k6, if_pos (Or.inl c12 : qWorn (eP σ i) = 0 ∨ 10 ≤ (qMend (eP σ i)).length)]) (by decide +kernel)
      · refine r_aload_n Mm dX6_mend_41 rfl ?_
        refine r_getR Mm dX6_mend_42 fi_X6_43 (hM.1) rfl (i := 613) rfl ((hM.2.1 13 8 8 (by decide)).1) ?_
        refine r_iload_n Mm dX6_mend_45 rfl ?_
        refine r_ialdN Mm dX6_mend_46 ((hM.2.1 13 8 8 (by decide)).2) (by omega) (by omega) ?_
        refine r_top _ (nI ((qMend (eP σ i)).length)) ((rp i (by omega)).2.2.2.2.2.2.1) ?_
        refine r_bipush (v := nI 10) Mm dX6_mend_47 (by decide) ?_
        refine r_icmp_geN (tgt := 71) Mm dX6_mend_49 (by decide) (by omega) (by omega) (fun c20 => ?_) (fun c20 => ?_)
        · refine r_iconst (v := nI 0) Mm dX6_mend_71 (by decide) ?_
          refine r_istore Mm dX6_mend_72 (by decide) ?_
          show V 74 [some (.ref m), some (.int (nI i)), some (.int t), some (.int (nI 1)), some (.int (nI 1)), some (.int (nI 0)), none] _ _ _ _
          refine r_aload_n Mm dX6_mend_74 rfl ?_
          refine r_iload_n Mm dX6_mend_75 rfl ?_
          refine r_if_ne (tgt := 83) Mm dX6_mend_76 (by decide) (fun _ => ?_) (fun c21 => absurd c21 (by decide))
          refine r_iload Mm dX6_mend_83 rfl ?_
          refine r_if_ne (tgt := 92) Mm dX6_mend_85 (by decide) (fun _ => ?_) (fun c22 => absurd c22 (by decide))
          refine r_iload Mm dX6_mend_92 rfl ?_
          refine r_if_ne (tgt := 101) Mm dX6_mend_94 (by decide) (fun c23 => absurd c23 (by decide)) (fun _ => ?_)
          refine r_iconst (v := nI 3) Mm dX6_mend_97 (by decide) ?_
          refine r_goto (tgt := 102) Mm dX6_mend_98 (by decide) ?_
          refine r_callV (As := [(.int (nI 3))]) Mm dX6_mend_102 rfl (cm_isFine hfl h m ad hM (nI 3)) (hM.1) rfl cw_X6_94 ⟨Nat.le_of_ble_eq_true rfl, Nat.le_of_ble_eq_true rfl, Nat.le_of_ble_eq_true rfl⟩ (Nat.le_of_ble_eq_true rfl) ⟨Nat.le_of_ble_eq_true rfl, Nat.le_of_ble_eq_true rfl⟩ (fun r24 h25 p26 => ?_) (fun Er24 h25 p26 => False.elim p26)
          obtain ⟨rfl, rfl⟩ := p26
          rw [show bI (decide (nI 3 = 0)) = nI 0 from by decide]
          show V 105 _ [(.int (nI 0))] _ _ _
          refine r_if_ne (tgt := 110) Mm dX6_mend_105 (by decide) (fun c27 => absurd c27 (by decide)) (fun _ => ?_)
          refine r_iconst (v := nI 0) Mm dX6_mend_108 (by decide) ?_
          refine r_iret M dX6_mend_109 ?_
          exact pMd.thr rm0 "java/lang/IllegalStateException" 3 (by simp only [o_mend, oPu_ok k1 eci, oIn_ok k6, if_pos (Or.inr c20 : qWorn (eP σ i) = 0 ∨ 10 ≤ (qMend (eP σ i)).length)]) (by decide +kernel)
        · refine r_aload_n Mm dX6_mend_52 rfl ?_
          refine r_iload_n Mm dX6_mend_53 rfl ?_
          refine r_iload_n Mm dX6_mend_54 rfl ?_
          refine r_aload_n Mm dX6_mend_55 rfl ?_
          refine r_getR Mm dX6_mend_56 fi_X6_22 (hM.1) rfl (i := 605) rfl ((hM.2.1 5 8 8 (by decide)).1) ?_
          refine r_iload_n Mm dX6_mend_59 rfl ?_
          refine r_ialdN Mm dX6_mend_60 ((hM.2.1 5 8 8 (by decide)).2) (by omega) (by omega) ?_
          refine r_top _ (nI (qWorn (eP σ i))) ((rp i (by omega)).2.2.2.2.1) ?_
          refine r_callV (As := [(.int (nI i)), (.int t), (.int (nI (qWorn (eP σ i))))]) Mm dX6_mend_61 rfl (cm_busy hfl h m ad hM i (eP σ i) (by omega) (rp i (by omega)) (w3 i hi).2.2.2.2.2.2.2 (eS σ) (eM σ) w2 rs g2 t (nI (qWorn (eP σ i)))) (hM.1) rfl cw_X6_124 ⟨Nat.le_of_ble_eq_true rfl, Nat.le_of_ble_eq_true rfl, Nat.le_of_ble_eq_true rfl⟩ (Nat.le_of_ble_eq_true rfl) ⟨Nat.le_of_ble_eq_true rfl, Nat.le_of_ble_eq_true rfl⟩ (fun r28 h29 p30 => ?_) (fun Er28 h29 p30 => False.elim p30)
          obtain ⟨rfl, rfl⟩ := p30
          show V 64 _ [(.int (bI (takenS σ i (t, (nI (qWorn (eP σ i)))))))] _ _ _
          refine r_if_neB (tgt := 71) Mm dX6_mend_64 (by decide) (fun c31 => ?_) (fun c31 => ?_)
          · refine r_iconst (v := nI 0) Mm dX6_mend_71 (by decide) ?_
            refine r_istore Mm dX6_mend_72 (by decide) ?_
            show V 74 [some (.ref m), some (.int (nI i)), some (.int t), some (.int (nI 1)), some (.int (nI 1)), some (.int (nI 0)), none] _ _ _ _
            refine r_aload_n Mm dX6_mend_74 rfl ?_
            refine r_iload_n Mm dX6_mend_75 rfl ?_
            refine r_if_ne (tgt := 83) Mm dX6_mend_76 (by decide) (fun _ => ?_) (fun c32 => absurd c32 (by decide))
            refine r_iload Mm dX6_mend_83 rfl ?_
            refine r_if_ne (tgt := 92) Mm dX6_mend_85 (by decide) (fun _ => ?_) (fun c33 => absurd c33 (by decide))
            refine r_iload Mm dX6_mend_92 rfl ?_
            refine r_if_ne (tgt := 101) Mm dX6_mend_94 (by decide) (fun c34 => absurd c34 (by decide)) (fun _ => ?_)
            refine r_iconst (v := nI 3) Mm dX6_mend_97 (by decide) ?_
            refine r_goto (tgt := 102) Mm dX6_mend_98 (by decide) ?_
            refine r_callV (As := [(.int (nI 3))]) Mm dX6_mend_102 rfl (cm_isFine hfl h m ad hM (nI 3)) (hM.1) rfl cw_X6_94 ⟨Nat.le_of_ble_eq_true rfl, Nat.le_of_ble_eq_true rfl, Nat.le_of_ble_eq_true rfl⟩ (Nat.le_of_ble_eq_true rfl) ⟨Nat.le_of_ble_eq_true rfl, Nat.le_of_ble_eq_true rfl⟩ (fun r35 h36 p37 => ?_) (fun Er35 h36 p37 => False.elim p37)
            obtain ⟨rfl, rfl⟩ := p37
            rw [show bI (decide (nI 3 = 0)) = nI 0 from by decide]
            show V 105 _ [(.int (nI 0))] _ _ _
            refine r_if_ne (tgt := 110) Mm dX6_mend_105 (by decide) (fun c38 => absurd c38 (by decide)) (fun _ => ?_)
            refine r_iconst (v := nI 0) Mm dX6_mend_108 (by decide) ?_
            refine r_iret M dX6_mend_109 ?_
            exact pMd.thr rm0 "java/lang/IllegalStateException" 3 (by simp only [o_mend, oPu_ok k1 eci, oIn_ok k6, if_neg (fun z => z.elim (fun w => by omega) (fun w => by omega) : ¬ (qWorn (eP σ i) = 0 ∨ 10 ≤ (qMend (eP σ i)).length)), if_pos (c31 : takenS σ i (t, nI (qWorn (eP σ i))) = true)]) (by decide +kernel)
          · refine r_iconst (v := nI 1) Mm dX6_mend_67 (by decide) ?_
            refine r_goto (tgt := 72) Mm dX6_mend_68 (by decide) ?_
            refine r_istore Mm dX6_mend_72 (by decide) ?_
            show V 74 [some (.ref m), some (.int (nI i)), some (.int t), some (.int (nI 1)), some (.int (nI 1)), some (.int (nI 1)), none] _ _ _ _
            refine r_aload_n Mm dX6_mend_74 rfl ?_
            refine r_iload_n Mm dX6_mend_75 rfl ?_
            refine r_if_ne (tgt := 83) Mm dX6_mend_76 (by decide) (fun _ => ?_) (fun c39 => absurd c39 (by decide))
            refine r_iload Mm dX6_mend_83 rfl ?_
            refine r_if_ne (tgt := 92) Mm dX6_mend_85 (by decide) (fun _ => ?_) (fun c40 => absurd c40 (by decide))
            refine r_iload Mm dX6_mend_92 rfl ?_
            refine r_if_ne (tgt := 101) Mm dX6_mend_94 (by decide) (fun _ => ?_) (fun c41 => absurd c41 (by decide))
            refine r_iconst (v := nI 0) Mm dX6_mend_101 (by decide) ?_
            refine r_callV (As := [(.int (nI 0))]) Mm dX6_mend_102 rfl (cm_isFine hfl h m ad hM (nI 0)) (hM.1) rfl cw_X6_94 ⟨Nat.le_of_ble_eq_true rfl, Nat.le_of_ble_eq_true rfl, Nat.le_of_ble_eq_true rfl⟩ (Nat.le_of_ble_eq_true rfl) ⟨Nat.le_of_ble_eq_true rfl, Nat.le_of_ble_eq_true rfl⟩ (fun r42 h43 p44 => ?_) (fun Er42 h43 p44 => False.elim p44)
            obtain ⟨rfl, rfl⟩ := p44
            rw [show bI (decide (nI 0 = 0)) = nI 1 from by decide]
            obtain ⟨hz, fz, z0, rz, ez⟩ : ∃ z, Fr (MW m ad) h z ∧ xF z 600 m = nI 0 ∧ RM z m ad σ ∧ z = yF h 600 m (nI 0) := ⟨_, Fr.yF (Or.inl rfl), u2_s _ _ _ _, rm0.f0 _, rfl⟩
            rw [← ez]
            clear ez
            have rz0 := rz
            obtain ⟨hMz, ⟨gz1, gz2, gz3⟩, rpz, rsz, rhz, rtz⟩ := rz
            show V 105 _ [(.int (nI 1))] _ _ _
            refine r_if_ne (tgt := 110) Mm dX6_mend_105 (by decide) (fun _ => ?_) (fun c45 => absurd c45 (by decide))
            refine r_aload_n Mm dX6_mend_110 rfl ?_
            refine r_getR Mm dX6_mend_111 fi_X6_22 (hMz.1) rfl (i := 605) rfl ((hMz.2.1 5 8 8 (by decide)).1) ?_
            refine r_iload_n Mm dX6_mend_114 rfl ?_
            refine r_ialdN Mm dX6_mend_115 ((hMz.2.1 5 8 8 (by decide)).2) (by omega) (by omega) ?_
            refine r_top _ (nI (qWorn (eP σ i))) ((rpz i (by omega)).2.2.2.2.1) ?_
            refine r_istore Mm dX6_mend_116 (by decide) ?_
            show V 118 [some (.ref m), some (.int (nI i)), some (.int t), some (.int (nI 1)), some (.int (nI 1)), some (.int (nI 1)), some (.int (nI (qWorn (eP σ i))))] _ _ _ _
            refine r_aload_n Mm dX6_mend_118 rfl ?_
            refine r_getR Mm dX6_mend_119 fi_X6_37 (hMz.1) rfl (i := 611) rfl ((hMz.2.1 11 8 80 (by decide)).1) ?_
            refine r_bipush (v := nI 10) Mm dX6_mend_122 (by decide) ?_
            refine r_iload_n Mm dX6_mend_124 rfl ?_
            refine r_imulN Mm dX6_mend_125 ?_
            refine r_aload_n Mm dX6_mend_126 rfl ?_
            refine r_getR Mm dX6_mend_127 fi_X6_43 (hMz.1) rfl (i := 613) rfl ((hMz.2.1 13 8 8 (by decide)).1) ?_
            refine r_iload_n Mm dX6_mend_130 rfl ?_
            refine r_ialdN Mm dX6_mend_131 ((hMz.2.1 13 8 8 (by decide)).2) (by omega) (by omega) ?_
            refine r_top _ (nI ((qMend (eP σ i)).length)) ((rpz i (by omega)).2.2.2.2.2.2.1) ?_
            refine r_iaddN Mm dX6_mend_132 ?_
            refine r_iload_n Mm dX6_mend_133 rfl ?_
            refine r_iastN Mm dX6_mend_134 ((hMz.2.1 11 8 80 (by decide)).2) (by omega) (by omega) ?_
            refine r_aload_n Mm dX6_mend_135 rfl ?_
            refine r_getR Mm dX6_mend_136 fi_X6_40 (hMz.1) rfl (i := 612) rfl ((hMz.2.1 12 8 80 (by decide)).1) ?_
            refine r_bipush (v := nI 10) Mm dX6_mend_139 (by decide) ?_
            refine r_iload_n Mm dX6_mend_141 rfl ?_
            refine r_imulN Mm dX6_mend_142 ?_
            refine r_aload_n Mm dX6_mend_143 rfl ?_
            refine r_getR Mm dX6_mend_144 fi_X6_43 (hMz.1) rfl (i := 613) rfl ((hMz.2.1 13 8 8 (by decide)).1) ?_
            refine r_iload_n Mm dX6_mend_147 rfl ?_
            refine r_ialdN Mm dX6_mend_148 ((hMz.2.1 13 8 8 (by decide)).2) (by omega) (by omega) ?_
            refine r_top _ (nI ((qMend (eP σ i)).length)) (by rw [yA_o (hMz.ne (by decide : (13, 8, 8) ∈ mSl) (by decide : (11, 8, 80) ∈ mSl) (by decide))]; exact (rpz i (by omega)).2.2.2.2.2.2.1) ?_
            refine r_iaddN Mm dX6_mend_149 ?_
            refine r_iload Mm dX6_mend_150 rfl ?_
            refine r_iastN Mm dX6_mend_152 ((hMz.2.1 12 8 80 (by decide)).2) (by omega) (by omega) ?_
            refine r_aload_n Mm dX6_mend_153 rfl ?_
            refine r_getR Mm dX6_mend_154 fi_X6_43 (hMz.1) rfl (i := 613) rfl ((hMz.2.1 13 8 8 (by decide)).1) ?_
            refine r_iload_n Mm dX6_mend_157 rfl ?_
            refine r_dup2 Mm dX6_mend_158 rfl rfl ?_
            refine r_ialdN Mm dX6_mend_159 ((hMz.2.1 13 8 8 (by decide)).2) (by omega) (by omega) ?_
            refine r_top _ (nI ((qMend (eP σ i)).length)) (by rw [yA_o (hMz.ne (by decide : (13, 8, 8) ∈ mSl) (by decide : (12, 8, 80) ∈ mSl) (by decide)), yA_o (hMz.ne (by decide : (13, 8, 8) ∈ mSl) (by decide : (11, 8, 80) ∈ mSl) (by decide))]; exact (rpz i (by omega)).2.2.2.2.2.2.1) ?_
            refine r_iconst (v := nI 1) Mm dX6_mend_160 (by decide) ?_
            refine r_iaddN Mm dX6_mend_161 ?_
            refine r_iastN Mm dX6_mend_162 ((hMz.2.1 13 8 8 (by decide)).2) (by omega) (by omega) ?_
            refine r_aload_n Mm dX6_mend_163 rfl ?_
            refine r_getR Mm dX6_mend_164 fi_X6_22 (hMz.1) rfl (i := 605) rfl ((hMz.2.1 5 8 8 (by decide)).1) ?_
            refine r_iload_n Mm dX6_mend_167 rfl ?_
            refine r_iconst (v := nI 0) Mm dX6_mend_168 (by decide) ?_
            refine r_iastN Mm dX6_mend_169 ((hMz.2.1 5 8 8 (by decide)).2) (by omega) (by omega) ?_
            refine r_iload Mm dX6_mend_170 rfl ?_
            refine r_iret M dX6_mend_172 ?_
            exact pMd.ret fz z0 (by simp only [o_mend, oPu_ok k1 eci, oIn_ok k6, if_neg (fun z => z.elim (fun w => by omega) (fun w => by omega) : ¬ (qWorn (eP σ i) = 0 ∨ 10 ≤ (qMend (eP σ i)).length)), if_neg (by rw [c31]; exact Bool.noConfusion : ¬ takenS σ i (t, nI (qWorn (eP σ i))) = true)]) (Fr.tr (Fr.tr (Fr.tr (Fr.yA (MW.at 11 8 80 (by decide))) (Fr.yA (MW.at 12 8 80 (by decide)))) (Fr.yA (MW.at 13 8 8 (by decide)))) (Fr.yA (MW.at 5 8 8 (by decide)))) (by rw [zxF_yA, zxF_yA, zxF_yA, zxF_yA]) (rz0.mendIs (by omega) t (by omega) hx0.len)
    · refine r_callS (As := [(.int t), (.int (nI 0)), (.int (nI 100000))]) Mm dX6_mend_14 rfl (cm_isIn hfl h t (nI 0) (nI 100000)) cw_X6_87 ⟨Nat.le_of_ble_eq_true rfl, Nat.le_of_ble_eq_true rfl, Nat.le_of_ble_eq_true rfl⟩ (Nat.le_of_ble_eq_true rfl) ⟨Nat.le_of_ble_eq_true rfl, Nat.le_of_ble_eq_true rfl⟩ (fun r46 h47 p48 => ?_) (fun Er46 h47 p48 => False.elim p48)
      obtain ⟨rfl, rfl⟩ := p48
      rw [decide_eq_false k6]
      show V 17 _ [(.int (nI 0))] _ _ _
      refine r_if_eq (tgt := 24) Mm dX6_mend_17 (by decide) (fun _ => ?_) (fun c49 => absurd (by decide) c49)
      refine r_iconst (v := nI 0) Mm dX6_mend_24 (by decide) ?_
      refine r_istore Mm dX6_mend_25 (by decide) ?_
      show V 27 [some (.ref m), some (.int (nI i)), some (.int t), some (.int (nI 1)), some (.int (nI 0)), none, none] _ _ _ _
      refine r_iload Mm dX6_mend_27 rfl ?_
      refine r_if_eq (tgt := 71) Mm dX6_mend_29 (by decide) (fun _ => ?_) (fun c50 => absurd (by decide) c50)
      refine r_iconst (v := nI 0) Mm dX6_mend_71 (by decide) ?_
      refine r_istore Mm dX6_mend_72 (by decide) ?_
      show V 74 [some (.ref m), some (.int (nI i)), some (.int t), some (.int (nI 1)), some (.int (nI 0)), some (.int (nI 0)), none] _ _ _ _
      refine r_aload_n Mm dX6_mend_74 rfl ?_
      refine r_iload_n Mm dX6_mend_75 rfl ?_
      refine r_if_ne (tgt := 83) Mm dX6_mend_76 (by decide) (fun _ => ?_) (fun c51 => absurd c51 (by decide))
      refine r_iload Mm dX6_mend_83 rfl ?_
      refine r_if_ne (tgt := 92) Mm dX6_mend_85 (by decide) (fun c52 => absurd c52 (by decide)) (fun _ => ?_)
      refine r_iconst (v := nI 2) Mm dX6_mend_88 (by decide) ?_
      refine r_goto (tgt := 102) Mm dX6_mend_89 (by decide) ?_
      refine r_callV (As := [(.int (nI 2))]) Mm dX6_mend_102 rfl (cm_isFine hfl h m ad hM (nI 2)) (hM.1) rfl cw_X6_94 ⟨Nat.le_of_ble_eq_true rfl, Nat.le_of_ble_eq_true rfl, Nat.le_of_ble_eq_true rfl⟩ (Nat.le_of_ble_eq_true rfl) ⟨Nat.le_of_ble_eq_true rfl, Nat.le_of_ble_eq_true rfl⟩ (fun r53 h54 p55 => ?_) (fun Er53 h54 p55 => False.elim p55)
      obtain ⟨rfl, rfl⟩ := p55
      rw [show bI (decide (nI 2 = 0)) = nI 0 from by decide]
      show V 105 _ [(.int (nI 0))] _ _ _
      refine r_if_ne (tgt := 110) Mm dX6_mend_105 (by decide) (fun c56 => absurd c56 (by decide)) (fun _ => ?_)
      refine r_iconst (v := nI 0) Mm dX6_mend_108 (by decide) ?_
      refine r_iret M dX6_mend_109 ?_
      exact pMd.thr rm0 "java/lang/IllegalArgumentException" 2 (by simp only [o_mend, oPu_ok k1 eci, oIn_no k6]) (by decide +kernel)
  · refine r_callV (As := [(.int p)]) Mm dX6_mend_2 rfl (cm_isPuppet hfl h m (eN σ) p hM.1 (by omega) g1) (hM.1) rfl cw_X6_98 ⟨Nat.le_of_ble_eq_true rfl, Nat.le_of_ble_eq_true rfl, Nat.le_of_ble_eq_true rfl⟩ (Nat.le_of_ble_eq_true rfl) ⟨Nat.le_of_ble_eq_true rfl, Nat.le_of_ble_eq_true rfl⟩ (fun r57 h58 p59 => ?_) (fun Er57 h58 p59 => False.elim p59)
    obtain ⟨rfl, rfl⟩ := p59
    rw [decide_eq_false k1]
    show V 5 _ [(.int (nI 0))] _ _ _
    refine r_istore_n Mm dX6_mend_5 (by decide) ?_
    show V 6 [some (.ref m), some (.int p), some (.int t), some (.int (nI 0)), none, none, none] _ _ _ _
    refine r_iload_n Mm dX6_mend_6 rfl ?_
    refine r_if_eq (tgt := 24) Mm dX6_mend_7 (by decide) (fun _ => ?_) (fun c60 => absurd (by decide) c60)
    refine r_iconst (v := nI 0) Mm dX6_mend_24 (by decide) ?_
    refine r_istore Mm dX6_mend_25 (by decide) ?_
    show V 27 [some (.ref m), some (.int p), some (.int t), some (.int (nI 0)), some (.int (nI 0)), none, none] _ _ _ _
    refine r_iload Mm dX6_mend_27 rfl ?_
    refine r_if_eq (tgt := 71) Mm dX6_mend_29 (by decide) (fun _ => ?_) (fun c61 => absurd (by decide) c61)
    refine r_iconst (v := nI 0) Mm dX6_mend_71 (by decide) ?_
    refine r_istore Mm dX6_mend_72 (by decide) ?_
    show V 74 [some (.ref m), some (.int p), some (.int t), some (.int (nI 0)), some (.int (nI 0)), some (.int (nI 0)), none] _ _ _ _
    refine r_aload_n Mm dX6_mend_74 rfl ?_
    refine r_iload_n Mm dX6_mend_75 rfl ?_
    refine r_if_ne (tgt := 83) Mm dX6_mend_76 (by decide) (fun c62 => absurd c62 (by decide)) (fun _ => ?_)
    refine r_iconst (v := nI 1) Mm dX6_mend_79 (by decide) ?_
    refine r_goto (tgt := 102) Mm dX6_mend_80 (by decide) ?_
    refine r_callV (As := [(.int (nI 1))]) Mm dX6_mend_102 rfl (cm_isFine hfl h m ad hM (nI 1)) (hM.1) rfl cw_X6_94 ⟨Nat.le_of_ble_eq_true rfl, Nat.le_of_ble_eq_true rfl, Nat.le_of_ble_eq_true rfl⟩ (Nat.le_of_ble_eq_true rfl) ⟨Nat.le_of_ble_eq_true rfl, Nat.le_of_ble_eq_true rfl⟩ (fun r63 h64 p65 => ?_) (fun Er63 h64 p65 => False.elim p65)
    obtain ⟨rfl, rfl⟩ := p65
    rw [show bI (decide (nI 1 = 0)) = nI 0 from by decide]
    show V 105 _ [(.int (nI 0))] _ _ _
    refine r_if_ne (tgt := 110) Mm dX6_mend_105 (by decide) (fun c66 => absurd c66 (by decide)) (fun _ => ?_)
    refine r_iconst (v := nI 0) Mm dX6_mend_108 (by decide) ?_
    refine r_iret M dX6_mend_109 ?_
    exact pMd.thr rm0 "java/lang/IndexOutOfBoundsException" 1 (by simp only [o_mend, oPu_no k1]) (by decide +kernel)
set_option maxRecDepth 100000 in
set_option maxHeartbeats 4000000 in
theorem cm_perform {g : Gl} {l : Launch} (hfl : l.stackTraces = false) (h : Hp) (m : Nat) (ad : Nat → Nat) (σ : ST) (rm : RM h m ad σ) (hx : WX σ) (q : Int32) : CT g l iX6_perform 3 [.ref m, .int q] h 0 0 (pMd m ad h σ ["java/lang/IndexOutOfBoundsException", "java/lang/IllegalStateException"] (o_perform σ q)) := by
  have hx0 := hx
  obtain ⟨hw, hx1, hx2⟩ := hx
  have hw0 := hw
  obtain ⟨w1, w2, w3, w4, w5⟩ := hw
  have rm0 := rm
  obtain ⟨hM, ⟨g1, g2, g3⟩, rp, rs, rh, rt⟩ := rm
  refine ct_mk hfl (by decide) (Nat.le_of_ble_eq_true rfl) (by intro v hv; simp only [List.mem_cons, List.not_mem_nil, or_false] at hv; rcases hv with rfl | rfl <;> rfl) (fun V X M => ?_)
  have Mm := M.m
  show V 0 [some (.ref m), some (.int q), none, none] [] _ 0 0
  refine r_aload_n Mm dX6_perform_0 rfl ?_
  refine r_iload_n Mm dX6_perform_1 rfl ?_
  by_cases k1 : 0 ≤ q ∧ q < nI (eM σ)
  · refine r_callV (As := [(.int q)]) Mm dX6_perform_2 rfl (cm_isShow hfl h m (eM σ) q hM.1 (by omega) g2) (hM.1) rfl cw_X6_121 ⟨Nat.le_of_ble_eq_true rfl, Nat.le_of_ble_eq_true rfl, Nat.le_of_ble_eq_true rfl⟩ (Nat.le_of_ble_eq_true rfl) ⟨Nat.le_of_ble_eq_true rfl, Nat.le_of_ble_eq_true rfl⟩ (fun r2 h3 p4 => ?_) (fun Er2 h3 p4 => False.elim p4)
    obtain ⟨rfl, rfl⟩ := p4
    rw [decide_eq_true k1]
    obtain ⟨j, hj, rfl⟩ := in_ex k1 (by omega)
    have ecj : (nI j).toNatClampNeg = j := nI_clamp (by omega)
    show V 5 _ [(.int (nI 1))] _ _ _
    refine r_istore_n Mm dX6_perform_5 (by decide) ?_
    show V 6 [some (.ref m), some (.int (nI j)), some (.int (nI 1)), none] _ _ _ _
    refine r_aload_n Mm dX6_perform_6 rfl ?_
    refine r_iload_n Mm dX6_perform_7 rfl ?_
    refine r_if_ne (tgt := 15) Mm dX6_perform_8 (by decide) (fun _ => ?_) (fun c5 => absurd c5 (by decide))
    refine r_aload_n Mm dX6_perform_15 rfl ?_
    refine r_getR Mm dX6_perform_16 fi_X6_55 (hM.1) rfl (i := 617) rfl ((hM.2.1 17 9 6 (by decide)).1) ?_
    refine r_iload_n Mm dX6_perform_19 rfl ?_
    refine r_zaldN Mm dX6_perform_20 ((hM.2.1 17 9 6 (by decide)).2) (by omega) (by omega) ?_
    refine r_top _ (bI (tDone (eS σ j))) ((rs j (by omega)).2.2.1) ?_
    refine r_if_neB (tgt := 32) Mm dX6_perform_21 (by decide) (fun c6 => ?_) (fun c6 => ?_)
    · refine r_iconst (v := nI 2) Mm dX6_perform_32 (by decide) ?_
      refine r_goto (tgt := 37) Mm dX6_perform_33 (by decide) ?_
      refine r_callV (As := [(.int (nI 2))]) Mm dX6_perform_37 rfl (cm_isFine hfl h m ad hM (nI 2)) (hM.1) rfl cw_X6_94 ⟨Nat.le_of_ble_eq_true rfl, Nat.le_of_ble_eq_true rfl, Nat.le_of_ble_eq_true rfl⟩ (Nat.le_of_ble_eq_true rfl) ⟨Nat.le_of_ble_eq_true rfl, Nat.le_of_ble_eq_true rfl⟩ (fun r7 h8 p9 => ?_) (fun Er7 h8 p9 => False.elim p9)
      obtain ⟨rfl, rfl⟩ := p9
      rw [show bI (decide (nI 2 = 0)) = nI 0 from by decide]
      show V 40 _ [(.int (nI 0))] _ _ _
      refine r_if_ne (tgt := 45) Mm dX6_perform_40 (by decide) (fun c10 => absurd c10 (by decide)) (fun _ => ?_)
      refine r_iconst (v := nI 0) Mm dX6_perform_43 (by decide) ?_
      refine r_iret M dX6_perform_44 ?_
      exact pMd.thr rm0 "java/lang/IllegalStateException" 2 (by simp only [o_perform, oSh_ok k1 ecj, if_pos (Or.inl c6 : tDone (eS σ j) = true ∨ cnt (tCast (eS σ j)) 8 = 0)]) (by decide +kernel)
    · refine r_aload_n Mm dX6_perform_24 rfl ?_
      refine r_iload_n Mm dX6_perform_25 rfl ?_
      have hcc : cnt (tCast (eS σ j)) 8 = cnt (tCast (eS σ j)) (eN σ) := cnt_cut (fun q hq => (w4 j hj).1 q hq) 8 w1
      have hc8 := cnt_le (tCast (eS σ j)) 8
      refine r_callV (As := [(.int (nI j))]) Mm dX6_perform_26 rfl (cm_castOf hfl h m ad hM j (eN σ) (eS σ j) (by omega) (rs j (by omega)) w1 g1) (hM.1) rfl cw_X6_127 ⟨Nat.le_of_ble_eq_true rfl, Nat.le_of_ble_eq_true rfl, Nat.le_of_ble_eq_true rfl⟩ (Nat.le_of_ble_eq_true rfl) ⟨Nat.le_of_ble_eq_true rfl, Nat.le_of_ble_eq_true rfl⟩ (fun r11 h12 p13 => ?_) (fun Er11 h12 p13 => False.elim p13)
      obtain ⟨rfl, rfl⟩ := p13
      rw [← hcc]
      show V 29 _ [(.int (nI (cnt (tCast (eS σ j)) 8))), (.ref m)] _ _ _
      refine r_if_neN (tgt := 36) Mm dX6_perform_29 (by decide) (by omega) (fun c14 => ?_) (fun c14 => ?_)
      · refine r_iconst (v := nI 0) Mm dX6_perform_36 (by decide) ?_
        refine r_callV (As := [(.int (nI 0))]) Mm dX6_perform_37 rfl (cm_isFine hfl h m ad hM (nI 0)) (hM.1) rfl cw_X6_94 ⟨Nat.le_of_ble_eq_true rfl, Nat.le_of_ble_eq_true rfl, Nat.le_of_ble_eq_true rfl⟩ (Nat.le_of_ble_eq_true rfl) ⟨Nat.le_of_ble_eq_true rfl, Nat.le_of_ble_eq_true rfl⟩ (fun r15 h16 p17 => ?_) (fun Er15 h16 p17 => False.elim p17)
        obtain ⟨rfl, rfl⟩ := p17
        rw [show bI (decide (nI 0 = 0)) = nI 1 from by decide]
        obtain ⟨hz, fz, z0, rz, ez⟩ : ∃ z, Fr (MW m ad) h z ∧ xF z 600 m = nI 0 ∧ RM z m ad σ ∧ z = yF h 600 m (nI 0) := ⟨_, Fr.yF (Or.inl rfl), u2_s _ _ _ _, rm0.f0 _, rfl⟩
        rw [← ez]
        clear ez
        have rz0 := rz
        obtain ⟨hMz, ⟨gz1, gz2, gz3⟩, rpz, rsz, rhz, rtz⟩ := rz
        show V 40 _ [(.int (nI 1))] _ _ _
        refine r_if_ne (tgt := 45) Mm dX6_perform_40 (by decide) (fun _ => ?_) (fun c18 => absurd c18 (by decide))
        refine r_aload_n Mm dX6_perform_45 rfl ?_
        refine r_getR Mm dX6_perform_46 fi_X6_55 (hMz.1) rfl (i := 617) rfl ((hMz.2.1 17 9 6 (by decide)).1) ?_
        refine r_iload_n Mm dX6_perform_49 rfl ?_
        refine r_iconst (v := nI 1) Mm dX6_perform_50 (by decide) ?_
        refine r_zastN Mm dX6_perform_51 ((hMz.2.1 17 9 6 (by decide)).2) (by omega) (by omega) (by decide) ?_
        refine r_iconst (v := nI 0) Mm dX6_perform_52 (by decide) ?_
        refine r_istore_n Mm dX6_perform_53 (by decide) ?_
        show V 54 [some (.ref m), some (.int (nI j)), some (.int (nI 1)), some (.int (nI 0))] _ _ _ _
        have rk0 := rz0.doneIs (j := j) (by omega)
        rw [perf_0] at rk0
        have fk0 : Fr (MW m ad) hz (yA hz (ad 17) j (nI 1)) := (Fr.yA (MW.at 17 9 6 (by decide)))
        have loop : ∀ (u : Nat) (h1 : Hp) (n : Nat), eN σ - n < u → (n ≤ eN σ) → (RM h1 m ad (perfS σ j n)) → (Fr (MW m ad) hz h1) → (xF h1 600 m = xF hz 600 m) → V 54 [some (.ref m), some (.int (nI j)), some (.int (nI 1)), some (.int (nI n))] [] h1 0 0 := by
          intro u
          induction u with
          | zero => intro h1 n hm; exact absurd hm (Nat.not_lt_zero _)
          | succ u ih =>
            intro h1 n hm hn rk fk th
            have rk1 := rk
            obtain ⟨hMk, ⟨gk1, gk2, gk3⟩, rpk, rsk, rhk, rtk⟩ := rk1
            have hSk : MSho h1 ad j ((eS σ j).1, tCast (eS σ j), tLeft (eS σ j), tTak (eS σ j), true) := by have q := rsk j (by omega); rw [show eS (perfS σ j n) j = ((eS σ j).1, tCast (eS σ j), tLeft (eS σ j), tTak (eS σ j), true) from upt_s _ _ _] at q; exact q
            have hPn : eP (perfS σ j n) n = eP σ n := if_neg (fun z => absurd z.1 (Nat.lt_irrefl _))
            refine r_iload_n Mm dX6_perform_54 rfl ?_
            refine r_aload_n Mm dX6_perform_55 rfl ?_
            refine r_getI Mm dX6_perform_56 fi_X6_84 (hMk.1) rfl (i := 606) rfl ?_
            refine r_top _ (nI (eN σ)) (gk1) ?_
            refine r_icmp_geN (tgt := 129) Mm dX6_perform_59 (by decide) (by omega) (by omega) (fun c19 => ?_) (fun c19 => ?_)
            · refine r_aload_n Mm dX6_perform_129 rfl ?_
              refine r_dup Mm dX6_perform_130 rfl ?_
              refine r_getI Mm dX6_perform_131 fi_X6_131 (hMk.1) rfl (i := 622) rfl ?_
              refine r_top _ (ePaid σ) (gk3) ?_
              refine r_aload_n Mm dX6_perform_134 rfl ?_
              refine r_getR Mm dX6_perform_135 fi_X6_62 (hMk.1) rfl (i := 619) rfl ((hMk.2.1 19 8 6 (by decide)).1) ?_
              refine r_iload_n Mm dX6_perform_138 rfl ?_
              refine r_ialdN Mm dX6_perform_139 ((hMk.2.1 19 8 6 (by decide)).2) (by omega) (by omega) ?_
              refine r_top _ (tTak (eS σ j)) (hSk.2.2.2.2.1) ?_
              refine r_iadd Mm dX6_perform_140 ?_
              refine r_putI (ty := .int) Mm dX6_perform_141 fi_X6_131 ki_6 rfl (hMk.1) rfl (i := 622) rfl rfl (by decide +kernel) rfl rfl ?_
              refine r_aload_n Mm dX6_perform_144 rfl ?_
              refine r_getR Mm dX6_perform_145 fi_X6_62 (hMk.1) rfl (i := 619) rfl ((hMk.2.1 19 8 6 (by decide)).1) ?_
              refine r_iload_n Mm dX6_perform_148 rfl ?_
              refine r_ialdN Mm dX6_perform_149 ((hMk.2.1 19 8 6 (by decide)).2) (by omega) (by omega) ?_
              refine r_top _ (tTak (eS σ j)) (by rw [zxA_yF]; exact hSk.2.2.2.2.1) ?_
              refine r_iret M dX6_perform_150 ?_
              obtain rfl : n = eN σ := by omega
              exact pMd.ret fz z0 (by simp only [o_perform, oSh_ok k1 ecj, if_neg (fun z => z.elim (fun w => by rw [c6] at w; cases w) (fun w => absurd w (Nat.ne_of_gt c14)) : ¬ (tDone (eS σ j) = true ∨ cnt (tCast (eS σ j)) 8 = 0))]) (fk.tr (Fr.yF (Or.inl rfl))) (by rw [zxF_yF, if_neg (fun z => absurd z.1 (by decide))]; exact th) (rk.paidIs _)
            · have hpk : MPup h1 ad n (eP σ n) := by have q := rpk n (by omega); rw [hPn] at q; exact q
              have hw9 := (w3 n (by omega)).2.2.2.2.2.2.1
              have hk9 := (w3 n (by omega)).2.2.2.1
              refine r_aload_n Mm dX6_perform_62 rfl ?_
              refine r_getR Mm dX6_perform_63 fi_X6_22 (hMk.1) rfl (i := 605) rfl ((hMk.2.1 5 8 8 (by decide)).1) ?_
              refine r_iload_n Mm dX6_perform_66 rfl ?_
              refine r_dup2 Mm dX6_perform_67 rfl rfl ?_
              refine r_ialdN Mm dX6_perform_68 ((hMk.2.1 5 8 8 (by decide)).2) (by omega) (by omega) ?_
              refine r_top _ (nI (qWorn (eP σ n))) (hpk.2.2.2.2.1) ?_
              refine r_aload_n Mm dX6_perform_69 rfl ?_
              refine r_getR Mm dX6_perform_70 fi_X6_65 (hMk.1) rfl (i := 620) rfl ((hMk.2.1 20 9 48 (by decide)).1) ?_
              refine r_bipush (v := nI 8) Mm dX6_perform_73 (by decide) ?_
              refine r_iload_n Mm dX6_perform_75 rfl ?_
              refine r_imulN Mm dX6_perform_76 ?_
              refine r_iload_n Mm dX6_perform_77 rfl ?_
              refine r_iaddN Mm dX6_perform_78 ?_
              refine r_zaldN Mm dX6_perform_79 ((hMk.2.1 20 9 48 (by decide)).2) (by omega) (by omega) ?_
              refine r_top _ (bI (tCast (eS σ j) n)) (hSk.2.2.2.2.2 n (by omega)) ?_
              refine r_if_eqB (tgt := 92) Mm dX6_perform_80 (by decide) (fun c20 => ?_) (fun c20 => ?_)
              · refine r_iconst (v := nI 0) Mm dX6_perform_92 (by decide) ?_
                refine r_iaddN Mm dX6_perform_93 ?_
                refine r_iastN Mm dX6_perform_94 ((hMk.2.1 5 8 8 (by decide)).2) (by omega) (by omega) ?_
                refine r_aload_n Mm dX6_perform_95 rfl ?_
                refine r_getR Mm dX6_perform_96 fi_X6_22 (hMk.1) rfl (i := 605) rfl ((hMk.2.1 5 8 8 (by decide)).1) ?_
                refine r_iload_n Mm dX6_perform_99 rfl ?_
                refine r_aload_n Mm dX6_perform_100 rfl ?_
                refine r_getR Mm dX6_perform_101 fi_X6_22 (hMk.1) rfl (i := 605) rfl ((hMk.2.1 5 8 8 (by decide)).1) ?_
                refine r_iload_n Mm dX6_perform_104 rfl ?_
                refine r_ialdN Mm dX6_perform_105 ((hMk.2.1 5 8 8 (by decide)).2) (by omega) (by omega) ?_
                refine r_top _ (nI ((qWorn (eP σ n)) + 0)) (by rw [yA_s]) ?_
                refine r_bipush (v := nI 99) Mm dX6_perform_106 (by decide) ?_
                refine r_icmp_leN (tgt := 116) Mm dX6_perform_108 (by decide) (by omega) (by omega) (fun c21 => ?_) (fun c21 => ?_)
                · refine r_aload_n Mm dX6_perform_116 rfl ?_
                  refine r_getR Mm dX6_perform_117 fi_X6_22 (hMk.1) rfl (i := 605) rfl ((hMk.2.1 5 8 8 (by decide)).1) ?_
                  refine r_iload_n Mm dX6_perform_120 rfl ?_
                  refine r_ialdN Mm dX6_perform_121 ((hMk.2.1 5 8 8 (by decide)).2) (by omega) (by omega) ?_
                  refine r_top _ (nI ((qWorn (eP σ n)) + 0)) (by rw [yA_s]) ?_
                  refine r_iastN Mm dX6_perform_122 ((hMk.2.1 5 8 8 (by decide)).2) (by omega) (by omega) ?_
                  refine r_iincN (k := 1) Mm dX6_perform_123 rfl (by decide) (by decide) ?_
                  show V 126 [some (.ref m), some (.int (nI j)), some (.int (nI 1)), some (.int (nI (n + 1)))] _ _ _ _
                  refine r_goto (tgt := 54) Mm dX6_perform_126 (by decide) ?_
                  have r8 := rk.worn2 (i := n) (by omega) (nI ((qWorn (eP σ n)) + 0)) ((qWorn (eP σ n)) + 0) (perf_len hx0.len)
                  rw [hPn] at r8
                  rw [show ((eP σ n).1, (eP σ n).2.1, (eP σ n).2.2.1, (eP σ n).2.2.2.1, (qWorn (eP σ n)) + 0, (eP σ n).2.2.2.2.2) = eP (perfS σ j n) n from hPn.symm, show wP (perfS σ j n) n (eP (perfS σ j n) n) = perfS σ j n from by rw [wP, upt_id], perf_skip c20] at r8
                  exact ih _ (n + 1) (by omega) (by omega) r8 (fk.tr (Fr.tr (Fr.yA (MW.at 5 8 8 (by decide))) (Fr.yA (MW.at 5 8 8 (by decide))))) ((show _ = xF h1 600 m by rw [zxF_yA, zxF_yA]).trans th)
                · refine r_bipush (v := nI 99) Mm dX6_perform_111 (by decide) ?_
                  refine r_goto (tgt := 122) Mm dX6_perform_113 (by decide) ?_
                  refine r_iastN Mm dX6_perform_122 ((hMk.2.1 5 8 8 (by decide)).2) (by omega) (by omega) ?_
                  refine r_iincN (k := 1) Mm dX6_perform_123 rfl (by decide) (by decide) ?_
                  show V 126 [some (.ref m), some (.int (nI j)), some (.int (nI 1)), some (.int (nI (n + 1)))] _ _ _ _
                  refine r_goto (tgt := 54) Mm dX6_perform_126 (by decide) ?_
                  exact absurd hw9 (by omega)
              · refine r_aload_n Mm dX6_perform_83 rfl ?_
                refine r_getR Mm dX6_perform_84 fi_X6_16 (hMk.1) rfl (i := 603) rfl ((hMk.2.1 3 8 8 (by decide)).1) ?_
                refine r_iload_n Mm dX6_perform_87 rfl ?_
                refine r_ialdN Mm dX6_perform_88 ((hMk.2.1 3 8 8 (by decide)).2) (by omega) (by omega) ?_
                refine r_top _ (nI ((qKeys (eP σ n)).length)) (hpk.2.2.1) ?_
                refine r_goto (tgt := 93) Mm dX6_perform_89 (by decide) ?_
                refine r_iaddN Mm dX6_perform_93 ?_
                refine r_iastN Mm dX6_perform_94 ((hMk.2.1 5 8 8 (by decide)).2) (by omega) (by omega) ?_
                refine r_aload_n Mm dX6_perform_95 rfl ?_
                refine r_getR Mm dX6_perform_96 fi_X6_22 (hMk.1) rfl (i := 605) rfl ((hMk.2.1 5 8 8 (by decide)).1) ?_
                refine r_iload_n Mm dX6_perform_99 rfl ?_
                refine r_aload_n Mm dX6_perform_100 rfl ?_
                refine r_getR Mm dX6_perform_101 fi_X6_22 (hMk.1) rfl (i := 605) rfl ((hMk.2.1 5 8 8 (by decide)).1) ?_
                refine r_iload_n Mm dX6_perform_104 rfl ?_
                refine r_ialdN Mm dX6_perform_105 ((hMk.2.1 5 8 8 (by decide)).2) (by omega) (by omega) ?_
                refine r_top _ (nI ((qWorn (eP σ n)) + ((qKeys (eP σ n)).length))) (by rw [yA_s]) ?_
                refine r_bipush (v := nI 99) Mm dX6_perform_106 (by decide) ?_
                refine r_icmp_leN (tgt := 116) Mm dX6_perform_108 (by decide) (by omega) (by omega) (fun c22 => ?_) (fun c22 => ?_)
                · refine r_aload_n Mm dX6_perform_116 rfl ?_
                  refine r_getR Mm dX6_perform_117 fi_X6_22 (hMk.1) rfl (i := 605) rfl ((hMk.2.1 5 8 8 (by decide)).1) ?_
                  refine r_iload_n Mm dX6_perform_120 rfl ?_
                  refine r_ialdN Mm dX6_perform_121 ((hMk.2.1 5 8 8 (by decide)).2) (by omega) (by omega) ?_
                  refine r_top _ (nI ((qWorn (eP σ n)) + ((qKeys (eP σ n)).length))) (by rw [yA_s]) ?_
                  refine r_iastN Mm dX6_perform_122 ((hMk.2.1 5 8 8 (by decide)).2) (by omega) (by omega) ?_
                  refine r_iincN (k := 1) Mm dX6_perform_123 rfl (by decide) (by decide) ?_
                  show V 126 [some (.ref m), some (.int (nI j)), some (.int (nI 1)), some (.int (nI (n + 1)))] _ _ _ _
                  refine r_goto (tgt := 54) Mm dX6_perform_126 (by decide) ?_
                  have r8 := rk.worn2 (i := n) (by omega) (nI ((qWorn (eP σ n)) + ((qKeys (eP σ n)).length))) ((qWorn (eP σ n)) + ((qKeys (eP σ n)).length)) (perf_len hx0.len)
                  rw [hPn] at r8
                  rw [show ((eP σ n).1, (eP σ n).2.1, (eP σ n).2.2.1, (eP σ n).2.2.2.1, (qWorn (eP σ n)) + ((qKeys (eP σ n)).length), (eP σ n).2.2.2.2.2) = wearP (eP σ n) from by rw [wearP, show min 99 (qWorn (eP σ n) + (qKeys (eP σ n)).length) = (qWorn (eP σ n)) + ((qKeys (eP σ n)).length) by omega], perf_step c20] at r8
                  exact ih _ (n + 1) (by omega) (by omega) r8 (fk.tr (Fr.tr (Fr.yA (MW.at 5 8 8 (by decide))) (Fr.yA (MW.at 5 8 8 (by decide))))) ((show _ = xF h1 600 m by rw [zxF_yA, zxF_yA]).trans th)
                · refine r_bipush (v := nI 99) Mm dX6_perform_111 (by decide) ?_
                  refine r_goto (tgt := 122) Mm dX6_perform_113 (by decide) ?_
                  refine r_iastN Mm dX6_perform_122 ((hMk.2.1 5 8 8 (by decide)).2) (by omega) (by omega) ?_
                  refine r_iincN (k := 1) Mm dX6_perform_123 rfl (by decide) (by decide) ?_
                  show V 126 [some (.ref m), some (.int (nI j)), some (.int (nI 1)), some (.int (nI (n + 1)))] _ _ _ _
                  refine r_goto (tgt := 54) Mm dX6_perform_126 (by decide) ?_
                  have r8 := rk.worn2 (i := n) (by omega) (nI ((qWorn (eP σ n)) + ((qKeys (eP σ n)).length))) (99) (perf_len hx0.len)
                  rw [hPn] at r8
                  rw [show ((eP σ n).1, (eP σ n).2.1, (eP σ n).2.2.1, (eP σ n).2.2.2.1, 99, (eP σ n).2.2.2.2.2) = wearP (eP σ n) from by rw [wearP, show min 99 (qWorn (eP σ n) + (qKeys (eP σ n)).length) = 99 by omega], perf_step c20] at r8
                  exact ih _ (n + 1) (by omega) (by omega) r8 (fk.tr (Fr.tr (Fr.yA (MW.at 5 8 8 (by decide))) (Fr.yA (MW.at 5 8 8 (by decide))))) ((show _ = xF h1 600 m by rw [zxF_yA, zxF_yA]).trans th)
        exact loop (eN σ + 1) _ 0 (by omega) (Nat.zero_le _) rk0 fk0 (by rw [zxF_yA])
      · refine r_iconst (v := nI 2) Mm dX6_perform_32 (by decide) ?_
        refine r_goto (tgt := 37) Mm dX6_perform_33 (by decide) ?_
        refine r_callV (As := [(.int (nI 2))]) Mm dX6_perform_37 rfl (cm_isFine hfl h m ad hM (nI 2)) (hM.1) rfl cw_X6_94 ⟨Nat.le_of_ble_eq_true rfl, Nat.le_of_ble_eq_true rfl, Nat.le_of_ble_eq_true rfl⟩ (Nat.le_of_ble_eq_true rfl) ⟨Nat.le_of_ble_eq_true rfl, Nat.le_of_ble_eq_true rfl⟩ (fun r23 h24 p25 => ?_) (fun Er23 h24 p25 => False.elim p25)
        obtain ⟨rfl, rfl⟩ := p25
        rw [show bI (decide (nI 2 = 0)) = nI 0 from by decide]
        show V 40 _ [(.int (nI 0))] _ _ _
        refine r_if_ne (tgt := 45) Mm dX6_perform_40 (by decide) (fun c26 => absurd c26 (by decide)) (fun _ => ?_)
        refine r_iconst (v := nI 0) Mm dX6_perform_43 (by decide) ?_
        refine r_iret M dX6_perform_44 ?_
        exact pMd.thr rm0 "java/lang/IllegalStateException" 2 (by simp only [o_perform, oSh_ok k1 ecj, if_pos (Or.inr c14 : tDone (eS σ j) = true ∨ cnt (tCast (eS σ j)) 8 = 0)]) (by decide +kernel)
  · refine r_callV (As := [(.int q)]) Mm dX6_perform_2 rfl (cm_isShow hfl h m (eM σ) q hM.1 (by omega) g2) (hM.1) rfl cw_X6_121 ⟨Nat.le_of_ble_eq_true rfl, Nat.le_of_ble_eq_true rfl, Nat.le_of_ble_eq_true rfl⟩ (Nat.le_of_ble_eq_true rfl) ⟨Nat.le_of_ble_eq_true rfl, Nat.le_of_ble_eq_true rfl⟩ (fun r27 h28 p29 => ?_) (fun Er27 h28 p29 => False.elim p29)
    obtain ⟨rfl, rfl⟩ := p29
    rw [decide_eq_false k1]
    show V 5 _ [(.int (nI 0))] _ _ _
    refine r_istore_n Mm dX6_perform_5 (by decide) ?_
    show V 6 [some (.ref m), some (.int q), some (.int (nI 0)), none] _ _ _ _
    refine r_aload_n Mm dX6_perform_6 rfl ?_
    refine r_iload_n Mm dX6_perform_7 rfl ?_
    refine r_if_ne (tgt := 15) Mm dX6_perform_8 (by decide) (fun c30 => absurd c30 (by decide)) (fun _ => ?_)
    refine r_iconst (v := nI 1) Mm dX6_perform_11 (by decide) ?_
    refine r_goto (tgt := 37) Mm dX6_perform_12 (by decide) ?_
    refine r_callV (As := [(.int (nI 1))]) Mm dX6_perform_37 rfl (cm_isFine hfl h m ad hM (nI 1)) (hM.1) rfl cw_X6_94 ⟨Nat.le_of_ble_eq_true rfl, Nat.le_of_ble_eq_true rfl, Nat.le_of_ble_eq_true rfl⟩ (Nat.le_of_ble_eq_true rfl) ⟨Nat.le_of_ble_eq_true rfl, Nat.le_of_ble_eq_true rfl⟩ (fun r31 h32 p33 => ?_) (fun Er31 h32 p33 => False.elim p33)
    obtain ⟨rfl, rfl⟩ := p33
    rw [show bI (decide (nI 1 = 0)) = nI 0 from by decide]
    show V 40 _ [(.int (nI 0))] _ _ _
    refine r_if_ne (tgt := 45) Mm dX6_perform_40 (by decide) (fun c34 => absurd c34 (by decide)) (fun _ => ?_)
    refine r_iconst (v := nI 0) Mm dX6_perform_43 (by decide) ?_
    refine r_iret M dX6_perform_44 ?_
    exact pMd.thr rm0 "java/lang/IndexOutOfBoundsException" 1 (by simp only [o_perform, oSh_no k1]) (by decide +kernel)
