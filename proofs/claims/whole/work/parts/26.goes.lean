theorem inK_far {v : Int32 × Int32} (h : inK v) : -10000 ≤ v.1.toInt ∧ v.1.toInt ≤ 10000 := by
  obtain ⟨⟨a1, a2⟩, a3, a4⟩ := h
  omega
set_option maxRecDepth 100000 in
set_option maxHeartbeats 4000000 in
theorem cm_goes {g : Gl} {l : Launch} (hfl : l.stackTraces = false) (h : Hp) (m : Nat) (ad : Nat → Nat) (σ : ST) (rm : RM h m ad σ) (hw : WF σ) (j i F : Nat) (hj : j < eM σ) (hi : i < 8) (hF : F < 2000) : CT g l iX6_goes 3 [.ref m, .int (nI j), .int (nI i), .int (nI F)] h 0 0 (pRel (fun r h' => r = none ∧ Mt m ad h h' ∧ ∀ q ≤ i, (tCast (eS σ j)) q = true → MAt h' ad q (goQ σ (tCast (eS σ j)) (nI F) (q + 1) q))) := by
  obtain ⟨w1, w2, w3, w4, w5⟩ := hw
  have rm0 := rm
  obtain ⟨hM, ⟨g1, g2, g3⟩, rp, rs, rh, rt⟩ := rm
  have n67 := hM.ne (by decide : (26, 8, 8) ∈ mSl) (by decide : (27, 8, 8) ∈ mSl) (by decide)
  have n68 := hM.ne (by decide : (26, 8, 8) ∈ mSl) (by decide : (28, 9, 8) ∈ mSl) (by decide)
  have n78 := hM.ne (by decide : (27, 8, 8) ∈ mSl) (by decide : (28, 9, 8) ∈ mSl) (by decide)
  refine ct_mk hfl (by decide) (Nat.le_of_ble_eq_true rfl) (by intro v hv; simp only [List.mem_cons, List.not_mem_nil, or_false] at hv; rcases hv with rfl | rfl | rfl | rfl <;> rfl) (fun V X M => ?_)
  have Mm := M.m
  show V 0 [some (.ref m), some (.int (nI j)), some (.int (nI i)), some (.int (nI F)), none, none] [] _ 0 0
  refine r_iconst (v := nI 0) Mm dX6_goes_0 (by decide) ?_
  refine r_istore Mm dX6_goes_1 (by decide) ?_
  show V 3 [some (.ref m), some (.int (nI j)), some (.int (nI i)), some (.int (nI F)), some (.int (nI 0)), none] _ _ _ _
  have loop : ∀ (u : Nat) (h1 : Hp) (n : Nat) (z : Option Value), i + 1 - n < u → (n ≤ i + 1) → (Mt m ad h h1) → (∀ q < n, (tCast (eS σ j)) q = true → MAt h1 ad q ((goQ σ (tCast (eS σ j)) (nI F) n) q)) → V 3 [some (.ref m), some (.int (nI j)), some (.int (nI i)), some (.int (nI F)), some (.int (nI n)), z] [] h1 0 0 := by
    intro u
    induction u with
    | zero => intro h1 n z hm; exact absurd hm (Nat.not_lt_zero _)
    | succ u ih =>
      intro h1 n z hm hn ht hQ
      have rA := rm0.mt ht
      have rA0 := rA
      obtain ⟨hMA, ⟨gA1, gA2, gA3⟩, rpA, rsA, rhA, rtA⟩ := rA
      have s6 := (rsA j (by omega)).2.2.2.2.2
      refine r_iload Mm dX6_goes_3 rfl ?_
      refine r_iload_n Mm dX6_goes_5 rfl ?_
      refine r_icmp_gtN (tgt := 221) Mm dX6_goes_6 (by decide) (by omega) (by omega) (fun c1 => ?_) (fun c1 => ?_)
      · refine r_vret M dX6_goes_221 ?_
        obtain rfl : n = i + 1 := by omega
        exact ⟨rfl, ht, fun q hq hc => by rw [← goQ_low σ (tCast (eS σ j)) (nI F) (show q < i + 1 by omega)]; exact hQ q (by omega) hc⟩
      · refine r_aload_n Mm dX6_goes_9 rfl ?_
        refine r_getR Mm dX6_goes_10 fi_X6_65 (hMA.1) rfl (i := 620) rfl ((hMA.2.1 20 9 48 (by decide)).1) ?_
        refine r_bipush (v := nI 8) Mm dX6_goes_13 (by decide) ?_
        refine r_iload_n Mm dX6_goes_15 rfl ?_
        refine r_imulN Mm dX6_goes_16 ?_
        refine r_iload Mm dX6_goes_17 rfl ?_
        refine r_iaddN Mm dX6_goes_19 ?_
        refine r_zaldN Mm dX6_goes_20 ((hMA.2.1 20 9 48 (by decide)).2) (by omega) (by omega) ?_
        refine r_top _ (bI ((tCast (eS σ j)) n)) (s6 n (by omega)) ?_
        refine r_if_eqB (tgt := 215) Mm dX6_goes_21 (by decide) (fun c2 => ?_) (fun c2 => ?_)
        · refine r_iincN (k := 1) Mm dX6_goes_215 rfl (by decide) (by decide) ?_
          show V 218 [some (.ref m), some (.int (nI j)), some (.int (nI i)), some (.int (nI F)), some (.int (nI (n + 1))), z] _ _ _ _
          refine r_goto (tgt := 3) Mm dX6_goes_218 (by decide) ?_
          exact ih _ (n + 1) _ (by omega) (by omega) ht (goQ_nextM hQ (fun q => absurd q (by rw [c2]; exact Bool.noConfusion)))
        · have hcn : (tCast (eS σ j)) n = true := c2
          have hnN := (w4 j hj).1 n hcn
          have hok := w3 n hnN
          have hk12 := hok.2.2.2.1
          obtain ⟨F2, hF2, eF2⟩ := ownF_fin (F := F) w5 hok.2.2.2.2.2.1 hF
          refine r_aload_n Mm dX6_goes_24 rfl ?_
          refine r_iload Mm dX6_goes_25 rfl ?_
          refine r_aload_n Mm dX6_goes_27 rfl ?_
          refine r_iload Mm dX6_goes_28 rfl ?_
          refine r_iload_n Mm dX6_goes_30 rfl ?_
          refine r_callV (As := [(.int (nI n)), (.int (nI F))]) Mm dX6_goes_31 rfl (cm_ownFrame hfl h1 m ad hMA n (eP σ n) (by omega) (rpA n (by omega)) hk12 (eH σ) rhA w5 hok.2.2.2.2.2.1 F hF) (hMA.1) rfl cw_X6_152 ⟨Nat.le_of_ble_eq_true rfl, Nat.le_of_ble_eq_true rfl, Nat.le_of_ble_eq_true rfl⟩ (Nat.le_of_ble_eq_true rfl) ⟨Nat.le_of_ble_eq_true rfl, Nat.le_of_ble_eq_true rfl⟩ (fun r3 h4 p5 => ?_) (fun Er3 h4 p5 => False.elim p5)
          obtain ⟨rfl, rfl⟩ := p5
          rw [eF2]
          show V 34 _ [(.int (nI F2)), (.int (nI n)), (.ref m)] _ _ _
          refine r_callV (As := [(.int (nI n)), (.int (nI F2))]) Mm dX6_goes_34 rfl (cm_finds hfl h1 m ad hMA n (eP σ n) (by omega) (rpA n (by omega)) hok rtA F2 hF2) (hMA.1) rfl cw_X6_143 ⟨Nat.le_of_ble_eq_true rfl, Nat.le_of_ble_eq_true rfl, Nat.le_of_ble_eq_true rfl⟩ (Nat.le_of_ble_eq_true rfl) ⟨Nat.le_of_ble_eq_true rfl, Nat.le_of_ble_eq_true rfl⟩ (fun r6 h7 p8 => ?_) (fun Er6 h7 p8 => False.elim p8)
          obtain ⟨rfl, ⟨t2, tx⟩, ef⟩ := p8
          have hMB := hMA.eq t2.1 t2.2.1
          show V 37 _ [] _ _ _
          refine r_aload_n Mm dX6_goes_37 rfl ?_
          refine r_getR Mm dX6_goes_38 fi_X6_71 (hMB.1) rfl (i := 626) rfl ((hMB.2.1 26 8 8 (by decide)).1) ?_
          refine r_iload Mm dX6_goes_41 rfl ?_
          refine r_aload_n Mm dX6_goes_43 rfl ?_
          refine r_getI Mm dX6_goes_44 fi_X6_134 (hMB.1) rfl (i := 624) rfl ?_
          refine r_top _ (trk (qBar (eP σ n)) (qKeys (eP σ n)) (nI F2)).1 (congrArg Prod.fst ef) ?_
          refine r_iastN Mm dX6_goes_47 ((hMB.2.1 26 8 8 (by decide)).2) (by omega) (by omega) ?_
          refine r_aload_n Mm dX6_goes_48 rfl ?_
          refine r_getR Mm dX6_goes_49 fi_X6_74 (hMB.1) rfl (i := 627) rfl ((hMB.2.1 27 8 8 (by decide)).1) ?_
          refine r_iload Mm dX6_goes_52 rfl ?_
          refine r_aload_n Mm dX6_goes_54 rfl ?_
          refine r_getI Mm dX6_goes_55 fi_X6_137 (hMB.1) rfl (i := 625) rfl ?_
          refine r_top _ (trk (qBar (eP σ n)) (qKeys (eP σ n)) (nI F2)).2 (congrArg Prod.snd ef) ?_
          refine r_iastN Mm dX6_goes_58 ((hMB.2.1 27 8 8 (by decide)).2) (by omega) (by omega) ?_
          refine r_aload_n Mm dX6_goes_59 rfl ?_
          refine r_iload Mm dX6_goes_60 rfl ?_
          have tB : Mt m ad h1 ((yA (yA h7 (ad 26) n (trk (qBar (eP σ n)) (qKeys (eP σ n)) (nI F2)).1) (ad 27) n (trk (qBar (eP σ n)) (qKeys (eP σ n)) (nI F2)).2)) := t2.tr ((Mt.a6 _ _ _).tr (Mt.a7 _ _ _))
          have rB := rA0.mt tB
          have tbd := trk_bd hok (nI F2)
          refine r_callV (As := [(.int (nI n))]) Mm dX6_goes_62 rfl (cm_pulls hfl ((yA (yA h7 (ad 26) n (trk (qBar (eP σ n)) (qKeys (eP σ n)) (nI F2)).1) (ad 27) n (trk (qBar (eP σ n)) (qKeys (eP σ n)) (nI F2)).2)) m ad rB.1 n (eP σ n) (by omega) (rB.2.2.1 n (by omega)) hok (trk (qBar (eP σ n)) (qKeys (eP σ n)) (nI F2)).1 (trk (qBar (eP σ n)) (qKeys (eP σ n)) (nI F2)).2 (by rw [zxA_yA, if_neg (fun z => n67 z.1), zxA_yA, if_pos ⟨rfl, rfl⟩]) (by rw [zxA_yA, if_pos ⟨rfl, rfl⟩]) (inB_far tbd.1)) (hMB.1) rfl cw_X6_155 ⟨Nat.le_of_ble_eq_true rfl, Nat.le_of_ble_eq_true rfl, Nat.le_of_ble_eq_true rfl⟩ (Nat.le_of_ble_eq_true rfl) ⟨Nat.le_of_ble_eq_true rfl, Nat.le_of_ble_eq_true rfl⟩ (fun r9 h10 p11 => ?_) (fun Er9 h10 p11 => False.elim p11)
          obtain ⟨rfl, t4, pm⟩ := p11
          have rC := rB.mt t4
          show V 65 _ [] _ _ _
          refine r_aload_n Mm dX6_goes_65 rfl ?_
          refine r_getR Mm dX6_goes_66 fi_X6_77 (rC.1.1) rfl (i := 628) rfl ((rC.1.2.1 28 9 8 (by decide)).1) ?_
          refine r_iload Mm dX6_goes_69 rfl ?_
          refine r_iconst (v := nI 0) Mm dX6_goes_71 (by decide) ?_
          refine r_zastN Mm dX6_goes_72 ((rC.1.2.1 28 9 8 (by decide)).2) (by omega) (by omega) (by decide) ?_
          refine r_iconst (v := nI 0) Mm dX6_goes_73 (by decide) ?_
          refine r_istore Mm dX6_goes_74 (by decide) ?_
          show V 76 [some (.ref m), some (.int (nI j)), some (.int (nI i)), some (.int (nI F)), some (.int (nI n)), some (.int (nI 0))] _ _ _ _
          have hk0 := KeM.start (h := h) (c := (tCast (eS σ j))) (Q := (goQ σ (tCast (eS σ j)) (nI F) n)) n67 n68 n78 ht t2 tx t4 pm hQ
          rw [← eF2] at hk0
          have ihO := ih
          have hbq := goQ_bd (σ := σ) (f := nI F) (fun q hc => w3 q ((w4 j hj).1 q hc)) n
          have hbv := pt_bd hok (ownF (eH σ) (qCue (eP σ n)) (nI F))
          have loop : ∀ (v : Nat) (h2 : Hp) (q : Nat), n - q < v → (q ≤ n) → (KeM h h2 m ad (tCast (eS σ j)) (goQ σ (tCast (eS σ j)) (nI F) n) (pullS (qBar (eP σ n)) (qLen (eP σ n)) (trk (qBar (eP σ n)) (qKeys (eP σ n)) (ownF (eH σ) (qCue (eP σ n)) (nI F)))) n q) → V 76 [some (.ref m), some (.int (nI j)), some (.int (nI i)), some (.int (nI F)), some (.int (nI n)), some (.int (nI q))] [] h2 0 0 := by
            intro v
            induction v with
            | zero => intro h2 q hm; exact absurd hm (Nat.not_lt_zero _)
            | succ v ih =>
              intro h2 q hm hq hk
              have rD := rm0.mt hk.1
              have rD0 := rD
              obtain ⟨hMD, ⟨gD1, gD2, gD3⟩, rpD, rsD, rhD, rtD⟩ := rD
              have s6D := (rsD j (by omega)).2.2.2.2.2
              have hbk := (keepL_bd (c := (tCast (eS σ j))) (Q := fun y => ((goQ σ (tCast (eS σ j)) (nI F) n) y).1) hbv q (fun r hr hc => hbq r (by omega) hc)).1
              refine r_iload Mm dX6_goes_76 rfl ?_
              refine r_iload Mm dX6_goes_78 rfl ?_
              refine r_icmp_geN (tgt := 199) Mm dX6_goes_80 (by decide) (by omega) (by omega) (fun c12 => ?_) (fun c12 => ?_)
              · have hqn : q = n := by omega
                subst hqn
                refine r_aload_n Mm dX6_goes_199 rfl ?_
                refine r_getR Mm dX6_goes_200 fi_X6_77 (hMD.1) rfl (i := 628) rfl ((hMD.2.1 28 9 8 (by decide)).1) ?_
                refine r_iload Mm dX6_goes_203 rfl ?_
                refine r_zaldN Mm dX6_goes_205 ((hMD.2.1 28 9 8 (by decide)).2) (by omega) (by omega) ?_
                refine r_top _ (bI ((keepL (tCast (eS σ j)) (fun y => ((goQ σ (tCast (eS σ j)) (nI F) q) y).1) (pullS (qBar (eP σ q)) (qLen (eP σ q)) (trk (qBar (eP σ q)) (qKeys (eP σ q)) (ownF (eH σ) (qCue (eP σ q)) (nI F)))) q).2)) (hk.2.1.2.2) ?_
                refine r_if_eqB (tgt := 215) Mm dX6_goes_206 (by decide) (fun c13 => ?_) (fun c13 => ?_)
                · refine r_iincN (k := 1) Mm dX6_goes_215 rfl (by decide) (by decide) ?_
                  show V 218 [some (.ref m), some (.int (nI j)), some (.int (nI i)), some (.int (nI F)), some (.int (nI (q + 1))), some (.int (nI q))] _ _ _ _
                  refine r_goto (tgt := 3) Mm dX6_goes_218 (by decide) ?_
                  exact ihO _ (q + 1) _ (by omega) (by omega) hk.1 (goQ_nextM hk.2.2 (fun _ => KeM.endF (σ := σ) (f := nI F) hk (qBar (eP σ q)) (qLen (eP σ q)) c13))
                · refine r_aload_n Mm dX6_goes_209 rfl ?_
                  refine r_iload Mm dX6_goes_210 rfl ?_
                  refine r_callV (As := [(.int (nI q))]) Mm dX6_goes_212 rfl (cm_pulls hfl h2 m ad hMD q (eP σ q) (by omega) (rpD q (by omega)) hok (keepL (tCast (eS σ j)) (fun y => ((goQ σ (tCast (eS σ j)) (nI F) q) y).1) (pullS (qBar (eP σ q)) (qLen (eP σ q)) (trk (qBar (eP σ q)) (qKeys (eP σ q)) (ownF (eH σ) (qCue (eP σ q)) (nI F)))) q).1.1 (keepL (tCast (eS σ j)) (fun y => ((goQ σ (tCast (eS σ j)) (nI F) q) y).1) (pullS (qBar (eP σ q)) (qLen (eP σ q)) (trk (qBar (eP σ q)) (qKeys (eP σ q)) (ownF (eH σ) (qCue (eP σ q)) (nI F)))) q).1.2 hk.2.1.1 hk.2.1.2.1 (inK_far hbk)) (hMD.1) rfl cw_X6_155 ⟨Nat.le_of_ble_eq_true rfl, Nat.le_of_ble_eq_true rfl, Nat.le_of_ble_eq_true rfl⟩ (Nat.le_of_ble_eq_true rfl) ⟨Nat.le_of_ble_eq_true rfl, Nat.le_of_ble_eq_true rfl⟩ (fun r14 h15 p16 => ?_) (fun Er14 h15 p16 => False.elim p16)
                  obtain ⟨rfl, t9, pm9⟩ := p16
                  have rE := rD0.mt t9
                  show V 215 _ [] _ _ _
                  refine r_iincN (k := 1) Mm dX6_goes_215 rfl (by decide) (by decide) ?_
                  show V 218 [some (.ref m), some (.int (nI j)), some (.int (nI i)), some (.int (nI F)), some (.int (nI (q + 1))), some (.int (nI q))] _ _ _ _
                  refine r_goto (tgt := 3) Mm dX6_goes_218 (by decide) ?_
                  have hpe := KeM.endT (qBar (eP σ q)) (qLen (eP σ q)) c13 hk pm9
                  exact ihO _ (q + 1) _ (by omega) (by omega) (hk.1.tr t9) (goQ_nextM hpe.2 (fun _ => hpe.1))
              · refine r_aload_n Mm dX6_goes_83 rfl ?_
                refine r_getR Mm dX6_goes_84 fi_X6_65 (hMD.1) rfl (i := 620) rfl ((hMD.2.1 20 9 48 (by decide)).1) ?_
                refine r_bipush (v := nI 8) Mm dX6_goes_87 (by decide) ?_
                refine r_iload_n Mm dX6_goes_89 rfl ?_
                refine r_imulN Mm dX6_goes_90 ?_
                refine r_iload Mm dX6_goes_91 rfl ?_
                refine r_iaddN Mm dX6_goes_93 ?_
                refine r_zaldN Mm dX6_goes_94 ((hMD.2.1 20 9 48 (by decide)).2) (by omega) (by omega) ?_
                refine r_top _ (bI ((tCast (eS σ j)) q)) (s6D q (by omega)) ?_
                refine r_if_eqB (tgt := 193) Mm dX6_goes_95 (by decide) (fun c17 => ?_) (fun c17 => ?_)
                · refine r_iincN (k := 1) Mm dX6_goes_193 rfl (by decide) (by decide) ?_
                  show V 196 [some (.ref m), some (.int (nI j)), some (.int (nI i)), some (.int (nI F)), some (.int (nI n)), some (.int (nI (q + 1)))] _ _ _ _
                  refine r_goto (tgt := 76) Mm dX6_goes_196 (by decide) ?_
                  exact ih _ (q + 1) (by omega) (by omega) (KeM.skip c17 hk)
                · refine r_aload_n Mm dX6_goes_98 rfl ?_
                  refine r_getR Mm dX6_goes_99 fi_X6_71 (hMD.1) rfl (i := 626) rfl ((hMD.2.1 26 8 8 (by decide)).1) ?_
                  refine r_iload Mm dX6_goes_102 rfl ?_
                  refine r_ialdN Mm dX6_goes_104 ((hMD.2.1 26 8 8 (by decide)).2) (by omega) (by omega) ?_
                  refine r_top _ ((keepL (tCast (eS σ j)) (fun y => ((goQ σ (tCast (eS σ j)) (nI F) n) y).1) (pullS (qBar (eP σ n)) (qLen (eP σ n)) (trk (qBar (eP σ n)) (qKeys (eP σ n)) (ownF (eH σ) (qCue (eP σ n)) (nI F)))) q).1.1) (hk.2.1.1) ?_
                  refine r_aload_n Mm dX6_goes_105 rfl ?_
                  refine r_getR Mm dX6_goes_106 fi_X6_71 (hMD.1) rfl (i := 626) rfl ((hMD.2.1 26 8 8 (by decide)).1) ?_
                  refine r_iload Mm dX6_goes_109 rfl ?_
                  refine r_ialdN Mm dX6_goes_111 ((hMD.2.1 26 8 8 (by decide)).2) (by omega) (by omega) ?_
                  refine r_top _ (((goQ σ (tCast (eS σ j)) (nI F) n) q).1.1) ((hk.2.2 q (by omega) c17).1) ?_
                  refine r_callS (As := [(.int ((keepL (tCast (eS σ j)) (fun y => ((goQ σ (tCast (eS σ j)) (nI F) n) y).1) (pullS (qBar (eP σ n)) (qLen (eP σ n)) (trk (qBar (eP σ n)) (qKeys (eP σ n)) (ownF (eH σ) (qCue (eP σ n)) (nI F)))) q).1.1)), (.int (((goQ σ (tCast (eS σ j)) (nI F) n) q).1.1))]) Mm dX6_goes_112 rfl (cm_areNear hfl h2 ((keepL (tCast (eS σ j)) (fun y => ((goQ σ (tCast (eS σ j)) (nI F) n) y).1) (pullS (qBar (eP σ n)) (qLen (eP σ n)) (trk (qBar (eP σ n)) (qKeys (eP σ n)) (ownF (eH σ) (qCue (eP σ n)) (nI F)))) q).1.1) (((goQ σ (tCast (eS σ j)) (nI F) n) q).1.1)) cw_X6_159 ⟨Nat.le_of_ble_eq_true rfl, Nat.le_of_ble_eq_true rfl, Nat.le_of_ble_eq_true rfl⟩ (Nat.le_of_ble_eq_true rfl) ⟨Nat.le_of_ble_eq_true rfl, Nat.le_of_ble_eq_true rfl⟩ (fun r18 h19 p20 => ?_) (fun Er18 h19 p20 => False.elim p20)
                  obtain ⟨rfl, rfl⟩ := p20
                  show V 115 _ [(.int (bI (decide (((keepL (tCast (eS σ j)) (fun y => ((goQ σ (tCast (eS σ j)) (nI F) n) y).1) (pullS (qBar (eP σ n)) (qLen (eP σ n)) (trk (qBar (eP σ n)) (qKeys (eP σ n)) (ownF (eH σ) (qCue (eP σ n)) (nI F)))) q).1.1) - (((goQ σ (tCast (eS σ j)) (nI F) n) q).1.1) < nI 10 ∧ (((goQ σ (tCast (eS σ j)) (nI F) n) q).1.1) - ((keepL (tCast (eS σ j)) (fun y => ((goQ σ (tCast (eS σ j)) (nI F) n) y).1) (pullS (qBar (eP σ n)) (qLen (eP σ n)) (trk (qBar (eP σ n)) (qKeys (eP σ n)) (ownF (eH σ) (qCue (eP σ n)) (nI F)))) q).1.1) < nI 10))))] _ _ _
                  refine r_if_eqB (tgt := 193) Mm dX6_goes_115 (by decide) (fun c21 => ?_) (fun c21 => ?_)
                  · refine r_iincN (k := 1) Mm dX6_goes_193 rfl (by decide) (by decide) ?_
                    show V 196 [some (.ref m), some (.int (nI j)), some (.int (nI i)), some (.int (nI F)), some (.int (nI n)), some (.int (nI (q + 1)))] _ _ _ _
                    refine r_goto (tgt := 76) Mm dX6_goes_196 (by decide) ?_
                    have hns := nearS_eq hbk (hbq q (by omega) c17).k
                    rw [c21, Bool.false_and] at hns
                    exact ih _ (q + 1) (by omega) (by omega) (KeM.far c17 hns hk)
                  · refine r_aload_n Mm dX6_goes_118 rfl ?_
                    refine r_getR Mm dX6_goes_119 fi_X6_74 (hMD.1) rfl (i := 627) rfl ((hMD.2.1 27 8 8 (by decide)).1) ?_
                    refine r_iload Mm dX6_goes_122 rfl ?_
                    refine r_ialdN Mm dX6_goes_124 ((hMD.2.1 27 8 8 (by decide)).2) (by omega) (by omega) ?_
                    refine r_top _ ((keepL (tCast (eS σ j)) (fun y => ((goQ σ (tCast (eS σ j)) (nI F) n) y).1) (pullS (qBar (eP σ n)) (qLen (eP σ n)) (trk (qBar (eP σ n)) (qKeys (eP σ n)) (ownF (eH σ) (qCue (eP σ n)) (nI F)))) q).1.2) (hk.2.1.2.1) ?_
                    refine r_aload_n Mm dX6_goes_125 rfl ?_
                    refine r_getR Mm dX6_goes_126 fi_X6_74 (hMD.1) rfl (i := 627) rfl ((hMD.2.1 27 8 8 (by decide)).1) ?_
                    refine r_iload Mm dX6_goes_129 rfl ?_
                    refine r_ialdN Mm dX6_goes_131 ((hMD.2.1 27 8 8 (by decide)).2) (by omega) (by omega) ?_
                    refine r_top _ (((goQ σ (tCast (eS σ j)) (nI F) n) q).1.2) ((hk.2.2 q (by omega) c17).2.1) ?_
                    refine r_callS (As := [(.int ((keepL (tCast (eS σ j)) (fun y => ((goQ σ (tCast (eS σ j)) (nI F) n) y).1) (pullS (qBar (eP σ n)) (qLen (eP σ n)) (trk (qBar (eP σ n)) (qKeys (eP σ n)) (ownF (eH σ) (qCue (eP σ n)) (nI F)))) q).1.2)), (.int (((goQ σ (tCast (eS σ j)) (nI F) n) q).1.2))]) Mm dX6_goes_132 rfl (cm_areNear hfl h2 ((keepL (tCast (eS σ j)) (fun y => ((goQ σ (tCast (eS σ j)) (nI F) n) y).1) (pullS (qBar (eP σ n)) (qLen (eP σ n)) (trk (qBar (eP σ n)) (qKeys (eP σ n)) (ownF (eH σ) (qCue (eP σ n)) (nI F)))) q).1.2) (((goQ σ (tCast (eS σ j)) (nI F) n) q).1.2)) cw_X6_159 ⟨Nat.le_of_ble_eq_true rfl, Nat.le_of_ble_eq_true rfl, Nat.le_of_ble_eq_true rfl⟩ (Nat.le_of_ble_eq_true rfl) ⟨Nat.le_of_ble_eq_true rfl, Nat.le_of_ble_eq_true rfl⟩ (fun r22 h23 p24 => ?_) (fun Er22 h23 p24 => False.elim p24)
                    obtain ⟨rfl, rfl⟩ := p24
                    show V 135 _ [(.int (bI (decide (((keepL (tCast (eS σ j)) (fun y => ((goQ σ (tCast (eS σ j)) (nI F) n) y).1) (pullS (qBar (eP σ n)) (qLen (eP σ n)) (trk (qBar (eP σ n)) (qKeys (eP σ n)) (ownF (eH σ) (qCue (eP σ n)) (nI F)))) q).1.2) - (((goQ σ (tCast (eS σ j)) (nI F) n) q).1.2) < nI 10 ∧ (((goQ σ (tCast (eS σ j)) (nI F) n) q).1.2) - ((keepL (tCast (eS σ j)) (fun y => ((goQ σ (tCast (eS σ j)) (nI F) n) y).1) (pullS (qBar (eP σ n)) (qLen (eP σ n)) (trk (qBar (eP σ n)) (qKeys (eP σ n)) (ownF (eH σ) (qCue (eP σ n)) (nI F)))) q).1.2) < nI 10))))] _ _ _
                    refine r_if_eqB (tgt := 193) Mm dX6_goes_135 (by decide) (fun c25 => ?_) (fun c25 => ?_)
                    · refine r_iincN (k := 1) Mm dX6_goes_193 rfl (by decide) (by decide) ?_
                      show V 196 [some (.ref m), some (.int (nI j)), some (.int (nI i)), some (.int (nI F)), some (.int (nI n)), some (.int (nI (q + 1)))] _ _ _ _
                      refine r_goto (tgt := 76) Mm dX6_goes_196 (by decide) ?_
                      have hns := nearS_eq hbk (hbq q (by omega) c17).k
                      rw [c25, Bool.and_false] at hns
                      exact ih _ (q + 1) (by omega) (by omega) (KeM.far c17 hns hk)
                    · refine r_aload_n Mm dX6_goes_138 rfl ?_
                      refine r_getR Mm dX6_goes_139 fi_X6_71 (hMD.1) rfl (i := 626) rfl ((hMD.2.1 26 8 8 (by decide)).1) ?_
                      refine r_iload Mm dX6_goes_142 rfl ?_
                      refine r_aload_n Mm dX6_goes_144 rfl ?_
                      refine r_getR Mm dX6_goes_145 fi_X6_71 (hMD.1) rfl (i := 626) rfl ((hMD.2.1 26 8 8 (by decide)).1) ?_
                      refine r_iload Mm dX6_goes_148 rfl ?_
                      refine r_ialdN Mm dX6_goes_150 ((hMD.2.1 26 8 8 (by decide)).2) (by omega) (by omega) ?_
                      refine r_top _ ((keepL (tCast (eS σ j)) (fun y => ((goQ σ (tCast (eS σ j)) (nI F) n) y).1) (pullS (qBar (eP σ n)) (qLen (eP σ n)) (trk (qBar (eP σ n)) (qKeys (eP σ n)) (ownF (eH σ) (qCue (eP σ n)) (nI F)))) q).1.1) (hk.2.1.1) ?_
                      refine r_aload_n Mm dX6_goes_151 rfl ?_
                      refine r_getR Mm dX6_goes_152 fi_X6_71 (hMD.1) rfl (i := 626) rfl ((hMD.2.1 26 8 8 (by decide)).1) ?_
                      refine r_iload Mm dX6_goes_155 rfl ?_
                      refine r_ialdN Mm dX6_goes_157 ((hMD.2.1 26 8 8 (by decide)).2) (by omega) (by omega) ?_
                      refine r_top _ (((goQ σ (tCast (eS σ j)) (nI F) n) q).1.1) ((hk.2.2 q (by omega) c17).1) ?_
                      refine r_icmp_ge (tgt := 174) Mm dX6_goes_158 (by decide) (fun c26 => ?_) (fun c26 => ?_)
                      · refine r_aload_n Mm dX6_goes_174 rfl ?_
                        refine r_getR Mm dX6_goes_175 fi_X6_71 (hMD.1) rfl (i := 626) rfl ((hMD.2.1 26 8 8 (by decide)).1) ?_
                        refine r_iload Mm dX6_goes_178 rfl ?_
                        refine r_ialdN Mm dX6_goes_180 ((hMD.2.1 26 8 8 (by decide)).2) (by omega) (by omega) ?_
                        refine r_top _ (((goQ σ (tCast (eS σ j)) (nI F) n) q).1.1) ((hk.2.2 q (by omega) c17).1) ?_
                        refine r_bipush (v := nI 10) Mm dX6_goes_181 (by decide) ?_
                        refine r_iadd Mm dX6_goes_183 ?_
                        refine r_iastN Mm dX6_goes_184 ((hMD.2.1 26 8 8 (by decide)).2) (by omega) (by omega) ?_
                        refine r_aload_n Mm dX6_goes_185 rfl ?_
                        refine r_getR Mm dX6_goes_186 fi_X6_77 (hMD.1) rfl (i := 628) rfl ((hMD.2.1 28 9 8 (by decide)).1) ?_
                        refine r_iload Mm dX6_goes_189 rfl ?_
                        refine r_iconst (v := nI 1) Mm dX6_goes_191 (by decide) ?_
                        refine r_zastN Mm dX6_goes_192 ((hMD.2.1 28 9 8 (by decide)).2) (by omega) (by omega) (by decide) ?_
                        refine r_iincN (k := 1) Mm dX6_goes_193 rfl (by decide) (by decide) ?_
                        show V 196 [some (.ref m), some (.int (nI j)), some (.int (nI i)), some (.int (nI F)), some (.int (nI n)), some (.int (nI (q + 1)))] _ _ _ _
                        refine r_goto (tgt := 76) Mm dX6_goes_196 (by decide) ?_
                        have hns := nearS_eq hbk (hbq q (by omega) c17).k
                        rw [c21, c25, Bool.and_self] at hns
                        have hst := KeM.step n68 n78 n67 c17 hns hk
                        rw [show awayS ((keepL (tCast (eS σ j)) (fun y => ((goQ σ (tCast (eS σ j)) (nI F) n) y).1) (pullS (qBar (eP σ n)) (qLen (eP σ n)) (trk (qBar (eP σ n)) (qKeys (eP σ n)) (ownF (eH σ) (qCue (eP σ n)) (nI F)))) q).1.1) (((goQ σ (tCast (eS σ j)) (nI F) n) q).1.1) = _ from if_neg (Int32.not_lt.mpr c26)] at hst
                        exact ih _ (q + 1) (by omega) (by omega) hst
                      · refine r_aload_n Mm dX6_goes_161 rfl ?_
                        refine r_getR Mm dX6_goes_162 fi_X6_71 (hMD.1) rfl (i := 626) rfl ((hMD.2.1 26 8 8 (by decide)).1) ?_
                        refine r_iload Mm dX6_goes_165 rfl ?_
                        refine r_ialdN Mm dX6_goes_167 ((hMD.2.1 26 8 8 (by decide)).2) (by omega) (by omega) ?_
                        refine r_top _ (((goQ σ (tCast (eS σ j)) (nI F) n) q).1.1) ((hk.2.2 q (by omega) c17).1) ?_
                        refine r_bipush (v := nI 10) Mm dX6_goes_168 (by decide) ?_
                        refine r_isub Mm dX6_goes_170 ?_
                        refine r_goto (tgt := 184) Mm dX6_goes_171 (by decide) ?_
                        refine r_iastN Mm dX6_goes_184 ((hMD.2.1 26 8 8 (by decide)).2) (by omega) (by omega) ?_
                        refine r_aload_n Mm dX6_goes_185 rfl ?_
                        refine r_getR Mm dX6_goes_186 fi_X6_77 (hMD.1) rfl (i := 628) rfl ((hMD.2.1 28 9 8 (by decide)).1) ?_
                        refine r_iload Mm dX6_goes_189 rfl ?_
                        refine r_iconst (v := nI 1) Mm dX6_goes_191 (by decide) ?_
                        refine r_zastN Mm dX6_goes_192 ((hMD.2.1 28 9 8 (by decide)).2) (by omega) (by omega) (by decide) ?_
                        refine r_iincN (k := 1) Mm dX6_goes_193 rfl (by decide) (by decide) ?_
                        show V 196 [some (.ref m), some (.int (nI j)), some (.int (nI i)), some (.int (nI F)), some (.int (nI n)), some (.int (nI (q + 1)))] _ _ _ _
                        refine r_goto (tgt := 76) Mm dX6_goes_196 (by decide) ?_
                        have hns := nearS_eq hbk (hbq q (by omega) c17).k
                        rw [c21, c25, Bool.and_self] at hns
                        have hst := KeM.step n68 n78 n67 c17 hns hk
                        rw [show awayS ((keepL (tCast (eS σ j)) (fun y => ((goQ σ (tCast (eS σ j)) (nI F) n) y).1) (pullS (qBar (eP σ n)) (qLen (eP σ n)) (trk (qBar (eP σ n)) (qKeys (eP σ n)) (ownF (eH σ) (qCue (eP σ n)) (nI F)))) q).1.1) (((goQ σ (tCast (eS σ j)) (nI F) n) q).1.1) = _ from if_pos (Int32.not_le.mp c26)] at hst
                        exact ih _ (q + 1) (by omega) (by omega) hst
          exact loop (n + 1) _ 0 (by omega) (Nat.zero_le _) hk0
  exact loop (i + 2) _ 0 _ (by omega) (Nat.zero_le _) Mt.rf (fun q hq => absurd hq (Nat.not_lt_zero _))
