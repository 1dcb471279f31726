/-! ===== the law's own looks: isTrack, isStage ===== -/
theorem bool_tf (b : Bool) : b = true ∨ b = false := by cases b <;> simp
theorem inP.gt {w : Int32 × Int32} (h : inP w) : ¬ w.1 ≤ -2000000 ∧ ¬ w.1 < -2000000 := by
  have e : (-2000000 : Int32).toInt = -2000000 := rfl
  have := h.1
  rw [Int32.le_iff_toInt_le, Int32.lt_iff_toInt_lt, e]
  omega
theorem four_last {P Q R S : Prop} (h : P ∨ Q ∨ R ∨ S) (a : ¬ P) (b : ¬ Q) (c : ¬ R) : S := by
  rcases h with h | h | h | h
  · exact absurd h a
  · exact absurd h b
  · exact absurd h c
  · exact h
set_option maxRecDepth 100000 in
set_option maxHeartbeats 4000000 in
theorem ct_isTrack {g : Gl} {l : Launch} (hfl : l.stackTraces = false) {h : Hp} {x : Nat} {ad : Nat → Nat} {σ : ST} (md : Mid g h x ad (AR σ) σ) (hi : Inv σ) {p F : Nat} (hp : p < eN σ) (hF : F ≤ 159) : CT g l iL_isTrack 9 [.ref x, .ref (ad 0), .int (nI p), .int (nI F)] h 5 30 (pRel (fun r h' => r = some (.int (nI 1)) ∧ Mid g h' x ad (AR σ) σ)) := by
  have hw := hi.wf
  have n5 := hi.n5
  obtain ⟨X0, Y0, hX, hY, eT, eR⟩ := e_track hi hp (F := F) (by omega)
  obtain ⟨X2, Y2, hX2, hY2, eT2, eR2⟩ := e_track hi hp (F := 1999) (by omega)
  have eR3 : o_track σ (nI p) (nI 1000) = .inr (nI (1000 * X2 + Y2), σ) := by
    obtain ⟨X3, Y3, hX3, hY3, eT3, eR3⟩ := e_track hi hp (F := 1000) (by omega)
    have e := eT2.symm.trans ((trk_late (hi.okp hp).2.2.1 (by omega) (by omega)).trans eT3)
    have e1 : X2 = X3 := (nI_eq (by omega) (by omega)).mp (congrArg Prod.fst e)
    have e2 : Y2 = Y3 := (nI_eq (by omega) (by omega)).mp (congrArg Prod.snd e)
    rw [e1, e2]; exact eR3
  obtain ⟨L, n, hL, hn, eL, eS⟩ := s_least hi hp (F := F) (by omega)
  have hLL : L * L ≤ 1413 * 1413 := Nat.mul_le_mul hL hL
  have eF : (nI X0 - qBar (eP σ p)) * (nI X0 - qBar (eP σ p)) + nI (Y0 * Y0) = nI n := by
    rw [eT] at eS
    rw [← pk_mul]
    exact eS
  refine ct_mk hfl (by decide) (Nat.le_of_ble_eq_true rfl) (by intro v hv; simp only [List.mem_cons, List.not_mem_nil, or_false] at hv; rcases hv with rfl | rfl | rfl | rfl <;> rfl) (fun V X M => ?_)
  have Mm := M.m
  show V 0 [some (.ref x), some (.ref (ad 0)), some (.int (nI p)), some (.int (nI F)), none, none, none] [] _ 0 0
  refine r_aload_n Mm dL_isTrack_0 rfl ?_
  refine r_iload_n Mm dL_isTrack_1 rfl ?_
  refine r_iload_n Mm dL_isTrack_2 rfl ?_
  refine r_callV (As := [(.int (nI p)), (.int (nI F))]) Mm dL_isTrack_3 rfl (ct_ret (cd_track hfl md hw (nI p) (nI F)) eR) (md.ox) rfl cw_L_63 ⟨Nat.le_of_ble_eq_true rfl, Nat.le_of_ble_eq_true rfl, Nat.le_of_ble_eq_true rfl⟩ (Nat.le_of_ble_eq_true rfl) ⟨by show _ ≤ 5; omega, by show _ ≤ 30; omega⟩ (fun r4 h1 p3 => ?_) (fun _ _ z => False.elim z)
  obtain ⟨rfl, md2⟩ := p3
  show V 6 _ [(.int (nI (1000 * X0 + Y0)))] h1 _ _
  refine r_istore Mm dL_isTrack_6 (by decide) ?_
  show V 8 [some (.ref x), some (.ref (ad 0)), some (.int (nI p)), some (.int (nI F)), some (.int (nI (1000 * X0 + Y0))), none, none] _ _ _ _
  refine r_iload Mm dL_isTrack_8 rfl ?_
  refine r_sipush (v := nI 1000) Mm dL_isTrack_10 (by decide) ?_
  refine r_idivN Mm dL_isTrack_13 (by omega) (by omega) (by omega) ?_
  refine r_top _ (nI X0) (congrArg nI (by omega)) ?_
  refine r_aload_n Mm dL_isTrack_14 rfl ?_
  refine r_iload_n Mm dL_isTrack_15 rfl ?_
  refine r_ialdN (n := 5) Mm dL_isTrack_16 (md2.sh (k := 0) (by decide)) (by omega) (by omega) ?_
  refine r_top _ (qBar (eP σ p)) ((md2.rd (k := 0) (by decide) _).trans (rfl)) ?_
  refine r_isub Mm dL_isTrack_17 ?_
  refine r_iload Mm dL_isTrack_18 rfl ?_
  refine r_sipush (v := nI 1000) Mm dL_isTrack_20 (by decide) ?_
  refine r_idivN Mm dL_isTrack_23 (by omega) (by omega) (by omega) ?_
  refine r_top _ (nI X0) (congrArg nI (by omega)) ?_
  refine r_aload_n Mm dL_isTrack_24 rfl ?_
  refine r_iload_n Mm dL_isTrack_25 rfl ?_
  refine r_ialdN (n := 5) Mm dL_isTrack_26 (md2.sh (k := 0) (by decide)) (by omega) (by omega) ?_
  refine r_top _ (qBar (eP σ p)) ((md2.rd (k := 0) (by decide) _).trans (rfl)) ?_
  refine r_isub Mm dL_isTrack_27 ?_
  refine r_imul Mm dL_isTrack_28 ?_
  refine r_iload Mm dL_isTrack_29 rfl ?_
  refine r_sipush (v := nI 1000) Mm dL_isTrack_31 (by decide) ?_
  refine r_iremN Mm dL_isTrack_34 (by omega) (by omega) (by omega) ?_
  refine r_top _ (nI Y0) (congrArg nI (by omega)) ?_
  refine r_iload Mm dL_isTrack_35 rfl ?_
  refine r_sipush (v := nI 1000) Mm dL_isTrack_37 (by decide) ?_
  refine r_iremN Mm dL_isTrack_40 (by omega) (by omega) (by omega) ?_
  refine r_top _ (nI Y0) (congrArg nI (by omega)) ?_
  refine r_imulN Mm dL_isTrack_41 ?_
  refine r_iadd Mm dL_isTrack_42 ?_
  refine r_top _ (nI n) (eF) ?_
  refine r_istore Mm dL_isTrack_43 (by decide) ?_
  show V 45 [some (.ref x), some (.ref (ad 0)), some (.int (nI p)), some (.int (nI F)), some (.int (nI (1000 * X0 + Y0))), some (.int (nI n)), none] _ _ _ _
  refine r_aload_n Mm dL_isTrack_45 rfl ?_
  refine r_iload_n Mm dL_isTrack_46 rfl ?_
  refine r_callV (As := [(.int (nI p))]) Mm dL_isTrack_47 rfl (ct_ret (cd_least hfl md2 hw (nI p)) eL) (md2.ox) rfl cw_L_66 ⟨Nat.le_of_ble_eq_true rfl, Nat.le_of_ble_eq_true rfl, Nat.le_of_ble_eq_true rfl⟩ (Nat.le_of_ble_eq_true rfl) ⟨by show _ ≤ 5; omega, by show _ ≤ 30; omega⟩ (fun r8 h5 p7 => ?_) (fun _ _ z => False.elim z)
  obtain ⟨rfl, md6⟩ := p7
  show V 50 _ [(.int (nI L))] h5 _ _
  refine r_istore Mm dL_isTrack_50 (by decide) ?_
  show V 52 [some (.ref x), some (.ref (ad 0)), some (.int (nI p)), some (.int (nI F)), some (.int (nI (1000 * X0 + Y0))), some (.int (nI n)), some (.int (nI L))] _ _ _ _
  refine r_iload Mm dL_isTrack_52 rfl ?_
  refine r_if_lt (tgt := 116) Mm dL_isTrack_54 (by decide) (fun c9 => absurd c9 (nI_pos (by omega))) (fun _ => ?_)
  refine r_iload Mm dL_isTrack_57 rfl ?_
  refine r_ldc (v := nI 1000000) Mm dL_isTrack_59 (by rw [show nI 1000000 = 1000000 from rfl]; exact cc_L_69) ?_
  refine r_icmp_geN (tgt := 116) Mm dL_isTrack_61 (by decide) (by omega) (by omega) (fun c10 => absurd c10 (by omega)) (fun c10 => ?_)
  refine r_iload Mm dL_isTrack_64 rfl ?_
  refine r_aload_n Mm dL_isTrack_66 rfl ?_
  refine r_iload_n Mm dL_isTrack_67 rfl ?_
  refine r_iload_n Mm dL_isTrack_68 rfl ?_
  refine r_callV (As := [(.int (nI p)), (.int (nI F))]) Mm dL_isTrack_69 rfl (ct_ret (cd_tbf hfl md6 hw (nI p) (nI F)) (show o_tbf σ (nI p) (nI F) = _ from eR)) (md6.ox) rfl cw_L_70 ⟨Nat.le_of_ble_eq_true rfl, Nat.le_of_ble_eq_true rfl, Nat.le_of_ble_eq_true rfl⟩ (Nat.le_of_ble_eq_true rfl) ⟨by show _ ≤ 5; omega, by show _ ≤ 30; omega⟩ (fun r14 h11 p13 => ?_) (fun _ _ z => False.elim z)
  obtain ⟨rfl, md12⟩ := p13
  show V 72 _ [(.int (nI (1000 * X0 + Y0))), (.int (nI (1000 * X0 + Y0)))] h11 _ _
  refine r_icmp_neN (tgt := 116) Mm dL_isTrack_72 (by decide) (by omega) (by omega) (fun c15 => absurd rfl c15) (fun c15 => ?_)
  refine r_iload Mm dL_isTrack_75 rfl ?_
  refine r_iload Mm dL_isTrack_77 rfl ?_
  refine r_iload Mm dL_isTrack_79 rfl ?_
  refine r_imulN Mm dL_isTrack_81 ?_
  refine r_icmp_gtN (tgt := 116) Mm dL_isTrack_82 (by decide) (by omega) (by omega) (fun c16 => absurd c16 (by omega)) (fun c16 => ?_)
  refine r_iload Mm dL_isTrack_85 rfl ?_
  refine r_sipush (v := nI 1413) Mm dL_isTrack_87 (by decide) ?_
  refine r_icmp_gtN (tgt := 116) Mm dL_isTrack_90 (by decide) (by omega) (by omega) (fun c17 => absurd c17 (by omega)) (fun c17 => ?_)
  refine r_aload_n Mm dL_isTrack_93 rfl ?_
  refine r_iload_n Mm dL_isTrack_94 rfl ?_
  refine r_sipush (v := nI 1999) Mm dL_isTrack_95 (by decide) ?_
  refine r_callV (As := [(.int (nI p)), (.int (nI 1999))]) Mm dL_isTrack_98 rfl (ct_ret (cd_track hfl md12 hw (nI p) (nI 1999)) eR2) (md12.ox) rfl cw_L_63 ⟨Nat.le_of_ble_eq_true rfl, Nat.le_of_ble_eq_true rfl, Nat.le_of_ble_eq_true rfl⟩ (Nat.le_of_ble_eq_true rfl) ⟨by show _ ≤ 5; omega, by show _ ≤ 30; omega⟩ (fun r21 h18 p20 => ?_) (fun _ _ z => False.elim z)
  obtain ⟨rfl, md19⟩ := p20
  show V 101 _ [(.int (nI (1000 * X2 + Y2)))] h18 _ _
  refine r_aload_n Mm dL_isTrack_101 rfl ?_
  refine r_iload_n Mm dL_isTrack_102 rfl ?_
  refine r_sipush (v := nI 1000) Mm dL_isTrack_103 (by decide) ?_
  refine r_callV (As := [(.int (nI p)), (.int (nI 1000))]) Mm dL_isTrack_106 rfl (ct_ret (cd_track hfl md19 hw (nI p) (nI 1000)) eR3) (md19.ox) rfl cw_L_63 ⟨Nat.le_of_ble_eq_true rfl, Nat.le_of_ble_eq_true rfl, Nat.le_of_ble_eq_true rfl⟩ (Nat.le_of_ble_eq_true rfl) ⟨by show _ ≤ 5; omega, by show _ ≤ 30; omega⟩ (fun r25 h22 p24 => ?_) (fun _ _ z => False.elim z)
  obtain ⟨rfl, md23⟩ := p24
  show V 109 _ [(.int (nI (1000 * X2 + Y2))), (.int (nI (1000 * X2 + Y2)))] h22 _ _
  refine r_icmp_neN (tgt := 116) Mm dL_isTrack_109 (by decide) (by omega) (by omega) (fun c26 => absurd rfl c26) (fun c26 => ?_)
  refine r_iconst (v := nI 1) Mm dL_isTrack_112 (by decide) ?_
  refine r_goto (tgt := 117) Mm dL_isTrack_113 (by decide) ?_
  refine r_zret M dL_isTrack_117 (by decide) ?_
  exact ⟨rfl, md23⟩
set_option maxRecDepth 100000 in
set_option maxHeartbeats 4000000 in
theorem stg_in {g : Gl} {l : Launch} (hfl : l.stackTraces = false) {hh : List (Nat × Nat × Nat × Nat)} {mn : String} {V : VT} {X : XT} (M : Mach g l (rmOf 12 100 600) RL cL_isStage 14 hh mn V X) {x : Nat} {ad : Nat → Nat} {σ : ST} (hi : Inv σ) {s p F : Nat} (hs : s < eM σ) (hp : p < eN σ) (hF : F ≤ 159) (X0 Y0 : Int32) (B0 : Bool) (hN : B0 = false → ∀ q, q < p → (tCast (eS σ s)) q = true → nI 9 < X0 - (plQ σ (tCast (eS σ s)) (nI F) q).1.1 ∨ nI 9 < (plQ σ (tCast (eS σ s)) (nI F) q).1.1 - X0 ∨ nI 9 < Y0 - (plQ σ (tCast (eS σ s)) (nI F) q).1.2 ∨ nI 9 < (plQ σ (tCast (eS σ s)) (nI F) q).1.2 - Y0) (kc ks : Nat) (hk : kc + 3 * p ≤ 100) (hk2 : ks + 18 * p ≤ 600) (K : ∀ (h' : Hp) (kc' ks' : Nat) (z12 z13 : Option Value), Mid g h' x ad (AR σ) σ → kc' ≤ kc + 3 * p → ks' ≤ ks + 18 * p → V 297 [some (.ref x), some (.ref (ad 0)), some (.ref (ad 1)), some (.int (nI s)), some (.int (nI (eN σ))), some (.int (nI F)), some (.int (nI 1)), some (.int (nI p)), some (.int X0), some (.int Y0), some (.int (bI B0)), some (.int (bI (anyN (tCast (eS σ s)) p))), z12, z13] [] h' kc' ks') : ∀ (u q : Nat) (h1 : Hp) (kc1 ks1 : Nat) (z13 : Option Value), p - q < u → q ≤ p → Mid g h1 x ad (AR σ) σ → kc1 ≤ kc + 3 * q → ks1 ≤ ks + 18 * q → V 166 [some (.ref x), some (.ref (ad 0)), some (.ref (ad 1)), some (.int (nI s)), some (.int (nI (eN σ))), some (.int (nI F)), some (.int (nI 1)), some (.int (nI p)), some (.int X0), some (.int Y0), some (.int (bI B0)), some (.int (bI (anyN (tCast (eS σ s)) q))), some (.int (nI q)), z13] [] h1 kc1 ks1 := by
  have hw := hi.wf
  have n5 := hi.n5
  have m4 := hi.m4
  intro u
  induction u with
  | zero => intro q h1 kc1 ks1 z13 hu; omega
  | succ u ih =>
    intro q h1 kc1 ks1 z13 hu hq md1 k1 k2
    show V 166 [some (.ref x), some (.ref (ad 0)), some (.ref (ad 1)), some (.int (nI s)), some (.int (nI (eN σ))), some (.int (nI F)), some (.int (nI 1)), some (.int (nI p)), some (.int X0), some (.int Y0), some (.int (bI B0)), some (.int (bI (anyN (tCast (eS σ s)) q))), some (.int (nI q)), z13] [] h1 kc1 ks1
    refine r_iload M dL_isStage_166 rfl ?_
    refine r_iload M dL_isStage_168 rfl ?_
    refine r_icmp_geN (tgt := 297) M dL_isStage_170 (by decide) (by omega) (by omega) (fun c1 => ?_) (fun c1 => ?_)
    · have e : q = p := by omega
      rw [e]
      rw [e] at k1 k2
      exact K h1 kc1 ks1 _ _ md1 k1 k2
    · have K284 : ∀ (h' : Hp) (kc' ks' : Nat) (z13 : Option Value), Mid g h' x ad (AR σ) σ → kc' ≤ kc + 3 * (q + 1) → ks' ≤ ks + 18 * (q + 1) → V 284 [some (.ref x), some (.ref (ad 0)), some (.ref (ad 1)), some (.int (nI s)), some (.int (nI (eN σ))), some (.int (nI F)), some (.int (nI 1)), some (.int (nI p)), some (.int X0), some (.int Y0), some (.int (bI B0)), some (.int (bI (anyN (tCast (eS σ s)) (q + 1)))), some (.int (nI q)), z13] [] h' kc' ks' := fun h' kc' ks' z13 md' b1 b2 => by
        show V 284 [some (.ref x), some (.ref (ad 0)), some (.ref (ad 1)), some (.int (nI s)), some (.int (nI (eN σ))), some (.int (nI F)), some (.int (nI 1)), some (.int (nI p)), some (.int X0), some (.int Y0), some (.int (bI B0)), some (.int (bI (anyN (tCast (eS σ s)) (q + 1)))), some (.int (nI q)), z13] [] _ _ _
        refine r_iconst (v := nI 1) M dL_isStage_284 (by decide) ?_
        refine r_goto (tgt := 289) M dL_isStage_285 (by decide) ?_
        refine r_istore M dL_isStage_289 (by decide) ?_
        show V 291 [some (.ref x), some (.ref (ad 0)), some (.ref (ad 1)), some (.int (nI s)), some (.int (nI (eN σ))), some (.int (nI F)), some (.int (nI 1)), some (.int (nI p)), some (.int X0), some (.int Y0), some (.int (bI B0)), some (.int (bI (anyN (tCast (eS σ s)) (q + 1)))), some (.int (nI q)), z13] _ _ _ _
        refine r_iincN (k := 1) M dL_isStage_291 rfl (by decide) (by decide) ?_
        show V 294 [some (.ref x), some (.ref (ad 0)), some (.ref (ad 1)), some (.int (nI s)), some (.int (nI (eN σ))), some (.int (nI F)), some (.int (nI 1)), some (.int (nI p)), some (.int X0), some (.int Y0), some (.int (bI B0)), some (.int (bI (anyN (tCast (eS σ s)) (q + 1)))), some (.int (nI (q + 1))), z13] _ _ _ _
        refine r_goto (tgt := 166) M dL_isStage_294 (by decide) ?_
        exact ih (q + 1) h' kc' ks' z13 (by omega) (by omega) md' b1 b2
      rcases bool_tf ((tCast (eS σ s)) q) with cq | cq
      · refine r_aload_n M dL_isStage_173 rfl ?_
        refine r_bipush (v := nI 6) M dL_isStage_174 (by decide) ?_
        refine r_iload_n M dL_isStage_176 rfl ?_
        refine r_iload M dL_isStage_177 rfl ?_
        refine r_iload M dL_isStage_179 rfl ?_
        refine r_iconst (v := nI 0) M dL_isStage_181 (by decide) ?_
        refine r_callSW (As := [(.ref x), (.int (nI 6)), (.int (nI s)), (.int (nI q)), (.int (nI F)), (.int (nI 0))]) M dL_isStage_182 rfl (ctw_on (ct_on_x hfl md1 hw (nI s) (nI q) (nI F) (nI 0) (oCt.ret ((e_x hi hs (by omega) (by omega)).trans (if_pos cq)))) ((e_x hi hs (by omega) (by omega)).trans (if_pos cq)) rfl rfl) cw_L_59 ⟨Nat.le_of_ble_eq_true rfl, Nat.le_of_ble_eq_true rfl, Nat.le_of_ble_eq_true rfl⟩ (Nat.le_of_ble_eq_true rfl) ⟨by show _ ≤ 100; omega, by show _ ≤ 600; omega⟩ (fun r5 h2 p4 => ?_) (fun _ _ z => z)
        obtain ⟨rfl, md3⟩ := p4
        show V 185 _ [(.int ((plQ σ (tCast (eS σ s)) (nI F) q).1.1))] h2 _ _
        refine r_istore M dL_isStage_185 (by decide) ?_
        show V 187 [some (.ref x), some (.ref (ad 0)), some (.ref (ad 1)), some (.int (nI s)), some (.int (nI (eN σ))), some (.int (nI F)), some (.int (nI 1)), some (.int (nI p)), some (.int X0), some (.int Y0), some (.int (bI B0)), some (.int (bI (anyN (tCast (eS σ s)) q))), some (.int (nI q)), some (.int ((plQ σ (tCast (eS σ s)) (nI F) q).1.1))] _ _ _ _
        have J : V 206 [some (.ref x), some (.ref (ad 0)), some (.ref (ad 1)), some (.int (nI s)), some (.int (nI (eN σ))), some (.int (nI F)), some (.int (nI 1)), some (.int (nI p)), some (.int X0), some (.int Y0), some (.int (bI B0)), some (.int (bI (anyN (tCast (eS σ s)) (q + 1)))), some (.int (nI q)), some (.int ((plQ σ (tCast (eS σ s)) (nI F) q).1.1))] [] h2 (kc1 + 1) (ks1 + 6) := by
          refine r_iload M dL_isStage_206 rfl ?_
          refine r_if_eq (tgt := 288) M dL_isStage_208 (by decide) (fun c6 => absurd c6 (by decide)) (fun _ => ?_)
          rcases bool_tf B0 with cb | cb
          · refine r_iload M dL_isStage_211 rfl ?_
            refine r_iconst (v := nI 1) M dL_isStage_213 (by decide) ?_
            refine r_icmp_eq (tgt := 284) M dL_isStage_214 (by decide) (fun c7 => ?_) (fun c7 => absurd (by rw [cb]; rfl) c7)
            exact K284 _ _ _ _ md3 (by omega) (by omega)
          · refine r_iload M dL_isStage_211 rfl ?_
            refine r_iconst (v := nI 1) M dL_isStage_213 (by decide) ?_
            refine r_icmp_eq (tgt := 284) M dL_isStage_214 (by decide) (fun c8 => absurd c8 (by rw [cb]; decide)) (fun c8 => ?_)
            refine r_iload M dL_isStage_217 rfl ?_
            refine r_ldc (v := -2000000) M dL_isStage_219 cc_L_62 ?_
            refine r_icmp_lt (tgt := 284) M dL_isStage_221 (by decide) (fun c9 => absurd c9 (inP.gt (goQ_bd (fun q z => (hi.okc hs q z).2) _ _ (Nat.lt_succ_self _) cq)).2) (fun c9 => ?_)
            refine r_iload M dL_isStage_224 rfl ?_
            refine r_iload M dL_isStage_226 rfl ?_
            refine r_isub M dL_isStage_228 ?_
            refine r_bipush (v := nI 9) M dL_isStage_229 (by decide) ?_
            refine r_icmp_gt (tgt := 284) M dL_isStage_231 (by decide) (fun c10 => ?_) (fun c10 => ?_)
            · exact K284 _ _ _ _ md3 (by omega) (by omega)
            · refine r_iload M dL_isStage_234 rfl ?_
              refine r_iload M dL_isStage_236 rfl ?_
              refine r_isub M dL_isStage_238 ?_
              refine r_bipush (v := nI 9) M dL_isStage_239 (by decide) ?_
              refine r_icmp_gt (tgt := 284) M dL_isStage_241 (by decide) (fun c11 => ?_) (fun c11 => ?_)
              · exact K284 _ _ _ _ md3 (by omega) (by omega)
              · refine r_iload M dL_isStage_244 rfl ?_
                refine r_aload_n M dL_isStage_246 rfl ?_
                refine r_bipush (v := nI 7) M dL_isStage_247 (by decide) ?_
                refine r_iload_n M dL_isStage_249 rfl ?_
                refine r_iload M dL_isStage_250 rfl ?_
                refine r_iload M dL_isStage_252 rfl ?_
                refine r_iconst (v := nI 0) M dL_isStage_254 (by decide) ?_
                refine r_callSW (As := [(.ref x), (.int (nI 7)), (.int (nI s)), (.int (nI q)), (.int (nI F)), (.int (nI 0))]) M dL_isStage_255 rfl (ctw_on (ct_on_y hfl md3 hw (nI s) (nI q) (nI F) (nI 0) (oCt.ret ((e_y hi hs (by omega) (by omega)).trans (if_pos cq)))) ((e_y hi hs (by omega) (by omega)).trans (if_pos cq)) rfl rfl) cw_L_59 ⟨Nat.le_of_ble_eq_true rfl, Nat.le_of_ble_eq_true rfl, Nat.le_of_ble_eq_true rfl⟩ (Nat.le_of_ble_eq_true rfl) ⟨by show _ ≤ 100; omega, by show _ ≤ 600; omega⟩ (fun r15 h12 p14 => ?_) (fun _ _ z => z)
                obtain ⟨rfl, md13⟩ := p14
                show V 258 _ [(.int ((plQ σ (tCast (eS σ s)) (nI F) q).1.2)), (.int Y0)] h12 _ _
                refine r_isub M dL_isStage_258 ?_
                refine r_bipush (v := nI 9) M dL_isStage_259 (by decide) ?_
                refine r_icmp_gt (tgt := 284) M dL_isStage_261 (by decide) (fun c16 => ?_) (fun c16 => ?_)
                · exact K284 _ _ _ _ md13 (by omega) (by omega)
                · refine r_aload_n M dL_isStage_264 rfl ?_
                  refine r_bipush (v := nI 7) M dL_isStage_265 (by decide) ?_
                  refine r_iload_n M dL_isStage_267 rfl ?_
                  refine r_iload M dL_isStage_268 rfl ?_
                  refine r_iload M dL_isStage_270 rfl ?_
                  refine r_iconst (v := nI 0) M dL_isStage_272 (by decide) ?_
                  refine r_callSW (As := [(.ref x), (.int (nI 7)), (.int (nI s)), (.int (nI q)), (.int (nI F)), (.int (nI 0))]) M dL_isStage_273 rfl (ctw_on (ct_on_y hfl md13 hw (nI s) (nI q) (nI F) (nI 0) (oCt.ret ((e_y hi hs (by omega) (by omega)).trans (if_pos cq)))) ((e_y hi hs (by omega) (by omega)).trans (if_pos cq)) rfl rfl) cw_L_59 ⟨Nat.le_of_ble_eq_true rfl, Nat.le_of_ble_eq_true rfl, Nat.le_of_ble_eq_true rfl⟩ (Nat.le_of_ble_eq_true rfl) ⟨by show _ ≤ 100; omega, by show _ ≤ 600; omega⟩ (fun r20 h17 p19 => ?_) (fun _ _ z => z)
                  obtain ⟨rfl, md18⟩ := p19
                  show V 276 _ [(.int ((plQ σ (tCast (eS σ s)) (nI F) q).1.2))] h17 _ _
                  refine r_iload M dL_isStage_276 rfl ?_
                  refine r_isub M dL_isStage_278 ?_
                  refine r_bipush (v := nI 9) M dL_isStage_279 (by decide) ?_
                  refine r_icmp_le (tgt := 288) M dL_isStage_281 (by decide) (fun c21 => absurd (four_last (hN cb q (by omega) cq) c10 c11 c16) (Int32.not_lt.mpr c21)) (fun c21 => ?_)
                  exact K284 _ _ _ _ md18 (by omega) (by omega)
        refine r_iload M dL_isStage_187 rfl ?_
        refine r_if_neB (tgt := 199) M dL_isStage_189 (by decide) (fun c22 => ?_) (fun c22 => ?_)
        · refine r_iconst (v := nI 1) M dL_isStage_199 (by decide) ?_
          refine r_goto (tgt := 204) M dL_isStage_200 (by decide) ?_
          refine r_top _ (bI (anyN (tCast (eS σ s)) (q + 1))) (by rw [anyN, c22, Bool.true_or]; rfl) ?_
          refine r_istore M dL_isStage_204 (by decide) ?_
          show V 206 [some (.ref x), some (.ref (ad 0)), some (.ref (ad 1)), some (.int (nI s)), some (.int (nI (eN σ))), some (.int (nI F)), some (.int (nI 1)), some (.int (nI p)), some (.int X0), some (.int Y0), some (.int (bI B0)), some (.int (bI (anyN (tCast (eS σ s)) (q + 1)))), some (.int (nI q)), some (.int ((plQ σ (tCast (eS σ s)) (nI F) q).1.1))] _ _ _ _
          exact J
        · refine r_iload M dL_isStage_192 rfl ?_
          refine r_ldc (v := -2000000) M dL_isStage_194 cc_L_62 ?_
          refine r_icmp_le (tgt := 203) M dL_isStage_196 (by decide) (fun c23 => absurd c23 (inP.gt (goQ_bd (fun q z => (hi.okc hs q z).2) _ _ (Nat.lt_succ_self _) cq)).1) (fun c23 => ?_)
          refine r_iconst (v := nI 1) M dL_isStage_199 (by decide) ?_
          refine r_goto (tgt := 204) M dL_isStage_200 (by decide) ?_
          refine r_top _ (bI (anyN (tCast (eS σ s)) (q + 1))) (by rw [anyN, cq, Bool.or_true]; rfl) ?_
          refine r_istore M dL_isStage_204 (by decide) ?_
          show V 206 [some (.ref x), some (.ref (ad 0)), some (.ref (ad 1)), some (.int (nI s)), some (.int (nI (eN σ))), some (.int (nI F)), some (.int (nI 1)), some (.int (nI p)), some (.int X0), some (.int Y0), some (.int (bI B0)), some (.int (bI (anyN (tCast (eS σ s)) (q + 1)))), some (.int (nI q)), some (.int ((plQ σ (tCast (eS σ s)) (nI F) q).1.1))] _ _ _ _
          exact J
      · refine r_aload_n M dL_isStage_173 rfl ?_
        refine r_bipush (v := nI 6) M dL_isStage_174 (by decide) ?_
        refine r_iload_n M dL_isStage_176 rfl ?_
        refine r_iload M dL_isStage_177 rfl ?_
        refine r_iload M dL_isStage_179 rfl ?_
        refine r_iconst (v := nI 0) M dL_isStage_181 (by decide) ?_
        refine r_callSW (As := [(.ref x), (.int (nI 6)), (.int (nI s)), (.int (nI q)), (.int (nI F)), (.int (nI 0))]) M dL_isStage_182 rfl (ctw_on (ct_on_x hfl md1 hw (nI s) (nI q) (nI F) (nI 0) (oCt.thr ((e_x hi hs (by omega) (by omega)).trans (if_neg (by rw [cq]; exact Bool.noConfusion))) (Or.inl rfl))) ((e_x hi hs (by omega) (by omega)).trans (if_neg (by rw [cq]; exact Bool.noConfusion))) onV_ioo rfl) cw_L_59 ⟨Nat.le_of_ble_eq_true rfl, Nat.le_of_ble_eq_true rfl, Nat.le_of_ble_eq_true rfl⟩ (Nat.le_of_ble_eq_true rfl) ⟨by show _ ≤ 100; omega, by show _ ≤ 600; omega⟩ (fun r27 h24 p26 => ?_) (fun _ _ z => z)
        obtain ⟨rfl, md25⟩ := p26
        show V 185 _ [(.int (-2000011))] h24 _ _
        refine r_istore M dL_isStage_185 (by decide) ?_
        show V 187 [some (.ref x), some (.ref (ad 0)), some (.ref (ad 1)), some (.int (nI s)), some (.int (nI (eN σ))), some (.int (nI F)), some (.int (nI 1)), some (.int (nI p)), some (.int X0), some (.int Y0), some (.int (bI B0)), some (.int (bI (anyN (tCast (eS σ s)) q))), some (.int (nI q)), some (.int (-2000011))] _ _ _ _
        have J : V 206 [some (.ref x), some (.ref (ad 0)), some (.ref (ad 1)), some (.int (nI s)), some (.int (nI (eN σ))), some (.int (nI F)), some (.int (nI 1)), some (.int (nI p)), some (.int X0), some (.int Y0), some (.int (bI B0)), some (.int (bI (anyN (tCast (eS σ s)) (q + 1)))), some (.int (nI q)), some (.int (-2000011))] [] h24 (kc1 + 1) (ks1 + 6) := by
          refine r_iload M dL_isStage_206 rfl ?_
          refine r_if_eq (tgt := 288) M dL_isStage_208 (by decide) (fun c28 => absurd c28 (by decide)) (fun _ => ?_)
          rcases bool_tf B0 with cb | cb
          · refine r_iload M dL_isStage_211 rfl ?_
            refine r_iconst (v := nI 1) M dL_isStage_213 (by decide) ?_
            refine r_icmp_eq (tgt := 284) M dL_isStage_214 (by decide) (fun c29 => ?_) (fun c29 => absurd (by rw [cb]; rfl) c29)
            exact K284 _ _ _ _ md25 (by omega) (by omega)
          · refine r_iload M dL_isStage_211 rfl ?_
            refine r_iconst (v := nI 1) M dL_isStage_213 (by decide) ?_
            refine r_icmp_eq (tgt := 284) M dL_isStage_214 (by decide) (fun c30 => absurd c30 (by rw [cb]; decide)) (fun c30 => ?_)
            refine r_iload M dL_isStage_217 rfl ?_
            refine r_ldc (v := -2000000) M dL_isStage_219 cc_L_62 ?_
            refine r_icmp_lt (tgt := 284) M dL_isStage_221 (by decide) (fun _ => ?_) (fun c31 => absurd (by decide) c31)
            exact K284 _ _ _ _ md25 (by omega) (by omega)
        refine r_iload M dL_isStage_187 rfl ?_
        refine r_if_neB (tgt := 199) M dL_isStage_189 (by decide) (fun c32 => ?_) (fun c32 => ?_)
        · refine r_iconst (v := nI 1) M dL_isStage_199 (by decide) ?_
          refine r_goto (tgt := 204) M dL_isStage_200 (by decide) ?_
          refine r_top _ (bI (anyN (tCast (eS σ s)) (q + 1))) (by rw [anyN, c32, Bool.true_or]; rfl) ?_
          refine r_istore M dL_isStage_204 (by decide) ?_
          show V 206 [some (.ref x), some (.ref (ad 0)), some (.ref (ad 1)), some (.int (nI s)), some (.int (nI (eN σ))), some (.int (nI F)), some (.int (nI 1)), some (.int (nI p)), some (.int X0), some (.int Y0), some (.int (bI B0)), some (.int (bI (anyN (tCast (eS σ s)) (q + 1)))), some (.int (nI q)), some (.int (-2000011))] _ _ _ _
          exact J
        · refine r_iload M dL_isStage_192 rfl ?_
          refine r_ldc (v := -2000000) M dL_isStage_194 cc_L_62 ?_
          refine r_icmp_le (tgt := 203) M dL_isStage_196 (by decide) (fun _ => ?_) (fun c33 => absurd (by decide) c33)
          refine r_iconst (v := nI 0) M dL_isStage_203 (by decide) ?_
          refine r_top _ (bI (anyN (tCast (eS σ s)) (q + 1))) (by rw [anyN, c32, cq]; rfl) ?_
          refine r_istore M dL_isStage_204 (by decide) ?_
          show V 206 [some (.ref x), some (.ref (ad 0)), some (.ref (ad 1)), some (.int (nI s)), some (.int (nI (eN σ))), some (.int (nI F)), some (.int (nI 1)), some (.int (nI p)), some (.int X0), some (.int Y0), some (.int (bI B0)), some (.int (bI (anyN (tCast (eS σ s)) (q + 1)))), some (.int (nI q)), some (.int (-2000011))] _ _ _ _
          exact J
set_option maxRecDepth 100000 in
set_option maxHeartbeats 4000000 in
theorem ct_isStage {g : Gl} {l : Launch} (hfl : l.stackTraces = false) {h : Hp} {x : Nat} {ad : Nat → Nat} {σ : ST} (md : Mid g h x ad (AR σ) σ) (hi : Inv σ) {s F : Nat} (hs : s < eM σ) (hF : F ≤ 159) : CT g l iL_isStage 12 [.ref x, .ref (ad 0), .ref (ad 1), .int (nI s), .int (nI (eN σ)), .int (nI F)] h 100 600 (pRel (fun r h' => r = some (.int (nI 1)) ∧ Mid g h' x ad (AR σ) σ)) := by
  have hw := hi.wf
  have n5 := hi.n5
  have m4 := hi.m4
  refine ct_mk hfl (by decide) (Nat.le_of_ble_eq_true rfl) (by intro v hv; simp only [List.mem_cons, List.not_mem_nil, or_false] at hv; rcases hv with rfl | rfl | rfl | rfl | rfl | rfl <;> rfl) (fun V X M => ?_)
  have Mm := M.m
  have LP : ∀ (u p : Nat) (h1 : Hp) (kc1 ks1 : Nat) (z8 z9 z10 z11 z12 z13 : Option Value), eN σ - p < u → p ≤ eN σ → Mid g h1 x ad (AR σ) σ → kc1 ≤ 15 * p → ks1 ≤ 90 * p → V 6 [some (.ref x), some (.ref (ad 0)), some (.ref (ad 1)), some (.int (nI s)), some (.int (nI (eN σ))), some (.int (nI F)), some (.int (nI 1)), some (.int (nI p)), z8, z9, z10, z11, z12, z13] [] h1 kc1 ks1 := by
    intro u
    induction u with
    | zero => intro p h1 kc1 ks1 z8 z9 z10 z11 z12 z13 hu; omega
    | succ u ih =>
      intro p h1 kc1 ks1 z8 z9 z10 z11 z12 z13 hu hp md1 k1 k2
      show V 6 [some (.ref x), some (.ref (ad 0)), some (.ref (ad 1)), some (.int (nI s)), some (.int (nI (eN σ))), some (.int (nI F)), some (.int (nI 1)), some (.int (nI p)), z8, z9, z10, z11, z12, z13] [] h1 kc1 ks1
      refine r_iload Mm dL_isStage_6 rfl ?_
      refine r_iload Mm dL_isStage_8 rfl ?_
      refine r_icmp_geN (tgt := 325) Mm dL_isStage_10 (by decide) (by omega) (by omega) (fun c1 => ?_) (fun c1 => ?_)
      · refine r_iload Mm dL_isStage_325 rfl ?_
        refine r_zret M dL_isStage_327 (by decide) ?_
        exact ⟨rfl, md1⟩
      · refine r_iload Mm dL_isStage_13 rfl ?_
        refine r_if_eq (tgt := 325) Mm dL_isStage_15 (by decide) (fun c2 => absurd c2 (by decide)) (fun _ => ?_)
        rcases bool_tf ((tCast (eS σ s)) p) with cp | cp
        · have sp := pl_spec (f := nI F) (fun q z => (hi.okc hs q z).2) cp
          have hL := sp.1.law (hi.okp (by omega))
          refine r_aload_n Mm dL_isStage_18 rfl ?_
          refine r_bipush (v := nI 6) Mm dL_isStage_19 (by decide) ?_
          refine r_iload_n Mm dL_isStage_21 rfl ?_
          refine r_iload Mm dL_isStage_22 rfl ?_
          refine r_iload Mm dL_isStage_24 rfl ?_
          refine r_iconst (v := nI 0) Mm dL_isStage_26 (by decide) ?_
          refine r_callSW (As := [(.ref x), (.int (nI 6)), (.int (nI s)), (.int (nI p)), (.int (nI F)), (.int (nI 0))]) Mm dL_isStage_27 rfl (ctw_on (ct_on_x hfl md1 hw (nI s) (nI p) (nI F) (nI 0) (oCt.ret ((e_x hi hs (by omega) (by omega)).trans (if_pos cp)))) ((e_x hi hs (by omega) (by omega)).trans (if_pos cp)) rfl rfl) cw_L_59 ⟨Nat.le_of_ble_eq_true rfl, Nat.le_of_ble_eq_true rfl, Nat.le_of_ble_eq_true rfl⟩ (Nat.le_of_ble_eq_true rfl) ⟨by show _ ≤ 100; omega, by show _ ≤ 600; omega⟩ (fun r6 h3 p5 => ?_) (fun _ _ z => z)
          obtain ⟨rfl, md4⟩ := p5
          show V 30 _ [(.int ((plQ σ (tCast (eS σ s)) (nI F) p).1.1))] h3 _ _
          refine r_istore Mm dL_isStage_30 (by decide) ?_
          show V 32 [some (.ref x), some (.ref (ad 0)), some (.ref (ad 1)), some (.int (nI s)), some (.int (nI (eN σ))), some (.int (nI F)), some (.int (nI 1)), some (.int (nI p)), some (.int ((plQ σ (tCast (eS σ s)) (nI F) p).1.1)), z9, z10, z11, z12, z13] _ _ _ _
          refine r_iload Mm dL_isStage_32 rfl ?_
          refine r_ldc (v := -2000000) Mm dL_isStage_34 cc_L_62 ?_
          refine r_icmp_le (tgt := 319) Mm dL_isStage_36 (by decide) (fun c7 => absurd c7 (inP.gt (goQ_bd (fun q z => (hi.okc hs q z).2) _ _ (Nat.lt_succ_self _) cp)).1) (fun c7 => ?_)
          refine r_aload_n Mm dL_isStage_39 rfl ?_
          refine r_bipush (v := nI 7) Mm dL_isStage_40 (by decide) ?_
          refine r_iload_n Mm dL_isStage_42 rfl ?_
          refine r_iload Mm dL_isStage_43 rfl ?_
          refine r_iload Mm dL_isStage_45 rfl ?_
          refine r_iconst (v := nI 0) Mm dL_isStage_47 (by decide) ?_
          refine r_callSW (As := [(.ref x), (.int (nI 7)), (.int (nI s)), (.int (nI p)), (.int (nI F)), (.int (nI 0))]) Mm dL_isStage_48 rfl (ctw_on (ct_on_y hfl md4 hw (nI s) (nI p) (nI F) (nI 0) (oCt.ret ((e_y hi hs (by omega) (by omega)).trans (if_pos cp)))) ((e_y hi hs (by omega) (by omega)).trans (if_pos cp)) rfl rfl) cw_L_59 ⟨Nat.le_of_ble_eq_true rfl, Nat.le_of_ble_eq_true rfl, Nat.le_of_ble_eq_true rfl⟩ (Nat.le_of_ble_eq_true rfl) ⟨by show _ ≤ 100; omega, by show _ ≤ 600; omega⟩ (fun r11 h8 p10 => ?_) (fun _ _ z => z)
          obtain ⟨rfl, md9⟩ := p10
          show V 51 _ [(.int ((plQ σ (tCast (eS σ s)) (nI F) p).1.2))] h8 _ _
          refine r_istore Mm dL_isStage_51 (by decide) ?_
          show V 53 [some (.ref x), some (.ref (ad 0)), some (.ref (ad 1)), some (.int (nI s)), some (.int (nI (eN σ))), some (.int (nI F)), some (.int (nI 1)), some (.int (nI p)), some (.int ((plQ σ (tCast (eS σ s)) (nI F) p).1.1)), some (.int ((plQ σ (tCast (eS σ s)) (nI F) p).1.2)), z10, z11, z12, z13] _ _ _ _
          refine r_aload_n Mm dL_isStage_53 rfl ?_
          refine r_bipush (v := nI 8) Mm dL_isStage_54 (by decide) ?_
          refine r_iload_n Mm dL_isStage_56 rfl ?_
          refine r_iload Mm dL_isStage_57 rfl ?_
          refine r_iload Mm dL_isStage_59 rfl ?_
          refine r_iload Mm dL_isStage_61 rfl ?_
          refine r_callSW (As := [(.ref x), (.int (nI 8)), (.int (nI s)), (.int (nI p)), (.int (nI F)), (.int (nI F))]) Mm dL_isStage_63 rfl (ctw_on (ct_on_bent hfl md9 hw (nI s) (nI p) (nI F) (nI F) (oCt.ret ((e_bent hi hs (by omega) (by omega)).trans (if_pos cp)))) ((e_bent hi hs (by omega) (by omega)).trans (if_pos cp)) rfl rfl) cw_L_59 ⟨Nat.le_of_ble_eq_true rfl, Nat.le_of_ble_eq_true rfl, Nat.le_of_ble_eq_true rfl⟩ (Nat.le_of_ble_eq_true rfl) ⟨by show _ ≤ 100; omega, by show _ ≤ 600; omega⟩ (fun r15 h12 p14 => ?_) (fun _ _ z => z)
          obtain ⟨rfl, md13⟩ := p14
          show V 66 _ [(.int (bI (plQ σ (tCast (eS σ s)) (nI F) p).2))] h12 _ _
          refine r_istore Mm dL_isStage_66 (by decide) ?_
          show V 68 [some (.ref x), some (.ref (ad 0)), some (.ref (ad 1)), some (.int (nI s)), some (.int (nI (eN σ))), some (.int (nI F)), some (.int (nI 1)), some (.int (nI p)), some (.int ((plQ σ (tCast (eS σ s)) (nI F) p).1.1)), some (.int ((plQ σ (tCast (eS σ s)) (nI F) p).1.2)), some (.int (bI (plQ σ (tCast (eS σ s)) (nI F) p).2)), z11, z12, z13] _ _ _ _
          refine r_iload Mm dL_isStage_68 rfl ?_
          refine r_if_lt (tgt := 157) Mm dL_isStage_70 (by decide) (fun c16 => absurd c16 hL.1) (fun c16 => ?_)
          refine r_iload Mm dL_isStage_73 rfl ?_
          refine r_sipush (v := nI 1000) Mm dL_isStage_75 (by decide) ?_
          refine r_icmp_ge (tgt := 157) Mm dL_isStage_78 (by decide) (fun c17 => absurd hL.2.1 (Int32.not_lt.mpr c17)) (fun c17 => ?_)
          refine r_iload Mm dL_isStage_81 rfl ?_
          refine r_aload_n Mm dL_isStage_83 rfl ?_
          refine r_iload Mm dL_isStage_84 rfl ?_
          refine r_ialdN (n := 5) Mm dL_isStage_86 (md13.sh (k := 0) (by decide)) (by omega) (by omega) ?_
          refine r_top _ (qBar (eP σ p)) ((md13.rd (k := 0) (by decide) _).trans (rfl)) ?_
          refine r_isub Mm dL_isStage_87 ?_
          refine r_iload Mm dL_isStage_88 rfl ?_
          refine r_aload_n Mm dL_isStage_90 rfl ?_
          refine r_iload Mm dL_isStage_91 rfl ?_
          refine r_ialdN (n := 5) Mm dL_isStage_93 (md13.sh (k := 0) (by decide)) (by omega) (by omega) ?_
          refine r_top _ (qBar (eP σ p)) ((md13.rd (k := 0) (by decide) _).trans (rfl)) ?_
          refine r_isub Mm dL_isStage_94 ?_
          refine r_imul Mm dL_isStage_95 ?_
          refine r_iload Mm dL_isStage_96 rfl ?_
          refine r_iload Mm dL_isStage_98 rfl ?_
          refine r_imul Mm dL_isStage_100 ?_
          refine r_iadd Mm dL_isStage_101 ?_
          refine r_aload_n Mm dL_isStage_102 rfl ?_
          refine r_iload Mm dL_isStage_103 rfl ?_
          refine r_ialdN (n := 5) Mm dL_isStage_105 (md13.sh (k := 1) (by decide)) (by omega) (by omega) ?_
          refine r_top _ (qLen (eP σ p)) ((md13.rd (k := 1) (by decide) _).trans (rfl)) ?_
          refine r_aload_n Mm dL_isStage_106 rfl ?_
          refine r_iload Mm dL_isStage_107 rfl ?_
          refine r_ialdN (n := 5) Mm dL_isStage_109 (md13.sh (k := 1) (by decide)) (by omega) (by omega) ?_
          refine r_top _ (qLen (eP σ p)) ((md13.rd (k := 1) (by decide) _).trans (rfl)) ?_
          refine r_imul Mm dL_isStage_110 ?_
          refine r_icmp_gt (tgt := 157) Mm dL_isStage_111 (by decide) (fun c18 => absurd hL.2.2.1 (Int32.not_le.mpr c18)) (fun c18 => ?_)
          have J : V 125 [some (.ref x), some (.ref (ad 0)), some (.ref (ad 1)), some (.int (nI s)), some (.int (nI (eN σ))), some (.int (nI F)), some (.int (nI 1)), some (.int (nI p)), some (.int ((plQ σ (tCast (eS σ s)) (nI F) p).1.1)), some (.int ((plQ σ (tCast (eS σ s)) (nI F) p).1.2)), some (.int (bI (plQ σ (tCast (eS σ s)) (nI F) p).2)), z11, z12, z13] [] h12 (kc1 + 1 + 1 + 1) (ks1 + 6 + 6 + 6) := by
            refine r_iload Mm dL_isStage_125 rfl ?_
            refine r_aload_n Mm dL_isStage_127 rfl ?_
            refine r_iload Mm dL_isStage_128 rfl ?_
            refine r_ialdN (n := 5) Mm dL_isStage_130 (md13.sh (k := 0) (by decide)) (by omega) (by omega) ?_
            refine r_top _ (qBar (eP σ p)) ((md13.rd (k := 0) (by decide) _).trans (rfl)) ?_
            refine r_aload_n Mm dL_isStage_131 rfl ?_
            refine r_iload Mm dL_isStage_132 rfl ?_
            refine r_ialdN (n := 5) Mm dL_isStage_134 (md13.sh (k := 1) (by decide)) (by omega) (by omega) ?_
            refine r_top _ (qLen (eP σ p)) ((md13.rd (k := 1) (by decide) _).trans (rfl)) ?_
            refine r_isub Mm dL_isStage_135 ?_
            refine r_icmp_lt (tgt := 157) Mm dL_isStage_136 (by decide) (fun c19 => absurd c19 hL.2.2.2.1) (fun c19 => ?_)
            refine r_iload Mm dL_isStage_139 rfl ?_
            refine r_aload_n Mm dL_isStage_141 rfl ?_
            refine r_iload Mm dL_isStage_142 rfl ?_
            refine r_ialdN (n := 5) Mm dL_isStage_144 (md13.sh (k := 0) (by decide)) (by omega) (by omega) ?_
            refine r_top _ (qBar (eP σ p)) ((md13.rd (k := 0) (by decide) _).trans (rfl)) ?_
            refine r_aload_n Mm dL_isStage_145 rfl ?_
            refine r_iload Mm dL_isStage_146 rfl ?_
            refine r_ialdN (n := 5) Mm dL_isStage_148 (md13.sh (k := 1) (by decide)) (by omega) (by omega) ?_
            refine r_top _ (qLen (eP σ p)) ((md13.rd (k := 1) (by decide) _).trans (rfl)) ?_
            refine r_iadd Mm dL_isStage_149 ?_
            refine r_icmp_gt (tgt := 157) Mm dL_isStage_150 (by decide) (fun c20 => absurd hL.2.2.2.2 (Int32.not_le.mpr c20)) (fun c20 => ?_)
            refine r_iconst (v := nI 1) Mm dL_isStage_153 (by decide) ?_
            refine r_goto (tgt := 158) Mm dL_isStage_154 (by decide) ?_
            refine r_istore Mm dL_isStage_158 (by decide) ?_
            show V 160 [some (.ref x), some (.ref (ad 0)), some (.ref (ad 1)), some (.int (nI s)), some (.int (nI (eN σ))), some (.int (nI F)), some (.int (nI 1)), some (.int (nI p)), some (.int ((plQ σ (tCast (eS σ s)) (nI F) p).1.1)), some (.int ((plQ σ (tCast (eS σ s)) (nI F) p).1.2)), some (.int (bI (plQ σ (tCast (eS σ s)) (nI F) p).2)), z11, z12, z13] _ _ _ _
            refine r_iconst (v := nI 0) Mm dL_isStage_160 (by decide) ?_
            refine r_top _ (bI (anyN (tCast (eS σ s)) 0)) (rfl) ?_
            refine r_istore Mm dL_isStage_161 (by decide) ?_
            show V 163 [some (.ref x), some (.ref (ad 0)), some (.ref (ad 1)), some (.int (nI s)), some (.int (nI (eN σ))), some (.int (nI F)), some (.int (nI 1)), some (.int (nI p)), some (.int ((plQ σ (tCast (eS σ s)) (nI F) p).1.1)), some (.int ((plQ σ (tCast (eS σ s)) (nI F) p).1.2)), some (.int (bI (plQ σ (tCast (eS σ s)) (nI F) p).2)), some (.int (bI (anyN (tCast (eS σ s)) 0))), z12, z13] _ _ _ _
            refine r_iconst (v := nI 0) Mm dL_isStage_163 (by decide) ?_
            refine r_istore Mm dL_isStage_164 (by decide) ?_
            show V 166 [some (.ref x), some (.ref (ad 0)), some (.ref (ad 1)), some (.int (nI s)), some (.int (nI (eN σ))), some (.int (nI F)), some (.int (nI 1)), some (.int (nI p)), some (.int ((plQ σ (tCast (eS σ s)) (nI F) p).1.1)), some (.int ((plQ σ (tCast (eS σ s)) (nI F) p).1.2)), some (.int (bI (plQ σ (tCast (eS σ s)) (nI F) p).2)), some (.int (bI (anyN (tCast (eS σ s)) 0))), some (.int (nI 0)), z13] _ _ _ _
            refine stg_in hfl Mm hi hs (by omega) hF (plQ σ (tCast (eS σ s)) (nI F) p).1.1 (plQ σ (tCast (eS σ s)) (nI F) p).1.2 (plQ σ (tCast (eS σ s)) (nI F) p).2 sp.2.1 (kc1 + 3) (ks1 + 18) (by omega) (by omega) (fun h9 kc9 ks9 z12 z13 md9 b1 b2 => ?_) (p + 1) 0 h12 (kc1 + 1 + 1 + 1) (ks1 + 6 + 6 + 6) _ (by omega) (by omega) md13 (by omega) (by omega)
            show V 297 [some (.ref x), some (.ref (ad 0)), some (.ref (ad 1)), some (.int (nI s)), some (.int (nI (eN σ))), some (.int (nI F)), some (.int (nI 1)), some (.int (nI p)), some (.int ((plQ σ (tCast (eS σ s)) (nI F) p).1.1)), some (.int ((plQ σ (tCast (eS σ s)) (nI F) p).1.2)), some (.int (bI (plQ σ (tCast (eS σ s)) (nI F) p).2)), some (.int (bI (anyN (tCast (eS σ s)) p))), z12, z13] [] h9 kc9 ks9
            refine r_iload Mm dL_isStage_297 rfl ?_
            refine r_if_eq (tgt := 316) Mm dL_isStage_299 (by decide) (fun c21 => absurd c21 (by decide)) (fun _ => ?_)
            refine r_iload Mm dL_isStage_302 rfl ?_
            refine r_if_eqB (tgt := 312) Mm dL_isStage_304 (by decide) (fun c22 => ?_) (fun c22 => ?_)
            · refine r_iconst (v := nI 1) Mm dL_isStage_312 (by decide) ?_
              refine r_goto (tgt := 317) Mm dL_isStage_313 (by decide) ?_
              refine r_istore Mm dL_isStage_317 (by decide) ?_
              show V 319 [some (.ref x), some (.ref (ad 0)), some (.ref (ad 1)), some (.int (nI s)), some (.int (nI (eN σ))), some (.int (nI F)), some (.int (nI 1)), some (.int (nI p)), some (.int ((plQ σ (tCast (eS σ s)) (nI F) p).1.1)), some (.int ((plQ σ (tCast (eS σ s)) (nI F) p).1.2)), some (.int (bI (plQ σ (tCast (eS σ s)) (nI F) p).2)), some (.int (bI (anyN (tCast (eS σ s)) p))), z12, z13] _ _ _ _
              refine r_iincN (k := 1) Mm dL_isStage_319 rfl (by decide) (by decide) ?_
              show V 322 [some (.ref x), some (.ref (ad 0)), some (.ref (ad 1)), some (.int (nI s)), some (.int (nI (eN σ))), some (.int (nI F)), some (.int (nI 1)), some (.int (nI (p + 1))), some (.int ((plQ σ (tCast (eS σ s)) (nI F) p).1.1)), some (.int ((plQ σ (tCast (eS σ s)) (nI F) p).1.2)), some (.int (bI (plQ σ (tCast (eS σ s)) (nI F) p).2)), some (.int (bI (anyN (tCast (eS σ s)) p))), z12, z13] _ _ _ _
              refine r_goto (tgt := 6) Mm dL_isStage_322 (by decide) ?_
              exact ih (p + 1) h9 (kc9) (ks9) _ _ _ _ _ _ (by omega) (by omega) md9 (by omega) (by omega)
            · refine r_iload Mm dL_isStage_307 rfl ?_
              refine r_if_eqB (tgt := 316) Mm dL_isStage_309 (by decide) (fun c23 => (sp.2.2 c22).elim (fun q hq => absurd (anyN_yes hq.1 hq.2) (by rw [c23]; exact Bool.noConfusion))) (fun c23 => ?_)
              refine r_iconst (v := nI 1) Mm dL_isStage_312 (by decide) ?_
              refine r_goto (tgt := 317) Mm dL_isStage_313 (by decide) ?_
              refine r_istore Mm dL_isStage_317 (by decide) ?_
              show V 319 [some (.ref x), some (.ref (ad 0)), some (.ref (ad 1)), some (.int (nI s)), some (.int (nI (eN σ))), some (.int (nI F)), some (.int (nI 1)), some (.int (nI p)), some (.int ((plQ σ (tCast (eS σ s)) (nI F) p).1.1)), some (.int ((plQ σ (tCast (eS σ s)) (nI F) p).1.2)), some (.int (bI (plQ σ (tCast (eS σ s)) (nI F) p).2)), some (.int (bI (anyN (tCast (eS σ s)) p))), z12, z13] _ _ _ _
              refine r_iincN (k := 1) Mm dL_isStage_319 rfl (by decide) (by decide) ?_
              show V 322 [some (.ref x), some (.ref (ad 0)), some (.ref (ad 1)), some (.int (nI s)), some (.int (nI (eN σ))), some (.int (nI F)), some (.int (nI 1)), some (.int (nI (p + 1))), some (.int ((plQ σ (tCast (eS σ s)) (nI F) p).1.1)), some (.int ((plQ σ (tCast (eS σ s)) (nI F) p).1.2)), some (.int (bI (plQ σ (tCast (eS σ s)) (nI F) p).2)), some (.int (bI (anyN (tCast (eS σ s)) p))), z12, z13] _ _ _ _
              refine r_goto (tgt := 6) Mm dL_isStage_322 (by decide) ?_
              exact ih (p + 1) h9 (kc9) (ks9) _ _ _ _ _ _ (by omega) (by omega) md9 (by omega) (by omega)
          refine r_iload Mm dL_isStage_114 rfl ?_
          refine r_if_eqB (tgt := 125) Mm dL_isStage_116 (by decide) (fun c24 => ?_) (fun c24 => ?_)
          · exact J
          · refine r_iload Mm dL_isStage_119 rfl ?_
            refine r_iconst (v := nI 1) Mm dL_isStage_121 (by decide) ?_
            refine r_icmp_ne (tgt := 157) Mm dL_isStage_122 (by decide) (fun c25 => absurd (by rw [c24]; rfl) c25) (fun c25 => ?_)
            exact J
        · refine r_aload_n Mm dL_isStage_18 rfl ?_
          refine r_bipush (v := nI 6) Mm dL_isStage_19 (by decide) ?_
          refine r_iload_n Mm dL_isStage_21 rfl ?_
          refine r_iload Mm dL_isStage_22 rfl ?_
          refine r_iload Mm dL_isStage_24 rfl ?_
          refine r_iconst (v := nI 0) Mm dL_isStage_26 (by decide) ?_
          refine r_callSW (As := [(.ref x), (.int (nI 6)), (.int (nI s)), (.int (nI p)), (.int (nI F)), (.int (nI 0))]) Mm dL_isStage_27 rfl (ctw_on (ct_on_x hfl md1 hw (nI s) (nI p) (nI F) (nI 0) (oCt.thr ((e_x hi hs (by omega) (by omega)).trans (if_neg (by rw [cp]; exact Bool.noConfusion))) (Or.inl rfl))) ((e_x hi hs (by omega) (by omega)).trans (if_neg (by rw [cp]; exact Bool.noConfusion))) onV_ioo rfl) cw_L_59 ⟨Nat.le_of_ble_eq_true rfl, Nat.le_of_ble_eq_true rfl, Nat.le_of_ble_eq_true rfl⟩ (Nat.le_of_ble_eq_true rfl) ⟨by show _ ≤ 100; omega, by show _ ≤ 600; omega⟩ (fun r29 h26 p28 => ?_) (fun _ _ z => z)
          obtain ⟨rfl, md27⟩ := p28
          show V 30 _ [(.int (-2000011))] h26 _ _
          refine r_istore Mm dL_isStage_30 (by decide) ?_
          show V 32 [some (.ref x), some (.ref (ad 0)), some (.ref (ad 1)), some (.int (nI s)), some (.int (nI (eN σ))), some (.int (nI F)), some (.int (nI 1)), some (.int (nI p)), some (.int (-2000011)), z9, z10, z11, z12, z13] _ _ _ _
          refine r_iload Mm dL_isStage_32 rfl ?_
          refine r_ldc (v := -2000000) Mm dL_isStage_34 cc_L_62 ?_
          refine r_icmp_le (tgt := 319) Mm dL_isStage_36 (by decide) (fun _ => ?_) (fun c30 => absurd (by decide) c30)
          refine r_iincN (k := 1) Mm dL_isStage_319 rfl (by decide) (by decide) ?_
          show V 322 [some (.ref x), some (.ref (ad 0)), some (.ref (ad 1)), some (.int (nI s)), some (.int (nI (eN σ))), some (.int (nI F)), some (.int (nI 1)), some (.int (nI (p + 1))), some (.int (-2000011)), z9, z10, z11, z12, z13] _ _ _ _
          refine r_goto (tgt := 6) Mm dL_isStage_322 (by decide) ?_
          exact ih (p + 1) h26 (kc1 + 1) (ks1 + 6) _ _ _ _ _ _ (by omega) (by omega) md27 (by omega) (by omega)
  show V 0 [some (.ref x), some (.ref (ad 0)), some (.ref (ad 1)), some (.int (nI s)), some (.int (nI (eN σ))), some (.int (nI F)), none, none, none, none, none, none, none, none] [] h 0 0
  refine r_iconst (v := nI 1) Mm dL_isStage_0 (by decide) ?_
  refine r_istore Mm dL_isStage_1 (by decide) ?_
  show V 3 [some (.ref x), some (.ref (ad 0)), some (.ref (ad 1)), some (.int (nI s)), some (.int (nI (eN σ))), some (.int (nI F)), some (.int (nI 1)), none, none, none, none, none, none, none] _ _ _ _
  refine r_iconst (v := nI 0) Mm dL_isStage_3 (by decide) ?_
  refine r_istore Mm dL_isStage_4 (by decide) ?_
  show V 6 [some (.ref x), some (.ref (ad 0)), some (.ref (ad 1)), some (.int (nI s)), some (.int (nI (eN σ))), some (.int (nI F)), some (.int (nI 1)), some (.int (nI 0)), none, none, none, none, none, none] _ _ _ _
  exact LP (eN σ + 1) 0 h 0 0 none none none none none none (by omega) (by omega) md (by omega) (by omega)
