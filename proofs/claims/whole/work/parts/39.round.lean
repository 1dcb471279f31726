/-! ===== the law: its loop, its whole walk ===== -/
set_option maxRecDepth 100000 in
set_option maxHeartbeats 4000000 in
theorem lw_round {g : Gl} {l : Launch} (hfl : l.stackTraces = false) {hh : List (Nat × Nat × Nat × Nat)} {mn : String} {V : VT} {X : XT} (M : Mach g l room_1 RL cL_law 7 hh mn V X) (kend : ∀ (pc : Nat) (lv : List (Option Value)) (h : Hp) (kc ks : Nat), decode cL_law pc = .ok (.ireturn, 1) → kc ≤ 601024 → ks ≤ 7293034 → V pc lv [.int (nI 1)] h kc ks) (hL : gN g 5 ≤ 3072) (x m o : Nat) : ∀ (u : Nat) (h : Hp) (t : Nat) (z5 z6 : Option Value) (kc ks : Nat), 513 - t < u → t ≤ 512 → LwI g h x m o → kc ≤ 100 + 6 * t → ks ≤ 3000 + 1540 * t → V 23 (LwL g x m o t z5 z6) [] h kc ks := by
  intro u
  induction u with
  | zero => intro h t z5 z6 kc ks hm; omega
  | succ u ih =>
    intro h t z5 z6 kc ks hm ht li hkc hks
    show V 23 [some (.ref (gN g 4)), some (.ref x), some (.ref m), some (.ref o), some (.int (nI (6 * t))), z5, z6] [] h kc ks
    refine r_iload M dL_law_23 rfl ?_
    refine r_aload_n M dL_law_25 rfl ?_
    refine r_alenX M dL_law_26 ?_
    refine r_bipush (v := nI 6) M dL_law_27 (by decide) ?_
    refine r_isub M dL_law_29 ?_
    refine r_icmp_gt (tgt := 1586) M dL_law_30 (by decide) (fun _ => ?_) (fun c => ?_)
    · refine r_iconst (v := nI 1) M dL_law_1586 (by decide) ?_
      exact kend _ _ _ _ _ dL_law_1587 (by omega) (by omega)
    · have hin := script_in hL ht c
      refine r_aload_n M dL_law_33 rfl ?_
      refine r_iload M dL_law_34 rfl ?_
      refine r_ialdX M dL_law_36 (vp_inN (by omega) (by omega)) ?_
      refine r_bipush (v := nI 31) M dL_law_37 (by decide) ?_
      refine r_iand M dL_law_39 ?_
      obtain ⟨c0, hc0, ec⟩ := and31 (gX g (nI (6 * t)).toNatClampNeg)
      rw [ec]
      have K : LwK g V x m o t kc ks := fun h' y5 y6 kc' ks' li' h1 h2 => by
        show V 1580 [some (.ref (gN g 4)), some (.ref x), some (.ref m), some (.ref o), some (.int (nI (6 * t))), y5, y6] [] h' kc' ks'
        refine r_iincN (k := 6) M dL_law_1580 rfl (by decide) (by decide) ?_
        refine r_goto (tgt := 23) M dL_law_1583 (by decide) ?_
        exact ih h' (t + 1) y5 y6 kc' ks' (by omega) (by omega) li' (by omega) (by omega)
      by_cases hc : c0 < 21
      · rcases (show c0 = 0 ∨ c0 = 1 ∨ c0 = 2 ∨ c0 = 3 ∨ c0 = 4 ∨ c0 = 5 ∨ c0 = 6 ∨ c0 = 7 ∨ c0 = 8 ∨ c0 = 9 ∨ c0 = 10 ∨ c0 = 11 ∨ c0 = 12 ∨ c0 = 13 ∨ c0 = 14 ∨ c0 = 15 ∨ c0 = 16 ∨ c0 = 17 ∨ c0 = 18 ∨ c0 = 19 ∨ c0 = 20 by omega) with rfl | rfl | rfl | rfl | rfl | rfl | rfl | rfl | rfl | rfl | rfl | rfl | rfl | rfl | rfl | rfl | rfl | rfl | rfl | rfl | rfl
        · refine r_tableIn (off := 100) (tgt := 140) M dL_law_40 (by decide) (by decide) rfl (by decide) ?_
          exact lc_puppet hfl M x m o t hin hL h li kc ks (by omega) (by omega) z5 z6 K
        · refine r_tableIn (off := 168) (tgt := 208) M dL_law_40 (by decide) (by decide) rfl (by decide) ?_
          exact lc_setLength hfl M x m o t hin hL h li kc ks (by omega) (by omega) z5 z6 K
        · refine r_tableIn (off := 236) (tgt := 276) M dL_law_40 (by decide) (by decide) rfl (by decide) ?_
          exact lc_key hfl M x m o t hin hL h li kc ks (by omega) (by omega) z5 z6 K
        · refine r_tableIn (off := 340) (tgt := 380) M dL_law_40 (by decide) (by decide) rfl (by decide) ?_
          exact lc_cutKey hfl M x m o t hin hL h li kc ks (by omega) (by omega) z5 z6 K
        · refine r_tableIn (off := 408) (tgt := 448) M dL_law_40 (by decide) (by decide) rfl (by decide) ?_
          exact lc_hear hfl M x m o t hin hL h li kc ks (by omega) (by omega) z5 z6 K
        · refine r_tableIn (off := 476) (tgt := 516) M dL_law_40 (by decide) (by decide) rfl (by decide) ?_
          exact lc_cue hfl M x m o t hin hL h li kc ks (by omega) (by omega) z5 z6 K
        · refine r_tableIn (off := 544) (tgt := 584) M dL_law_40 (by decide) (by decide) rfl (by decide) ?_
          exact lc_show hfl M x m o t hin hL h li kc ks (by omega) (by omega) z5 z6 K
        · refine r_tableIn (off := 612) (tgt := 652) M dL_law_40 (by decide) (by decide) rfl (by decide) ?_
          exact lc_cast hfl M x m o t hin hL h li kc ks (by omega) (by omega) z5 z6 K
        · refine r_tableIn (off := 680) (tgt := 720) M dL_law_40 (by decide) (by decide) rfl (by decide) ?_
          exact lc_leave hfl M x m o t hin hL h li kc ks (by omega) (by omega) z5 z6 K
        · refine r_tableIn (off := 748) (tgt := 788) M dL_law_40 (by decide) (by decide) rfl (by decide) ?_
          exact lc_sell hfl M x m o t hin hL h li kc ks (by omega) (by omega) z5 z6 K
        · refine r_tableIn (off := 828) (tgt := 868) M dL_law_40 (by decide) (by decide) rfl (by decide) ?_
          exact lc_perform hfl M x m o t hin hL h li kc ks (by omega) (by omega) z5 z6 K
        · refine r_tableIn (off := 884) (tgt := 924) M dL_law_40 (by decide) (by decide) rfl (by decide) ?_
          exact lc_mend hfl M x m o t hin hL h li kc ks (by omega) (by omega) z5 z6 K
        · refine r_tableIn (off := 952) (tgt := 992) M dL_law_40 (by decide) (by decide) rfl (by decide) ?_
          exact lc_track hfl M x m o t hin hL h li kc ks (by omega) (by omega) z5 z6 K
        · refine r_tableIn (off := 1020) (tgt := 1060) M dL_law_40 (by decide) (by decide) rfl (by decide) ?_
          exact lc_trackByFrames hfl M x m o t hin hL h li kc ks (by omega) (by omega) z5 z6 K
        · refine r_tableIn (off := 1088) (tgt := 1128) M dL_law_40 (by decide) (by decide) rfl (by decide) ?_
          exact lc_x hfl M x m o t hin hL h li kc ks (by omega) (by omega) z5 z6 K
        · refine r_tableIn (off := 1168) (tgt := 1208) M dL_law_40 (by decide) (by decide) rfl (by decide) ?_
          exact lc_y hfl M x m o t hin hL h li kc ks (by omega) (by omega) z5 z6 K
        · refine r_tableIn (off := 1248) (tgt := 1288) M dL_law_40 (by decide) (by decide) rfl (by decide) ?_
          exact lc_bent hfl M x m o t hin hL h li kc ks (by omega) (by omega) z5 z6 K
        · refine r_tableIn (off := 1340) (tgt := 1380) M dL_law_40 (by decide) (by decide) rfl (by decide) ?_
          exact lc_least hfl M x m o t hin hL h li kc ks (by omega) (by omega) z5 z6 K
        · refine r_tableIn (off := 1396) (tgt := 1436) M dL_law_40 (by decide) (by decide) rfl (by decide) ?_
          exact lc_isBusy hfl M x m o t hin hL h li kc ks (by omega) (by omega) z5 z6 K
        · refine r_tableIn (off := 1471) (tgt := 1511) M dL_law_40 (by decide) (by decide) rfl (by decide) ?_
          exact lc_worn hfl M x m o t hin hL h li kc ks (by omega) (by omega) z5 z6 K
        · refine r_tableIn (off := 1527) (tgt := 1567) M dL_law_40 (by decide) (by decide) rfl (by decide) ?_
          exact lc_income hfl M x m o t h li kc ks (by omega) (by omega) z5 z6 K
      · refine r_tableOut (tgt := 1580) M dL_law_40 (Or.inr (by rw [nI_toInt (by omega)]; omega)) (by decide) ?_
        exact K h _ _ _ _ li (by omega) (by omega)
theorem fr_ext {ow : Nat → Nat} {h h' : Hp} (f : Fr (fun _ => False) h h') : Ext ow h h' := fun b z hz => ⟨(f b z hz).1, fun _ => by
  obtain ⟨f1, f2, f3, f4, f5⟩ := (f b z hz).2 id
  exact ⟨fun i _ => f1 i, f2, f3, f4, f5⟩⟩
theorem fr_none {Wr : Nat → Prop} {h h' : Hp} {b : Nat} (f : Fr Wr h h') (hb : xS h' b = none) : xS h b = none := by
  cases hz : xS h b with
  | none => rfl
  | some z => have := f.S hz; rw [hb] at this; cases this
set_option maxRecDepth 100000 in
set_option maxHeartbeats 4000000 in
theorem lw_round_all {g : Gl} {l : Launch} (hfl : l.stackTraces = false) {hh : List (Nat × Nat × Nat × Nat)} {mn : String} {V : VT} {X : XT} (M : Mach g l room_1 RL cL_law 7 hh mn V X) (kend : ∀ (pc : Nat) (lv : List (Option Value)) (h : Hp) (kc ks : Nat), decode cL_law pc = .ok (.ireturn, 1) → kc ≤ 601024 → ks ≤ 7293034 → V pc lv [.int (nI 1)] h kc ks) (hL : gN g 5 ≤ 3072) (h0 : Hp) (hn : ∀ b, xS h0 b = none) : V 0 [some (.ref (gN g 4)), none, none, none, none, none, none] [] h0 0 0 := by
  refine r_new M dL_law_0 ki_5 rfl cl_L_8 nwL_5 niL_5 ⟨by show _ ≤ 601024; omega, by show _ ≤ 7293034; omega⟩ (fun x hx => ?_)
  refine r_dup M dL_law_3 rfl ?_
  refine r_callI (As := []) M dL_law_4 rfl (ct_loomInit hfl (yN h0 x 5 0) x yN_q) cw_L_83 ⟨Nat.le_of_ble_eq_true rfl, Nat.le_of_ble_eq_true rfl, Nat.le_of_ble_eq_true rfl⟩ (Nat.le_of_ble_eq_true rfl) ⟨by show _ ≤ 601024; omega, by show _ ≤ 7293034; omega⟩ (fun r1 h1 p1 => ?_) (fun _ _ z => z)
  obtain ⟨e1, ow, pL, sL, ha, rc, tg1, tg2, fr1⟩ := p1
  rw [e1]
  show V 7 [some (.ref (gN g 4)), none, none, none, none, none, none] [.ref x] h1 _ _
  refine r_astore_n M dL_law_7 (by decide) ?_
  show V 8 [some (.ref (gN g 4)), some (.ref x), none, none, none, none, none] [] h1 _ _
  refine r_new M dL_law_8 ki_6 rfl cl_L_84 nwL_6 niL_6 ⟨by show _ ≤ 601024; omega, by show _ ≤ 7293034; omega⟩ (fun m hm => ?_)
  refine r_dup M dL_law_11 rfl ?_
  refine r_callI (As := []) M dL_law_12 rfl (cm_modelInit hfl (yN h1 m 6 0) m yN_q (fun i => by show (if m = m then 0 else xF h1 i m) = 0; rw [if_pos rfl])) cw_L_86 ⟨Nat.le_of_ble_eq_true rfl, Nat.le_of_ble_eq_true rfl, Nat.le_of_ble_eq_true rfl⟩ (Nat.le_of_ble_eq_true rfl) ⟨by show _ ≤ 601024; omega, by show _ ≤ 7293034; omega⟩ (fun r2 h2 p2 => ?_) (fun _ _ z => z)
  obtain ⟨e2, ad, rm, fr2, had⟩ := p2
  rw [e2]
  show V 15 [some (.ref (gN g 4)), some (.ref x), none, none, none, none, none] [.ref m] h2 _ _
  refine r_astore_n M dL_law_15 (by decide) ?_
  show V 16 [some (.ref (gN g 4)), some (.ref x), some (.ref m), none, none, none, none] [] h2 _ _
  refine r_iconst (v := nI 1) M dL_law_16 (by decide) ?_
  refine r_newJ (N := 1) M dL_law_17 ac_long (nI_pos (by omega)) (nI_clamp (by omega)) (by decide) ⟨by show _ ≤ 601024; omega, by show _ ≤ 7293034; omega⟩ (fun o ho => ?_)
  refine r_astore_n M dL_law_19 (by decide) ?_
  show V 20 [some (.ref (gN g 4)), some (.ref x), some (.ref m), some (.ref o), none, none, none] [] (yN h2 o 11 1) _ _
  refine r_iconst (v := nI 0) M dL_law_20 (by decide) ?_
  refine r_istore M dL_law_21 (by decide) ?_
  refine r_ownE M (fun fE => ?_)
  have fA : Fr (fun b => b = m) h1 (yN h2 o 11 1) := ((Fr.yN hm).tr fr2).tr (Fr.yN ho)
  have f12 : Fr (fun b => b = m) h1 h2 := (Fr.yN hm).tr fr2
  have tm : ow m = 0 := tg2 m hm
  have to_ : ow o = 0 := tg2 o (fr_none f12 ho)
  have ta : ∀ s k n, (s, k, n) ∈ mSl → ow (ad s) = 0 := fun s k n hs => tg2 _ (fr_none (Fr.yN (Wr := fun _ => False) hm) (had s k n hs))
  have kk : Kp (fun t => t ≠ 0) ow ow h1 (yN h2 o 11 1) := Kp.of fA (fun _ _ _ => rfl) (fun b z hz ht e => ht (by rw [e]; exact tm))
  have li : LwI g (yN h2 o 11 1) x m o := ⟨ad, st0, ⟨ow, pL, sL, ha, [], [], rc.kp0 kk fE, rm.ext (ow := fun _ => 0) (fr_ext (Fr.yN ho)) rfl (fun _ _ _ _ => rfl), yN_q, to_, tm, ta⟩, st0_wx⟩
  exact lw_round hfl M kend hL x m o 514 _ 0 none none _ _ (by omega) (by omega) li (by omega) (by omega)
