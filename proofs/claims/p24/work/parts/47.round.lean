/-! ===== the turns of the law ===== -/
theorem nz_pos {n D : Nat} (h : n = 0 → D = 0) (hd : ¬ D = 0 ∨ 5 ≤ n) : 0 < n := by
  rcases Nat.eq_zero_or_pos n with z | z
  · have := h z
    omega
  · exact z
theorem lt_p1 {n P : Nat} (h1 : 0 < n → P < n) (h0 : n = 0 → P = 0) : P < n + 1 := by
  rcases Nat.eq_zero_or_pos n with z | z
  · have := h0 z
    omega
  · have := h1 z
    omega
set_option maxRecDepth 100000 in
set_option maxHeartbeats 4000000 in
theorem lw_disp {g : Gl} {l : Launch} (hfl : l.stackTraces = false) {hh : List (Nat × Nat × Nat × Nat)} {mn : String} {V : VT} {X : XT} (M : Mach g l room_1 RL cL_law 25 hh mn V X) {x : Nat} {ad : Nat → Nat} {σ : ST} (hi : Inv σ) {T k Y P t D : Nat} (hT : T ≤ 280) (hk : k < T) (hY : Y < 268435456) (hD : D < 16) (hD0 : eN σ = 0 → D = 0) (hP1 : 0 < eN σ → P < eN σ) (hP0 : eN σ = 0 → P = 0) (ht : 0 < eM σ → t < eM σ) (h : Hp) (md : Mid g h x ad (AR σ) σ) (kc ks : Nat) (hkc : kc ≤ 700000) (hks : ks ≤ 6800000) (z16 z21 z22 z23 z24 : Option Value) (K : LwK g V x ad T k Y P kc ks) : V 221 [some (.ref (gN g 4)), some (.ref x), some (.ref (ad 0)), some (.ref (ad 1)), some (.ref (ad 2)), some (.ref (ad 3)), some (.ref (ad 4)), some (.ref (ad 5)), some (.ref (ad 6)), some (.ref (ad 7)), some (.int (nI (eN σ))), some (.int (nI (eM σ))), some (.int (ePaid σ)), some (.int (nI 1)), some (.int (nI T)), some (.int (nI k)), z16, some (.int (nI Y)), some (.int (nI D)), some (.int (nI P)), some (.int (nI t)), z21, z22, z23, z24] [] h kc ks := by
  have n5 := hi.n5
  have m4 := hi.m4
  have J1486 : P < eN σ → V 1486 [some (.ref (gN g 4)), some (.ref x), some (.ref (ad 0)), some (.ref (ad 1)), some (.ref (ad 2)), some (.ref (ad 3)), some (.ref (ad 4)), some (.ref (ad 5)), some (.ref (ad 6)), some (.ref (ad 7)), some (.int (nI (eN σ))), some (.int (nI (eM σ))), some (.int (ePaid σ)), some (.int (nI 1)), some (.int (nI T)), some (.int (nI k)), z16, some (.int (nI Y)), some (.int (nI D)), some (.int (nI P)), some (.int (nI t)), z21, z22, z23, z24] [] h kc ks := by
    intro hP
    exact lc_mend (t := 0) hfl M hi hT hk hY hP h md kc ks hkc hks _ _ _ _ _ _ _ K
  have J1295 : P < eN σ → V 1295 [some (.ref (gN g 4)), some (.ref x), some (.ref (ad 0)), some (.ref (ad 1)), some (.ref (ad 2)), some (.ref (ad 3)), some (.ref (ad 4)), some (.ref (ad 5)), some (.ref (ad 6)), some (.ref (ad 7)), some (.int (nI (eN σ))), some (.int (nI (eM σ))), some (.int (ePaid σ)), some (.int (nI 1)), some (.int (nI T)), some (.int (nI k)), z16, some (.int (nI Y)), some (.int (nI D)), some (.int (nI P)), some (.int (nI t)), z21, z22, z23, z24] [] h kc ks := by
    intro hP
    refine r_iload M dL_law_1295 rfl ?_
    refine r_bipush (v := nI 14) M dL_law_1297 (by decide) ?_
    refine r_icmp_neN (tgt := 1486) M dL_law_1299 (by decide) (by omega) (by omega) (fun c1 => ?_) (fun c1 => ?_)
    · exact J1486 hP
    · refine r_iload M dL_law_1302 rfl ?_
      refine r_bipush (v := nI 6) M dL_law_1304 (by decide) ?_
      refine r_ishrN (k := 6) (q := 64) M dL_law_1306 (by omega) (by decide +kernel) rfl ?_
      refine r_iconst (v := nI 3) M dL_law_1307 (by decide) ?_
      refine r_iandN (k := 2) (q := 4) M dL_law_1308 (by omega) (by decide +kernel) rfl ?_
      refine r_if_neN (tgt := 1486) M dL_law_1309 (by decide) (by omega) (fun c2 => ?_) (fun c2 => ?_)
      · exact J1486 hP
      · refine r_iload M dL_law_1312 rfl ?_
        refine r_if_leN (tgt := 1486) M dL_law_1314 (by decide) (by omega) (fun c3 => ?_) (fun c3 => ?_)
        · exact J1486 hP
        · exact lc_perf hfl M hi hT hk hY (ht (by omega)) hP h md kc ks hkc hks _ _ _ _ _ _ K
  have J1156 : P < eN σ → V 1156 [some (.ref (gN g 4)), some (.ref x), some (.ref (ad 0)), some (.ref (ad 1)), some (.ref (ad 2)), some (.ref (ad 3)), some (.ref (ad 4)), some (.ref (ad 5)), some (.ref (ad 6)), some (.ref (ad 7)), some (.int (nI (eN σ))), some (.int (nI (eM σ))), some (.int (ePaid σ)), some (.int (nI 1)), some (.int (nI T)), some (.int (nI k)), z16, some (.int (nI Y)), some (.int (nI D)), some (.int (nI P)), some (.int (nI t)), z21, z22, z23, z24] [] h kc ks := by
    intro hP
    refine r_iload M dL_law_1156 rfl ?_
    refine r_bipush (v := nI 13) M dL_law_1158 (by decide) ?_
    refine r_icmp_neN (tgt := 1295) M dL_law_1160 (by decide) (by omega) (by omega) (fun c1 => ?_) (fun c1 => ?_)
    · exact J1295 hP
    · refine r_iload M dL_law_1163 rfl ?_
      refine r_if_leN (tgt := 1295) M dL_law_1165 (by decide) (by omega) (fun c2 => ?_) (fun c2 => ?_)
      · exact J1295 hP
      · exact lc_sell hfl M hi hT hk hY (ht (by omega)) hP h md kc ks hkc hks _ _ _ _ _ _ K
  have J1041 : P < eN σ → V 1041 [some (.ref (gN g 4)), some (.ref x), some (.ref (ad 0)), some (.ref (ad 1)), some (.ref (ad 2)), some (.ref (ad 3)), some (.ref (ad 4)), some (.ref (ad 5)), some (.ref (ad 6)), some (.ref (ad 7)), some (.int (nI (eN σ))), some (.int (nI (eM σ))), some (.int (ePaid σ)), some (.int (nI 1)), some (.int (nI T)), some (.int (nI k)), z16, some (.int (nI Y)), some (.int (nI D)), some (.int (nI P)), some (.int (nI t)), z21, z22, z23, z24] [] h kc ks := by
    intro hP
    refine r_iload M dL_law_1041 rfl ?_
    refine r_bipush (v := nI 12) M dL_law_1043 (by decide) ?_
    refine r_icmp_neN (tgt := 1156) M dL_law_1045 (by decide) (by omega) (by omega) (fun c1 => ?_) (fun c1 => ?_)
    · exact J1156 hP
    · refine r_iload M dL_law_1048 rfl ?_
      refine r_bipush (v := nI 6) M dL_law_1050 (by decide) ?_
      refine r_ishrN (k := 6) (q := 64) M dL_law_1052 (by omega) (by decide +kernel) rfl ?_
      refine r_iconst (v := nI 3) M dL_law_1053 (by decide) ?_
      refine r_iandN (k := 2) (q := 4) M dL_law_1054 (by omega) (by decide +kernel) rfl ?_
      refine r_if_neN (tgt := 1156) M dL_law_1055 (by decide) (by omega) (fun c2 => ?_) (fun c2 => ?_)
      · exact J1156 hP
      · refine r_iload M dL_law_1058 rfl ?_
        refine r_if_leN (tgt := 1156) M dL_law_1060 (by decide) (by omega) (fun c3 => ?_) (fun c3 => ?_)
        · exact J1156 hP
        · exact lc_leave hfl M hi hT hk hY (ht (by omega)) hP h md kc ks hkc hks _ _ _ _ _ _ K
  have J872 : P < eN σ → V 872 [some (.ref (gN g 4)), some (.ref x), some (.ref (ad 0)), some (.ref (ad 1)), some (.ref (ad 2)), some (.ref (ad 3)), some (.ref (ad 4)), some (.ref (ad 5)), some (.ref (ad 6)), some (.ref (ad 7)), some (.int (nI (eN σ))), some (.int (nI (eM σ))), some (.int (ePaid σ)), some (.int (nI 1)), some (.int (nI T)), some (.int (nI k)), z16, some (.int (nI Y)), some (.int (nI D)), some (.int (nI P)), some (.int (nI t)), z21, z22, z23, z24] [] h kc ks := by
    intro hP
    refine r_iload M dL_law_872 rfl ?_
    refine r_bipush (v := nI 12) M dL_law_874 (by decide) ?_
    refine r_icmp_geN (tgt := 1041) M dL_law_876 (by decide) (by omega) (by omega) (fun c1 => ?_) (fun c1 => ?_)
    · exact J1041 hP
    · refine r_iload M dL_law_879 rfl ?_
      refine r_if_leN (tgt := 1041) M dL_law_881 (by decide) (by omega) (fun c2 => ?_) (fun c2 => ?_)
      · exact J1041 hP
      · exact lc_cast hfl M hi hT hk hY (ht (by omega)) hP h md kc ks hkc hks _ _ _ _ _ _ K
  have J792 : P < eN σ → V 792 [some (.ref (gN g 4)), some (.ref x), some (.ref (ad 0)), some (.ref (ad 1)), some (.ref (ad 2)), some (.ref (ad 3)), some (.ref (ad 4)), some (.ref (ad 5)), some (.ref (ad 6)), some (.ref (ad 7)), some (.int (nI (eN σ))), some (.int (nI (eM σ))), some (.int (ePaid σ)), some (.int (nI 1)), some (.int (nI T)), some (.int (nI k)), z16, some (.int (nI Y)), some (.int (nI D)), some (.int (nI P)), some (.int (nI t)), z21, z22, z23, z24] [] h kc ks := by
    intro hP
    refine r_iload M dL_law_792 rfl ?_
    refine r_bipush (v := nI 9) M dL_law_794 (by decide) ?_
    refine r_icmp_neN (tgt := 872) M dL_law_796 (by decide) (by omega) (by omega) (fun c1 => ?_) (fun c1 => ?_)
    · exact J872 hP
    · refine r_iload M dL_law_799 rfl ?_
      refine r_iconst (v := nI 4) M dL_law_801 (by decide) ?_
      refine r_icmp_geN (tgt := 872) M dL_law_802 (by decide) (by omega) (by omega) (fun c2 => ?_) (fun c2 => ?_)
      · exact J872 hP
      · exact lc_show (t := 0) hfl M hi hT hk hY (by omega) hP h md kc ks hkc hks _ _ _ _ _ _ _ K
  have J728 : P < eN σ → V 728 [some (.ref (gN g 4)), some (.ref x), some (.ref (ad 0)), some (.ref (ad 1)), some (.ref (ad 2)), some (.ref (ad 3)), some (.ref (ad 4)), some (.ref (ad 5)), some (.ref (ad 6)), some (.ref (ad 7)), some (.int (nI (eN σ))), some (.int (nI (eM σ))), some (.int (ePaid σ)), some (.int (nI 1)), some (.int (nI T)), some (.int (nI k)), z16, some (.int (nI Y)), some (.int (nI D)), some (.int (nI P)), some (.int (nI t)), z21, z22, z23, z24] [] h kc ks := by
    intro hP
    refine r_iload M dL_law_728 rfl ?_
    refine r_bipush (v := nI 8) M dL_law_730 (by decide) ?_
    refine r_icmp_neN (tgt := 792) M dL_law_732 (by decide) (by omega) (by omega) (fun c1 => ?_) (fun c1 => ?_)
    · exact J792 hP
    · exact lc_cue (t := 0) hfl M hi hT hk hY hP h md kc ks hkc hks _ _ _ _ _ _ _ K
  have J652 : P < eN σ → V 652 [some (.ref (gN g 4)), some (.ref x), some (.ref (ad 0)), some (.ref (ad 1)), some (.ref (ad 2)), some (.ref (ad 3)), some (.ref (ad 4)), some (.ref (ad 5)), some (.ref (ad 6)), some (.ref (ad 7)), some (.int (nI (eN σ))), some (.int (nI (eM σ))), some (.int (ePaid σ)), some (.int (nI 1)), some (.int (nI T)), some (.int (nI k)), z16, some (.int (nI Y)), some (.int (nI D)), some (.int (nI P)), some (.int (nI t)), z21, z22, z23, z24] [] h kc ks := by
    intro hP
    refine r_iload M dL_law_652 rfl ?_
    refine r_bipush (v := nI 7) M dL_law_654 (by decide) ?_
    refine r_icmp_neN (tgt := 728) M dL_law_656 (by decide) (by omega) (by omega) (fun c1 => ?_) (fun c1 => ?_)
    · exact J728 hP
    · exact lc_hear (t := 0) hfl M hi hT hk hY hP h md kc ks hkc hks _ _ _ _ _ _ _ K
  have J555 : P < eN σ → V 555 [some (.ref (gN g 4)), some (.ref x), some (.ref (ad 0)), some (.ref (ad 1)), some (.ref (ad 2)), some (.ref (ad 3)), some (.ref (ad 4)), some (.ref (ad 5)), some (.ref (ad 6)), some (.ref (ad 7)), some (.int (nI (eN σ))), some (.int (nI (eM σ))), some (.int (ePaid σ)), some (.int (nI 1)), some (.int (nI T)), some (.int (nI k)), z16, some (.int (nI Y)), some (.int (nI D)), some (.int (nI P)), some (.int (nI t)), z21, z22, z23, z24] [] h kc ks := by
    intro hP
    refine r_iload M dL_law_555 rfl ?_
    refine r_bipush (v := nI 6) M dL_law_557 (by decide) ?_
    refine r_icmp_neN (tgt := 652) M dL_law_559 (by decide) (by omega) (by omega) (fun c1 => ?_) (fun c1 => ?_)
    · exact J652 hP
    · exact lc_cut (t := 0) hfl M hi hT hk hY hP h md kc ks hkc hks _ _ _ _ _ _ _ K
  have J401 : P < eN σ → V 401 [some (.ref (gN g 4)), some (.ref x), some (.ref (ad 0)), some (.ref (ad 1)), some (.ref (ad 2)), some (.ref (ad 3)), some (.ref (ad 4)), some (.ref (ad 5)), some (.ref (ad 6)), some (.ref (ad 7)), some (.int (nI (eN σ))), some (.int (nI (eM σ))), some (.int (ePaid σ)), some (.int (nI 1)), some (.int (nI T)), some (.int (nI k)), z16, some (.int (nI Y)), some (.int (nI D)), some (.int (nI P)), some (.int (nI t)), z21, z22, z23, z24] [] h kc ks := by
    intro hP
    refine r_iload M dL_law_401 rfl ?_
    refine r_bipush (v := nI 6) M dL_law_403 (by decide) ?_
    refine r_icmp_geN (tgt := 555) M dL_law_405 (by decide) (by omega) (by omega) (fun c1 => ?_) (fun c1 => ?_)
    · exact J555 hP
    · exact lc_key (t := 0) hfl M hi hT hk hY hP h md kc ks hkc hks _ _ _ _ _ _ _ K
  have J333 : P < eN σ → V 333 [some (.ref (gN g 4)), some (.ref x), some (.ref (ad 0)), some (.ref (ad 1)), some (.ref (ad 2)), some (.ref (ad 3)), some (.ref (ad 4)), some (.ref (ad 5)), some (.ref (ad 6)), some (.ref (ad 7)), some (.int (nI (eN σ))), some (.int (nI (eM σ))), some (.int (ePaid σ)), some (.int (nI 1)), some (.int (nI T)), some (.int (nI k)), z16, some (.int (nI Y)), some (.int (nI D)), some (.int (nI P)), some (.int (nI t)), z21, z22, z23, z24] [] h kc ks := by
    intro hP
    refine r_iload M dL_law_333 rfl ?_
    refine r_iconst (v := nI 1) M dL_law_335 (by decide) ?_
    refine r_icmp_neN (tgt := 401) M dL_law_336 (by decide) (by omega) (by omega) (fun c1 => ?_) (fun c1 => ?_)
    · exact J401 hP
    · exact lc_len (t := 0) hfl M hi hT hk hY hP h md kc ks hkc hks _ _ _ _ _ _ _ K
  show V 221 [some (.ref (gN g 4)), some (.ref x), some (.ref (ad 0)), some (.ref (ad 1)), some (.ref (ad 2)), some (.ref (ad 3)), some (.ref (ad 4)), some (.ref (ad 5)), some (.ref (ad 6)), some (.ref (ad 7)), some (.int (nI (eN σ))), some (.int (nI (eM σ))), some (.int (ePaid σ)), some (.int (nI 1)), some (.int (nI T)), some (.int (nI k)), z16, some (.int (nI Y)), some (.int (nI D)), some (.int (nI P)), some (.int (nI t)), z21, z22, z23, z24] [] h kc ks
  refine r_iload M dL_law_221 rfl ?_
  refine r_if_neN (tgt := 333) M dL_law_223 (by decide) (by omega) (fun c1 => ?_) (fun c1 => ?_)
  · exact J333 (hP1 (nz_pos hD0 (by omega)))
  · refine r_iload M dL_law_226 rfl ?_
    refine r_iconst (v := nI 5) M dL_law_228 (by decide) ?_
    refine r_icmp_geN (tgt := 333) M dL_law_229 (by decide) (by omega) (by omega) (fun c2 => ?_) (fun c2 => ?_)
    · exact J333 (hP1 (nz_pos hD0 (by omega)))
    · exact lc_puppet (t := 0) hfl M hi hT hk hY (by omega) (lt_p1 hP1 hP0) h md kc ks hkc hks _ _ _ _ _ _ _ K
set_option maxRecDepth 100000 in
set_option maxHeartbeats 4000000 in
theorem lw_tail {g : Gl} {l : Launch} (hfl : l.stackTraces = false) {hh : List (Nat × Nat × Nat × Nat)} {mn : String} {V : VT} {X : XT} (M : Mach g l room_1 RL cL_law 25 hh mn V X) {x : Nat} {ad : Nat → Nat} {σ : ST} (hi : Inv σ) {T k Y P : Nat} (hT : T ≤ 280) (hk : k < T) (hY : Y < 268435456) (hP : P < eN σ) (h : Hp) (md : Mid g h x ad (AR σ) σ) (kc ks : Nat) (hkc : kc ≤ 710000) (hks : ks ≤ 6850000) (z16 z18 z20 z21 z22 z23 z24 : Option Value) (K : ∀ (h' : Hp) (kc' ks' : Nat) (z16 z17 z18 z19 z20 z21 z22 z23 z24 : Option Value), Mid g h' x ad (AR σ) σ → kc' ≤ kc + 105 → ks' ≤ ks + 630 → V 104 [some (.ref (gN g 4)), some (.ref x), some (.ref (ad 0)), some (.ref (ad 1)), some (.ref (ad 2)), some (.ref (ad 3)), some (.ref (ad 4)), some (.ref (ad 5)), some (.ref (ad 6)), some (.ref (ad 7)), some (.int (nI (eN σ))), some (.int (nI (eM σ))), some (.int (ePaid σ)), some (.int (nI 1)), some (.int (nI T)), some (.int (nI (k + 1))), z16, z17, z18, z19, z20, z21, z22, z23, z24] [] h' kc' ks') : V 1626 [some (.ref (gN g 4)), some (.ref x), some (.ref (ad 0)), some (.ref (ad 1)), some (.ref (ad 2)), some (.ref (ad 3)), some (.ref (ad 4)), some (.ref (ad 5)), some (.ref (ad 6)), some (.ref (ad 7)), some (.int (nI (eN σ))), some (.int (nI (eM σ))), some (.int (ePaid σ)), some (.int (nI 1)), some (.int (nI T)), some (.int (nI k)), z16, some (.int (nI Y)), z18, some (.int (nI P)), z20, z21, z22, z23, z24] [] h kc ks := by
  have hw := hi.wf
  have n5 := hi.n5
  have m4 := hi.m4
  have J1709 : ∀ (h' : Hp) (kc' ks' : Nat), Mid g h' x ad (AR σ) σ → kc' ≤ kc + 105 → ks' ≤ ks + 630 → V 1709 [some (.ref (gN g 4)), some (.ref x), some (.ref (ad 0)), some (.ref (ad 1)), some (.ref (ad 2)), some (.ref (ad 3)), some (.ref (ad 4)), some (.ref (ad 5)), some (.ref (ad 6)), some (.ref (ad 7)), some (.int (nI (eN σ))), some (.int (nI (eM σ))), some (.int (ePaid σ)), some (.int (nI 1)), some (.int (nI T)), some (.int (nI k)), z16, some (.int (nI Y)), z18, some (.int (nI P)), z20, z21, z22, z23, z24] [] h' kc' ks' := by
    intro h' kc' ks' md' b1 b2
    refine r_iconst (v := nI 1) M dL_law_1709 (by decide) ?_
    refine r_goto (tgt := 1714) M dL_law_1710 (by decide) ?_
    refine r_istore M dL_law_1714 (by decide) ?_
    show V 1716 [some (.ref (gN g 4)), some (.ref x), some (.ref (ad 0)), some (.ref (ad 1)), some (.ref (ad 2)), some (.ref (ad 3)), some (.ref (ad 4)), some (.ref (ad 5)), some (.ref (ad 6)), some (.ref (ad 7)), some (.int (nI (eN σ))), some (.int (nI (eM σ))), some (.int (ePaid σ)), some (.int (nI 1)), some (.int (nI T)), some (.int (nI k)), z16, some (.int (nI Y)), z18, some (.int (nI P)), z20, z21, z22, z23, z24] _ _ _ _
    refine r_iincN (k := 1) M dL_law_1716 rfl (by decide) (by decide) ?_
    show V 1719 [some (.ref (gN g 4)), some (.ref x), some (.ref (ad 0)), some (.ref (ad 1)), some (.ref (ad 2)), some (.ref (ad 3)), some (.ref (ad 4)), some (.ref (ad 5)), some (.ref (ad 6)), some (.ref (ad 7)), some (.int (nI (eN σ))), some (.int (nI (eM σ))), some (.int (ePaid σ)), some (.int (nI 1)), some (.int (nI T)), some (.int (nI (k + 1))), z16, some (.int (nI Y)), z18, some (.int (nI P)), z20, z21, z22, z23, z24] _ _ _ _
    refine r_goto (tgt := 104) M dL_law_1719 (by decide) ?_
    exact K _ _ _ _ _ _ _ _ _ _ _ _ md' b1 b2
  have J1671 : ∀ (h' : Hp) (kc' ks' : Nat), Mid g h' x ad (AR σ) σ → kc' ≤ kc + 5 → ks' ≤ ks + 30 → V 1671 [some (.ref (gN g 4)), some (.ref x), some (.ref (ad 0)), some (.ref (ad 1)), some (.ref (ad 2)), some (.ref (ad 3)), some (.ref (ad 4)), some (.ref (ad 5)), some (.ref (ad 6)), some (.ref (ad 7)), some (.int (nI (eN σ))), some (.int (nI (eM σ))), some (.int (ePaid σ)), some (.int (nI 1)), some (.int (nI T)), some (.int (nI k)), z16, some (.int (nI Y)), z18, some (.int (nI P)), z20, z21, z22, z23, z24] [] h' kc' ks' := by
    intro h' kc' ks' md' b1 b2
    refine r_iload M dL_law_1671 rfl ?_
    refine r_if_eqN (tgt := 1709) M dL_law_1673 (by decide) (by omega) (fun c1 => ?_) (fun c1 => ?_)
    · exact J1709 _ _ _ md' (by omega) (by omega)
    · refine r_iload M dL_law_1676 rfl ?_
      refine r_iconst (v := nI 2) M dL_law_1678 (by decide) ?_
      refine r_iremN M dL_law_1679 (by omega) (by omega) (by omega) ?_
      refine r_if_gtN (tgt := 1709) M dL_law_1680 (by decide) (by omega) (fun c2 => ?_) (fun c2 => ?_)
      · exact J1709 _ _ _ md' (by omega) (by omega)
      · refine r_aload_n M dL_law_1683 rfl ?_
        refine r_aload_n M dL_law_1684 rfl ?_
        refine r_aload_n M dL_law_1685 rfl ?_
        refine r_iload M dL_law_1686 rfl ?_
        refine r_iconst (v := nI 4) M dL_law_1688 (by decide) ?_
        refine r_ishrN (k := 4) (q := 16) M dL_law_1689 (by omega) (by decide +kernel) rfl ?_
        refine r_iload M dL_law_1690 rfl ?_
        refine r_iremN M dL_law_1692 (by omega) (by omega) (by omega) ?_
        refine r_iload M dL_law_1693 rfl ?_
        refine r_iload M dL_law_1695 rfl ?_
        refine r_iconst (v := nI 2) M dL_law_1697 (by decide) ?_
        refine r_ishrN (k := 2) (q := 4) M dL_law_1698 (by omega) (by decide +kernel) rfl ?_
        refine r_sipush (v := nI 160) M dL_law_1699 (by decide) ?_
        refine r_iremN M dL_law_1702 (by omega) (by omega) (by omega) ?_
        refine r_callS (As := [(.ref x), (.ref (ad 0)), (.ref (ad 1)), (.int (nI ((Y / 16) % (eM σ)))), (.int (nI (eN σ))), (.int (nI ((Y / 4) % 160)))]) M dL_law_1703 rfl (ct_isStage hfl md' hi (s := Y / 16 % eM σ) (F := Y / 4 % 160) (Nat.mod_lt _ (by omega)) (by omega)) cw_L_110 ⟨Nat.le_of_ble_eq_true rfl, Nat.le_of_ble_eq_true rfl, Nat.le_of_ble_eq_true rfl⟩ (Nat.le_of_ble_eq_true rfl) ⟨by show _ ≤ 730377; omega, by show _ ≤ 6910568; omega⟩ (fun r6 h3 p5 => ?_) (fun _ _ z => False.elim z)
        obtain ⟨rfl, md4⟩ := p5
        show V 1706 _ [(.int (nI 1))] h3 _ _
        refine r_if_eq (tgt := 1713) M dL_law_1706 (by decide) (fun c7 => absurd c7 (by decide)) (fun _ => ?_)
        exact J1709 _ _ _ md4 (by omega) (by omega)
  show V 1626 [some (.ref (gN g 4)), some (.ref x), some (.ref (ad 0)), some (.ref (ad 1)), some (.ref (ad 2)), some (.ref (ad 3)), some (.ref (ad 4)), some (.ref (ad 5)), some (.ref (ad 6)), some (.ref (ad 7)), some (.int (nI (eN σ))), some (.int (nI (eM σ))), some (.int (ePaid σ)), some (.int (nI 1)), some (.int (nI T)), some (.int (nI k)), z16, some (.int (nI Y)), z18, some (.int (nI P)), z20, z21, z22, z23, z24] [] h kc ks
  refine r_iload M dL_law_1626 rfl ?_
  refine r_if_eq (tgt := 1713) M dL_law_1628 (by decide) (fun c8 => absurd c8 (by decide)) (fun _ => ?_)
  refine r_aload_n M dL_law_1631 rfl ?_
  refine r_callV (As := []) M dL_law_1632 rfl (ct_ret (cd_income hfl md hw) rfl) (md.ox) rfl cw_L_74 ⟨Nat.le_of_ble_eq_true rfl, Nat.le_of_ble_eq_true rfl, Nat.le_of_ble_eq_true rfl⟩ (Nat.le_of_ble_eq_true rfl) ⟨by show _ ≤ 730377; omega, by show _ ≤ 6910568; omega⟩ (fun r12 h9 p11 => ?_) (fun _ _ z => False.elim z)
  obtain ⟨rfl, md10⟩ := p11
  show V 1635 _ [(.int (ePaid σ))] h9 _ _
  refine r_iload M dL_law_1635 rfl ?_
  refine r_icmp_ne (tgt := 1713) M dL_law_1637 (by decide) (fun c13 => absurd rfl c13) (fun c13 => ?_)
  refine r_iload M dL_law_1640 rfl ?_
  refine r_if_eqN (tgt := 1671) M dL_law_1642 (by decide) (by omega) (fun c14 => ?_) (fun c14 => ?_)
  · exact J1671 _ _ _ md10 (by omega) (by omega)
  · refine r_iload M dL_law_1645 rfl ?_
    refine r_bipush (v := nI 6) M dL_law_1647 (by decide) ?_
    refine r_iremN M dL_law_1649 (by omega) (by omega) (by omega) ?_
    refine r_if_gtN (tgt := 1671) M dL_law_1650 (by decide) (by omega) (fun c15 => ?_) (fun c15 => ?_)
    · exact J1671 _ _ _ md10 (by omega) (by omega)
    · refine r_aload_n M dL_law_1653 rfl ?_
      refine r_aload_n M dL_law_1654 rfl ?_
      refine r_iload M dL_law_1655 rfl ?_
      refine r_iload M dL_law_1657 rfl ?_
      refine r_iconst (v := nI 2) M dL_law_1659 (by decide) ?_
      refine r_ishrN (k := 2) (q := 4) M dL_law_1660 (by omega) (by decide +kernel) rfl ?_
      refine r_sipush (v := nI 160) M dL_law_1661 (by decide) ?_
      refine r_iremN M dL_law_1664 (by omega) (by omega) (by omega) ?_
      refine r_callS (As := [(.ref x), (.ref (ad 0)), (.int (nI P)), (.int (nI ((Y / 4) % 160)))]) M dL_law_1665 rfl (ct_isTrack hfl md10 hi (p := P) (F := Y / 4 % 160) hP (by omega)) cw_L_106 ⟨Nat.le_of_ble_eq_true rfl, Nat.le_of_ble_eq_true rfl, Nat.le_of_ble_eq_true rfl⟩ (Nat.le_of_ble_eq_true rfl) ⟨by show _ ≤ 730377; omega, by show _ ≤ 6910568; omega⟩ (fun r19 h16 p18 => ?_) (fun _ _ z => False.elim z)
      obtain ⟨rfl, md17⟩ := p18
      show V 1668 _ [(.int (nI 1))] h16 _ _
      refine r_if_eq (tgt := 1713) M dL_law_1668 (by decide) (fun c20 => absurd c20 (by decide)) (fun _ => ?_)
      exact J1671 _ _ _ md17 (by omega) (by omega)
set_option maxRecDepth 100000 in
set_option maxHeartbeats 4000000 in
theorem lw_loop {g : Gl} {l : Launch} (hfl : l.stackTraces = false) {hh : List (Nat × Nat × Nat × Nat)} {mn : String} {V : VT} {X : XT} (M : Mach g l room_1 RL cL_law 25 hh mn V X) (kend : ∀ (pc : Nat) (lv : List (Option Value)) (h : Hp) (kc ks : Nat), decode cL_law pc = .ok (.ireturn, 1) → kc ≤ 730377 → ks ≤ 6910568 → V pc lv [.int (nI 1)] h kc ks) (hL : gN g 5 ≤ 260) {x : Nat} {ad : Nat → Nat} {T : Nat} (hT : T ≤ 280) : ∀ (u k : Nat) (σ : ST) (h : Hp) (z16 z17 z18 z19 z20 z21 z22 z23 z24 : Option Value) (kc ks : Nat), 281 - k < u → k ≤ T → Inv σ → Mid g h x ad (AR σ) σ → (eN σ = 0 → k = 0) → kc ≤ 100 + 150 * k → ks ≤ 1000 + 2700 * k → V 104 [some (.ref (gN g 4)), some (.ref x), some (.ref (ad 0)), some (.ref (ad 1)), some (.ref (ad 2)), some (.ref (ad 3)), some (.ref (ad 4)), some (.ref (ad 5)), some (.ref (ad 6)), some (.ref (ad 7)), some (.int (nI (eN σ))), some (.int (nI (eM σ))), some (.int (ePaid σ)), some (.int (nI 1)), some (.int (nI T)), some (.int (nI k)), z16, z17, z18, z19, z20, z21, z22, z23, z24] [] h kc ks := by
  intro u
  induction u with
  | zero => intro k σ h z16 z17 z18 z19 z20 z21 z22 z23 z24 kc ks hu; omega
  | succ u ih =>
    intro k σ h z16 z17 z18 z19 z20 z21 z22 z23 z24 kc ks hu hk hi md hE hkc hks
    have n5 := hi.n5
    have m4 := hi.m4
    show V 104 [some (.ref (gN g 4)), some (.ref x), some (.ref (ad 0)), some (.ref (ad 1)), some (.ref (ad 2)), some (.ref (ad 3)), some (.ref (ad 4)), some (.ref (ad 5)), some (.ref (ad 6)), some (.ref (ad 7)), some (.int (nI (eN σ))), some (.int (nI (eM σ))), some (.int (ePaid σ)), some (.int (nI 1)), some (.int (nI T)), some (.int (nI k)), z16, z17, z18, z19, z20, z21, z22, z23, z24] [] h kc ks
    refine r_iload M dL_law_104 rfl ?_
    refine r_iload M dL_law_106 rfl ?_
    refine r_icmp_geN (tgt := 1722) M dL_law_108 (by decide) (by omega) (by omega) (fun c1 => ?_) (fun c1 => ?_)
    · refine r_iload M dL_law_1722 rfl ?_
      exact kend _ _ _ _ _ dL_law_1724 (by omega) (by omega)
    · refine r_iload M dL_law_111 rfl ?_
      refine r_if_eq (tgt := 1722) M dL_law_113 (by decide) (fun c2 => absurd c2 (by decide)) (fun _ => ?_)
      have J148 : ∀ X0 : Int32, V 148 [some (.ref (gN g 4)), some (.ref x), some (.ref (ad 0)), some (.ref (ad 1)), some (.ref (ad 2)), some (.ref (ad 3)), some (.ref (ad 4)), some (.ref (ad 5)), some (.ref (ad 6)), some (.ref (ad 7)), some (.int (nI (eN σ))), some (.int (nI (eM σ))), some (.int (ePaid σ)), some (.int (nI 1)), some (.int (nI T)), some (.int (nI k)), z16, z17, z18, z19, z20, z21, z22, z23, z24] [.int X0] h kc ks := by
        intro X0
        refine r_istore M dL_law_148 (by decide) ?_
        show V 150 [some (.ref (gN g 4)), some (.ref x), some (.ref (ad 0)), some (.ref (ad 1)), some (.ref (ad 2)), some (.ref (ad 3)), some (.ref (ad 4)), some (.ref (ad 5)), some (.ref (ad 6)), some (.ref (ad 7)), some (.int (nI (eN σ))), some (.int (nI (eM σ))), some (.int (ePaid σ)), some (.int (nI 1)), some (.int (nI T)), some (.int (nI k)), some (.int X0), z17, z18, z19, z20, z21, z22, z23, z24] _ _ _ _
        refine r_iload M dL_law_150 rfl ?_
        refine r_iconst (v := nI 4) M dL_law_152 (by decide) ?_
        refine r_ishr M dL_law_153 ?_
        refine r_ldc (v := nI 268435455) M dL_law_154 (by rw [show nI 268435455 = 268435455 from rfl]; exact cc_L_80) ?_
        refine r_iand M dL_law_156 ?_
        obtain ⟨Y, hY, eY⟩ := cd_Y (X0 >>> (nI 4 &&& 31))
        refine r_top _ (nI Y) (eY) ?_
        refine r_istore M dL_law_157 (by decide) ?_
        show V 159 [some (.ref (gN g 4)), some (.ref x), some (.ref (ad 0)), some (.ref (ad 1)), some (.ref (ad 2)), some (.ref (ad 3)), some (.ref (ad 4)), some (.ref (ad 5)), some (.ref (ad 6)), some (.ref (ad 7)), some (.int (nI (eN σ))), some (.int (nI (eM σ))), some (.int (ePaid σ)), some (.int (nI 1)), some (.int (nI T)), some (.int (nI k)), some (.int X0), some (.int (nI Y)), z18, z19, z20, z21, z22, z23, z24] _ _ _ _
        have J185 : ∀ D : Nat, D < 16 → (eN σ = 0 → D = 0) → V 185 [some (.ref (gN g 4)), some (.ref x), some (.ref (ad 0)), some (.ref (ad 1)), some (.ref (ad 2)), some (.ref (ad 3)), some (.ref (ad 4)), some (.ref (ad 5)), some (.ref (ad 6)), some (.ref (ad 7)), some (.int (nI (eN σ))), some (.int (nI (eM σ))), some (.int (ePaid σ)), some (.int (nI 1)), some (.int (nI T)), some (.int (nI k)), some (.int X0), some (.int (nI Y)), z18, z19, z20, z21, z22, z23, z24] [.int (nI D)] h kc ks := by
          intro D hD hD0
          refine r_istore M dL_law_185 (by decide) ?_
          show V 187 [some (.ref (gN g 4)), some (.ref x), some (.ref (ad 0)), some (.ref (ad 1)), some (.ref (ad 2)), some (.ref (ad 3)), some (.ref (ad 4)), some (.ref (ad 5)), some (.ref (ad 6)), some (.ref (ad 7)), some (.int (nI (eN σ))), some (.int (nI (eM σ))), some (.int (ePaid σ)), some (.int (nI 1)), some (.int (nI T)), some (.int (nI k)), some (.int X0), some (.int (nI Y)), some (.int (nI D)), z19, z20, z21, z22, z23, z24] _ _ _ _
          have J201 : ∀ P : Nat, (0 < eN σ → P < eN σ) → (eN σ = 0 → P = 0) → V 201 [some (.ref (gN g 4)), some (.ref x), some (.ref (ad 0)), some (.ref (ad 1)), some (.ref (ad 2)), some (.ref (ad 3)), some (.ref (ad 4)), some (.ref (ad 5)), some (.ref (ad 6)), some (.ref (ad 7)), some (.int (nI (eN σ))), some (.int (nI (eM σ))), some (.int (ePaid σ)), some (.int (nI 1)), some (.int (nI T)), some (.int (nI k)), some (.int X0), some (.int (nI Y)), some (.int (nI D)), z19, z20, z21, z22, z23, z24] [.int (nI P)] h kc ks := by
            intro P hP1 hP0
            refine r_istore M dL_law_201 (by decide) ?_
            show V 203 [some (.ref (gN g 4)), some (.ref x), some (.ref (ad 0)), some (.ref (ad 1)), some (.ref (ad 2)), some (.ref (ad 3)), some (.ref (ad 4)), some (.ref (ad 5)), some (.ref (ad 6)), some (.ref (ad 7)), some (.int (nI (eN σ))), some (.int (nI (eM σ))), some (.int (ePaid σ)), some (.int (nI 1)), some (.int (nI T)), some (.int (nI k)), some (.int X0), some (.int (nI Y)), some (.int (nI D)), some (.int (nI P)), z20, z21, z22, z23, z24] _ _ _ _
            have J219 : ∀ t : Nat, (0 < eM σ → t < eM σ) → V 219 [some (.ref (gN g 4)), some (.ref x), some (.ref (ad 0)), some (.ref (ad 1)), some (.ref (ad 2)), some (.ref (ad 3)), some (.ref (ad 4)), some (.ref (ad 5)), some (.ref (ad 6)), some (.ref (ad 7)), some (.int (nI (eN σ))), some (.int (nI (eM σ))), some (.int (ePaid σ)), some (.int (nI 1)), some (.int (nI T)), some (.int (nI k)), some (.int X0), some (.int (nI Y)), some (.int (nI D)), some (.int (nI P)), z20, z21, z22, z23, z24] [.int (nI t)] h kc ks := by
              intro t ht
              refine r_istore M dL_law_219 (by decide) ?_
              show V 221 [some (.ref (gN g 4)), some (.ref x), some (.ref (ad 0)), some (.ref (ad 1)), some (.ref (ad 2)), some (.ref (ad 3)), some (.ref (ad 4)), some (.ref (ad 5)), some (.ref (ad 6)), some (.ref (ad 7)), some (.int (nI (eN σ))), some (.int (nI (eM σ))), some (.int (ePaid σ)), some (.int (nI 1)), some (.int (nI T)), some (.int (nI k)), some (.int X0), some (.int (nI Y)), some (.int (nI D)), some (.int (nI P)), some (.int (nI t)), z21, z22, z23, z24] _ _ _ _
              refine lw_disp hfl M hi hT (by omega) hY hD hD0 hP1 hP0 ht h md kc ks (by omega) (by omega) _ _ _ _ _ (fun h' σ' kc' ks' y16 y18 y20 y21 y22 y23 y24 md' hi' hP' b1 b2 => ?_)
              refine lw_tail hfl M hi' hT (by omega) hY hP' h' md' kc' ks' (by omega) (by omega) _ _ _ _ _ _ _ (fun h2 kc2 ks2 w16 w17 w18 w19 w20 w21 w22 w23 w24 md2 b3 b4 => ?_)
              exact ih (k + 1) σ' h2 _ _ _ _ _ _ _ _ _ kc2 ks2 (by omega) (by omega) hi' md2 (fun z => by omega) (by omega) (by omega)
            refine r_iload M dL_law_203 rfl ?_
            refine r_if_neN (tgt := 212) M dL_law_205 (by decide) (by omega) (fun c3 => ?_) (fun c3 => ?_)
            · refine r_iload M dL_law_212 rfl ?_
              refine r_iconst (v := nI 2) M dL_law_214 (by decide) ?_
              refine r_ishrN (k := 2) (q := 4) M dL_law_215 (by omega) (by decide +kernel) rfl ?_
              refine r_iload M dL_law_216 rfl ?_
              refine r_iremN M dL_law_218 (by omega) (by omega) (by omega) ?_
              exact J219 _ (fun z => Nat.mod_lt _ z)
            · refine r_iconst (v := nI 0) M dL_law_208 (by decide) ?_
              refine r_goto (tgt := 219) M dL_law_209 (by decide) ?_
              exact J219 0 (fun z => by omega)
          refine r_iload M dL_law_187 rfl ?_
          refine r_if_neN (tgt := 196) M dL_law_189 (by decide) (by omega) (fun c4 => ?_) (fun c4 => ?_)
          · refine r_iload M dL_law_196 rfl ?_
            refine r_iload M dL_law_198 rfl ?_
            refine r_iremN M dL_law_200 (by omega) (by omega) (by omega) ?_
            exact J201 _ (fun z => Nat.mod_lt _ z) (fun z => by omega)
          · refine r_iconst (v := nI 0) M dL_law_192 (by decide) ?_
            refine r_goto (tgt := 201) M dL_law_193 (by decide) ?_
            exact J201 0 (fun z => by omega) (fun _ => rfl)
        refine r_iload M dL_law_159 rfl ?_
        refine r_iconst (v := nI 2) M dL_law_161 (by decide) ?_
        refine r_icmp_geN (tgt := 169) M dL_law_162 (by decide) (by omega) (by omega) (fun c5 => ?_) (fun c5 => ?_)
        · refine r_iload M dL_law_169 rfl ?_
          refine r_iconst (v := nI 2) M dL_law_171 (by decide) ?_
          refine r_icmp_neN (tgt := 180) M dL_law_172 (by decide) (by omega) (by omega) (fun c6 => ?_) (fun c6 => ?_)
          · refine r_iload M dL_law_180 rfl ?_
            refine r_bipush (v := nI 15) M dL_law_182 (by decide) ?_
            refine r_iand M dL_law_184 ?_
            obtain ⟨D, hD, eD⟩ := cd_D X0
            refine r_top _ (nI D) (eD) ?_
            exact J185 D hD (fun z => by (have := hE z; omega))
          · refine r_bipush (v := nI 9) M dL_law_175 (by decide) ?_
            refine r_goto (tgt := 185) M dL_law_177 (by decide) ?_
            exact J185 (9) (by omega) (fun z => by (have := hE z; omega))
        · refine r_iconst (v := nI 0) M dL_law_165 (by decide) ?_
          refine r_goto (tgt := 185) M dL_law_166 (by decide) ?_
          exact J185 (0) (by omega) (fun z => by (have := hE z; omega))
      refine r_iload M dL_law_116 rfl ?_
      refine r_aload_n M dL_law_118 rfl ?_
      refine r_alenX M dL_law_119 ?_
      refine r_icmp_geN (tgt := 130) M dL_law_120 (by decide) (by omega) (by omega) (fun c7 => ?_) (fun c7 => ?_)
      · refine r_ldc (v := nI 2850017) M dL_law_130 (by rw [show nI 2850017 = 2850017 from rfl]; exact cc_L_78) ?_
        refine r_iload M dL_law_132 rfl ?_
        refine r_imulN M dL_law_134 ?_
        refine r_iload M dL_law_135 rfl ?_
        refine r_imulN M dL_law_137 ?_
        refine r_ldc (v := nI 95009) M dL_law_138 (by rw [show nI 95009 = 95009 from rfl]; exact cc_L_79) ?_
        refine r_iload M dL_law_140 rfl ?_
        refine r_imulN M dL_law_142 ?_
        refine r_iaddN M dL_law_143 ?_
        refine r_sipush (v := nI 159) M dL_law_144 (by decide) ?_
        refine r_iaddN M dL_law_147 ?_
        exact J148 _
      · refine r_aload_n M dL_law_123 rfl ?_
        refine r_iload M dL_law_124 rfl ?_
        refine r_ialdX M dL_law_126 (vp_inN (by omega) (by omega)) ?_
        refine r_goto (tgt := 148) M dL_law_127 (by decide) ?_
        exact J148 _
