/-! ===== the turns of the law, case by case ===== -/
def LwK (g : Gl) (V : VT) (x : Nat) (ad : Nat → Nat) (T k Y P kc ks : Nat) : Prop := ∀ (h : Hp) (σ : ST) (kc' ks' : Nat) (z16 z18 z20 z21 z22 z23 z24 : Option Value), Mid g h x ad (AR σ) σ → Inv σ → P < eN σ → kc' ≤ kc + 40 → ks' ≤ ks + 2000 → V 1626 [some (.ref (gN g 4)), some (.ref x), some (.ref (ad 0)), some (.ref (ad 1)), some (.ref (ad 2)), some (.ref (ad 3)), some (.ref (ad 4)), some (.ref (ad 5)), some (.ref (ad 6)), some (.ref (ad 7)), some (.int (nI (eN σ))), some (.int (nI (eM σ))), some (.int (ePaid σ)), some (.int (nI 1)), some (.int (nI T)), some (.int (nI k)), z16, some (.int (nI Y)), z18, some (.int (nI P)), z20, z21, z22, z23, z24] [] h kc' ks'
theorem nI_nn {n : Nat} {v : Int32} (h : n < 2 ^ 31) (hv : v.toInt < 0) : ¬ nI n = v := fun z => by
  have := congrArg Int32.toInt z
  rw [nI_toInt h] at this
  omega
set_option maxRecDepth 100000 in
set_option maxHeartbeats 4000000 in
theorem lc_puppet {g : Gl} {l : Launch} (hfl : l.stackTraces = false) {hh : List (Nat × Nat × Nat × Nat)} {mn : String} {V : VT} {X : XT} (M : Mach g l room_1 RL cL_law 25 hh mn V X) {x : Nat} {ad : Nat → Nat} {σ : ST} (hi : Inv σ) {T k Y P t : Nat} (hT : T ≤ 280) (hk : k < T) (hY : Y < 268435456) (h5 : eN σ < 5) (hP : P < eN σ + 1) (h : Hp) (md : Mid g h x ad (AR σ) σ) (kc ks : Nat) (hkc : kc ≤ 700000) (hks : ks ≤ 6800000) (z16 z18 z20 z21 z22 z23 z24 : Option Value) (K : LwK g V x ad T k Y P kc ks) : V 232 [some (.ref (gN g 4)), some (.ref x), some (.ref (ad 0)), some (.ref (ad 1)), some (.ref (ad 2)), some (.ref (ad 3)), some (.ref (ad 4)), some (.ref (ad 5)), some (.ref (ad 6)), some (.ref (ad 7)), some (.int (nI (eN σ))), some (.int (nI (eM σ))), some (.int (ePaid σ)), some (.int (nI 1)), some (.int (nI T)), some (.int (nI k)), z16, some (.int (nI Y)), z18, some (.int (nI P)), z20, z21, z22, z23, z24] [] h kc ks := by
  have hw := hi.wf
  have n5 := hi.n5
  have m4 := hi.m4
  show V 232 [some (.ref (gN g 4)), some (.ref x), some (.ref (ad 0)), some (.ref (ad 1)), some (.ref (ad 2)), some (.ref (ad 3)), some (.ref (ad 4)), some (.ref (ad 5)), some (.ref (ad 6)), some (.ref (ad 7)), some (.int (nI (eN σ))), some (.int (nI (eM σ))), some (.int (ePaid σ)), some (.int (nI 1)), some (.int (nI T)), some (.int (nI k)), z16, some (.int (nI Y)), z18, some (.int (nI P)), z20, z21, z22, z23, z24] [] h kc ks
  refine r_aload_n M dL_law_232 rfl ?_
  refine r_iload M dL_law_233 rfl ?_
  refine r_iload M dL_law_235 rfl ?_
  refine r_iconst (v := nI 1) M dL_law_237 (by decide) ?_
  refine r_ishrN (k := 1) (q := 2) M dL_law_238 (by omega) (by decide +kernel) rfl ?_
  refine r_bipush (v := nI 60) M dL_law_239 (by decide) ?_
  refine r_iremN M dL_law_241 (by omega) (by omega) (by omega) ?_
  refine r_iastN (n := 5) M dL_law_242 (md.sh (k := 0) (by decide)) (by omega) (by omega) ?_
  have md1 := md.st (k := 0) (by decide) (eN σ) (nI ((Y / 2) % 60))
  refine r_aload_n M dL_law_243 rfl ?_
  refine r_iload M dL_law_244 rfl ?_
  have J : ∀ n : Nat, n ≤ 1500 → V 275 [some (.ref (gN g 4)), some (.ref x), some (.ref (ad 0)), some (.ref (ad 1)), some (.ref (ad 2)), some (.ref (ad 3)), some (.ref (ad 4)), some (.ref (ad 5)), some (.ref (ad 6)), some (.ref (ad 7)), some (.int (nI (eN σ))), some (.int (nI (eM σ))), some (.int (ePaid σ)), some (.int (nI 1)), some (.int (nI T)), some (.int (nI k)), z16, some (.int (nI Y)), z18, some (.int (nI P)), z20, z21, z22, z23, z24] [.int (nI n), .int (nI (eN σ)), .ref (ad 1)] (yA h (ad 0) (eN σ) (nI ((Y / 2) % 60))) kc ks := by
    intro n hn
    obtain ⟨σ1, e, hi1, en, em, ep, eT, eW, eA⟩ := s_puppet hi h5 (b := Y / 2 % 60) (n := n) (by omega) hn
    refine r_iastN (n := 5) M dL_law_275 (md1.sh (k := 1) (by decide)) (by omega) (by omega) ?_
    have md2 := md1.st (k := 1) (by decide) (eN σ) (nI n)
    refine r_aload_n M dL_law_276 rfl ?_
    refine r_aload_n M dL_law_277 rfl ?_
    refine r_iload M dL_law_278 rfl ?_
    refine r_ialdN (n := 5) M dL_law_280 (md2.sh (k := 0) (by decide)) (by omega) (by omega) ?_
    refine r_top _ (nI (Y / 2 % 60)) ((md2.rd (k := 0) (by decide) _).trans ((u2_n _ _ (fun z => absurd z.1 (by decide))).trans (u2_s _ _ _ _))) ?_
    refine r_aload_n M dL_law_281 rfl ?_
    refine r_iload M dL_law_282 rfl ?_
    refine r_ialdN (n := 5) M dL_law_284 (md2.sh (k := 1) (by decide)) (by omega) (by omega) ?_
    refine r_top _ (nI n) ((md2.rd (k := 1) (by decide) _).trans (u2_s _ _ _ _)) ?_
    refine r_callV (As := [(.int (nI (Y / 2 % 60))), (.int (nI n))]) M dL_law_285 rfl (ct_ret (cd_puppet hfl md2 hi.wf (nI (Y / 2 % 60)) (nI n)) e) (md2.ox) rfl cw_L_81 ⟨Nat.le_of_ble_eq_true rfl, Nat.le_of_ble_eq_true rfl, Nat.le_of_ble_eq_true rfl⟩ (Nat.le_of_ble_eq_true rfl) ⟨by show _ ≤ 730377; omega, by show _ ≤ 6910568; omega⟩ (fun r6 h3 p5 => ?_) (fun _ _ z => False.elim z)
    obtain ⟨rfl, md4⟩ := p5
    show V 288 _ [(.int (nI (eN σ)))] h3 _ _
    refine r_iload M dL_law_288 rfl ?_
    refine r_icmp_neN (tgt := 324) M dL_law_290 (by decide) (by omega) (by omega) (fun c7 => absurd rfl c7) (fun c7 => ?_)
    refine r_aload_n M dL_law_293 rfl ?_
    refine r_iload M dL_law_294 rfl ?_
    refine r_iconst (v := nI 0) M dL_law_296 (by decide) ?_
    refine r_callV (As := [(.int (nI (eN σ))), (.int (nI 0))]) M dL_law_297 rfl (ct_ret (cd_track hfl md4 hi1.wf (nI (eN σ)) (nI 0)) eT) (md4.ox) rfl cw_L_63 ⟨Nat.le_of_ble_eq_true rfl, Nat.le_of_ble_eq_true rfl, Nat.le_of_ble_eq_true rfl⟩ (Nat.le_of_ble_eq_true rfl) ⟨by show _ ≤ 730377; omega, by show _ ≤ 6910568; omega⟩ (fun r11 h8 p10 => ?_) (fun _ _ z => False.elim z)
    obtain ⟨rfl, md9⟩ := p10
    show V 300 _ [(.int (nI (1000 * (Y / 2 % 60))))] h8 _ _
    refine r_sipush (v := nI 1000) M dL_law_300 (by decide) ?_
    refine r_aload_n M dL_law_303 rfl ?_
    refine r_iload M dL_law_304 rfl ?_
    refine r_ialdN (n := 5) M dL_law_306 (md9.sh (k := 0) (by decide)) (by omega) (by omega) ?_
    refine r_top _ (nI (Y / 2 % 60)) ((md9.rd (k := 0) (by decide) _).trans ((u2_n _ _ (fun z => absurd z.1 (by decide))).trans (u2_s _ _ _ _))) ?_
    refine r_imulN M dL_law_307 ?_
    refine r_icmp_neN (tgt := 324) M dL_law_308 (by decide) (by omega) (by omega) (fun c12 => absurd rfl c12) (fun c12 => ?_)
    refine r_aload_n M dL_law_311 rfl ?_
    refine r_iload M dL_law_312 rfl ?_
    refine r_callV (As := [(.int (nI (eN σ)))]) M dL_law_314 rfl (ct_ret (cd_worn hfl md9 hi1.wf (nI (eN σ))) eW) (md9.ox) rfl cw_L_84 ⟨Nat.le_of_ble_eq_true rfl, Nat.le_of_ble_eq_true rfl, Nat.le_of_ble_eq_true rfl⟩ (Nat.le_of_ble_eq_true rfl) ⟨by show _ ≤ 730377; omega, by show _ ≤ 6910568; omega⟩ (fun r16 h13 p15 => ?_) (fun _ _ z => False.elim z)
    obtain ⟨rfl, md14⟩ := p15
    show V 317 _ [(.int (nI 0))] h13 _ _
    refine r_if_ne (tgt := 324) M dL_law_317 (by decide) (fun c17 => absurd (by decide) c17) (fun _ => ?_)
    refine r_iconst (v := nI 1) M dL_law_320 (by decide) ?_
    refine r_goto (tgt := 325) M dL_law_321 (by decide) ?_
    refine r_istore M dL_law_325 (by decide) ?_
    show V 327 [some (.ref (gN g 4)), some (.ref x), some (.ref (ad 0)), some (.ref (ad 1)), some (.ref (ad 2)), some (.ref (ad 3)), some (.ref (ad 4)), some (.ref (ad 5)), some (.ref (ad 6)), some (.ref (ad 7)), some (.int (nI (eN σ))), some (.int (nI (eM σ))), some (.int (ePaid σ)), some (.int (nI 1)), some (.int (nI T)), some (.int (nI k)), z16, some (.int (nI Y)), z18, some (.int (nI P)), z20, z21, z22, z23, z24] _ _ _ _
    refine r_iincN (k := 1) M dL_law_327 rfl (by decide) (by decide) ?_
    show V 330 [some (.ref (gN g 4)), some (.ref x), some (.ref (ad 0)), some (.ref (ad 1)), some (.ref (ad 2)), some (.ref (ad 3)), some (.ref (ad 4)), some (.ref (ad 5)), some (.ref (ad 6)), some (.ref (ad 7)), some (.int (nI (eN σ + 1))), some (.int (nI (eM σ))), some (.int (ePaid σ)), some (.int (nI 1)), some (.int (nI T)), some (.int (nI k)), z16, some (.int (nI Y)), z18, some (.int (nI P)), z20, z21, z22, z23, z24] _ _ _ _
    refine r_goto (tgt := 1626) M dL_law_330 (by decide) ?_
    rw [← en, ← em, ← ep]
    exact K _ σ1 _ _ _ _ _ _ _ _ _ (md14.ar eA) (hi1) (by omega) (by omega) (by omega)
  refine r_iload M dL_law_246 rfl ?_
  refine r_iconst (v := nI 3) M dL_law_248 (by decide) ?_
  refine r_ishrN (k := 3) (q := 8) M dL_law_249 (by omega) (by decide +kernel) rfl ?_
  refine r_iconst (v := nI 1) M dL_law_250 (by decide) ?_
  refine r_iandN (k := 1) (q := 2) M dL_law_251 (by omega) (by decide +kernel) rfl ?_
  refine r_if_neN (tgt := 266) M dL_law_252 (by decide) (by omega) (fun c18 => ?_) (fun c18 => ?_)
  · refine r_iload M dL_law_266 rfl ?_
    refine r_bipush (v := nI 7) M dL_law_268 (by decide) ?_
    refine r_ishrN (k := 7) (q := 128) M dL_law_270 (by omega) (by decide +kernel) rfl ?_
    refine r_sipush (v := nI 1501) M dL_law_271 (by decide) ?_
    refine r_iremN M dL_law_274 (by omega) (by omega) (by omega) ?_
    exact J ((Y / 128) % 1501) (by omega)
  · refine r_iload M dL_law_255 rfl ?_
    refine r_bipush (v := nI 7) M dL_law_257 (by decide) ?_
    refine r_ishrN (k := 7) (q := 128) M dL_law_259 (by omega) (by decide +kernel) rfl ?_
    refine r_bipush (v := nI 90) M dL_law_260 (by decide) ?_
    refine r_iremN M dL_law_262 (by omega) (by omega) (by omega) ?_
    refine r_goto (tgt := 275) M dL_law_263 (by decide) ?_
    exact J ((Y / 128) % 90) (by omega)
set_option maxRecDepth 100000 in
set_option maxHeartbeats 4000000 in
theorem lc_len {g : Gl} {l : Launch} (hfl : l.stackTraces = false) {hh : List (Nat × Nat × Nat × Nat)} {mn : String} {V : VT} {X : XT} (M : Mach g l room_1 RL cL_law 25 hh mn V X) {x : Nat} {ad : Nat → Nat} {σ : ST} (hi : Inv σ) {T k Y P t : Nat} (hT : T ≤ 280) (hk : k < T) (hY : Y < 268435456) (hP : P < eN σ) (h : Hp) (md : Mid g h x ad (AR σ) σ) (kc ks : Nat) (hkc : kc ≤ 700000) (hks : ks ≤ 6800000) (z16 z18 z20 z21 z22 z23 z24 : Option Value) (K : LwK g V x ad T k Y P kc ks) : V 339 [some (.ref (gN g 4)), some (.ref x), some (.ref (ad 0)), some (.ref (ad 1)), some (.ref (ad 2)), some (.ref (ad 3)), some (.ref (ad 4)), some (.ref (ad 5)), some (.ref (ad 6)), some (.ref (ad 7)), some (.int (nI (eN σ))), some (.int (nI (eM σ))), some (.int (ePaid σ)), some (.int (nI 1)), some (.int (nI T)), some (.int (nI k)), z16, some (.int (nI Y)), z18, some (.int (nI P)), z20, z21, z22, z23, z24] [] h kc ks := by
  have hw := hi.wf
  have n5 := hi.n5
  have m4 := hi.m4
  show V 339 [some (.ref (gN g 4)), some (.ref x), some (.ref (ad 0)), some (.ref (ad 1)), some (.ref (ad 2)), some (.ref (ad 3)), some (.ref (ad 4)), some (.ref (ad 5)), some (.ref (ad 6)), some (.ref (ad 7)), some (.int (nI (eN σ))), some (.int (nI (eM σ))), some (.int (ePaid σ)), some (.int (nI 1)), some (.int (nI T)), some (.int (nI k)), z16, some (.int (nI Y)), z18, some (.int (nI P)), z20, z21, z22, z23, z24] [] h kc ks
  have J : ∀ n : Nat, n ≤ 1500 → V 368 [some (.ref (gN g 4)), some (.ref x), some (.ref (ad 0)), some (.ref (ad 1)), some (.ref (ad 2)), some (.ref (ad 3)), some (.ref (ad 4)), some (.ref (ad 5)), some (.ref (ad 6)), some (.ref (ad 7)), some (.int (nI (eN σ))), some (.int (nI (eM σ))), some (.int (ePaid σ)), some (.int (nI 1)), some (.int (nI T)), some (.int (nI k)), z16, some (.int (nI Y)), z18, some (.int (nI P)), z20, z21, z22, z23, z24] [.int (nI n)] h kc ks := by
    intro n hn
    obtain ⟨σ1, e, ⟨hi1, en, em, ep⟩, eA⟩ := s_len hi hP hn
    refine r_istore M dL_law_368 (by decide) ?_
    show V 370 [some (.ref (gN g 4)), some (.ref x), some (.ref (ad 0)), some (.ref (ad 1)), some (.ref (ad 2)), some (.ref (ad 3)), some (.ref (ad 4)), some (.ref (ad 5)), some (.ref (ad 6)), some (.ref (ad 7)), some (.int (nI (eN σ))), some (.int (nI (eM σ))), some (.int (ePaid σ)), some (.int (nI 1)), some (.int (nI T)), some (.int (nI k)), z16, some (.int (nI Y)), z18, some (.int (nI P)), z20, some (.int (nI n)), z22, z23, z24] _ _ _ _
    refine r_aload_n M dL_law_370 rfl ?_
    refine r_iload M dL_law_371 rfl ?_
    refine r_iload M dL_law_373 rfl ?_
    refine r_callV (As := [(.int (nI P)), (.int (nI n))]) M dL_law_375 rfl (ct_ret (cd_setLength hfl md hi.wf (nI P) (nI n)) e) (md.ox) rfl cw_L_87 ⟨Nat.le_of_ble_eq_true rfl, Nat.le_of_ble_eq_true rfl, Nat.le_of_ble_eq_true rfl⟩ (Nat.le_of_ble_eq_true rfl) ⟨by show _ ≤ 730377; omega, by show _ ≤ 6910568; omega⟩ (fun r4 h1 p3 => ?_) (fun _ _ z => False.elim z)
    obtain ⟨rfl, md2⟩ := p3
    show V 378 _ [(.int ((AR σ) 1 P))] h1 _ _
    refine r_aload_n M dL_law_378 rfl ?_
    refine r_iload M dL_law_379 rfl ?_
    refine r_ialdN (n := 5) M dL_law_381 (md2.sh (k := 1) (by decide)) (by omega) (by omega) ?_
    refine r_top _ ((AR σ) 1 P) (md2.rd (k := 1) (by decide) _) ?_
    refine r_icmp_ne (tgt := 389) M dL_law_382 (by decide) (fun c5 => absurd rfl c5) (fun c5 => ?_)
    refine r_iconst (v := nI 1) M dL_law_385 (by decide) ?_
    refine r_goto (tgt := 390) M dL_law_386 (by decide) ?_
    refine r_istore M dL_law_390 (by decide) ?_
    show V 392 [some (.ref (gN g 4)), some (.ref x), some (.ref (ad 0)), some (.ref (ad 1)), some (.ref (ad 2)), some (.ref (ad 3)), some (.ref (ad 4)), some (.ref (ad 5)), some (.ref (ad 6)), some (.ref (ad 7)), some (.int (nI (eN σ))), some (.int (nI (eM σ))), some (.int (ePaid σ)), some (.int (nI 1)), some (.int (nI T)), some (.int (nI k)), z16, some (.int (nI Y)), z18, some (.int (nI P)), z20, some (.int (nI n)), z22, z23, z24] _ _ _ _
    refine r_aload_n M dL_law_392 rfl ?_
    refine r_iload M dL_law_393 rfl ?_
    refine r_iload M dL_law_395 rfl ?_
    refine r_iastN (n := 5) M dL_law_397 (md2.sh (k := 1) (by decide)) (by omega) (by omega) ?_
    have md6 := md2.st (k := 1) (by decide) P (nI n)
    refine r_goto (tgt := 1626) M dL_law_398 (by decide) ?_
    rw [← en, ← em, ← ep]
    exact K _ σ1 _ _ _ _ _ _ _ _ _ (md6.ar eA) (hi1) (by omega) (by omega) (by omega)
  refine r_iload M dL_law_339 rfl ?_
  refine r_iconst (v := nI 3) M dL_law_341 (by decide) ?_
  refine r_ishrN (k := 3) (q := 8) M dL_law_342 (by omega) (by decide +kernel) rfl ?_
  refine r_iconst (v := nI 1) M dL_law_343 (by decide) ?_
  refine r_iandN (k := 1) (q := 2) M dL_law_344 (by omega) (by decide +kernel) rfl ?_
  refine r_if_neN (tgt := 359) M dL_law_345 (by decide) (by omega) (fun c7 => ?_) (fun c7 => ?_)
  · refine r_iload M dL_law_359 rfl ?_
    refine r_bipush (v := nI 7) M dL_law_361 (by decide) ?_
    refine r_ishrN (k := 7) (q := 128) M dL_law_363 (by omega) (by decide +kernel) rfl ?_
    refine r_sipush (v := nI 1501) M dL_law_364 (by decide) ?_
    refine r_iremN M dL_law_367 (by omega) (by omega) (by omega) ?_
    exact J ((Y / 128) % 1501) (by omega)
  · refine r_iload M dL_law_348 rfl ?_
    refine r_bipush (v := nI 7) M dL_law_350 (by decide) ?_
    refine r_ishrN (k := 7) (q := 128) M dL_law_352 (by omega) (by decide +kernel) rfl ?_
    refine r_bipush (v := nI 90) M dL_law_353 (by decide) ?_
    refine r_iremN M dL_law_355 (by omega) (by omega) (by omega) ?_
    refine r_goto (tgt := 368) M dL_law_356 (by decide) ?_
    exact J ((Y / 128) % 90) (by omega)
set_option maxRecDepth 100000 in
set_option maxHeartbeats 4000000 in
theorem lc_key {g : Gl} {l : Launch} (hfl : l.stackTraces = false) {hh : List (Nat × Nat × Nat × Nat)} {mn : String} {V : VT} {X : XT} (M : Mach g l room_1 RL cL_law 25 hh mn V X) {x : Nat} {ad : Nat → Nat} {σ : ST} (hi : Inv σ) {T k Y P t : Nat} (hT : T ≤ 280) (hk : k < T) (hY : Y < 268435456) (hP : P < eN σ) (h : Hp) (md : Mid g h x ad (AR σ) σ) (kc ks : Nat) (hkc : kc ≤ 700000) (hks : ks ≤ 6800000) (z16 z18 z20 z21 z22 z23 z24 : Option Value) (K : LwK g V x ad T k Y P kc ks) : V 408 [some (.ref (gN g 4)), some (.ref x), some (.ref (ad 0)), some (.ref (ad 1)), some (.ref (ad 2)), some (.ref (ad 3)), some (.ref (ad 4)), some (.ref (ad 5)), some (.ref (ad 6)), some (.ref (ad 7)), some (.int (nI (eN σ))), some (.int (nI (eM σ))), some (.int (ePaid σ)), some (.int (nI 1)), some (.int (nI T)), some (.int (nI k)), z16, some (.int (nI Y)), z18, some (.int (nI P)), z20, z21, z22, z23, z24] [] h kc ks := by
  have hw := hi.wf
  have n5 := hi.n5
  have m4 := hi.m4
  show V 408 [some (.ref (gN g 4)), some (.ref x), some (.ref (ad 0)), some (.ref (ad 1)), some (.ref (ad 2)), some (.ref (ad 3)), some (.ref (ad 4)), some (.ref (ad 5)), some (.ref (ad 6)), some (.ref (ad 7)), some (.int (nI (eN σ))), some (.int (nI (eM σ))), some (.int (ePaid σ)), some (.int (nI 1)), some (.int (nI T)), some (.int (nI k)), z16, some (.int (nI Y)), z18, some (.int (nI P)), z20, z21, z22, z23, z24] [] h kc ks
  refine r_iload M dL_law_408 rfl ?_
  refine r_iconst (v := nI 3) M dL_law_410 (by decide) ?_
  refine r_ishrN (k := 3) (q := 8) M dL_law_411 (by omega) (by decide +kernel) rfl ?_
  refine r_sipush (v := nI 150) M dL_law_412 (by decide) ?_
  refine r_iremN M dL_law_415 (by omega) (by omega) (by omega) ?_
  refine r_istore M dL_law_416 (by decide) ?_
  show V 418 [some (.ref (gN g 4)), some (.ref x), some (.ref (ad 0)), some (.ref (ad 1)), some (.ref (ad 2)), some (.ref (ad 3)), some (.ref (ad 4)), some (.ref (ad 5)), some (.ref (ad 6)), some (.ref (ad 7)), some (.int (nI (eN σ))), some (.int (nI (eM σ))), some (.int (ePaid σ)), some (.int (nI 1)), some (.int (nI T)), some (.int (nI k)), z16, some (.int (nI Y)), z18, some (.int (nI P)), z20, some (.int (nI ((Y / 8) % 150))), z22, z23, z24] _ _ _ _
  refine r_iload M dL_law_418 rfl ?_
  refine r_iconst (v := nI 5) M dL_law_420 (by decide) ?_
  refine r_ishrN (k := 5) (q := 32) M dL_law_421 (by omega) (by decide +kernel) rfl ?_
  refine r_bipush (v := nI 70) M dL_law_422 (by decide) ?_
  refine r_iremN M dL_law_424 (by omega) (by omega) (by omega) ?_
  refine r_istore M dL_law_425 (by decide) ?_
  show V 427 [some (.ref (gN g 4)), some (.ref x), some (.ref (ad 0)), some (.ref (ad 1)), some (.ref (ad 2)), some (.ref (ad 3)), some (.ref (ad 4)), some (.ref (ad 5)), some (.ref (ad 6)), some (.ref (ad 7)), some (.int (nI (eN σ))), some (.int (nI (eM σ))), some (.int (ePaid σ)), some (.int (nI 1)), some (.int (nI T)), some (.int (nI k)), z16, some (.int (nI Y)), z18, some (.int (nI P)), z20, some (.int (nI ((Y / 8) % 150))), some (.int (nI ((Y / 32) % 70))), z23, z24] _ _ _ _
  refine r_iload M dL_law_427 rfl ?_
  refine r_bipush (v := nI 9) M dL_law_429 (by decide) ?_
  refine r_ishrN (k := 9) (q := 512) M dL_law_431 (by omega) (by decide +kernel) rfl ?_
  refine r_bipush (v := nI 60) M dL_law_432 (by decide) ?_
  refine r_iremN M dL_law_434 (by omega) (by omega) (by omega) ?_
  refine r_istore M dL_law_435 (by decide) ?_
  show V 437 [some (.ref (gN g 4)), some (.ref x), some (.ref (ad 0)), some (.ref (ad 1)), some (.ref (ad 2)), some (.ref (ad 3)), some (.ref (ad 4)), some (.ref (ad 5)), some (.ref (ad 6)), some (.ref (ad 7)), some (.int (nI (eN σ))), some (.int (nI (eM σ))), some (.int (ePaid σ)), some (.int (nI 1)), some (.int (nI T)), some (.int (nI k)), z16, some (.int (nI Y)), z18, some (.int (nI P)), z20, some (.int (nI ((Y / 8) % 150))), some (.int (nI ((Y / 32) % 70))), some (.int (nI ((Y / 512) % 60))), z24] _ _ _ _
  refine r_aload_n M dL_law_437 rfl ?_
  refine r_iload M dL_law_438 rfl ?_
  refine r_iload M dL_law_440 rfl ?_
  refine r_iload M dL_law_442 rfl ?_
  refine r_iload M dL_law_444 rfl ?_
  refine r_iload M dL_law_446 rfl ?_
  refine r_bipush (v := nI 13) M dL_law_448 (by decide) ?_
  refine r_ishrN (k := 13) (q := 8192) M dL_law_450 (by omega) (by decide +kernel) rfl ?_
  refine r_iconst (v := nI 4) M dL_law_451 (by decide) ?_
  refine r_iremN M dL_law_452 (by omega) (by omega) (by omega) ?_
  obtain ⟨L, hL, eL, hk2⟩ := s_key hi hP (f := Y / 8 % 150) (u := Y / 32 % 70) (v := Y / 512 % 60) (e := Y / 8192 % 4) (by omega) (by omega) (by omega) (by omega)
  rcases hk2 with ⟨e, h12⟩ | ⟨σ1, K0, e, eK, k1, k12, ⟨hi1, en, em, ep⟩, eT, eA⟩
  · refine r_callSW (As := [(.ref x), (.int (nI P)), (.int (nI ((Y / 8) % 150))), (.int (nI ((Y / 32) % 70))), (.int (nI ((Y / 512) % 60))), (.int (nI ((Y / 8192) % 4)))]) M dL_law_453 rfl (ctw_on (ct_keyed hfl md hi.wf (nI P) (nI (Y / 8 % 150)) (nI (Y / 32 % 70)) (nI (Y / 512 % 60)) (nI (Y / 8192 % 4)) (fun E z => by rw [e] at z; cases z; rfl)) e onV_ise rfl) cw_L_90 ⟨Nat.le_of_ble_eq_true rfl, Nat.le_of_ble_eq_true rfl, Nat.le_of_ble_eq_true rfl⟩ (Nat.le_of_ble_eq_true rfl) ⟨by show _ ≤ 730377; omega, by show _ ≤ 6910568; omega⟩ (fun r4 h1 p3 => ?_) (fun _ _ z => z)
    obtain ⟨rfl, md2⟩ := p3
    show V 456 _ [(.int (-2000013))] h1 _ _
    refine r_istore M dL_law_456 (by decide) ?_
    show V 458 [some (.ref (gN g 4)), some (.ref x), some (.ref (ad 0)), some (.ref (ad 1)), some (.ref (ad 2)), some (.ref (ad 3)), some (.ref (ad 4)), some (.ref (ad 5)), some (.ref (ad 6)), some (.ref (ad 7)), some (.int (nI (eN σ))), some (.int (nI (eM σ))), some (.int (ePaid σ)), some (.int (nI 1)), some (.int (nI T)), some (.int (nI k)), z16, some (.int (nI Y)), z18, some (.int (nI P)), z20, some (.int (nI ((Y / 8) % 150))), some (.int (nI ((Y / 32) % 70))), some (.int (nI ((Y / 512) % 60))), some (.int (-2000013))] _ _ _ _
    refine r_iload M dL_law_458 rfl ?_
    refine r_ldc (v := -2000013) M dL_law_460 cc_L_51 ?_
    refine r_icmp_ne (tgt := 483) M dL_law_462 (by decide) (fun c5 => absurd (by decide) c5) (fun _ => ?_)
    refine r_aload M dL_law_465 rfl ?_
    refine r_iload M dL_law_467 rfl ?_
    refine r_ialdN (n := 5) M dL_law_469 (md2.sh (k := 2) (by decide)) (by omega) (by omega) ?_
    refine r_top _ (nI L) ((md2.rd (k := 2) (by decide) _).trans (eL)) ?_
    refine r_bipush (v := nI 12) M dL_law_470 (by decide) ?_
    refine r_icmp_neN (tgt := 479) M dL_law_472 (by decide) (by omega) (by omega) (fun c6 => absurd h12 c6) (fun c6 => ?_)
    refine r_iconst (v := nI 1) M dL_law_475 (by decide) ?_
    refine r_goto (tgt := 530) M dL_law_476 (by decide) ?_
    refine r_istore M dL_law_530 (by decide) ?_
    show V 532 [some (.ref (gN g 4)), some (.ref x), some (.ref (ad 0)), some (.ref (ad 1)), some (.ref (ad 2)), some (.ref (ad 3)), some (.ref (ad 4)), some (.ref (ad 5)), some (.ref (ad 6)), some (.ref (ad 7)), some (.int (nI (eN σ))), some (.int (nI (eM σ))), some (.int (ePaid σ)), some (.int (nI 1)), some (.int (nI T)), some (.int (nI k)), z16, some (.int (nI Y)), z18, some (.int (nI P)), z20, some (.int (nI ((Y / 8) % 150))), some (.int (nI ((Y / 32) % 70))), some (.int (nI ((Y / 512) % 60))), some (.int (-2000013))] _ _ _ _
    refine r_aload M dL_law_532 rfl ?_
    refine r_iload M dL_law_534 rfl ?_
    refine r_iload M dL_law_536 rfl ?_
    refine r_if_le (tgt := 546) M dL_law_538 (by decide) (fun _ => ?_) (fun c7 => absurd (by decide) c7)
    refine r_aload M dL_law_546 rfl ?_
    refine r_iload M dL_law_548 rfl ?_
    refine r_ialdN (n := 5) M dL_law_550 (md2.sh (k := 2) (by decide)) (by omega) (by omega) ?_
    refine r_top _ (nI L) ((md2.rd (k := 2) (by decide) _).trans (eL)) ?_
    refine r_iastN (n := 5) M dL_law_551 (md2.sh (k := 2) (by decide)) (by omega) (by omega) ?_
    have md8 := md2.st (k := 2) (by decide) P (nI L)
    refine r_goto (tgt := 1626) M dL_law_552 (by decide) ?_
    exact K _ σ _ _ _ _ _ _ _ _ _ (md8.ar (fun k _ b => by rw [u2_id eL])) (hi) (by omega) (by omega) (by omega)
  · refine r_callSW (As := [(.ref x), (.int (nI P)), (.int (nI ((Y / 8) % 150))), (.int (nI ((Y / 32) % 70))), (.int (nI ((Y / 512) % 60))), (.int (nI ((Y / 8192) % 4)))]) M dL_law_453 rfl (ctw_on (ct_keyed hfl md hi.wf (nI P) (nI (Y / 8 % 150)) (nI (Y / 32 % 70)) (nI (Y / 512 % 60)) (nI (Y / 8192 % 4)) (fun E z => by rw [e] at z; cases z)) e rfl rfl) cw_L_90 ⟨Nat.le_of_ble_eq_true rfl, Nat.le_of_ble_eq_true rfl, Nat.le_of_ble_eq_true rfl⟩ (Nat.le_of_ble_eq_true rfl) ⟨by show _ ≤ 730377; omega, by show _ ≤ 6910568; omega⟩ (fun r12 h9 p11 => ?_) (fun _ _ z => z)
    obtain ⟨rfl, md10⟩ := p11
    show V 456 _ [(.int (nI K0))] h9 _ _
    refine r_istore M dL_law_456 (by decide) ?_
    show V 458 [some (.ref (gN g 4)), some (.ref x), some (.ref (ad 0)), some (.ref (ad 1)), some (.ref (ad 2)), some (.ref (ad 3)), some (.ref (ad 4)), some (.ref (ad 5)), some (.ref (ad 6)), some (.ref (ad 7)), some (.int (nI (eN σ))), some (.int (nI (eM σ))), some (.int (ePaid σ)), some (.int (nI 1)), some (.int (nI T)), some (.int (nI k)), z16, some (.int (nI Y)), z18, some (.int (nI P)), z20, some (.int (nI ((Y / 8) % 150))), some (.int (nI ((Y / 32) % 70))), some (.int (nI ((Y / 512) % 60))), some (.int (nI K0))] _ _ _ _
    refine r_iload M dL_law_458 rfl ?_
    refine r_ldc (v := -2000013) M dL_law_460 cc_L_51 ?_
    refine r_icmp_ne (tgt := 483) M dL_law_462 (by decide) (fun c13 => ?_) (fun c13 => absurd c13 (nI_nn (by omega) (by decide)))
    have J : V 505 [some (.ref (gN g 4)), some (.ref x), some (.ref (ad 0)), some (.ref (ad 1)), some (.ref (ad 2)), some (.ref (ad 3)), some (.ref (ad 4)), some (.ref (ad 5)), some (.ref (ad 6)), some (.ref (ad 7)), some (.int (nI (eN σ))), some (.int (nI (eM σ))), some (.int (ePaid σ)), some (.int (nI 1)), some (.int (nI T)), some (.int (nI k)), z16, some (.int (nI Y)), z18, some (.int (nI P)), z20, some (.int (nI ((Y / 8) % 150))), some (.int (nI ((Y / 32) % 70))), some (.int (nI ((Y / 512) % 60))), some (.int (nI K0))] [] h9 (kc + 4) (ks + 1520) := by
      refine r_aload_n M dL_law_505 rfl ?_
      refine r_iload M dL_law_506 rfl ?_
      refine r_iload M dL_law_508 rfl ?_
      refine r_callV (As := [(.int (nI P)), (.int (nI ((Y / 8) % 150)))]) M dL_law_510 rfl (ct_ret (cd_track hfl md10 hi1.wf (nI P) (nI (Y / 8 % 150))) eT) (md10.ox) rfl cw_L_63 ⟨Nat.le_of_ble_eq_true rfl, Nat.le_of_ble_eq_true rfl, Nat.le_of_ble_eq_true rfl⟩ (Nat.le_of_ble_eq_true rfl) ⟨by show _ ≤ 730377; omega, by show _ ≤ 6910568; omega⟩ (fun r17 h14 p16 => ?_) (fun _ _ z => False.elim z)
      obtain ⟨rfl, md15⟩ := p16
      show V 513 _ [(.int (nI (1000 * (Y / 32 % 70) + (Y / 512 % 60))))] h14 _ _
      refine r_sipush (v := nI 1000) M dL_law_513 (by decide) ?_
      refine r_iload M dL_law_516 rfl ?_
      refine r_imulN M dL_law_518 ?_
      refine r_iload M dL_law_519 rfl ?_
      refine r_iaddN M dL_law_521 ?_
      refine r_icmp_neN (tgt := 529) M dL_law_522 (by decide) (by omega) (by omega) (fun c18 => absurd rfl c18) (fun c18 => ?_)
      refine r_iconst (v := nI 1) M dL_law_525 (by decide) ?_
      refine r_goto (tgt := 530) M dL_law_526 (by decide) ?_
      refine r_istore M dL_law_530 (by decide) ?_
      show V 532 [some (.ref (gN g 4)), some (.ref x), some (.ref (ad 0)), some (.ref (ad 1)), some (.ref (ad 2)), some (.ref (ad 3)), some (.ref (ad 4)), some (.ref (ad 5)), some (.ref (ad 6)), some (.ref (ad 7)), some (.int (nI (eN σ))), some (.int (nI (eM σ))), some (.int (ePaid σ)), some (.int (nI 1)), some (.int (nI T)), some (.int (nI k)), z16, some (.int (nI Y)), z18, some (.int (nI P)), z20, some (.int (nI ((Y / 8) % 150))), some (.int (nI ((Y / 32) % 70))), some (.int (nI ((Y / 512) % 60))), some (.int (nI K0))] _ _ _ _
      refine r_aload M dL_law_532 rfl ?_
      refine r_iload M dL_law_534 rfl ?_
      refine r_iload M dL_law_536 rfl ?_
      refine r_if_leN (tgt := 546) M dL_law_538 (by decide) (by omega) (fun c19 => absurd c19 (by omega)) (fun c19 => ?_)
      refine r_iload M dL_law_541 rfl ?_
      refine r_goto (tgt := 551) M dL_law_543 (by decide) ?_
      refine r_iastN (n := 5) M dL_law_551 (md15.sh (k := 2) (by decide)) (by omega) (by omega) ?_
      have md20 := md15.st (k := 2) (by decide) P (nI K0)
      refine r_goto (tgt := 1626) M dL_law_552 (by decide) ?_
      rw [← en, ← em, ← ep]
      exact K _ σ1 _ _ _ _ _ _ _ _ _ (md20.ar eA) (hi1) (by omega) (by omega) (by omega)
    refine r_iload M dL_law_483 rfl ?_
    refine r_aload M dL_law_485 rfl ?_
    refine r_iload M dL_law_487 rfl ?_
    refine r_ialdN (n := 5) M dL_law_489 (md10.sh (k := 2) (by decide)) (by omega) (by omega) ?_
    refine r_top _ (nI L) ((md10.rd (k := 2) (by decide) _).trans (eL)) ?_
    refine r_icmp_eqN (tgt := 505) M dL_law_490 (by decide) (by omega) (by omega) (fun c21 => ?_) (fun c21 => ?_)
    · exact J
    · refine r_iload M dL_law_493 rfl ?_
      refine r_aload M dL_law_495 rfl ?_
      refine r_iload M dL_law_497 rfl ?_
      refine r_ialdN (n := 5) M dL_law_499 (md10.sh (k := 2) (by decide)) (by omega) (by omega) ?_
      refine r_top _ (nI L) ((md10.rd (k := 2) (by decide) _).trans (eL)) ?_
      refine r_iconst (v := nI 1) M dL_law_500 (by decide) ?_
      refine r_iaddN M dL_law_501 ?_
      refine r_icmp_neN (tgt := 529) M dL_law_502 (by decide) (by omega) (by omega) (fun c22 => absurd (eK.resolve_left c21) c22) (fun c22 => ?_)
      exact J
set_option maxRecDepth 100000 in
set_option maxHeartbeats 4000000 in
theorem lc_cut {g : Gl} {l : Launch} (hfl : l.stackTraces = false) {hh : List (Nat × Nat × Nat × Nat)} {mn : String} {V : VT} {X : XT} (M : Mach g l room_1 RL cL_law 25 hh mn V X) {x : Nat} {ad : Nat → Nat} {σ : ST} (hi : Inv σ) {T k Y P t : Nat} (hT : T ≤ 280) (hk : k < T) (hY : Y < 268435456) (hP : P < eN σ) (h : Hp) (md : Mid g h x ad (AR σ) σ) (kc ks : Nat) (hkc : kc ≤ 700000) (hks : ks ≤ 6800000) (z16 z18 z20 z21 z22 z23 z24 : Option Value) (K : LwK g V x ad T k Y P kc ks) : V 562 [some (.ref (gN g 4)), some (.ref x), some (.ref (ad 0)), some (.ref (ad 1)), some (.ref (ad 2)), some (.ref (ad 3)), some (.ref (ad 4)), some (.ref (ad 5)), some (.ref (ad 6)), some (.ref (ad 7)), some (.int (nI (eN σ))), some (.int (nI (eM σ))), some (.int (ePaid σ)), some (.int (nI 1)), some (.int (nI T)), some (.int (nI k)), z16, some (.int (nI Y)), z18, some (.int (nI P)), z20, z21, z22, z23, z24] [] h kc ks := by
  have hw := hi.wf
  have n5 := hi.n5
  have m4 := hi.m4
  show V 562 [some (.ref (gN g 4)), some (.ref x), some (.ref (ad 0)), some (.ref (ad 1)), some (.ref (ad 2)), some (.ref (ad 3)), some (.ref (ad 4)), some (.ref (ad 5)), some (.ref (ad 6)), some (.ref (ad 7)), some (.int (nI (eN σ))), some (.int (nI (eM σ))), some (.int (ePaid σ)), some (.int (nI 1)), some (.int (nI T)), some (.int (nI k)), z16, some (.int (nI Y)), z18, some (.int (nI P)), z20, z21, z22, z23, z24] [] h kc ks
  rcases s_cut hi hP (f := nI (Y / 8 % 150)) with e | ⟨σ1, L, eL, l1, l12, e, ⟨hi1, en, em, ep⟩, e2, eA⟩
  · refine r_aload_n M dL_law_562 rfl ?_
    refine r_iconst (v := nI 0) M dL_law_563 (by decide) ?_
    refine r_iload M dL_law_564 rfl ?_
    refine r_iload M dL_law_566 rfl ?_
    refine r_iconst (v := nI 3) M dL_law_568 (by decide) ?_
    refine r_ishrN (k := 3) (q := 8) M dL_law_569 (by omega) (by decide +kernel) rfl ?_
    refine r_sipush (v := nI 150) M dL_law_570 (by decide) ?_
    refine r_iremN M dL_law_573 (by omega) (by omega) (by omega) ?_
    refine r_iconst (v := nI 0) M dL_law_574 (by decide) ?_
    refine r_iconst (v := nI 0) M dL_law_575 (by decide) ?_
    refine r_callSW (As := [(.ref x), (.int (nI 0)), (.int (nI P)), (.int (nI ((Y / 8) % 150))), (.int (nI 0)), (.int (nI 0))]) M dL_law_576 rfl (ctw_on (ct_on_cut hfl md hi.wf (nI P) (nI (Y / 8 % 150)) (nI 0) (nI 0) (oCt.thr e (Or.inr (Or.inr rfl)))) e onV_nse rfl) cw_L_59 ⟨Nat.le_of_ble_eq_true rfl, Nat.le_of_ble_eq_true rfl, Nat.le_of_ble_eq_true rfl⟩ (Nat.le_of_ble_eq_true rfl) ⟨by show _ ≤ 730377; omega, by show _ ≤ 6910568; omega⟩ (fun r4 h1 p3 => ?_) (fun _ _ z => z)
    obtain ⟨rfl, md2⟩ := p3
    show V 579 _ [(.int (-2000014))] h1 _ _
    refine r_istore M dL_law_579 (by decide) ?_
    show V 581 [some (.ref (gN g 4)), some (.ref x), some (.ref (ad 0)), some (.ref (ad 1)), some (.ref (ad 2)), some (.ref (ad 3)), some (.ref (ad 4)), some (.ref (ad 5)), some (.ref (ad 6)), some (.ref (ad 7)), some (.int (nI (eN σ))), some (.int (nI (eM σ))), some (.int (ePaid σ)), some (.int (nI 1)), some (.int (nI T)), some (.int (nI k)), z16, some (.int (nI Y)), z18, some (.int (nI P)), z20, some (.int (-2000014)), z22, z23, z24] _ _ _ _
    refine r_iload M dL_law_581 rfl ?_
    refine r_ldc (v := -2000014) M dL_law_583 cc_L_54 ?_
    refine r_icmp_eq (tgt := 622) M dL_law_585 (by decide) (fun _ => ?_) (fun c5 => absurd (by decide) c5)
    refine r_iconst (v := nI 1) M dL_law_622 (by decide) ?_
    refine r_goto (tgt := 627) M dL_law_623 (by decide) ?_
    refine r_istore M dL_law_627 (by decide) ?_
    show V 629 [some (.ref (gN g 4)), some (.ref x), some (.ref (ad 0)), some (.ref (ad 1)), some (.ref (ad 2)), some (.ref (ad 3)), some (.ref (ad 4)), some (.ref (ad 5)), some (.ref (ad 6)), some (.ref (ad 7)), some (.int (nI (eN σ))), some (.int (nI (eM σ))), some (.int (ePaid σ)), some (.int (nI 1)), some (.int (nI T)), some (.int (nI k)), z16, some (.int (nI Y)), z18, some (.int (nI P)), z20, some (.int (-2000014)), z22, z23, z24] _ _ _ _
    refine r_aload M dL_law_629 rfl ?_
    refine r_iload M dL_law_631 rfl ?_
    refine r_iload M dL_law_633 rfl ?_
    refine r_if_lt (tgt := 643) M dL_law_635 (by decide) (fun _ => ?_) (fun c6 => absurd (by decide) c6)
    refine r_aload M dL_law_643 rfl ?_
    refine r_iload M dL_law_645 rfl ?_
    refine r_ialdN (n := 5) M dL_law_647 (md2.sh (k := 2) (by decide)) (by omega) (by omega) ?_
    refine r_top _ ((AR σ) 2 P) (md2.rd (k := 2) (by decide) _) ?_
    refine r_iastN (n := 5) M dL_law_648 (md2.sh (k := 2) (by decide)) (by omega) (by omega) ?_
    have md7 := md2.st (k := 2) (by decide) P ((AR σ) 2 P)
    refine r_goto (tgt := 1626) M dL_law_649 (by decide) ?_
    exact K _ σ _ _ _ _ _ _ _ _ _ (md7.ar (fun k _ b => by rw [u2_id rfl])) (hi) (by omega) (by omega) (by omega)
  · refine r_aload_n M dL_law_562 rfl ?_
    refine r_iconst (v := nI 0) M dL_law_563 (by decide) ?_
    refine r_iload M dL_law_564 rfl ?_
    refine r_iload M dL_law_566 rfl ?_
    refine r_iconst (v := nI 3) M dL_law_568 (by decide) ?_
    refine r_ishrN (k := 3) (q := 8) M dL_law_569 (by omega) (by decide +kernel) rfl ?_
    refine r_sipush (v := nI 150) M dL_law_570 (by decide) ?_
    refine r_iremN M dL_law_573 (by omega) (by omega) (by omega) ?_
    refine r_iconst (v := nI 0) M dL_law_574 (by decide) ?_
    refine r_iconst (v := nI 0) M dL_law_575 (by decide) ?_
    refine r_callSW (As := [(.ref x), (.int (nI 0)), (.int (nI P)), (.int (nI ((Y / 8) % 150))), (.int (nI 0)), (.int (nI 0))]) M dL_law_576 rfl (ctw_on (ct_on_cut hfl md hi.wf (nI P) (nI (Y / 8 % 150)) (nI 0) (nI 0) (oCt.ret e)) e rfl rfl) cw_L_59 ⟨Nat.le_of_ble_eq_true rfl, Nat.le_of_ble_eq_true rfl, Nat.le_of_ble_eq_true rfl⟩ (Nat.le_of_ble_eq_true rfl) ⟨by show _ ≤ 730377; omega, by show _ ≤ 6910568; omega⟩ (fun r11 h8 p10 => ?_) (fun _ _ z => z)
    obtain ⟨rfl, md9⟩ := p10
    show V 579 _ [(.int (nI (L - 1)))] h8 _ _
    refine r_istore M dL_law_579 (by decide) ?_
    show V 581 [some (.ref (gN g 4)), some (.ref x), some (.ref (ad 0)), some (.ref (ad 1)), some (.ref (ad 2)), some (.ref (ad 3)), some (.ref (ad 4)), some (.ref (ad 5)), some (.ref (ad 6)), some (.ref (ad 7)), some (.int (nI (eN σ))), some (.int (nI (eM σ))), some (.int (ePaid σ)), some (.int (nI 1)), some (.int (nI T)), some (.int (nI k)), z16, some (.int (nI Y)), z18, some (.int (nI P)), z20, some (.int (nI (L - 1))), z22, z23, z24] _ _ _ _
    refine r_iload M dL_law_581 rfl ?_
    refine r_ldc (v := -2000014) M dL_law_583 cc_L_54 ?_
    refine r_icmp_eq (tgt := 622) M dL_law_585 (by decide) (fun c12 => absurd c12 (nI_nn (by omega) (by decide))) (fun c12 => ?_)
    refine r_iload M dL_law_588 rfl ?_
    refine r_aload M dL_law_590 rfl ?_
    refine r_iload M dL_law_592 rfl ?_
    refine r_ialdN (n := 5) M dL_law_594 (md9.sh (k := 2) (by decide)) (by omega) (by omega) ?_
    refine r_top _ (nI L) ((md9.rd (k := 2) (by decide) _).trans (eL)) ?_
    refine r_iconst (v := nI 1) M dL_law_595 (by decide) ?_
    refine r_isubN M dL_law_596 (by omega) ?_
    refine r_icmp_neN (tgt := 626) M dL_law_597 (by decide) (by omega) (by omega) (fun c13 => absurd rfl c13) (fun c13 => ?_)
    refine r_aload_n M dL_law_600 rfl ?_
    refine r_iconst (v := nI 0) M dL_law_601 (by decide) ?_
    refine r_iload M dL_law_602 rfl ?_
    refine r_iload M dL_law_604 rfl ?_
    refine r_iconst (v := nI 3) M dL_law_606 (by decide) ?_
    refine r_ishrN (k := 3) (q := 8) M dL_law_607 (by omega) (by decide +kernel) rfl ?_
    refine r_sipush (v := nI 150) M dL_law_608 (by decide) ?_
    refine r_iremN M dL_law_611 (by omega) (by omega) (by omega) ?_
    refine r_iconst (v := nI 0) M dL_law_612 (by decide) ?_
    refine r_iconst (v := nI 0) M dL_law_613 (by decide) ?_
    refine r_callSW (As := [(.ref x), (.int (nI 0)), (.int (nI P)), (.int (nI ((Y / 8) % 150))), (.int (nI 0)), (.int (nI 0))]) M dL_law_614 rfl (ctw_on (ct_on_cut hfl md9 hi1.wf (nI P) (nI (Y / 8 % 150)) (nI 0) (nI 0) (oCt.thr e2 (Or.inr (Or.inr rfl)))) e2 onV_nse rfl) cw_L_59 ⟨Nat.le_of_ble_eq_true rfl, Nat.le_of_ble_eq_true rfl, Nat.le_of_ble_eq_true rfl⟩ (Nat.le_of_ble_eq_true rfl) ⟨by show _ ≤ 730377; omega, by show _ ≤ 6910568; omega⟩ (fun r17 h14 p16 => ?_) (fun _ _ z => z)
    obtain ⟨rfl, md15⟩ := p16
    show V 617 _ [(.int (-2000014))] h14 _ _
    refine r_ldc (v := -2000014) M dL_law_617 cc_L_54 ?_
    refine r_icmp_ne (tgt := 626) M dL_law_619 (by decide) (fun c18 => absurd (by decide) c18) (fun _ => ?_)
    refine r_iconst (v := nI 1) M dL_law_622 (by decide) ?_
    refine r_goto (tgt := 627) M dL_law_623 (by decide) ?_
    refine r_istore M dL_law_627 (by decide) ?_
    show V 629 [some (.ref (gN g 4)), some (.ref x), some (.ref (ad 0)), some (.ref (ad 1)), some (.ref (ad 2)), some (.ref (ad 3)), some (.ref (ad 4)), some (.ref (ad 5)), some (.ref (ad 6)), some (.ref (ad 7)), some (.int (nI (eN σ))), some (.int (nI (eM σ))), some (.int (ePaid σ)), some (.int (nI 1)), some (.int (nI T)), some (.int (nI k)), z16, some (.int (nI Y)), z18, some (.int (nI P)), z20, some (.int (nI (L - 1))), z22, z23, z24] _ _ _ _
    refine r_aload M dL_law_629 rfl ?_
    refine r_iload M dL_law_631 rfl ?_
    refine r_iload M dL_law_633 rfl ?_
    refine r_if_lt (tgt := 643) M dL_law_635 (by decide) (fun c19 => absurd c19 (nI_pos (by omega))) (fun _ => ?_)
    refine r_iload M dL_law_638 rfl ?_
    refine r_goto (tgt := 648) M dL_law_640 (by decide) ?_
    refine r_iastN (n := 5) M dL_law_648 (md15.sh (k := 2) (by decide)) (by omega) (by omega) ?_
    have md20 := md15.st (k := 2) (by decide) P (nI (L - 1))
    refine r_goto (tgt := 1626) M dL_law_649 (by decide) ?_
    rw [← en, ← em, ← ep]
    exact K _ σ1 _ _ _ _ _ _ _ _ _ (md20.ar eA) (hi1) (by omega) (by omega) (by omega)
set_option maxRecDepth 100000 in
set_option maxHeartbeats 4000000 in
theorem lc_hear {g : Gl} {l : Launch} (hfl : l.stackTraces = false) {hh : List (Nat × Nat × Nat × Nat)} {mn : String} {V : VT} {X : XT} (M : Mach g l room_1 RL cL_law 25 hh mn V X) {x : Nat} {ad : Nat → Nat} {σ : ST} (hi : Inv σ) {T k Y P t : Nat} (hT : T ≤ 280) (hk : k < T) (hY : Y < 268435456) (hP : P < eN σ) (h : Hp) (md : Mid g h x ad (AR σ) σ) (kc ks : Nat) (hkc : kc ≤ 700000) (hks : ks ≤ 6800000) (z16 z18 z20 z21 z22 z23 z24 : Option Value) (K : LwK g V x ad T k Y P kc ks) : V 659 [some (.ref (gN g 4)), some (.ref x), some (.ref (ad 0)), some (.ref (ad 1)), some (.ref (ad 2)), some (.ref (ad 3)), some (.ref (ad 4)), some (.ref (ad 5)), some (.ref (ad 6)), some (.ref (ad 7)), some (.int (nI (eN σ))), some (.int (nI (eM σ))), some (.int (ePaid σ)), some (.int (nI 1)), some (.int (nI T)), some (.int (nI k)), z16, some (.int (nI Y)), z18, some (.int (nI P)), z20, z21, z22, z23, z24] [] h kc ks := by
  have hw := hi.wf
  have n5 := hi.n5
  have m4 := hi.m4
  show V 659 [some (.ref (gN g 4)), some (.ref x), some (.ref (ad 0)), some (.ref (ad 1)), some (.ref (ad 2)), some (.ref (ad 3)), some (.ref (ad 4)), some (.ref (ad 5)), some (.ref (ad 6)), some (.ref (ad 7)), some (.int (nI (eN σ))), some (.int (nI (eM σ))), some (.int (ePaid σ)), some (.int (nI 1)), some (.int (nI T)), some (.int (nI k)), z16, some (.int (nI Y)), z18, some (.int (nI P)), z20, z21, z22, z23, z24] [] h kc ks
  have J : ∀ f : Int32, (f = -1 ∨ ∃ m ≤ 999, f = nI m) → V 681 [some (.ref (gN g 4)), some (.ref x), some (.ref (ad 0)), some (.ref (ad 1)), some (.ref (ad 2)), some (.ref (ad 3)), some (.ref (ad 4)), some (.ref (ad 5)), some (.ref (ad 6)), some (.ref (ad 7)), some (.int (nI (eN σ))), some (.int (nI (eM σ))), some (.int (ePaid σ)), some (.int (nI 1)), some (.int (nI T)), some (.int (nI k)), z16, some (.int (nI Y)), z18, some (.int (nI P)), z20, z21, z22, z23, z24] [.int f] h kc ks := by
    intro f hf
    obtain ⟨v, σ1, e1, hv, ⟨hi1, en1, em1, ep1⟩, eA1, eh1⟩ := s_hear hi (q := Y / 8 % 10) (by omega) hf
    obtain ⟨v2, σ2, e2, hv2, ⟨hi2, en2, em2, ep2⟩, eA2, eh2⟩ := s_hear hi1 (q := Y / 8 % 10) (by omega) hf
    have ev : v2 = f := (e_hear hi1 (by omega) hf e2).trans eh1
    have en := en2.trans en1
    have em := em2.trans em1
    have ep := ep2.trans ep1
    refine r_istore M dL_law_681 (by decide) ?_
    show V 683 [some (.ref (gN g 4)), some (.ref x), some (.ref (ad 0)), some (.ref (ad 1)), some (.ref (ad 2)), some (.ref (ad 3)), some (.ref (ad 4)), some (.ref (ad 5)), some (.ref (ad 6)), some (.ref (ad 7)), some (.int (nI (eN σ))), some (.int (nI (eM σ))), some (.int (ePaid σ)), some (.int (nI 1)), some (.int (nI T)), some (.int (nI k)), z16, some (.int (nI Y)), z18, some (.int (nI P)), z20, some (.int f), z22, z23, z24] _ _ _ _
    refine r_aload_n M dL_law_683 rfl ?_
    refine r_iload M dL_law_684 rfl ?_
    refine r_iconst (v := nI 3) M dL_law_686 (by decide) ?_
    refine r_ishrN (k := 3) (q := 8) M dL_law_687 (by omega) (by decide +kernel) rfl ?_
    refine r_bipush (v := nI 10) M dL_law_688 (by decide) ?_
    refine r_iremN M dL_law_690 (by omega) (by omega) (by omega) ?_
    refine r_iload M dL_law_691 rfl ?_
    refine r_callV (As := [(.int (nI ((Y / 8) % 10))), (.int f)]) M dL_law_693 rfl (ct_ret (cd_hear hfl md hi.wf (nI (Y / 8 % 10)) f) e1) (md.ox) rfl cw_L_93 ⟨Nat.le_of_ble_eq_true rfl, Nat.le_of_ble_eq_true rfl, Nat.le_of_ble_eq_true rfl⟩ (Nat.le_of_ble_eq_true rfl) ⟨by show _ ≤ 730377; omega, by show _ ≤ 6910568; omega⟩ (fun r4 h1 p3 => ?_) (fun _ _ z => False.elim z)
    obtain ⟨rfl, md2⟩ := p3
    show V 696 _ [(.int v)] h1 _ _
    refine r_iconst (v := -1) M dL_law_696 (by decide) ?_
    refine r_icmp_lt (tgt := 722) M dL_law_697 (by decide) (fun c5 => absurd c5 hv) (fun c5 => ?_)
    refine r_aload_n M dL_law_700 rfl ?_
    refine r_iload M dL_law_701 rfl ?_
    refine r_iconst (v := nI 3) M dL_law_703 (by decide) ?_
    refine r_ishrN (k := 3) (q := 8) M dL_law_704 (by omega) (by decide +kernel) rfl ?_
    refine r_bipush (v := nI 10) M dL_law_705 (by decide) ?_
    refine r_iremN M dL_law_707 (by omega) (by omega) (by omega) ?_
    refine r_iload M dL_law_708 rfl ?_
    refine r_callV (As := [(.int (nI ((Y / 8) % 10))), (.int f)]) M dL_law_710 rfl (ct_ret (cd_hear hfl md2 hi1.wf (nI (Y / 8 % 10)) f) e2) (md2.ox) rfl cw_L_93 ⟨Nat.le_of_ble_eq_true rfl, Nat.le_of_ble_eq_true rfl, Nat.le_of_ble_eq_true rfl⟩ (Nat.le_of_ble_eq_true rfl) ⟨by show _ ≤ 730377; omega, by show _ ≤ 6910568; omega⟩ (fun r9 h6 p8 => ?_) (fun _ _ z => False.elim z)
    obtain ⟨rfl, md7⟩ := p8
    show V 713 _ [(.int v2)] h6 _ _
    refine r_iload M dL_law_713 rfl ?_
    refine r_icmp_ne (tgt := 722) M dL_law_715 (by decide) (fun c10 => absurd ev c10) (fun c10 => ?_)
    refine r_iconst (v := nI 1) M dL_law_718 (by decide) ?_
    refine r_goto (tgt := 723) M dL_law_719 (by decide) ?_
    refine r_istore M dL_law_723 (by decide) ?_
    show V 725 [some (.ref (gN g 4)), some (.ref x), some (.ref (ad 0)), some (.ref (ad 1)), some (.ref (ad 2)), some (.ref (ad 3)), some (.ref (ad 4)), some (.ref (ad 5)), some (.ref (ad 6)), some (.ref (ad 7)), some (.int (nI (eN σ))), some (.int (nI (eM σ))), some (.int (ePaid σ)), some (.int (nI 1)), some (.int (nI T)), some (.int (nI k)), z16, some (.int (nI Y)), z18, some (.int (nI P)), z20, some (.int f), z22, z23, z24] _ _ _ _
    refine r_goto (tgt := 1626) M dL_law_725 (by decide) ?_
    rw [← en, ← em, ← ep]
    exact K _ σ2 _ _ _ _ _ _ _ _ _ (md7.ar (fun k hk b => (eA1 k hk b).trans (eA2 k hk b))) (hi2) (by omega) (by omega) (by omega)
  refine r_iload M dL_law_659 rfl ?_
  refine r_bipush (v := nI 7) M dL_law_661 (by decide) ?_
  refine r_ishrN (k := 7) (q := 128) M dL_law_663 (by omega) (by decide +kernel) rfl ?_
  refine r_iconst (v := nI 3) M dL_law_664 (by decide) ?_
  refine r_iandN (k := 2) (q := 4) M dL_law_665 (by omega) (by decide +kernel) rfl ?_
  refine r_if_neN (tgt := 673) M dL_law_666 (by decide) (by omega) (fun c11 => ?_) (fun c11 => ?_)
  · refine r_iload M dL_law_673 rfl ?_
    refine r_bipush (v := nI 9) M dL_law_675 (by decide) ?_
    refine r_ishrN (k := 9) (q := 512) M dL_law_677 (by omega) (by decide +kernel) rfl ?_
    refine r_bipush (v := nI 100) M dL_law_678 (by decide) ?_
    refine r_iremN M dL_law_680 (by omega) (by omega) (by omega) ?_
    exact J _ (Or.inr ⟨_, by omega, rfl⟩)
  · refine r_iconst (v := -1) M dL_law_669 (by decide) ?_
    refine r_goto (tgt := 681) M dL_law_670 (by decide) ?_
    exact J _ (Or.inl rfl)
set_option maxRecDepth 100000 in
set_option maxHeartbeats 4000000 in
theorem lc_cue {g : Gl} {l : Launch} (hfl : l.stackTraces = false) {hh : List (Nat × Nat × Nat × Nat)} {mn : String} {V : VT} {X : XT} (M : Mach g l room_1 RL cL_law 25 hh mn V X) {x : Nat} {ad : Nat → Nat} {σ : ST} (hi : Inv σ) {T k Y P t : Nat} (hT : T ≤ 280) (hk : k < T) (hY : Y < 268435456) (hP : P < eN σ) (h : Hp) (md : Mid g h x ad (AR σ) σ) (kc ks : Nat) (hkc : kc ≤ 700000) (hks : ks ≤ 6800000) (z16 z18 z20 z21 z22 z23 z24 : Option Value) (K : LwK g V x ad T k Y P kc ks) : V 735 [some (.ref (gN g 4)), some (.ref x), some (.ref (ad 0)), some (.ref (ad 1)), some (.ref (ad 2)), some (.ref (ad 3)), some (.ref (ad 4)), some (.ref (ad 5)), some (.ref (ad 6)), some (.ref (ad 7)), some (.int (nI (eN σ))), some (.int (nI (eM σ))), some (.int (ePaid σ)), some (.int (nI 1)), some (.int (nI T)), some (.int (nI k)), z16, some (.int (nI Y)), z18, some (.int (nI P)), z20, z21, z22, z23, z24] [] h kc ks := by
  have hw := hi.wf
  have n5 := hi.n5
  have m4 := hi.m4
  show V 735 [some (.ref (gN g 4)), some (.ref x), some (.ref (ad 0)), some (.ref (ad 1)), some (.ref (ad 2)), some (.ref (ad 3)), some (.ref (ad 4)), some (.ref (ad 5)), some (.ref (ad 6)), some (.ref (ad 7)), some (.int (nI (eN σ))), some (.int (nI (eM σ))), some (.int (ePaid σ)), some (.int (nI 1)), some (.int (nI T)), some (.int (nI k)), z16, some (.int (nI Y)), z18, some (.int (nI P)), z20, z21, z22, z23, z24] [] h kc ks
  have J : ∀ q : Int32, (q = -1 ∨ ∃ m ≤ 9, q = nI m) → V 755 [some (.ref (gN g 4)), some (.ref x), some (.ref (ad 0)), some (.ref (ad 1)), some (.ref (ad 2)), some (.ref (ad 3)), some (.ref (ad 4)), some (.ref (ad 5)), some (.ref (ad 6)), some (.ref (ad 7)), some (.int (nI (eN σ))), some (.int (nI (eM σ))), some (.int (ePaid σ)), some (.int (nI 1)), some (.int (nI T)), some (.int (nI k)), z16, some (.int (nI Y)), z18, some (.int (nI P)), z20, z21, z22, z23, z24] [.int q] h kc ks := by
    intro q hq
    obtain ⟨v, σ1, e1, hv, ⟨hi1, en1, em1, ep1⟩, eA1, eh1⟩ := s_cue hi hP hq
    obtain ⟨v2, σ2, e2, hv2, ⟨hi2, en2, em2, ep2⟩, eA2, eh2⟩ := s_cue hi1 (p := P) (by omega) hq
    have ev : v2 = q := (e_cue hi1 (by omega) e2).trans eh1
    have en := en2.trans en1
    have em := em2.trans em1
    have ep := ep2.trans ep1
    refine r_istore M dL_law_755 (by decide) ?_
    show V 757 [some (.ref (gN g 4)), some (.ref x), some (.ref (ad 0)), some (.ref (ad 1)), some (.ref (ad 2)), some (.ref (ad 3)), some (.ref (ad 4)), some (.ref (ad 5)), some (.ref (ad 6)), some (.ref (ad 7)), some (.int (nI (eN σ))), some (.int (nI (eM σ))), some (.int (ePaid σ)), some (.int (nI 1)), some (.int (nI T)), some (.int (nI k)), z16, some (.int (nI Y)), z18, some (.int (nI P)), z20, some (.int q), z22, z23, z24] _ _ _ _
    refine r_aload_n M dL_law_757 rfl ?_
    refine r_iload M dL_law_758 rfl ?_
    refine r_iload M dL_law_760 rfl ?_
    refine r_callV (As := [(.int (nI P)), (.int q)]) M dL_law_762 rfl (ct_ret (cd_cue hfl md hi.wf (nI P) q) e1) (md.ox) rfl cw_L_96 ⟨Nat.le_of_ble_eq_true rfl, Nat.le_of_ble_eq_true rfl, Nat.le_of_ble_eq_true rfl⟩ (Nat.le_of_ble_eq_true rfl) ⟨by show _ ≤ 730377; omega, by show _ ≤ 6910568; omega⟩ (fun r4 h1 p3 => ?_) (fun _ _ z => False.elim z)
    obtain ⟨rfl, md2⟩ := p3
    show V 765 _ [(.int v)] h1 _ _
    refine r_iconst (v := -1) M dL_law_765 (by decide) ?_
    refine r_icmp_lt (tgt := 786) M dL_law_766 (by decide) (fun c5 => absurd c5 hv) (fun c5 => ?_)
    refine r_aload_n M dL_law_769 rfl ?_
    refine r_iload M dL_law_770 rfl ?_
    refine r_iload M dL_law_772 rfl ?_
    refine r_callV (As := [(.int (nI P)), (.int q)]) M dL_law_774 rfl (ct_ret (cd_cue hfl md2 hi1.wf (nI P) q) e2) (md2.ox) rfl cw_L_96 ⟨Nat.le_of_ble_eq_true rfl, Nat.le_of_ble_eq_true rfl, Nat.le_of_ble_eq_true rfl⟩ (Nat.le_of_ble_eq_true rfl) ⟨by show _ ≤ 730377; omega, by show _ ≤ 6910568; omega⟩ (fun r9 h6 p8 => ?_) (fun _ _ z => False.elim z)
    obtain ⟨rfl, md7⟩ := p8
    show V 777 _ [(.int v2)] h6 _ _
    refine r_iload M dL_law_777 rfl ?_
    refine r_icmp_ne (tgt := 786) M dL_law_779 (by decide) (fun c10 => absurd ev c10) (fun c10 => ?_)
    refine r_iconst (v := nI 1) M dL_law_782 (by decide) ?_
    refine r_goto (tgt := 787) M dL_law_783 (by decide) ?_
    refine r_istore M dL_law_787 (by decide) ?_
    show V 789 [some (.ref (gN g 4)), some (.ref x), some (.ref (ad 0)), some (.ref (ad 1)), some (.ref (ad 2)), some (.ref (ad 3)), some (.ref (ad 4)), some (.ref (ad 5)), some (.ref (ad 6)), some (.ref (ad 7)), some (.int (nI (eN σ))), some (.int (nI (eM σ))), some (.int (ePaid σ)), some (.int (nI 1)), some (.int (nI T)), some (.int (nI k)), z16, some (.int (nI Y)), z18, some (.int (nI P)), z20, some (.int q), z22, z23, z24] _ _ _ _
    refine r_goto (tgt := 1626) M dL_law_789 (by decide) ?_
    rw [← en, ← em, ← ep]
    exact K _ σ2 _ _ _ _ _ _ _ _ _ (md7.ar (fun k hk b => (eA1 k hk b).trans (eA2 k hk b))) (hi2) (by omega) (by omega) (by omega)
  refine r_iload M dL_law_735 rfl ?_
  refine r_iconst (v := nI 3) M dL_law_737 (by decide) ?_
  refine r_ishrN (k := 3) (q := 8) M dL_law_738 (by omega) (by decide +kernel) rfl ?_
  refine r_iconst (v := nI 3) M dL_law_739 (by decide) ?_
  refine r_iandN (k := 2) (q := 4) M dL_law_740 (by omega) (by decide +kernel) rfl ?_
  refine r_if_neN (tgt := 748) M dL_law_741 (by decide) (by omega) (fun c11 => ?_) (fun c11 => ?_)
  · refine r_iload M dL_law_748 rfl ?_
    refine r_iconst (v := nI 5) M dL_law_750 (by decide) ?_
    refine r_ishrN (k := 5) (q := 32) M dL_law_751 (by omega) (by decide +kernel) rfl ?_
    refine r_bipush (v := nI 10) M dL_law_752 (by decide) ?_
    refine r_iremN M dL_law_754 (by omega) (by omega) (by omega) ?_
    exact J _ (Or.inr ⟨_, by omega, rfl⟩)
  · refine r_iconst (v := -1) M dL_law_744 (by decide) ?_
    refine r_goto (tgt := 755) M dL_law_745 (by decide) ?_
    exact J _ (Or.inl rfl)
set_option maxRecDepth 100000 in
set_option maxHeartbeats 4000000 in
theorem lc_show {g : Gl} {l : Launch} (hfl : l.stackTraces = false) {hh : List (Nat × Nat × Nat × Nat)} {mn : String} {V : VT} {X : XT} (M : Mach g l room_1 RL cL_law 25 hh mn V X) {x : Nat} {ad : Nat → Nat} {σ : ST} (hi : Inv σ) {T k Y P t : Nat} (hT : T ≤ 280) (hk : k < T) (hY : Y < 268435456) (h4 : eM σ < 4) (hP : P < eN σ) (h : Hp) (md : Mid g h x ad (AR σ) σ) (kc ks : Nat) (hkc : kc ≤ 700000) (hks : ks ≤ 6800000) (z16 z18 z20 z21 z22 z23 z24 : Option Value) (K : LwK g V x ad T k Y P kc ks) : V 805 [some (.ref (gN g 4)), some (.ref x), some (.ref (ad 0)), some (.ref (ad 1)), some (.ref (ad 2)), some (.ref (ad 3)), some (.ref (ad 4)), some (.ref (ad 5)), some (.ref (ad 6)), some (.ref (ad 7)), some (.int (nI (eN σ))), some (.int (nI (eM σ))), some (.int (ePaid σ)), some (.int (nI 1)), some (.int (nI T)), some (.int (nI k)), z16, some (.int (nI Y)), z18, some (.int (nI P)), z20, z21, z22, z23, z24] [] h kc ks := by
  have hw := hi.wf
  have n5 := hi.n5
  have m4 := hi.m4
  show V 805 [some (.ref (gN g 4)), some (.ref x), some (.ref (ad 0)), some (.ref (ad 1)), some (.ref (ad 2)), some (.ref (ad 3)), some (.ref (ad 4)), some (.ref (ad 5)), some (.ref (ad 6)), some (.ref (ad 7)), some (.int (nI (eN σ))), some (.int (nI (eM σ))), some (.int (ePaid σ)), some (.int (nI 1)), some (.int (nI T)), some (.int (nI k)), z16, some (.int (nI Y)), z18, some (.int (nI P)), z20, z21, z22, z23, z24] [] h kc ks
  obtain ⟨σ1, e, hi1, en, em, ep, eA⟩ := s_show hi h4 (m := Y / 8 % 200) (n := 1 + Y / 512 % 100) (by omega) (by omega) (by omega)
  refine r_aload M dL_law_805 rfl ?_
  refine r_iload M dL_law_807 rfl ?_
  refine r_iload M dL_law_809 rfl ?_
  refine r_iconst (v := nI 3) M dL_law_811 (by decide) ?_
  refine r_ishrN (k := 3) (q := 8) M dL_law_812 (by omega) (by decide +kernel) rfl ?_
  refine r_sipush (v := nI 200) M dL_law_813 (by decide) ?_
  refine r_iremN M dL_law_816 (by omega) (by omega) (by omega) ?_
  refine r_iastN (n := 4) M dL_law_817 (md.sh (k := 3) (by decide)) (by omega) (by omega) ?_
  have md1 := md.st (k := 3) (by decide) (eM σ) (nI ((Y / 8) % 200))
  refine r_aload M dL_law_818 rfl ?_
  refine r_iload M dL_law_820 rfl ?_
  refine r_iconst (v := nI 1) M dL_law_822 (by decide) ?_
  refine r_iload M dL_law_823 rfl ?_
  refine r_bipush (v := nI 9) M dL_law_825 (by decide) ?_
  refine r_ishrN (k := 9) (q := 512) M dL_law_827 (by omega) (by decide +kernel) rfl ?_
  refine r_bipush (v := nI 100) M dL_law_828 (by decide) ?_
  refine r_iremN M dL_law_830 (by omega) (by omega) (by omega) ?_
  refine r_iaddN M dL_law_831 ?_
  refine r_iastN (n := 4) M dL_law_832 (md1.sh (k := 4) (by decide)) (by omega) (by omega) ?_
  have md2 := md1.st (k := 4) (by decide) (eM σ) (nI (1 + ((Y / 512) % 100)))
  refine r_aload M dL_law_833 rfl ?_
  refine r_iload M dL_law_835 rfl ?_
  refine r_bipush (v := nI 50) M dL_law_837 (by decide) ?_
  refine r_iastN (n := 4) M dL_law_839 (md2.sh (k := 6) (by decide)) (by omega) (by omega) ?_
  have md3 := md2.st (k := 6) (by decide) (eM σ) (nI 50)
  refine r_aload_n M dL_law_840 rfl ?_
  refine r_aload M dL_law_841 rfl ?_
  refine r_iload M dL_law_843 rfl ?_
  refine r_ialdN (n := 4) M dL_law_845 (md3.sh (k := 3) (by decide)) (by omega) (by omega) ?_
  refine r_top _ (nI (Y / 8 % 200)) ((md3.rd (k := 3) (by decide) _).trans ((u2_n _ _ (fun z => absurd z.1 (by decide))).trans ((u2_n _ _ (fun z => absurd z.1 (by decide))).trans (u2_s _ _ _ _)))) ?_
  refine r_aload M dL_law_846 rfl ?_
  refine r_iload M dL_law_848 rfl ?_
  refine r_ialdN (n := 4) M dL_law_850 (md3.sh (k := 4) (by decide)) (by omega) (by omega) ?_
  refine r_top _ (nI (1 + Y / 512 % 100)) ((md3.rd (k := 4) (by decide) _).trans ((u2_n _ _ (fun z => absurd z.1 (by decide))).trans (u2_s _ _ _ _))) ?_
  refine r_callV (As := [(.int (nI (Y / 8 % 200))), (.int (nI (1 + Y / 512 % 100)))]) M dL_law_851 rfl (ct_ret (cd_show hfl md3 hi.wf (nI (Y / 8 % 200)) (nI (1 + Y / 512 % 100))) e) (md3.ox) rfl cw_L_99 ⟨Nat.le_of_ble_eq_true rfl, Nat.le_of_ble_eq_true rfl, Nat.le_of_ble_eq_true rfl⟩ (Nat.le_of_ble_eq_true rfl) ⟨by show _ ≤ 730377; omega, by show _ ≤ 6910568; omega⟩ (fun r7 h4 p6 => ?_) (fun _ _ z => False.elim z)
  obtain ⟨rfl, md5⟩ := p6
  show V 854 _ [(.int (nI (eM σ)))] h4 _ _
  refine r_iload M dL_law_854 rfl ?_
  refine r_icmp_neN (tgt := 863) M dL_law_856 (by decide) (by omega) (by omega) (fun c8 => absurd rfl c8) (fun c8 => ?_)
  refine r_iconst (v := nI 1) M dL_law_859 (by decide) ?_
  refine r_goto (tgt := 864) M dL_law_860 (by decide) ?_
  refine r_istore M dL_law_864 (by decide) ?_
  show V 866 [some (.ref (gN g 4)), some (.ref x), some (.ref (ad 0)), some (.ref (ad 1)), some (.ref (ad 2)), some (.ref (ad 3)), some (.ref (ad 4)), some (.ref (ad 5)), some (.ref (ad 6)), some (.ref (ad 7)), some (.int (nI (eN σ))), some (.int (nI (eM σ))), some (.int (ePaid σ)), some (.int (nI 1)), some (.int (nI T)), some (.int (nI k)), z16, some (.int (nI Y)), z18, some (.int (nI P)), z20, z21, z22, z23, z24] _ _ _ _
  refine r_iincN (k := 1) M dL_law_866 rfl (by decide) (by decide) ?_
  show V 869 [some (.ref (gN g 4)), some (.ref x), some (.ref (ad 0)), some (.ref (ad 1)), some (.ref (ad 2)), some (.ref (ad 3)), some (.ref (ad 4)), some (.ref (ad 5)), some (.ref (ad 6)), some (.ref (ad 7)), some (.int (nI (eN σ))), some (.int (nI (eM σ + 1))), some (.int (ePaid σ)), some (.int (nI 1)), some (.int (nI T)), some (.int (nI k)), z16, some (.int (nI Y)), z18, some (.int (nI P)), z20, z21, z22, z23, z24] _ _ _ _
  refine r_goto (tgt := 1626) M dL_law_869 (by decide) ?_
  rw [← en, ← em, ← ep]
  exact K _ σ1 _ _ _ _ _ _ _ _ _ (md5.ar eA) (hi1) (by omega) (by omega) (by omega)
set_option maxRecDepth 100000 in
set_option maxHeartbeats 4000000 in
theorem lc_cast {g : Gl} {l : Launch} (hfl : l.stackTraces = false) {hh : List (Nat × Nat × Nat × Nat)} {mn : String} {V : VT} {X : XT} (M : Mach g l room_1 RL cL_law 25 hh mn V X) {x : Nat} {ad : Nat → Nat} {σ : ST} (hi : Inv σ) {T k Y P t : Nat} (hT : T ≤ 280) (hk : k < T) (hY : Y < 268435456) (ht : t < eM σ) (hP : P < eN σ) (h : Hp) (md : Mid g h x ad (AR σ) σ) (kc ks : Nat) (hkc : kc ≤ 700000) (hks : ks ≤ 6800000) (z16 z18 z21 z22 z23 z24 : Option Value) (K : LwK g V x ad T k Y P kc ks) : V 884 [some (.ref (gN g 4)), some (.ref x), some (.ref (ad 0)), some (.ref (ad 1)), some (.ref (ad 2)), some (.ref (ad 3)), some (.ref (ad 4)), some (.ref (ad 5)), some (.ref (ad 6)), some (.ref (ad 7)), some (.int (nI (eN σ))), some (.int (nI (eM σ))), some (.int (ePaid σ)), some (.int (nI 1)), some (.int (nI T)), some (.int (nI k)), z16, some (.int (nI Y)), z18, some (.int (nI P)), some (.int (nI t)), z21, z22, z23, z24] [] h kc ks := by
  have hw := hi.wf
  have n5 := hi.n5
  have m4 := hi.m4
  show V 884 [some (.ref (gN g 4)), some (.ref x), some (.ref (ad 0)), some (.ref (ad 1)), some (.ref (ad 2)), some (.ref (ad 3)), some (.ref (ad 4)), some (.ref (ad 5)), some (.ref (ad 6)), some (.ref (ad 7)), some (.int (nI (eN σ))), some (.int (nI (eM σ))), some (.int (ePaid σ)), some (.int (nI 1)), some (.int (nI T)), some (.int (nI k)), z16, some (.int (nI Y)), z18, some (.int (nI P)), some (.int (nI t)), z21, z22, z23, z24] [] h kc ks
  obtain ⟨b, n, hb, hn1, hn2, eb⟩ := (hi.okt ht).1
  have eB : AR σ 3 t = nI b := congrArg Prod.fst eb
  have eE : AR σ 4 t = nI n := congrArg Prod.snd eb
  obtain ⟨C, hC8, eC⟩ : ∃ C : Nat, C ≤ 8 ∧ cnt (tCast (eS σ t)) 8 = C := ⟨_, cnt_le _ _, rfl⟩
  have eAC : AR σ 5 t = nI C := congrArg nI eC
  have sc := s_cast hi ht hP
  rw [eC, eb] at sc
  rcases sc with e | ⟨σ1, e, ⟨hi1, en, em, ep⟩, eA, hf, hw5, hbu⟩
  · have J : ∀ (z : Int32) (h' : Hp) (kc' ks' : Nat), Mid g h' x ad (AR σ) σ → kc' ≤ kc + 2 → ks' ≤ ks + 12 → V 925 [some (.ref (gN g 4)), some (.ref x), some (.ref (ad 0)), some (.ref (ad 1)), some (.ref (ad 2)), some (.ref (ad 3)), some (.ref (ad 4)), some (.ref (ad 5)), some (.ref (ad 6)), some (.ref (ad 7)), some (.int (nI (eN σ))), some (.int (nI (eM σ))), some (.int (ePaid σ)), some (.int (nI 1)), some (.int (nI T)), some (.int (nI k)), z16, some (.int (nI Y)), z18, some (.int (nI P)), some (.int (nI t)), z21, z22, z23, z24] [.int z] h' kc' ks' := by
      intro z h' kc' ks' md' b1 b2
      refine r_istore M dL_law_925 (by decide) ?_
      show V 927 [some (.ref (gN g 4)), some (.ref x), some (.ref (ad 0)), some (.ref (ad 1)), some (.ref (ad 2)), some (.ref (ad 3)), some (.ref (ad 4)), some (.ref (ad 5)), some (.ref (ad 6)), some (.ref (ad 7)), some (.int (nI (eN σ))), some (.int (nI (eM σ))), some (.int (ePaid σ)), some (.int (nI 1)), some (.int (nI T)), some (.int (nI k)), z16, some (.int (nI Y)), z18, some (.int (nI P)), some (.int (nI t)), some (.int z), z22, z23, z24] _ _ _ _
      refine r_aload_n M dL_law_927 rfl ?_
      refine r_iconst (v := nI 1) M dL_law_928 (by decide) ?_
      refine r_iload M dL_law_929 rfl ?_
      refine r_iload M dL_law_931 rfl ?_
      refine r_iconst (v := nI 0) M dL_law_933 (by decide) ?_
      refine r_iconst (v := nI 0) M dL_law_934 (by decide) ?_
      refine r_callSW (As := [(.ref x), (.int (nI 1)), (.int (nI t)), (.int (nI P)), (.int (nI 0)), (.int (nI 0))]) M dL_law_935 rfl (ctw_on (ct_on_cast hfl md' hi.wf (nI t) (nI P) (nI 0) (nI 0) (oCt.thr e (Or.inr (Or.inl rfl)))) e onV_ise rfl) cw_L_59 ⟨Nat.le_of_ble_eq_true rfl, Nat.le_of_ble_eq_true rfl, Nat.le_of_ble_eq_true rfl⟩ (Nat.le_of_ble_eq_true rfl) ⟨by show _ ≤ 730377; omega, by show _ ≤ 6910568; omega⟩ (fun r4 h1 p3 => ?_) (fun _ _ z => z)
      obtain ⟨rfl, md2⟩ := p3
      show V 938 _ [(.int (-2000013))] h1 _ _
      refine r_istore M dL_law_938 (by decide) ?_
      show V 940 [some (.ref (gN g 4)), some (.ref x), some (.ref (ad 0)), some (.ref (ad 1)), some (.ref (ad 2)), some (.ref (ad 3)), some (.ref (ad 4)), some (.ref (ad 5)), some (.ref (ad 6)), some (.ref (ad 7)), some (.int (nI (eN σ))), some (.int (nI (eM σ))), some (.int (ePaid σ)), some (.int (nI 1)), some (.int (nI T)), some (.int (nI k)), z16, some (.int (nI Y)), z18, some (.int (nI P)), some (.int (nI t)), some (.int z), some (.int (-2000013)), z23, z24] _ _ _ _
      refine r_iload M dL_law_940 rfl ?_
      refine r_ldc (v := -2000013) M dL_law_942 cc_L_51 ?_
      refine r_icmp_eq (tgt := 1011) M dL_law_944 (by decide) (fun _ => ?_) (fun c5 => absurd (by decide) c5)
      refine r_iconst (v := nI 1) M dL_law_1011 (by decide) ?_
      refine r_goto (tgt := 1016) M dL_law_1012 (by decide) ?_
      refine r_istore M dL_law_1016 (by decide) ?_
      show V 1018 [some (.ref (gN g 4)), some (.ref x), some (.ref (ad 0)), some (.ref (ad 1)), some (.ref (ad 2)), some (.ref (ad 3)), some (.ref (ad 4)), some (.ref (ad 5)), some (.ref (ad 6)), some (.ref (ad 7)), some (.int (nI (eN σ))), some (.int (nI (eM σ))), some (.int (ePaid σ)), some (.int (nI 1)), some (.int (nI T)), some (.int (nI k)), z16, some (.int (nI Y)), z18, some (.int (nI P)), some (.int (nI t)), some (.int z), some (.int (-2000013)), z23, z24] _ _ _ _
      refine r_aload M dL_law_1018 rfl ?_
      refine r_iload M dL_law_1020 rfl ?_
      refine r_iload M dL_law_1022 rfl ?_
      refine r_if_le (tgt := 1032) M dL_law_1024 (by decide) (fun _ => ?_) (fun c6 => absurd (by decide) c6)
      refine r_aload M dL_law_1032 rfl ?_
      refine r_iload M dL_law_1034 rfl ?_
      refine r_ialdN (n := 4) M dL_law_1036 (md2.sh (k := 5) (by decide)) (by omega) (by omega) ?_
      refine r_top _ (nI C) ((md2.rd (k := 5) (by decide) _).trans (eAC)) ?_
      refine r_iastN (n := 4) M dL_law_1037 (md2.sh (k := 5) (by decide)) (by omega) (by omega) ?_
      have md7 := md2.st (k := 5) (by decide) t (nI C)
      refine r_goto (tgt := 1626) M dL_law_1038 (by decide) ?_
      exact K _ σ _ _ _ _ _ _ _ _ _ (md7.ar (fun k _ b => by rw [u2_id eAC])) (hi) (by omega) (by omega) (by omega)
    refine r_aload_n M dL_law_884 rfl ?_
    refine r_iload M dL_law_885 rfl ?_
    refine r_aload M dL_law_887 rfl ?_
    refine r_iload M dL_law_889 rfl ?_
    refine r_ialdN (n := 4) M dL_law_891 (md.sh (k := 3) (by decide)) (by omega) (by omega) ?_
    refine r_top _ (nI b) ((md.rd (k := 3) (by decide) _).trans (eB)) ?_
    refine r_callV (As := [(.int (nI P)), (.int (nI b))]) M dL_law_892 rfl (ct_ret (cd_isBusy hfl md hi.wf (nI P) (nI b)) (e_isBusy hi (by omega) (by omega))) (md.ox) rfl cw_L_102 ⟨Nat.le_of_ble_eq_true rfl, Nat.le_of_ble_eq_true rfl, Nat.le_of_ble_eq_true rfl⟩ (Nat.le_of_ble_eq_true rfl) ⟨by show _ ≤ 730377; omega, by show _ ≤ 6910568; omega⟩ (fun r11 h8 p10 => ?_) (fun _ _ z => False.elim z)
    obtain ⟨rfl, md9⟩ := p10
    show V 895 _ [(.int (bI (takenS σ P (nI b, nI 1))))] h8 _ _
    refine r_if_neB (tgt := 920) M dL_law_895 (by decide) (fun c12 => ?_) (fun c12 => ?_)
    · refine r_iconst (v := nI 1) M dL_law_920 (by decide) ?_
      refine r_goto (tgt := 925) M dL_law_921 (by decide) ?_
      exact J _ _ _ _ md9 (by omega) (by omega)
    · refine r_aload_n M dL_law_898 rfl ?_
      refine r_iload M dL_law_899 rfl ?_
      refine r_aload M dL_law_901 rfl ?_
      refine r_iload M dL_law_903 rfl ?_
      refine r_ialdN (n := 4) M dL_law_905 (md9.sh (k := 3) (by decide)) (by omega) (by omega) ?_
      refine r_top _ (nI b) ((md9.rd (k := 3) (by decide) _).trans (eB)) ?_
      refine r_aload M dL_law_906 rfl ?_
      refine r_iload M dL_law_908 rfl ?_
      refine r_ialdN (n := 4) M dL_law_910 (md9.sh (k := 4) (by decide)) (by omega) (by omega) ?_
      refine r_top _ (nI n) ((md9.rd (k := 4) (by decide) _).trans (eE)) ?_
      refine r_iaddN M dL_law_911 ?_
      refine r_iconst (v := nI 1) M dL_law_912 (by decide) ?_
      refine r_isubN M dL_law_913 (by omega) ?_
      refine r_callV (As := [(.int (nI P)), (.int (nI ((b + n) - 1)))]) M dL_law_914 rfl (ct_ret (cd_isBusy hfl md9 hi.wf (nI P) (nI (b + n - 1))) (e_isBusy hi (by omega) (by omega))) (md9.ox) rfl cw_L_102 ⟨Nat.le_of_ble_eq_true rfl, Nat.le_of_ble_eq_true rfl, Nat.le_of_ble_eq_true rfl⟩ (Nat.le_of_ble_eq_true rfl) ⟨by show _ ≤ 730377; omega, by show _ ≤ 6910568; omega⟩ (fun r16 h13 p15 => ?_) (fun _ _ z => False.elim z)
      obtain ⟨rfl, md14⟩ := p15
      show V 917 _ [(.int (bI (takenS σ P (nI (b + n - 1), nI 1))))] h13 _ _
      refine r_if_eqB (tgt := 924) M dL_law_917 (by decide) (fun c17 => ?_) (fun c17 => ?_)
      · refine r_iconst (v := nI 0) M dL_law_924 (by decide) ?_
        exact J _ _ _ _ md14 (by omega) (by omega)
      · refine r_iconst (v := nI 1) M dL_law_920 (by decide) ?_
        refine r_goto (tgt := 925) M dL_law_921 (by decide) ?_
        exact J _ _ _ _ md14 (by omega) (by omega)
  · have f1 := taken_sub hi hP (Nat.le_refl b) (by omega) (by omega) hf
    have f2 := taken_sub hi hP (m := b + n - 1) (by omega) (by omega) (by omega) hf
    have g1 := hbu b ((meet_nI (by omega) (by omega)).mpr (by omega))
    have g2 := hbu (b + n - 1) ((meet_nI (by omega) (by omega)).mpr (by omega))
    refine r_aload_n M dL_law_884 rfl ?_
    refine r_iload M dL_law_885 rfl ?_
    refine r_aload M dL_law_887 rfl ?_
    refine r_iload M dL_law_889 rfl ?_
    refine r_ialdN (n := 4) M dL_law_891 (md.sh (k := 3) (by decide)) (by omega) (by omega) ?_
    refine r_top _ (nI b) ((md.rd (k := 3) (by decide) _).trans (eB)) ?_
    refine r_callV (As := [(.int (nI P)), (.int (nI b))]) M dL_law_892 rfl (ct_ret (cd_isBusy hfl md hi.wf (nI P) (nI b)) (e_isBusy hi (by omega) (by omega))) (md.ox) rfl cw_L_102 ⟨Nat.le_of_ble_eq_true rfl, Nat.le_of_ble_eq_true rfl, Nat.le_of_ble_eq_true rfl⟩ (Nat.le_of_ble_eq_true rfl) ⟨by show _ ≤ 730377; omega, by show _ ≤ 6910568; omega⟩ (fun r21 h18 p20 => ?_) (fun _ _ z => False.elim z)
    obtain ⟨rfl, md19⟩ := p20
    show V 895 _ [(.int (bI (takenS σ P (nI b, nI 1))))] h18 _ _
    refine r_if_neB (tgt := 920) M dL_law_895 (by decide) (fun c22 => by rw [f1] at c22; cases c22) (fun c22 => ?_)
    refine r_aload_n M dL_law_898 rfl ?_
    refine r_iload M dL_law_899 rfl ?_
    refine r_aload M dL_law_901 rfl ?_
    refine r_iload M dL_law_903 rfl ?_
    refine r_ialdN (n := 4) M dL_law_905 (md19.sh (k := 3) (by decide)) (by omega) (by omega) ?_
    refine r_top _ (nI b) ((md19.rd (k := 3) (by decide) _).trans (eB)) ?_
    refine r_aload M dL_law_906 rfl ?_
    refine r_iload M dL_law_908 rfl ?_
    refine r_ialdN (n := 4) M dL_law_910 (md19.sh (k := 4) (by decide)) (by omega) (by omega) ?_
    refine r_top _ (nI n) ((md19.rd (k := 4) (by decide) _).trans (eE)) ?_
    refine r_iaddN M dL_law_911 ?_
    refine r_iconst (v := nI 1) M dL_law_912 (by decide) ?_
    refine r_isubN M dL_law_913 (by omega) ?_
    refine r_callV (As := [(.int (nI P)), (.int (nI ((b + n) - 1)))]) M dL_law_914 rfl (ct_ret (cd_isBusy hfl md19 hi.wf (nI P) (nI (b + n - 1))) (e_isBusy hi (by omega) (by omega))) (md19.ox) rfl cw_L_102 ⟨Nat.le_of_ble_eq_true rfl, Nat.le_of_ble_eq_true rfl, Nat.le_of_ble_eq_true rfl⟩ (Nat.le_of_ble_eq_true rfl) ⟨by show _ ≤ 730377; omega, by show _ ≤ 6910568; omega⟩ (fun r26 h23 p25 => ?_) (fun _ _ z => False.elim z)
    obtain ⟨rfl, md24⟩ := p25
    show V 917 _ [(.int (bI (takenS σ P (nI (b + n - 1), nI 1))))] h23 _ _
    refine r_if_eqB (tgt := 924) M dL_law_917 (by decide) (fun c27 => ?_) (fun c27 => by rw [f2] at c27; cases c27)
    refine r_iconst (v := nI 0) M dL_law_924 (by decide) ?_
    refine r_istore M dL_law_925 (by decide) ?_
    show V 927 [some (.ref (gN g 4)), some (.ref x), some (.ref (ad 0)), some (.ref (ad 1)), some (.ref (ad 2)), some (.ref (ad 3)), some (.ref (ad 4)), some (.ref (ad 5)), some (.ref (ad 6)), some (.ref (ad 7)), some (.int (nI (eN σ))), some (.int (nI (eM σ))), some (.int (ePaid σ)), some (.int (nI 1)), some (.int (nI T)), some (.int (nI k)), z16, some (.int (nI Y)), z18, some (.int (nI P)), some (.int (nI t)), some (.int (nI 0)), z22, z23, z24] _ _ _ _
    refine r_aload_n M dL_law_927 rfl ?_
    refine r_iconst (v := nI 1) M dL_law_928 (by decide) ?_
    refine r_iload M dL_law_929 rfl ?_
    refine r_iload M dL_law_931 rfl ?_
    refine r_iconst (v := nI 0) M dL_law_933 (by decide) ?_
    refine r_iconst (v := nI 0) M dL_law_934 (by decide) ?_
    refine r_callSW (As := [(.ref x), (.int (nI 1)), (.int (nI t)), (.int (nI P)), (.int (nI 0)), (.int (nI 0))]) M dL_law_935 rfl (ctw_on (ct_on_cast hfl md24 hi.wf (nI t) (nI P) (nI 0) (nI 0) (oCt.ret e)) e rfl rfl) cw_L_59 ⟨Nat.le_of_ble_eq_true rfl, Nat.le_of_ble_eq_true rfl, Nat.le_of_ble_eq_true rfl⟩ (Nat.le_of_ble_eq_true rfl) ⟨by show _ ≤ 730377; omega, by show _ ≤ 6910568; omega⟩ (fun r31 h28 p30 => ?_) (fun _ _ z => z)
    obtain ⟨rfl, md29⟩ := p30
    show V 938 _ [(.int (nI (C + 1)))] h28 _ _
    refine r_istore M dL_law_938 (by decide) ?_
    show V 940 [some (.ref (gN g 4)), some (.ref x), some (.ref (ad 0)), some (.ref (ad 1)), some (.ref (ad 2)), some (.ref (ad 3)), some (.ref (ad 4)), some (.ref (ad 5)), some (.ref (ad 6)), some (.ref (ad 7)), some (.int (nI (eN σ))), some (.int (nI (eM σ))), some (.int (ePaid σ)), some (.int (nI 1)), some (.int (nI T)), some (.int (nI k)), z16, some (.int (nI Y)), z18, some (.int (nI P)), some (.int (nI t)), some (.int (nI 0)), some (.int (nI (C + 1))), z23, z24] _ _ _ _
    refine r_iload M dL_law_940 rfl ?_
    refine r_ldc (v := -2000013) M dL_law_942 cc_L_51 ?_
    refine r_icmp_eq (tgt := 1011) M dL_law_944 (by decide) (fun c32 => absurd c32 (nI_nn (by omega) (by decide))) (fun c32 => ?_)
    refine r_iload M dL_law_947 rfl ?_
    refine r_aload M dL_law_949 rfl ?_
    refine r_iload M dL_law_951 rfl ?_
    refine r_ialdN (n := 4) M dL_law_953 (md29.sh (k := 5) (by decide)) (by omega) (by omega) ?_
    refine r_top _ (nI C) ((md29.rd (k := 5) (by decide) _).trans (eAC)) ?_
    refine r_iconst (v := nI 1) M dL_law_954 (by decide) ?_
    refine r_iaddN M dL_law_955 ?_
    refine r_icmp_neN (tgt := 1015) M dL_law_956 (by decide) (by omega) (by omega) (fun c33 => absurd rfl c33) (fun c33 => ?_)
    refine r_iload M dL_law_959 rfl ?_
    refine r_if_ne (tgt := 1015) M dL_law_961 (by decide) (fun c34 => absurd (by decide) c34) (fun _ => ?_)
    refine r_aload_n M dL_law_964 rfl ?_
    refine r_iload M dL_law_965 rfl ?_
    refine r_aload M dL_law_967 rfl ?_
    refine r_iload M dL_law_969 rfl ?_
    refine r_ialdN (n := 4) M dL_law_971 (md29.sh (k := 3) (by decide)) (by omega) (by omega) ?_
    refine r_top _ (nI b) ((md29.rd (k := 3) (by decide) _).trans (eB)) ?_
    refine r_callV (As := [(.int (nI P)), (.int (nI b))]) M dL_law_972 rfl (ct_ret (cd_isBusy hfl md29 hi1.wf (nI P) (nI b)) (e_isBusy hi1 (by omega) (by omega))) (md29.ox) rfl cw_L_102 ⟨Nat.le_of_ble_eq_true rfl, Nat.le_of_ble_eq_true rfl, Nat.le_of_ble_eq_true rfl⟩ (Nat.le_of_ble_eq_true rfl) ⟨by show _ ≤ 730377; omega, by show _ ≤ 6910568; omega⟩ (fun r38 h35 p37 => ?_) (fun _ _ z => False.elim z)
    obtain ⟨rfl, md36⟩ := p37
    show V 975 _ [(.int (bI (takenS σ1 P (nI b, nI 1))))] h35 _ _
    refine r_if_eqB (tgt := 1015) M dL_law_975 (by decide) (fun c39 => by rw [g1] at c39; cases c39) (fun c39 => ?_)
    refine r_aload_n M dL_law_978 rfl ?_
    refine r_iload M dL_law_979 rfl ?_
    refine r_aload M dL_law_981 rfl ?_
    refine r_iload M dL_law_983 rfl ?_
    refine r_ialdN (n := 4) M dL_law_985 (md36.sh (k := 3) (by decide)) (by omega) (by omega) ?_
    refine r_top _ (nI b) ((md36.rd (k := 3) (by decide) _).trans (eB)) ?_
    refine r_aload M dL_law_986 rfl ?_
    refine r_iload M dL_law_988 rfl ?_
    refine r_ialdN (n := 4) M dL_law_990 (md36.sh (k := 4) (by decide)) (by omega) (by omega) ?_
    refine r_top _ (nI n) ((md36.rd (k := 4) (by decide) _).trans (eE)) ?_
    refine r_iaddN M dL_law_991 ?_
    refine r_iconst (v := nI 1) M dL_law_992 (by decide) ?_
    refine r_isubN M dL_law_993 (by omega) ?_
    refine r_callV (As := [(.int (nI P)), (.int (nI ((b + n) - 1)))]) M dL_law_994 rfl (ct_ret (cd_isBusy hfl md36 hi1.wf (nI P) (nI (b + n - 1))) (e_isBusy hi1 (by omega) (by omega))) (md36.ox) rfl cw_L_102 ⟨Nat.le_of_ble_eq_true rfl, Nat.le_of_ble_eq_true rfl, Nat.le_of_ble_eq_true rfl⟩ (Nat.le_of_ble_eq_true rfl) ⟨by show _ ≤ 730377; omega, by show _ ≤ 6910568; omega⟩ (fun r43 h40 p42 => ?_) (fun _ _ z => False.elim z)
    obtain ⟨rfl, md41⟩ := p42
    show V 997 _ [(.int (bI (takenS σ1 P (nI (b + n - 1), nI 1))))] h40 _ _
    refine r_if_eqB (tgt := 1015) M dL_law_997 (by decide) (fun c44 => by rw [g2] at c44; cases c44) (fun c44 => ?_)
    refine r_aload_n M dL_law_1000 rfl ?_
    refine r_iload M dL_law_1001 rfl ?_
    refine r_callV (As := [(.int (nI P))]) M dL_law_1003 rfl (ct_ret (cd_worn hfl md41 hi1.wf (nI P)) (e_worn hi1 (by omega))) (md41.ox) rfl cw_L_84 ⟨Nat.le_of_ble_eq_true rfl, Nat.le_of_ble_eq_true rfl, Nat.le_of_ble_eq_true rfl⟩ (Nat.le_of_ble_eq_true rfl) ⟨by show _ ≤ 730377; omega, by show _ ≤ 6910568; omega⟩ (fun r48 h45 p47 => ?_) (fun _ _ z => False.elim z)
    obtain ⟨rfl, md46⟩ := p47
    show V 1006 _ [(.int (nI (qWorn (eP σ1 P))))] h45 _ _
    refine r_bipush (v := nI 50) M dL_law_1006 (by decide) ?_
    refine r_icmp_geN (tgt := 1015) M dL_law_1008 (by decide) (by omega) (by omega) (fun c49 => absurd c49 (by omega)) (fun c49 => ?_)
    refine r_iconst (v := nI 1) M dL_law_1011 (by decide) ?_
    refine r_goto (tgt := 1016) M dL_law_1012 (by decide) ?_
    refine r_istore M dL_law_1016 (by decide) ?_
    show V 1018 [some (.ref (gN g 4)), some (.ref x), some (.ref (ad 0)), some (.ref (ad 1)), some (.ref (ad 2)), some (.ref (ad 3)), some (.ref (ad 4)), some (.ref (ad 5)), some (.ref (ad 6)), some (.ref (ad 7)), some (.int (nI (eN σ))), some (.int (nI (eM σ))), some (.int (ePaid σ)), some (.int (nI 1)), some (.int (nI T)), some (.int (nI k)), z16, some (.int (nI Y)), z18, some (.int (nI P)), some (.int (nI t)), some (.int (nI 0)), some (.int (nI (C + 1))), z23, z24] _ _ _ _
    refine r_aload M dL_law_1018 rfl ?_
    refine r_iload M dL_law_1020 rfl ?_
    refine r_iload M dL_law_1022 rfl ?_
    refine r_if_leN (tgt := 1032) M dL_law_1024 (by decide) (by omega) (fun c50 => absurd c50 (by omega)) (fun c50 => ?_)
    refine r_iload M dL_law_1027 rfl ?_
    refine r_goto (tgt := 1037) M dL_law_1029 (by decide) ?_
    refine r_iastN (n := 4) M dL_law_1037 (md46.sh (k := 5) (by decide)) (by omega) (by omega) ?_
    have md51 := md46.st (k := 5) (by decide) t (nI (C + 1))
    refine r_goto (tgt := 1626) M dL_law_1038 (by decide) ?_
    rw [← en, ← em, ← ep]
    exact K _ σ1 _ _ _ _ _ _ _ _ _ (md51.ar eA) (hi1) (by omega) (by omega) (by omega)
set_option maxRecDepth 100000 in
set_option maxHeartbeats 4000000 in
theorem lc_leave {g : Gl} {l : Launch} (hfl : l.stackTraces = false) {hh : List (Nat × Nat × Nat × Nat)} {mn : String} {V : VT} {X : XT} (M : Mach g l room_1 RL cL_law 25 hh mn V X) {x : Nat} {ad : Nat → Nat} {σ : ST} (hi : Inv σ) {T k Y P t : Nat} (hT : T ≤ 280) (hk : k < T) (hY : Y < 268435456) (ht : t < eM σ) (hP : P < eN σ) (h : Hp) (md : Mid g h x ad (AR σ) σ) (kc ks : Nat) (hkc : kc ≤ 700000) (hks : ks ≤ 6800000) (z16 z18 z21 z22 z23 z24 : Option Value) (K : LwK g V x ad T k Y P kc ks) : V 1063 [some (.ref (gN g 4)), some (.ref x), some (.ref (ad 0)), some (.ref (ad 1)), some (.ref (ad 2)), some (.ref (ad 3)), some (.ref (ad 4)), some (.ref (ad 5)), some (.ref (ad 6)), some (.ref (ad 7)), some (.int (nI (eN σ))), some (.int (nI (eM σ))), some (.int (ePaid σ)), some (.int (nI 1)), some (.int (nI T)), some (.int (nI k)), z16, some (.int (nI Y)), z18, some (.int (nI P)), some (.int (nI t)), z21, z22, z23, z24] [] h kc ks := by
  have hw := hi.wf
  have n5 := hi.n5
  have m4 := hi.m4
  show V 1063 [some (.ref (gN g 4)), some (.ref x), some (.ref (ad 0)), some (.ref (ad 1)), some (.ref (ad 2)), some (.ref (ad 3)), some (.ref (ad 4)), some (.ref (ad 5)), some (.ref (ad 6)), some (.ref (ad 7)), some (.int (nI (eN σ))), some (.int (nI (eM σ))), some (.int (ePaid σ)), some (.int (nI 1)), some (.int (nI T)), some (.int (nI k)), z16, some (.int (nI Y)), z18, some (.int (nI P)), some (.int (nI t)), z21, z22, z23, z24] [] h kc ks
  obtain ⟨b, n, hb, hn1, hn2, eb⟩ := (hi.okt ht).1
  have eB : AR σ 3 t = nI b := congrArg Prod.fst eb
  have eE : AR σ 4 t = nI n := congrArg Prod.snd eb
  obtain ⟨C, hC8, eC⟩ : ∃ C : Nat, C ≤ 8 ∧ cnt (tCast (eS σ t)) 8 = C := ⟨_, cnt_le _ _, rfl⟩
  have eAC : AR σ 5 t = nI C := congrArg nI eC
  have sc := s_leave hi ht hP
  rw [eC, eb] at sc
  rcases sc with e | ⟨σ1, c1, e, ⟨hi1, en, em, ep⟩, eA, hf, ex⟩
  · refine r_aload_n M dL_law_1063 rfl ?_
    refine r_iconst (v := nI 2) M dL_law_1064 (by decide) ?_
    refine r_iload M dL_law_1065 rfl ?_
    refine r_iload M dL_law_1067 rfl ?_
    refine r_iconst (v := nI 0) M dL_law_1069 (by decide) ?_
    refine r_iconst (v := nI 0) M dL_law_1070 (by decide) ?_
    refine r_callSW (As := [(.ref x), (.int (nI 2)), (.int (nI t)), (.int (nI P)), (.int (nI 0)), (.int (nI 0))]) M dL_law_1071 rfl (ctw_on (ct_on_leave hfl md hi.wf (nI t) (nI P) (nI 0) (nI 0) (oCt.thr e (Or.inr (Or.inl rfl)))) e onV_ise rfl) cw_L_59 ⟨Nat.le_of_ble_eq_true rfl, Nat.le_of_ble_eq_true rfl, Nat.le_of_ble_eq_true rfl⟩ (Nat.le_of_ble_eq_true rfl) ⟨by show _ ≤ 730377; omega, by show _ ≤ 6910568; omega⟩ (fun r4 h1 p3 => ?_) (fun _ _ z => z)
    obtain ⟨rfl, md2⟩ := p3
    show V 1074 _ [(.int (-2000013))] h1 _ _
    refine r_istore M dL_law_1074 (by decide) ?_
    show V 1076 [some (.ref (gN g 4)), some (.ref x), some (.ref (ad 0)), some (.ref (ad 1)), some (.ref (ad 2)), some (.ref (ad 3)), some (.ref (ad 4)), some (.ref (ad 5)), some (.ref (ad 6)), some (.ref (ad 7)), some (.int (nI (eN σ))), some (.int (nI (eM σ))), some (.int (ePaid σ)), some (.int (nI 1)), some (.int (nI T)), some (.int (nI k)), z16, some (.int (nI Y)), z18, some (.int (nI P)), some (.int (nI t)), some (.int (-2000013)), z22, z23, z24] _ _ _ _
    refine r_iload M dL_law_1076 rfl ?_
    refine r_ldc (v := -2000013) M dL_law_1078 cc_L_51 ?_
    refine r_icmp_eq (tgt := 1126) M dL_law_1080 (by decide) (fun _ => ?_) (fun c5 => absurd (by decide) c5)
    refine r_iconst (v := nI 1) M dL_law_1126 (by decide) ?_
    refine r_goto (tgt := 1131) M dL_law_1127 (by decide) ?_
    refine r_istore M dL_law_1131 (by decide) ?_
    show V 1133 [some (.ref (gN g 4)), some (.ref x), some (.ref (ad 0)), some (.ref (ad 1)), some (.ref (ad 2)), some (.ref (ad 3)), some (.ref (ad 4)), some (.ref (ad 5)), some (.ref (ad 6)), some (.ref (ad 7)), some (.int (nI (eN σ))), some (.int (nI (eM σ))), some (.int (ePaid σ)), some (.int (nI 1)), some (.int (nI T)), some (.int (nI k)), z16, some (.int (nI Y)), z18, some (.int (nI P)), some (.int (nI t)), some (.int (-2000013)), z22, z23, z24] _ _ _ _
    refine r_aload M dL_law_1133 rfl ?_
    refine r_iload M dL_law_1135 rfl ?_
    refine r_iload M dL_law_1137 rfl ?_
    refine r_if_lt (tgt := 1147) M dL_law_1139 (by decide) (fun _ => ?_) (fun c6 => absurd (by decide) c6)
    refine r_aload M dL_law_1147 rfl ?_
    refine r_iload M dL_law_1149 rfl ?_
    refine r_ialdN (n := 4) M dL_law_1151 (md2.sh (k := 5) (by decide)) (by omega) (by omega) ?_
    refine r_top _ (nI C) ((md2.rd (k := 5) (by decide) _).trans (eAC)) ?_
    refine r_iastN (n := 4) M dL_law_1152 (md2.sh (k := 5) (by decide)) (by omega) (by omega) ?_
    have md7 := md2.st (k := 5) (by decide) t (nI C)
    refine r_goto (tgt := 1626) M dL_law_1153 (by decide) ?_
    exact K _ σ _ _ _ _ _ _ _ _ _ (md7.ar (fun k _ b => by rw [u2_id eAC])) (hi) (by omega) (by omega) (by omega)
  · have f1 := taken_sub hi1 (i := P) (by omega) (Nat.le_refl b) (by omega) (by omega) hf
    refine r_aload_n M dL_law_1063 rfl ?_
    refine r_iconst (v := nI 2) M dL_law_1064 (by decide) ?_
    refine r_iload M dL_law_1065 rfl ?_
    refine r_iload M dL_law_1067 rfl ?_
    refine r_iconst (v := nI 0) M dL_law_1069 (by decide) ?_
    refine r_iconst (v := nI 0) M dL_law_1070 (by decide) ?_
    refine r_callSW (As := [(.ref x), (.int (nI 2)), (.int (nI t)), (.int (nI P)), (.int (nI 0)), (.int (nI 0))]) M dL_law_1071 rfl (ctw_on (ct_on_leave hfl md hi.wf (nI t) (nI P) (nI 0) (nI 0) (oCt.ret e)) e rfl rfl) cw_L_59 ⟨Nat.le_of_ble_eq_true rfl, Nat.le_of_ble_eq_true rfl, Nat.le_of_ble_eq_true rfl⟩ (Nat.le_of_ble_eq_true rfl) ⟨by show _ ≤ 730377; omega, by show _ ≤ 6910568; omega⟩ (fun r11 h8 p10 => ?_) (fun _ _ z => z)
    obtain ⟨rfl, md9⟩ := p10
    show V 1074 _ [(.int (nI (C - 1)))] h8 _ _
    refine r_istore M dL_law_1074 (by decide) ?_
    show V 1076 [some (.ref (gN g 4)), some (.ref x), some (.ref (ad 0)), some (.ref (ad 1)), some (.ref (ad 2)), some (.ref (ad 3)), some (.ref (ad 4)), some (.ref (ad 5)), some (.ref (ad 6)), some (.ref (ad 7)), some (.int (nI (eN σ))), some (.int (nI (eM σ))), some (.int (ePaid σ)), some (.int (nI 1)), some (.int (nI T)), some (.int (nI k)), z16, some (.int (nI Y)), z18, some (.int (nI P)), some (.int (nI t)), some (.int (nI (C - 1))), z22, z23, z24] _ _ _ _
    refine r_iload M dL_law_1076 rfl ?_
    refine r_ldc (v := -2000013) M dL_law_1078 cc_L_51 ?_
    refine r_icmp_eq (tgt := 1126) M dL_law_1080 (by decide) (fun c12 => absurd c12 (nI_nn (by omega) (by decide))) (fun c12 => ?_)
    refine r_iload M dL_law_1083 rfl ?_
    refine r_aload M dL_law_1085 rfl ?_
    refine r_iload M dL_law_1087 rfl ?_
    refine r_ialdN (n := 4) M dL_law_1089 (md9.sh (k := 5) (by decide)) (by omega) (by omega) ?_
    refine r_top _ (nI C) ((md9.rd (k := 5) (by decide) _).trans (eAC)) ?_
    refine r_iconst (v := nI 1) M dL_law_1090 (by decide) ?_
    refine r_isubN M dL_law_1091 (by omega) ?_
    refine r_icmp_neN (tgt := 1130) M dL_law_1092 (by decide) (by omega) (by omega) (fun c13 => absurd rfl c13) (fun c13 => ?_)
    refine r_aload_n M dL_law_1095 rfl ?_
    refine r_iload M dL_law_1096 rfl ?_
    refine r_aload M dL_law_1098 rfl ?_
    refine r_iload M dL_law_1100 rfl ?_
    refine r_ialdN (n := 4) M dL_law_1102 (md9.sh (k := 3) (by decide)) (by omega) (by omega) ?_
    refine r_top _ (nI b) ((md9.rd (k := 3) (by decide) _).trans (eB)) ?_
    refine r_callV (As := [(.int (nI P)), (.int (nI b))]) M dL_law_1103 rfl (ct_ret (cd_isBusy hfl md9 hi1.wf (nI P) (nI b)) (e_isBusy hi1 (by omega) (by omega))) (md9.ox) rfl cw_L_102 ⟨Nat.le_of_ble_eq_true rfl, Nat.le_of_ble_eq_true rfl, Nat.le_of_ble_eq_true rfl⟩ (Nat.le_of_ble_eq_true rfl) ⟨by show _ ≤ 730377; omega, by show _ ≤ 6910568; omega⟩ (fun r17 h14 p16 => ?_) (fun _ _ z => False.elim z)
    obtain ⟨rfl, md15⟩ := p16
    show V 1106 _ [(.int (bI (takenS σ1 P (nI b, nI 1))))] h14 _ _
    refine r_if_neB (tgt := 1130) M dL_law_1106 (by decide) (fun c18 => by rw [f1] at c18; cases c18) (fun c18 => ?_)
    refine r_aload_n M dL_law_1109 rfl ?_
    refine r_bipush (v := nI 6) M dL_law_1110 (by decide) ?_
    refine r_iload M dL_law_1112 rfl ?_
    refine r_iload M dL_law_1114 rfl ?_
    refine r_iconst (v := nI 0) M dL_law_1116 (by decide) ?_
    refine r_iconst (v := nI 0) M dL_law_1117 (by decide) ?_
    refine r_callSW (As := [(.ref x), (.int (nI 6)), (.int (nI t)), (.int (nI P)), (.int (nI 0)), (.int (nI 0))]) M dL_law_1118 rfl (ctw_on (ct_on_x hfl md15 hi1.wf (nI t) (nI P) (nI 0) (nI 0) (oCt.thr ex (Or.inl rfl))) ex onV_ioo rfl) cw_L_59 ⟨Nat.le_of_ble_eq_true rfl, Nat.le_of_ble_eq_true rfl, Nat.le_of_ble_eq_true rfl⟩ (Nat.le_of_ble_eq_true rfl) ⟨by show _ ≤ 730377; omega, by show _ ≤ 6910568; omega⟩ (fun r22 h19 p21 => ?_) (fun _ _ z => z)
    obtain ⟨rfl, md20⟩ := p21
    show V 1121 _ [(.int (-2000011))] h19 _ _
    refine r_ldc (v := -2000011) M dL_law_1121 cc_L_48 ?_
    refine r_icmp_ne (tgt := 1130) M dL_law_1123 (by decide) (fun c23 => absurd (by decide) c23) (fun _ => ?_)
    refine r_iconst (v := nI 1) M dL_law_1126 (by decide) ?_
    refine r_goto (tgt := 1131) M dL_law_1127 (by decide) ?_
    refine r_istore M dL_law_1131 (by decide) ?_
    show V 1133 [some (.ref (gN g 4)), some (.ref x), some (.ref (ad 0)), some (.ref (ad 1)), some (.ref (ad 2)), some (.ref (ad 3)), some (.ref (ad 4)), some (.ref (ad 5)), some (.ref (ad 6)), some (.ref (ad 7)), some (.int (nI (eN σ))), some (.int (nI (eM σ))), some (.int (ePaid σ)), some (.int (nI 1)), some (.int (nI T)), some (.int (nI k)), z16, some (.int (nI Y)), z18, some (.int (nI P)), some (.int (nI t)), some (.int (nI (C - 1))), z22, z23, z24] _ _ _ _
    refine r_aload M dL_law_1133 rfl ?_
    refine r_iload M dL_law_1135 rfl ?_
    refine r_iload M dL_law_1137 rfl ?_
    refine r_if_lt (tgt := 1147) M dL_law_1139 (by decide) (fun c24 => absurd c24 (nI_pos (by omega))) (fun _ => ?_)
    refine r_iload M dL_law_1142 rfl ?_
    refine r_goto (tgt := 1152) M dL_law_1144 (by decide) ?_
    refine r_iastN (n := 4) M dL_law_1152 (md20.sh (k := 5) (by decide)) (by omega) (by omega) ?_
    have md25 := md20.st (k := 5) (by decide) t (nI (C - 1))
    refine r_goto (tgt := 1626) M dL_law_1153 (by decide) ?_
    rw [← en, ← em, ← ep]
    exact K _ σ1 _ _ _ _ _ _ _ _ _ (md25.ar eA) (hi1) (by omega) (by omega) (by omega)
set_option maxRecDepth 100000 in
set_option maxHeartbeats 4000000 in
theorem lc_sell {g : Gl} {l : Launch} (hfl : l.stackTraces = false) {hh : List (Nat × Nat × Nat × Nat)} {mn : String} {V : VT} {X : XT} (M : Mach g l room_1 RL cL_law 25 hh mn V X) {x : Nat} {ad : Nat → Nat} {σ : ST} (hi : Inv σ) {T k Y P t : Nat} (hT : T ≤ 280) (hk : k < T) (hY : Y < 268435456) (ht : t < eM σ) (hP : P < eN σ) (h : Hp) (md : Mid g h x ad (AR σ) σ) (kc ks : Nat) (hkc : kc ≤ 700000) (hks : ks ≤ 6800000) (z16 z18 z21 z22 z23 z24 : Option Value) (K : LwK g V x ad T k Y P kc ks) : V 1168 [some (.ref (gN g 4)), some (.ref x), some (.ref (ad 0)), some (.ref (ad 1)), some (.ref (ad 2)), some (.ref (ad 3)), some (.ref (ad 4)), some (.ref (ad 5)), some (.ref (ad 6)), some (.ref (ad 7)), some (.int (nI (eN σ))), some (.int (nI (eM σ))), some (.int (ePaid σ)), some (.int (nI 1)), some (.int (nI T)), some (.int (nI k)), z16, some (.int (nI Y)), z18, some (.int (nI P)), some (.int (nI t)), z21, z22, z23, z24] [] h kc ks := by
  have hw := hi.wf
  have n5 := hi.n5
  have m4 := hi.m4
  show V 1168 [some (.ref (gN g 4)), some (.ref x), some (.ref (ad 0)), some (.ref (ad 1)), some (.ref (ad 2)), some (.ref (ad 3)), some (.ref (ad 4)), some (.ref (ad 5)), some (.ref (ad 6)), some (.ref (ad 7)), some (.int (nI (eN σ))), some (.int (nI (eM σ))), some (.int (ePaid σ)), some (.int (nI 1)), some (.int (nI T)), some (.int (nI k)), z16, some (.int (nI Y)), z18, some (.int (nI P)), some (.int (nI t)), z21, z22, z23, z24] [] h kc ks
  obtain ⟨L, hL, eL, hs⟩ := s_sell hi ht (n := 1 + Y / 32 % 20) (u := Y / 1024 % 101) (by omega) (by omega) (by omega)
  rcases hs with ⟨e, hlt⟩ | ⟨σ1, hle, e, ⟨hi1, en, em, ep⟩, eA⟩
  · refine r_iconst (v := nI 1) M dL_law_1168 (by decide) ?_
    refine r_iload M dL_law_1169 rfl ?_
    refine r_iconst (v := nI 5) M dL_law_1171 (by decide) ?_
    refine r_ishrN (k := 5) (q := 32) M dL_law_1172 (by omega) (by decide +kernel) rfl ?_
    refine r_bipush (v := nI 20) M dL_law_1173 (by decide) ?_
    refine r_iremN M dL_law_1175 (by omega) (by omega) (by omega) ?_
    refine r_iaddN M dL_law_1176 ?_
    refine r_istore M dL_law_1177 (by decide) ?_
    show V 1179 [some (.ref (gN g 4)), some (.ref x), some (.ref (ad 0)), some (.ref (ad 1)), some (.ref (ad 2)), some (.ref (ad 3)), some (.ref (ad 4)), some (.ref (ad 5)), some (.ref (ad 6)), some (.ref (ad 7)), some (.int (nI (eN σ))), some (.int (nI (eM σ))), some (.int (ePaid σ)), some (.int (nI 1)), some (.int (nI T)), some (.int (nI k)), z16, some (.int (nI Y)), z18, some (.int (nI P)), some (.int (nI t)), some (.int (nI (1 + ((Y / 32) % 20)))), z22, z23, z24] _ _ _ _
    refine r_aload_n M dL_law_1179 rfl ?_
    refine r_iconst (v := nI 3) M dL_law_1180 (by decide) ?_
    refine r_iload M dL_law_1181 rfl ?_
    refine r_iload M dL_law_1183 rfl ?_
    refine r_iload M dL_law_1185 rfl ?_
    refine r_bipush (v := nI 10) M dL_law_1187 (by decide) ?_
    refine r_ishrN (k := 10) (q := 1024) M dL_law_1189 (by omega) (by decide +kernel) rfl ?_
    refine r_bipush (v := nI 101) M dL_law_1190 (by decide) ?_
    refine r_iremN M dL_law_1192 (by omega) (by omega) (by omega) ?_
    refine r_iconst (v := nI 0) M dL_law_1193 (by decide) ?_
    refine r_callSW (As := [(.ref x), (.int (nI 3)), (.int (nI t)), (.int (nI (1 + ((Y / 32) % 20)))), (.int (nI ((Y / 1024) % 101))), (.int (nI 0))]) M dL_law_1194 rfl (ctw_on (ct_on_sell hfl md hi.wf (nI t) (nI (1 + Y / 32 % 20)) (nI (Y / 1024 % 101)) (nI 0) (oCt.thr e (Or.inr (Or.inl rfl)))) e onV_ise rfl) cw_L_59 ⟨Nat.le_of_ble_eq_true rfl, Nat.le_of_ble_eq_true rfl, Nat.le_of_ble_eq_true rfl⟩ (Nat.le_of_ble_eq_true rfl) ⟨by show _ ≤ 730377; omega, by show _ ≤ 6910568; omega⟩ (fun r4 h1 p3 => ?_) (fun _ _ z => z)
    obtain ⟨rfl, md2⟩ := p3
    show V 1197 _ [(.int (-2000013))] h1 _ _
    refine r_istore M dL_law_1197 (by decide) ?_
    show V 1199 [some (.ref (gN g 4)), some (.ref x), some (.ref (ad 0)), some (.ref (ad 1)), some (.ref (ad 2)), some (.ref (ad 3)), some (.ref (ad 4)), some (.ref (ad 5)), some (.ref (ad 6)), some (.ref (ad 7)), some (.int (nI (eN σ))), some (.int (nI (eM σ))), some (.int (ePaid σ)), some (.int (nI 1)), some (.int (nI T)), some (.int (nI k)), z16, some (.int (nI Y)), z18, some (.int (nI P)), some (.int (nI t)), some (.int (nI (1 + ((Y / 32) % 20)))), some (.int (-2000013)), z23, z24] _ _ _ _
    refine r_iload M dL_law_1199 rfl ?_
    refine r_ldc (v := -2000013) M dL_law_1201 cc_L_51 ?_
    refine r_icmp_ne (tgt := 1224) M dL_law_1203 (by decide) (fun c5 => absurd (by decide) c5) (fun _ => ?_)
    refine r_aload M dL_law_1206 rfl ?_
    refine r_iload M dL_law_1208 rfl ?_
    refine r_ialdN (n := 4) M dL_law_1210 (md2.sh (k := 6) (by decide)) (by omega) (by omega) ?_
    refine r_top _ (nI L) ((md2.rd (k := 6) (by decide) _).trans (eL)) ?_
    refine r_iload M dL_law_1211 rfl ?_
    refine r_icmp_geN (tgt := 1220) M dL_law_1213 (by decide) (by omega) (by omega) (fun c6 => absurd c6 (by omega)) (fun c6 => ?_)
    refine r_iconst (v := nI 1) M dL_law_1216 (by decide) ?_
    refine r_goto (tgt := 1242) M dL_law_1217 (by decide) ?_
    refine r_istore M dL_law_1242 (by decide) ?_
    show V 1244 [some (.ref (gN g 4)), some (.ref x), some (.ref (ad 0)), some (.ref (ad 1)), some (.ref (ad 2)), some (.ref (ad 3)), some (.ref (ad 4)), some (.ref (ad 5)), some (.ref (ad 6)), some (.ref (ad 7)), some (.int (nI (eN σ))), some (.int (nI (eM σ))), some (.int (ePaid σ)), some (.int (nI 1)), some (.int (nI T)), some (.int (nI k)), z16, some (.int (nI Y)), z18, some (.int (nI P)), some (.int (nI t)), some (.int (nI (1 + ((Y / 32) % 20)))), some (.int (-2000013)), z23, z24] _ _ _ _
    refine r_aload M dL_law_1244 rfl ?_
    refine r_iload M dL_law_1246 rfl ?_
    refine r_dup2 M dL_law_1248 rfl rfl ?_
    refine r_ialdN (n := 4) M dL_law_1249 (md2.sh (k := 7) (by decide)) (by omega) (by omega) ?_
    refine r_top _ ((AR σ) 7 t) (md2.rd (k := 7) (by decide) _) ?_
    refine r_iload M dL_law_1250 rfl ?_
    refine r_if_lt (tgt := 1269) M dL_law_1252 (by decide) (fun _ => ?_) (fun c7 => absurd (by decide) c7)
    refine r_iconst (v := nI 0) M dL_law_1269 (by decide) ?_
    refine r_iadd M dL_law_1270 ?_
    refine r_iastN (n := 4) M dL_law_1271 (md2.sh (k := 7) (by decide)) (by omega) (by omega) ?_
    have md8 := md2.st (k := 7) (by decide) t (((AR σ) 7 t) + (nI 0))
    refine r_aload M dL_law_1272 rfl ?_
    refine r_iload M dL_law_1274 rfl ?_
    refine r_iload M dL_law_1276 rfl ?_
    refine r_if_lt (tgt := 1286) M dL_law_1278 (by decide) (fun _ => ?_) (fun c9 => absurd (by decide) c9)
    refine r_aload M dL_law_1286 rfl ?_
    refine r_iload M dL_law_1288 rfl ?_
    refine r_ialdN (n := 4) M dL_law_1290 (md8.sh (k := 6) (by decide)) (by omega) (by omega) ?_
    refine r_top _ (nI L) ((md8.rd (k := 6) (by decide) _).trans ((u2_n _ _ (fun z => absurd z.1 (by decide))).trans eL)) ?_
    refine r_iastN (n := 4) M dL_law_1291 (md8.sh (k := 6) (by decide)) (by omega) (by omega) ?_
    have md10 := md8.st (k := 6) (by decide) t (nI L)
    refine r_goto (tgt := 1626) M dL_law_1292 (by decide) ?_
    exact K _ σ _ _ _ _ _ _ _ _ _ (md10.ar (fun k _ b => by rw [u2_id (A := AR σ) (k := 7) (i := t) (v := AR σ 7 t + nI 0) (by rw [nI_0, Int32.add_zero]), u2_id eL])) (hi) (by omega) (by omega) (by omega)
  · refine r_iconst (v := nI 1) M dL_law_1168 (by decide) ?_
    refine r_iload M dL_law_1169 rfl ?_
    refine r_iconst (v := nI 5) M dL_law_1171 (by decide) ?_
    refine r_ishrN (k := 5) (q := 32) M dL_law_1172 (by omega) (by decide +kernel) rfl ?_
    refine r_bipush (v := nI 20) M dL_law_1173 (by decide) ?_
    refine r_iremN M dL_law_1175 (by omega) (by omega) (by omega) ?_
    refine r_iaddN M dL_law_1176 ?_
    refine r_istore M dL_law_1177 (by decide) ?_
    show V 1179 [some (.ref (gN g 4)), some (.ref x), some (.ref (ad 0)), some (.ref (ad 1)), some (.ref (ad 2)), some (.ref (ad 3)), some (.ref (ad 4)), some (.ref (ad 5)), some (.ref (ad 6)), some (.ref (ad 7)), some (.int (nI (eN σ))), some (.int (nI (eM σ))), some (.int (ePaid σ)), some (.int (nI 1)), some (.int (nI T)), some (.int (nI k)), z16, some (.int (nI Y)), z18, some (.int (nI P)), some (.int (nI t)), some (.int (nI (1 + ((Y / 32) % 20)))), z22, z23, z24] _ _ _ _
    refine r_aload_n M dL_law_1179 rfl ?_
    refine r_iconst (v := nI 3) M dL_law_1180 (by decide) ?_
    refine r_iload M dL_law_1181 rfl ?_
    refine r_iload M dL_law_1183 rfl ?_
    refine r_iload M dL_law_1185 rfl ?_
    refine r_bipush (v := nI 10) M dL_law_1187 (by decide) ?_
    refine r_ishrN (k := 10) (q := 1024) M dL_law_1189 (by omega) (by decide +kernel) rfl ?_
    refine r_bipush (v := nI 101) M dL_law_1190 (by decide) ?_
    refine r_iremN M dL_law_1192 (by omega) (by omega) (by omega) ?_
    refine r_iconst (v := nI 0) M dL_law_1193 (by decide) ?_
    refine r_callSW (As := [(.ref x), (.int (nI 3)), (.int (nI t)), (.int (nI (1 + ((Y / 32) % 20)))), (.int (nI ((Y / 1024) % 101))), (.int (nI 0))]) M dL_law_1194 rfl (ctw_on (ct_on_sell hfl md hi.wf (nI t) (nI (1 + Y / 32 % 20)) (nI (Y / 1024 % 101)) (nI 0) (oCt.ret e)) e rfl rfl) cw_L_59 ⟨Nat.le_of_ble_eq_true rfl, Nat.le_of_ble_eq_true rfl, Nat.le_of_ble_eq_true rfl⟩ (Nat.le_of_ble_eq_true rfl) ⟨by show _ ≤ 730377; omega, by show _ ≤ 6910568; omega⟩ (fun r14 h11 p13 => ?_) (fun _ _ z => z)
    obtain ⟨rfl, md12⟩ := p13
    show V 1197 _ [(.int (nI (L - (1 + Y / 32 % 20))))] h11 _ _
    refine r_istore M dL_law_1197 (by decide) ?_
    show V 1199 [some (.ref (gN g 4)), some (.ref x), some (.ref (ad 0)), some (.ref (ad 1)), some (.ref (ad 2)), some (.ref (ad 3)), some (.ref (ad 4)), some (.ref (ad 5)), some (.ref (ad 6)), some (.ref (ad 7)), some (.int (nI (eN σ))), some (.int (nI (eM σ))), some (.int (ePaid σ)), some (.int (nI 1)), some (.int (nI T)), some (.int (nI k)), z16, some (.int (nI Y)), z18, some (.int (nI P)), some (.int (nI t)), some (.int (nI (1 + ((Y / 32) % 20)))), some (.int (nI (L - (1 + Y / 32 % 20)))), z23, z24] _ _ _ _
    refine r_iload M dL_law_1199 rfl ?_
    refine r_ldc (v := -2000013) M dL_law_1201 cc_L_51 ?_
    refine r_icmp_ne (tgt := 1224) M dL_law_1203 (by decide) (fun c15 => ?_) (fun c15 => absurd c15 (nI_nn (by omega) (by decide)))
    refine r_iload M dL_law_1224 rfl ?_
    refine r_aload M dL_law_1226 rfl ?_
    refine r_iload M dL_law_1228 rfl ?_
    refine r_ialdN (n := 4) M dL_law_1230 (md12.sh (k := 6) (by decide)) (by omega) (by omega) ?_
    refine r_top _ (nI L) ((md12.rd (k := 6) (by decide) _).trans (eL)) ?_
    refine r_iload M dL_law_1231 rfl ?_
    refine r_isubN M dL_law_1233 (by omega) ?_
    refine r_icmp_neN (tgt := 1241) M dL_law_1234 (by decide) (by omega) (by omega) (fun c16 => absurd rfl c16) (fun c16 => ?_)
    refine r_iconst (v := nI 1) M dL_law_1237 (by decide) ?_
    refine r_goto (tgt := 1242) M dL_law_1238 (by decide) ?_
    refine r_istore M dL_law_1242 (by decide) ?_
    show V 1244 [some (.ref (gN g 4)), some (.ref x), some (.ref (ad 0)), some (.ref (ad 1)), some (.ref (ad 2)), some (.ref (ad 3)), some (.ref (ad 4)), some (.ref (ad 5)), some (.ref (ad 6)), some (.ref (ad 7)), some (.int (nI (eN σ))), some (.int (nI (eM σ))), some (.int (ePaid σ)), some (.int (nI 1)), some (.int (nI T)), some (.int (nI k)), z16, some (.int (nI Y)), z18, some (.int (nI P)), some (.int (nI t)), some (.int (nI (1 + ((Y / 32) % 20)))), some (.int (nI (L - (1 + Y / 32 % 20)))), z23, z24] _ _ _ _
    refine r_aload M dL_law_1244 rfl ?_
    refine r_iload M dL_law_1246 rfl ?_
    refine r_dup2 M dL_law_1248 rfl rfl ?_
    refine r_ialdN (n := 4) M dL_law_1249 (md12.sh (k := 7) (by decide)) (by omega) (by omega) ?_
    refine r_top _ ((AR σ) 7 t) (md12.rd (k := 7) (by decide) _) ?_
    refine r_iload M dL_law_1250 rfl ?_
    refine r_if_lt (tgt := 1269) M dL_law_1252 (by decide) (fun c17 => absurd c17 (nI_pos (by omega))) (fun _ => ?_)
    refine r_iload M dL_law_1255 rfl ?_
    refine r_iload M dL_law_1257 rfl ?_
    refine r_bipush (v := nI 10) M dL_law_1259 (by decide) ?_
    refine r_ishrN (k := 10) (q := 1024) M dL_law_1261 (by omega) (by decide +kernel) rfl ?_
    refine r_bipush (v := nI 101) M dL_law_1262 (by decide) ?_
    refine r_iremN M dL_law_1264 (by omega) (by omega) (by omega) ?_
    refine r_imulN M dL_law_1265 ?_
    refine r_goto (tgt := 1270) M dL_law_1266 (by decide) ?_
    refine r_iadd M dL_law_1270 ?_
    refine r_iastN (n := 4) M dL_law_1271 (md12.sh (k := 7) (by decide)) (by omega) (by omega) ?_
    have md18 := md12.st (k := 7) (by decide) t (((AR σ) 7 t) + (nI ((1 + ((Y / 32) % 20)) * ((Y / 1024) % 101))))
    refine r_aload M dL_law_1272 rfl ?_
    refine r_iload M dL_law_1274 rfl ?_
    refine r_iload M dL_law_1276 rfl ?_
    refine r_if_lt (tgt := 1286) M dL_law_1278 (by decide) (fun c19 => absurd c19 (nI_pos (by omega))) (fun _ => ?_)
    refine r_iload M dL_law_1281 rfl ?_
    refine r_goto (tgt := 1291) M dL_law_1283 (by decide) ?_
    refine r_iastN (n := 4) M dL_law_1291 (md18.sh (k := 6) (by decide)) (by omega) (by omega) ?_
    have md20 := md18.st (k := 6) (by decide) t (nI (L - (1 + Y / 32 % 20)))
    refine r_goto (tgt := 1626) M dL_law_1292 (by decide) ?_
    rw [← en, ← em, ← ep]
    exact K _ σ1 _ _ _ _ _ _ _ _ _ (md20.ar eA) (hi1) (by omega) (by omega) (by omega)
set_option maxRecDepth 100000 in
set_option maxHeartbeats 4000000 in
theorem lc_perf {g : Gl} {l : Launch} (hfl : l.stackTraces = false) {hh : List (Nat × Nat × Nat × Nat)} {mn : String} {V : VT} {X : XT} (M : Mach g l room_1 RL cL_law 25 hh mn V X) {x : Nat} {ad : Nat → Nat} {σ : ST} (hi : Inv σ) {T k Y P t : Nat} (hT : T ≤ 280) (hk : k < T) (hY : Y < 268435456) (ht : t < eM σ) (hP : P < eN σ) (h : Hp) (md : Mid g h x ad (AR σ) σ) (kc ks : Nat) (hkc : kc ≤ 700000) (hks : ks ≤ 6800000) (z16 z18 z21 z22 z23 z24 : Option Value) (K : LwK g V x ad T k Y P kc ks) : V 1317 [some (.ref (gN g 4)), some (.ref x), some (.ref (ad 0)), some (.ref (ad 1)), some (.ref (ad 2)), some (.ref (ad 3)), some (.ref (ad 4)), some (.ref (ad 5)), some (.ref (ad 6)), some (.ref (ad 7)), some (.int (nI (eN σ))), some (.int (nI (eM σ))), some (.int (ePaid σ)), some (.int (nI 1)), some (.int (nI T)), some (.int (nI k)), z16, some (.int (nI Y)), z18, some (.int (nI P)), some (.int (nI t)), z21, z22, z23, z24] [] h kc ks := by
  have hw := hi.wf
  have n5 := hi.n5
  have m4 := hi.m4
  show V 1317 [some (.ref (gN g 4)), some (.ref x), some (.ref (ad 0)), some (.ref (ad 1)), some (.ref (ad 2)), some (.ref (ad 3)), some (.ref (ad 4)), some (.ref (ad 5)), some (.ref (ad 6)), some (.ref (ad 7)), some (.int (nI (eN σ))), some (.int (nI (eM σ))), some (.int (ePaid σ)), some (.int (nI 1)), some (.int (nI T)), some (.int (nI k)), z16, some (.int (nI Y)), z18, some (.int (nI P)), some (.int (nI t)), z21, z22, z23, z24] [] h kc ks
  obtain ⟨T0, hT0, e7, hp⟩ := s_perform hi ht
  have hq99 := (hi.okp hP).2.2.2.2.2.2.1
  have hk12 := (hi.okp hP).2.2.2.1
  rcases hp with e | ⟨σ1, e, ⟨C, c1, c8, e5⟩, hi1, en, em, ep, e2, hwn, eA⟩
  · refine r_aload_n M dL_law_1317 rfl ?_
    refine r_iload M dL_law_1318 rfl ?_
    refine r_callV (As := [(.int (nI P))]) M dL_law_1320 rfl (ct_ret (cd_worn hfl md hi.wf (nI P)) (e_worn hi (by omega))) (md.ox) rfl cw_L_84 ⟨Nat.le_of_ble_eq_true rfl, Nat.le_of_ble_eq_true rfl, Nat.le_of_ble_eq_true rfl⟩ (Nat.le_of_ble_eq_true rfl) ⟨by show _ ≤ 730377; omega, by show _ ≤ 6910568; omega⟩ (fun r4 h1 p3 => ?_) (fun _ _ z => False.elim z)
    obtain ⟨rfl, md2⟩ := p3
    show V 1323 _ [(.int (nI (qWorn (eP σ P))))] h1 _ _
    refine r_istore M dL_law_1323 (by decide) ?_
    show V 1325 [some (.ref (gN g 4)), some (.ref x), some (.ref (ad 0)), some (.ref (ad 1)), some (.ref (ad 2)), some (.ref (ad 3)), some (.ref (ad 4)), some (.ref (ad 5)), some (.ref (ad 6)), some (.ref (ad 7)), some (.int (nI (eN σ))), some (.int (nI (eM σ))), some (.int (ePaid σ)), some (.int (nI 1)), some (.int (nI T)), some (.int (nI k)), z16, some (.int (nI Y)), z18, some (.int (nI P)), some (.int (nI t)), some (.int (nI (qWorn (eP σ P)))), z22, z23, z24] _ _ _ _
    refine r_aload_n M dL_law_1325 rfl ?_
    refine r_iconst (v := nI 4) M dL_law_1326 (by decide) ?_
    refine r_iload M dL_law_1327 rfl ?_
    refine r_iconst (v := nI 0) M dL_law_1329 (by decide) ?_
    refine r_iconst (v := nI 0) M dL_law_1330 (by decide) ?_
    refine r_iconst (v := nI 0) M dL_law_1331 (by decide) ?_
    refine r_callSW (As := [(.ref x), (.int (nI 4)), (.int (nI t)), (.int (nI 0)), (.int (nI 0)), (.int (nI 0))]) M dL_law_1332 rfl (ctw_on (ct_on_perform hfl md2 hi.wf (nI t) (nI 0) (nI 0) (nI 0) (oCt.thr e (Or.inr (Or.inl rfl)))) e onV_ise rfl) cw_L_59 ⟨Nat.le_of_ble_eq_true rfl, Nat.le_of_ble_eq_true rfl, Nat.le_of_ble_eq_true rfl⟩ (Nat.le_of_ble_eq_true rfl) ⟨by show _ ≤ 730377; omega, by show _ ≤ 6910568; omega⟩ (fun r8 h5 p7 => ?_) (fun _ _ z => z)
    obtain ⟨rfl, md6⟩ := p7
    show V 1335 _ [(.int (-2000013))] h5 _ _
    refine r_istore M dL_law_1335 (by decide) ?_
    show V 1337 [some (.ref (gN g 4)), some (.ref x), some (.ref (ad 0)), some (.ref (ad 1)), some (.ref (ad 2)), some (.ref (ad 3)), some (.ref (ad 4)), some (.ref (ad 5)), some (.ref (ad 6)), some (.ref (ad 7)), some (.int (nI (eN σ))), some (.int (nI (eM σ))), some (.int (ePaid σ)), some (.int (nI 1)), some (.int (nI T)), some (.int (nI k)), z16, some (.int (nI Y)), z18, some (.int (nI P)), some (.int (nI t)), some (.int (nI (qWorn (eP σ P)))), some (.int (-2000013)), z23, z24] _ _ _ _
    refine r_iload M dL_law_1337 rfl ?_
    refine r_ldc (v := -2000013) M dL_law_1339 cc_L_51 ?_
    refine r_icmp_ne (tgt := 1361) M dL_law_1341 (by decide) (fun c9 => absurd (by decide) c9) (fun _ => ?_)
    refine r_aload_n M dL_law_1344 rfl ?_
    refine r_callV (As := []) M dL_law_1345 rfl (ct_ret (cd_income hfl md6 hi.wf) rfl) (md6.ox) rfl cw_L_74 ⟨Nat.le_of_ble_eq_true rfl, Nat.le_of_ble_eq_true rfl, Nat.le_of_ble_eq_true rfl⟩ (Nat.le_of_ble_eq_true rfl) ⟨by show _ ≤ 730377; omega, by show _ ≤ 6910568; omega⟩ (fun r13 h10 p12 => ?_) (fun _ _ z => False.elim z)
    obtain ⟨rfl, md11⟩ := p12
    show V 1348 _ [(.int (ePaid σ))] h10 _ _
    refine r_iload M dL_law_1348 rfl ?_
    refine r_icmp_ne (tgt := 1357) M dL_law_1350 (by decide) (fun c14 => absurd rfl c14) (fun c14 => ?_)
    refine r_iconst (v := nI 1) M dL_law_1353 (by decide) ?_
    refine r_goto (tgt := 1427) M dL_law_1354 (by decide) ?_
    refine r_istore M dL_law_1427 (by decide) ?_
    show V 1429 [some (.ref (gN g 4)), some (.ref x), some (.ref (ad 0)), some (.ref (ad 1)), some (.ref (ad 2)), some (.ref (ad 3)), some (.ref (ad 4)), some (.ref (ad 5)), some (.ref (ad 6)), some (.ref (ad 7)), some (.int (nI (eN σ))), some (.int (nI (eM σ))), some (.int (ePaid σ)), some (.int (nI 1)), some (.int (nI T)), some (.int (nI k)), z16, some (.int (nI Y)), z18, some (.int (nI P)), some (.int (nI t)), some (.int (nI (qWorn (eP σ P)))), some (.int (-2000013)), z23, z24] _ _ _ _
    refine r_iload M dL_law_1429 rfl ?_
    refine r_iload M dL_law_1431 rfl ?_
    refine r_if_le (tgt := 1441) M dL_law_1433 (by decide) (fun _ => ?_) (fun c15 => absurd (by decide) c15)
    refine r_iconst (v := nI 0) M dL_law_1441 (by decide) ?_
    refine r_iadd M dL_law_1442 ?_
    refine r_top _ (ePaid σ) (by rw [nI_0, Int32.add_zero]) ?_
    refine r_istore M dL_law_1443 (by decide) ?_
    show V 1445 [some (.ref (gN g 4)), some (.ref x), some (.ref (ad 0)), some (.ref (ad 1)), some (.ref (ad 2)), some (.ref (ad 3)), some (.ref (ad 4)), some (.ref (ad 5)), some (.ref (ad 6)), some (.ref (ad 7)), some (.int (nI (eN σ))), some (.int (nI (eM σ))), some (.int (ePaid σ)), some (.int (nI 1)), some (.int (nI T)), some (.int (nI k)), z16, some (.int (nI Y)), z18, some (.int (nI P)), some (.int (nI t)), some (.int (nI (qWorn (eP σ P)))), some (.int (-2000013)), z23, z24] _ _ _ _
    refine r_aload M dL_law_1445 rfl ?_
    refine r_iload M dL_law_1447 rfl ?_
    refine r_iload M dL_law_1449 rfl ?_
    refine r_if_lt (tgt := 1458) M dL_law_1451 (by decide) (fun _ => ?_) (fun c16 => absurd (by decide) c16)
    refine r_aload M dL_law_1458 rfl ?_
    refine r_iload M dL_law_1460 rfl ?_
    refine r_ialdN (n := 4) M dL_law_1462 (md11.sh (k := 6) (by decide)) (by omega) (by omega) ?_
    refine r_top _ ((AR σ) 6 t) ((md11.rd (k := 6) (by decide) _).trans (rfl)) ?_
    refine r_iastN (n := 4) M dL_law_1463 (md11.sh (k := 6) (by decide)) (by omega) (by omega) ?_
    have md17 := md11.st (k := 6) (by decide) t ((AR σ) 6 t)
    refine r_aload M dL_law_1464 rfl ?_
    refine r_iload M dL_law_1466 rfl ?_
    refine r_iload M dL_law_1468 rfl ?_
    refine r_if_lt (tgt := 1477) M dL_law_1470 (by decide) (fun _ => ?_) (fun c18 => absurd (by decide) c18)
    refine r_aload M dL_law_1477 rfl ?_
    refine r_iload M dL_law_1479 rfl ?_
    refine r_ialdN (n := 4) M dL_law_1481 (md17.sh (k := 7) (by decide)) (by omega) (by omega) ?_
    refine r_top _ ((AR σ) 7 t) ((md17.rd (k := 7) (by decide) _).trans (u2_n _ _ (fun z => absurd z.1 (by decide)))) ?_
    refine r_iastN (n := 4) M dL_law_1482 (md17.sh (k := 7) (by decide)) (by omega) (by omega) ?_
    have md19 := md17.st (k := 7) (by decide) t ((AR σ) 7 t)
    refine r_goto (tgt := 1626) M dL_law_1483 (by decide) ?_
    exact K _ σ _ _ _ _ _ _ _ _ _ (md19.ar (fun k _ b => by rw [u2_id (A := AR σ) (k := 6) (i := t) rfl, u2_id rfl])) (hi) (by omega) (by omega) (by omega)
  · obtain ⟨w1, w2⟩ := hwn P hP
    refine r_aload_n M dL_law_1317 rfl ?_
    refine r_iload M dL_law_1318 rfl ?_
    refine r_callV (As := [(.int (nI P))]) M dL_law_1320 rfl (ct_ret (cd_worn hfl md hi.wf (nI P)) (e_worn hi (by omega))) (md.ox) rfl cw_L_84 ⟨Nat.le_of_ble_eq_true rfl, Nat.le_of_ble_eq_true rfl, Nat.le_of_ble_eq_true rfl⟩ (Nat.le_of_ble_eq_true rfl) ⟨by show _ ≤ 730377; omega, by show _ ≤ 6910568; omega⟩ (fun r23 h20 p22 => ?_) (fun _ _ z => False.elim z)
    obtain ⟨rfl, md21⟩ := p22
    show V 1323 _ [(.int (nI (qWorn (eP σ P))))] h20 _ _
    refine r_istore M dL_law_1323 (by decide) ?_
    show V 1325 [some (.ref (gN g 4)), some (.ref x), some (.ref (ad 0)), some (.ref (ad 1)), some (.ref (ad 2)), some (.ref (ad 3)), some (.ref (ad 4)), some (.ref (ad 5)), some (.ref (ad 6)), some (.ref (ad 7)), some (.int (nI (eN σ))), some (.int (nI (eM σ))), some (.int (ePaid σ)), some (.int (nI 1)), some (.int (nI T)), some (.int (nI k)), z16, some (.int (nI Y)), z18, some (.int (nI P)), some (.int (nI t)), some (.int (nI (qWorn (eP σ P)))), z22, z23, z24] _ _ _ _
    refine r_aload_n M dL_law_1325 rfl ?_
    refine r_iconst (v := nI 4) M dL_law_1326 (by decide) ?_
    refine r_iload M dL_law_1327 rfl ?_
    refine r_iconst (v := nI 0) M dL_law_1329 (by decide) ?_
    refine r_iconst (v := nI 0) M dL_law_1330 (by decide) ?_
    refine r_iconst (v := nI 0) M dL_law_1331 (by decide) ?_
    refine r_callSW (As := [(.ref x), (.int (nI 4)), (.int (nI t)), (.int (nI 0)), (.int (nI 0)), (.int (nI 0))]) M dL_law_1332 rfl (ctw_on (ct_on_perform hfl md21 hi.wf (nI t) (nI 0) (nI 0) (nI 0) (oCt.ret e)) e rfl rfl) cw_L_59 ⟨Nat.le_of_ble_eq_true rfl, Nat.le_of_ble_eq_true rfl, Nat.le_of_ble_eq_true rfl⟩ (Nat.le_of_ble_eq_true rfl) ⟨by show _ ≤ 730377; omega, by show _ ≤ 6910568; omega⟩ (fun r27 h24 p26 => ?_) (fun _ _ z => z)
    obtain ⟨rfl, md25⟩ := p26
    show V 1335 _ [(.int (nI T0))] h24 _ _
    refine r_istore M dL_law_1335 (by decide) ?_
    show V 1337 [some (.ref (gN g 4)), some (.ref x), some (.ref (ad 0)), some (.ref (ad 1)), some (.ref (ad 2)), some (.ref (ad 3)), some (.ref (ad 4)), some (.ref (ad 5)), some (.ref (ad 6)), some (.ref (ad 7)), some (.int (nI (eN σ))), some (.int (nI (eM σ))), some (.int (ePaid σ)), some (.int (nI 1)), some (.int (nI T)), some (.int (nI k)), z16, some (.int (nI Y)), z18, some (.int (nI P)), some (.int (nI t)), some (.int (nI (qWorn (eP σ P)))), some (.int (nI T0)), z23, z24] _ _ _ _
    refine r_iload M dL_law_1337 rfl ?_
    refine r_ldc (v := -2000013) M dL_law_1339 cc_L_51 ?_
    refine r_icmp_ne (tgt := 1361) M dL_law_1341 (by decide) (fun c28 => ?_) (fun c28 => absurd c28 (nI_nn (by omega) (by decide)))
    refine r_iload M dL_law_1361 rfl ?_
    refine r_aload M dL_law_1363 rfl ?_
    refine r_iload M dL_law_1365 rfl ?_
    refine r_ialdN (n := 4) M dL_law_1367 (md25.sh (k := 7) (by decide)) (by omega) (by omega) ?_
    refine r_top _ (nI T0) ((md25.rd (k := 7) (by decide) _).trans (e7)) ?_
    refine r_icmp_neN (tgt := 1426) M dL_law_1368 (by decide) (by omega) (by omega) (fun c29 => absurd rfl c29) (fun c29 => ?_)
    refine r_aload M dL_law_1371 rfl ?_
    refine r_iload M dL_law_1373 rfl ?_
    refine r_ialdN (n := 4) M dL_law_1375 (md25.sh (k := 5) (by decide)) (by omega) (by omega) ?_
    refine r_top _ (nI C) ((md25.rd (k := 5) (by decide) _).trans (e5)) ?_
    refine r_if_leN (tgt := 1426) M dL_law_1376 (by decide) (by omega) (fun c30 => absurd c30 (by omega)) (fun c30 => ?_)
    refine r_aload_n M dL_law_1379 rfl ?_
    refine r_iconst (v := nI 4) M dL_law_1380 (by decide) ?_
    refine r_iload M dL_law_1381 rfl ?_
    refine r_iconst (v := nI 0) M dL_law_1383 (by decide) ?_
    refine r_iconst (v := nI 0) M dL_law_1384 (by decide) ?_
    refine r_iconst (v := nI 0) M dL_law_1385 (by decide) ?_
    refine r_callSW (As := [(.ref x), (.int (nI 4)), (.int (nI t)), (.int (nI 0)), (.int (nI 0)), (.int (nI 0))]) M dL_law_1386 rfl (ctw_on (ct_on_perform hfl md25 hi1.wf (nI t) (nI 0) (nI 0) (nI 0) (oCt.thr e2 (Or.inr (Or.inl rfl)))) e2 onV_ise rfl) cw_L_59 ⟨Nat.le_of_ble_eq_true rfl, Nat.le_of_ble_eq_true rfl, Nat.le_of_ble_eq_true rfl⟩ (Nat.le_of_ble_eq_true rfl) ⟨by show _ ≤ 730377; omega, by show _ ≤ 6910568; omega⟩ (fun r34 h31 p33 => ?_) (fun _ _ z => z)
    obtain ⟨rfl, md32⟩ := p33
    show V 1389 _ [(.int (-2000013))] h31 _ _
    refine r_ldc (v := -2000013) M dL_law_1389 cc_L_51 ?_
    refine r_icmp_ne (tgt := 1426) M dL_law_1391 (by decide) (fun c35 => absurd (by decide) c35) (fun _ => ?_)
    refine r_aload_n M dL_law_1394 rfl ?_
    refine r_iload M dL_law_1395 rfl ?_
    refine r_callV (As := [(.int (nI P))]) M dL_law_1397 rfl (ct_ret (cd_worn hfl md32 hi1.wf (nI P)) (e_worn hi1 (by omega))) (md32.ox) rfl cw_L_84 ⟨Nat.le_of_ble_eq_true rfl, Nat.le_of_ble_eq_true rfl, Nat.le_of_ble_eq_true rfl⟩ (Nat.le_of_ble_eq_true rfl) ⟨by show _ ≤ 730377; omega, by show _ ≤ 6910568; omega⟩ (fun r39 h36 p38 => ?_) (fun _ _ z => False.elim z)
    obtain ⟨rfl, md37⟩ := p38
    show V 1400 _ [(.int (nI (qWorn (eP σ1 P))))] h36 _ _
    refine r_iload M dL_law_1400 rfl ?_
    refine r_icmp_ltN (tgt := 1426) M dL_law_1402 (by decide) (by omega) (by omega) (fun c40 => absurd c40 (by omega)) (fun c40 => ?_)
    refine r_aload_n M dL_law_1405 rfl ?_
    refine r_iload M dL_law_1406 rfl ?_
    refine r_callV (As := [(.int (nI P))]) M dL_law_1408 rfl (ct_ret (cd_worn hfl md37 hi1.wf (nI P)) (e_worn hi1 (by omega))) (md37.ox) rfl cw_L_84 ⟨Nat.le_of_ble_eq_true rfl, Nat.le_of_ble_eq_true rfl, Nat.le_of_ble_eq_true rfl⟩ (Nat.le_of_ble_eq_true rfl) ⟨by show _ ≤ 730377; omega, by show _ ≤ 6910568; omega⟩ (fun r44 h41 p43 => ?_) (fun _ _ z => False.elim z)
    obtain ⟨rfl, md42⟩ := p43
    show V 1411 _ [(.int (nI (qWorn (eP σ1 P))))] h41 _ _
    refine r_iload M dL_law_1411 rfl ?_
    refine r_aload M dL_law_1413 rfl ?_
    refine r_iload M dL_law_1415 rfl ?_
    refine r_ialdN (n := 5) M dL_law_1417 (md42.sh (k := 2) (by decide)) (by omega) (by omega) ?_
    refine r_top _ (nI ((qKeys (eP σ P)).length)) ((md42.rd (k := 2) (by decide) _).trans (rfl)) ?_
    refine r_iaddN M dL_law_1418 ?_
    refine r_icmp_gtN (tgt := 1426) M dL_law_1419 (by decide) (by omega) (by omega) (fun c45 => absurd c45 (by omega)) (fun c45 => ?_)
    refine r_iconst (v := nI 1) M dL_law_1422 (by decide) ?_
    refine r_goto (tgt := 1427) M dL_law_1423 (by decide) ?_
    refine r_istore M dL_law_1427 (by decide) ?_
    show V 1429 [some (.ref (gN g 4)), some (.ref x), some (.ref (ad 0)), some (.ref (ad 1)), some (.ref (ad 2)), some (.ref (ad 3)), some (.ref (ad 4)), some (.ref (ad 5)), some (.ref (ad 6)), some (.ref (ad 7)), some (.int (nI (eN σ))), some (.int (nI (eM σ))), some (.int (ePaid σ)), some (.int (nI 1)), some (.int (nI T)), some (.int (nI k)), z16, some (.int (nI Y)), z18, some (.int (nI P)), some (.int (nI t)), some (.int (nI (qWorn (eP σ P)))), some (.int (nI T0)), z23, z24] _ _ _ _
    refine r_iload M dL_law_1429 rfl ?_
    refine r_iload M dL_law_1431 rfl ?_
    refine r_if_leN (tgt := 1441) M dL_law_1433 (by decide) (by omega) (fun c46 => ?_) (fun c46 => ?_)
    · refine r_iconst (v := nI 0) M dL_law_1441 (by decide) ?_
      refine r_iadd M dL_law_1442 ?_
      refine r_top _ (ePaid σ1) (by rw [ep, c46]) ?_
      refine r_istore M dL_law_1443 (by decide) ?_
      show V 1445 [some (.ref (gN g 4)), some (.ref x), some (.ref (ad 0)), some (.ref (ad 1)), some (.ref (ad 2)), some (.ref (ad 3)), some (.ref (ad 4)), some (.ref (ad 5)), some (.ref (ad 6)), some (.ref (ad 7)), some (.int (nI (eN σ))), some (.int (nI (eM σ))), some (.int (ePaid σ1)), some (.int (nI 1)), some (.int (nI T)), some (.int (nI k)), z16, some (.int (nI Y)), z18, some (.int (nI P)), some (.int (nI t)), some (.int (nI (qWorn (eP σ P)))), some (.int (nI T0)), z23, z24] _ _ _ _
      refine r_aload M dL_law_1445 rfl ?_
      refine r_iload M dL_law_1447 rfl ?_
      refine r_iload M dL_law_1449 rfl ?_
      refine r_if_lt (tgt := 1458) M dL_law_1451 (by decide) (fun c47 => absurd c47 (nI_pos (by omega))) (fun _ => ?_)
      refine r_iconst (v := nI 0) M dL_law_1454 (by decide) ?_
      refine r_goto (tgt := 1463) M dL_law_1455 (by decide) ?_
      refine r_iastN (n := 4) M dL_law_1463 (md42.sh (k := 6) (by decide)) (by omega) (by omega) ?_
      have md48 := md42.st (k := 6) (by decide) t (nI 0)
      refine r_aload M dL_law_1464 rfl ?_
      refine r_iload M dL_law_1466 rfl ?_
      refine r_iload M dL_law_1468 rfl ?_
      refine r_if_lt (tgt := 1477) M dL_law_1470 (by decide) (fun c49 => absurd c49 (nI_pos (by omega))) (fun _ => ?_)
      refine r_iconst (v := nI 0) M dL_law_1473 (by decide) ?_
      refine r_goto (tgt := 1482) M dL_law_1474 (by decide) ?_
      refine r_iastN (n := 4) M dL_law_1482 (md48.sh (k := 7) (by decide)) (by omega) (by omega) ?_
      have md50 := md48.st (k := 7) (by decide) t (nI 0)
      refine r_goto (tgt := 1626) M dL_law_1483 (by decide) ?_
      rw [← en, ← em]
      exact K _ σ1 _ _ _ _ _ _ _ _ _ (md50.ar (fun k hk b => by rw [nI_0]; exact eA k hk b)) (hi1) (by omega) (by omega) (by omega)
    · refine r_iload M dL_law_1436 rfl ?_
      refine r_goto (tgt := 1442) M dL_law_1438 (by decide) ?_
      refine r_iadd M dL_law_1442 ?_
      refine r_top _ (ePaid σ1) (ep.symm) ?_
      refine r_istore M dL_law_1443 (by decide) ?_
      show V 1445 [some (.ref (gN g 4)), some (.ref x), some (.ref (ad 0)), some (.ref (ad 1)), some (.ref (ad 2)), some (.ref (ad 3)), some (.ref (ad 4)), some (.ref (ad 5)), some (.ref (ad 6)), some (.ref (ad 7)), some (.int (nI (eN σ))), some (.int (nI (eM σ))), some (.int (ePaid σ1)), some (.int (nI 1)), some (.int (nI T)), some (.int (nI k)), z16, some (.int (nI Y)), z18, some (.int (nI P)), some (.int (nI t)), some (.int (nI (qWorn (eP σ P)))), some (.int (nI T0)), z23, z24] _ _ _ _
      refine r_aload M dL_law_1445 rfl ?_
      refine r_iload M dL_law_1447 rfl ?_
      refine r_iload M dL_law_1449 rfl ?_
      refine r_if_lt (tgt := 1458) M dL_law_1451 (by decide) (fun c51 => absurd c51 (nI_pos (by omega))) (fun _ => ?_)
      refine r_iconst (v := nI 0) M dL_law_1454 (by decide) ?_
      refine r_goto (tgt := 1463) M dL_law_1455 (by decide) ?_
      refine r_iastN (n := 4) M dL_law_1463 (md42.sh (k := 6) (by decide)) (by omega) (by omega) ?_
      have md52 := md42.st (k := 6) (by decide) t (nI 0)
      refine r_aload M dL_law_1464 rfl ?_
      refine r_iload M dL_law_1466 rfl ?_
      refine r_iload M dL_law_1468 rfl ?_
      refine r_if_lt (tgt := 1477) M dL_law_1470 (by decide) (fun c53 => absurd c53 (nI_pos (by omega))) (fun _ => ?_)
      refine r_iconst (v := nI 0) M dL_law_1473 (by decide) ?_
      refine r_goto (tgt := 1482) M dL_law_1474 (by decide) ?_
      refine r_iastN (n := 4) M dL_law_1482 (md52.sh (k := 7) (by decide)) (by omega) (by omega) ?_
      have md54 := md52.st (k := 7) (by decide) t (nI 0)
      refine r_goto (tgt := 1626) M dL_law_1483 (by decide) ?_
      rw [← en, ← em]
      exact K _ σ1 _ _ _ _ _ _ _ _ _ (md54.ar (fun k hk b => by rw [nI_0]; exact eA k hk b)) (hi1) (by omega) (by omega) (by omega)
set_option maxRecDepth 100000 in
set_option maxHeartbeats 4000000 in
theorem lc_mend {g : Gl} {l : Launch} (hfl : l.stackTraces = false) {hh : List (Nat × Nat × Nat × Nat)} {mn : String} {V : VT} {X : XT} (M : Mach g l room_1 RL cL_law 25 hh mn V X) {x : Nat} {ad : Nat → Nat} {σ : ST} (hi : Inv σ) {T k Y P t : Nat} (hT : T ≤ 280) (hk : k < T) (hY : Y < 268435456) (hP : P < eN σ) (h : Hp) (md : Mid g h x ad (AR σ) σ) (kc ks : Nat) (hkc : kc ≤ 700000) (hks : ks ≤ 6800000) (z16 z18 z20 z21 z22 z23 z24 : Option Value) (K : LwK g V x ad T k Y P kc ks) : V 1486 [some (.ref (gN g 4)), some (.ref x), some (.ref (ad 0)), some (.ref (ad 1)), some (.ref (ad 2)), some (.ref (ad 3)), some (.ref (ad 4)), some (.ref (ad 5)), some (.ref (ad 6)), some (.ref (ad 7)), some (.int (nI (eN σ))), some (.int (nI (eM σ))), some (.int (ePaid σ)), some (.int (nI 1)), some (.int (nI T)), some (.int (nI k)), z16, some (.int (nI Y)), z18, some (.int (nI P)), z20, z21, z22, z23, z24] [] h kc ks := by
  have hw := hi.wf
  have n5 := hi.n5
  have m4 := hi.m4
  show V 1486 [some (.ref (gN g 4)), some (.ref x), some (.ref (ad 0)), some (.ref (ad 1)), some (.ref (ad 2)), some (.ref (ad 3)), some (.ref (ad 4)), some (.ref (ad 5)), some (.ref (ad 6)), some (.ref (ad 7)), some (.int (nI (eN σ))), some (.int (nI (eM σ))), some (.int (ePaid σ)), some (.int (nI 1)), some (.int (nI T)), some (.int (nI k)), z16, some (.int (nI Y)), z18, some (.int (nI P)), z20, z21, z22, z23, z24] [] h kc ks
  have hq99 := (hi.okp hP).2.2.2.2.2.2.1
  rcases s_mend hi hP (m := Y / 8 % 400) (by omega) with e | ⟨σ1, w1, e, ⟨hi1, en, em, ep⟩, eA, hf, w0, hbu⟩
  · refine r_iload M dL_law_1486 rfl ?_
    refine r_iconst (v := nI 3) M dL_law_1488 (by decide) ?_
    refine r_ishrN (k := 3) (q := 8) M dL_law_1489 (by omega) (by decide +kernel) rfl ?_
    refine r_sipush (v := nI 400) M dL_law_1490 (by decide) ?_
    refine r_iremN M dL_law_1493 (by omega) (by omega) (by omega) ?_
    refine r_istore M dL_law_1494 (by decide) ?_
    show V 1496 [some (.ref (gN g 4)), some (.ref x), some (.ref (ad 0)), some (.ref (ad 1)), some (.ref (ad 2)), some (.ref (ad 3)), some (.ref (ad 4)), some (.ref (ad 5)), some (.ref (ad 6)), some (.ref (ad 7)), some (.int (nI (eN σ))), some (.int (nI (eM σ))), some (.int (ePaid σ)), some (.int (nI 1)), some (.int (nI T)), some (.int (nI k)), z16, some (.int (nI Y)), z18, some (.int (nI P)), z20, some (.int (nI ((Y / 8) % 400))), z22, z23, z24] _ _ _ _
    refine r_aload_n M dL_law_1496 rfl ?_
    refine r_iload M dL_law_1497 rfl ?_
    refine r_callV (As := [(.int (nI P))]) M dL_law_1499 rfl (ct_ret (cd_worn hfl md hi.wf (nI P)) (e_worn hi (by omega))) (md.ox) rfl cw_L_84 ⟨Nat.le_of_ble_eq_true rfl, Nat.le_of_ble_eq_true rfl, Nat.le_of_ble_eq_true rfl⟩ (Nat.le_of_ble_eq_true rfl) ⟨by show _ ≤ 730377; omega, by show _ ≤ 6910568; omega⟩ (fun r4 h1 p3 => ?_) (fun _ _ z => False.elim z)
    obtain ⟨rfl, md2⟩ := p3
    show V 1502 _ [(.int (nI (qWorn (eP σ P))))] h1 _ _
    refine r_istore M dL_law_1502 (by decide) ?_
    show V 1504 [some (.ref (gN g 4)), some (.ref x), some (.ref (ad 0)), some (.ref (ad 1)), some (.ref (ad 2)), some (.ref (ad 3)), some (.ref (ad 4)), some (.ref (ad 5)), some (.ref (ad 6)), some (.ref (ad 7)), some (.int (nI (eN σ))), some (.int (nI (eM σ))), some (.int (ePaid σ)), some (.int (nI 1)), some (.int (nI T)), some (.int (nI k)), z16, some (.int (nI Y)), z18, some (.int (nI P)), z20, some (.int (nI ((Y / 8) % 400))), some (.int (nI (qWorn (eP σ P)))), z23, z24] _ _ _ _
    refine r_aload_n M dL_law_1504 rfl ?_
    refine r_iload M dL_law_1505 rfl ?_
    refine r_iload M dL_law_1507 rfl ?_
    refine r_callV (As := [(.int (nI P)), (.int (nI ((Y / 8) % 400)))]) M dL_law_1509 rfl (ct_ret (cd_isBusy hfl md2 hi.wf (nI P) (nI (Y / 8 % 400))) (e_isBusy hi (by omega) (by omega))) (md2.ox) rfl cw_L_102 ⟨Nat.le_of_ble_eq_true rfl, Nat.le_of_ble_eq_true rfl, Nat.le_of_ble_eq_true rfl⟩ (Nat.le_of_ble_eq_true rfl) ⟨by show _ ≤ 730377; omega, by show _ ≤ 6910568; omega⟩ (fun r8 h5 p7 => ?_) (fun _ _ z => False.elim z)
    obtain ⟨rfl, md6⟩ := p7
    show V 1512 _ [(.int (bI (takenS σ P (nI (Y / 8 % 400), nI 1))))] h5 _ _
    refine r_istore M dL_law_1512 (by decide) ?_
    show V 1514 [some (.ref (gN g 4)), some (.ref x), some (.ref (ad 0)), some (.ref (ad 1)), some (.ref (ad 2)), some (.ref (ad 3)), some (.ref (ad 4)), some (.ref (ad 5)), some (.ref (ad 6)), some (.ref (ad 7)), some (.int (nI (eN σ))), some (.int (nI (eM σ))), some (.int (ePaid σ)), some (.int (nI 1)), some (.int (nI T)), some (.int (nI k)), z16, some (.int (nI Y)), z18, some (.int (nI P)), z20, some (.int (nI ((Y / 8) % 400))), some (.int (nI (qWorn (eP σ P)))), some (.int (bI (takenS σ P (nI (Y / 8 % 400), nI 1)))), z24] _ _ _ _
    refine r_aload_n M dL_law_1514 rfl ?_
    refine r_iconst (v := nI 5) M dL_law_1515 (by decide) ?_
    refine r_iload M dL_law_1516 rfl ?_
    refine r_iload M dL_law_1518 rfl ?_
    refine r_iconst (v := nI 0) M dL_law_1520 (by decide) ?_
    refine r_iconst (v := nI 0) M dL_law_1521 (by decide) ?_
    refine r_callSW (As := [(.ref x), (.int (nI 5)), (.int (nI P)), (.int (nI ((Y / 8) % 400))), (.int (nI 0)), (.int (nI 0))]) M dL_law_1522 rfl (ctw_on (ct_on_mend hfl md6 hi.wf (nI P) (nI (Y / 8 % 400)) (nI 0) (nI 0) (oCt.thr e (Or.inr (Or.inl rfl)))) e onV_ise rfl) cw_L_59 ⟨Nat.le_of_ble_eq_true rfl, Nat.le_of_ble_eq_true rfl, Nat.le_of_ble_eq_true rfl⟩ (Nat.le_of_ble_eq_true rfl) ⟨by show _ ≤ 730377; omega, by show _ ≤ 6910568; omega⟩ (fun r12 h9 p11 => ?_) (fun _ _ z => z)
    obtain ⟨rfl, md10⟩ := p11
    show V 1525 _ [(.int (-2000013))] h9 _ _
    refine r_istore M dL_law_1525 (by decide) ?_
    show V 1527 [some (.ref (gN g 4)), some (.ref x), some (.ref (ad 0)), some (.ref (ad 1)), some (.ref (ad 2)), some (.ref (ad 3)), some (.ref (ad 4)), some (.ref (ad 5)), some (.ref (ad 6)), some (.ref (ad 7)), some (.int (nI (eN σ))), some (.int (nI (eM σ))), some (.int (ePaid σ)), some (.int (nI 1)), some (.int (nI T)), some (.int (nI k)), z16, some (.int (nI Y)), z18, some (.int (nI P)), z20, some (.int (nI ((Y / 8) % 400))), some (.int (nI (qWorn (eP σ P)))), some (.int (bI (takenS σ P (nI (Y / 8 % 400), nI 1)))), some (.int (-2000013))] _ _ _ _
    refine r_iload M dL_law_1527 rfl ?_
    refine r_ldc (v := -2000013) M dL_law_1529 cc_L_51 ?_
    refine r_icmp_ne (tgt := 1566) M dL_law_1531 (by decide) (fun c13 => absurd (by decide) c13) (fun _ => ?_)
    refine r_aload_n M dL_law_1534 rfl ?_
    refine r_iload M dL_law_1535 rfl ?_
    refine r_callV (As := [(.int (nI P))]) M dL_law_1537 rfl (ct_ret (cd_worn hfl md10 hi.wf (nI P)) (e_worn hi (by omega))) (md10.ox) rfl cw_L_84 ⟨Nat.le_of_ble_eq_true rfl, Nat.le_of_ble_eq_true rfl, Nat.le_of_ble_eq_true rfl⟩ (Nat.le_of_ble_eq_true rfl) ⟨by show _ ≤ 730377; omega, by show _ ≤ 6910568; omega⟩ (fun r17 h14 p16 => ?_) (fun _ _ z => False.elim z)
    obtain ⟨rfl, md15⟩ := p16
    show V 1540 _ [(.int (nI (qWorn (eP σ P))))] h14 _ _
    refine r_iload M dL_law_1540 rfl ?_
    refine r_icmp_neN (tgt := 1562) M dL_law_1542 (by decide) (by omega) (by omega) (fun c18 => absurd rfl c18) (fun c18 => ?_)
    refine r_aload_n M dL_law_1545 rfl ?_
    refine r_iload M dL_law_1546 rfl ?_
    refine r_iload M dL_law_1548 rfl ?_
    refine r_callV (As := [(.int (nI P)), (.int (nI ((Y / 8) % 400)))]) M dL_law_1550 rfl (ct_ret (cd_isBusy hfl md15 hi.wf (nI P) (nI (Y / 8 % 400))) (e_isBusy hi (by omega) (by omega))) (md15.ox) rfl cw_L_102 ⟨Nat.le_of_ble_eq_true rfl, Nat.le_of_ble_eq_true rfl, Nat.le_of_ble_eq_true rfl⟩ (Nat.le_of_ble_eq_true rfl) ⟨by show _ ≤ 730377; omega, by show _ ≤ 6910568; omega⟩ (fun r22 h19 p21 => ?_) (fun _ _ z => False.elim z)
    obtain ⟨rfl, md20⟩ := p21
    show V 1553 _ [(.int (bI (takenS σ P (nI (Y / 8 % 400), nI 1))))] h19 _ _
    refine r_iload M dL_law_1553 rfl ?_
    refine r_icmp_ne (tgt := 1562) M dL_law_1555 (by decide) (fun c23 => absurd rfl c23) (fun c23 => ?_)
    refine r_iconst (v := nI 1) M dL_law_1558 (by decide) ?_
    refine r_goto (tgt := 1624) M dL_law_1559 (by decide) ?_
    refine r_istore M dL_law_1624 (by decide) ?_
    show V 1626 [some (.ref (gN g 4)), some (.ref x), some (.ref (ad 0)), some (.ref (ad 1)), some (.ref (ad 2)), some (.ref (ad 3)), some (.ref (ad 4)), some (.ref (ad 5)), some (.ref (ad 6)), some (.ref (ad 7)), some (.int (nI (eN σ))), some (.int (nI (eM σ))), some (.int (ePaid σ)), some (.int (nI 1)), some (.int (nI T)), some (.int (nI k)), z16, some (.int (nI Y)), z18, some (.int (nI P)), z20, some (.int (nI ((Y / 8) % 400))), some (.int (nI (qWorn (eP σ P)))), some (.int (bI (takenS σ P (nI (Y / 8 % 400), nI 1)))), some (.int (-2000013))] _ _ _ _
    exact K _ σ _ _ _ _ _ _ _ _ _ (md20) (hi) (by omega) (by omega) (by omega)
  · have g1 := hbu (Y / 8 % 400) (Nat.le_refl _) (by omega)
    have g2 := hbu (Y / 8 % 400 + qWorn (eP σ P) - 1) (by omega) (by omega)
    refine r_iload M dL_law_1486 rfl ?_
    refine r_iconst (v := nI 3) M dL_law_1488 (by decide) ?_
    refine r_ishrN (k := 3) (q := 8) M dL_law_1489 (by omega) (by decide +kernel) rfl ?_
    refine r_sipush (v := nI 400) M dL_law_1490 (by decide) ?_
    refine r_iremN M dL_law_1493 (by omega) (by omega) (by omega) ?_
    refine r_istore M dL_law_1494 (by decide) ?_
    show V 1496 [some (.ref (gN g 4)), some (.ref x), some (.ref (ad 0)), some (.ref (ad 1)), some (.ref (ad 2)), some (.ref (ad 3)), some (.ref (ad 4)), some (.ref (ad 5)), some (.ref (ad 6)), some (.ref (ad 7)), some (.int (nI (eN σ))), some (.int (nI (eM σ))), some (.int (ePaid σ)), some (.int (nI 1)), some (.int (nI T)), some (.int (nI k)), z16, some (.int (nI Y)), z18, some (.int (nI P)), z20, some (.int (nI ((Y / 8) % 400))), z22, z23, z24] _ _ _ _
    refine r_aload_n M dL_law_1496 rfl ?_
    refine r_iload M dL_law_1497 rfl ?_
    refine r_callV (As := [(.int (nI P))]) M dL_law_1499 rfl (ct_ret (cd_worn hfl md hi.wf (nI P)) (e_worn hi (by omega))) (md.ox) rfl cw_L_84 ⟨Nat.le_of_ble_eq_true rfl, Nat.le_of_ble_eq_true rfl, Nat.le_of_ble_eq_true rfl⟩ (Nat.le_of_ble_eq_true rfl) ⟨by show _ ≤ 730377; omega, by show _ ≤ 6910568; omega⟩ (fun r27 h24 p26 => ?_) (fun _ _ z => False.elim z)
    obtain ⟨rfl, md25⟩ := p26
    show V 1502 _ [(.int (nI (qWorn (eP σ P))))] h24 _ _
    refine r_istore M dL_law_1502 (by decide) ?_
    show V 1504 [some (.ref (gN g 4)), some (.ref x), some (.ref (ad 0)), some (.ref (ad 1)), some (.ref (ad 2)), some (.ref (ad 3)), some (.ref (ad 4)), some (.ref (ad 5)), some (.ref (ad 6)), some (.ref (ad 7)), some (.int (nI (eN σ))), some (.int (nI (eM σ))), some (.int (ePaid σ)), some (.int (nI 1)), some (.int (nI T)), some (.int (nI k)), z16, some (.int (nI Y)), z18, some (.int (nI P)), z20, some (.int (nI ((Y / 8) % 400))), some (.int (nI (qWorn (eP σ P)))), z23, z24] _ _ _ _
    refine r_aload_n M dL_law_1504 rfl ?_
    refine r_iload M dL_law_1505 rfl ?_
    refine r_iload M dL_law_1507 rfl ?_
    refine r_callV (As := [(.int (nI P)), (.int (nI ((Y / 8) % 400)))]) M dL_law_1509 rfl (ct_ret (cd_isBusy hfl md25 hi.wf (nI P) (nI (Y / 8 % 400))) (e_isBusy hi (by omega) (by omega))) (md25.ox) rfl cw_L_102 ⟨Nat.le_of_ble_eq_true rfl, Nat.le_of_ble_eq_true rfl, Nat.le_of_ble_eq_true rfl⟩ (Nat.le_of_ble_eq_true rfl) ⟨by show _ ≤ 730377; omega, by show _ ≤ 6910568; omega⟩ (fun r31 h28 p30 => ?_) (fun _ _ z => False.elim z)
    obtain ⟨rfl, md29⟩ := p30
    show V 1512 _ [(.int (bI (takenS σ P (nI (Y / 8 % 400), nI 1))))] h28 _ _
    refine r_istore M dL_law_1512 (by decide) ?_
    show V 1514 [some (.ref (gN g 4)), some (.ref x), some (.ref (ad 0)), some (.ref (ad 1)), some (.ref (ad 2)), some (.ref (ad 3)), some (.ref (ad 4)), some (.ref (ad 5)), some (.ref (ad 6)), some (.ref (ad 7)), some (.int (nI (eN σ))), some (.int (nI (eM σ))), some (.int (ePaid σ)), some (.int (nI 1)), some (.int (nI T)), some (.int (nI k)), z16, some (.int (nI Y)), z18, some (.int (nI P)), z20, some (.int (nI ((Y / 8) % 400))), some (.int (nI (qWorn (eP σ P)))), some (.int (bI (takenS σ P (nI (Y / 8 % 400), nI 1)))), z24] _ _ _ _
    refine r_aload_n M dL_law_1514 rfl ?_
    refine r_iconst (v := nI 5) M dL_law_1515 (by decide) ?_
    refine r_iload M dL_law_1516 rfl ?_
    refine r_iload M dL_law_1518 rfl ?_
    refine r_iconst (v := nI 0) M dL_law_1520 (by decide) ?_
    refine r_iconst (v := nI 0) M dL_law_1521 (by decide) ?_
    refine r_callSW (As := [(.ref x), (.int (nI 5)), (.int (nI P)), (.int (nI ((Y / 8) % 400))), (.int (nI 0)), (.int (nI 0))]) M dL_law_1522 rfl (ctw_on (ct_on_mend hfl md29 hi.wf (nI P) (nI (Y / 8 % 400)) (nI 0) (nI 0) (oCt.ret e)) e rfl rfl) cw_L_59 ⟨Nat.le_of_ble_eq_true rfl, Nat.le_of_ble_eq_true rfl, Nat.le_of_ble_eq_true rfl⟩ (Nat.le_of_ble_eq_true rfl) ⟨by show _ ≤ 730377; omega, by show _ ≤ 6910568; omega⟩ (fun r35 h32 p34 => ?_) (fun _ _ z => z)
    obtain ⟨rfl, md33⟩ := p34
    show V 1525 _ [(.int (nI (qWorn (eP σ P))))] h32 _ _
    refine r_istore M dL_law_1525 (by decide) ?_
    show V 1527 [some (.ref (gN g 4)), some (.ref x), some (.ref (ad 0)), some (.ref (ad 1)), some (.ref (ad 2)), some (.ref (ad 3)), some (.ref (ad 4)), some (.ref (ad 5)), some (.ref (ad 6)), some (.ref (ad 7)), some (.int (nI (eN σ))), some (.int (nI (eM σ))), some (.int (ePaid σ)), some (.int (nI 1)), some (.int (nI T)), some (.int (nI k)), z16, some (.int (nI Y)), z18, some (.int (nI P)), z20, some (.int (nI ((Y / 8) % 400))), some (.int (nI (qWorn (eP σ P)))), some (.int (bI (takenS σ P (nI (Y / 8 % 400), nI 1)))), some (.int (nI (qWorn (eP σ P))))] _ _ _ _
    refine r_iload M dL_law_1527 rfl ?_
    refine r_ldc (v := -2000013) M dL_law_1529 cc_L_51 ?_
    refine r_icmp_ne (tgt := 1566) M dL_law_1531 (by decide) (fun c36 => ?_) (fun c36 => absurd c36 (nI_nn (by omega) (by decide)))
    refine r_iload M dL_law_1566 rfl ?_
    refine r_iload M dL_law_1568 rfl ?_
    refine r_icmp_neN (tgt := 1623) M dL_law_1570 (by decide) (by omega) (by omega) (fun c37 => absurd rfl c37) (fun c37 => ?_)
    refine r_iload M dL_law_1573 rfl ?_
    refine r_if_leN (tgt := 1623) M dL_law_1575 (by decide) (by omega) (fun c38 => absurd c38 (by omega)) (fun c38 => ?_)
    refine r_iload M dL_law_1578 rfl ?_
    refine r_if_neB (tgt := 1623) M dL_law_1580 (by decide) (fun c39 => by rw [hf] at c39; cases c39) (fun c39 => ?_)
    refine r_aload_n M dL_law_1583 rfl ?_
    refine r_iload M dL_law_1584 rfl ?_
    refine r_callV (As := [(.int (nI P))]) M dL_law_1586 rfl (ct_ret (cd_worn hfl md33 hi1.wf (nI P)) (e_worn hi1 (by omega))) (md33.ox) rfl cw_L_84 ⟨Nat.le_of_ble_eq_true rfl, Nat.le_of_ble_eq_true rfl, Nat.le_of_ble_eq_true rfl⟩ (Nat.le_of_ble_eq_true rfl) ⟨by show _ ≤ 730377; omega, by show _ ≤ 6910568; omega⟩ (fun r43 h40 p42 => ?_) (fun _ _ z => False.elim z)
    obtain ⟨rfl, md41⟩ := p42
    show V 1589 _ [(.int (nI (qWorn (eP σ1 P))))] h40 _ _
    refine r_if_neN (tgt := 1623) M dL_law_1589 (by decide) (by omega) (fun c44 => absurd c44 (by omega)) (fun c44 => ?_)
    refine r_aload_n M dL_law_1592 rfl ?_
    refine r_iload M dL_law_1593 rfl ?_
    refine r_iload M dL_law_1595 rfl ?_
    refine r_callV (As := [(.int (nI P)), (.int (nI ((Y / 8) % 400)))]) M dL_law_1597 rfl (ct_ret (cd_isBusy hfl md41 hi1.wf (nI P) (nI (Y / 8 % 400))) (e_isBusy hi1 (by omega) (by omega))) (md41.ox) rfl cw_L_102 ⟨Nat.le_of_ble_eq_true rfl, Nat.le_of_ble_eq_true rfl, Nat.le_of_ble_eq_true rfl⟩ (Nat.le_of_ble_eq_true rfl) ⟨by show _ ≤ 730377; omega, by show _ ≤ 6910568; omega⟩ (fun r48 h45 p47 => ?_) (fun _ _ z => False.elim z)
    obtain ⟨rfl, md46⟩ := p47
    show V 1600 _ [(.int (bI (takenS σ1 P (nI (Y / 8 % 400), nI 1))))] h45 _ _
    refine r_if_eqB (tgt := 1623) M dL_law_1600 (by decide) (fun c49 => by rw [g1] at c49; cases c49) (fun c49 => ?_)
    refine r_aload_n M dL_law_1603 rfl ?_
    refine r_iload M dL_law_1604 rfl ?_
    refine r_iload M dL_law_1606 rfl ?_
    refine r_iload M dL_law_1608 rfl ?_
    refine r_iaddN M dL_law_1610 ?_
    refine r_iconst (v := nI 1) M dL_law_1611 (by decide) ?_
    refine r_isubN M dL_law_1612 (by omega) ?_
    refine r_callV (As := [(.int (nI P)), (.int (nI ((((Y / 8) % 400) + (qWorn (eP σ P))) - 1)))]) M dL_law_1613 rfl (ct_ret (cd_isBusy hfl md46 hi1.wf (nI P) (nI (Y / 8 % 400 + qWorn (eP σ P) - 1))) (e_isBusy hi1 (by omega) (by omega))) (md46.ox) rfl cw_L_102 ⟨Nat.le_of_ble_eq_true rfl, Nat.le_of_ble_eq_true rfl, Nat.le_of_ble_eq_true rfl⟩ (Nat.le_of_ble_eq_true rfl) ⟨by show _ ≤ 730377; omega, by show _ ≤ 6910568; omega⟩ (fun r53 h50 p52 => ?_) (fun _ _ z => False.elim z)
    obtain ⟨rfl, md51⟩ := p52
    show V 1616 _ [(.int (bI (takenS σ1 P (nI (Y / 8 % 400 + qWorn (eP σ P) - 1), nI 1))))] h50 _ _
    refine r_if_eqB (tgt := 1623) M dL_law_1616 (by decide) (fun c54 => by rw [g2] at c54; cases c54) (fun c54 => ?_)
    refine r_iconst (v := nI 1) M dL_law_1619 (by decide) ?_
    refine r_goto (tgt := 1624) M dL_law_1620 (by decide) ?_
    refine r_istore M dL_law_1624 (by decide) ?_
    show V 1626 [some (.ref (gN g 4)), some (.ref x), some (.ref (ad 0)), some (.ref (ad 1)), some (.ref (ad 2)), some (.ref (ad 3)), some (.ref (ad 4)), some (.ref (ad 5)), some (.ref (ad 6)), some (.ref (ad 7)), some (.int (nI (eN σ))), some (.int (nI (eM σ))), some (.int (ePaid σ)), some (.int (nI 1)), some (.int (nI T)), some (.int (nI k)), z16, some (.int (nI Y)), z18, some (.int (nI P)), z20, some (.int (nI ((Y / 8) % 400))), some (.int (nI (qWorn (eP σ P)))), some (.int (bI (takenS σ P (nI (Y / 8 % 400), nI 1)))), some (.int (nI (qWorn (eP σ P))))] _ _ _ _
    rw [← en, ← em, ← ep]
    exact K _ σ1 _ _ _ _ _ _ _ _ _ (md51.ar eA) (hi1) (by omega) (by omega) (by omega)
