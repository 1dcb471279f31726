/-! ===== what the law makes first; its whole walk ===== -/
theorem fr_none {Wr : Nat → Prop} {h h' : Hp} {b : Nat} (f : Fr Wr h h') (hb : xS h' b = none) : xS h b = none := by
  cases hz : xS h b with
  | none => rfl
  | some z => have := f.S hz; rw [hb] at this; cases this
/-- the first n rows are made -/
def Rws (h0 h : Hp) (n : Nat) (ad : Nat → Nat) : Prop := Fr (fun _ => False) h0 h ∧ (∀ k, k < n → xS h (ad k) = some (8, szA k) ∧ (∀ i, xA h (ad k) i = 0) ∧ xS h0 (ad k) = none) ∧ ∀ i j, i < n → j < n → ad i = ad j → i = j
theorem Rws.zero (h : Hp) : Rws h h 0 (fun _ => 0) := ⟨Fr.rf, fun k hk => absurd hk (Nat.not_lt_zero _), fun i j hi => absurd hi (Nat.not_lt_zero _)⟩
theorem Rws.step {h0 h : Hp} {n q N : Nat} {ad : Nat → Nat} (r : Rws h0 h n ad) (hq : xS h q = none) (hN : szA n = N) : Rws h0 (yN h q 8 N) (n + 1) (upt ad n q) := by
  obtain ⟨f, a, inj⟩ := r
  subst hN
  refine ⟨f.tr (Fr.yN hq), fun k hk => ?_, fun i j hi hj e => ?_⟩
  · by_cases c : k = n
    · subst c
      rw [upt_s]
      exact ⟨yN_q, fun i => by rw [zxA_yN, if_pos rfl], fr_none f hq⟩
    · rw [upt_n _ _ c]
      obtain ⟨a1, a2, a3⟩ := a k (by omega)
      have hne := ne_of_S a1 hq
      exact ⟨yN_S hq a1, fun i => by rw [zxA_yN, if_neg hne]; exact a2 i, a3⟩
  · by_cases c1 : i = n
    · by_cases c2 : j = n
      · omega
      · rw [c1, upt_s, upt_n _ _ c2] at e
        exact absurd e.symm (ne_of_S (a j (by omega)).1 hq)
    · by_cases c2 : j = n
      · rw [c2, upt_s, upt_n _ _ c1] at e
        exact absurd e (ne_of_S (a i (by omega)).1 hq)
      · rw [upt_n _ _ c1, upt_n _ _ c2] at e
        exact inj i j (by omega) (by omega) e
theorem cnt_none : cnt (fun _ => false) 8 = 0 := rfl
theorem ar_st0 : ∀ k, k < 8 → ∀ i, AR st0 k i = 0 := by
  intro k hk i
  match k, hk with
  | 0, _ => rfl
  | 1, _ => rfl
  | 2, _ => exact nI_0
  | 3, _ => rfl
  | 4, _ => rfl
  | 5, _ => exact nI_0
  | 6, _ => show (if i < 0 then (if tDone (eS st0 i) = true then 0 else nI (tLeft (eS st0 i))) else 0) = 0; rw [if_neg (Nat.not_lt_zero _)]
  | 7, _ => rfl
  | n + 8, h => omega
theorem inv_st0 : Inv st0 := ⟨st0_wx, Nat.zero_le _, Nat.zero_le _, fun j hj => absurd hj (Nat.not_lt_zero _), fun i hi => absurd hi (Nat.not_lt_zero _), fun i j k hj => absurd hj (Nat.not_lt_zero _), fun i j hi => absurd hi (Nat.not_lt_zero _)⟩
theorem rws_mid {g : Gl} {h1 h : Hp} {x : Nat} {ad : Nat → Nat} {ow : Nat → Nat} {pL sL ha : Nat} (r : Rws h1 h 8 ad) (rc : RC (gN g 2) ow h1 x pL sL ha [] [] st0) (tg : ∀ b, xS h1 b = none → ow b = 0) (fE : xS h (gN g 2) = none) : Mid g h x ad (AR st0) st0 := by
  obtain ⟨f, a, inj⟩ := r
  have kk : Kp (fun t => t ≠ 0) ow ow h1 h := Kp.of f (fun _ _ _ => rfl) (fun _ _ _ _ e => e)
  exact ⟨ow, pL, sL, ha, [], [], rc.kp0 kk fE, fun k hk => ⟨(a k hk).1, tg _ (a k hk).2.2, funext (fun i => ((a k hk).2.1 i).trans (ar_st0 k hk i).symm)⟩, inj⟩
set_option maxRecDepth 100000 in
set_option maxHeartbeats 4000000 in
theorem lw_all {g : Gl} {l : Launch} (hfl : l.stackTraces = false) {hh : List (Nat × Nat × Nat × Nat)} {mn : String} {V : VT} {X : XT} (M : Mach g l room_1 RL cL_law 25 hh mn V X) (kend : ∀ (pc : Nat) (lv : List (Option Value)) (h : Hp) (kc ks : Nat), decode cL_law pc = .ok (.ireturn, 1) → kc ≤ 730377 → ks ≤ 6910568 → V pc lv [.int (nI 1)] h kc ks) (hL : gN g 5 ≤ 260) (h0 : Hp) (hn : ∀ b, xS h0 b = none) : V 0 [some (.ref (gN g 4)), none, none, none, none, none, none, none, none, none, none, none, none, none, none, none, none, none, none, none, none, none, none, none, none] [] h0 0 0 := by
  refine r_new M dL_law_0 ki_5 rfl cl_L_8 nwL_5 niL_5 ⟨by show _ ≤ 730377; omega, by show _ ≤ 6910568; omega⟩ (fun x hx => ?_)
  refine r_dup M dL_law_3 rfl ?_
  refine r_callI (As := []) M dL_law_4 rfl (ct_loomInit hfl (yN h0 x 5 0) x yN_q) cw_L_73 ⟨Nat.le_of_ble_eq_true rfl, Nat.le_of_ble_eq_true rfl, Nat.le_of_ble_eq_true rfl⟩ (Nat.le_of_ble_eq_true rfl) ⟨by show _ ≤ 730377; omega, by show _ ≤ 6910568; omega⟩ (fun r1 h1 p1 => ?_) (fun _ _ z => z)
  obtain ⟨e1, ow, pL, sL, ha, rc, tg1, tg2, fr1⟩ := p1
  rw [e1]
  show V 7 [some (.ref (gN g 4)), none, none, none, none, none, none, none, none, none, none, none, none, none, none, none, none, none, none, none, none, none, none, none, none] [.ref x] h1 _ _
  have rw0 := Rws.zero h1
  refine r_astore_n M dL_law_7 (by decide) ?_
  show V 8 [some (.ref (gN g 4)), some (.ref x), none, none, none, none, none, none, none, none, none, none, none, none, none, none, none, none, none, none, none, none, none, none, none] _ _ _ _
  refine r_iconst (v := nI 5) M dL_law_8 (by decide) ?_
  refine r_newI (N := 5) M dL_law_9 ac_int (nI_pos (by omega)) (nI_clamp (by omega)) (by decide) ⟨by show _ ≤ 730377; omega, by show _ ≤ 6910568; omega⟩ (fun q1 hq1 => ?_)
  have rw1 := rw0.step hq1 (show szA 0 = 5 from rfl)
  refine r_astore_n M dL_law_11 (by decide) ?_
  show V 12 [some (.ref (gN g 4)), some (.ref x), some (.ref q1), none, none, none, none, none, none, none, none, none, none, none, none, none, none, none, none, none, none, none, none, none, none] _ _ _ _
  refine r_iconst (v := nI 5) M dL_law_12 (by decide) ?_
  refine r_newI (N := 5) M dL_law_13 ac_int (nI_pos (by omega)) (nI_clamp (by omega)) (by decide) ⟨by show _ ≤ 730377; omega, by show _ ≤ 6910568; omega⟩ (fun q2 hq2 => ?_)
  have rw2 := rw1.step hq2 (show szA 1 = 5 from rfl)
  refine r_astore_n M dL_law_15 (by decide) ?_
  show V 16 [some (.ref (gN g 4)), some (.ref x), some (.ref q1), some (.ref q2), none, none, none, none, none, none, none, none, none, none, none, none, none, none, none, none, none, none, none, none, none] _ _ _ _
  refine r_iconst (v := nI 5) M dL_law_16 (by decide) ?_
  refine r_newI (N := 5) M dL_law_17 ac_int (nI_pos (by omega)) (nI_clamp (by omega)) (by decide) ⟨by show _ ≤ 730377; omega, by show _ ≤ 6910568; omega⟩ (fun q3 hq3 => ?_)
  have rw3 := rw2.step hq3 (show szA 2 = 5 from rfl)
  refine r_astore M dL_law_19 (by decide) ?_
  show V 21 [some (.ref (gN g 4)), some (.ref x), some (.ref q1), some (.ref q2), some (.ref q3), none, none, none, none, none, none, none, none, none, none, none, none, none, none, none, none, none, none, none, none] _ _ _ _
  refine r_iconst (v := nI 4) M dL_law_21 (by decide) ?_
  refine r_newI (N := 4) M dL_law_22 ac_int (nI_pos (by omega)) (nI_clamp (by omega)) (by decide) ⟨by show _ ≤ 730377; omega, by show _ ≤ 6910568; omega⟩ (fun q4 hq4 => ?_)
  have rw4 := rw3.step hq4 (show szA 3 = 4 from rfl)
  refine r_astore M dL_law_24 (by decide) ?_
  show V 26 [some (.ref (gN g 4)), some (.ref x), some (.ref q1), some (.ref q2), some (.ref q3), some (.ref q4), none, none, none, none, none, none, none, none, none, none, none, none, none, none, none, none, none, none, none] _ _ _ _
  refine r_iconst (v := nI 4) M dL_law_26 (by decide) ?_
  refine r_newI (N := 4) M dL_law_27 ac_int (nI_pos (by omega)) (nI_clamp (by omega)) (by decide) ⟨by show _ ≤ 730377; omega, by show _ ≤ 6910568; omega⟩ (fun q5 hq5 => ?_)
  have rw5 := rw4.step hq5 (show szA 4 = 4 from rfl)
  refine r_astore M dL_law_29 (by decide) ?_
  show V 31 [some (.ref (gN g 4)), some (.ref x), some (.ref q1), some (.ref q2), some (.ref q3), some (.ref q4), some (.ref q5), none, none, none, none, none, none, none, none, none, none, none, none, none, none, none, none, none, none] _ _ _ _
  refine r_iconst (v := nI 4) M dL_law_31 (by decide) ?_
  refine r_newI (N := 4) M dL_law_32 ac_int (nI_pos (by omega)) (nI_clamp (by omega)) (by decide) ⟨by show _ ≤ 730377; omega, by show _ ≤ 6910568; omega⟩ (fun q6 hq6 => ?_)
  have rw6 := rw5.step hq6 (show szA 5 = 4 from rfl)
  refine r_astore M dL_law_34 (by decide) ?_
  show V 36 [some (.ref (gN g 4)), some (.ref x), some (.ref q1), some (.ref q2), some (.ref q3), some (.ref q4), some (.ref q5), some (.ref q6), none, none, none, none, none, none, none, none, none, none, none, none, none, none, none, none, none] _ _ _ _
  refine r_iconst (v := nI 4) M dL_law_36 (by decide) ?_
  refine r_newI (N := 4) M dL_law_37 ac_int (nI_pos (by omega)) (nI_clamp (by omega)) (by decide) ⟨by show _ ≤ 730377; omega, by show _ ≤ 6910568; omega⟩ (fun q7 hq7 => ?_)
  have rw7 := rw6.step hq7 (show szA 6 = 4 from rfl)
  refine r_astore M dL_law_39 (by decide) ?_
  show V 41 [some (.ref (gN g 4)), some (.ref x), some (.ref q1), some (.ref q2), some (.ref q3), some (.ref q4), some (.ref q5), some (.ref q6), some (.ref q7), none, none, none, none, none, none, none, none, none, none, none, none, none, none, none, none] _ _ _ _
  refine r_iconst (v := nI 4) M dL_law_41 (by decide) ?_
  refine r_newI (N := 4) M dL_law_42 ac_int (nI_pos (by omega)) (nI_clamp (by omega)) (by decide) ⟨by show _ ≤ 730377; omega, by show _ ≤ 6910568; omega⟩ (fun q8 hq8 => ?_)
  have rw8 := rw7.step hq8 (show szA 7 = 4 from rfl)
  refine r_astore M dL_law_44 (by decide) ?_
  show V 46 [some (.ref (gN g 4)), some (.ref x), some (.ref q1), some (.ref q2), some (.ref q3), some (.ref q4), some (.ref q5), some (.ref q6), some (.ref q7), some (.ref q8), none, none, none, none, none, none, none, none, none, none, none, none, none, none, none] _ _ _ _
  refine r_iconst (v := nI 0) M dL_law_46 (by decide) ?_
  refine r_istore M dL_law_47 (by decide) ?_
  show V 49 [some (.ref (gN g 4)), some (.ref x), some (.ref q1), some (.ref q2), some (.ref q3), some (.ref q4), some (.ref q5), some (.ref q6), some (.ref q7), some (.ref q8), some (.int (nI 0)), none, none, none, none, none, none, none, none, none, none, none, none, none, none] _ _ _ _
  refine r_iconst (v := nI 0) M dL_law_49 (by decide) ?_
  refine r_istore M dL_law_50 (by decide) ?_
  show V 52 [some (.ref (gN g 4)), some (.ref x), some (.ref q1), some (.ref q2), some (.ref q3), some (.ref q4), some (.ref q5), some (.ref q6), some (.ref q7), some (.ref q8), some (.int (nI 0)), some (.int (nI 0)), none, none, none, none, none, none, none, none, none, none, none, none, none] _ _ _ _
  refine r_iconst (v := nI 0) M dL_law_52 (by decide) ?_
  refine r_istore M dL_law_53 (by decide) ?_
  show V 55 [some (.ref (gN g 4)), some (.ref x), some (.ref q1), some (.ref q2), some (.ref q3), some (.ref q4), some (.ref q5), some (.ref q6), some (.ref q7), some (.ref q8), some (.int (nI 0)), some (.int (nI 0)), some (.int (nI 0)), none, none, none, none, none, none, none, none, none, none, none, none] _ _ _ _
  refine r_ownE M (fun fE => ?_)
  obtain ⟨ad, ead⟩ : ∃ ad : Nat → Nat, ad = (upt (upt (upt (upt (upt (upt (upt (upt (fun _ => 0) 0 q1) 1 q2) 2 q3) 3 q4) 4 q5) 5 q6) 6 q7) 7 q8) := ⟨_, rfl⟩
  have a0 : q1 = ad 0 := by rw [ead]; rfl
  have a1 : q2 = ad 1 := by rw [ead]; rfl
  have a2 : q3 = ad 2 := by rw [ead]; rfl
  have a3 : q4 = ad 3 := by rw [ead]; rfl
  have a4 : q5 = ad 4 := by rw [ead]; rfl
  have a5 : q6 = ad 5 := by rw [ead]; rfl
  have a6 : q7 = ad 6 := by rw [ead]; rfl
  have a7 : q8 = ad 7 := by rw [ead]; rfl
  rw [← ead] at rw8
  have md := rws_mid rw8 rc tg2 fE
  generalize (yN (yN (yN (yN (yN (yN (yN (yN h1 q1 8 5) q2 8 5) q3 8 5) q4 8 4) q5 8 4) q6 8 4) q7 8 4) q8 8 4) = hN at md ⊢
  rw [a0, a1, a2, a3, a4, a5, a6, a7]
  show V 55 [some (.ref (gN g 4)), some (.ref x), some (.ref (ad 0)), some (.ref (ad 1)), some (.ref (ad 2)), some (.ref (ad 3)), some (.ref (ad 4)), some (.ref (ad 5)), some (.ref (ad 6)), some (.ref (ad 7)), some (.int (nI 0)), some (.int (nI 0)), some (.int (nI 0)), none, none, none, none, none, none, none, none, none, none, none, none] [] hN _ _
  refine r_aload_n M dL_law_55 rfl ?_
  refine r_callV (As := []) M dL_law_56 rfl (ct_ret (cd_income hfl md inv_st0.wf) rfl) (md.ox) rfl cw_L_74 ⟨Nat.le_of_ble_eq_true rfl, Nat.le_of_ble_eq_true rfl, Nat.le_of_ble_eq_true rfl⟩ (Nat.le_of_ble_eq_true rfl) ⟨by show _ ≤ 730377; omega, by show _ ≤ 6910568; omega⟩ (fun r12 h9 p11 => ?_) (fun _ _ z => False.elim z)
  obtain ⟨rfl, md10⟩ := p11
  show V 59 _ [(.int (ePaid st0))] h9 _ _
  refine r_if_ne (tgt := 66) M dL_law_59 (by decide) (fun c13 => absurd rfl c13) (fun c13 => ?_)
  refine r_iconst (v := nI 1) M dL_law_62 (by decide) ?_
  refine r_goto (tgt := 67) M dL_law_63 (by decide) ?_
  refine r_istore M dL_law_67 (by decide) ?_
  show V 69 [some (.ref (gN g 4)), some (.ref x), some (.ref (ad 0)), some (.ref (ad 1)), some (.ref (ad 2)), some (.ref (ad 3)), some (.ref (ad 4)), some (.ref (ad 5)), some (.ref (ad 6)), some (.ref (ad 7)), some (.int (nI 0)), some (.int (nI 0)), some (.int (nI 0)), some (.int (nI 1)), none, none, none, none, none, none, none, none, none, none, none] _ _ _ _
  have J : ∀ T : Nat, T ≤ 280 → V 99 [some (.ref (gN g 4)), some (.ref x), some (.ref (ad 0)), some (.ref (ad 1)), some (.ref (ad 2)), some (.ref (ad 3)), some (.ref (ad 4)), some (.ref (ad 5)), some (.ref (ad 6)), some (.ref (ad 7)), some (.int (nI 0)), some (.int (nI 0)), some (.int (nI 0)), some (.int (nI 1)), none, none, none, none, none, none, none, none, none, none, none] [.int (nI T)] h9 (0 + 1 + 3 + 1 + 1 + 1 + 1 + 1 + 1 + 1 + 1 + 0) (0 + 4 + 18 + 5 + 5 + 5 + 4 + 4 + 4 + 4 + 4 + 0) := by
    intro T hT
    refine r_istore M dL_law_99 (by decide) ?_
    show V 101 [some (.ref (gN g 4)), some (.ref x), some (.ref (ad 0)), some (.ref (ad 1)), some (.ref (ad 2)), some (.ref (ad 3)), some (.ref (ad 4)), some (.ref (ad 5)), some (.ref (ad 6)), some (.ref (ad 7)), some (.int (nI 0)), some (.int (nI 0)), some (.int (nI 0)), some (.int (nI 1)), some (.int (nI T)), none, none, none, none, none, none, none, none, none, none] _ _ _ _
    refine r_iconst (v := nI 0) M dL_law_101 (by decide) ?_
    refine r_istore M dL_law_102 (by decide) ?_
    show V 104 [some (.ref (gN g 4)), some (.ref x), some (.ref (ad 0)), some (.ref (ad 1)), some (.ref (ad 2)), some (.ref (ad 3)), some (.ref (ad 4)), some (.ref (ad 5)), some (.ref (ad 6)), some (.ref (ad 7)), some (.int (nI 0)), some (.int (nI 0)), some (.int (nI 0)), some (.int (nI 1)), some (.int (nI T)), some (.int (nI 0)), none, none, none, none, none, none, none, none, none] _ _ _ _
    exact lw_loop hfl M kend hL hT 282 0 st0 _ _ _ _ _ _ _ _ _ _ _ _ (by omega) (by omega) inv_st0 md10 (fun _ => rfl) (by omega) (by omega)
  refine r_aload_n M dL_law_69 rfl ?_
  refine r_alenX M dL_law_70 ?_
  refine r_bipush (v := nI 40) M dL_law_71 (by decide) ?_
  refine r_icmp_geN (tgt := 82) M dL_law_73 (by decide) (by omega) (by omega) (fun c14 => ?_) (fun c14 => ?_)
  · refine r_aload_n M dL_law_82 rfl ?_
    refine r_alenX M dL_law_83 ?_
    refine r_bipush (v := nI 80) M dL_law_84 (by decide) ?_
    refine r_icmp_geN (tgt := 96) M dL_law_86 (by decide) (by omega) (by omega) (fun c15 => ?_) (fun c15 => ?_)
    · refine r_sipush (v := nI 280) M dL_law_96 (by decide) ?_
      exact J _ (by omega)
    · refine r_iconst (v := nI 3) M dL_law_89 (by decide) ?_
      refine r_aload_n M dL_law_90 rfl ?_
      refine r_alenX M dL_law_91 ?_
      refine r_imulN M dL_law_92 ?_
      refine r_goto (tgt := 99) M dL_law_93 (by decide) ?_
      exact J _ (by omega)
  · refine r_sipush (v := nI 170) M dL_law_76 (by decide) ?_
    refine r_goto (tgt := 99) M dL_law_79 (by decide) ?_
    exact J _ (by omega)
/-! ===== the start: what the Statement gives, and the law's walk from its entry ===== -/
def flN : List Cond := flatC (Jvm.Cond.and given_1 narrow_1)
theorem fl_ea : ∀ j < 32, Cond.eq (.elem (.static "Puppetloom" "EASING" "[I") (.int (Int32.ofNat j))) (.int (easeL.getD j 0)) ∈ flN := by decide +kernel
theorem fl_el : Cond.eq (.length (.static "Puppetloom" "EASING" "[I")) (.int (Int32.ofNat 32)) ∈ flN := by decide +kernel
theorem fl_er : Cond.arrayOf (.static "Puppetloom" "EASING" "[I") .int ∈ flN := by decide +kernel
theorem fl_dl : Cond.eq (.length (.static "java/util/ArrayList" "DEFAULTCAPACITY_EMPTY_ELEMENTDATA" "[Ljava/lang/Object;")) (.int (Int32.ofNat 0)) ∈ flN := by decide +kernel
theorem fl_dr : Cond.arrayOf (.static "java/util/ArrayList" "DEFAULTCAPACITY_EMPTY_ELEMENTDATA" "[Ljava/lang/Object;") (.object "java/lang/Object") ∈ flN := by decide +kernel
theorem fl_un : Cond.isRef (.static Bundle.tN "UNASSIGNED_STACK" Bundle.steD) ∈ flN := by decide +kernel
theorem fl_su : Cond.isRef (.static Bundle.tN "SUPPRESSED_SENTINEL" Bundle.listD) ∈ flN := by decide +kernel
theorem fl_mi : Cond.isRef (.mirror "[Ljava/lang/Object;") ∈ flN := by decide +kernel
theorem fl_nc : ∀ q ∈ ncs, Cond.not (.castable q.1 q.2) ∈ flN := by decide +kernel
theorem fl_st : ∀ q ∈ strs, Cond.exactly (.string q.1 q.2.1) "java/lang/String" ∈ flN := by decide +kernel
theorem tb_st : ∀ q ∈ strs, Cond.stringRef q.1 q.2.1 q.2.2 ∈ lw_tbl := by decide +kernel
theorem tb_e1 : Cond.laysStatic "Puppetloom" "EASING" "[I" ∈ lw_tbl := by decide +kernel
theorem tb_e2 : Cond.initialized "Puppetloom" ∈ lw_tbl := by decide +kernel
theorem tb_d1 : Cond.laysStatic "java/util/ArrayList" "DEFAULTCAPACITY_EMPTY_ELEMENTDATA" "[Ljava/lang/Object;" ∈ lw_tbl := by decide +kernel
theorem tb_d2 : Cond.initialized "java/util/ArrayList" ∈ lw_tbl := by decide +kernel
theorem tb_t1 : Cond.laysStatic Bundle.tN "UNASSIGNED_STACK" Bundle.steD ∈ lw_tbl := by decide +kernel
theorem tb_t2 : Cond.laysStatic Bundle.tN "SUPPRESSED_SENTINEL" Bundle.listD ∈ lw_tbl := by decide +kernel
theorem tb_t3 : Cond.initialized Bundle.tN ∈ lw_tbl := by decide +kernel
theorem tb_gc : Cond.declares ⟨"java/lang/Object", "getClass", "()Ljava/lang/Class;"⟩ ∈ lw_tbl := by decide +kernel
theorem tb_ao : Cond.arrayOver (.object "java/lang/Object") ∈ lw_tbl := by decide +kernel
theorem st_arr {s : State} {args : Array Value} {ty : FieldType} (h : (Cond.arrayClass ty).before args s = true) : ∃ cA, ArrOfT s cA ty ∧ s.vm.findClass ("[" ++ ty.toString) = some cA := by
  obtain ⟨c, k, comp, h1, h2, h3⟩ := Cond.arrayClass_spec (show (Cond.arrayClass ty).holds args s none s [] = true from h)
  exact ⟨c, fun n z => ⟨fun k h => (by cases h), k, h2, comp, h3⟩, h1⟩
theorem st_arrO {s : State} {args : Array Value} {n : String} (h : (Cond.arrayOver (.object n)).before args s = true) : ∃ cA, ArrOfT s cA (.object n) ∧ va_RA s cA (.object n) := by
  obtain ⟨comp, c, k, h1, h2, h3, h4, h5⟩ := Cond.arrayOver_spec (show (Cond.arrayOver (.object n)).holds args s none s [] = true from h)
  exact ⟨c, fun n z => ⟨fun k h => (by cases h), k, h3, comp, h4⟩, k, comp, h3, h4, h1, h5⟩
theorem ev_int {s : State} {args : Array Value} {tm : Term} {v : Int32} (h : (Cond.eq tm (.int v)).before args s = true) : tm.eval args s none [] s = some (.int v) := Cond.eq_int (show (Cond.eq tm (.int v)).holds args s none s [] = true from h) rfl
def mkG (D : va_G) (cI cZ cO cJ : ClassId) (n0 e1 e2 e3 e4 e5 : Nat) (st : Nat → Nat) (xs : Nat → Int32) : Gl := (D, (fun k => if k = 0 then cI else if k = 1 then cZ else if k = 2 then cO else cJ), (fun n => if n = 0 then n0 else if n = 1 then e1 else if n = 2 then e2 else if n = 3 then e3 else if n = 4 then e4 else if n = 5 then e5 else st (n - 10)), xs)
theorem mkG_10 (D : va_G) (cI cZ cO cJ : ClassId) (n0 e1 e2 e3 e4 e5 : Nat) (st : Nat → Nat) (xs : Nat → Int32) (k : Nat) : gN (mkG D cI cZ cO cJ n0 e1 e2 e3 e4 e5 st xs) (10 + k) = st k := by
  show (if 10 + k = 0 then n0 else if 10 + k = 1 then e1 else if 10 + k = 2 then e2 else if 10 + k = 3 then e3 else if 10 + k = 4 then e4 else if 10 + k = 5 then e5 else st (10 + k - 10)) = st k
  rw [if_neg (by omega), if_neg (by omega), if_neg (by omega), if_neg (by omega), if_neg (by omega), if_neg (by omega), show 10 + k - 10 = k by omega]
def hE0 : Hp := (fun _ => none, fun _ _ => 0, fun _ _ => none, fun _ _ => 0, fun _ _ => none, fun _ _ => 0)
set_option maxRecDepth 100000 in
set_option maxHeartbeats 4000000 in
theorem glob_start {s : State} {b L : Nat} {xs : Nat → Int32} (hts : ∀ w ∈ lw_tbl, w.before #[Value.ref b] s = true) (hgv : (Jvm.Cond.and given_1 narrow_1).before #[Value.ref b] s = true) (hX : va_X b L xs s s.heap) (hb : b < s.heap.size) : ∃ g : Gl, Glob g s ∧ gN g 0 = s.heap.size ∧ gN g 4 = b ∧ gN g 5 = L ∧ HG g hE0 s.heap := by
  have hq : ∀ w ∈ flN, w.before #[Value.ref b] s = true := flat_of_before _ hgv
  have hA : ∀ a : Nat, a < s.heap.size → ¬ (fun q : Nat => s.heap.size ≤ q) a := fun a h => Nat.not_le.mpr h
  have tb : ∀ {w : Cond}, w ∈ TB → w.before #[Value.ref b] s = true := fun hw => hts _ (List.mem_filter.mp hw).1
  obtain ⟨k0, i0, u0⟩ := u_known (C := RX0) (T := TX0) (N := 4) (n := 4) (ws := lw_tbl) hts (fun w hw => (List.mem_filter.mp (ws_X0 w hw)).1) (tb nw_0)
  obtain ⟨k1, i1, u1⟩ := u_known (C := RX1) (T := TX1) (N := 2) (n := 2) (ws := lw_tbl) hts (fun w hw => (List.mem_filter.mp (ws_X1 w hw)).1) (tb nw_1)
  obtain ⟨k2, i2, u2⟩ := u_known (C := RX2) (T := TX2) (N := 8) (n := 8) (ws := lw_tbl) hts (fun w hw => (List.mem_filter.mp (ws_X2 w hw)).1) (tb nw_2)
  obtain ⟨k3, i3, u3⟩ := u_known (C := RX3) (T := TX3) (N := 6) (n := 6) (ws := lw_tbl) hts (fun w hw => (List.mem_filter.mp (ws_X3 w hw)).1) (tb nw_3)
  obtain ⟨k4, i4, u4⟩ := u_known (C := RX4) (T := TX4) (N := 2) (n := 2) (ws := lw_tbl) hts (fun w hw => (List.mem_filter.mp (ws_X4 w hw)).1) (tb nw_4)
  obtain ⟨k5, i5, u5⟩ := u_known (C := RX5) (T := TX5) (N := 4) (n := 4) (ws := lw_tbl) hts (fun w hw => (List.mem_filter.mp (ws_X5 w hw)).1) (tb nwL_5)
  obtain ⟨k6, i6, u6⟩ := u_known (C := RX0) (T := TX0) (N := 4) (n := 4) (ws := lw_tbl) hts (fun w hw => (List.mem_filter.mp (ws_X0 w hw)).1) (tb nw_0)
  obtain ⟨k7, i7, u7⟩ := u_known (C := RJx4a65c) (T := TJx4a65c) (N := 3) (n := 3) (ws := lw_tbl) hts (fun w hw => (List.mem_filter.mp (ws_Jx4a65c w hw)).1) (tb nw_7)
  obtain ⟨D, hD⟩ : ∃ D : va_G, ∀ (c : Nat) (q : vw_C), kcl[c]? = some q → u_Kn s q.1 q.2.1 q.2.2 (D.1 c) (D.2 c) := by
    refine ⟨(fun k => if k = 0 then k0 else if k = 1 then k1 else if k = 2 then k2 else if k = 3 then k3 else if k = 4 then k4 else if k = 5 then k5 else if k = 6 then k6 else k7, fun k => if k = 0 then i0 else if k = 1 then i1 else if k = 2 then i2 else if k = 3 then i3 else if k = 4 then i4 else if k = 5 then i5 else if k = 6 then i6 else i7), fun c q hc => ?_⟩
    match c, hc with
    | 0, hc => cases hc; exact u0
    | 1, hc => cases hc; exact u1
    | 2, hc => cases hc; exact u2
    | 3, hc => cases hc; exact u3
    | 4, hc => cases hc; exact u4
    | 5, hc => cases hc; exact u5
    | 6, hc => cases hc; exact u6
    | 7, hc => cases hc; exact u7
    | n + 8, hc => exact absurd (List.getElem?_eq_some_iff.mp hc).1 (by show ¬ n + 8 < 8; omega)
  obtain ⟨cI, aI, fI⟩ := st_arr (tb ac_int)
  obtain ⟨cZ, aZ, fZ⟩ := st_arr (tb ac_boolean)
  obtain ⟨cO, aO, fO⟩ := st_arrO (hts _ tb_ao)
  obtain ⟨eE, vE, tE⟩ := va_Tof (args := #[Value.ref b]) (s := s) (tm := .static "Puppetloom" "EASING" "[I") (ty := .int) (N := 32) (f := fun j => .int (easeL.getD j 0)) (A := fun q => s.heap.size ≤ q) (by decide) (hq _ fl_er) (ev_int (hq _ fl_el)) (fun j hj => ev_int (hq _ (fl_ea j hj))) hA
  obtain ⟨eD, vD, tD⟩ := va_Tof (args := #[Value.ref b]) (s := s) (tm := .static "java/util/ArrayList" "DEFAULTCAPACITY_EMPTY_ELEMENTDATA" "[Ljava/lang/Object;") (ty := .object "java/lang/Object") (N := 0) (f := fun _ => .null) (A := fun q => s.heap.size ≤ q) (by decide) (hq _ fl_dr) (ev_int (hq _ fl_dl)) (fun j hj => absurd hj (Nat.not_lt_zero _)) hA
  have zE := va_Zref (hts _ tb_e1) (hts _ tb_e2) vE hA
  have zD := va_Zref (hts _ tb_d1) (hts _ tb_d2) vD hA
  have zU := vx_Zqof (hts _ tb_t1) (hts _ tb_t3) (hq _ fl_un) hA
  have zS := vx_Zqof (hts _ tb_t2) (hts _ tb_t3) (hq _ fl_su) hA
  obtain ⟨mi, hmi⟩ := va_Mi.of (hq _ fl_mi)
  have HS : ∀ k : Nat, ∃ a : Nat, ∀ q : String × Nat × String, strs[k]? = some q → vk_R q.1 q.2.1 q.2.2 a s := fun k => by
    cases hk : strs[k]? with
    | none => exact ⟨0, fun q h => nomatch h⟩
    | some q =>
      have hm := List.mem_of_getElem? hk
      obtain ⟨a, -, -, -, ha, -⟩ := Cond.exactly_spec (show (Cond.exactly (.string q.1 q.2.1) "java/lang/String").holds #[Value.ref b] s none s [] = true from hq _ (fl_st q hm))
      exact ⟨a, fun q' h => by cases h; exact vk_R.of (hts _ (tb_st q hm)) ha⟩
  obtain ⟨st, hst⟩ : ∃ st : Nat → Nat, ∀ (k : Nat) (q : String × Nat × String), strs[k]? = some q → vk_R q.1 q.2.1 q.2.2 (st k) s := ⟨fun k => Classical.choose (HS k), fun k => Classical.choose_spec (HS k)⟩
  have tX : va_T .int b L (fun j => .int (xs j)) (fun q => s.heap.size ≤ q) s s.heap := by
    obtain ⟨scr, x1, x2, x3, x4, x5⟩ := hX
    exact ⟨scr, x1, x2, x3, Nat.le_of_eq x4.symm, (by rw [x4]), x5, hA b hb⟩
  refine ⟨mkG D cI cZ cO cO s.heap.size eE eD mi b L st xs, ⟨⟨⟨hD, fun k q hk => ?_⟩, fun w hw => va_Nw.of (nw_tabs hw) (hts _ (List.mem_filter.mp hw).1), hmi, va_Dc.of (hts _ tb_gc), va_AO.of (hts _ tb_ao), fun k q hk => ?_, fun q hm => va_Nc.of (hq _ (fl_nc q hm))⟩, zE, tE, zD, tD, tX, zU, zS, Nat.le_refl _⟩, rfl, rfl, rfl, ?_⟩
  · match k, hk with
    | 0, hk => cases hk; exact ⟨aI, fI⟩
    | 1, hk => cases hk; exact ⟨aZ, fZ⟩
    | 2, hk => cases hk; exact ⟨aO, fO⟩
    | n + 3, hk => exact absurd (List.getElem?_eq_some_iff.mp hk).1 (by show ¬ n + 3 < 3; omega)
  · rw [mkG_10]; exact hst k q hk
  · exact ⟨[], fun k q h => (by simp at h), ⟨fun i j p q h => (by simp at h), fun k q h => (by simp at h)⟩, fun a kd n h => (by cases h), fun k q h => (by simp at h)⟩
