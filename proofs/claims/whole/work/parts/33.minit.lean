/-! ===== how the model is made ===== -/
def MIn (h0 h : Hp) (m : Nat) (l : List (Nat × Nat × Nat × Nat)) : Prop := xS h m = some (6, 0) ∧ (∀ i, xF h i m = xF h0 i m) ∧ Fr (fun b => b = m) h0 h ∧ (∀ e ∈ l, xP h (600 + e.1) m = some e.2.2.2 ∧ xS h e.2.2.2 = some (e.2.1, e.2.2.1) ∧ (∀ j, xA h e.2.2.2 j = 0) ∧ xS h0 e.2.2.2 = none) ∧ ∀ e ∈ l, ∀ f ∈ l, e.2.2.2 = f.2.2.2 → e.1 = f.1
theorem MIn.start {h : Hp} {m : Nat} (hs : xS h m = some (6, 0)) : MIn h h m [] := ⟨hs, fun _ => rfl, Fr.rf, fun e he => absurd he List.not_mem_nil, fun e he => absurd he List.not_mem_nil⟩
theorem MIn.step {h0 h : Hp} {m : Nat} {l : List (Nat × Nat × Nat × Nat)} {q s kd n : Nat} (i : MIn h0 h m l) (hq : xS h q = none) (hs : s ∉ l.map (fun e => e.1)) : MIn h0 (yP (yN h q kd n) (600 + s) m (some q)) m ((s, kd, n, q) :: l) := by
  obtain ⟨i1, i2, i3, i4, i5⟩ := i
  have hm : m ≠ q := ne_of_S i1 hq
  refine ⟨yN_S hq i1, fun j => ?_, (i3.tr (Fr.yN hq)).tr (Fr.yP rfl), fun e he => ?_, fun e he f hf ef => ?_⟩
  · show (if m = q then 0 else xF h j m) = _
    rw [if_neg hm]; exact i2 j
  · rcases List.mem_cons.mp he with rfl | he
    · refine ⟨u2_s _ _ _ _, yN_q, fun j => ?_, ?_⟩
      · show (if q = q then 0 else xA h q j) = 0
        rw [if_pos rfl]
      · cases hz : xS h0 q with
        | none => rfl
        | some z => have := i3.S hz; rw [hq] at this; cases this
    · obtain ⟨j1, j2, j3, j4⟩ := i4 e he
      have hne : e.2.2.2 ≠ q := ne_of_S j2 hq
      refine ⟨?_, yN_S hq j2, fun j => ?_, j4⟩
      · show xP (yP (yN h q kd n) (600 + s) m (some q)) (600 + e.1) m = _
        rw [zxP_yP, if_neg (fun z => hs (List.mem_map.mpr ⟨e, he, by omega⟩))]
        show (if m = q then none else xP h (600 + e.1) m) = _
        rw [if_neg hm]; exact j1
      · show (if e.2.2.2 = q then 0 else xA h e.2.2.2 j) = 0
        rw [if_neg hne]; exact j3 j
  · rcases List.mem_cons.mp he with rfl | he
    · rcases List.mem_cons.mp hf with rfl | hf
      · rfl
      · exact absurd ef.symm (ne_of_S (i4 f hf).2.1 hq)
    · rcases List.mem_cons.mp hf with rfl | hf
      · exact absurd ef (ne_of_S (i4 e he).2.1 hq)
      · exact i5 e he f hf ef
def adL (l : List (Nat × Nat × Nat × Nat)) (s : Nat) : Nat := ((l.find? (fun e => e.1 == s)).map (fun e => e.2.2.2)).getD 0
theorem mSl_one : ∀ a ∈ mSl, ∀ b ∈ mSl, a.1 = b.1 → a = b := by decide +kernel
theorem adL_mem {l : List (Nat × Nat × Nat × Nat)} (hl : l.map (fun e => (e.1, e.2.1, e.2.2.1)) = mSl.reverse) {s k n : Nat} (hs : (s, k, n) ∈ mSl) : (s, k, n, adL l s) ∈ l := by
  have h1 : (s, k, n) ∈ l.map (fun e => (e.1, e.2.1, e.2.2.1)) := by rw [hl]; exact List.mem_reverse.mpr hs
  obtain ⟨e, he, ee⟩ := List.mem_map.mp h1
  have ee1 : e.1 = s := congrArg (fun t => t.1) ee
  cases hf : l.find? (fun e => e.1 == s) with
  | none => exact absurd (List.find?_eq_none.mp hf e he) (by simpa using ee1)
  | some e2 =>
    have m2 := List.mem_of_find?_eq_some hf
    have s2 : e2.1 = s := by simpa using List.find?_some hf
    have h2 : (e2.1, e2.2.1, e2.2.2.1) ∈ mSl := by
      rw [← List.mem_reverse, ← hl]
      exact List.mem_map.mpr ⟨e2, m2, rfl⟩
    have h3 := mSl_one _ h2 _ hs s2
    have ha : adL l s = e2.2.2.2 := by rw [adL, hf]; rfl
    rw [ha]
    have h4 : e2 = (s, k, n, e2.2.2.2) := by
      obtain ⟨x1, x2, x3, x4⟩ := e2
      cases h3
      rfl
    rw [← h4]; exact m2
theorem MIn.ms {h0 h : Hp} {m : Nat} {l : List (Nat × Nat × Nat × Nat)} (i : MIn h0 h m l) (hl : l.map (fun e => (e.1, e.2.1, e.2.2.1)) = mSl.reverse) : MS h m (adL l) ∧ (∀ s k n, (s, k, n) ∈ mSl → ∀ j, xA h (adL l s) j = 0) ∧ ∀ s k n, (s, k, n) ∈ mSl → xS h0 (adL l s) = none := by
  obtain ⟨i1, i2, i3, i4, i5⟩ := i
  exact ⟨⟨i1, fun s k n hs => ⟨(i4 _ (adL_mem hl hs)).1, (i4 _ (adL_mem hl hs)).2.1⟩, fun s k n t k' n' hs ht e => i5 _ (adL_mem hl hs) _ (adL_mem hl ht) e⟩, fun s k n hs => (i4 _ (adL_mem hl hs)).2.2.1, fun s k n hs => (i4 _ (adL_mem hl hs)).2.2.2⟩
theorem tb_0 : ∀ j < 8, nI (8 * j) = easeL.getD j 0 := by decide +kernel
theorem tb_1 : ∀ j < 8, nI (j * j) = easeL.getD (8 + j) 0 := by decide +kernel
theorem tb_2 : ∀ j < 8, nI (64 - (8 - j) * (8 - j)) = easeL.getD (16 + j) 0 := by decide +kernel
theorem tb_3 : ∀ j < 8, (0 : Int32) = easeL.getD (24 + j) 0 := by decide +kernel
def TbK (h : Hp) (a k : Nat) : Prop := ∀ j, xA h a j = if j < 8 then (if j < k then nI (8 * j) else 0) else if j < 16 then (if j - 8 < k then nI ((j - 8) * (j - 8)) else 0) else if j < 24 then (if j - 16 < k then nI (64 - (8 - (j - 16)) * (8 - (j - 16))) else 0) else 0
theorem TbK.end {h : Hp} {a : Nat} (t : TbK h a 8) : ∀ j < 32, xA h a j = easeL.getD j 0 := fun j hj => by
  rw [t j]
  by_cases c1 : j < 8
  · rw [if_pos c1, if_pos c1]; exact tb_0 j c1
  · rw [if_neg c1]
    by_cases c2 : j < 16
    · rw [if_pos c2, if_pos (by omega)]
      have := tb_1 (j - 8) (by omega)
      rw [show 8 + (j - 8) = j by omega] at this; exact this
    · rw [if_neg c2]
      by_cases c3 : j < 24
      · rw [if_pos c3, if_pos (by omega)]
        have := tb_2 (j - 16) (by omega)
        rw [show 16 + (j - 16) = j by omega] at this; exact this
      · rw [if_neg c3]
        have := tb_3 (j - 24) (by omega)
        rw [show 24 + (j - 24) = j by omega] at this; exact this
theorem TbK.step {h : Hp} {a k : Nat} (hk : k < 8) (t : TbK h a k) : TbK (yA (yA (yA h a k (nI (8 * k))) a (8 + k) (nI (k * k))) a (16 + k) (nI (64 - (8 - k) * (8 - k)))) a (k + 1) := fun j => by
  by_cases e1 : j = 16 + k
  · rw [e1, yA_s, if_neg (by omega), if_neg (by omega), if_pos (by omega), if_pos (by omega), show 16 + k - 16 = k by omega]
  · rw [yA_j e1]
    by_cases e2 : j = 8 + k
    · rw [e2, yA_s, if_neg (by omega), if_pos (by omega), if_pos (by omega), show 8 + k - 8 = k by omega]
    · rw [yA_j e2]
      by_cases e3 : j = k
      · rw [e3, yA_s, if_pos (by omega), if_pos (by omega)]
      · rw [yA_j e3, t j]
        by_cases c1 : j < 8
        · rw [if_pos c1, if_pos c1]
          by_cases d : j < k
          · rw [if_pos d, if_pos (by omega)]
          · rw [if_neg d, if_neg (by omega)]
        · rw [if_neg c1, if_neg c1]
          by_cases c2 : j < 16
          · rw [if_pos c2, if_pos c2]
            by_cases d : j - 8 < k
            · rw [if_pos d, if_pos (by omega)]
            · rw [if_neg d, if_neg (by omega)]
          · rw [if_neg c2, if_neg c2]
            by_cases c3 : j < 24
            · rw [if_pos c3, if_pos c3]
              by_cases d : j - 16 < k
              · rw [if_pos d, if_pos (by omega)]
              · rw [if_neg d, if_neg (by omega)]
            · rw [if_neg c3, if_neg c3]
set_option maxRecDepth 100000 in
set_option maxHeartbeats 4000000 in
theorem cm_modelInit {g : Gl} {l : Launch} (hfl : l.stackTraces = false) (h : Hp) (m : Nat) (hs : xS h m = some (6, 0)) (hz : ∀ i, xF h i m = 0) : CT g l iX6_init 2 [.ref m] h 23 736 (pRel (fun r h' => r = none ∧ ∃ ad : Nat → Nat, RM h' m ad st0 ∧ Fr (fun b => b = m) h h' ∧ ∀ s k n, (s, k, n) ∈ mSl → xS h (ad s) = none)) := by
  refine ct_mk hfl (by decide) (Nat.le_of_ble_eq_true rfl) (by intro v hv; simp only [List.mem_cons, List.not_mem_nil, or_false] at hv; rcases hv with rfl <;> rfl) (fun V X M => ?_)
  have Mm := M.m
  show V 0 [some (.ref m), none] [] _ 0 0
  have i0a := MIn.start hs
  refine r_aload_n Mm dX6_init_0 rfl ?_
  refine r_objInit Mm dX6_init_1 co_X6_1 coi coc (Nat.le_of_ble_eq_true rfl) (Nat.le_of_ble_eq_true rfl) ?_
  refine r_aload_n Mm dX6_init_4 rfl ?_
  refine r_bipush (v := nI 8) Mm dX6_init_5 (by decide) ?_
  refine r_newI (N := 8) Mm dX6_init_7 ac_int (nI_pos (by omega)) (nI_clamp (by omega)) (by first | decide | (show _ * 4 ≤ _; omega)) ⟨Nat.le_of_ble_eq_true rfl, Nat.le_of_ble_eq_true rfl⟩ (fun q1 hq1 => ?_)
  refine r_putRF (v := some q1) (ty := .array .int) Mm dX6_init_9 fi_X6_7 ki_6 rfl (yN_S hq1 i0a.1) rfl (i := 601) rfl rfl (by decide +kernel) rfl rfl rfl rfl ?_
  have i1a := MIn.step (s := 1) (kd := 8) (n := 8) i0a hq1 (by show (1 : Nat) ∉ ([] : List Nat); decide)
  obtain ⟨g1, eg1⟩ : ∃ z, z = yP (yN h q1 8 8) (600 + 1) m (some q1) := ⟨_, rfl⟩
  rw [← eg1] at i1a
  show V 12 [some (.ref m), none] [] (yP (yN h q1 8 8) (600 + 1) m (some q1)) _ _
  rw [← eg1]
  clear eg1
  refine r_aload_n Mm dX6_init_12 rfl ?_
  refine r_bipush (v := nI 8) Mm dX6_init_13 (by decide) ?_
  refine r_newI (N := 8) Mm dX6_init_15 ac_int (nI_pos (by omega)) (nI_clamp (by omega)) (by first | decide | (show _ * 4 ≤ _; omega)) ⟨Nat.le_of_ble_eq_true rfl, Nat.le_of_ble_eq_true rfl⟩ (fun q2 hq2 => ?_)
  refine r_putRF (v := some q2) (ty := .array .int) Mm dX6_init_17 fi_X6_13 ki_6 rfl (yN_S hq2 i1a.1) rfl (i := 602) rfl rfl (by decide +kernel) rfl rfl rfl rfl ?_
  have i2a := MIn.step (s := 2) (kd := 8) (n := 8) i1a hq2 (by show (2 : Nat) ∉ ([1] : List Nat); decide)
  obtain ⟨g2, eg2⟩ : ∃ z, z = yP (yN g1 q2 8 8) (600 + 2) m (some q2) := ⟨_, rfl⟩
  rw [← eg2] at i2a
  show V 20 [some (.ref m), none] [] (yP (yN g1 q2 8 8) (600 + 2) m (some q2)) _ _
  rw [← eg2]
  clear eg2
  refine r_aload_n Mm dX6_init_20 rfl ?_
  refine r_bipush (v := nI 8) Mm dX6_init_21 (by decide) ?_
  refine r_newI (N := 8) Mm dX6_init_23 ac_int (nI_pos (by omega)) (nI_clamp (by omega)) (by first | decide | (show _ * 4 ≤ _; omega)) ⟨Nat.le_of_ble_eq_true rfl, Nat.le_of_ble_eq_true rfl⟩ (fun q3 hq3 => ?_)
  refine r_putRF (v := some q3) (ty := .array .int) Mm dX6_init_25 fi_X6_16 ki_6 rfl (yN_S hq3 i2a.1) rfl (i := 603) rfl rfl (by decide +kernel) rfl rfl rfl rfl ?_
  have i3a := MIn.step (s := 3) (kd := 8) (n := 8) i2a hq3 (by show (3 : Nat) ∉ ([2, 1] : List Nat); decide)
  obtain ⟨g3, eg3⟩ : ∃ z, z = yP (yN g2 q3 8 8) (600 + 3) m (some q3) := ⟨_, rfl⟩
  rw [← eg3] at i3a
  show V 28 [some (.ref m), none] [] (yP (yN g2 q3 8 8) (600 + 3) m (some q3)) _ _
  rw [← eg3]
  clear eg3
  refine r_aload_n Mm dX6_init_28 rfl ?_
  refine r_bipush (v := nI 8) Mm dX6_init_29 (by decide) ?_
  refine r_newI (N := 8) Mm dX6_init_31 ac_int (nI_pos (by omega)) (nI_clamp (by omega)) (by first | decide | (show _ * 4 ≤ _; omega)) ⟨Nat.le_of_ble_eq_true rfl, Nat.le_of_ble_eq_true rfl⟩ (fun q4 hq4 => ?_)
  refine r_putRF (v := some q4) (ty := .array .int) Mm dX6_init_33 fi_X6_19 ki_6 rfl (yN_S hq4 i3a.1) rfl (i := 604) rfl rfl (by decide +kernel) rfl rfl rfl rfl ?_
  have i4a := MIn.step (s := 4) (kd := 8) (n := 8) i3a hq4 (by show (4 : Nat) ∉ ([3, 2, 1] : List Nat); decide)
  obtain ⟨g4, eg4⟩ : ∃ z, z = yP (yN g3 q4 8 8) (600 + 4) m (some q4) := ⟨_, rfl⟩
  rw [← eg4] at i4a
  show V 36 [some (.ref m), none] [] (yP (yN g3 q4 8 8) (600 + 4) m (some q4)) _ _
  rw [← eg4]
  clear eg4
  refine r_aload_n Mm dX6_init_36 rfl ?_
  refine r_bipush (v := nI 8) Mm dX6_init_37 (by decide) ?_
  refine r_newI (N := 8) Mm dX6_init_39 ac_int (nI_pos (by omega)) (nI_clamp (by omega)) (by first | decide | (show _ * 4 ≤ _; omega)) ⟨Nat.le_of_ble_eq_true rfl, Nat.le_of_ble_eq_true rfl⟩ (fun q5 hq5 => ?_)
  refine r_putRF (v := some q5) (ty := .array .int) Mm dX6_init_41 fi_X6_22 ki_6 rfl (yN_S hq5 i4a.1) rfl (i := 605) rfl rfl (by decide +kernel) rfl rfl rfl rfl ?_
  have i5a := MIn.step (s := 5) (kd := 8) (n := 8) i4a hq5 (by show (5 : Nat) ∉ ([4, 3, 2, 1] : List Nat); decide)
  obtain ⟨g5, eg5⟩ : ∃ z, z = yP (yN g4 q5 8 8) (600 + 5) m (some q5) := ⟨_, rfl⟩
  rw [← eg5] at i5a
  show V 44 [some (.ref m), none] [] (yP (yN g4 q5 8 8) (600 + 5) m (some q5)) _ _
  rw [← eg5]
  clear eg5
  refine r_aload_n Mm dX6_init_44 rfl ?_
  refine r_bipush (v := nI 96) Mm dX6_init_45 (by decide) ?_
  refine r_newI (N := 96) Mm dX6_init_47 ac_int (nI_pos (by omega)) (nI_clamp (by omega)) (by first | decide | (show _ * 4 ≤ _; omega)) ⟨Nat.le_of_ble_eq_true rfl, Nat.le_of_ble_eq_true rfl⟩ (fun q6 hq6 => ?_)
  refine r_putRF (v := some q6) (ty := .array .int) Mm dX6_init_49 fi_X6_25 ki_6 rfl (yN_S hq6 i5a.1) rfl (i := 607) rfl rfl (by decide +kernel) rfl rfl rfl rfl ?_
  have i6a := MIn.step (s := 7) (kd := 8) (n := 96) i5a hq6 (by show (7 : Nat) ∉ ([5, 4, 3, 2, 1] : List Nat); decide)
  obtain ⟨g6, eg6⟩ : ∃ z, z = yP (yN g5 q6 8 96) (600 + 7) m (some q6) := ⟨_, rfl⟩
  rw [← eg6] at i6a
  show V 52 [some (.ref m), none] [] (yP (yN g5 q6 8 96) (600 + 7) m (some q6)) _ _
  rw [← eg6]
  clear eg6
  refine r_aload_n Mm dX6_init_52 rfl ?_
  refine r_bipush (v := nI 96) Mm dX6_init_53 (by decide) ?_
  refine r_newI (N := 96) Mm dX6_init_55 ac_int (nI_pos (by omega)) (nI_clamp (by omega)) (by first | decide | (show _ * 4 ≤ _; omega)) ⟨Nat.le_of_ble_eq_true rfl, Nat.le_of_ble_eq_true rfl⟩ (fun q7 hq7 => ?_)
  refine r_putRF (v := some q7) (ty := .array .int) Mm dX6_init_57 fi_X6_28 ki_6 rfl (yN_S hq7 i6a.1) rfl (i := 608) rfl rfl (by decide +kernel) rfl rfl rfl rfl ?_
  have i7a := MIn.step (s := 8) (kd := 8) (n := 96) i6a hq7 (by show (8 : Nat) ∉ ([7, 5, 4, 3, 2, 1] : List Nat); decide)
  obtain ⟨g7, eg7⟩ : ∃ z, z = yP (yN g6 q7 8 96) (600 + 8) m (some q7) := ⟨_, rfl⟩
  rw [← eg7] at i7a
  show V 60 [some (.ref m), none] [] (yP (yN g6 q7 8 96) (600 + 8) m (some q7)) _ _
  rw [← eg7]
  clear eg7
  refine r_aload_n Mm dX6_init_60 rfl ?_
  refine r_bipush (v := nI 96) Mm dX6_init_61 (by decide) ?_
  refine r_newI (N := 96) Mm dX6_init_63 ac_int (nI_pos (by omega)) (nI_clamp (by omega)) (by first | decide | (show _ * 4 ≤ _; omega)) ⟨Nat.le_of_ble_eq_true rfl, Nat.le_of_ble_eq_true rfl⟩ (fun q8 hq8 => ?_)
  refine r_putRF (v := some q8) (ty := .array .int) Mm dX6_init_65 fi_X6_31 ki_6 rfl (yN_S hq8 i7a.1) rfl (i := 609) rfl rfl (by decide +kernel) rfl rfl rfl rfl ?_
  have i8a := MIn.step (s := 9) (kd := 8) (n := 96) i7a hq8 (by show (9 : Nat) ∉ ([8, 7, 5, 4, 3, 2, 1] : List Nat); decide)
  obtain ⟨g8, eg8⟩ : ∃ z, z = yP (yN g7 q8 8 96) (600 + 9) m (some q8) := ⟨_, rfl⟩
  rw [← eg8] at i8a
  show V 68 [some (.ref m), none] [] (yP (yN g7 q8 8 96) (600 + 9) m (some q8)) _ _
  rw [← eg8]
  clear eg8
  refine r_aload_n Mm dX6_init_68 rfl ?_
  refine r_bipush (v := nI 96) Mm dX6_init_69 (by decide) ?_
  refine r_newI (N := 96) Mm dX6_init_71 ac_int (nI_pos (by omega)) (nI_clamp (by omega)) (by first | decide | (show _ * 4 ≤ _; omega)) ⟨Nat.le_of_ble_eq_true rfl, Nat.le_of_ble_eq_true rfl⟩ (fun q9 hq9 => ?_)
  refine r_putRF (v := some q9) (ty := .array .int) Mm dX6_init_73 fi_X6_34 ki_6 rfl (yN_S hq9 i8a.1) rfl (i := 610) rfl rfl (by decide +kernel) rfl rfl rfl rfl ?_
  have i9a := MIn.step (s := 10) (kd := 8) (n := 96) i8a hq9 (by show (10 : Nat) ∉ ([9, 8, 7, 5, 4, 3, 2, 1] : List Nat); decide)
  obtain ⟨g9, eg9⟩ : ∃ z, z = yP (yN g8 q9 8 96) (600 + 10) m (some q9) := ⟨_, rfl⟩
  rw [← eg9] at i9a
  show V 76 [some (.ref m), none] [] (yP (yN g8 q9 8 96) (600 + 10) m (some q9)) _ _
  rw [← eg9]
  clear eg9
  refine r_aload_n Mm dX6_init_76 rfl ?_
  refine r_bipush (v := nI 80) Mm dX6_init_77 (by decide) ?_
  refine r_newI (N := 80) Mm dX6_init_79 ac_int (nI_pos (by omega)) (nI_clamp (by omega)) (by first | decide | (show _ * 4 ≤ _; omega)) ⟨Nat.le_of_ble_eq_true rfl, Nat.le_of_ble_eq_true rfl⟩ (fun q10 hq10 => ?_)
  refine r_putRF (v := some q10) (ty := .array .int) Mm dX6_init_81 fi_X6_37 ki_6 rfl (yN_S hq10 i9a.1) rfl (i := 611) rfl rfl (by decide +kernel) rfl rfl rfl rfl ?_
  have i10a := MIn.step (s := 11) (kd := 8) (n := 80) i9a hq10 (by show (11 : Nat) ∉ ([10, 9, 8, 7, 5, 4, 3, 2, 1] : List Nat); decide)
  obtain ⟨g10, eg10⟩ : ∃ z, z = yP (yN g9 q10 8 80) (600 + 11) m (some q10) := ⟨_, rfl⟩
  rw [← eg10] at i10a
  show V 84 [some (.ref m), none] [] (yP (yN g9 q10 8 80) (600 + 11) m (some q10)) _ _
  rw [← eg10]
  clear eg10
  refine r_aload_n Mm dX6_init_84 rfl ?_
  refine r_bipush (v := nI 80) Mm dX6_init_85 (by decide) ?_
  refine r_newI (N := 80) Mm dX6_init_87 ac_int (nI_pos (by omega)) (nI_clamp (by omega)) (by first | decide | (show _ * 4 ≤ _; omega)) ⟨Nat.le_of_ble_eq_true rfl, Nat.le_of_ble_eq_true rfl⟩ (fun q11 hq11 => ?_)
  refine r_putRF (v := some q11) (ty := .array .int) Mm dX6_init_89 fi_X6_40 ki_6 rfl (yN_S hq11 i10a.1) rfl (i := 612) rfl rfl (by decide +kernel) rfl rfl rfl rfl ?_
  have i11a := MIn.step (s := 12) (kd := 8) (n := 80) i10a hq11 (by show (12 : Nat) ∉ ([11, 10, 9, 8, 7, 5, 4, 3, 2, 1] : List Nat); decide)
  obtain ⟨g11, eg11⟩ : ∃ z, z = yP (yN g10 q11 8 80) (600 + 12) m (some q11) := ⟨_, rfl⟩
  rw [← eg11] at i11a
  show V 92 [some (.ref m), none] [] (yP (yN g10 q11 8 80) (600 + 12) m (some q11)) _ _
  rw [← eg11]
  clear eg11
  refine r_aload_n Mm dX6_init_92 rfl ?_
  refine r_bipush (v := nI 8) Mm dX6_init_93 (by decide) ?_
  refine r_newI (N := 8) Mm dX6_init_95 ac_int (nI_pos (by omega)) (nI_clamp (by omega)) (by first | decide | (show _ * 4 ≤ _; omega)) ⟨Nat.le_of_ble_eq_true rfl, Nat.le_of_ble_eq_true rfl⟩ (fun q12 hq12 => ?_)
  refine r_putRF (v := some q12) (ty := .array .int) Mm dX6_init_97 fi_X6_43 ki_6 rfl (yN_S hq12 i11a.1) rfl (i := 613) rfl rfl (by decide +kernel) rfl rfl rfl rfl ?_
  have i12a := MIn.step (s := 13) (kd := 8) (n := 8) i11a hq12 (by show (13 : Nat) ∉ ([12, 11, 10, 9, 8, 7, 5, 4, 3, 2, 1] : List Nat); decide)
  obtain ⟨g12, eg12⟩ : ∃ z, z = yP (yN g11 q12 8 8) (600 + 13) m (some q12) := ⟨_, rfl⟩
  rw [← eg12] at i12a
  show V 100 [some (.ref m), none] [] (yP (yN g11 q12 8 8) (600 + 13) m (some q12)) _ _
  rw [← eg12]
  clear eg12
  refine r_aload_n Mm dX6_init_100 rfl ?_
  refine r_bipush (v := nI 10) Mm dX6_init_101 (by decide) ?_
  refine r_newI (N := 10) Mm dX6_init_103 ac_int (nI_pos (by omega)) (nI_clamp (by omega)) (by first | decide | (show _ * 4 ≤ _; omega)) ⟨Nat.le_of_ble_eq_true rfl, Nat.le_of_ble_eq_true rfl⟩ (fun q13 hq13 => ?_)
  refine r_putRF (v := some q13) (ty := .array .int) Mm dX6_init_105 fi_X6_46 ki_6 rfl (yN_S hq13 i12a.1) rfl (i := 614) rfl rfl (by decide +kernel) rfl rfl rfl rfl ?_
  have i13a := MIn.step (s := 14) (kd := 8) (n := 10) i12a hq13 (by show (14 : Nat) ∉ ([13, 12, 11, 10, 9, 8, 7, 5, 4, 3, 2, 1] : List Nat); decide)
  obtain ⟨g13, eg13⟩ : ∃ z, z = yP (yN g12 q13 8 10) (600 + 14) m (some q13) := ⟨_, rfl⟩
  rw [← eg13] at i13a
  show V 108 [some (.ref m), none] [] (yP (yN g12 q13 8 10) (600 + 14) m (some q13)) _ _
  rw [← eg13]
  clear eg13
  refine r_aload_n Mm dX6_init_108 rfl ?_
  refine r_bipush (v := nI 6) Mm dX6_init_109 (by decide) ?_
  refine r_newI (N := 6) Mm dX6_init_111 ac_int (nI_pos (by omega)) (nI_clamp (by omega)) (by first | decide | (show _ * 4 ≤ _; omega)) ⟨Nat.le_of_ble_eq_true rfl, Nat.le_of_ble_eq_true rfl⟩ (fun q14 hq14 => ?_)
  refine r_putRF (v := some q14) (ty := .array .int) Mm dX6_init_113 fi_X6_49 ki_6 rfl (yN_S hq14 i13a.1) rfl (i := 615) rfl rfl (by decide +kernel) rfl rfl rfl rfl ?_
  have i14a := MIn.step (s := 15) (kd := 8) (n := 6) i13a hq14 (by show (15 : Nat) ∉ ([14, 13, 12, 11, 10, 9, 8, 7, 5, 4, 3, 2, 1] : List Nat); decide)
  obtain ⟨g14, eg14⟩ : ∃ z, z = yP (yN g13 q14 8 6) (600 + 15) m (some q14) := ⟨_, rfl⟩
  rw [← eg14] at i14a
  show V 116 [some (.ref m), none] [] (yP (yN g13 q14 8 6) (600 + 15) m (some q14)) _ _
  rw [← eg14]
  clear eg14
  refine r_aload_n Mm dX6_init_116 rfl ?_
  refine r_bipush (v := nI 6) Mm dX6_init_117 (by decide) ?_
  refine r_newI (N := 6) Mm dX6_init_119 ac_int (nI_pos (by omega)) (nI_clamp (by omega)) (by first | decide | (show _ * 4 ≤ _; omega)) ⟨Nat.le_of_ble_eq_true rfl, Nat.le_of_ble_eq_true rfl⟩ (fun q15 hq15 => ?_)
  refine r_putRF (v := some q15) (ty := .array .int) Mm dX6_init_121 fi_X6_52 ki_6 rfl (yN_S hq15 i14a.1) rfl (i := 616) rfl rfl (by decide +kernel) rfl rfl rfl rfl ?_
  have i15a := MIn.step (s := 16) (kd := 8) (n := 6) i14a hq15 (by show (16 : Nat) ∉ ([15, 14, 13, 12, 11, 10, 9, 8, 7, 5, 4, 3, 2, 1] : List Nat); decide)
  obtain ⟨g15, eg15⟩ : ∃ z, z = yP (yN g14 q15 8 6) (600 + 16) m (some q15) := ⟨_, rfl⟩
  rw [← eg15] at i15a
  show V 124 [some (.ref m), none] [] (yP (yN g14 q15 8 6) (600 + 16) m (some q15)) _ _
  rw [← eg15]
  clear eg15
  refine r_aload_n Mm dX6_init_124 rfl ?_
  refine r_bipush (v := nI 6) Mm dX6_init_125 (by decide) ?_
  refine r_newZ (N := 6) Mm dX6_init_127 ac_boolean (nI_pos (by omega)) (nI_clamp (by omega)) (by first | decide | (show _ * 4 ≤ _; omega)) ⟨Nat.le_of_ble_eq_true rfl, Nat.le_of_ble_eq_true rfl⟩ (fun q16 hq16 => ?_)
  refine r_putRF (v := some q16) (ty := .array .boolean) Mm dX6_init_129 fi_X6_55 ki_6 rfl (yN_S hq16 i15a.1) rfl (i := 617) rfl rfl (by decide +kernel) rfl rfl rfl rfl ?_
  have i16a := MIn.step (s := 17) (kd := 9) (n := 6) i15a hq16 (by show (17 : Nat) ∉ ([16, 15, 14, 13, 12, 11, 10, 9, 8, 7, 5, 4, 3, 2, 1] : List Nat); decide)
  obtain ⟨g16, eg16⟩ : ∃ z, z = yP (yN g15 q16 9 6) (600 + 17) m (some q16) := ⟨_, rfl⟩
  rw [← eg16] at i16a
  show V 132 [some (.ref m), none] [] (yP (yN g15 q16 9 6) (600 + 17) m (some q16)) _ _
  rw [← eg16]
  clear eg16
  refine r_aload_n Mm dX6_init_132 rfl ?_
  refine r_bipush (v := nI 6) Mm dX6_init_133 (by decide) ?_
  refine r_newI (N := 6) Mm dX6_init_135 ac_int (nI_pos (by omega)) (nI_clamp (by omega)) (by first | decide | (show _ * 4 ≤ _; omega)) ⟨Nat.le_of_ble_eq_true rfl, Nat.le_of_ble_eq_true rfl⟩ (fun q17 hq17 => ?_)
  refine r_putRF (v := some q17) (ty := .array .int) Mm dX6_init_137 fi_X6_59 ki_6 rfl (yN_S hq17 i16a.1) rfl (i := 618) rfl rfl (by decide +kernel) rfl rfl rfl rfl ?_
  have i17a := MIn.step (s := 18) (kd := 8) (n := 6) i16a hq17 (by show (18 : Nat) ∉ ([17, 16, 15, 14, 13, 12, 11, 10, 9, 8, 7, 5, 4, 3, 2, 1] : List Nat); decide)
  obtain ⟨g17, eg17⟩ : ∃ z, z = yP (yN g16 q17 8 6) (600 + 18) m (some q17) := ⟨_, rfl⟩
  rw [← eg17] at i17a
  show V 140 [some (.ref m), none] [] (yP (yN g16 q17 8 6) (600 + 18) m (some q17)) _ _
  rw [← eg17]
  clear eg17
  refine r_aload_n Mm dX6_init_140 rfl ?_
  refine r_bipush (v := nI 6) Mm dX6_init_141 (by decide) ?_
  refine r_newI (N := 6) Mm dX6_init_143 ac_int (nI_pos (by omega)) (nI_clamp (by omega)) (by first | decide | (show _ * 4 ≤ _; omega)) ⟨Nat.le_of_ble_eq_true rfl, Nat.le_of_ble_eq_true rfl⟩ (fun q18 hq18 => ?_)
  refine r_putRF (v := some q18) (ty := .array .int) Mm dX6_init_145 fi_X6_62 ki_6 rfl (yN_S hq18 i17a.1) rfl (i := 619) rfl rfl (by decide +kernel) rfl rfl rfl rfl ?_
  have i18a := MIn.step (s := 19) (kd := 8) (n := 6) i17a hq18 (by show (19 : Nat) ∉ ([18, 17, 16, 15, 14, 13, 12, 11, 10, 9, 8, 7, 5, 4, 3, 2, 1] : List Nat); decide)
  obtain ⟨g18, eg18⟩ : ∃ z, z = yP (yN g17 q18 8 6) (600 + 19) m (some q18) := ⟨_, rfl⟩
  rw [← eg18] at i18a
  show V 148 [some (.ref m), none] [] (yP (yN g17 q18 8 6) (600 + 19) m (some q18)) _ _
  rw [← eg18]
  clear eg18
  refine r_aload_n Mm dX6_init_148 rfl ?_
  refine r_bipush (v := nI 48) Mm dX6_init_149 (by decide) ?_
  refine r_newZ (N := 48) Mm dX6_init_151 ac_boolean (nI_pos (by omega)) (nI_clamp (by omega)) (by first | decide | (show _ * 4 ≤ _; omega)) ⟨Nat.le_of_ble_eq_true rfl, Nat.le_of_ble_eq_true rfl⟩ (fun q19 hq19 => ?_)
  refine r_putRF (v := some q19) (ty := .array .boolean) Mm dX6_init_153 fi_X6_65 ki_6 rfl (yN_S hq19 i18a.1) rfl (i := 620) rfl rfl (by decide +kernel) rfl rfl rfl rfl ?_
  have i19a := MIn.step (s := 20) (kd := 9) (n := 48) i18a hq19 (by show (20 : Nat) ∉ ([19, 18, 17, 16, 15, 14, 13, 12, 11, 10, 9, 8, 7, 5, 4, 3, 2, 1] : List Nat); decide)
  obtain ⟨g19, eg19⟩ : ∃ z, z = yP (yN g18 q19 9 48) (600 + 20) m (some q19) := ⟨_, rfl⟩
  rw [← eg19] at i19a
  show V 156 [some (.ref m), none] [] (yP (yN g18 q19 9 48) (600 + 20) m (some q19)) _ _
  rw [← eg19]
  clear eg19
  refine r_aload_n Mm dX6_init_156 rfl ?_
  refine r_bipush (v := nI 32) Mm dX6_init_157 (by decide) ?_
  refine r_newI (N := 32) Mm dX6_init_159 ac_int (nI_pos (by omega)) (nI_clamp (by omega)) (by first | decide | (show _ * 4 ≤ _; omega)) ⟨Nat.le_of_ble_eq_true rfl, Nat.le_of_ble_eq_true rfl⟩ (fun q20 hq20 => ?_)
  refine r_putRF (v := some q20) (ty := .array .int) Mm dX6_init_161 fi_X6_68 ki_6 rfl (yN_S hq20 i19a.1) rfl (i := 623) rfl rfl (by decide +kernel) rfl rfl rfl rfl ?_
  have i20a := MIn.step (s := 23) (kd := 8) (n := 32) i19a hq20 (by show (23 : Nat) ∉ ([20, 19, 18, 17, 16, 15, 14, 13, 12, 11, 10, 9, 8, 7, 5, 4, 3, 2, 1] : List Nat); decide)
  obtain ⟨g20, eg20⟩ : ∃ z, z = yP (yN g19 q20 8 32) (600 + 23) m (some q20) := ⟨_, rfl⟩
  rw [← eg20] at i20a
  show V 164 [some (.ref m), none] [] (yP (yN g19 q20 8 32) (600 + 23) m (some q20)) _ _
  rw [← eg20]
  clear eg20
  refine r_aload_n Mm dX6_init_164 rfl ?_
  refine r_bipush (v := nI 8) Mm dX6_init_165 (by decide) ?_
  refine r_newI (N := 8) Mm dX6_init_167 ac_int (nI_pos (by omega)) (nI_clamp (by omega)) (by first | decide | (show _ * 4 ≤ _; omega)) ⟨Nat.le_of_ble_eq_true rfl, Nat.le_of_ble_eq_true rfl⟩ (fun q21 hq21 => ?_)
  refine r_putRF (v := some q21) (ty := .array .int) Mm dX6_init_169 fi_X6_71 ki_6 rfl (yN_S hq21 i20a.1) rfl (i := 626) rfl rfl (by decide +kernel) rfl rfl rfl rfl ?_
  have i21a := MIn.step (s := 26) (kd := 8) (n := 8) i20a hq21 (by show (26 : Nat) ∉ ([23, 20, 19, 18, 17, 16, 15, 14, 13, 12, 11, 10, 9, 8, 7, 5, 4, 3, 2, 1] : List Nat); decide)
  obtain ⟨g21, eg21⟩ : ∃ z, z = yP (yN g20 q21 8 8) (600 + 26) m (some q21) := ⟨_, rfl⟩
  rw [← eg21] at i21a
  show V 172 [some (.ref m), none] [] (yP (yN g20 q21 8 8) (600 + 26) m (some q21)) _ _
  rw [← eg21]
  clear eg21
  refine r_aload_n Mm dX6_init_172 rfl ?_
  refine r_bipush (v := nI 8) Mm dX6_init_173 (by decide) ?_
  refine r_newI (N := 8) Mm dX6_init_175 ac_int (nI_pos (by omega)) (nI_clamp (by omega)) (by first | decide | (show _ * 4 ≤ _; omega)) ⟨Nat.le_of_ble_eq_true rfl, Nat.le_of_ble_eq_true rfl⟩ (fun q22 hq22 => ?_)
  refine r_putRF (v := some q22) (ty := .array .int) Mm dX6_init_177 fi_X6_74 ki_6 rfl (yN_S hq22 i21a.1) rfl (i := 627) rfl rfl (by decide +kernel) rfl rfl rfl rfl ?_
  have i22a := MIn.step (s := 27) (kd := 8) (n := 8) i21a hq22 (by show (27 : Nat) ∉ ([26, 23, 20, 19, 18, 17, 16, 15, 14, 13, 12, 11, 10, 9, 8, 7, 5, 4, 3, 2, 1] : List Nat); decide)
  obtain ⟨g22, eg22⟩ : ∃ z, z = yP (yN g21 q22 8 8) (600 + 27) m (some q22) := ⟨_, rfl⟩
  rw [← eg22] at i22a
  show V 180 [some (.ref m), none] [] (yP (yN g21 q22 8 8) (600 + 27) m (some q22)) _ _
  rw [← eg22]
  clear eg22
  refine r_aload_n Mm dX6_init_180 rfl ?_
  refine r_bipush (v := nI 8) Mm dX6_init_181 (by decide) ?_
  refine r_newZ (N := 8) Mm dX6_init_183 ac_boolean (nI_pos (by omega)) (nI_clamp (by omega)) (by first | decide | (show _ * 4 ≤ _; omega)) ⟨Nat.le_of_ble_eq_true rfl, Nat.le_of_ble_eq_true rfl⟩ (fun q23 hq23 => ?_)
  refine r_putRF (v := some q23) (ty := .array .boolean) Mm dX6_init_185 fi_X6_77 ki_6 rfl (yN_S hq23 i22a.1) rfl (i := 628) rfl rfl (by decide +kernel) rfl rfl rfl rfl ?_
  have i23a := MIn.step (s := 28) (kd := 9) (n := 8) i22a hq23 (by show (28 : Nat) ∉ ([27, 26, 23, 20, 19, 18, 17, 16, 15, 14, 13, 12, 11, 10, 9, 8, 7, 5, 4, 3, 2, 1] : List Nat); decide)
  obtain ⟨g23, eg23⟩ : ∃ z, z = yP (yN g22 q23 9 8) (600 + 28) m (some q23) := ⟨_, rfl⟩
  rw [← eg23] at i23a
  show V 188 [some (.ref m), none] [] (yP (yN g22 q23 9 8) (600 + 28) m (some q23)) _ _
  rw [← eg23]
  clear eg23
  obtain ⟨ad, hM, hZ, hfr⟩ : ∃ ad : Nat → Nat, MS g23 m ad ∧ (∀ s k n, (s, k, n) ∈ mSl → ∀ j, xA g23 (ad s) j = 0) ∧ ∀ s k n, (s, k, n) ∈ mSl → xS h (ad s) = none := ⟨adL [(28, 9, 8, q23), (27, 8, 8, q22), (26, 8, 8, q21), (23, 8, 32, q20), (20, 9, 48, q19), (19, 8, 6, q18), (18, 8, 6, q17), (17, 9, 6, q16), (16, 8, 6, q15), (15, 8, 6, q14), (14, 8, 10, q13), (13, 8, 8, q12), (12, 8, 80, q11), (11, 8, 80, q10), (10, 8, 96, q9), (9, 8, 96, q8), (8, 8, 96, q7), (7, 8, 96, q6), (5, 8, 8, q5), (4, 8, 8, q4), (3, 8, 8, q3), (2, 8, 8, q2), (1, 8, 8, q1)], MIn.ms i23a rfl⟩
  have hF0 := i23a.2.1
  have hFr0 := i23a.2.2.1
  refine r_iconst (v := nI 0) Mm dX6_init_188 (by decide) ?_
  refine r_istore_n Mm dX6_init_189 (by decide) ?_
  show V 190 [some (.ref m), some (.int (nI 0))] _ _ _ _
  have loop : ∀ (u : Nat) (h1 : Hp) (k : Nat), 10 - k < u → (k ≤ 10) → (Ch (ad 14) g23 h1) → (∀ j, xA h1 (ad 14) j = if j < k then -1 else 0) → V 190 [some (.ref m), some (.int (nI k))] [] h1 23 736 := by
    intro u
    induction u with
    | zero => intro h1 k hm; exact absurd hm (Nat.not_lt_zero _)
    | succ u ih =>
      intro h1 k hm hk hc hv
      have hM1 := hM.eq hc.1 hc.2.1
      refine r_iload_n Mm dX6_init_190 rfl ?_
      refine r_bipush (v := nI 10) Mm dX6_init_191 (by decide) ?_
      refine r_icmp_geN (tgt := 209) Mm dX6_init_193 (by decide) (by omega) (by omega) (fun c24 => ?_) (fun c24 => ?_)
      · refine r_iconst (v := nI 0) Mm dX6_init_209 (by decide) ?_
        refine r_istore_n Mm dX6_init_210 (by decide) ?_
        show V 211 [some (.ref m), some (.int (nI 0))] _ _ _ _
        have hk10 : k = 10 := by omega
        subst hk10
        have loop : ∀ (v : Nat) (h2 : Hp) (y : Nat), 8 - y < v → (y ≤ 8) → (Ch (ad 23) h1 h2) → (TbK h2 (ad 23) y) → V 211 [some (.ref m), some (.int (nI y))] [] h2 23 736 := by
          intro v
          induction v with
          | zero => intro h2 y hm; exact absurd hm (Nat.not_lt_zero _)
          | succ v ih =>
            intro h2 y hm hy hd ht
            have hM2 := hM1.eq hd.1 hd.2.1
            have h64 : (8 - y) * (8 - y) ≤ 8 * 8 := Nat.mul_le_mul (by omega) (by omega)
            refine r_iload_n Mm dX6_init_211 rfl ?_
            refine r_bipush (v := nI 8) Mm dX6_init_212 (by decide) ?_
            refine r_icmp_geN (tgt := 266) Mm dX6_init_214 (by decide) (by omega) (by omega) (fun c25 => ?_) (fun c25 => ?_)
            · refine r_vret M dX6_init_266 ?_
              have hy8 : y = 8 := by omega
              subst hy8
              have A : ∀ s k n, (s, k, n) ∈ mSl → s ≠ 14 → s ≠ 23 → ∀ j, xA h2 (ad s) j = 0 := fun s k n hs n1 n2 j => by rw [hd.2.2.2.2.2 _ (hM.ne hs (by decide : (23, 8, 32) ∈ mSl) n2), hc.2.2.2.2.2 _ (hM.ne hs (by decide : (14, 8, 10) ∈ mSl) n1)]; exact hZ s k n hs j
              have xf : ∀ i, xF h2 i m = 0 := fun i => by rw [hd.2.2.1, hc.2.2.1, hF0 i]; exact hz i
              have hFR : Fr (fun b => b = m) h h2 := Fr.mono (Wr := fun b => b = m ∨ b = ad 14 ∨ b = ad 23) (((Fr.mono hFr0 (fun b _ e => Or.inl e)).tr (Ch.fr (Wr := fun b => b = m ∨ b = ad 14 ∨ b = ad 23) hc (Or.inr (Or.inl rfl)))).tr (Ch.fr (Wr := fun b => b = m ∨ b = ad 14 ∨ b = ad 23) hd (Or.inr (Or.inr rfl)))) (fun b hb z => z.elim id (fun z => z.elim (fun e => absurd (by rw [e]; exact hfr 14 8 10 (by decide)) hb) (fun e => absurd (by rw [e]; exact hfr 23 8 32 (by decide)) hb)))
              refine ⟨rfl, ad, ⟨hM2, ⟨xf _, xf _, xf _⟩, fun i hi => ?_, fun j hj => ?_, fun s hs => ?_, TbK.end ht⟩, hFR, hfr⟩
              · exact ⟨A 1 8 8 (by decide) (by decide) (by decide) _, A 2 8 8 (by decide) (by decide) (by decide) _, A 3 8 8 (by decide) (by decide) (by decide) _, A 4 8 8 (by decide) (by decide) (by decide) _, A 5 8 8 (by decide) (by decide) (by decide) _, fun k kk hk => (by cases hk), A 13 8 8 (by decide) (by decide) (by decide) _, fun k kk hk => (by cases hk)⟩
              · exact ⟨A 15 8 6 (by decide) (by decide) (by decide) _, A 16 8 6 (by decide) (by decide) (by decide) _, A 17 9 6 (by decide) (by decide) (by decide) _, A 18 8 6 (by decide) (by decide) (by decide) _, A 19 8 6 (by decide) (by decide) (by decide) _, fun q hq => A 20 9 48 (by decide) (by decide) (by decide) _⟩
              · rw [hd.2.2.2.2.2 _ (hM.ne (by decide : (14, 8, 10) ∈ mSl) (by decide : (23, 8, 32) ∈ mSl) (by decide)), hv s]; rfl
            · refine r_aload_n Mm dX6_init_217 rfl ?_
              refine r_getR Mm dX6_init_218 fi_X6_68 (hM2.1) rfl (i := 623) rfl ((hM2.2.1 23 8 32 (by decide)).1) ?_
              refine r_iload_n Mm dX6_init_221 rfl ?_
              refine r_bipush (v := nI 8) Mm dX6_init_222 (by decide) ?_
              refine r_iload_n Mm dX6_init_224 rfl ?_
              refine r_imulN Mm dX6_init_225 ?_
              refine r_iastN Mm dX6_init_226 ((hM2.2.1 23 8 32 (by decide)).2) (by omega) (by omega) ?_
              refine r_aload_n Mm dX6_init_227 rfl ?_
              refine r_getR Mm dX6_init_228 fi_X6_68 (hM2.1) rfl (i := 623) rfl ((hM2.2.1 23 8 32 (by decide)).1) ?_
              refine r_bipush (v := nI 8) Mm dX6_init_231 (by decide) ?_
              refine r_iload_n Mm dX6_init_233 rfl ?_
              refine r_iaddN Mm dX6_init_234 ?_
              refine r_iload_n Mm dX6_init_235 rfl ?_
              refine r_iload_n Mm dX6_init_236 rfl ?_
              refine r_imulN Mm dX6_init_237 ?_
              refine r_iastN Mm dX6_init_238 ((hM2.2.1 23 8 32 (by decide)).2) (by omega) (by omega) ?_
              refine r_aload_n Mm dX6_init_239 rfl ?_
              refine r_getR Mm dX6_init_240 fi_X6_68 (hM2.1) rfl (i := 623) rfl ((hM2.2.1 23 8 32 (by decide)).1) ?_
              refine r_bipush (v := nI 16) Mm dX6_init_243 (by decide) ?_
              refine r_iload_n Mm dX6_init_245 rfl ?_
              refine r_iaddN Mm dX6_init_246 ?_
              refine r_bipush (v := nI 64) Mm dX6_init_247 (by decide) ?_
              refine r_bipush (v := nI 8) Mm dX6_init_249 (by decide) ?_
              refine r_iload_n Mm dX6_init_251 rfl ?_
              refine r_isubN Mm dX6_init_252 (by omega) ?_
              refine r_bipush (v := nI 8) Mm dX6_init_253 (by decide) ?_
              refine r_iload_n Mm dX6_init_255 rfl ?_
              refine r_isubN Mm dX6_init_256 (by omega) ?_
              refine r_imulN Mm dX6_init_257 ?_
              refine r_isubN Mm dX6_init_258 (by omega) ?_
              refine r_iastN Mm dX6_init_259 ((hM2.2.1 23 8 32 (by decide)).2) (by omega) (by omega) ?_
              refine r_iincN (k := 1) Mm dX6_init_260 rfl (by decide) (by decide) ?_
              show V 263 [some (.ref m), some (.int (nI (y + 1)))] _ _ _ _
              refine r_goto (tgt := 211) Mm dX6_init_263 (by decide) ?_
              exact ih _ (y + 1) (by omega) (by omega) (hd.tr (((Ch.w _ _).tr (Ch.w _ _)).tr (Ch.w _ _))) (TbK.step (by omega) ht)
        exact loop (9) _ 0 (by omega) (Nat.zero_le _) Ch.rf (fun j => by rw [hc.2.2.2.2.2 _ (hM.ne (by decide : (23, 8, 32) ∈ mSl) (by decide : (14, 8, 10) ∈ mSl) (by decide)), hZ 23 8 32 (by decide) j]; simp only [Nat.not_lt_zero, if_false, ite_self])
      · refine r_aload_n Mm dX6_init_196 rfl ?_
        refine r_getR Mm dX6_init_197 fi_X6_46 (hM1.1) rfl (i := 614) rfl ((hM1.2.1 14 8 10 (by decide)).1) ?_
        refine r_iload_n Mm dX6_init_200 rfl ?_
        refine r_iconst (v := -1) Mm dX6_init_201 (by decide) ?_
        refine r_iastN Mm dX6_init_202 ((hM1.2.1 14 8 10 (by decide)).2) (by omega) (by omega) ?_
        refine r_iincN (k := 1) Mm dX6_init_203 rfl (by decide) (by decide) ?_
        show V 206 [some (.ref m), some (.int (nI (k + 1)))] _ _ _ _
        refine r_goto (tgt := 190) Mm dX6_init_206 (by decide) ?_
        exact ih _ (k + 1) (by omega) (by omega) (hc.tr (Ch.w _ _)) (fun j => by
          by_cases e : j = k
          · rw [e, yA_s, if_pos (by omega)]
          · rw [yA_j e, hv j]
            by_cases q : j < k
            · rw [if_pos q, if_pos (by omega)]
            · rw [if_neg q, if_neg (by omega)])
  exact loop (11) _ 0 (by omega) (Nat.zero_le _) Ch.rf (fun j => (hZ 14 8 10 (by decide) j).trans (if_neg (Nat.not_lt_zero _)).symm)
