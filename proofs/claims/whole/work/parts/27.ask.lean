/-! ===== the model's calls that ask ===== -/
def pZ : PS := (0, 0, [], 0, 0, [])
def sZ : SS := ((0, 0), (fun _ => false), 50, 0, false)
def WX (σ : ST) : Prop := WF σ ∧ (∀ i, eN σ ≤ i → eP σ i = pZ) ∧ ∀ j, eM σ ≤ j → eS σ j = sZ
def cdOf (L : List String) (E : String) : Nat := L.idxOf E + 1
/-- the model's answer to a call: what it says it threw, or the answer and the state behind it -/
def pMd (m : Nat) (ad : Nat → Nat) (h : Hp) (σ : ST) (L : List String) (o : OR) : Res → Hp → Prop := fun res h' => Fr (MW m ad) h h' ∧ ∃ v : Int32, res = .inl (some (.int v)) ∧ ((∃ E, o = .inl E ∧ xF h' 600 m = nI (cdOf L E) ∧ RM h' m ad σ) ∨ ∃ σ', o = .inr (v, σ') ∧ xF h' 600 m = nI 0 ∧ RM h' m ad σ')
theorem Mt.fr {m : Nat} {ad : Nat → Nat} {h h' : Hp} (t : Mt m ad h h') : Fr (MW m ad) h h' := fun b z hz => by
  obtain ⟨t1, t2, t3, t4, t5, t6⟩ := t
  refine ⟨by rw [t1]; exact hz, fun hb => ⟨fun i => t5 i b (Or.inl (fun e => hb (Or.inl e))), fun i => by rw [t2], ?_, by rw [t3], by rw [t4]⟩⟩
  funext j
  exact t6 b j (fun e => hb (Or.inr ⟨26, 8, 8, by decide, e⟩)) (fun e => hb (Or.inr ⟨27, 8, 8, by decide, e⟩)) (fun e => hb (Or.inr ⟨28, 9, 8, by decide, e⟩))
section PMd
variable {m : Nat} {ad : Nat → Nat} {h hz h' : Hp} {σ σ' : ST} {L : List String} {o : OR} {v : Int32}
theorem pMd.thr (r : RM h m ad σ) (E : String) (n : Nat) (e : o = .inl E) (hc : cdOf L E = n) : pMd m ad h σ L o (.inl (some (.int v))) (yF h 600 m (nI n)) := ⟨Fr.yF (Or.inl rfl), v, rfl, Or.inl ⟨E, e, by rw [hc]; exact u2_s _ _ _ _, r.f0 _⟩⟩
theorem pMd.ask (fz : Fr (MW m ad) h hz) (z0 : xF hz 600 m = nI 0) (rz : RM hz m ad σ) (e : o = .inr (v, σ)) (t : Mt m ad hz h') : pMd m ad h σ L o (.inl (some (.int v))) h' := ⟨fz.tr t.fr, v, rfl, Or.inr ⟨σ, e, t.th.trans z0, rz.mt t⟩⟩
theorem pMd.ret (fz : Fr (MW m ad) h hz) (z0 : xF hz 600 m = nI 0) (e : o = .inr (v, σ')) (f : Fr (MW m ad) hz h') (h0 : xF h' 600 m = xF hz 600 m) (r : RM h' m ad σ') : pMd m ad h σ L o (.inl (some (.int v))) h' := ⟨fz.tr f, v, rfl, Or.inr ⟨σ', e, h0.trans z0, r⟩⟩
theorem pMd.no {E : String} (p : pMd m ad h σ L o (.inr E) h') : False := by
  obtain ⟨-, v, e, -⟩ := p
  cases e
end PMd
def isOfS (σ : ST) (q p : Int32) : Bool := decide (0 ≤ q ∧ q < nI (eM σ)) && (decide (0 ≤ p ∧ p < nI (eN σ)) && tCast (eS σ q.toNatClampNeg) p.toNatClampNeg)
theorem isOfS_no {σ : ST} {q p : Int32} (k : ¬ (0 ≤ q ∧ q < nI (eM σ))) : isOfS σ q p = false := by
  rw [isOfS, decide_eq_false k, Bool.false_and]
theorem isOfS_eq {σ : ST} {j : Nat} {p : Int32} (hw : WF σ) (hj : j < eM σ) : isOfS σ (nI j) p = hasC (tCast (eS σ j)) p := by
  obtain ⟨w1, w2, w3, w4, w5⟩ := hw
  have hq : 0 ≤ nI j ∧ nI j < nI (eM σ) := ⟨nI_ge0 (by omega), nI_lt hj (by omega)⟩
  rw [isOfS, decide_eq_true hq, Bool.true_and, nI_clamp (by omega)]
  by_cases k : 0 ≤ p ∧ p < nI (eN σ)
  · rw [decide_eq_true k, Bool.true_and]
    obtain ⟨i, hi, rfl⟩ := in_ex k (by omega)
    rw [hasC_nI8 (by omega), nI_clamp (by omega)]
  · rw [decide_eq_false k, Bool.false_and]
    cases hc : hasC (tCast (eS σ j)) p with
    | false => rfl
    | true =>
      obtain ⟨i, hi8, rfl, hci⟩ := hasC_ex hc
      exact absurd ⟨nI_ge0 (by omega), nI_lt ((w4 j hj).1 i hci) (by omega)⟩ k
theorem bI_t : bI true = nI 1 := rfl
theorem bI_f : bI false = nI 0 := rfl
theorem sound_eq {q : Int32} : (nI 0 ≤ q ∧ q ≤ nI 9) ↔ (¬ q < 0 ∧ q < nI 10) := by
  refine ⟨fun z => ?_, fun z => ?_⟩
  · obtain ⟨j, hj, rfl⟩ := in_le z (by decide)
    exact ⟨Int32.not_lt.mpr z.1, nI_lt (by omega) (by decide)⟩
  · obtain ⟨j, hj, rfl⟩ := in_ex ⟨Int32.not_lt.mp z.1, z.2⟩ (by decide)
    exact ⟨nI_ge0 (by omega), (nI_leI (by omega) (by decide)).mpr (by omega)⟩
set_option maxRecDepth 100000 in
set_option maxHeartbeats 4000000 in
theorem cm_thrown {g : Gl} {l : Launch} (hfl : l.stackTraces = false) (h : Hp) (m : Nat) (ad : Nat → Nat) (hM : MS h m ad) (n : Nat) (hn : xF h 600 m = nI n) : CT g l iX6_thrown 1 [.ref m] h 0 0 (pRet (some (.int (nI n))) h) := by
  refine ct_mk hfl (by decide) (Nat.le_of_ble_eq_true rfl) (by intro v hv; simp only [List.mem_cons, List.not_mem_nil, or_false] at hv; rcases hv with rfl <;> rfl) (fun V X M => ?_)
  have Mm := M.m
  show V 0 [some (.ref m)] [] _ 0 0
  refine r_aload_n Mm dX6_thrown_0 rfl ?_
  refine r_getI Mm dX6_thrown_1 fi_X6_80 (hM.1) rfl (i := 600) rfl ?_
  refine r_top _ (nI n) (hn) ?_
  refine r_iret M dX6_thrown_4 ?_
  exact ⟨rfl, rfl⟩
set_option maxRecDepth 100000 in
set_option maxHeartbeats 4000000 in
theorem cm_income {g : Gl} {l : Launch} (hfl : l.stackTraces = false) (h : Hp) (m : Nat) (ad : Nat → Nat) (σ : ST) (rm : RM h m ad σ) (hw : WF σ) : CT g l iX6_income 1 [.ref m] h 0 0 (pMd m ad h σ [] (o_income σ )) := by
  have hw0 := hw
  obtain ⟨w1, w2, w3, w4, w5⟩ := hw
  have rm0 := rm
  obtain ⟨hM, ⟨g1, g2, g3⟩, rp, rs, rh, rt⟩ := rm
  refine ct_mk hfl (by decide) (Nat.le_of_ble_eq_true rfl) (by intro v hv; simp only [List.mem_cons, List.not_mem_nil, or_false] at hv; rcases hv with rfl <;> rfl) (fun V X M => ?_)
  have Mm := M.m
  show V 0 [some (.ref m)] [] _ 0 0
  refine r_aload_n Mm dX6_income_0 rfl ?_
  refine r_iconst (v := nI 0) Mm dX6_income_1 (by decide) ?_
  refine r_putI (ty := .int) Mm dX6_income_2 fi_X6_80 ki_6 rfl (hM.1) rfl (i := 600) rfl rfl (by decide +kernel) rfl rfl ?_
  obtain ⟨hz, fz, z0, rz, ez⟩ : ∃ z, Fr (MW m ad) h z ∧ xF z 600 m = nI 0 ∧ RM z m ad σ ∧ z = yF h 600 m (nI 0) := ⟨_, Fr.yF (Or.inl rfl), u2_s _ _ _ _, rm0.f0 _, rfl⟩
  rw [← ez]
  clear ez
  have rz0 := rz
  obtain ⟨hMz, ⟨gz1, gz2, gz3⟩, rpz, rsz, rhz, rtz⟩ := rz
  refine r_aload_n Mm dX6_income_5 rfl ?_
  refine r_getI Mm dX6_income_6 fi_X6_131 (hMz.1) rfl (i := 622) rfl ?_
  refine r_top _ (ePaid σ) (gz3) ?_
  refine r_iret M dX6_income_9 ?_
  exact pMd.ask fz z0 rz0 (by simp only [o_income]) (Mt.rf)
set_option maxRecDepth 100000 in
set_option maxHeartbeats 4000000 in
theorem cm_worn {g : Gl} {l : Launch} (hfl : l.stackTraces = false) (h : Hp) (m : Nat) (ad : Nat → Nat) (σ : ST) (rm : RM h m ad σ) (hw : WF σ) (p : Int32) : CT g l iX6_worn 3 [.ref m, .int p] h 0 0 (pMd m ad h σ ["java/lang/IndexOutOfBoundsException"] (o_worn σ p)) := by
  have hw0 := hw
  obtain ⟨w1, w2, w3, w4, w5⟩ := hw
  have rm0 := rm
  obtain ⟨hM, ⟨g1, g2, g3⟩, rp, rs, rh, rt⟩ := rm
  refine ct_mk hfl (by decide) (Nat.le_of_ble_eq_true rfl) (by intro v hv; simp only [List.mem_cons, List.not_mem_nil, or_false] at hv; rcases hv with rfl | rfl <;> rfl) (fun V X M => ?_)
  have Mm := M.m
  show V 0 [some (.ref m), some (.int p)] [] _ 0 0
  refine r_aload_n Mm dX6_worn_0 rfl ?_
  refine r_aload_n Mm dX6_worn_1 rfl ?_
  refine r_iload_n Mm dX6_worn_2 rfl ?_
  by_cases k1 : 0 ≤ p ∧ p < nI (eN σ)
  · refine r_callV (As := [(.int p)]) Mm dX6_worn_3 rfl (cm_isPuppet hfl h m (eN σ) p hM.1 (by omega) g1) (hM.1) rfl cw_X6_98 ⟨Nat.le_of_ble_eq_true rfl, Nat.le_of_ble_eq_true rfl, Nat.le_of_ble_eq_true rfl⟩ (Nat.le_of_ble_eq_true rfl) ⟨Nat.le_of_ble_eq_true rfl, Nat.le_of_ble_eq_true rfl⟩ (fun r2 h3 p4 => ?_) (fun Er2 h3 p4 => False.elim p4)
    obtain ⟨rfl, rfl⟩ := p4
    rw [decide_eq_true k1]
    obtain ⟨i, hi, rfl⟩ := in_ex k1 (by omega)
    have eci : (nI i).toNatClampNeg = i := nI_clamp (by omega)
    show V 6 _ [(.int (nI 1)), (.ref m)] _ _ _
    refine r_if_eq (tgt := 13) Mm dX6_worn_6 (by decide) (fun c5 => absurd c5 (by decide)) (fun _ => ?_)
    refine r_iconst (v := nI 0) Mm dX6_worn_9 (by decide) ?_
    refine r_goto (tgt := 14) Mm dX6_worn_10 (by decide) ?_
    refine r_callV (As := [(.int (nI 0))]) Mm dX6_worn_14 rfl (cm_isFine hfl h m ad hM (nI 0)) (hM.1) rfl cw_X6_94 ⟨Nat.le_of_ble_eq_true rfl, Nat.le_of_ble_eq_true rfl, Nat.le_of_ble_eq_true rfl⟩ (Nat.le_of_ble_eq_true rfl) ⟨Nat.le_of_ble_eq_true rfl, Nat.le_of_ble_eq_true rfl⟩ (fun r6 h7 p8 => ?_) (fun Er6 h7 p8 => False.elim p8)
    obtain ⟨rfl, rfl⟩ := p8
    rw [show bI (decide (nI 0 = 0)) = nI 1 from by decide]
    obtain ⟨hz, fz, z0, rz, ez⟩ : ∃ z, Fr (MW m ad) h z ∧ xF z 600 m = nI 0 ∧ RM z m ad σ ∧ z = yF h 600 m (nI 0) := ⟨_, Fr.yF (Or.inl rfl), u2_s _ _ _ _, rm0.f0 _, rfl⟩
    rw [← ez]
    clear ez
    have rz0 := rz
    obtain ⟨hMz, ⟨gz1, gz2, gz3⟩, rpz, rsz, rhz, rtz⟩ := rz
    show V 17 _ [(.int (nI 1))] _ _ _
    refine r_if_eq (tgt := 29) Mm dX6_worn_17 (by decide) (fun c9 => absurd c9 (by decide)) (fun _ => ?_)
    refine r_aload_n Mm dX6_worn_20 rfl ?_
    refine r_getR Mm dX6_worn_21 fi_X6_22 (hMz.1) rfl (i := 605) rfl ((hMz.2.1 5 8 8 (by decide)).1) ?_
    refine r_iload_n Mm dX6_worn_24 rfl ?_
    refine r_ialdN Mm dX6_worn_25 ((hMz.2.1 5 8 8 (by decide)).2) (by omega) (by omega) ?_
    refine r_top _ (nI (qWorn (eP σ i))) ((rpz i (by omega)).2.2.2.2.1) ?_
    refine r_goto (tgt := 30) Mm dX6_worn_26 (by decide) ?_
    refine r_iret M dX6_worn_30 ?_
    exact pMd.ask fz z0 rz0 (by simp only [o_worn, oPu_ok k1 eci]) (Mt.rf)
  · refine r_callV (As := [(.int p)]) Mm dX6_worn_3 rfl (cm_isPuppet hfl h m (eN σ) p hM.1 (by omega) g1) (hM.1) rfl cw_X6_98 ⟨Nat.le_of_ble_eq_true rfl, Nat.le_of_ble_eq_true rfl, Nat.le_of_ble_eq_true rfl⟩ (Nat.le_of_ble_eq_true rfl) ⟨Nat.le_of_ble_eq_true rfl, Nat.le_of_ble_eq_true rfl⟩ (fun r10 h11 p12 => ?_) (fun Er10 h11 p12 => False.elim p12)
    obtain ⟨rfl, rfl⟩ := p12
    rw [decide_eq_false k1]
    show V 6 _ [(.int (nI 0)), (.ref m)] _ _ _
    refine r_if_eq (tgt := 13) Mm dX6_worn_6 (by decide) (fun _ => ?_) (fun c13 => absurd (by decide) c13)
    refine r_iconst (v := nI 1) Mm dX6_worn_13 (by decide) ?_
    refine r_callV (As := [(.int (nI 1))]) Mm dX6_worn_14 rfl (cm_isFine hfl h m ad hM (nI 1)) (hM.1) rfl cw_X6_94 ⟨Nat.le_of_ble_eq_true rfl, Nat.le_of_ble_eq_true rfl, Nat.le_of_ble_eq_true rfl⟩ (Nat.le_of_ble_eq_true rfl) ⟨Nat.le_of_ble_eq_true rfl, Nat.le_of_ble_eq_true rfl⟩ (fun r14 h15 p16 => ?_) (fun Er14 h15 p16 => False.elim p16)
    obtain ⟨rfl, rfl⟩ := p16
    rw [show bI (decide (nI 1 = 0)) = nI 0 from by decide]
    show V 17 _ [(.int (nI 0))] _ _ _
    refine r_if_eq (tgt := 29) Mm dX6_worn_17 (by decide) (fun _ => ?_) (fun c17 => absurd (by decide) c17)
    refine r_iconst (v := nI 0) Mm dX6_worn_29 (by decide) ?_
    refine r_iret M dX6_worn_30 ?_
    exact pMd.thr rm0 "java/lang/IndexOutOfBoundsException" 1 (by simp only [o_worn, oPu_no k1]) (by decide +kernel)
set_option maxRecDepth 100000 in
set_option maxHeartbeats 4000000 in
theorem cm_trackNow {g : Gl} {l : Launch} (hfl : l.stackTraces = false) (h : Hp) (m : Nat) (ad : Nat → Nat) (σ : ST) (rm : RM h m ad σ) (hw : WF σ) (p f : Int32) : CT g l iX6_trackNow 3 [.ref m, .int p, .int f] h 0 0 (pMd m ad h σ ["java/lang/IndexOutOfBoundsException", "java/lang/IllegalArgumentException"] (o_track σ p f)) := by
  have hw0 := hw
  obtain ⟨w1, w2, w3, w4, w5⟩ := hw
  have rm0 := rm
  obtain ⟨hM, ⟨g1, g2, g3⟩, rp, rs, rh, rt⟩ := rm
  refine ct_mk hfl (by decide) (Nat.le_of_ble_eq_true rfl) (by intro v hv; simp only [List.mem_cons, List.not_mem_nil, or_false] at hv; rcases hv with rfl | rfl | rfl <;> rfl) (fun V X M => ?_)
  have Mm := M.m
  show V 0 [some (.ref m), some (.int p), some (.int f)] [] _ 0 0
  refine r_aload_n Mm dX6_trackNow_0 rfl ?_
  refine r_aload_n Mm dX6_trackNow_1 rfl ?_
  refine r_iload_n Mm dX6_trackNow_2 rfl ?_
  by_cases k1 : 0 ≤ p ∧ p < nI (eN σ)
  · refine r_callV (As := [(.int p)]) Mm dX6_trackNow_3 rfl (cm_isPuppet hfl h m (eN σ) p hM.1 (by omega) g1) (hM.1) rfl cw_X6_98 ⟨Nat.le_of_ble_eq_true rfl, Nat.le_of_ble_eq_true rfl, Nat.le_of_ble_eq_true rfl⟩ (Nat.le_of_ble_eq_true rfl) ⟨Nat.le_of_ble_eq_true rfl, Nat.le_of_ble_eq_true rfl⟩ (fun r2 h3 p4 => ?_) (fun Er2 h3 p4 => False.elim p4)
    obtain ⟨rfl, rfl⟩ := p4
    rw [decide_eq_true k1]
    obtain ⟨i, hi, rfl⟩ := in_ex k1 (by omega)
    have eci : (nI i).toNatClampNeg = i := nI_clamp (by omega)
    show V 6 _ [(.int (nI 1)), (.ref m)] _ _ _
    refine r_if_ne (tgt := 13) Mm dX6_trackNow_6 (by decide) (fun _ => ?_) (fun c5 => absurd c5 (by decide))
    refine r_iload_n Mm dX6_trackNow_13 rfl ?_
    by_cases k6 : nI 0 ≤ f ∧ f ≤ nI 1999
    · refine r_callS (As := [(.int f)]) Mm dX6_trackNow_14 rfl (cm_isFrame hfl h f) cw_X6_140 ⟨Nat.le_of_ble_eq_true rfl, Nat.le_of_ble_eq_true rfl, Nat.le_of_ble_eq_true rfl⟩ (Nat.le_of_ble_eq_true rfl) ⟨Nat.le_of_ble_eq_true rfl, Nat.le_of_ble_eq_true rfl⟩ (fun r7 h8 p9 => ?_) (fun Er7 h8 p9 => False.elim p9)
      obtain ⟨rfl, rfl⟩ := p9
      rw [decide_eq_true k6]
      obtain ⟨F, hF, rfl⟩ := in_le k6 (by decide)
      have ecF : (nI F).toNatClampNeg = F := nI_clamp (by omega)
      show V 17 _ [(.int (nI 1)), (.ref m)] _ _ _
      refine r_if_ne (tgt := 24) Mm dX6_trackNow_17 (by decide) (fun _ => ?_) (fun c10 => absurd c10 (by decide))
      refine r_iconst (v := nI 0) Mm dX6_trackNow_24 (by decide) ?_
      refine r_callV (As := [(.int (nI 0))]) Mm dX6_trackNow_25 rfl (cm_isFine hfl h m ad hM (nI 0)) (hM.1) rfl cw_X6_94 ⟨Nat.le_of_ble_eq_true rfl, Nat.le_of_ble_eq_true rfl, Nat.le_of_ble_eq_true rfl⟩ (Nat.le_of_ble_eq_true rfl) ⟨Nat.le_of_ble_eq_true rfl, Nat.le_of_ble_eq_true rfl⟩ (fun r11 h12 p13 => ?_) (fun Er11 h12 p13 => False.elim p13)
      obtain ⟨rfl, rfl⟩ := p13
      rw [show bI (decide (nI 0 = 0)) = nI 1 from by decide]
      obtain ⟨hz, fz, z0, rz, ez⟩ : ∃ z, Fr (MW m ad) h z ∧ xF z 600 m = nI 0 ∧ RM z m ad σ ∧ z = yF h 600 m (nI 0) := ⟨_, Fr.yF (Or.inl rfl), u2_s _ _ _ _, rm0.f0 _, rfl⟩
      rw [← ez]
      clear ez
      have rz0 := rz
      obtain ⟨hMz, ⟨gz1, gz2, gz3⟩, rpz, rsz, rhz, rtz⟩ := rz
      show V 28 _ [(.int (nI 1))] _ _ _
      refine r_if_ne (tgt := 33) Mm dX6_trackNow_28 (by decide) (fun _ => ?_) (fun c14 => absurd c14 (by decide))
      refine r_aload_n Mm dX6_trackNow_33 rfl ?_
      refine r_iload_n Mm dX6_trackNow_34 rfl ?_
      refine r_iload_n Mm dX6_trackNow_35 rfl ?_
      refine r_callV (As := [(.int (nI i)), (.int (nI F))]) Mm dX6_trackNow_36 rfl (cm_finds hfl hz m ad hMz i (eP σ i) (by omega) (rpz i (by omega)) (w3 i hi) rtz F (by omega)) (hMz.1) rfl cw_X6_143 ⟨Nat.le_of_ble_eq_true rfl, Nat.le_of_ble_eq_true rfl, Nat.le_of_ble_eq_true rfl⟩ (Nat.le_of_ble_eq_true rfl) ⟨Nat.le_of_ble_eq_true rfl, Nat.le_of_ble_eq_true rfl⟩ (fun r15 h16 p17 => ?_) (fun Er15 h16 p17 => False.elim p17)
      obtain ⟨rfl, ⟨t2, tx⟩, ef⟩ := p17
      have hMy := hMz.eq t2.1 t2.2.1
      show V 39 _ [] _ _ _
      refine r_sipush (v := nI 1000) Mm dX6_trackNow_39 (by decide) ?_
      refine r_aload_n Mm dX6_trackNow_42 rfl ?_
      refine r_getI Mm dX6_trackNow_43 fi_X6_134 (hMy.1) rfl (i := 624) rfl ?_
      refine r_top _ (trk (qBar (eP σ i)) (qKeys (eP σ i)) (nI F)).1 (congrArg Prod.fst ef) ?_
      refine r_imul Mm dX6_trackNow_46 ?_
      refine r_aload_n Mm dX6_trackNow_47 rfl ?_
      refine r_getI Mm dX6_trackNow_48 fi_X6_137 (hMy.1) rfl (i := 625) rfl ?_
      refine r_top _ (trk (qBar (eP σ i)) (qKeys (eP σ i)) (nI F)).2 (congrArg Prod.snd ef) ?_
      refine r_iadd Mm dX6_trackNow_51 ?_
      refine r_iret M dX6_trackNow_52 ?_
      exact pMd.ask fz z0 rz0 (by simp only [o_track, oPu_ok k1 eci, oIn_ok k6, ecF]) (t2)
    · refine r_callS (As := [(.int f)]) Mm dX6_trackNow_14 rfl (cm_isFrame hfl h f) cw_X6_140 ⟨Nat.le_of_ble_eq_true rfl, Nat.le_of_ble_eq_true rfl, Nat.le_of_ble_eq_true rfl⟩ (Nat.le_of_ble_eq_true rfl) ⟨Nat.le_of_ble_eq_true rfl, Nat.le_of_ble_eq_true rfl⟩ (fun r18 h19 p20 => ?_) (fun Er18 h19 p20 => False.elim p20)
      obtain ⟨rfl, rfl⟩ := p20
      rw [decide_eq_false k6]
      show V 17 _ [(.int (nI 0)), (.ref m)] _ _ _
      refine r_if_ne (tgt := 24) Mm dX6_trackNow_17 (by decide) (fun c21 => absurd c21 (by decide)) (fun _ => ?_)
      refine r_iconst (v := nI 2) Mm dX6_trackNow_20 (by decide) ?_
      refine r_goto (tgt := 25) Mm dX6_trackNow_21 (by decide) ?_
      refine r_callV (As := [(.int (nI 2))]) Mm dX6_trackNow_25 rfl (cm_isFine hfl h m ad hM (nI 2)) (hM.1) rfl cw_X6_94 ⟨Nat.le_of_ble_eq_true rfl, Nat.le_of_ble_eq_true rfl, Nat.le_of_ble_eq_true rfl⟩ (Nat.le_of_ble_eq_true rfl) ⟨Nat.le_of_ble_eq_true rfl, Nat.le_of_ble_eq_true rfl⟩ (fun r22 h23 p24 => ?_) (fun Er22 h23 p24 => False.elim p24)
      obtain ⟨rfl, rfl⟩ := p24
      rw [show bI (decide (nI 2 = 0)) = nI 0 from by decide]
      show V 28 _ [(.int (nI 0))] _ _ _
      refine r_if_ne (tgt := 33) Mm dX6_trackNow_28 (by decide) (fun c25 => absurd c25 (by decide)) (fun _ => ?_)
      refine r_iconst (v := nI 0) Mm dX6_trackNow_31 (by decide) ?_
      refine r_iret M dX6_trackNow_32 ?_
      exact pMd.thr rm0 "java/lang/IllegalArgumentException" 2 (by simp only [o_track, oPu_ok k1 eci, oIn_no k6]) (by decide +kernel)
  · refine r_callV (As := [(.int p)]) Mm dX6_trackNow_3 rfl (cm_isPuppet hfl h m (eN σ) p hM.1 (by omega) g1) (hM.1) rfl cw_X6_98 ⟨Nat.le_of_ble_eq_true rfl, Nat.le_of_ble_eq_true rfl, Nat.le_of_ble_eq_true rfl⟩ (Nat.le_of_ble_eq_true rfl) ⟨Nat.le_of_ble_eq_true rfl, Nat.le_of_ble_eq_true rfl⟩ (fun r26 h27 p28 => ?_) (fun Er26 h27 p28 => False.elim p28)
    obtain ⟨rfl, rfl⟩ := p28
    rw [decide_eq_false k1]
    show V 6 _ [(.int (nI 0)), (.ref m)] _ _ _
    refine r_if_ne (tgt := 13) Mm dX6_trackNow_6 (by decide) (fun c29 => absurd c29 (by decide)) (fun _ => ?_)
    refine r_iconst (v := nI 1) Mm dX6_trackNow_9 (by decide) ?_
    refine r_goto (tgt := 25) Mm dX6_trackNow_10 (by decide) ?_
    refine r_callV (As := [(.int (nI 1))]) Mm dX6_trackNow_25 rfl (cm_isFine hfl h m ad hM (nI 1)) (hM.1) rfl cw_X6_94 ⟨Nat.le_of_ble_eq_true rfl, Nat.le_of_ble_eq_true rfl, Nat.le_of_ble_eq_true rfl⟩ (Nat.le_of_ble_eq_true rfl) ⟨Nat.le_of_ble_eq_true rfl, Nat.le_of_ble_eq_true rfl⟩ (fun r30 h31 p32 => ?_) (fun Er30 h31 p32 => False.elim p32)
    obtain ⟨rfl, rfl⟩ := p32
    rw [show bI (decide (nI 1 = 0)) = nI 0 from by decide]
    show V 28 _ [(.int (nI 0))] _ _ _
    refine r_if_ne (tgt := 33) Mm dX6_trackNow_28 (by decide) (fun c33 => absurd c33 (by decide)) (fun _ => ?_)
    refine r_iconst (v := nI 0) Mm dX6_trackNow_31 (by decide) ?_
    refine r_iret M dX6_trackNow_32 ?_
    exact pMd.thr rm0 "java/lang/IndexOutOfBoundsException" 1 (by simp only [o_track, oPu_no k1]) (by decide +kernel)
set_option maxRecDepth 100000 in
set_option maxHeartbeats 4000000 in
theorem cm_track {g : Gl} {l : Launch} (hfl : l.stackTraces = false) (h : Hp) (m : Nat) (ad : Nat → Nat) (σ : ST) (rm : RM h m ad σ) (hw : WF σ) (p f : Int32) : CT g l iX6_track 4 [.ref m, .int p, .int f] h 0 0 (pMd m ad h σ ["java/lang/IndexOutOfBoundsException", "java/lang/IllegalArgumentException"] (o_track σ p f)) := by
  have hw0 := hw
  obtain ⟨w1, w2, w3, w4, w5⟩ := hw
  have rm0 := rm
  obtain ⟨hM, ⟨g1, g2, g3⟩, rp, rs, rh, rt⟩ := rm
  refine ct_mk hfl (by decide) (Nat.le_of_ble_eq_true rfl) (by intro v hv; simp only [List.mem_cons, List.not_mem_nil, or_false] at hv; rcases hv with rfl | rfl | rfl <;> rfl) (fun V X M => ?_)
  have Mm := M.m
  show V 0 [some (.ref m), some (.int p), some (.int f)] [] _ 0 0
  refine r_aload_n Mm dX6_track_0 rfl ?_
  refine r_iload_n Mm dX6_track_1 rfl ?_
  refine r_iload_n Mm dX6_track_2 rfl ?_
  refine r_callV (As := [(.int p), (.int f)]) Mm dX6_track_3 rfl (cm_trackNow hfl h m ad σ rm0 hw0 p f) (hM.1) rfl cw_X6_146 ⟨Nat.le_of_ble_eq_true rfl, Nat.le_of_ble_eq_true rfl, Nat.le_of_ble_eq_true rfl⟩ (Nat.le_of_ble_eq_true rfl) ⟨Nat.le_of_ble_eq_true rfl, Nat.le_of_ble_eq_true rfl⟩ (fun r1 h2 p3 => ?_) (fun Er1 h2 p3 => (pMd.no p3).elim)
  obtain ⟨fT, vT, eT, hT⟩ := p3
  cases eT
  show V 6 _ [(.int vT)] _ _ _
  refine r_iret M dX6_track_6 ?_
  exact ⟨fT, vT, rfl, hT⟩
set_option maxRecDepth 100000 in
set_option maxHeartbeats 4000000 in
theorem cm_trackByFrames {g : Gl} {l : Launch} (hfl : l.stackTraces = false) (h : Hp) (m : Nat) (ad : Nat → Nat) (σ : ST) (rm : RM h m ad σ) (hw : WF σ) (p f : Int32) : CT g l iX6_trackByFrames 4 [.ref m, .int p, .int f] h 0 0 (pMd m ad h σ ["java/lang/IndexOutOfBoundsException", "java/lang/IllegalArgumentException"] (o_tbf σ p f)) := by
  have hw0 := hw
  obtain ⟨w1, w2, w3, w4, w5⟩ := hw
  have rm0 := rm
  obtain ⟨hM, ⟨g1, g2, g3⟩, rp, rs, rh, rt⟩ := rm
  refine ct_mk hfl (by decide) (Nat.le_of_ble_eq_true rfl) (by intro v hv; simp only [List.mem_cons, List.not_mem_nil, or_false] at hv; rcases hv with rfl | rfl | rfl <;> rfl) (fun V X M => ?_)
  have Mm := M.m
  show V 0 [some (.ref m), some (.int p), some (.int f)] [] _ 0 0
  refine r_aload_n Mm dX6_trackByFrames_0 rfl ?_
  refine r_iload_n Mm dX6_trackByFrames_1 rfl ?_
  refine r_iload_n Mm dX6_trackByFrames_2 rfl ?_
  refine r_callV (As := [(.int p), (.int f)]) Mm dX6_trackByFrames_3 rfl (cm_trackNow hfl h m ad σ rm0 hw0 p f) (hM.1) rfl cw_X6_146 ⟨Nat.le_of_ble_eq_true rfl, Nat.le_of_ble_eq_true rfl, Nat.le_of_ble_eq_true rfl⟩ (Nat.le_of_ble_eq_true rfl) ⟨Nat.le_of_ble_eq_true rfl, Nat.le_of_ble_eq_true rfl⟩ (fun r1 h2 p3 => ?_) (fun Er1 h2 p3 => (pMd.no p3).elim)
  obtain ⟨fT, vT, eT, hT⟩ := p3
  cases eT
  show V 6 _ [(.int vT)] _ _ _
  refine r_iret M dX6_trackByFrames_6 ?_
  exact ⟨fT, vT, rfl, hT⟩
set_option maxRecDepth 100000 in
set_option maxHeartbeats 4000000 in
theorem cm_isOf {g : Gl} {l : Launch} (hfl : l.stackTraces = false) (h : Hp) (m : Nat) (ad : Nat → Nat) (σ : ST) (rm : RM h m ad σ) (hw : WF σ) (q p : Int32) : CT g l iX6_isOf 3 [.ref m, .int q, .int p] h 0 0 (pRet (some (.int (bI (isOfS σ q p)))) h) := by
  have hw0 := hw
  obtain ⟨w1, w2, w3, w4, w5⟩ := hw
  have rm0 := rm
  obtain ⟨hM, ⟨g1, g2, g3⟩, rp, rs, rh, rt⟩ := rm
  refine ct_mk hfl (by decide) (Nat.le_of_ble_eq_true rfl) (by intro v hv; simp only [List.mem_cons, List.not_mem_nil, or_false] at hv; rcases hv with rfl | rfl | rfl <;> rfl) (fun V X M => ?_)
  have Mm := M.m
  show V 0 [some (.ref m), some (.int q), some (.int p)] [] _ 0 0
  refine r_aload_n Mm dX6_isOf_0 rfl ?_
  refine r_iload_n Mm dX6_isOf_1 rfl ?_
  by_cases k1 : 0 ≤ q ∧ q < nI (eM σ)
  · refine r_callV (As := [(.int q)]) Mm dX6_isOf_2 rfl (cm_isShow hfl h m (eM σ) q hM.1 (by omega) g2) (hM.1) rfl cw_X6_121 ⟨Nat.le_of_ble_eq_true rfl, Nat.le_of_ble_eq_true rfl, Nat.le_of_ble_eq_true rfl⟩ (Nat.le_of_ble_eq_true rfl) ⟨Nat.le_of_ble_eq_true rfl, Nat.le_of_ble_eq_true rfl⟩ (fun r2 h3 p4 => ?_) (fun Er2 h3 p4 => False.elim p4)
    obtain ⟨rfl, rfl⟩ := p4
    rw [decide_eq_true k1]
    obtain ⟨j, hj, rfl⟩ := in_ex k1 (by omega)
    have ecj : (nI j).toNatClampNeg = j := nI_clamp (by omega)
    show V 5 _ [(.int (nI 1))] _ _ _
    refine r_if_eq (tgt := 34) Mm dX6_isOf_5 (by decide) (fun c5 => absurd c5 (by decide)) (fun _ => ?_)
    refine r_aload_n Mm dX6_isOf_8 rfl ?_
    refine r_iload_n Mm dX6_isOf_9 rfl ?_
    by_cases k6 : 0 ≤ p ∧ p < nI (eN σ)
    · refine r_callV (As := [(.int p)]) Mm dX6_isOf_10 rfl (cm_isPuppet hfl h m (eN σ) p hM.1 (by omega) g1) (hM.1) rfl cw_X6_98 ⟨Nat.le_of_ble_eq_true rfl, Nat.le_of_ble_eq_true rfl, Nat.le_of_ble_eq_true rfl⟩ (Nat.le_of_ble_eq_true rfl) ⟨Nat.le_of_ble_eq_true rfl, Nat.le_of_ble_eq_true rfl⟩ (fun r7 h8 p9 => ?_) (fun Er7 h8 p9 => False.elim p9)
      obtain ⟨rfl, rfl⟩ := p9
      rw [decide_eq_true k6]
      obtain ⟨i, hi, rfl⟩ := in_ex k6 (by omega)
      have eci : (nI i).toNatClampNeg = i := nI_clamp (by omega)
      show V 13 _ [(.int (nI 1))] _ _ _
      refine r_if_eq (tgt := 34) Mm dX6_isOf_13 (by decide) (fun c10 => absurd c10 (by decide)) (fun _ => ?_)
      refine r_aload_n Mm dX6_isOf_16 rfl ?_
      refine r_getR Mm dX6_isOf_17 fi_X6_65 (hM.1) rfl (i := 620) rfl ((hM.2.1 20 9 48 (by decide)).1) ?_
      refine r_bipush (v := nI 8) Mm dX6_isOf_20 (by decide) ?_
      refine r_iload_n Mm dX6_isOf_22 rfl ?_
      refine r_imulN Mm dX6_isOf_23 ?_
      refine r_iload_n Mm dX6_isOf_24 rfl ?_
      refine r_iaddN Mm dX6_isOf_25 ?_
      refine r_zaldN Mm dX6_isOf_26 ((hM.2.1 20 9 48 (by decide)).2) (by omega) (by omega) ?_
      refine r_top _ (bI (tCast (eS σ j) i)) ((rs j (by omega)).2.2.2.2.2 i (by omega)) ?_
      refine r_if_eqB (tgt := 34) Mm dX6_isOf_27 (by decide) (fun c11 => ?_) (fun c11 => ?_)
      · refine r_iconst (v := nI 0) Mm dX6_isOf_34 (by decide) ?_
        refine r_zret M dX6_isOf_35 (by decide) ?_
        exact ⟨by rw [show isOfS σ (nI j) (nI i) = false from by rw [isOfS, ecj, eci, c11, Bool.and_false, Bool.and_false]]; rfl, rfl⟩
      · refine r_iconst (v := nI 1) Mm dX6_isOf_30 (by decide) ?_
        refine r_goto (tgt := 35) Mm dX6_isOf_31 (by decide) ?_
        refine r_zret M dX6_isOf_35 (by decide) ?_
        exact ⟨by rw [show isOfS σ (nI j) (nI i) = true from by rw [isOfS, decide_eq_true k1, decide_eq_true k6, ecj, eci, c11]; rfl]; rfl, rfl⟩
    · refine r_callV (As := [(.int p)]) Mm dX6_isOf_10 rfl (cm_isPuppet hfl h m (eN σ) p hM.1 (by omega) g1) (hM.1) rfl cw_X6_98 ⟨Nat.le_of_ble_eq_true rfl, Nat.le_of_ble_eq_true rfl, Nat.le_of_ble_eq_true rfl⟩ (Nat.le_of_ble_eq_true rfl) ⟨Nat.le_of_ble_eq_true rfl, Nat.le_of_ble_eq_true rfl⟩ (fun r12 h13 p14 => ?_) (fun Er12 h13 p14 => False.elim p14)
      obtain ⟨rfl, rfl⟩ := p14
      rw [decide_eq_false k6]
      show V 13 _ [(.int (nI 0))] _ _ _
      refine r_if_eq (tgt := 34) Mm dX6_isOf_13 (by decide) (fun _ => ?_) (fun c15 => absurd (by decide) c15)
      refine r_iconst (v := nI 0) Mm dX6_isOf_34 (by decide) ?_
      refine r_zret M dX6_isOf_35 (by decide) ?_
      exact ⟨by rw [show isOfS σ (nI j) p = false from by rw [isOfS, decide_eq_false k6, Bool.false_and, Bool.and_false]]; rfl, rfl⟩
  · refine r_callV (As := [(.int q)]) Mm dX6_isOf_2 rfl (cm_isShow hfl h m (eM σ) q hM.1 (by omega) g2) (hM.1) rfl cw_X6_121 ⟨Nat.le_of_ble_eq_true rfl, Nat.le_of_ble_eq_true rfl, Nat.le_of_ble_eq_true rfl⟩ (Nat.le_of_ble_eq_true rfl) ⟨Nat.le_of_ble_eq_true rfl, Nat.le_of_ble_eq_true rfl⟩ (fun r16 h17 p18 => ?_) (fun Er16 h17 p18 => False.elim p18)
    obtain ⟨rfl, rfl⟩ := p18
    rw [decide_eq_false k1]
    show V 5 _ [(.int (nI 0))] _ _ _
    refine r_if_eq (tgt := 34) Mm dX6_isOf_5 (by decide) (fun _ => ?_) (fun c19 => absurd (by decide) c19)
    refine r_iconst (v := nI 0) Mm dX6_isOf_34 (by decide) ?_
    refine r_zret M dX6_isOf_35 (by decide) ?_
    exact ⟨by rw [isOfS_no k1]; rfl, rfl⟩
set_option maxRecDepth 100000 in
set_option maxHeartbeats 4000000 in
theorem cm_x {g : Gl} {l : Launch} (hfl : l.stackTraces = false) (h : Hp) (m : Nat) (ad : Nat → Nat) (σ : ST) (rm : RM h m ad σ) (hw : WF σ) (q p f : Int32) : CT g l iX6_x 4 [.ref m, .int q, .int p, .int f] h 0 0 (pMd m ad h σ ["java/lang/IndexOutOfBoundsException", "java/lang/IllegalArgumentException"] (o_x σ q p f)) := by
  have hw0 := hw
  obtain ⟨w1, w2, w3, w4, w5⟩ := hw
  have rm0 := rm
  obtain ⟨hM, ⟨g1, g2, g3⟩, rp, rs, rh, rt⟩ := rm
  refine ct_mk hfl (by decide) (Nat.le_of_ble_eq_true rfl) (by intro v hv; simp only [List.mem_cons, List.not_mem_nil, or_false] at hv; rcases hv with rfl | rfl | rfl | rfl <;> rfl) (fun V X M => ?_)
  have Mm := M.m
  show V 0 [some (.ref m), some (.int q), some (.int p), some (.int f), none] [] _ 0 0
  refine r_aload_n Mm dX6_x_0 rfl ?_
  refine r_iload_n Mm dX6_x_1 rfl ?_
  refine r_iload_n Mm dX6_x_2 rfl ?_
  by_cases k1 : 0 ≤ q ∧ q < nI (eM σ)
  · obtain ⟨j, hj, rfl⟩ := in_ex k1 (by omega)
    have ecj : (nI j).toNatClampNeg = j := nI_clamp (by omega)
    by_cases k2 : hasC (tCast (eS σ j)) p = true
    · obtain ⟨i, hi8, rfl, hci⟩ := hasC_ex k2
      have hi : i < eN σ := (w4 j hj).1 i hci
      have eci : (nI i).toNatClampNeg = i := nI_clamp (by omega)
      refine r_callV (As := [(.int (nI j)), (.int (nI i))]) Mm dX6_x_3 rfl (cm_isOf hfl h m ad σ rm0 hw0 (nI j) (nI i)) (hM.1) rfl cw_X6_162 ⟨Nat.le_of_ble_eq_true rfl, Nat.le_of_ble_eq_true rfl, Nat.le_of_ble_eq_true rfl⟩ (Nat.le_of_ble_eq_true rfl) ⟨Nat.le_of_ble_eq_true rfl, Nat.le_of_ble_eq_true rfl⟩ (fun r3 h4 p5 => ?_) (fun Er3 h4 p5 => False.elim p5)
      obtain ⟨rfl, rfl⟩ := p5
      rw [isOfS_eq hw0 hj, k2]
      show V 6 _ [(.int (nI 1))] _ _ _
      refine r_istore Mm dX6_x_6 (by decide) ?_
      show V 8 [some (.ref m), some (.int (nI j)), some (.int (nI i)), some (.int f), some (.int (nI 1))] _ _ _ _
      refine r_aload_n Mm dX6_x_8 rfl ?_
      refine r_iload Mm dX6_x_9 rfl ?_
      refine r_if_ne (tgt := 18) Mm dX6_x_11 (by decide) (fun _ => ?_) (fun c6 => absurd c6 (by decide))
      refine r_iload_n Mm dX6_x_18 rfl ?_
      by_cases k7 : nI 0 ≤ f ∧ f ≤ nI 1999
      · refine r_callS (As := [(.int f)]) Mm dX6_x_19 rfl (cm_isFrame hfl h f) cw_X6_140 ⟨Nat.le_of_ble_eq_true rfl, Nat.le_of_ble_eq_true rfl, Nat.le_of_ble_eq_true rfl⟩ (Nat.le_of_ble_eq_true rfl) ⟨Nat.le_of_ble_eq_true rfl, Nat.le_of_ble_eq_true rfl⟩ (fun r8 h9 p10 => ?_) (fun Er8 h9 p10 => False.elim p10)
        obtain ⟨rfl, rfl⟩ := p10
        rw [decide_eq_true k7]
        obtain ⟨F, hF, rfl⟩ := in_le k7 (by decide)
        have ecF : (nI F).toNatClampNeg = F := nI_clamp (by omega)
        show V 22 _ [(.int (nI 1)), (.ref m)] _ _ _
        refine r_if_ne (tgt := 29) Mm dX6_x_22 (by decide) (fun _ => ?_) (fun c11 => absurd c11 (by decide))
        refine r_iconst (v := nI 0) Mm dX6_x_29 (by decide) ?_
        refine r_callV (As := [(.int (nI 0))]) Mm dX6_x_30 rfl (cm_isFine hfl h m ad hM (nI 0)) (hM.1) rfl cw_X6_94 ⟨Nat.le_of_ble_eq_true rfl, Nat.le_of_ble_eq_true rfl, Nat.le_of_ble_eq_true rfl⟩ (Nat.le_of_ble_eq_true rfl) ⟨Nat.le_of_ble_eq_true rfl, Nat.le_of_ble_eq_true rfl⟩ (fun r12 h13 p14 => ?_) (fun Er12 h13 p14 => False.elim p14)
        obtain ⟨rfl, rfl⟩ := p14
        rw [show bI (decide (nI 0 = 0)) = nI 1 from by decide]
        obtain ⟨hz, fz, z0, rz, ez⟩ : ∃ z, Fr (MW m ad) h z ∧ xF z 600 m = nI 0 ∧ RM z m ad σ ∧ z = yF h 600 m (nI 0) := ⟨_, Fr.yF (Or.inl rfl), u2_s _ _ _ _, rm0.f0 _, rfl⟩
        rw [← ez]
        clear ez
        have rz0 := rz
        obtain ⟨hMz, ⟨gz1, gz2, gz3⟩, rpz, rsz, rhz, rtz⟩ := rz
        show V 33 _ [(.int (nI 1))] _ _ _
        refine r_if_ne (tgt := 38) Mm dX6_x_33 (by decide) (fun _ => ?_) (fun c15 => absurd c15 (by decide))
        refine r_aload_n Mm dX6_x_38 rfl ?_
        refine r_iload_n Mm dX6_x_39 rfl ?_
        refine r_iload_n Mm dX6_x_40 rfl ?_
        refine r_iload_n Mm dX6_x_41 rfl ?_
        refine r_callV (As := [(.int (nI j)), (.int (nI i)), (.int (nI F))]) Mm dX6_x_42 rfl (cm_goes hfl hz m ad σ rz0 hw0 j i F hj hi8 (by omega)) (hMz.1) rfl cw_X6_165 ⟨Nat.le_of_ble_eq_true rfl, Nat.le_of_ble_eq_true rfl, Nat.le_of_ble_eq_true rfl⟩ (Nat.le_of_ble_eq_true rfl) ⟨Nat.le_of_ble_eq_true rfl, Nat.le_of_ble_eq_true rfl⟩ (fun r16 h17 p18 => ?_) (fun Er16 h17 p18 => False.elim p18)
        obtain ⟨rfl, t2, hq⟩ := p18
        have hMy := hMz.eq t2.1 t2.2.1
        have hqq := hq i (Nat.le_refl _) hci
        show V 45 _ [] _ _ _
        refine r_aload_n Mm dX6_x_45 rfl ?_
        refine r_getR Mm dX6_x_46 fi_X6_71 (hMy.1) rfl (i := 626) rfl ((hMy.2.1 26 8 8 (by decide)).1) ?_
        refine r_iload_n Mm dX6_x_49 rfl ?_
        refine r_ialdN Mm dX6_x_50 ((hMy.2.1 26 8 8 (by decide)).2) (by omega) (by omega) ?_
        refine r_top _ (goQ σ (tCast (eS σ j)) (nI F) (i + 1) i).1.1 (hqq.1) ?_
        refine r_iret M dX6_x_51 ?_
        exact pMd.ask fz z0 rz0 (by simp only [o_x, oSh_ok k1 ecj, oHas_ok k2 eci, oIn_ok k7, ecF]) (t2)
      · refine r_callS (As := [(.int f)]) Mm dX6_x_19 rfl (cm_isFrame hfl h f) cw_X6_140 ⟨Nat.le_of_ble_eq_true rfl, Nat.le_of_ble_eq_true rfl, Nat.le_of_ble_eq_true rfl⟩ (Nat.le_of_ble_eq_true rfl) ⟨Nat.le_of_ble_eq_true rfl, Nat.le_of_ble_eq_true rfl⟩ (fun r19 h20 p21 => ?_) (fun Er19 h20 p21 => False.elim p21)
        obtain ⟨rfl, rfl⟩ := p21
        rw [decide_eq_false k7]
        show V 22 _ [(.int (nI 0)), (.ref m)] _ _ _
        refine r_if_ne (tgt := 29) Mm dX6_x_22 (by decide) (fun c22 => absurd c22 (by decide)) (fun _ => ?_)
        refine r_iconst (v := nI 2) Mm dX6_x_25 (by decide) ?_
        refine r_goto (tgt := 30) Mm dX6_x_26 (by decide) ?_
        refine r_callV (As := [(.int (nI 2))]) Mm dX6_x_30 rfl (cm_isFine hfl h m ad hM (nI 2)) (hM.1) rfl cw_X6_94 ⟨Nat.le_of_ble_eq_true rfl, Nat.le_of_ble_eq_true rfl, Nat.le_of_ble_eq_true rfl⟩ (Nat.le_of_ble_eq_true rfl) ⟨Nat.le_of_ble_eq_true rfl, Nat.le_of_ble_eq_true rfl⟩ (fun r23 h24 p25 => ?_) (fun Er23 h24 p25 => False.elim p25)
        obtain ⟨rfl, rfl⟩ := p25
        rw [show bI (decide (nI 2 = 0)) = nI 0 from by decide]
        show V 33 _ [(.int (nI 0))] _ _ _
        refine r_if_ne (tgt := 38) Mm dX6_x_33 (by decide) (fun c26 => absurd c26 (by decide)) (fun _ => ?_)
        refine r_iconst (v := nI 0) Mm dX6_x_36 (by decide) ?_
        refine r_iret M dX6_x_37 ?_
        exact pMd.thr rm0 "java/lang/IllegalArgumentException" 2 (by simp only [o_x, oSh_ok k1 ecj, oHas_ok k2 eci, oIn_no k7]) (by decide +kernel)
    · refine r_callV (As := [(.int (nI j)), (.int p)]) Mm dX6_x_3 rfl (cm_isOf hfl h m ad σ rm0 hw0 (nI j) p) (hM.1) rfl cw_X6_162 ⟨Nat.le_of_ble_eq_true rfl, Nat.le_of_ble_eq_true rfl, Nat.le_of_ble_eq_true rfl⟩ (Nat.le_of_ble_eq_true rfl) ⟨Nat.le_of_ble_eq_true rfl, Nat.le_of_ble_eq_true rfl⟩ (fun r27 h28 p29 => ?_) (fun Er27 h28 p29 => False.elim p29)
      obtain ⟨rfl, rfl⟩ := p29
      rw [isOfS_eq hw0 hj, Bool.eq_false_iff.mpr k2]
      show V 6 _ [(.int (nI 0))] _ _ _
      refine r_istore Mm dX6_x_6 (by decide) ?_
      show V 8 [some (.ref m), some (.int (nI j)), some (.int p), some (.int f), some (.int (nI 0))] _ _ _ _
      refine r_aload_n Mm dX6_x_8 rfl ?_
      refine r_iload Mm dX6_x_9 rfl ?_
      refine r_if_ne (tgt := 18) Mm dX6_x_11 (by decide) (fun c30 => absurd c30 (by decide)) (fun _ => ?_)
      refine r_iconst (v := nI 1) Mm dX6_x_14 (by decide) ?_
      refine r_goto (tgt := 30) Mm dX6_x_15 (by decide) ?_
      refine r_callV (As := [(.int (nI 1))]) Mm dX6_x_30 rfl (cm_isFine hfl h m ad hM (nI 1)) (hM.1) rfl cw_X6_94 ⟨Nat.le_of_ble_eq_true rfl, Nat.le_of_ble_eq_true rfl, Nat.le_of_ble_eq_true rfl⟩ (Nat.le_of_ble_eq_true rfl) ⟨Nat.le_of_ble_eq_true rfl, Nat.le_of_ble_eq_true rfl⟩ (fun r31 h32 p33 => ?_) (fun Er31 h32 p33 => False.elim p33)
      obtain ⟨rfl, rfl⟩ := p33
      rw [show bI (decide (nI 1 = 0)) = nI 0 from by decide]
      show V 33 _ [(.int (nI 0))] _ _ _
      refine r_if_ne (tgt := 38) Mm dX6_x_33 (by decide) (fun c34 => absurd c34 (by decide)) (fun _ => ?_)
      refine r_iconst (v := nI 0) Mm dX6_x_36 (by decide) ?_
      refine r_iret M dX6_x_37 ?_
      exact pMd.thr rm0 "java/lang/IndexOutOfBoundsException" 1 (by simp only [o_x, oSh_ok k1 ecj, oHas_no k2]) (by decide +kernel)
  · refine r_callV (As := [(.int q), (.int p)]) Mm dX6_x_3 rfl (cm_isOf hfl h m ad σ rm0 hw0 q p) (hM.1) rfl cw_X6_162 ⟨Nat.le_of_ble_eq_true rfl, Nat.le_of_ble_eq_true rfl, Nat.le_of_ble_eq_true rfl⟩ (Nat.le_of_ble_eq_true rfl) ⟨Nat.le_of_ble_eq_true rfl, Nat.le_of_ble_eq_true rfl⟩ (fun r35 h36 p37 => ?_) (fun Er35 h36 p37 => False.elim p37)
    obtain ⟨rfl, rfl⟩ := p37
    rw [isOfS_no k1]
    show V 6 _ [(.int (nI 0))] _ _ _
    refine r_istore Mm dX6_x_6 (by decide) ?_
    show V 8 [some (.ref m), some (.int q), some (.int p), some (.int f), some (.int (nI 0))] _ _ _ _
    refine r_aload_n Mm dX6_x_8 rfl ?_
    refine r_iload Mm dX6_x_9 rfl ?_
    refine r_if_ne (tgt := 18) Mm dX6_x_11 (by decide) (fun c38 => absurd c38 (by decide)) (fun _ => ?_)
    refine r_iconst (v := nI 1) Mm dX6_x_14 (by decide) ?_
    refine r_goto (tgt := 30) Mm dX6_x_15 (by decide) ?_
    refine r_callV (As := [(.int (nI 1))]) Mm dX6_x_30 rfl (cm_isFine hfl h m ad hM (nI 1)) (hM.1) rfl cw_X6_94 ⟨Nat.le_of_ble_eq_true rfl, Nat.le_of_ble_eq_true rfl, Nat.le_of_ble_eq_true rfl⟩ (Nat.le_of_ble_eq_true rfl) ⟨Nat.le_of_ble_eq_true rfl, Nat.le_of_ble_eq_true rfl⟩ (fun r39 h40 p41 => ?_) (fun Er39 h40 p41 => False.elim p41)
    obtain ⟨rfl, rfl⟩ := p41
    rw [show bI (decide (nI 1 = 0)) = nI 0 from by decide]
    show V 33 _ [(.int (nI 0))] _ _ _
    refine r_if_ne (tgt := 38) Mm dX6_x_33 (by decide) (fun c42 => absurd c42 (by decide)) (fun _ => ?_)
    refine r_iconst (v := nI 0) Mm dX6_x_36 (by decide) ?_
    refine r_iret M dX6_x_37 ?_
    exact pMd.thr rm0 "java/lang/IndexOutOfBoundsException" 1 (by simp only [o_x, oSh_no k1]) (by decide +kernel)
set_option maxRecDepth 100000 in
set_option maxHeartbeats 4000000 in
theorem cm_y {g : Gl} {l : Launch} (hfl : l.stackTraces = false) (h : Hp) (m : Nat) (ad : Nat → Nat) (σ : ST) (rm : RM h m ad σ) (hw : WF σ) (q p f : Int32) : CT g l iX6_y 4 [.ref m, .int q, .int p, .int f] h 0 0 (pMd m ad h σ ["java/lang/IndexOutOfBoundsException", "java/lang/IllegalArgumentException"] (o_y σ q p f)) := by
  have hw0 := hw
  obtain ⟨w1, w2, w3, w4, w5⟩ := hw
  have rm0 := rm
  obtain ⟨hM, ⟨g1, g2, g3⟩, rp, rs, rh, rt⟩ := rm
  refine ct_mk hfl (by decide) (Nat.le_of_ble_eq_true rfl) (by intro v hv; simp only [List.mem_cons, List.not_mem_nil, or_false] at hv; rcases hv with rfl | rfl | rfl | rfl <;> rfl) (fun V X M => ?_)
  have Mm := M.m
  show V 0 [some (.ref m), some (.int q), some (.int p), some (.int f), none] [] _ 0 0
  refine r_aload_n Mm dX6_y_0 rfl ?_
  refine r_iload_n Mm dX6_y_1 rfl ?_
  refine r_iload_n Mm dX6_y_2 rfl ?_
  by_cases k1 : 0 ≤ q ∧ q < nI (eM σ)
  · obtain ⟨j, hj, rfl⟩ := in_ex k1 (by omega)
    have ecj : (nI j).toNatClampNeg = j := nI_clamp (by omega)
    by_cases k2 : hasC (tCast (eS σ j)) p = true
    · obtain ⟨i, hi8, rfl, hci⟩ := hasC_ex k2
      have hi : i < eN σ := (w4 j hj).1 i hci
      have eci : (nI i).toNatClampNeg = i := nI_clamp (by omega)
      refine r_callV (As := [(.int (nI j)), (.int (nI i))]) Mm dX6_y_3 rfl (cm_isOf hfl h m ad σ rm0 hw0 (nI j) (nI i)) (hM.1) rfl cw_X6_162 ⟨Nat.le_of_ble_eq_true rfl, Nat.le_of_ble_eq_true rfl, Nat.le_of_ble_eq_true rfl⟩ (Nat.le_of_ble_eq_true rfl) ⟨Nat.le_of_ble_eq_true rfl, Nat.le_of_ble_eq_true rfl⟩ (fun r3 h4 p5 => ?_) (fun Er3 h4 p5 => False.elim p5)
      obtain ⟨rfl, rfl⟩ := p5
      rw [isOfS_eq hw0 hj, k2]
      show V 6 _ [(.int (nI 1))] _ _ _
      refine r_istore Mm dX6_y_6 (by decide) ?_
      show V 8 [some (.ref m), some (.int (nI j)), some (.int (nI i)), some (.int f), some (.int (nI 1))] _ _ _ _
      refine r_aload_n Mm dX6_y_8 rfl ?_
      refine r_iload Mm dX6_y_9 rfl ?_
      refine r_if_ne (tgt := 18) Mm dX6_y_11 (by decide) (fun _ => ?_) (fun c6 => absurd c6 (by decide))
      refine r_iload_n Mm dX6_y_18 rfl ?_
      by_cases k7 : nI 0 ≤ f ∧ f ≤ nI 1999
      · refine r_callS (As := [(.int f)]) Mm dX6_y_19 rfl (cm_isFrame hfl h f) cw_X6_140 ⟨Nat.le_of_ble_eq_true rfl, Nat.le_of_ble_eq_true rfl, Nat.le_of_ble_eq_true rfl⟩ (Nat.le_of_ble_eq_true rfl) ⟨Nat.le_of_ble_eq_true rfl, Nat.le_of_ble_eq_true rfl⟩ (fun r8 h9 p10 => ?_) (fun Er8 h9 p10 => False.elim p10)
        obtain ⟨rfl, rfl⟩ := p10
        rw [decide_eq_true k7]
        obtain ⟨F, hF, rfl⟩ := in_le k7 (by decide)
        have ecF : (nI F).toNatClampNeg = F := nI_clamp (by omega)
        show V 22 _ [(.int (nI 1)), (.ref m)] _ _ _
        refine r_if_ne (tgt := 29) Mm dX6_y_22 (by decide) (fun _ => ?_) (fun c11 => absurd c11 (by decide))
        refine r_iconst (v := nI 0) Mm dX6_y_29 (by decide) ?_
        refine r_callV (As := [(.int (nI 0))]) Mm dX6_y_30 rfl (cm_isFine hfl h m ad hM (nI 0)) (hM.1) rfl cw_X6_94 ⟨Nat.le_of_ble_eq_true rfl, Nat.le_of_ble_eq_true rfl, Nat.le_of_ble_eq_true rfl⟩ (Nat.le_of_ble_eq_true rfl) ⟨Nat.le_of_ble_eq_true rfl, Nat.le_of_ble_eq_true rfl⟩ (fun r12 h13 p14 => ?_) (fun Er12 h13 p14 => False.elim p14)
        obtain ⟨rfl, rfl⟩ := p14
        rw [show bI (decide (nI 0 = 0)) = nI 1 from by decide]
        obtain ⟨hz, fz, z0, rz, ez⟩ : ∃ z, Fr (MW m ad) h z ∧ xF z 600 m = nI 0 ∧ RM z m ad σ ∧ z = yF h 600 m (nI 0) := ⟨_, Fr.yF (Or.inl rfl), u2_s _ _ _ _, rm0.f0 _, rfl⟩
        rw [← ez]
        clear ez
        have rz0 := rz
        obtain ⟨hMz, ⟨gz1, gz2, gz3⟩, rpz, rsz, rhz, rtz⟩ := rz
        show V 33 _ [(.int (nI 1))] _ _ _
        refine r_if_ne (tgt := 38) Mm dX6_y_33 (by decide) (fun _ => ?_) (fun c15 => absurd c15 (by decide))
        refine r_aload_n Mm dX6_y_38 rfl ?_
        refine r_iload_n Mm dX6_y_39 rfl ?_
        refine r_iload_n Mm dX6_y_40 rfl ?_
        refine r_iload_n Mm dX6_y_41 rfl ?_
        refine r_callV (As := [(.int (nI j)), (.int (nI i)), (.int (nI F))]) Mm dX6_y_42 rfl (cm_goes hfl hz m ad σ rz0 hw0 j i F hj hi8 (by omega)) (hMz.1) rfl cw_X6_165 ⟨Nat.le_of_ble_eq_true rfl, Nat.le_of_ble_eq_true rfl, Nat.le_of_ble_eq_true rfl⟩ (Nat.le_of_ble_eq_true rfl) ⟨Nat.le_of_ble_eq_true rfl, Nat.le_of_ble_eq_true rfl⟩ (fun r16 h17 p18 => ?_) (fun Er16 h17 p18 => False.elim p18)
        obtain ⟨rfl, t2, hq⟩ := p18
        have hMy := hMz.eq t2.1 t2.2.1
        have hqq := hq i (Nat.le_refl _) hci
        show V 45 _ [] _ _ _
        refine r_aload_n Mm dX6_y_45 rfl ?_
        refine r_getR Mm dX6_y_46 fi_X6_74 (hMy.1) rfl (i := 627) rfl ((hMy.2.1 27 8 8 (by decide)).1) ?_
        refine r_iload_n Mm dX6_y_49 rfl ?_
        refine r_ialdN Mm dX6_y_50 ((hMy.2.1 27 8 8 (by decide)).2) (by omega) (by omega) ?_
        refine r_top _ (goQ σ (tCast (eS σ j)) (nI F) (i + 1) i).1.2 (hqq.2.1) ?_
        refine r_iret M dX6_y_51 ?_
        exact pMd.ask fz z0 rz0 (by simp only [o_y, oSh_ok k1 ecj, oHas_ok k2 eci, oIn_ok k7, ecF]) (t2)
      · refine r_callS (As := [(.int f)]) Mm dX6_y_19 rfl (cm_isFrame hfl h f) cw_X6_140 ⟨Nat.le_of_ble_eq_true rfl, Nat.le_of_ble_eq_true rfl, Nat.le_of_ble_eq_true rfl⟩ (Nat.le_of_ble_eq_true rfl) ⟨Nat.le_of_ble_eq_true rfl, Nat.le_of_ble_eq_true rfl⟩ (fun r19 h20 p21 => ?_) (fun Er19 h20 p21 => False.elim p21)
        obtain ⟨rfl, rfl⟩ := p21
        rw [decide_eq_false k7]
        show V 22 _ [(.int (nI 0)), (.ref m)] _ _ _
        refine r_if_ne (tgt := 29) Mm dX6_y_22 (by decide) (fun c22 => absurd c22 (by decide)) (fun _ => ?_)
        refine r_iconst (v := nI 2) Mm dX6_y_25 (by decide) ?_
        refine r_goto (tgt := 30) Mm dX6_y_26 (by decide) ?_
        refine r_callV (As := [(.int (nI 2))]) Mm dX6_y_30 rfl (cm_isFine hfl h m ad hM (nI 2)) (hM.1) rfl cw_X6_94 ⟨Nat.le_of_ble_eq_true rfl, Nat.le_of_ble_eq_true rfl, Nat.le_of_ble_eq_true rfl⟩ (Nat.le_of_ble_eq_true rfl) ⟨Nat.le_of_ble_eq_true rfl, Nat.le_of_ble_eq_true rfl⟩ (fun r23 h24 p25 => ?_) (fun Er23 h24 p25 => False.elim p25)
        obtain ⟨rfl, rfl⟩ := p25
        rw [show bI (decide (nI 2 = 0)) = nI 0 from by decide]
        show V 33 _ [(.int (nI 0))] _ _ _
        refine r_if_ne (tgt := 38) Mm dX6_y_33 (by decide) (fun c26 => absurd c26 (by decide)) (fun _ => ?_)
        refine r_iconst (v := nI 0) Mm dX6_y_36 (by decide) ?_
        refine r_iret M dX6_y_37 ?_
        exact pMd.thr rm0 "java/lang/IllegalArgumentException" 2 (by simp only [o_y, oSh_ok k1 ecj, oHas_ok k2 eci, oIn_no k7]) (by decide +kernel)
    · refine r_callV (As := [(.int (nI j)), (.int p)]) Mm dX6_y_3 rfl (cm_isOf hfl h m ad σ rm0 hw0 (nI j) p) (hM.1) rfl cw_X6_162 ⟨Nat.le_of_ble_eq_true rfl, Nat.le_of_ble_eq_true rfl, Nat.le_of_ble_eq_true rfl⟩ (Nat.le_of_ble_eq_true rfl) ⟨Nat.le_of_ble_eq_true rfl, Nat.le_of_ble_eq_true rfl⟩ (fun r27 h28 p29 => ?_) (fun Er27 h28 p29 => False.elim p29)
      obtain ⟨rfl, rfl⟩ := p29
      rw [isOfS_eq hw0 hj, Bool.eq_false_iff.mpr k2]
      show V 6 _ [(.int (nI 0))] _ _ _
      refine r_istore Mm dX6_y_6 (by decide) ?_
      show V 8 [some (.ref m), some (.int (nI j)), some (.int p), some (.int f), some (.int (nI 0))] _ _ _ _
      refine r_aload_n Mm dX6_y_8 rfl ?_
      refine r_iload Mm dX6_y_9 rfl ?_
      refine r_if_ne (tgt := 18) Mm dX6_y_11 (by decide) (fun c30 => absurd c30 (by decide)) (fun _ => ?_)
      refine r_iconst (v := nI 1) Mm dX6_y_14 (by decide) ?_
      refine r_goto (tgt := 30) Mm dX6_y_15 (by decide) ?_
      refine r_callV (As := [(.int (nI 1))]) Mm dX6_y_30 rfl (cm_isFine hfl h m ad hM (nI 1)) (hM.1) rfl cw_X6_94 ⟨Nat.le_of_ble_eq_true rfl, Nat.le_of_ble_eq_true rfl, Nat.le_of_ble_eq_true rfl⟩ (Nat.le_of_ble_eq_true rfl) ⟨Nat.le_of_ble_eq_true rfl, Nat.le_of_ble_eq_true rfl⟩ (fun r31 h32 p33 => ?_) (fun Er31 h32 p33 => False.elim p33)
      obtain ⟨rfl, rfl⟩ := p33
      rw [show bI (decide (nI 1 = 0)) = nI 0 from by decide]
      show V 33 _ [(.int (nI 0))] _ _ _
      refine r_if_ne (tgt := 38) Mm dX6_y_33 (by decide) (fun c34 => absurd c34 (by decide)) (fun _ => ?_)
      refine r_iconst (v := nI 0) Mm dX6_y_36 (by decide) ?_
      refine r_iret M dX6_y_37 ?_
      exact pMd.thr rm0 "java/lang/IndexOutOfBoundsException" 1 (by simp only [o_y, oSh_ok k1 ecj, oHas_no k2]) (by decide +kernel)
  · refine r_callV (As := [(.int q), (.int p)]) Mm dX6_y_3 rfl (cm_isOf hfl h m ad σ rm0 hw0 q p) (hM.1) rfl cw_X6_162 ⟨Nat.le_of_ble_eq_true rfl, Nat.le_of_ble_eq_true rfl, Nat.le_of_ble_eq_true rfl⟩ (Nat.le_of_ble_eq_true rfl) ⟨Nat.le_of_ble_eq_true rfl, Nat.le_of_ble_eq_true rfl⟩ (fun r35 h36 p37 => ?_) (fun Er35 h36 p37 => False.elim p37)
    obtain ⟨rfl, rfl⟩ := p37
    rw [isOfS_no k1]
    show V 6 _ [(.int (nI 0))] _ _ _
    refine r_istore Mm dX6_y_6 (by decide) ?_
    show V 8 [some (.ref m), some (.int q), some (.int p), some (.int f), some (.int (nI 0))] _ _ _ _
    refine r_aload_n Mm dX6_y_8 rfl ?_
    refine r_iload Mm dX6_y_9 rfl ?_
    refine r_if_ne (tgt := 18) Mm dX6_y_11 (by decide) (fun c38 => absurd c38 (by decide)) (fun _ => ?_)
    refine r_iconst (v := nI 1) Mm dX6_y_14 (by decide) ?_
    refine r_goto (tgt := 30) Mm dX6_y_15 (by decide) ?_
    refine r_callV (As := [(.int (nI 1))]) Mm dX6_y_30 rfl (cm_isFine hfl h m ad hM (nI 1)) (hM.1) rfl cw_X6_94 ⟨Nat.le_of_ble_eq_true rfl, Nat.le_of_ble_eq_true rfl, Nat.le_of_ble_eq_true rfl⟩ (Nat.le_of_ble_eq_true rfl) ⟨Nat.le_of_ble_eq_true rfl, Nat.le_of_ble_eq_true rfl⟩ (fun r39 h40 p41 => ?_) (fun Er39 h40 p41 => False.elim p41)
    obtain ⟨rfl, rfl⟩ := p41
    rw [show bI (decide (nI 1 = 0)) = nI 0 from by decide]
    show V 33 _ [(.int (nI 0))] _ _ _
    refine r_if_ne (tgt := 38) Mm dX6_y_33 (by decide) (fun c42 => absurd c42 (by decide)) (fun _ => ?_)
    refine r_iconst (v := nI 0) Mm dX6_y_36 (by decide) ?_
    refine r_iret M dX6_y_37 ?_
    exact pMd.thr rm0 "java/lang/IndexOutOfBoundsException" 1 (by simp only [o_y, oSh_no k1]) (by decide +kernel)
set_option maxRecDepth 100000 in
set_option maxHeartbeats 4000000 in
theorem cm_bent {g : Gl} {l : Launch} (hfl : l.stackTraces = false) (h : Hp) (m : Nat) (ad : Nat → Nat) (σ : ST) (rm : RM h m ad σ) (hw : WF σ) (q p f t : Int32) : CT g l iX6_bent 4 [.ref m, .int q, .int p, .int f, .int t] h 0 0 (pMd m ad h σ ["java/lang/IndexOutOfBoundsException", "java/lang/IllegalArgumentException"] (o_bent σ q p f t)) := by
  have hw0 := hw
  obtain ⟨w1, w2, w3, w4, w5⟩ := hw
  have rm0 := rm
  obtain ⟨hM, ⟨g1, g2, g3⟩, rp, rs, rh, rt⟩ := rm
  refine ct_mk hfl (by decide) (Nat.le_of_ble_eq_true rfl) (by intro v hv; simp only [List.mem_cons, List.not_mem_nil, or_false] at hv; rcases hv with rfl | rfl | rfl | rfl | rfl <;> rfl) (fun V X M => ?_)
  have Mm := M.m
  show V 0 [some (.ref m), some (.int q), some (.int p), some (.int f), some (.int t), none, none, none] [] _ 0 0
  refine r_aload_n Mm dX6_bent_0 rfl ?_
  refine r_iload_n Mm dX6_bent_1 rfl ?_
  refine r_iload_n Mm dX6_bent_2 rfl ?_
  by_cases k1 : 0 ≤ q ∧ q < nI (eM σ)
  · obtain ⟨j, hj, rfl⟩ := in_ex k1 (by omega)
    have ecj : (nI j).toNatClampNeg = j := nI_clamp (by omega)
    by_cases k2 : hasC (tCast (eS σ j)) p = true
    · obtain ⟨i, hi8, rfl, hci⟩ := hasC_ex k2
      have hi : i < eN σ := (w4 j hj).1 i hci
      have eci : (nI i).toNatClampNeg = i := nI_clamp (by omega)
      refine r_callV (As := [(.int (nI j)), (.int (nI i))]) Mm dX6_bent_3 rfl (cm_isOf hfl h m ad σ rm0 hw0 (nI j) (nI i)) (hM.1) rfl cw_X6_162 ⟨Nat.le_of_ble_eq_true rfl, Nat.le_of_ble_eq_true rfl, Nat.le_of_ble_eq_true rfl⟩ (Nat.le_of_ble_eq_true rfl) ⟨Nat.le_of_ble_eq_true rfl, Nat.le_of_ble_eq_true rfl⟩ (fun r3 h4 p5 => ?_) (fun Er3 h4 p5 => False.elim p5)
      obtain ⟨rfl, rfl⟩ := p5
      rw [isOfS_eq hw0 hj, k2]
      show V 6 _ [(.int (nI 1))] _ _ _
      refine r_istore Mm dX6_bent_6 (by decide) ?_
      show V 8 [some (.ref m), some (.int (nI j)), some (.int (nI i)), some (.int f), some (.int t), some (.int (nI 1)), none, none] _ _ _ _
      refine r_aload_n Mm dX6_bent_8 rfl ?_
      refine r_iload Mm dX6_bent_9 rfl ?_
      refine r_if_ne (tgt := 18) Mm dX6_bent_11 (by decide) (fun _ => ?_) (fun c6 => absurd c6 (by decide))
      refine r_iload_n Mm dX6_bent_18 rfl ?_
      by_cases k7 : nI 0 ≤ f ∧ f ≤ nI 1999
      · refine r_callS (As := [(.int f)]) Mm dX6_bent_19 rfl (cm_isFrame hfl h f) cw_X6_140 ⟨Nat.le_of_ble_eq_true rfl, Nat.le_of_ble_eq_true rfl, Nat.le_of_ble_eq_true rfl⟩ (Nat.le_of_ble_eq_true rfl) ⟨Nat.le_of_ble_eq_true rfl, Nat.le_of_ble_eq_true rfl⟩ (fun r8 h9 p10 => ?_) (fun Er8 h9 p10 => False.elim p10)
        obtain ⟨rfl, rfl⟩ := p10
        rw [decide_eq_true k7]
        obtain ⟨F, hF, rfl⟩ := in_le k7 (by decide)
        have ecF : (nI F).toNatClampNeg = F := nI_clamp (by omega)
        show V 22 _ [(.int (nI 1)), (.ref m)] _ _ _
        refine r_if_eq (tgt := 33) Mm dX6_bent_22 (by decide) (fun c11 => absurd c11 (by decide)) (fun _ => ?_)
        refine r_iload Mm dX6_bent_25 rfl ?_
        by_cases k12 : nI 0 ≤ t ∧ t ≤ nI 1999
        · refine r_callS (As := [(.int t)]) Mm dX6_bent_27 rfl (cm_isFrame hfl h t) cw_X6_140 ⟨Nat.le_of_ble_eq_true rfl, Nat.le_of_ble_eq_true rfl, Nat.le_of_ble_eq_true rfl⟩ (Nat.le_of_ble_eq_true rfl) ⟨Nat.le_of_ble_eq_true rfl, Nat.le_of_ble_eq_true rfl⟩ (fun r13 h14 p15 => ?_) (fun Er13 h14 p15 => False.elim p15)
          obtain ⟨rfl, rfl⟩ := p15
          rw [decide_eq_true k12]
          obtain ⟨T, hT, rfl⟩ := in_le k12 (by decide)
          have ecT : (nI T).toNatClampNeg = T := nI_clamp (by omega)
          show V 30 _ [(.int (nI 1)), (.ref m)] _ _ _
          refine r_if_ne (tgt := 37) Mm dX6_bent_30 (by decide) (fun _ => ?_) (fun c16 => absurd c16 (by decide))
          refine r_iconst (v := nI 0) Mm dX6_bent_37 (by decide) ?_
          refine r_callV (As := [(.int (nI 0))]) Mm dX6_bent_38 rfl (cm_isFine hfl h m ad hM (nI 0)) (hM.1) rfl cw_X6_94 ⟨Nat.le_of_ble_eq_true rfl, Nat.le_of_ble_eq_true rfl, Nat.le_of_ble_eq_true rfl⟩ (Nat.le_of_ble_eq_true rfl) ⟨Nat.le_of_ble_eq_true rfl, Nat.le_of_ble_eq_true rfl⟩ (fun r17 h18 p19 => ?_) (fun Er17 h18 p19 => False.elim p19)
          obtain ⟨rfl, rfl⟩ := p19
          rw [show bI (decide (nI 0 = 0)) = nI 1 from by decide]
          obtain ⟨hz, fz, z0, rz, ez⟩ : ∃ z, Fr (MW m ad) h z ∧ xF z 600 m = nI 0 ∧ RM z m ad σ ∧ z = yF h 600 m (nI 0) := ⟨_, Fr.yF (Or.inl rfl), u2_s _ _ _ _, rm0.f0 _, rfl⟩
          rw [← ez]
          clear ez
          have rz0 := rz
          obtain ⟨hMz, ⟨gz1, gz2, gz3⟩, rpz, rsz, rhz, rtz⟩ := rz
          show V 41 _ [(.int (nI 1))] _ _ _
          refine r_if_ne (tgt := 46) Mm dX6_bent_41 (by decide) (fun _ => ?_) (fun c20 => absurd c20 (by decide))
          refine r_iconst (v := nI 0) Mm dX6_bent_46 (by decide) ?_
          refine r_istore Mm dX6_bent_47 (by decide) ?_
          show V 49 [some (.ref m), some (.int (nI j)), some (.int (nI i)), some (.int (nI F)), some (.int (nI T)), some (.int (nI 1)), some (.int (nI 0)), none] _ _ _ _
          refine r_iload_n Mm dX6_bent_49 rfl ?_
          refine r_istore Mm dX6_bent_50 (by decide) ?_
          show V 52 [some (.ref m), some (.int (nI j)), some (.int (nI i)), some (.int (nI F)), some (.int (nI T)), some (.int (nI 1)), some (.int (nI 0)), some (.int (nI F))] _ _ _ _
          have loop : ∀ (u : Nat) (h1 : Hp) (k : Nat), T + 1 - F - k < u → (k ≤ T + 1 - F) → (Mt m ad hz h1) → V 52 [some (.ref m), some (.int (nI j)), some (.int (nI i)), some (.int (nI F)), some (.int (nI T)), some (.int (nI 1)), some (.int (nI (cntR (fun k => (goQ σ (tCast (eS σ j)) (nI k) (i + 1) i).2) F k))), some (.int (nI (F + k)))] [] h1 0 0 := by
            intro u
            induction u with
            | zero => intro h1 k hm; exact absurd hm (Nat.not_lt_zero _)
            | succ u ih =>
              intro h1 k hm hk ht
              have ry := rz0.mt ht
              have hMy := ry.1
              refine r_iload Mm dX6_bent_52 rfl ?_
              refine r_iload Mm dX6_bent_54 rfl ?_
              refine r_icmp_gtN (tgt := 92) Mm dX6_bent_56 (by decide) (by omega) (by omega) (fun c21 => ?_) (fun c21 => ?_)
              · refine r_iload Mm dX6_bent_92 rfl ?_
                refine r_iret M dX6_bent_94 ?_
                obtain rfl : k = T + 1 - F := by omega
                exact pMd.ask fz z0 rz0 (by simp only [o_bent, oSh_ok k1 ecj, oHas_ok k2 eci, oIn_ok k7, ecF, oIn_ok k12, ecT]) ht
              · refine r_aload_n Mm dX6_bent_59 rfl ?_
                refine r_iload_n Mm dX6_bent_60 rfl ?_
                refine r_iload_n Mm dX6_bent_61 rfl ?_
                refine r_iload Mm dX6_bent_62 rfl ?_
                refine r_callV (As := [(.int (nI j)), (.int (nI i)), (.int (nI (F + k)))]) Mm dX6_bent_64 rfl (cm_goes hfl h1 m ad σ ry hw0 j i (F + k) hj hi8 (by omega)) (hMy.1) rfl cw_X6_165 ⟨Nat.le_of_ble_eq_true rfl, Nat.le_of_ble_eq_true rfl, Nat.le_of_ble_eq_true rfl⟩ (Nat.le_of_ble_eq_true rfl) ⟨Nat.le_of_ble_eq_true rfl, Nat.le_of_ble_eq_true rfl⟩ (fun r22 h23 p24 => ?_) (fun Er22 h23 p24 => False.elim p24)
                obtain ⟨rfl, t2, hq⟩ := p24
                have hMx := hMy.eq t2.1 t2.2.1
                have hqq := hq i (Nat.le_refl _) hci
                show V 67 _ [] _ _ _
                refine r_iload Mm dX6_bent_67 rfl ?_
                refine r_aload_n Mm dX6_bent_69 rfl ?_
                refine r_getR Mm dX6_bent_70 fi_X6_77 (hMx.1) rfl (i := 628) rfl ((hMx.2.1 28 9 8 (by decide)).1) ?_
                refine r_iload_n Mm dX6_bent_73 rfl ?_
                refine r_zaldN Mm dX6_bent_74 ((hMx.2.1 28 9 8 (by decide)).2) (by omega) (by omega) ?_
                refine r_top _ (bI ((goQ σ (tCast (eS σ j)) (nI (F + k)) (i + 1) i).2)) (hqq.2.2) ?_
                refine r_if_eqB (tgt := 82) Mm dX6_bent_75 (by decide) (fun c25 => ?_) (fun c25 => ?_)
                · refine r_iconst (v := nI 0) Mm dX6_bent_82 (by decide) ?_
                  refine r_iaddN Mm dX6_bent_83 ?_
                  refine r_istore Mm dX6_bent_84 (by decide) ?_
                  show V 86 [some (.ref m), some (.int (nI j)), some (.int (nI i)), some (.int (nI F)), some (.int (nI T)), some (.int (nI 1)), some (.int (nI ((cntR (fun k => (goQ σ (tCast (eS σ j)) (nI k) (i + 1) i).2) F k) + 0))), some (.int (nI (F + k)))] _ _ _ _
                  refine r_iincN (k := 1) Mm dX6_bent_86 rfl (by decide) (by decide) ?_
                  show V 89 [some (.ref m), some (.int (nI j)), some (.int (nI i)), some (.int (nI F)), some (.int (nI T)), some (.int (nI 1)), some (.int (nI ((cntR (fun k => (goQ σ (tCast (eS σ j)) (nI k) (i + 1) i).2) F k) + 0))), some (.int (nI (F + k + 1)))] _ _ _ _
                  refine r_goto (tgt := 52) Mm dX6_bent_89 (by decide) ?_
                  have e9 : cntR (fun k => (goQ σ (tCast (eS σ j)) (nI k) (i + 1) i).2) F (k + 1) = cntR (fun k => (goQ σ (tCast (eS σ j)) (nI k) (i + 1) i).2) F k + 0 := by rw [cntR, if_neg (by rw [c25]; exact Bool.noConfusion)]
                  have l9 := ih _ (k + 1) (by omega) (by omega) (Mt.tr ht t2)
                  rw [e9] at l9
                  exact l9
                · refine r_iconst (v := nI 1) Mm dX6_bent_78 (by decide) ?_
                  refine r_goto (tgt := 83) Mm dX6_bent_79 (by decide) ?_
                  refine r_iaddN Mm dX6_bent_83 ?_
                  refine r_istore Mm dX6_bent_84 (by decide) ?_
                  show V 86 [some (.ref m), some (.int (nI j)), some (.int (nI i)), some (.int (nI F)), some (.int (nI T)), some (.int (nI 1)), some (.int (nI ((cntR (fun k => (goQ σ (tCast (eS σ j)) (nI k) (i + 1) i).2) F k) + 1))), some (.int (nI (F + k)))] _ _ _ _
                  refine r_iincN (k := 1) Mm dX6_bent_86 rfl (by decide) (by decide) ?_
                  show V 89 [some (.ref m), some (.int (nI j)), some (.int (nI i)), some (.int (nI F)), some (.int (nI T)), some (.int (nI 1)), some (.int (nI ((cntR (fun k => (goQ σ (tCast (eS σ j)) (nI k) (i + 1) i).2) F k) + 1))), some (.int (nI (F + k + 1)))] _ _ _ _
                  refine r_goto (tgt := 52) Mm dX6_bent_89 (by decide) ?_
                  have e9 : cntR (fun k => (goQ σ (tCast (eS σ j)) (nI k) (i + 1) i).2) F (k + 1) = cntR (fun k => (goQ σ (tCast (eS σ j)) (nI k) (i + 1) i).2) F k + 1 := by rw [cntR, if_pos c25]
                  have l9 := ih _ (k + 1) (by omega) (by omega) (Mt.tr ht t2)
                  rw [e9] at l9
                  exact l9
          exact loop (T + 2) _ 0 (by omega) (Nat.zero_le _) Mt.rf
        · refine r_callS (As := [(.int t)]) Mm dX6_bent_27 rfl (cm_isFrame hfl h t) cw_X6_140 ⟨Nat.le_of_ble_eq_true rfl, Nat.le_of_ble_eq_true rfl, Nat.le_of_ble_eq_true rfl⟩ (Nat.le_of_ble_eq_true rfl) ⟨Nat.le_of_ble_eq_true rfl, Nat.le_of_ble_eq_true rfl⟩ (fun r26 h27 p28 => ?_) (fun Er26 h27 p28 => False.elim p28)
          obtain ⟨rfl, rfl⟩ := p28
          rw [decide_eq_false k12]
          show V 30 _ [(.int (nI 0)), (.ref m)] _ _ _
          refine r_if_ne (tgt := 37) Mm dX6_bent_30 (by decide) (fun c29 => absurd c29 (by decide)) (fun _ => ?_)
          refine r_iconst (v := nI 2) Mm dX6_bent_33 (by decide) ?_
          refine r_goto (tgt := 38) Mm dX6_bent_34 (by decide) ?_
          refine r_callV (As := [(.int (nI 2))]) Mm dX6_bent_38 rfl (cm_isFine hfl h m ad hM (nI 2)) (hM.1) rfl cw_X6_94 ⟨Nat.le_of_ble_eq_true rfl, Nat.le_of_ble_eq_true rfl, Nat.le_of_ble_eq_true rfl⟩ (Nat.le_of_ble_eq_true rfl) ⟨Nat.le_of_ble_eq_true rfl, Nat.le_of_ble_eq_true rfl⟩ (fun r30 h31 p32 => ?_) (fun Er30 h31 p32 => False.elim p32)
          obtain ⟨rfl, rfl⟩ := p32
          rw [show bI (decide (nI 2 = 0)) = nI 0 from by decide]
          show V 41 _ [(.int (nI 0))] _ _ _
          refine r_if_ne (tgt := 46) Mm dX6_bent_41 (by decide) (fun c33 => absurd c33 (by decide)) (fun _ => ?_)
          refine r_iconst (v := nI 0) Mm dX6_bent_44 (by decide) ?_
          refine r_iret M dX6_bent_45 ?_
          exact pMd.thr rm0 "java/lang/IllegalArgumentException" 2 (by simp only [o_bent, oSh_ok k1 ecj, oHas_ok k2 eci, oIn_ok k7, ecF, oIn_no k12]) (by decide +kernel)
      · refine r_callS (As := [(.int f)]) Mm dX6_bent_19 rfl (cm_isFrame hfl h f) cw_X6_140 ⟨Nat.le_of_ble_eq_true rfl, Nat.le_of_ble_eq_true rfl, Nat.le_of_ble_eq_true rfl⟩ (Nat.le_of_ble_eq_true rfl) ⟨Nat.le_of_ble_eq_true rfl, Nat.le_of_ble_eq_true rfl⟩ (fun r34 h35 p36 => ?_) (fun Er34 h35 p36 => False.elim p36)
        obtain ⟨rfl, rfl⟩ := p36
        rw [decide_eq_false k7]
        show V 22 _ [(.int (nI 0)), (.ref m)] _ _ _
        refine r_if_eq (tgt := 33) Mm dX6_bent_22 (by decide) (fun _ => ?_) (fun c37 => absurd (by decide) c37)
        refine r_iconst (v := nI 2) Mm dX6_bent_33 (by decide) ?_
        refine r_goto (tgt := 38) Mm dX6_bent_34 (by decide) ?_
        refine r_callV (As := [(.int (nI 2))]) Mm dX6_bent_38 rfl (cm_isFine hfl h m ad hM (nI 2)) (hM.1) rfl cw_X6_94 ⟨Nat.le_of_ble_eq_true rfl, Nat.le_of_ble_eq_true rfl, Nat.le_of_ble_eq_true rfl⟩ (Nat.le_of_ble_eq_true rfl) ⟨Nat.le_of_ble_eq_true rfl, Nat.le_of_ble_eq_true rfl⟩ (fun r38 h39 p40 => ?_) (fun Er38 h39 p40 => False.elim p40)
        obtain ⟨rfl, rfl⟩ := p40
        rw [show bI (decide (nI 2 = 0)) = nI 0 from by decide]
        show V 41 _ [(.int (nI 0))] _ _ _
        refine r_if_ne (tgt := 46) Mm dX6_bent_41 (by decide) (fun c41 => absurd c41 (by decide)) (fun _ => ?_)
        refine r_iconst (v := nI 0) Mm dX6_bent_44 (by decide) ?_
        refine r_iret M dX6_bent_45 ?_
        exact pMd.thr rm0 "java/lang/IllegalArgumentException" 2 (by simp only [o_bent, oSh_ok k1 ecj, oHas_ok k2 eci, oIn_no k7]) (by decide +kernel)
    · refine r_callV (As := [(.int (nI j)), (.int p)]) Mm dX6_bent_3 rfl (cm_isOf hfl h m ad σ rm0 hw0 (nI j) p) (hM.1) rfl cw_X6_162 ⟨Nat.le_of_ble_eq_true rfl, Nat.le_of_ble_eq_true rfl, Nat.le_of_ble_eq_true rfl⟩ (Nat.le_of_ble_eq_true rfl) ⟨Nat.le_of_ble_eq_true rfl, Nat.le_of_ble_eq_true rfl⟩ (fun r42 h43 p44 => ?_) (fun Er42 h43 p44 => False.elim p44)
      obtain ⟨rfl, rfl⟩ := p44
      rw [isOfS_eq hw0 hj, Bool.eq_false_iff.mpr k2]
      show V 6 _ [(.int (nI 0))] _ _ _
      refine r_istore Mm dX6_bent_6 (by decide) ?_
      show V 8 [some (.ref m), some (.int (nI j)), some (.int p), some (.int f), some (.int t), some (.int (nI 0)), none, none] _ _ _ _
      refine r_aload_n Mm dX6_bent_8 rfl ?_
      refine r_iload Mm dX6_bent_9 rfl ?_
      refine r_if_ne (tgt := 18) Mm dX6_bent_11 (by decide) (fun c45 => absurd c45 (by decide)) (fun _ => ?_)
      refine r_iconst (v := nI 1) Mm dX6_bent_14 (by decide) ?_
      refine r_goto (tgt := 38) Mm dX6_bent_15 (by decide) ?_
      refine r_callV (As := [(.int (nI 1))]) Mm dX6_bent_38 rfl (cm_isFine hfl h m ad hM (nI 1)) (hM.1) rfl cw_X6_94 ⟨Nat.le_of_ble_eq_true rfl, Nat.le_of_ble_eq_true rfl, Nat.le_of_ble_eq_true rfl⟩ (Nat.le_of_ble_eq_true rfl) ⟨Nat.le_of_ble_eq_true rfl, Nat.le_of_ble_eq_true rfl⟩ (fun r46 h47 p48 => ?_) (fun Er46 h47 p48 => False.elim p48)
      obtain ⟨rfl, rfl⟩ := p48
      rw [show bI (decide (nI 1 = 0)) = nI 0 from by decide]
      show V 41 _ [(.int (nI 0))] _ _ _
      refine r_if_ne (tgt := 46) Mm dX6_bent_41 (by decide) (fun c49 => absurd c49 (by decide)) (fun _ => ?_)
      refine r_iconst (v := nI 0) Mm dX6_bent_44 (by decide) ?_
      refine r_iret M dX6_bent_45 ?_
      exact pMd.thr rm0 "java/lang/IndexOutOfBoundsException" 1 (by simp only [o_bent, oSh_ok k1 ecj, oHas_no k2]) (by decide +kernel)
  · refine r_callV (As := [(.int q), (.int p)]) Mm dX6_bent_3 rfl (cm_isOf hfl h m ad σ rm0 hw0 q p) (hM.1) rfl cw_X6_162 ⟨Nat.le_of_ble_eq_true rfl, Nat.le_of_ble_eq_true rfl, Nat.le_of_ble_eq_true rfl⟩ (Nat.le_of_ble_eq_true rfl) ⟨Nat.le_of_ble_eq_true rfl, Nat.le_of_ble_eq_true rfl⟩ (fun r50 h51 p52 => ?_) (fun Er50 h51 p52 => False.elim p52)
    obtain ⟨rfl, rfl⟩ := p52
    rw [isOfS_no k1]
    show V 6 _ [(.int (nI 0))] _ _ _
    refine r_istore Mm dX6_bent_6 (by decide) ?_
    show V 8 [some (.ref m), some (.int q), some (.int p), some (.int f), some (.int t), some (.int (nI 0)), none, none] _ _ _ _
    refine r_aload_n Mm dX6_bent_8 rfl ?_
    refine r_iload Mm dX6_bent_9 rfl ?_
    refine r_if_ne (tgt := 18) Mm dX6_bent_11 (by decide) (fun c53 => absurd c53 (by decide)) (fun _ => ?_)
    refine r_iconst (v := nI 1) Mm dX6_bent_14 (by decide) ?_
    refine r_goto (tgt := 38) Mm dX6_bent_15 (by decide) ?_
    refine r_callV (As := [(.int (nI 1))]) Mm dX6_bent_38 rfl (cm_isFine hfl h m ad hM (nI 1)) (hM.1) rfl cw_X6_94 ⟨Nat.le_of_ble_eq_true rfl, Nat.le_of_ble_eq_true rfl, Nat.le_of_ble_eq_true rfl⟩ (Nat.le_of_ble_eq_true rfl) ⟨Nat.le_of_ble_eq_true rfl, Nat.le_of_ble_eq_true rfl⟩ (fun r54 h55 p56 => ?_) (fun Er54 h55 p56 => False.elim p56)
    obtain ⟨rfl, rfl⟩ := p56
    rw [show bI (decide (nI 1 = 0)) = nI 0 from by decide]
    show V 41 _ [(.int (nI 0))] _ _ _
    refine r_if_ne (tgt := 46) Mm dX6_bent_41 (by decide) (fun c57 => absurd c57 (by decide)) (fun _ => ?_)
    refine r_iconst (v := nI 0) Mm dX6_bent_44 (by decide) ?_
    refine r_iret M dX6_bent_45 ?_
    exact pMd.thr rm0 "java/lang/IndexOutOfBoundsException" 1 (by simp only [o_bent, oSh_no k1]) (by decide +kernel)
set_option maxRecDepth 100000 in
set_option maxHeartbeats 4000000 in
theorem cm_least {g : Gl} {l : Launch} (hfl : l.stackTraces = false) (h : Hp) (m : Nat) (ad : Nat → Nat) (σ : ST) (rm : RM h m ad σ) (hw : WF σ) (p : Int32) : CT g l iX6_least 3 [.ref m, .int p] h 0 0 (pMd m ad h σ ["java/lang/IndexOutOfBoundsException"] (o_least σ p)) := by
  have hw0 := hw
  obtain ⟨w1, w2, w3, w4, w5⟩ := hw
  have rm0 := rm
  obtain ⟨hM, ⟨g1, g2, g3⟩, rp, rs, rh, rt⟩ := rm
  refine ct_mk hfl (by decide) (Nat.le_of_ble_eq_true rfl) (by intro v hv; simp only [List.mem_cons, List.not_mem_nil, or_false] at hv; rcases hv with rfl | rfl <;> rfl) (fun V X M => ?_)
  have Mm := M.m
  show V 0 [some (.ref m), some (.int p), none, none, none] [] _ 0 0
  refine r_aload_n Mm dX6_least_0 rfl ?_
  refine r_aload_n Mm dX6_least_1 rfl ?_
  refine r_iload_n Mm dX6_least_2 rfl ?_
  by_cases k1 : 0 ≤ p ∧ p < nI (eN σ)
  · refine r_callV (As := [(.int p)]) Mm dX6_least_3 rfl (cm_isPuppet hfl h m (eN σ) p hM.1 (by omega) g1) (hM.1) rfl cw_X6_98 ⟨Nat.le_of_ble_eq_true rfl, Nat.le_of_ble_eq_true rfl, Nat.le_of_ble_eq_true rfl⟩ (Nat.le_of_ble_eq_true rfl) ⟨Nat.le_of_ble_eq_true rfl, Nat.le_of_ble_eq_true rfl⟩ (fun r2 h3 p4 => ?_) (fun Er2 h3 p4 => False.elim p4)
    obtain ⟨rfl, rfl⟩ := p4
    rw [decide_eq_true k1]
    obtain ⟨i, hi, rfl⟩ := in_ex k1 (by omega)
    have eci : (nI i).toNatClampNeg = i := nI_clamp (by omega)
    show V 6 _ [(.int (nI 1)), (.ref m)] _ _ _
    refine r_if_eq (tgt := 13) Mm dX6_least_6 (by decide) (fun c5 => absurd c5 (by decide)) (fun _ => ?_)
    refine r_iconst (v := nI 0) Mm dX6_least_9 (by decide) ?_
    refine r_goto (tgt := 14) Mm dX6_least_10 (by decide) ?_
    refine r_callV (As := [(.int (nI 0))]) Mm dX6_least_14 rfl (cm_isFine hfl h m ad hM (nI 0)) (hM.1) rfl cw_X6_94 ⟨Nat.le_of_ble_eq_true rfl, Nat.le_of_ble_eq_true rfl, Nat.le_of_ble_eq_true rfl⟩ (Nat.le_of_ble_eq_true rfl) ⟨Nat.le_of_ble_eq_true rfl, Nat.le_of_ble_eq_true rfl⟩ (fun r6 h7 p8 => ?_) (fun Er6 h7 p8 => False.elim p8)
    obtain ⟨rfl, rfl⟩ := p8
    rw [show bI (decide (nI 0 = 0)) = nI 1 from by decide]
    obtain ⟨hz, fz, z0, rz, ez⟩ : ∃ z, Fr (MW m ad) h z ∧ xF z 600 m = nI 0 ∧ RM z m ad σ ∧ z = yF h 600 m (nI 0) := ⟨_, Fr.yF (Or.inl rfl), u2_s _ _ _ _, rm0.f0 _, rfl⟩
    rw [← ez]
    clear ez
    have rz0 := rz
    obtain ⟨hMz, ⟨gz1, gz2, gz3⟩, rpz, rsz, rhz, rtz⟩ := rz
    show V 17 _ [(.int (nI 1))] _ _ _
    refine r_if_ne (tgt := 22) Mm dX6_least_17 (by decide) (fun _ => ?_) (fun c9 => absurd c9 (by decide))
    refine r_iconst (v := nI 0) Mm dX6_least_22 (by decide) ?_
    refine r_istore_n Mm dX6_least_23 (by decide) ?_
    show V 24 [some (.ref m), some (.int (nI i)), some (.int (nI 0)), none, none] _ _ _ _
    refine r_iconst (v := nI 0) Mm dX6_least_24 (by decide) ?_
    refine r_istore_n Mm dX6_least_25 (by decide) ?_
    show V 26 [some (.ref m), some (.int (nI i)), some (.int (nI 0)), some (.int (nI 0)), none] _ _ _ _
    have loop : ∀ (u : Nat) (h1 : Hp) (k : Nat) (zz : Option Value), 1000 - k < u → (k ≤ 1000) → (Mt m ad hz h1) → V 26 [some (.ref m), some (.int (nI i)), some (.int (farF (qBar (eP σ i)) (qKeys (eP σ i)) k)), some (.int (nI k)), zz] [] h1 0 0 := by
      intro u
      induction u with
      | zero => intro h1 k zz hm; exact absurd hm (Nat.not_lt_zero _)
      | succ u ih =>
        intro h1 k zz hm hk ht
        have ry := rz0.mt ht
        have hMy := ry.1
        refine r_iload_n Mm dX6_least_26 rfl ?_
        refine r_sipush (v := nI 1000) Mm dX6_least_27 (by decide) ?_
        refine r_icmp_geN (tgt := 78) Mm dX6_least_30 (by decide) (by omega) (by omega) (fun c10 => ?_) (fun c10 => ?_)
        · refine r_iconst (v := nI 0) Mm dX6_least_78 (by decide) ?_
          refine r_istore_n Mm dX6_least_79 (by decide) ?_
          show V 80 [some (.ref m), some (.int (nI i)), some (.int (farF (qBar (eP σ i)) (qKeys (eP σ i)) k)), some (.int (nI 0)), zz] _ _ _ _
          have hk9 : k = 1000 := by omega
          subst hk9
          obtain ⟨n, hn, en⟩ := farF_bd (w3 i hi) 1000
          obtain ⟨Q, hQ, eQ, hQ1, hQ2⟩ := least_spec (n := n) (by omega)
          have eL : leastS (qBar (eP σ i)) (qKeys (eP σ i)) = nI Q := by rw [leastS, en]; exact eQ
          have ht0 := ht
          rw [en]
          have loop : ∀ (v : Nat) (q : Nat), Q - q < v → (q ≤ Q) → V 80 [some (.ref m), some (.int (nI i)), some (.int (nI n)), some (.int (nI q)), zz] [] h1 0 0 := by
            intro v
            induction v with
            | zero => intro q hm; exact absurd hm (Nat.not_lt_zero _)
            | succ v ih =>
              intro q hm hq
              have hqq : q * q ≤ 2048 * 2048 := Nat.mul_le_mul (by omega) (by omega)
              refine r_iload_n Mm dX6_least_80 rfl ?_
              refine r_iload_n Mm dX6_least_81 rfl ?_
              refine r_imulN Mm dX6_least_82 ?_
              refine r_iload_n Mm dX6_least_83 rfl ?_
              refine r_icmp_geN (tgt := 93) Mm dX6_least_84 (by decide) (by omega) (by omega) (fun c11 => ?_) (fun c11 => ?_)
              · refine r_iload_n Mm dX6_least_93 rfl ?_
                refine r_iret M dX6_least_94 ?_
                have hqQ : q = Q := by
                  rcases Nat.lt_or_ge q Q with d | d
                  · have := hQ2 q d; omega
                  · omega
                subst hqQ
                exact pMd.ask fz z0 rz0 (by simp only [o_least, oPu_ok k1 eci, eL]) ht0
              · refine r_iincN (k := 1) Mm dX6_least_87 rfl (by decide) (by decide) ?_
                show V 90 [some (.ref m), some (.int (nI i)), some (.int (nI n)), some (.int (nI (q + 1))), zz] _ _ _ _
                refine r_goto (tgt := 80) Mm dX6_least_90 (by decide) ?_
                have hlt : q < Q := by
                  rcases Nat.lt_or_ge q Q with d | d
                  · exact d
                  · have := Nat.mul_le_mul d d; omega
                exact ih (q + 1) (by omega) (by omega)
          exact loop (Q + 1) 0 (by omega) (Nat.zero_le _)
        · refine r_aload_n Mm dX6_least_33 rfl ?_
          refine r_iload_n Mm dX6_least_34 rfl ?_
          refine r_iload_n Mm dX6_least_35 rfl ?_
          refine r_callV (As := [(.int (nI i)), (.int (nI k))]) Mm dX6_least_36 rfl (cm_finds hfl h1 m ad hMy i (eP σ i) (by omega) (ry.2.2.1 i (by omega)) (w3 i hi) ry.2.2.2.2.2 k (by omega)) (hMy.1) rfl cw_X6_143 ⟨Nat.le_of_ble_eq_true rfl, Nat.le_of_ble_eq_true rfl, Nat.le_of_ble_eq_true rfl⟩ (Nat.le_of_ble_eq_true rfl) ⟨Nat.le_of_ble_eq_true rfl, Nat.le_of_ble_eq_true rfl⟩ (fun r12 h13 p14 => ?_) (fun Er12 h13 p14 => False.elim p14)
          obtain ⟨rfl, ⟨t2, tx⟩, ef⟩ := p14
          have rx := ry.mt t2
          have hMx := rx.1
          show V 39 _ [] _ _ _
          refine r_aload_n Mm dX6_least_39 rfl ?_
          refine r_getI Mm dX6_least_40 fi_X6_134 (hMx.1) rfl (i := 624) rfl ?_
          refine r_top _ (trk (qBar (eP σ i)) (qKeys (eP σ i)) (nI k)).1 (congrArg Prod.fst ef) ?_
          refine r_aload_n Mm dX6_least_43 rfl ?_
          refine r_getR Mm dX6_least_44 fi_X6_7 (hMx.1) rfl (i := 601) rfl ((hMx.2.1 1 8 8 (by decide)).1) ?_
          refine r_iload_n Mm dX6_least_47 rfl ?_
          refine r_ialdN Mm dX6_least_48 ((hMx.2.1 1 8 8 (by decide)).2) (by omega) (by omega) ?_
          refine r_top _ (qBar (eP σ i)) ((rx.2.2.1 i (by omega)).1) ?_
          refine r_isub Mm dX6_least_49 ?_
          refine r_aload_n Mm dX6_least_50 rfl ?_
          refine r_getI Mm dX6_least_51 fi_X6_137 (hMx.1) rfl (i := 625) rfl ?_
          refine r_top _ (trk (qBar (eP σ i)) (qKeys (eP σ i)) (nI k)).2 (congrArg Prod.snd ef) ?_
          refine r_callS (As := [(.int ((trk (qBar (eP σ i)) (qKeys (eP σ i)) (nI k)).1 - (qBar (eP σ i)))), (.int (trk (qBar (eP σ i)) (qKeys (eP σ i)) (nI k)).2)]) Mm dX6_least_54 rfl (cm_far hfl h13 ((trk (qBar (eP σ i)) (qKeys (eP σ i)) (nI k)).1 - (qBar (eP σ i))) (trk (qBar (eP σ i)) (qKeys (eP σ i)) (nI k)).2) cw_X6_149 ⟨Nat.le_of_ble_eq_true rfl, Nat.le_of_ble_eq_true rfl, Nat.le_of_ble_eq_true rfl⟩ (Nat.le_of_ble_eq_true rfl) ⟨Nat.le_of_ble_eq_true rfl, Nat.le_of_ble_eq_true rfl⟩ (fun r15 h16 p17 => ?_) (fun Er15 h16 p17 => False.elim p17)
          obtain ⟨rfl, rfl⟩ := p17
          show V 57 _ [(.int (sq2 ((trk (qBar (eP σ i)) (qKeys (eP σ i)) (nI k)).1 - (qBar (eP σ i))) (trk (qBar (eP σ i)) (qKeys (eP σ i)) (nI k)).2))] _ _ _
          refine r_istore Mm dX6_least_57 (by decide) ?_
          show V 59 [some (.ref m), some (.int (nI i)), some (.int (farF (qBar (eP σ i)) (qKeys (eP σ i)) k)), some (.int (nI k)), some (.int (sq2 ((trk (qBar (eP σ i)) (qKeys (eP σ i)) (nI k)).1 - (qBar (eP σ i))) (trk (qBar (eP σ i)) (qKeys (eP σ i)) (nI k)).2))] _ _ _ _
          refine r_iload Mm dX6_least_59 rfl ?_
          refine r_iload_n Mm dX6_least_61 rfl ?_
          refine r_icmp_le (tgt := 70) Mm dX6_least_62 (by decide) (fun c18 => ?_) (fun c18 => ?_)
          · refine r_iload_n Mm dX6_least_70 rfl ?_
            refine r_istore_n Mm dX6_least_71 (by decide) ?_
            show V 72 [some (.ref m), some (.int (nI i)), some (.int (farF (qBar (eP σ i)) (qKeys (eP σ i)) k)), some (.int (nI k)), some (.int (sq2 ((trk (qBar (eP σ i)) (qKeys (eP σ i)) (nI k)).1 - (qBar (eP σ i))) (trk (qBar (eP σ i)) (qKeys (eP σ i)) (nI k)).2))] _ _ _ _
            refine r_iincN (k := 1) Mm dX6_least_72 rfl (by decide) (by decide) ?_
            show V 75 [some (.ref m), some (.int (nI i)), some (.int (farF (qBar (eP σ i)) (qKeys (eP σ i)) k)), some (.int (nI (k + 1))), some (.int (sq2 ((trk (qBar (eP σ i)) (qKeys (eP σ i)) (nI k)).1 - (qBar (eP σ i))) (trk (qBar (eP σ i)) (qKeys (eP σ i)) (nI k)).2))] _ _ _ _
            refine r_goto (tgt := 26) Mm dX6_least_75 (by decide) ?_
            have e9 : (farF (qBar (eP σ i)) (qKeys (eP σ i)) (k + 1)) = _ := if_neg (Int32.not_lt.mpr c18)
            have l9 := ih _ (k + 1) (some (.int (sq2 ((trk (qBar (eP σ i)) (qKeys (eP σ i)) (nI k)).1 - (qBar (eP σ i))) (trk (qBar (eP σ i)) (qKeys (eP σ i)) (nI k)).2))) (by omega) (by omega) (Mt.tr ht t2)
            rw [e9] at l9
            exact l9
          · refine r_iload Mm dX6_least_65 rfl ?_
            refine r_goto (tgt := 71) Mm dX6_least_67 (by decide) ?_
            refine r_istore_n Mm dX6_least_71 (by decide) ?_
            show V 72 [some (.ref m), some (.int (nI i)), some (.int (sq2 ((trk (qBar (eP σ i)) (qKeys (eP σ i)) (nI k)).1 - (qBar (eP σ i))) (trk (qBar (eP σ i)) (qKeys (eP σ i)) (nI k)).2)), some (.int (nI k)), some (.int (sq2 ((trk (qBar (eP σ i)) (qKeys (eP σ i)) (nI k)).1 - (qBar (eP σ i))) (trk (qBar (eP σ i)) (qKeys (eP σ i)) (nI k)).2))] _ _ _ _
            refine r_iincN (k := 1) Mm dX6_least_72 rfl (by decide) (by decide) ?_
            show V 75 [some (.ref m), some (.int (nI i)), some (.int (sq2 ((trk (qBar (eP σ i)) (qKeys (eP σ i)) (nI k)).1 - (qBar (eP σ i))) (trk (qBar (eP σ i)) (qKeys (eP σ i)) (nI k)).2)), some (.int (nI (k + 1))), some (.int (sq2 ((trk (qBar (eP σ i)) (qKeys (eP σ i)) (nI k)).1 - (qBar (eP σ i))) (trk (qBar (eP σ i)) (qKeys (eP σ i)) (nI k)).2))] _ _ _ _
            refine r_goto (tgt := 26) Mm dX6_least_75 (by decide) ?_
            have e9 : (farF (qBar (eP σ i)) (qKeys (eP σ i)) (k + 1)) = _ := if_pos (Int32.not_le.mp c18)
            have l9 := ih _ (k + 1) (some (.int (sq2 ((trk (qBar (eP σ i)) (qKeys (eP σ i)) (nI k)).1 - (qBar (eP σ i))) (trk (qBar (eP σ i)) (qKeys (eP σ i)) (nI k)).2))) (by omega) (by omega) (Mt.tr ht t2)
            rw [e9] at l9
            exact l9
    exact loop (1001) _ 0 none (by omega) (Nat.zero_le _) Mt.rf
  · refine r_callV (As := [(.int p)]) Mm dX6_least_3 rfl (cm_isPuppet hfl h m (eN σ) p hM.1 (by omega) g1) (hM.1) rfl cw_X6_98 ⟨Nat.le_of_ble_eq_true rfl, Nat.le_of_ble_eq_true rfl, Nat.le_of_ble_eq_true rfl⟩ (Nat.le_of_ble_eq_true rfl) ⟨Nat.le_of_ble_eq_true rfl, Nat.le_of_ble_eq_true rfl⟩ (fun r19 h20 p21 => ?_) (fun Er19 h20 p21 => False.elim p21)
    obtain ⟨rfl, rfl⟩ := p21
    rw [decide_eq_false k1]
    show V 6 _ [(.int (nI 0)), (.ref m)] _ _ _
    refine r_if_eq (tgt := 13) Mm dX6_least_6 (by decide) (fun _ => ?_) (fun c22 => absurd (by decide) c22)
    refine r_iconst (v := nI 1) Mm dX6_least_13 (by decide) ?_
    refine r_callV (As := [(.int (nI 1))]) Mm dX6_least_14 rfl (cm_isFine hfl h m ad hM (nI 1)) (hM.1) rfl cw_X6_94 ⟨Nat.le_of_ble_eq_true rfl, Nat.le_of_ble_eq_true rfl, Nat.le_of_ble_eq_true rfl⟩ (Nat.le_of_ble_eq_true rfl) ⟨Nat.le_of_ble_eq_true rfl, Nat.le_of_ble_eq_true rfl⟩ (fun r23 h24 p25 => ?_) (fun Er23 h24 p25 => False.elim p25)
    obtain ⟨rfl, rfl⟩ := p25
    rw [show bI (decide (nI 1 = 0)) = nI 0 from by decide]
    show V 17 _ [(.int (nI 0))] _ _ _
    refine r_if_ne (tgt := 22) Mm dX6_least_17 (by decide) (fun c26 => absurd c26 (by decide)) (fun _ => ?_)
    refine r_iconst (v := nI 0) Mm dX6_least_20 (by decide) ?_
    refine r_iret M dX6_least_21 ?_
    exact pMd.thr rm0 "java/lang/IndexOutOfBoundsException" 1 (by simp only [o_least, oPu_no k1]) (by decide +kernel)
set_option maxRecDepth 100000 in
set_option maxHeartbeats 4000000 in
theorem cm_isBusy {g : Gl} {l : Launch} (hfl : l.stackTraces = false) (h : Hp) (m : Nat) (ad : Nat → Nat) (σ : ST) (rm : RM h m ad σ) (hw : WF σ) (p t : Int32) : CT g l iX6_isBusy 3 [.ref m, .int p, .int t] h 0 0 (pMd m ad h σ ["java/lang/IndexOutOfBoundsException", "java/lang/IllegalArgumentException"] (o_isBusy σ p t)) := by
  have hw0 := hw
  obtain ⟨w1, w2, w3, w4, w5⟩ := hw
  have rm0 := rm
  obtain ⟨hM, ⟨g1, g2, g3⟩, rp, rs, rh, rt⟩ := rm
  refine ct_mk hfl (by decide) (Nat.le_of_ble_eq_true rfl) (by intro v hv; simp only [List.mem_cons, List.not_mem_nil, or_false] at hv; rcases hv with rfl | rfl | rfl <;> rfl) (fun V X M => ?_)
  have Mm := M.m
  show V 0 [some (.ref m), some (.int p), some (.int t), none] [] _ 0 0
  refine r_aload_n Mm dX6_isBusy_0 rfl ?_
  refine r_iload_n Mm dX6_isBusy_1 rfl ?_
  by_cases k1 : 0 ≤ p ∧ p < nI (eN σ)
  · refine r_callV (As := [(.int p)]) Mm dX6_isBusy_2 rfl (cm_isPuppet hfl h m (eN σ) p hM.1 (by omega) g1) (hM.1) rfl cw_X6_98 ⟨Nat.le_of_ble_eq_true rfl, Nat.le_of_ble_eq_true rfl, Nat.le_of_ble_eq_true rfl⟩ (Nat.le_of_ble_eq_true rfl) ⟨Nat.le_of_ble_eq_true rfl, Nat.le_of_ble_eq_true rfl⟩ (fun r2 h3 p4 => ?_) (fun Er2 h3 p4 => False.elim p4)
    obtain ⟨rfl, rfl⟩ := p4
    rw [decide_eq_true k1]
    obtain ⟨i, hi, rfl⟩ := in_ex k1 (by omega)
    have eci : (nI i).toNatClampNeg = i := nI_clamp (by omega)
    show V 5 _ [(.int (nI 1))] _ _ _
    refine r_istore_n Mm dX6_isBusy_5 (by decide) ?_
    show V 6 [some (.ref m), some (.int (nI i)), some (.int t), some (.int (nI 1))] _ _ _ _
    refine r_aload_n Mm dX6_isBusy_6 rfl ?_
    refine r_iload_n Mm dX6_isBusy_7 rfl ?_
    refine r_if_ne (tgt := 15) Mm dX6_isBusy_8 (by decide) (fun _ => ?_) (fun c5 => absurd c5 (by decide))
    refine r_iload_n Mm dX6_isBusy_15 rfl ?_
    refine r_iconst (v := nI 0) Mm dX6_isBusy_16 (by decide) ?_
    refine r_ldc (v := nI 200000) Mm dX6_isBusy_17 (by rw [show nI 200000 = 200000 from rfl]; exact cc_X6_169) ?_
    by_cases k6 : (nI 0) ≤ t ∧ t ≤ (nI 200000)
    · refine r_callS (As := [(.int t), (.int (nI 0)), (.int (nI 200000))]) Mm dX6_isBusy_19 rfl (cm_isIn hfl h t (nI 0) (nI 200000)) cw_X6_87 ⟨Nat.le_of_ble_eq_true rfl, Nat.le_of_ble_eq_true rfl, Nat.le_of_ble_eq_true rfl⟩ (Nat.le_of_ble_eq_true rfl) ⟨Nat.le_of_ble_eq_true rfl, Nat.le_of_ble_eq_true rfl⟩ (fun r7 h8 p9 => ?_) (fun Er7 h8 p9 => False.elim p9)
      obtain ⟨rfl, rfl⟩ := p9
      rw [decide_eq_true k6]
      show V 22 _ [(.int (nI 1)), (.ref m)] _ _ _
      refine r_if_ne (tgt := 29) Mm dX6_isBusy_22 (by decide) (fun _ => ?_) (fun c10 => absurd c10 (by decide))
      refine r_iconst (v := nI 0) Mm dX6_isBusy_29 (by decide) ?_
      refine r_callV (As := [(.int (nI 0))]) Mm dX6_isBusy_30 rfl (cm_isFine hfl h m ad hM (nI 0)) (hM.1) rfl cw_X6_94 ⟨Nat.le_of_ble_eq_true rfl, Nat.le_of_ble_eq_true rfl, Nat.le_of_ble_eq_true rfl⟩ (Nat.le_of_ble_eq_true rfl) ⟨Nat.le_of_ble_eq_true rfl, Nat.le_of_ble_eq_true rfl⟩ (fun r11 h12 p13 => ?_) (fun Er11 h12 p13 => False.elim p13)
      obtain ⟨rfl, rfl⟩ := p13
      rw [show bI (decide (nI 0 = 0)) = nI 1 from by decide]
      obtain ⟨hz, fz, z0, rz, ez⟩ : ∃ z, Fr (MW m ad) h z ∧ xF z 600 m = nI 0 ∧ RM z m ad σ ∧ z = yF h 600 m (nI 0) := ⟨_, Fr.yF (Or.inl rfl), u2_s _ _ _ _, rm0.f0 _, rfl⟩
      rw [← ez]
      clear ez
      have rz0 := rz
      obtain ⟨hMz, ⟨gz1, gz2, gz3⟩, rpz, rsz, rhz, rtz⟩ := rz
      show V 33 _ [(.int (nI 1))] _ _ _
      refine r_if_eq (tgt := 50) Mm dX6_isBusy_33 (by decide) (fun c14 => absurd c14 (by decide)) (fun _ => ?_)
      refine r_aload_n Mm dX6_isBusy_36 rfl ?_
      refine r_iload_n Mm dX6_isBusy_37 rfl ?_
      refine r_iload_n Mm dX6_isBusy_38 rfl ?_
      refine r_iconst (v := nI 1) Mm dX6_isBusy_39 (by decide) ?_
      refine r_callV (As := [(.int (nI i)), (.int t), (.int (nI 1))]) Mm dX6_isBusy_40 rfl (cm_busy hfl hz m ad hMz i (eP σ i) (by omega) (rpz i (by omega)) (w3 i hi).2.2.2.2.2.2.2 (eS σ) (eM σ) w2 rsz gz2 t (nI 1)) (hMz.1) rfl cw_X6_124 ⟨Nat.le_of_ble_eq_true rfl, Nat.le_of_ble_eq_true rfl, Nat.le_of_ble_eq_true rfl⟩ (Nat.le_of_ble_eq_true rfl) ⟨Nat.le_of_ble_eq_true rfl, Nat.le_of_ble_eq_true rfl⟩ (fun r15 h16 p17 => ?_) (fun Er15 h16 p17 => False.elim p17)
      obtain ⟨rfl, rfl⟩ := p17
      show V 43 _ [(.int (bI (takenS σ i (t, (nI 1)))))] _ _ _
      refine r_if_eqB (tgt := 50) Mm dX6_isBusy_43 (by decide) (fun c18 => ?_) (fun c18 => ?_)
      · refine r_iconst (v := nI 0) Mm dX6_isBusy_50 (by decide) ?_
        refine r_zret M dX6_isBusy_51 (by decide) ?_
        exact pMd.ask fz z0 rz0 (by simp only [o_isBusy, oPu_ok k1 eci, oIn_ok k6, c18, bI_t, bI_f]) Mt.rf
      · refine r_iconst (v := nI 1) Mm dX6_isBusy_46 (by decide) ?_
        refine r_goto (tgt := 51) Mm dX6_isBusy_47 (by decide) ?_
        refine r_zret M dX6_isBusy_51 (by decide) ?_
        exact pMd.ask fz z0 rz0 (by simp only [o_isBusy, oPu_ok k1 eci, oIn_ok k6, c18, bI_t, bI_f]) Mt.rf
    · refine r_callS (As := [(.int t), (.int (nI 0)), (.int (nI 200000))]) Mm dX6_isBusy_19 rfl (cm_isIn hfl h t (nI 0) (nI 200000)) cw_X6_87 ⟨Nat.le_of_ble_eq_true rfl, Nat.le_of_ble_eq_true rfl, Nat.le_of_ble_eq_true rfl⟩ (Nat.le_of_ble_eq_true rfl) ⟨Nat.le_of_ble_eq_true rfl, Nat.le_of_ble_eq_true rfl⟩ (fun r19 h20 p21 => ?_) (fun Er19 h20 p21 => False.elim p21)
      obtain ⟨rfl, rfl⟩ := p21
      rw [decide_eq_false k6]
      show V 22 _ [(.int (nI 0)), (.ref m)] _ _ _
      refine r_if_ne (tgt := 29) Mm dX6_isBusy_22 (by decide) (fun c22 => absurd c22 (by decide)) (fun _ => ?_)
      refine r_iconst (v := nI 2) Mm dX6_isBusy_25 (by decide) ?_
      refine r_goto (tgt := 30) Mm dX6_isBusy_26 (by decide) ?_
      refine r_callV (As := [(.int (nI 2))]) Mm dX6_isBusy_30 rfl (cm_isFine hfl h m ad hM (nI 2)) (hM.1) rfl cw_X6_94 ⟨Nat.le_of_ble_eq_true rfl, Nat.le_of_ble_eq_true rfl, Nat.le_of_ble_eq_true rfl⟩ (Nat.le_of_ble_eq_true rfl) ⟨Nat.le_of_ble_eq_true rfl, Nat.le_of_ble_eq_true rfl⟩ (fun r23 h24 p25 => ?_) (fun Er23 h24 p25 => False.elim p25)
      obtain ⟨rfl, rfl⟩ := p25
      rw [show bI (decide (nI 2 = 0)) = nI 0 from by decide]
      show V 33 _ [(.int (nI 0))] _ _ _
      refine r_if_eq (tgt := 50) Mm dX6_isBusy_33 (by decide) (fun _ => ?_) (fun c26 => absurd (by decide) c26)
      refine r_iconst (v := nI 0) Mm dX6_isBusy_50 (by decide) ?_
      refine r_zret M dX6_isBusy_51 (by decide) ?_
      exact pMd.thr rm0 "java/lang/IllegalArgumentException" 2 (by simp only [o_isBusy, oPu_ok k1 eci, oIn_no k6]) (by decide +kernel)
  · refine r_callV (As := [(.int p)]) Mm dX6_isBusy_2 rfl (cm_isPuppet hfl h m (eN σ) p hM.1 (by omega) g1) (hM.1) rfl cw_X6_98 ⟨Nat.le_of_ble_eq_true rfl, Nat.le_of_ble_eq_true rfl, Nat.le_of_ble_eq_true rfl⟩ (Nat.le_of_ble_eq_true rfl) ⟨Nat.le_of_ble_eq_true rfl, Nat.le_of_ble_eq_true rfl⟩ (fun r27 h28 p29 => ?_) (fun Er27 h28 p29 => False.elim p29)
    obtain ⟨rfl, rfl⟩ := p29
    rw [decide_eq_false k1]
    show V 5 _ [(.int (nI 0))] _ _ _
    refine r_istore_n Mm dX6_isBusy_5 (by decide) ?_
    show V 6 [some (.ref m), some (.int p), some (.int t), some (.int (nI 0))] _ _ _ _
    refine r_aload_n Mm dX6_isBusy_6 rfl ?_
    refine r_iload_n Mm dX6_isBusy_7 rfl ?_
    refine r_if_ne (tgt := 15) Mm dX6_isBusy_8 (by decide) (fun c30 => absurd c30 (by decide)) (fun _ => ?_)
    refine r_iconst (v := nI 1) Mm dX6_isBusy_11 (by decide) ?_
    refine r_goto (tgt := 30) Mm dX6_isBusy_12 (by decide) ?_
    refine r_callV (As := [(.int (nI 1))]) Mm dX6_isBusy_30 rfl (cm_isFine hfl h m ad hM (nI 1)) (hM.1) rfl cw_X6_94 ⟨Nat.le_of_ble_eq_true rfl, Nat.le_of_ble_eq_true rfl, Nat.le_of_ble_eq_true rfl⟩ (Nat.le_of_ble_eq_true rfl) ⟨Nat.le_of_ble_eq_true rfl, Nat.le_of_ble_eq_true rfl⟩ (fun r31 h32 p33 => ?_) (fun Er31 h32 p33 => False.elim p33)
    obtain ⟨rfl, rfl⟩ := p33
    rw [show bI (decide (nI 1 = 0)) = nI 0 from by decide]
    show V 33 _ [(.int (nI 0))] _ _ _
    refine r_if_eq (tgt := 50) Mm dX6_isBusy_33 (by decide) (fun _ => ?_) (fun c34 => absurd (by decide) c34)
    refine r_iconst (v := nI 0) Mm dX6_isBusy_50 (by decide) ?_
    refine r_zret M dX6_isBusy_51 (by decide) ?_
    exact pMd.thr rm0 "java/lang/IndexOutOfBoundsException" 1 (by simp only [o_isBusy, oPu_no k1]) (by decide +kernel)
