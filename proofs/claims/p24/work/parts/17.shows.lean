/-! ===== the calls about shows ===== -/
theorem or_no {a b : Bool} (ha : a = false) (hb : b = false) : ¬ (a = true ∨ b = true) := by subst ha; subst hb; decide
theorem or_noP {p : Prop} {b : Bool} (ha : ¬ p) (hb : b = false) : ¬ (p ∨ b = true) := fun z => z.elim ha (fun w => by rw [hb] at w; cases w)
theorem cnt_out {c : Nat → Bool} {i n : Nat} {v : Bool} (h : n ≤ i) : cnt (upt c i v) n = cnt c n := by
  induction n with
  | zero => rfl
  | succ n ih => rw [cnt, cnt, ih (by omega), upt_n _ _ (by omega)]
theorem cnt_set {c : Nat → Bool} {i n : Nat} (h : i < n) (hc : c i = false) : cnt (upt c i true) n = cnt c n + 1 := by
  induction n with
  | zero => omega
  | succ n ih =>
    rw [cnt, cnt]
    by_cases e : i = n
    · subst e
      rw [cnt_out (Nat.le_refl _), upt_s, hc]; rfl
    · rw [ih (by omega), upt_n _ _ (fun z => e z.symm)]; omega
theorem cnt_clr {c : Nat → Bool} {i n : Nat} (h : i < n) (hc : c i = true) : cnt (upt c i false) n = cnt c n - 1 ∧ 1 ≤ cnt c n := by
  induction n with
  | zero => omega
  | succ n ih =>
    rw [cnt, cnt]
    by_cases e : i = n
    · subst e
      rw [cnt_out (Nat.le_refl _), upt_s, hc]; refine ⟨?_, ?_⟩ <;> simp
    · obtain ⟨i1, i2⟩ := ih (by omega)
      rw [i1, upt_n _ _ (fun z => e z.symm)]; omega
theorem cnt_le (c : Nat → Bool) (n : Nat) : cnt c n ≤ n := by
  induction n with
  | zero => exact Nat.le_refl _
  | succ n ih => rw [cnt]; split <;> omega
theorem ShowAt.flag {ow : Nat → Nat} {h : Hp} {j s A i : Nat} {S : SS} {b : Bool} {w : Int32} (hsa : ShowAt ow h j s S) (hA : xP h 301 s = some A) (hm : w = nI (cnt (upt (tCast S) i b) 8)) : ShowAt ow (yF (yA h A i (bI b)) 302 s w) j s (S.1, upt (tCast S) i b, S.2.2) := by
  obtain ⟨sp, A', t1, t2, t3, t4, t5, t6, t7, t8, t9, t10, t11, t12, t13, t14⟩ := hsa
  rw [hA] at t6; cases t6
  refine ⟨sp, A, t1, t2, t3, t4, t5, hA, t7, fun q => ?_, (u2_s _ _ _ _).trans hm, t10, t11, t12, t13, t14⟩
  show xA (yF (yA h A i (bI b)) 302 s w) A q = bI (upt (tCast S) i b q)
  rw [zxA_yF, zxA_yA, upt]
  by_cases c : q = i
  · rw [if_pos ⟨rfl, c⟩, if_pos c]
  · rw [if_neg (fun z => c z.2), if_neg c]; exact t8 q
theorem Kp.show {ow : Nat → Nat} {h h' : Hp} {j s A : Nat} (f : Fr (fun b => b = s ∨ b = A) h h') (t13 : ow s = 10000 + 8 * j) (t14 : ow A = 10001 + 8 * j) : Kp (fun t => ¬ (10000 + 8 * j ≤ t ∧ t < 10008 + 8 * j)) ow ow h h' := Kp.of f (fun _ _ _ => rfl) (fun b z hz ht e => ht (by rcases e with rfl | rfl <;> omega))
def o_cast (σ : ST) (q p : Int32) : OR := oSh σ q (fun j => oPu σ p (fun i => if tDone (eS σ j) = true ∨ tCast (eS σ j) i = true then .inl "java/lang/IllegalStateException" else if 50 ≤ qWorn (eP σ i) ∨ takenS σ i (tSpan (eS σ j)) = true then .inl "java/lang/IllegalStateException" else .inr (nI (cnt (upt (tCast (eS σ j)) i true) 8), wS σ j ((eS σ j).1, upt (tCast (eS σ j)) i true, (eS σ j).2.2))))
set_option maxRecDepth 100000 in
set_option maxHeartbeats 4000000 in
theorem ct_o_cast {g : Gl} {l : Launch} (hfl : l.stackTraces = false) (h : Hp) (x pL sL ha : Nat) (ow : Nat → Nat) (ps ss : List Nat) (σ : ST) (r : RC (gN g 2) ow h x pL sL ha ps ss σ) (hw : WF σ) (q p : Int32) : CT g l iX5_cast 8 [.ref x, .int q, .int p] h 1 6 (pOp (gN g 2) ow h x pL sL ha σ (o_cast σ q p)) := by
  have r0 := r
  obtain ⟨⟨a1, a2, a3, a4, a5⟩, ⟨b1, b2, b3, b4⟩, zp, zs, ⟨d1, d2⟩, ⟨e1, e2, e3, e4, e5, e6⟩, f1⟩ := r
  have hl1 := b1.2.2.1
  have hl2 := b2.2.2.1
  obtain ⟨w1, w2, w3, w4, w5⟩ := hw
  refine ct_mk hfl (by decide) (Nat.le_of_ble_eq_true rfl) (by intro v hv; simp only [List.mem_cons, List.not_mem_nil, or_false] at hv; rcases hv with rfl | rfl | rfl <;> rfl) (fun V X M => ?_)
  have Mm := M.m
  show V 0 [some (.ref x), some (.int q), some (.int p), none, none] [] _ 0 0
  refine r_aload_n Mm dX5_cast_0 rfl ?_
  refine r_iload_n Mm dX5_cast_1 rfl ?_
  by_cases k1 : 0 ≤ q ∧ q < nI (eM σ)
  · obtain ⟨j, hj, rfl⟩ := in_ex k1 (by omega)
    have ecj : (nI j).toNatClampNeg = j := nI_clamp (by omega)
    obtain ⟨s, has⟩ : ∃ v, ss[j]? = some v := ⟨_, List.getElem?_eq_getElem (by omega)⟩
    have hsa := zs _ _ has
    obtain ⟨sp, A, t1, t2, t3, t4, t5, t6, t7, t8, t9, t10, t11, t12, t13, t14⟩ := hsa
    have hok2 := w4 j hj
    have hl50 : tLeft (eS σ j) ≤ 50 := hok2.2
    refine r_callV (As := [(.int (nI j))]) Mm dX5_cast_2 rfl (ct_showOk hfl h x pL sL ha ow ps ss σ r0 j s has) (a1) rfl cw_X5_110 ⟨Nat.le_of_ble_eq_true rfl, Nat.le_of_ble_eq_true rfl, Nat.le_of_ble_eq_true rfl⟩ (Nat.le_of_ble_eq_true rfl) ⟨Nat.le_of_ble_eq_true rfl, Nat.le_of_ble_eq_true rfl⟩ (fun r2 h3 p4 => ?_) (fun Er2 h3 p4 => False.elim p4)
    obtain ⟨rfl, rfl⟩ := p4
    show V 5 _ [(.ref s)] _ _ _
    refine r_astore_n Mm dX5_cast_5 (by decide) ?_
    show V 6 [some (.ref x), some (.int (nI j)), some (.int p), some (.ref s), none] _ _ _ _
    refine r_aload_n Mm dX5_cast_6 rfl ?_
    refine r_iload_n Mm dX5_cast_7 rfl ?_
    by_cases k5 : 0 ≤ p ∧ p < nI (eN σ)
    · obtain ⟨i, hi, rfl⟩ := in_ex k5 (by omega)
      have eci : (nI i).toNatClampNeg = i := nI_clamp (by omega)
      obtain ⟨a, haa⟩ : ∃ v, ps[i]? = some v := ⟨_, List.getElem?_eq_getElem (by omega)⟩
      have hpa := zp _ _ haa
      obtain ⟨ka, ma, pl, xs, ms, hP, f0, f1b, f2, f3, f4, f5, ⟨o1, o2, o3, o4⟩, g1, g2, o5, o6⟩ := hpa
      have hok := w3 i hi
      have hlk : xs.length = (qKeys (eP σ i)).length := by rw [← f2, ksOf_len]
      have hlm : ms.length = (qMend (eP σ i)).length := by rw [← f5, List.length_map]
      have hk12 := hok.2.2.2.1
      have hw99 := hok.2.2.2.2.2.2.1
      have hm10 := hok.2.2.2.2.2.2.2
      refine r_callV (As := [(.int (nI i))]) Mm dX5_cast_8 rfl (ct_pupOk hfl h x pL sL ha ow ps ss σ r0 i a haa) (a1) rfl cw_X5_57 ⟨Nat.le_of_ble_eq_true rfl, Nat.le_of_ble_eq_true rfl, Nat.le_of_ble_eq_true rfl⟩ (Nat.le_of_ble_eq_true rfl) ⟨Nat.le_of_ble_eq_true rfl, Nat.le_of_ble_eq_true rfl⟩ (fun r6 h7 p8 => ?_) (fun Er6 h7 p8 => False.elim p8)
      obtain ⟨rfl, rfl⟩ := p8
      show V 11 _ [(.ref a)] _ _ _
      refine r_astore Mm dX5_cast_11 (by decide) ?_
      show V 13 [some (.ref x), some (.int (nI j)), some (.int (nI i)), some (.ref s), some (.ref a)] _ _ _ _
      refine r_aload_n Mm dX5_cast_13 rfl ?_
      refine r_getI Mm dX5_cast_14 fi_X5_114 (t1) rfl (i := 305) rfl ?_
      refine r_top _ (bI (tDone (eS σ j))) (t12) ?_
      refine r_if_neB (tgt := 28) Mm dX5_cast_17 (by decide) (fun c9 => ?_) (fun c9 => ?_)
      · refine r_throw M ti_121 dX5_cast_28 dX5_cast_31 dX5_cast_32 dX5_cast_34 dX5_cast_37 (by decide) (Nat.le_of_ble_eq_true rfl) ⟨Nat.le_of_ble_eq_true rfl, Nat.le_of_ble_eq_true rfl⟩ ?_
        exact pOp.thr (by simp only [o_cast, oSh_ok k1 ecj, oPu_ok k5 eci, if_pos (Or.inl c9 : tDone (eS σ j) = true ∨ tCast (eS σ j) i = true)]) (Aft.rf r0)
      · refine r_aload_n Mm dX5_cast_20 rfl ?_
        refine r_iload_n Mm dX5_cast_21 rfl ?_
        refine r_callV (As := [(.int (nI i))]) Mm dX5_cast_22 rfl (ct_hasPuppet hfl h s A (tCast (eS σ j)) t1 t6 t7 t8 (nI i)) (t1) rfl cw_X5_118 ⟨Nat.le_of_ble_eq_true rfl, Nat.le_of_ble_eq_true rfl, Nat.le_of_ble_eq_true rfl⟩ (Nat.le_of_ble_eq_true rfl) ⟨Nat.le_of_ble_eq_true rfl, Nat.le_of_ble_eq_true rfl⟩ (fun r10 h11 p12 => ?_) (fun Er10 h11 p12 => False.elim p12)
        obtain ⟨rfl, rfl⟩ := p12
        rw [hasC_nI8 (c := tCast (eS σ j)) (show i < 8 by omega)]
        show V 25 _ [(.int (bI (tCast (eS σ j) i)))] _ _ _
        refine r_if_eqB (tgt := 38) Mm dX5_cast_25 (by decide) (fun c13 => ?_) (fun c13 => ?_)
        · refine r_aload Mm dX5_cast_38 rfl ?_
          refine r_getI Mm dX5_cast_40 fi_X5_123 (hP.1) rfl (i := 204) rfl ?_
          refine r_top _ (nI (qWorn (eP σ i))) (f4) ?_
          refine r_bipush (v := nI 50) Mm dX5_cast_43 (by decide) ?_
          refine r_icmp_geN (tgt := 62) Mm dX5_cast_45 (by decide) (by omega) (by omega) (fun c14 => ?_) (fun c14 => ?_)
          · refine r_throw M ti_134 dX5_cast_62 dX5_cast_65 dX5_cast_66 dX5_cast_68 dX5_cast_71 (by decide) (Nat.le_of_ble_eq_true rfl) ⟨Nat.le_of_ble_eq_true rfl, Nat.le_of_ble_eq_true rfl⟩ ?_
            exact pOp.thr (by simp only [o_cast, oSh_ok k1 ecj, oPu_ok k5 eci, if_neg (or_no c9 c13 : ¬ (tDone (eS σ j) = true ∨ tCast (eS σ j) i = true)), if_pos (Or.inl c14 : 50 ≤ qWorn (eP σ i) ∨ takenS σ i (tSpan (eS σ j)) = true)]) (Aft.rf r0)
          · refine r_aload_n Mm dX5_cast_48 rfl ?_
            refine r_aload Mm dX5_cast_49 rfl ?_
            refine r_iload_n Mm dX5_cast_51 rfl ?_
            refine r_aload_n Mm dX5_cast_52 rfl ?_
            refine r_getR Mm dX5_cast_53 fi_X5_126 (t1) rfl (i := 300) rfl (t2) ?_
            refine r_callV (As := [(.ref a), (.int (nI i)), (.ref sp)]) Mm dX5_cast_56 rfl (ct_taken hfl h x pL sL ha ow ps ss σ r0 i a sp haa (by omega) t3) (a1) rfl cw_X5_130 ⟨Nat.le_of_ble_eq_true rfl, Nat.le_of_ble_eq_true rfl, Nat.le_of_ble_eq_true rfl⟩ (Nat.le_of_ble_eq_true rfl) ⟨Nat.le_of_ble_eq_true rfl, Nat.le_of_ble_eq_true rfl⟩ (fun r15 h16 p17 => ?_) (fun Er15 h16 p17 => False.elim p17)
            obtain ⟨rfl, rfl⟩ := p17
            rw [t5]
            show V 59 _ [(.int (bI (takenS σ i (tSpan (eS σ j)))))] _ _ _
            refine r_if_eqB (tgt := 72) Mm dX5_cast_59 (by decide) (fun c18 => ?_) (fun c18 => ?_)
            · refine r_aload_n Mm dX5_cast_72 rfl ?_
              refine r_iload_n Mm dX5_cast_73 rfl ?_
              refine r_callV (As := [(.int (nI i))]) Mm dX5_cast_74 rfl (ct_take hfl h s A (tCast (eS σ j)) t1 t6 t7 t8 i (by omega) c13) (t1) rfl cw_X5_136 ⟨Nat.le_of_ble_eq_true rfl, Nat.le_of_ble_eq_true rfl, Nat.le_of_ble_eq_true rfl⟩ (Nat.le_of_ble_eq_true rfl) ⟨Nat.le_of_ble_eq_true rfl, Nat.le_of_ble_eq_true rfl⟩ (fun r19 h20 p21 => ?_) (fun Er19 h20 p21 => False.elim p21)
              obtain ⟨rfl, rfl⟩ := p21
              have ew : xF h 302 s + nI 1 = nI (cnt (upt (tCast (eS σ j)) i true) 8) := by rw [t9, nI_add, cnt_set (show i < 8 by omega) c13]
              rw [ew]
              show V 77 _ [] _ _ _
              refine r_aload_n Mm dX5_cast_77 rfl ?_
              refine r_getI Mm dX5_cast_78 fi_X5_139 (t1) rfl (i := 302) rfl ?_
              refine r_top _ (nI (cnt (upt (tCast (eS σ j)) i true) 8)) (by simp only [zxS_yF, zxF_yF, zxP_yF, zxA_yF, zxB_yF, zxL_yF, zxS_yP, zxF_yP, zxP_yP, zxA_yP, zxB_yP, zxL_yP, zxS_yA, zxF_yA, zxP_yA, zxA_yA, zxB_yA, zxL_yA, zxS_yB, zxF_yB, zxP_yB, zxA_yB, zxB_yB, zxL_yB, zxS_yL, zxF_yL, zxP_yL, zxA_yL, zxB_yL, zxL_yL, zxS_yN, zxF_yN, zxP_yN, zxA_yN, zxB_yN, zxL_yN, Nat.reduceEqDiff, false_and, and_false, true_and, and_true, and_self, ite_false, ite_true, ite_self]) ?_
              refine r_iret M dX5_cast_81 ?_
              exact pOp.ret (by simp only [o_cast, oSh_ok k1 ecj, oPu_ok k5 eci, if_neg (or_no c9 c13 : ¬ (tDone (eS σ j) = true ∨ tCast (eS σ j) i = true)), if_neg (or_noP (Nat.not_le.mpr c14) c18 : ¬ (50 ≤ qWorn (eP σ i) ∨ takenS σ i (tSpan (eS σ j)) = true))]) (Aft.shw r0 (by omega) (Kp.show (Fr.tr (Fr.yA (Or.inr rfl)) (Fr.yF (Or.inl rfl))) t13 t14) has (ShowAt.flag (zs _ _ has) t6 rfl) f1)
            · refine r_throw M ti_134 dX5_cast_62 dX5_cast_65 dX5_cast_66 dX5_cast_68 dX5_cast_71 (by decide) (Nat.le_of_ble_eq_true rfl) ⟨Nat.le_of_ble_eq_true rfl, Nat.le_of_ble_eq_true rfl⟩ ?_
              exact pOp.thr (by simp only [o_cast, oSh_ok k1 ecj, oPu_ok k5 eci, if_neg (or_no c9 c13 : ¬ (tDone (eS σ j) = true ∨ tCast (eS σ j) i = true)), if_pos (Or.inr c18 : 50 ≤ qWorn (eP σ i) ∨ takenS σ i (tSpan (eS σ j)) = true)]) (Aft.rf r0)
        · refine r_throw M ti_121 dX5_cast_28 dX5_cast_31 dX5_cast_32 dX5_cast_34 dX5_cast_37 (by decide) (Nat.le_of_ble_eq_true rfl) ⟨Nat.le_of_ble_eq_true rfl, Nat.le_of_ble_eq_true rfl⟩ ?_
          exact pOp.thr (by simp only [o_cast, oSh_ok k1 ecj, oPu_ok k5 eci, if_pos (Or.inr c13 : tDone (eS σ j) = true ∨ tCast (eS σ j) i = true)]) (Aft.rf r0)
    · refine r_callV (As := [(.int p)]) Mm dX5_cast_8 rfl (ct_pupBad hfl h x pL sL ha ow ps ss σ r0 p (by rw [b3]; exact not_in k5)) (a1) rfl cw_X5_57 ⟨Nat.le_of_ble_eq_true rfl, Nat.le_of_ble_eq_true rfl, Nat.le_of_ble_eq_true rfl⟩ (Nat.le_of_ble_eq_true rfl) ⟨Nat.le_of_ble_eq_true rfl, Nat.le_of_ble_eq_true rfl⟩ (fun r22 h23 p24 => False.elim p24) (fun Er22 h23 p24 => ?_)
      obtain ⟨rfl, rfl⟩ := p24
      refine x_out M ?_
      exact pOp.thr (by simp only [o_cast, oSh_ok k1 ecj, oPu_no k5]) (Aft.rf r0)
  · refine r_callV (As := [(.int q)]) Mm dX5_cast_2 rfl (ct_showBad hfl h x pL sL ha ow ps ss σ r0 q (by rw [b4]; exact not_in k1)) (a1) rfl cw_X5_110 ⟨Nat.le_of_ble_eq_true rfl, Nat.le_of_ble_eq_true rfl, Nat.le_of_ble_eq_true rfl⟩ (Nat.le_of_ble_eq_true rfl) ⟨Nat.le_of_ble_eq_true rfl, Nat.le_of_ble_eq_true rfl⟩ (fun r25 h26 p27 => False.elim p27) (fun Er25 h26 p27 => ?_)
    obtain ⟨rfl, rfl⟩ := p27
    refine x_out M ?_
    exact pOp.thr (by simp only [o_cast, oSh_no k1]) (Aft.rf r0)
def o_leave (σ : ST) (q p : Int32) : OR := oSh σ q (fun j => oPu σ p (fun i => if tDone (eS σ j) = true ∨ tCast (eS σ j) i = false then .inl "java/lang/IllegalStateException" else .inr (nI (cnt (upt (tCast (eS σ j)) i false) 8), wS σ j ((eS σ j).1, upt (tCast (eS σ j)) i false, (eS σ j).2.2))))
set_option maxRecDepth 100000 in
set_option maxHeartbeats 4000000 in
theorem ct_o_leave {g : Gl} {l : Launch} (hfl : l.stackTraces = false) (h : Hp) (x pL sL ha : Nat) (ow : Nat → Nat) (ps ss : List Nat) (σ : ST) (r : RC (gN g 2) ow h x pL sL ha ps ss σ) (hw : WF σ) (q p : Int32) : CT g l iX5_leave 8 [.ref x, .int q, .int p] h 1 6 (pOp (gN g 2) ow h x pL sL ha σ (o_leave σ q p)) := by
  have r0 := r
  obtain ⟨⟨a1, a2, a3, a4, a5⟩, ⟨b1, b2, b3, b4⟩, zp, zs, ⟨d1, d2⟩, ⟨e1, e2, e3, e4, e5, e6⟩, f1⟩ := r
  have hl1 := b1.2.2.1
  have hl2 := b2.2.2.1
  obtain ⟨w1, w2, w3, w4, w5⟩ := hw
  refine ct_mk hfl (by decide) (Nat.le_of_ble_eq_true rfl) (by intro v hv; simp only [List.mem_cons, List.not_mem_nil, or_false] at hv; rcases hv with rfl | rfl | rfl <;> rfl) (fun V X M => ?_)
  have Mm := M.m
  show V 0 [some (.ref x), some (.int q), some (.int p), none] [] _ 0 0
  refine r_aload_n Mm dX5_leave_0 rfl ?_
  refine r_iload_n Mm dX5_leave_1 rfl ?_
  by_cases k1 : 0 ≤ q ∧ q < nI (eM σ)
  · obtain ⟨j, hj, rfl⟩ := in_ex k1 (by omega)
    have ecj : (nI j).toNatClampNeg = j := nI_clamp (by omega)
    obtain ⟨s, has⟩ : ∃ v, ss[j]? = some v := ⟨_, List.getElem?_eq_getElem (by omega)⟩
    have hsa := zs _ _ has
    obtain ⟨sp, A, t1, t2, t3, t4, t5, t6, t7, t8, t9, t10, t11, t12, t13, t14⟩ := hsa
    have hok2 := w4 j hj
    have hl50 : tLeft (eS σ j) ≤ 50 := hok2.2
    refine r_callV (As := [(.int (nI j))]) Mm dX5_leave_2 rfl (ct_showOk hfl h x pL sL ha ow ps ss σ r0 j s has) (a1) rfl cw_X5_110 ⟨Nat.le_of_ble_eq_true rfl, Nat.le_of_ble_eq_true rfl, Nat.le_of_ble_eq_true rfl⟩ (Nat.le_of_ble_eq_true rfl) ⟨Nat.le_of_ble_eq_true rfl, Nat.le_of_ble_eq_true rfl⟩ (fun r2 h3 p4 => ?_) (fun Er2 h3 p4 => False.elim p4)
    obtain ⟨rfl, rfl⟩ := p4
    show V 5 _ [(.ref s)] _ _ _
    refine r_astore_n Mm dX5_leave_5 (by decide) ?_
    show V 6 [some (.ref x), some (.int (nI j)), some (.int p), some (.ref s)] _ _ _ _
    refine r_aload_n Mm dX5_leave_6 rfl ?_
    refine r_iload_n Mm dX5_leave_7 rfl ?_
    by_cases k5 : 0 ≤ p ∧ p < nI (eN σ)
    · obtain ⟨i, hi, rfl⟩ := in_ex k5 (by omega)
      have eci : (nI i).toNatClampNeg = i := nI_clamp (by omega)
      obtain ⟨a, haa⟩ : ∃ v, ps[i]? = some v := ⟨_, List.getElem?_eq_getElem (by omega)⟩
      have hpa := zp _ _ haa
      obtain ⟨ka, ma, pl, xs, ms, hP, f0, f1b, f2, f3, f4, f5, ⟨o1, o2, o3, o4⟩, g1, g2, o5, o6⟩ := hpa
      have hok := w3 i hi
      have hlk : xs.length = (qKeys (eP σ i)).length := by rw [← f2, ksOf_len]
      have hlm : ms.length = (qMend (eP σ i)).length := by rw [← f5, List.length_map]
      have hk12 := hok.2.2.2.1
      have hw99 := hok.2.2.2.2.2.2.1
      have hm10 := hok.2.2.2.2.2.2.2
      refine r_callV (As := [(.int (nI i))]) Mm dX5_leave_8 rfl (ct_pupOk hfl h x pL sL ha ow ps ss σ r0 i a haa) (a1) rfl cw_X5_57 ⟨Nat.le_of_ble_eq_true rfl, Nat.le_of_ble_eq_true rfl, Nat.le_of_ble_eq_true rfl⟩ (Nat.le_of_ble_eq_true rfl) ⟨Nat.le_of_ble_eq_true rfl, Nat.le_of_ble_eq_true rfl⟩ (fun r6 h7 p8 => ?_) (fun Er6 h7 p8 => False.elim p8)
      obtain ⟨rfl, rfl⟩ := p8
      show V 11 _ [(.ref a)] _ _ _
      refine r_pop Mm dX5_leave_11 rfl ?_
      refine r_aload_n Mm dX5_leave_12 rfl ?_
      refine r_getI Mm dX5_leave_13 fi_X5_114 (t1) rfl (i := 305) rfl ?_
      refine r_top _ (bI (tDone (eS σ j))) (t12) ?_
      refine r_if_neB (tgt := 27) Mm dX5_leave_16 (by decide) (fun c9 => ?_) (fun c9 => ?_)
      · refine r_throw M ti_142 dX5_leave_27 dX5_leave_30 dX5_leave_31 dX5_leave_33 dX5_leave_36 (by decide) (Nat.le_of_ble_eq_true rfl) ⟨Nat.le_of_ble_eq_true rfl, Nat.le_of_ble_eq_true rfl⟩ ?_
        exact pOp.thr (by simp only [o_leave, oSh_ok k1 ecj, oPu_ok k5 eci, if_pos (Or.inl c9 : tDone (eS σ j) = true ∨ tCast (eS σ j) i = false)]) (Aft.rf r0)
      · refine r_aload_n Mm dX5_leave_19 rfl ?_
        refine r_iload_n Mm dX5_leave_20 rfl ?_
        refine r_callV (As := [(.int (nI i))]) Mm dX5_leave_21 rfl (ct_hasPuppet hfl h s A (tCast (eS σ j)) t1 t6 t7 t8 (nI i)) (t1) rfl cw_X5_118 ⟨Nat.le_of_ble_eq_true rfl, Nat.le_of_ble_eq_true rfl, Nat.le_of_ble_eq_true rfl⟩ (Nat.le_of_ble_eq_true rfl) ⟨Nat.le_of_ble_eq_true rfl, Nat.le_of_ble_eq_true rfl⟩ (fun r10 h11 p12 => ?_) (fun Er10 h11 p12 => False.elim p12)
        obtain ⟨rfl, rfl⟩ := p12
        rw [hasC_nI8 (c := tCast (eS σ j)) (show i < 8 by omega)]
        show V 24 _ [(.int (bI (tCast (eS σ j) i)))] _ _ _
        refine r_if_neB (tgt := 37) Mm dX5_leave_24 (by decide) (fun c13 => ?_) (fun c13 => ?_)
        · refine r_aload_n Mm dX5_leave_37 rfl ?_
          refine r_iload_n Mm dX5_leave_38 rfl ?_
          refine r_callV (As := [(.int (nI i))]) Mm dX5_leave_39 rfl (ct_release hfl h s A (tCast (eS σ j)) t1 t6 t7 t8 i (by omega) c13) (t1) rfl cw_X5_144 ⟨Nat.le_of_ble_eq_true rfl, Nat.le_of_ble_eq_true rfl, Nat.le_of_ble_eq_true rfl⟩ (Nat.le_of_ble_eq_true rfl) ⟨Nat.le_of_ble_eq_true rfl, Nat.le_of_ble_eq_true rfl⟩ (fun r14 h15 p16 => ?_) (fun Er14 h15 p16 => False.elim p16)
          obtain ⟨rfl, rfl⟩ := p16
          obtain ⟨ec1, ec2⟩ := cnt_clr (show i < 8 by omega) c13
          have ew : xF h 302 s - nI 1 = nI (cnt (upt (tCast (eS σ j)) i false) 8) := by rw [t9, pk_sub ec2, ec1]
          rw [ew]
          show V 42 _ [] _ _ _
          refine r_aload_n Mm dX5_leave_42 rfl ?_
          refine r_getI Mm dX5_leave_43 fi_X5_139 (t1) rfl (i := 302) rfl ?_
          refine r_top _ (nI (cnt (upt (tCast (eS σ j)) i false) 8)) (by simp only [zxS_yF, zxF_yF, zxP_yF, zxA_yF, zxB_yF, zxL_yF, zxS_yP, zxF_yP, zxP_yP, zxA_yP, zxB_yP, zxL_yP, zxS_yA, zxF_yA, zxP_yA, zxA_yA, zxB_yA, zxL_yA, zxS_yB, zxF_yB, zxP_yB, zxA_yB, zxB_yB, zxL_yB, zxS_yL, zxF_yL, zxP_yL, zxA_yL, zxB_yL, zxL_yL, zxS_yN, zxF_yN, zxP_yN, zxA_yN, zxB_yN, zxL_yN, Nat.reduceEqDiff, false_and, and_false, true_and, and_true, and_self, ite_false, ite_true, ite_self]) ?_
          refine r_iret M dX5_leave_46 ?_
          exact pOp.ret (by simp only [o_leave, oSh_ok k1 ecj, oPu_ok k5 eci, if_neg (fun z => z.elim (fun w => by rw [c9] at w; cases w) (fun w => by rw [c13] at w; cases w) : ¬ (tDone (eS σ j) = true ∨ tCast (eS σ j) i = false))]) (Aft.shw r0 (by omega) (Kp.show (Fr.tr (Fr.yA (Or.inr rfl)) (Fr.yF (Or.inl rfl))) t13 t14) has (ShowAt.flag (zs _ _ has) t6 rfl) f1)
        · refine r_throw M ti_142 dX5_leave_27 dX5_leave_30 dX5_leave_31 dX5_leave_33 dX5_leave_36 (by decide) (Nat.le_of_ble_eq_true rfl) ⟨Nat.le_of_ble_eq_true rfl, Nat.le_of_ble_eq_true rfl⟩ ?_
          exact pOp.thr (by simp only [o_leave, oSh_ok k1 ecj, oPu_ok k5 eci, if_pos (Or.inr c13 : tDone (eS σ j) = true ∨ tCast (eS σ j) i = false)]) (Aft.rf r0)
    · refine r_callV (As := [(.int p)]) Mm dX5_leave_8 rfl (ct_pupBad hfl h x pL sL ha ow ps ss σ r0 p (by rw [b3]; exact not_in k5)) (a1) rfl cw_X5_57 ⟨Nat.le_of_ble_eq_true rfl, Nat.le_of_ble_eq_true rfl, Nat.le_of_ble_eq_true rfl⟩ (Nat.le_of_ble_eq_true rfl) ⟨Nat.le_of_ble_eq_true rfl, Nat.le_of_ble_eq_true rfl⟩ (fun r17 h18 p19 => False.elim p19) (fun Er17 h18 p19 => ?_)
      obtain ⟨rfl, rfl⟩ := p19
      refine x_out M ?_
      exact pOp.thr (by simp only [o_leave, oSh_ok k1 ecj, oPu_no k5]) (Aft.rf r0)
  · refine r_callV (As := [(.int q)]) Mm dX5_leave_2 rfl (ct_showBad hfl h x pL sL ha ow ps ss σ r0 q (by rw [b4]; exact not_in k1)) (a1) rfl cw_X5_110 ⟨Nat.le_of_ble_eq_true rfl, Nat.le_of_ble_eq_true rfl, Nat.le_of_ble_eq_true rfl⟩ (Nat.le_of_ble_eq_true rfl) ⟨Nat.le_of_ble_eq_true rfl, Nat.le_of_ble_eq_true rfl⟩ (fun r20 h21 p22 => False.elim p22) (fun Er20 h21 p22 => ?_)
    obtain ⟨rfl, rfl⟩ := p22
    refine x_out M ?_
    exact pOp.thr (by simp only [o_leave, oSh_no k1]) (Aft.rf r0)
theorem ShowAt.sold {ow : Nat → Nat} {h : Hp} {j s n : Nat} {S : SS} {w : Int32} (hsa : ShowAt ow h j s S) : ShowAt ow (yF (yF h 303 s (nI n)) 304 s w) j s (S.1, tCast S, n, w, tDone S) := by
  obtain ⟨sp, A, t1, t2, t3, t4, t5, t6, t7, t8, t9, t10, t11, t12, t13, t14⟩ := hsa
  exact ⟨sp, A, t1, t2, t3, t4, t5, t6, t7, t8, t9, by show xF (yF (yF h 303 s (nI n)) 304 s w) 303 s = nI n; rw [zxF_yF, if_neg (fun z => absurd z.1 (by decide)), zxF_yF, if_pos ⟨rfl, rfl⟩], u2_s _ _ _ _, t12, t13, t14⟩
theorem ShowAt.done {ow : Nat → Nat} {h : Hp} {j s : Nat} {S : SS} (hsa : ShowAt ow h j s S) : ShowAt ow (yF h 305 s (nI 1)) j s (S.1, tCast S, tLeft S, tTak S, true) := by
  obtain ⟨sp, A, t1, t2, t3, t4, t5, t6, t7, t8, t9, t10, t11, t12, t13, t14⟩ := hsa
  exact ⟨sp, A, t1, t2, t3, t4, t5, t6, t7, t8, t9, t10, t11, u2_s _ _ _ _, t13, t14⟩
def o_sell (σ : ST) (q n m : Int32) : OR := oSh σ q (fun j => oIn n (nI 1) (nI 50) (oIn m (nI 0) (nI 100) (if tDone (eS σ j) = true ∨ ¬ n.toNatClampNeg ≤ tLeft (eS σ j) then .inl "java/lang/IllegalStateException" else .inr (nI (tLeft (eS σ j) - n.toNatClampNeg), wS σ j ((eS σ j).1, tCast (eS σ j), tLeft (eS σ j) - n.toNatClampNeg, tTak (eS σ j) + n * m, tDone (eS σ j))))))
set_option maxRecDepth 100000 in
set_option maxHeartbeats 4000000 in
theorem ct_o_sell {g : Gl} {l : Launch} (hfl : l.stackTraces = false) (h : Hp) (x pL sL ha : Nat) (ow : Nat → Nat) (ps ss : List Nat) (σ : ST) (r : RC (gN g 2) ow h x pL sL ha ps ss σ) (hw : WF σ) (q n m : Int32) : CT g l iX5_sell 8 [.ref x, .int q, .int n, .int m] h 1 6 (pOp (gN g 2) ow h x pL sL ha σ (o_sell σ q n m)) := by
  have r0 := r
  obtain ⟨⟨a1, a2, a3, a4, a5⟩, ⟨b1, b2, b3, b4⟩, zp, zs, ⟨d1, d2⟩, ⟨e1, e2, e3, e4, e5, e6⟩, f1⟩ := r
  have hl1 := b1.2.2.1
  have hl2 := b2.2.2.1
  obtain ⟨w1, w2, w3, w4, w5⟩ := hw
  refine ct_mk hfl (by decide) (Nat.le_of_ble_eq_true rfl) (by intro v hv; simp only [List.mem_cons, List.not_mem_nil, or_false] at hv; rcases hv with rfl | rfl | rfl | rfl <;> rfl) (fun V X M => ?_)
  have Mm := M.m
  show V 0 [some (.ref x), some (.int q), some (.int n), some (.int m), none] [] _ 0 0
  refine r_aload_n Mm dX5_sell_0 rfl ?_
  refine r_iload_n Mm dX5_sell_1 rfl ?_
  by_cases k1 : 0 ≤ q ∧ q < nI (eM σ)
  · obtain ⟨j, hj, rfl⟩ := in_ex k1 (by omega)
    have ecj : (nI j).toNatClampNeg = j := nI_clamp (by omega)
    obtain ⟨s, has⟩ : ∃ v, ss[j]? = some v := ⟨_, List.getElem?_eq_getElem (by omega)⟩
    have hsa := zs _ _ has
    obtain ⟨sp, A, t1, t2, t3, t4, t5, t6, t7, t8, t9, t10, t11, t12, t13, t14⟩ := hsa
    have hok2 := w4 j hj
    have hl50 : tLeft (eS σ j) ≤ 50 := hok2.2
    refine r_callV (As := [(.int (nI j))]) Mm dX5_sell_2 rfl (ct_showOk hfl h x pL sL ha ow ps ss σ r0 j s has) (a1) rfl cw_X5_110 ⟨Nat.le_of_ble_eq_true rfl, Nat.le_of_ble_eq_true rfl, Nat.le_of_ble_eq_true rfl⟩ (Nat.le_of_ble_eq_true rfl) ⟨Nat.le_of_ble_eq_true rfl, Nat.le_of_ble_eq_true rfl⟩ (fun r2 h3 p4 => ?_) (fun Er2 h3 p4 => False.elim p4)
    obtain ⟨rfl, rfl⟩ := p4
    show V 5 _ [(.ref s)] _ _ _
    refine r_astore Mm dX5_sell_5 (by decide) ?_
    show V 7 [some (.ref x), some (.int (nI j)), some (.int n), some (.int m), some (.ref s)] _ _ _ _
    refine r_iload_n Mm dX5_sell_7 rfl ?_
    refine r_iconst (v := nI 1) Mm dX5_sell_8 (by decide) ?_
    refine r_bipush (v := nI 50) Mm dX5_sell_9 (by decide) ?_
    by_cases k5 : (nI 1) ≤ n ∧ n ≤ (nI 50)
    · refine r_callS (As := [(.int n), (.int (nI 1)), (.int (nI 50))]) Mm dX5_sell_11 rfl (ct_needOk hfl h n (nI 1) (nI 50) k5.1 k5.2) cw_X5_33 ⟨Nat.le_of_ble_eq_true rfl, Nat.le_of_ble_eq_true rfl, Nat.le_of_ble_eq_true rfl⟩ (Nat.le_of_ble_eq_true rfl) ⟨Nat.le_of_ble_eq_true rfl, Nat.le_of_ble_eq_true rfl⟩ (fun r6 h7 p8 => ?_) (fun Er6 h7 p8 => False.elim p8)
      obtain ⟨rfl, rfl⟩ := p8
      show V 14 _ [] _ _ _
      obtain ⟨K, hK, rfl⟩ := in_le ⟨Int32.le_trans (by decide) k5.1, k5.2⟩ (by decide)
      have ecK : (nI K).toNatClampNeg = K := nI_clamp (by omega)
      refine r_iload_n Mm dX5_sell_14 rfl ?_
      refine r_iconst (v := nI 0) Mm dX5_sell_15 (by decide) ?_
      refine r_bipush (v := nI 100) Mm dX5_sell_16 (by decide) ?_
      by_cases k9 : (nI 0) ≤ m ∧ m ≤ (nI 100)
      · refine r_callS (As := [(.int m), (.int (nI 0)), (.int (nI 100))]) Mm dX5_sell_18 rfl (ct_needOk hfl h m (nI 0) (nI 100) k9.1 k9.2) cw_X5_33 ⟨Nat.le_of_ble_eq_true rfl, Nat.le_of_ble_eq_true rfl, Nat.le_of_ble_eq_true rfl⟩ (Nat.le_of_ble_eq_true rfl) ⟨Nat.le_of_ble_eq_true rfl, Nat.le_of_ble_eq_true rfl⟩ (fun r10 h11 p12 => ?_) (fun Er10 h11 p12 => False.elim p12)
        obtain ⟨rfl, rfl⟩ := p12
        show V 21 _ [] _ _ _
        refine r_aload Mm dX5_sell_21 rfl ?_
        refine r_getI Mm dX5_sell_23 fi_X5_114 (t1) rfl (i := 305) rfl ?_
        refine r_top _ (bI (tDone (eS σ j))) (t12) ?_
        refine r_if_neB (tgt := 38) Mm dX5_sell_26 (by decide) (fun c13 => ?_) (fun c13 => ?_)
        · refine r_throw M ti_150 dX5_sell_38 dX5_sell_41 dX5_sell_42 dX5_sell_44 dX5_sell_47 (by decide) (Nat.le_of_ble_eq_true rfl) ⟨Nat.le_of_ble_eq_true rfl, Nat.le_of_ble_eq_true rfl⟩ ?_
          exact pOp.thr (by simp only [o_sell, oSh_ok k1 ecj, oIn_ok k5, ecK, oIn_ok k9, if_pos (Or.inl c13 : tDone (eS σ j) = true ∨ ¬ K ≤ tLeft (eS σ j))]) (Aft.rf r0)
        · refine r_iload_n Mm dX5_sell_29 rfl ?_
          refine r_aload Mm dX5_sell_30 rfl ?_
          refine r_getI Mm dX5_sell_32 fi_X5_147 (t1) rfl (i := 303) rfl ?_
          refine r_top _ (nI (tLeft (eS σ j))) (t10) ?_
          refine r_icmp_leN (tgt := 48) Mm dX5_sell_35 (by decide) (by omega) (by omega) (fun c14 => ?_) (fun c14 => ?_)
          · refine r_aload Mm dX5_sell_48 rfl ?_
            refine r_dup Mm dX5_sell_50 rfl ?_
            refine r_getI Mm dX5_sell_51 fi_X5_147 (t1) rfl (i := 303) rfl ?_
            refine r_top _ (nI (tLeft (eS σ j))) (t10) ?_
            refine r_iload_n Mm dX5_sell_54 rfl ?_
            refine r_isubN Mm dX5_sell_55 (by omega) ?_
            refine r_putI (ty := .int) Mm dX5_sell_56 fi_X5_147 ki_3 rfl (t1) rfl (i := 303) rfl rfl (by decide +kernel) rfl rfl ?_
            refine r_aload Mm dX5_sell_59 rfl ?_
            refine r_dup Mm dX5_sell_61 rfl ?_
            refine r_getI Mm dX5_sell_62 fi_X5_152 (t1) rfl (i := 304) rfl ?_
            refine r_top _ (tTak (eS σ j)) (t11) ?_
            refine r_iload_n Mm dX5_sell_65 rfl ?_
            refine r_iload_n Mm dX5_sell_66 rfl ?_
            refine r_imul Mm dX5_sell_67 ?_
            refine r_iadd Mm dX5_sell_68 ?_
            refine r_putI (ty := .int) Mm dX5_sell_69 fi_X5_152 ki_3 rfl (t1) rfl (i := 304) rfl rfl (by decide +kernel) rfl rfl ?_
            refine r_aload Mm dX5_sell_72 rfl ?_
            refine r_getI Mm dX5_sell_74 fi_X5_147 (t1) rfl (i := 303) rfl ?_
            refine r_top _ (nI ((tLeft (eS σ j)) - K)) (by simp only [zxS_yF, zxF_yF, zxP_yF, zxA_yF, zxB_yF, zxL_yF, zxS_yP, zxF_yP, zxP_yP, zxA_yP, zxB_yP, zxL_yP, zxS_yA, zxF_yA, zxP_yA, zxA_yA, zxB_yA, zxL_yA, zxS_yB, zxF_yB, zxP_yB, zxA_yB, zxB_yB, zxL_yB, zxS_yL, zxF_yL, zxP_yL, zxA_yL, zxB_yL, zxL_yL, zxS_yN, zxF_yN, zxP_yN, zxA_yN, zxB_yN, zxL_yN, Nat.reduceEqDiff, false_and, and_false, true_and, and_true, and_self, ite_false, ite_true, ite_self]) ?_
            refine r_iret M dX5_sell_77 ?_
            exact pOp.ret (by simp only [o_sell, oSh_ok k1 ecj, oIn_ok k5, ecK, oIn_ok k9, if_neg (fun z => z.elim (fun w => by rw [c13] at w; cases w) (fun w => w c14) : ¬ (tDone (eS σ j) = true ∨ ¬ K ≤ tLeft (eS σ j)))]) (Aft.shw r0 (by omega) (Kp.show (A := A) (Fr.tr (Fr.yF (Or.inl rfl)) (Fr.yF (Or.inl rfl))) t13 t14) has (ShowAt.sold (zs _ _ has)) f1)
          · refine r_throw M ti_150 dX5_sell_38 dX5_sell_41 dX5_sell_42 dX5_sell_44 dX5_sell_47 (by decide) (Nat.le_of_ble_eq_true rfl) ⟨Nat.le_of_ble_eq_true rfl, Nat.le_of_ble_eq_true rfl⟩ ?_
            exact pOp.thr (by simp only [o_sell, oSh_ok k1 ecj, oIn_ok k5, ecK, oIn_ok k9, if_pos (Or.inr (Nat.not_le.mpr c14) : tDone (eS σ j) = true ∨ ¬ K ≤ tLeft (eS σ j))]) (Aft.rf r0)
      · refine r_callS (As := [(.int m), (.int (nI 0)), (.int (nI 100))]) Mm dX5_sell_18 rfl (ct_needBad hfl h m (nI 0) (nI 100) (not_le2 k9)) cw_X5_33 ⟨Nat.le_of_ble_eq_true rfl, Nat.le_of_ble_eq_true rfl, Nat.le_of_ble_eq_true rfl⟩ (Nat.le_of_ble_eq_true rfl) ⟨Nat.le_of_ble_eq_true rfl, Nat.le_of_ble_eq_true rfl⟩ (fun r15 h16 p17 => False.elim p17) (fun Er15 h16 p17 => ?_)
        obtain ⟨rfl, rfl⟩ := p17
        refine x_out M ?_
        exact pOp.thr (by simp only [o_sell, oSh_ok k1 ecj, oIn_ok k5, ecK, oIn_no k9]) (Aft.rf r0)
    · refine r_callS (As := [(.int n), (.int (nI 1)), (.int (nI 50))]) Mm dX5_sell_11 rfl (ct_needBad hfl h n (nI 1) (nI 50) (not_le2 k5)) cw_X5_33 ⟨Nat.le_of_ble_eq_true rfl, Nat.le_of_ble_eq_true rfl, Nat.le_of_ble_eq_true rfl⟩ (Nat.le_of_ble_eq_true rfl) ⟨Nat.le_of_ble_eq_true rfl, Nat.le_of_ble_eq_true rfl⟩ (fun r18 h19 p20 => False.elim p20) (fun Er18 h19 p20 => ?_)
      obtain ⟨rfl, rfl⟩ := p20
      refine x_out M ?_
      exact pOp.thr (by simp only [o_sell, oSh_ok k1 ecj, oIn_no k5]) (Aft.rf r0)
  · refine r_callV (As := [(.int q)]) Mm dX5_sell_2 rfl (ct_showBad hfl h x pL sL ha ow ps ss σ r0 q (by rw [b4]; exact not_in k1)) (a1) rfl cw_X5_110 ⟨Nat.le_of_ble_eq_true rfl, Nat.le_of_ble_eq_true rfl, Nat.le_of_ble_eq_true rfl⟩ (Nat.le_of_ble_eq_true rfl) ⟨Nat.le_of_ble_eq_true rfl, Nat.le_of_ble_eq_true rfl⟩ (fun r21 h22 p23 => False.elim p23) (fun Er21 h22 p23 => ?_)
    obtain ⟨rfl, rfl⟩ := p23
    refine x_out M ?_
    exact pOp.thr (by simp only [o_sell, oSh_no k1]) (Aft.rf r0)
def wearP (p : PS) : PS := (p.1, p.2.1, p.2.2.1, p.2.2.2.1, min 99 (qWorn p + (qKeys p).length), p.2.2.2.2.2)
def perfS (σ : ST) (j n : Nat) : ST := ((eN σ, fun q => if q < n ∧ tCast (eS σ j) q = true then wearP (eP σ q) else eP σ q), (eM σ, upt (eS σ) j ((eS σ j).1, tCast (eS σ j), tLeft (eS σ j), tTak (eS σ j), true)), eH σ, ePaid σ)
theorem perf_0 (σ : ST) (j : Nat) : wS σ j ((eS σ j).1, tCast (eS σ j), tLeft (eS σ j), tTak (eS σ j), true) = perfS σ j 0 := by
  have : (fun q => if q < 0 ∧ tCast (eS σ j) q = true then wearP (eP σ q) else eP σ q) = eP σ := by
    funext q
    rw [if_neg (fun z => absurd z.1 (Nat.not_lt_zero _))]
  rw [perfS, this]
theorem perf_skip {σ : ST} {j n : Nat} (hc : tCast (eS σ j) n = false) : perfS σ j n = perfS σ j (n + 1) := by
  have : (fun q => if q < n ∧ tCast (eS σ j) q = true then wearP (eP σ q) else eP σ q) = fun q => if q < n + 1 ∧ tCast (eS σ j) q = true then wearP (eP σ q) else eP σ q := by
    funext q
    by_cases e : q = n
    · subst e; rw [if_neg (fun z => absurd z.1 (Nat.lt_irrefl _)), if_neg (fun z => by rw [hc] at z; cases z.2)]
    · have : (q < n ∧ tCast (eS σ j) q = true) ↔ (q < n + 1 ∧ tCast (eS σ j) q = true) := ⟨fun z => ⟨by omega, z.2⟩, fun z => ⟨by omega, z.2⟩⟩
      simp only [this]
  rw [perfS, perfS, this]
theorem perf_step {σ : ST} {j n : Nat} (hc : tCast (eS σ j) n = true) : wP (perfS σ j n) n (wearP (eP σ n)) = perfS σ j (n + 1) := by
  have : upt (fun q => if q < n ∧ tCast (eS σ j) q = true then wearP (eP σ q) else eP σ q) n (wearP (eP σ n)) = fun q => if q < n + 1 ∧ tCast (eS σ j) q = true then wearP (eP σ q) else eP σ q := by
    funext q
    by_cases e : q = n
    · subst e; rw [upt_s, if_pos ⟨Nat.lt_succ_self _, hc⟩]
    · have : (q < n ∧ tCast (eS σ j) q = true) ↔ (q < n + 1 ∧ tCast (eS σ j) q = true) := ⟨fun z => ⟨by omega, z.2⟩, fun z => ⟨by omega, z.2⟩⟩
      rw [upt_n _ _ e]; simp only [this]
  show ((eN σ, upt (fun q => if q < n ∧ tCast (eS σ j) q = true then wearP (eP σ q) else eP σ q) n (wearP (eP σ n))), _) = _
  rw [this]
  rfl
theorem RC.pay {E : Nat} {ow : Nat → Nat} {h : Hp} {x pL sL ha : Nat} {ps ss : List Nat} {σ : ST} (r : RC E ow h x pL sL ha ps ss σ) (v : Int32) : RC E ow (yF h 503 x v) x pL sL ha ps ss (σ.1, σ.2.1, eH σ, v) := by
  have k : Kp (fun t => t ≠ 1) ow ow h (yF h 503 x v) := Kp.row (Fr.yF rfl) (fun z => z r.2.2.2.2.2.1.1)
  obtain ⟨⟨a1, a2, a3, a4, a5⟩, ⟨b1, b2, b3, b4⟩, zp, zs, ⟨d1, d2⟩, ⟨e1, e2, e3, e4, e5, e6⟩, f1⟩ := r
  exact ⟨⟨a1, a2, a3, a4, a5⟩, ⟨b1, b2, b3, b4⟩, fun i b hb => (zp i b hb).kp k f1 (fun t ht => by show t ≠ 1; omega), fun j s hs => (zs j s hs).kp k (fun t ht => by show t ≠ 1; omega), ⟨d1, u2_s _ _ _ _⟩, ⟨e1, e2, e3, e4, e5, e6⟩, f1⟩
theorem Ext.row {ow : Nat → Nat} {h h' : Hp} {a : Nat} (f : Fr (fun b => b = a) h h') (ha : ow a ≠ 0) : Ext ow h h' := Ext.kp (T := fun t => t = 0) (ow' := ow) (Kp.of f (fun _ _ _ => rfl) (fun b z hz ht e => ha (e ▸ ht))) rfl
def o_perform (σ : ST) (q : Int32) : OR := oSh σ q (fun j => if tDone (eS σ j) = true ∨ cnt (tCast (eS σ j)) 8 = 0 then .inl "java/lang/IllegalStateException" else .inr (tTak (eS σ j), ((perfS σ j (eN σ)).1, (perfS σ j (eN σ)).2.1, eH (perfS σ j (eN σ)), ePaid σ + tTak (eS σ j))))
set_option maxRecDepth 100000 in
set_option maxHeartbeats 4000000 in
theorem ct_o_perform {g : Gl} {l : Launch} (hfl : l.stackTraces = false) (h : Hp) (x pL sL ha : Nat) (ow : Nat → Nat) (ps ss : List Nat) (σ : ST) (r : RC (gN g 2) ow h x pL sL ha ps ss σ) (hw : WF σ) (q : Int32) : CT g l iX5_perform 8 [.ref x, .int q] h 1 6 (pOp (gN g 2) ow h x pL sL ha σ (o_perform σ q)) := by
  have r0 := r
  obtain ⟨⟨a1, a2, a3, a4, a5⟩, ⟨b1, b2, b3, b4⟩, zp, zs, ⟨d1, d2⟩, ⟨e1, e2, e3, e4, e5, e6⟩, f1⟩ := r
  have hl1 := b1.2.2.1
  have hl2 := b2.2.2.1
  obtain ⟨w1, w2, w3, w4, w5⟩ := hw
  refine ct_mk hfl (by decide) (Nat.le_of_ble_eq_true rfl) (by intro v hv; simp only [List.mem_cons, List.not_mem_nil, or_false] at hv; rcases hv with rfl | rfl <;> rfl) (fun V X M => ?_)
  have Mm := M.m
  show V 0 [some (.ref x), some (.int q), none, none] [] _ 0 0
  refine r_aload_n Mm dX5_perform_0 rfl ?_
  refine r_iload_n Mm dX5_perform_1 rfl ?_
  by_cases k1 : 0 ≤ q ∧ q < nI (eM σ)
  · obtain ⟨j, hj, rfl⟩ := in_ex k1 (by omega)
    have ecj : (nI j).toNatClampNeg = j := nI_clamp (by omega)
    obtain ⟨s, has⟩ : ∃ v, ss[j]? = some v := ⟨_, List.getElem?_eq_getElem (by omega)⟩
    have hsa := zs _ _ has
    obtain ⟨sp, A, t1, t2, t3, t4, t5, t6, t7, t8, t9, t10, t11, t12, t13, t14⟩ := hsa
    have hok2 := w4 j hj
    have hl50 : tLeft (eS σ j) ≤ 50 := hok2.2
    have hc8 := cnt_le (tCast (eS σ j)) 8
    refine r_callV (As := [(.int (nI j))]) Mm dX5_perform_2 rfl (ct_showOk hfl h x pL sL ha ow ps ss σ r0 j s has) (a1) rfl cw_X5_110 ⟨Nat.le_of_ble_eq_true rfl, Nat.le_of_ble_eq_true rfl, Nat.le_of_ble_eq_true rfl⟩ (Nat.le_of_ble_eq_true rfl) ⟨Nat.le_of_ble_eq_true rfl, Nat.le_of_ble_eq_true rfl⟩ (fun r2 h3 p4 => ?_) (fun Er2 h3 p4 => False.elim p4)
    obtain ⟨rfl, rfl⟩ := p4
    show V 5 _ [(.ref s)] _ _ _
    refine r_astore_n Mm dX5_perform_5 (by decide) ?_
    show V 6 [some (.ref x), some (.int (nI j)), some (.ref s), none] _ _ _ _
    refine r_aload_n Mm dX5_perform_6 rfl ?_
    refine r_getI Mm dX5_perform_7 fi_X5_114 (t1) rfl (i := 305) rfl ?_
    refine r_top _ (bI (tDone (eS σ j))) (t12) ?_
    refine r_if_neB (tgt := 20) Mm dX5_perform_10 (by decide) (fun c5 => ?_) (fun c5 => ?_)
    · refine r_throw M ti_155 dX5_perform_20 dX5_perform_23 dX5_perform_24 dX5_perform_26 dX5_perform_29 (by decide) (Nat.le_of_ble_eq_true rfl) ⟨Nat.le_of_ble_eq_true rfl, Nat.le_of_ble_eq_true rfl⟩ ?_
      exact pOp.thr (by simp only [o_perform, oSh_ok k1 ecj, if_pos (Or.inl c5 : tDone (eS σ j) = true ∨ cnt (tCast (eS σ j)) 8 = 0)]) (Aft.rf r0)
    · refine r_aload_n Mm dX5_perform_13 rfl ?_
      refine r_getI Mm dX5_perform_14 fi_X5_139 (t1) rfl (i := 302) rfl ?_
      refine r_top _ (nI (cnt (tCast (eS σ j)) 8)) (t9) ?_
      refine r_if_neN (tgt := 30) Mm dX5_perform_17 (by decide) (by omega) (fun c6 => ?_) (fun c6 => ?_)
      · refine r_aload_n Mm dX5_perform_30 rfl ?_
        refine r_iconst (v := nI 1) Mm dX5_perform_31 (by decide) ?_
        refine r_putI (ty := .boolean) Mm dX5_perform_32 fi_X5_114 ki_3 rfl (t1) rfl (i := 305) rfl rfl (by decide +kernel) rfl rfl ?_
        refine r_iconst (v := nI 0) Mm dX5_perform_35 (by decide) ?_
        refine r_istore_n Mm dX5_perform_36 (by decide) ?_
        show V 37 [some (.ref x), some (.int (nI j)), some (.ref s), some (.int (nI 0))] _ _ _ _
        have hcnt := cnt_le (tCast (eS σ j)) 8
        have rk0 : RC (gN g 2) ow (yF h 305 s (nI 1)) x pL sL ha ps ss (perfS σ j 0) := by rw [← perf_0]; exact r0.shw (by omega) (Kp.row (Fr.yF rfl) (by omega)) has (ShowAt.done (zs _ _ has)) f1
        have loop : ∀ (m : Nat) (h1 : Hp) (n : Nat), eN σ - n < m → (n ≤ eN σ) → (RC (gN g 2) ow h1 x pL sL ha ps ss (perfS σ j n)) → (Ext ow h h1) → V 37 [some (.ref x), some (.int (nI j)), some (.ref s), some (.int (nI n))] [] h1 0 0 := by
          intro m
          induction m with
          | zero => intro h1 n hm; exact absurd hm (Nat.not_lt_zero _)
          | succ m ih =>
            intro h1 n hm hn rk ex
            have r1 := rk
            clear a1 a2 a3 a4 a5 b1 b2 b3 b4 zp zs d1 d2 e5 e6 f1
            obtain ⟨⟨a1, a2, a3, a4, a5⟩, ⟨b1, b2, b3, b4⟩, zp, zs, ⟨d1, d2⟩, ⟨-, -, -, -, e5, e6⟩, f1⟩ := r1
            have b3c : ps.length = eN σ := b3
            have hsa2 : ShowAt ow h1 j s ((eS σ j).1, tCast (eS σ j), tLeft (eS σ j), tTak (eS σ j), true) := by have q := zs _ _ has; rw [show eS (perfS σ j n) j = ((eS σ j).1, tCast (eS σ j), tLeft (eS σ j), tTak (eS σ j), true) from upt_s _ _ _] at q; exact q
            obtain ⟨sp, A, t1, t2, t3, t4, t5, t6, t7, t8, t9, t10, t11, t12, t13, t14⟩ := hsa2
            refine r_iload_n Mm dX5_perform_37 rfl ?_
            refine r_aload_n Mm dX5_perform_38 rfl ?_
            refine r_getR Mm dX5_perform_39 fi_X5_10 (a1) rfl (i := 500) rfl (a2) ?_
            refine r_callV (As := []) Mm dX5_perform_42 rfl (ct_lsize hfl h1 pL ps b1) (b1.1) rfl cw_X5_37 ⟨Nat.le_of_ble_eq_true rfl, Nat.le_of_ble_eq_true rfl, Nat.le_of_ble_eq_true rfl⟩ (Nat.le_of_ble_eq_true rfl) ⟨Nat.le_of_ble_eq_true rfl, Nat.le_of_ble_eq_true rfl⟩ (fun r7 h8 p9 => ?_) (fun Er7 h8 p9 => False.elim p9)
            obtain ⟨rfl, rfl⟩ := p9
            show V 45 _ [(.int (nI (ps.length))), (.int (nI n))] _ _ _
            refine r_icmp_geN (tgt := 76) Mm dX5_perform_45 (by decide) (by omega) (by omega) (fun c10 => ?_) (fun c10 => ?_)
            · refine r_aload_n Mm dX5_perform_76 rfl ?_
              refine r_dup Mm dX5_perform_77 rfl ?_
              refine r_getI Mm dX5_perform_78 fi_X5_29 (a1) rfl (i := 503) rfl ?_
              refine r_top _ (ePaid σ) (d2) ?_
              refine r_aload_n Mm dX5_perform_81 rfl ?_
              refine r_getI Mm dX5_perform_82 fi_X5_152 (t1) rfl (i := 304) rfl ?_
              refine r_top _ (tTak (eS σ j)) (t11) ?_
              refine r_iadd Mm dX5_perform_85 ?_
              refine r_putI (ty := .int) Mm dX5_perform_86 fi_X5_29 ki_5 rfl (a1) rfl (i := 503) rfl rfl (by decide +kernel) rfl rfl ?_
              refine r_aload_n Mm dX5_perform_89 rfl ?_
              refine r_getI Mm dX5_perform_90 fi_X5_152 (t1) rfl (i := 304) rfl ?_
              refine r_top _ (tTak (eS σ j)) (t11) ?_
              refine r_iret M dX5_perform_93 ?_
              obtain rfl : n = eN σ := by omega
              exact pOp.ret (by simp only [o_perform, oSh_ok k1 ecj, if_neg (fun z => z.elim (fun w => by rw [c5] at w; cases w) (fun w => absurd w (Nat.ne_of_gt c6)) : ¬ (tDone (eS σ j) = true ∨ cnt (tCast (eS σ j)) 8 = 0))]) ⟨ow, ps, ss, rk.pay _, fun _ _ _ => rfl, Ext.tr (fun _ _ _ => rfl) ex (Ext.row (Fr.yF rfl) (by omega))⟩
            · refine r_aload_n Mm dX5_perform_48 rfl ?_
              refine r_iload_n Mm dX5_perform_49 rfl ?_
              refine r_callV (As := [(.int (nI n))]) Mm dX5_perform_50 rfl (ct_hasPuppet hfl h1 s A (tCast (eS σ j)) t1 t6 t7 t8 (nI n)) (t1) rfl cw_X5_118 ⟨Nat.le_of_ble_eq_true rfl, Nat.le_of_ble_eq_true rfl, Nat.le_of_ble_eq_true rfl⟩ (Nat.le_of_ble_eq_true rfl) ⟨Nat.le_of_ble_eq_true rfl, Nat.le_of_ble_eq_true rfl⟩ (fun r11 h12 p13 => ?_) (fun Er11 h12 p13 => False.elim p13)
              obtain ⟨rfl, rfl⟩ := p13
              rw [hasC_nI8 (c := tCast (eS σ j)) (show n < 8 by omega)]
              show V 53 _ [(.int (bI (tCast (eS σ j) n)))] _ _ _
              refine r_if_eqB (tgt := 70) Mm dX5_perform_53 (by decide) (fun c14 => ?_) (fun c14 => ?_)
              · refine r_iincN (k := 1) Mm dX5_perform_70 rfl (by decide) (by decide) ?_
                show V 73 [some (.ref x), some (.int (nI j)), some (.ref s), some (.int (nI (n + 1)))] _ _ _ _
                refine r_goto (tgt := 37) Mm dX5_perform_73 (by decide) ?_
                exact ih h1 (n + 1) (by omega) (by omega) (by rw [← perf_skip c14]; exact rk) ex
              · refine r_aload_n Mm dX5_perform_56 rfl ?_
                refine r_getR Mm dX5_perform_57 fi_X5_10 (a1) rfl (i := 500) rfl (a2) ?_
                refine r_iload_n Mm dX5_perform_60 rfl ?_
                obtain ⟨v15, hv15⟩ : ∃ v, ps[n]? = some v := ⟨_, List.getElem?_eq_getElem (by omega)⟩
                have sv15 := (zp _ _ hv15).choose_spec.choose_spec.choose_spec.choose_spec.choose_spec.1.1
                have hpa2 : PupAt (gN g 2) ow h1 n v15 (eP σ n) := by have q := zp _ _ hv15; rw [show eP (perfS σ j n) n = eP σ n from if_neg (fun z => absurd z.1 (Nat.lt_irrefl _))] at q; exact q
                have hpa3 := hpa2
                obtain ⟨kb, mb, pb, xb, yb, hPb, u1, u2, u3, u4, u5, u6, ⟨y1, y2, y3, y4⟩, y5, y6, y7, y8⟩ := hpa3
                have hxl : xb.length = (qKeys (eP σ n)).length := by rw [← u3, ksOf_len]
                have hw9 := (w3 n (by omega)).2.2.2.2.2.2.1
                refine r_callV (As := [(.int (nI n))]) Mm dX5_perform_61 rfl (ct_lget hfl h1 pL n v15 ps (b1) hv15) (b1.1) rfl cw_X5_157 ⟨Nat.le_of_ble_eq_true rfl, Nat.le_of_ble_eq_true rfl, Nat.le_of_ble_eq_true rfl⟩ (Nat.le_of_ble_eq_true rfl) ⟨Nat.le_of_ble_eq_true rfl, Nat.le_of_ble_eq_true rfl⟩ (fun r16 h17 p18 => ?_) (fun Er16 h17 p18 => False.elim p18)
                obtain ⟨rfl, rfl⟩ := p18
                show V 64 _ [(.ref v15)] _ _ _
                refine r_cast Mm dX5_perform_64 (sv15) rfl cl_X5_48 ?_
                refine r_callV (As := []) Mm dX5_perform_67 rfl (ct_wear hfl h1 v15 kb mb pb xb yb hPb (qWorn (eP σ n)) (by omega) u5) (sv15) rfl cw_X5_161 ⟨Nat.le_of_ble_eq_true rfl, Nat.le_of_ble_eq_true rfl, Nat.le_of_ble_eq_true rfl⟩ (Nat.le_of_ble_eq_true rfl) ⟨Nat.le_of_ble_eq_true rfl, Nat.le_of_ble_eq_true rfl⟩ (fun r19 h20 p21 => ?_) (fun Er19 h20 p21 => False.elim p21)
                obtain ⟨rfl, rfl⟩ := p21
                show V 70 _ [] _ _ _
                refine r_iincN (k := 1) Mm dX5_perform_70 rfl (by decide) (by decide) ?_
                show V 73 [some (.ref x), some (.int (nI j)), some (.ref s), some (.int (nI (n + 1)))] _ _ _ _
                refine r_goto (tgt := 37) Mm dX5_perform_73 (by decide) ?_
                have rn := rk.pup (Kp.row (Fr.yF rfl) (by omega)) hv15 (by omega) (PupAt.worn (min 99 (qWorn (eP σ n) + xb.length)) hpa2) f1
                rw [hxl] at rn
                have rn2 : wP (perfS σ j n) n (wearP (eP σ n)) = perfS σ j (n + 1) := perf_step c14
                unfold wearP at rn2
                rw [rn2] at rn
                rw [hxl]
                exact ih _ (n + 1) (by omega) (by omega) rn (Ext.tr (fun _ _ _ => rfl) ex (Ext.row (Fr.yF rfl) (by omega)))
        exact loop (eN σ + 1) _ 0 (by omega) (Nat.zero_le _) rk0 (Ext.row (Fr.yF rfl) (by omega))
      · refine r_throw M ti_155 dX5_perform_20 dX5_perform_23 dX5_perform_24 dX5_perform_26 dX5_perform_29 (by decide) (Nat.le_of_ble_eq_true rfl) ⟨Nat.le_of_ble_eq_true rfl, Nat.le_of_ble_eq_true rfl⟩ ?_
        exact pOp.thr (by simp only [o_perform, oSh_ok k1 ecj, if_pos (Or.inr c6 : tDone (eS σ j) = true ∨ cnt (tCast (eS σ j)) 8 = 0)]) (Aft.rf r0)
  · refine r_callV (As := [(.int q)]) Mm dX5_perform_2 rfl (ct_showBad hfl h x pL sL ha ow ps ss σ r0 q (by rw [b4]; exact not_in k1)) (a1) rfl cw_X5_110 ⟨Nat.le_of_ble_eq_true rfl, Nat.le_of_ble_eq_true rfl, Nat.le_of_ble_eq_true rfl⟩ (Nat.le_of_ble_eq_true rfl) ⟨Nat.le_of_ble_eq_true rfl, Nat.le_of_ble_eq_true rfl⟩ (fun r22 h23 p24 => False.elim p24) (fun Er22 h23 p24 => ?_)
    obtain ⟨rfl, rfl⟩ := p24
    refine x_out M ?_
    exact pOp.thr (by simp only [o_perform, oSh_no k1]) (Aft.rf r0)
