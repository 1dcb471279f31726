/-! ===== where a puppet is found: the document's track, the model's way ===== -/
theorem trk_none {bar : Int32} {ks : List K4} {f : Int32} (h0 : ks.length = 0) : trk bar ks f = (bar, nI 0) := by
  rw [trk, behind, if_pos h0]
theorem trk_end {bar : Int32} {ks : List K4} {F : Nat} {kk : K4} (hs : SortK ks) (hF : F < 2000) (hk : ahead ks (nI F) = ks.length) (hkk : ks[ks.length - 1]? = some kk) : trk bar ks (nI F) = (kk.2.1, kk.2.2.1) := by
  have hlt : ks.length - 1 < ks.length := (List.getElem?_eq_some_iff.mp hkk).1
  have hn : ks[ahead ks (nI F)]? = none := List.getElem?_eq_none (by omega)
  rw [trk, nI_add, ahead_step hs (by omega), hn, if_neg (by simp), hk, behind, if_neg (by omega), if_neg (by omega), if_pos (Nat.le_refl _), hkk]
theorem trk_first {bar : Int32} {ks : List K4} {F : Nat} {kk : K4} (hs : SortK ks) (hF : F < 2000) (hk : ahead ks (nI F) = 0) (hkk : ks[0]? = some kk) (hne : ¬ kk.1 = nI F) : trk bar ks (nI F) = (kk.2.1, kk.2.2.1) := by
  have hlt : 0 < ks.length := (List.getElem?_eq_some_iff.mp hkk).1
  rw [trk, nI_add, ahead_step hs (by omega), hk, hkk, if_neg (by simpa using hne), behind, if_neg (by omega), if_pos rfl, hkk]
theorem trk_mid {bar : Int32} {ks : List K4} {F k : Nat} {ka kb : K4} (hs : SortK ks) (hF : F < 2000) (hk : ahead ks (nI F) = k) (h0 : 0 < k) (hka : ks[k - 1]? = some ka) (hkb : ks[k]? = some kb) (hne : ¬ kb.1 = nI F) : trk bar ks (nI F) = betw ka kb (nI F) := by
  have hlt : k < ks.length := (List.getElem?_eq_some_iff.mp hkb).1
  rw [trk, nI_add, ahead_step hs (by omega), hk, hkb, if_neg (by simpa using hne), behind, if_neg (by omega), if_neg (by omega), if_neg (by omega), hka, hkb]
theorem easy0 {e : Nat} (he : e ≤ 3) : esy (nI e) (nI 0) = nI 0 := by
  rcases (show e = 0 ∨ e = 1 ∨ e = 2 ∨ e = 3 by omega) with rfl | rfl | rfl | rfl <;> decide
theorem z64 (x d : Int32) : x + d * nI 0 / nI 64 = x := by
  rw [show d * nI 0 = nI 0 from Int32.mul_zero, show nI 0 / nI 64 = nI 0 from by decide]
  exact Int32.add_zero x
theorem trk_hit {bar : Int32} {ks : List K4} {F k e : Nat} {kk : K4} (hs : SortK ks) (hF : F < 2000) (hk : ahead ks (nI F) = k) (hkk : ks[k]? = some kk) (he : kk.1 = nI F) (hee : kk.2.2.2 = nI e) (he3 : e ≤ 3) : trk bar ks (nI F) = (kk.2.1, kk.2.2.1) := by
  have hlt : k < ks.length := (List.getElem?_eq_some_iff.mp hkk).1
  rw [trk, nI_add, ahead_step hs (by omega), hk, hkk, if_pos (by simpa using he), behind, if_neg (by omega), if_neg (by omega)]
  by_cases c : ks.length ≤ k + 1
  · rw [if_pos c, show ks.length - 1 = k by omega, hkk]
  · rw [if_neg c, Nat.add_sub_cancel, hkk]
    cases hb : ks[k + 1]? with
    | none => exact absurd (List.getElem?_eq_none_iff.mp hb) c
    | some kb =>
      have hsh : shr kk kb (nI F) = nI 0 := by
        rw [shr, he, hee, show nI F - nI F = nI 0 from by rw [pk_sub (Nat.le_refl _), Nat.sub_self], show nI 0 * nI 8 = nI 0 from rfl, show ∀ d : Int32, nI 0 / d = nI 0 from fun d => Int32.zero_div, easy0 he3]
        by_cases q : 0 < kb.1 - nI F
        · rw [if_pos q]
        · rw [if_neg q]
      show betw kk kb (nI F) = _
      rw [betw, hsh, z64, z64]
theorem idx_in {a b F e : Nat} (h1 : a < F) (h2 : F < b) (hb : b ≤ 999) (he : e ≤ 3) : ∃ t : Nat, t < 32 ∧ nI 8 * nI e + (nI F - nI a) * nI 8 / (nI b - nI a) = nI t ∧ nI e * nI 8 + (nI F - nI a) * nI 8 / (nI b - nI a) = nI t := by
  rw [pk_sub (by omega), pk_sub (by omega), pk_mul, pk_mul, pk_mul, pk_div (by omega) (by omega) (by omega), nI_add, nI_add]
  have hd : (F - a) * 8 / (b - a) < 8 := by
    rw [Nat.div_lt_iff_lt_mul (by omega)]
    rw [Nat.mul_comm]
    exact Nat.mul_lt_mul_of_pos_left (by omega) (by decide)
  exact ⟨8 * e + (F - a) * 8 / (b - a), by omega, rfl, by rw [Nat.mul_comm e 8]⟩
theorem Mt.f4 {m : Nat} {ad : Nat → Nat} (h : Hp) (v : Int32) : Mt m ad h (yF h 624 m v) := ⟨rfl, rfl, rfl, rfl, fun i b q => by rw [zxF_yF, if_neg (fun z => q.elim (fun n => n z.2) (fun n => n.1 z.1))], fun _ _ _ _ _ => rfl⟩
theorem Mt.f5 {m : Nat} {ad : Nat → Nat} (h : Hp) (v : Int32) : Mt m ad h (yF h 625 m v) := ⟨rfl, rfl, rfl, rfl, fun i b q => by rw [zxF_yF, if_neg (fun z => q.elim (fun n => n z.2) (fun n => n.2 z.1))], fun _ _ _ _ _ => rfl⟩
theorem RM.f0 {m : Nat} {ad : Nat → Nat} {h : Hp} {σ : ST} (r : RM h m ad σ) (v : Int32) : RM (yF h 600 m v) m ad σ := by
  obtain ⟨hM, ⟨g1, g2, g3⟩, rp, rs, rh, rt⟩ := r
  refine ⟨hM, ⟨?_, ?_, ?_⟩, rp, rs, rh, rt⟩
  · rw [zxF_yF, if_neg (fun z => absurd z.1 (by decide))]; exact g1
  · rw [zxF_yF, if_neg (fun z => absurd z.1 (by decide))]; exact g2
  · rw [zxF_yF, if_neg (fun z => absurd z.1 (by decide))]; exact g3
theorem Mt.th {m : Nat} {ad : Nat → Nat} {h h' : Hp} (t : Mt m ad h h') : xF h' 600 m = xF h 600 m := t.2.2.2.2.1 600 m (Or.inr (by decide))
set_option maxRecDepth 100000 in
set_option maxHeartbeats 4000000 in
theorem cm_finds {g : Gl} {l : Launch} (hfl : l.stackTraces = false) (h : Hp) (m : Nat) (ad : Nat → Nat) (hM : MS h m ad) (i : Nat) (p : PS) (hi : i < 8) (hp : MPup h ad i p) (hok : okP p) (ht : ∀ t < 32, xA h (ad 23) t = easeL.getD t 0) (F : Nat) (hF : F < 2000) : CT g l iX6_finds 2 [.ref m, .int (nI i), .int (nI F)] h 0 0 (pRel (fun r h' => r = none ∧ (Mt m ad h h' ∧ xA h' = xA h) ∧ (xF h' 624 m, xF h' 625 m) = trk (qBar p) (qKeys p) (nI F))) := by
  have hp0 := hp
  have hk12 := hok.2.2.2.1
  obtain ⟨p1, p2, p3, p4, p5, p6, p7, p8⟩ := hp
  refine ct_mk hfl (by decide) (Nat.le_of_ble_eq_true rfl) (by intro v hv; simp only [List.mem_cons, List.not_mem_nil, or_false] at hv; rcases hv with rfl | rfl | rfl <;> rfl) (fun V X M => ?_)
  have Mm := M.m
  show V 0 [some (.ref m), some (.int (nI i)), some (.int (nI F)), none, none, none, none] [] _ 0 0
  refine r_aload_n Mm dX6_finds_0 rfl ?_
  refine r_aload_n Mm dX6_finds_1 rfl ?_
  refine r_getR Mm dX6_finds_2 fi_X6_7 (hM.1) rfl (i := 601) rfl ((hM.2.1 1 8 8 (by decide)).1) ?_
  refine r_iload_n Mm dX6_finds_5 rfl ?_
  refine r_ialdN Mm dX6_finds_6 ((hM.2.1 1 8 8 (by decide)).2) (by omega) (by omega) ?_
  refine r_top _ (qBar p) (p1) ?_
  refine r_putI (ty := .int) Mm dX6_finds_7 fi_X6_134 ki_6 rfl (hM.1) rfl (i := 624) rfl rfl (by decide +kernel) rfl rfl ?_
  refine r_aload_n Mm dX6_finds_10 rfl ?_
  refine r_iconst (v := nI 0) Mm dX6_finds_11 (by decide) ?_
  refine r_putI (ty := .int) Mm dX6_finds_12 fi_X6_137 ki_6 rfl (hM.1) rfl (i := 625) rfl rfl (by decide +kernel) rfl rfl ?_
  refine r_aload_n Mm dX6_finds_15 rfl ?_
  refine r_getR Mm dX6_finds_16 fi_X6_16 (hM.1) rfl (i := 603) rfl ((hM.2.1 3 8 8 (by decide)).1) ?_
  refine r_iload_n Mm dX6_finds_19 rfl ?_
  refine r_ialdN Mm dX6_finds_20 ((hM.2.1 3 8 8 (by decide)).2) (by omega) (by omega) ?_
  refine r_top _ (nI ((qKeys p).length)) (p3) ?_
  refine r_if_neN (tgt := 25) Mm dX6_finds_21 (by decide) (by omega) (fun c1 => ?_) (fun c1 => ?_)
  · refine r_aload_n Mm dX6_finds_25 rfl ?_
    refine r_iload_n Mm dX6_finds_26 rfl ?_
    refine r_iload_n Mm dX6_finds_27 rfl ?_
    have hal := ahead_le (qKeys p) (nI F)
    refine r_callV (As := [(.int (nI i)), (.int (nI F))]) Mm dX6_finds_28 rfl (cm_placeOf hfl ((yF (yF h 624 m (qBar p)) 625 m (nI 0))) m ad hM i p hi hp0 hk12 (nI F)) (hM.1) rfl cw_X6_101 ⟨Nat.le_of_ble_eq_true rfl, Nat.le_of_ble_eq_true rfl, Nat.le_of_ble_eq_true rfl⟩ (Nat.le_of_ble_eq_true rfl) ⟨Nat.le_of_ble_eq_true rfl, Nat.le_of_ble_eq_true rfl⟩ (fun r2 h3 p4 => ?_) (fun Er2 h3 p4 => False.elim p4)
    obtain ⟨rfl, rfl⟩ := p4
    obtain ⟨k, hk⟩ : ∃ k, ahead (qKeys p) (nI F) = k := ⟨_, rfl⟩
    rw [hk]
    rw [hk] at hal
    show V 31 _ [(.int (nI k))] _ _ _
    refine r_istore_n Mm dX6_finds_31 (by decide) ?_
    show V 32 [some (.ref m), some (.int (nI i)), some (.int (nI F)), some (.int (nI k)), none, none, none] _ _ _ _
    refine r_bipush (v := nI 12) Mm dX6_finds_32 (by decide) ?_
    refine r_iload_n Mm dX6_finds_34 rfl ?_
    refine r_imulN Mm dX6_finds_35 ?_
    refine r_iload_n Mm dX6_finds_36 rfl ?_
    refine r_aload_n Mm dX6_finds_37 rfl ?_
    refine r_getR Mm dX6_finds_38 fi_X6_16 (hM.1) rfl (i := 603) rfl ((hM.2.1 3 8 8 (by decide)).1) ?_
    refine r_iload_n Mm dX6_finds_41 rfl ?_
    refine r_ialdN Mm dX6_finds_42 ((hM.2.1 3 8 8 (by decide)).2) (by omega) (by omega) ?_
    refine r_top _ (nI ((qKeys p).length)) (p3) ?_
    refine r_icmp_neN (tgt := 52) Mm dX6_finds_43 (by decide) (by omega) (by omega) (fun c5 => ?_) (fun c5 => ?_)
    · obtain ⟨kb, hkb⟩ : ∃ v, (qKeys p)[k]? = some v := ⟨_, List.getElem?_eq_getElem (by omega)⟩
      refine r_iload_n Mm dX6_finds_52 rfl ?_
      refine r_iaddN Mm dX6_finds_53 ?_
      refine r_istore Mm dX6_finds_54 (by decide) ?_
      show V 56 [some (.ref m), some (.int (nI i)), some (.int (nI F)), some (.int (nI k)), some (.int (nI ((12 * i) + k))), none, none] _ _ _ _
      refine r_aload_n Mm dX6_finds_56 rfl ?_
      refine r_aload_n Mm dX6_finds_57 rfl ?_
      refine r_getR Mm dX6_finds_58 fi_X6_28 (hM.1) rfl (i := 608) rfl ((hM.2.1 8 8 96 (by decide)).1) ?_
      refine r_iload Mm dX6_finds_61 rfl ?_
      refine r_ialdN Mm dX6_finds_63 ((hM.2.1 8 8 96 (by decide)).2) (by omega) (by omega) ?_
      refine r_top _ kb.2.1 ((p6 _ kb hkb).2.1) ?_
      refine r_putI (ty := .int) Mm dX6_finds_64 fi_X6_134 ki_6 rfl (hM.1) rfl (i := 624) rfl rfl (by decide +kernel) rfl rfl ?_
      refine r_aload_n Mm dX6_finds_67 rfl ?_
      refine r_aload_n Mm dX6_finds_68 rfl ?_
      refine r_getR Mm dX6_finds_69 fi_X6_31 (hM.1) rfl (i := 609) rfl ((hM.2.1 9 8 96 (by decide)).1) ?_
      refine r_iload Mm dX6_finds_72 rfl ?_
      refine r_ialdN Mm dX6_finds_74 ((hM.2.1 9 8 96 (by decide)).2) (by omega) (by omega) ?_
      refine r_top _ kb.2.2.1 ((p6 _ kb hkb).2.2.1) ?_
      refine r_putI (ty := .int) Mm dX6_finds_75 fi_X6_137 ki_6 rfl (hM.1) rfl (i := 625) rfl rfl (by decide +kernel) rfl rfl ?_
      refine r_iload_n Mm dX6_finds_78 rfl ?_
      refine r_if_eqN (tgt := 103) Mm dX6_finds_79 (by decide) (by omega) (fun c6 => ?_) (fun c6 => ?_)
      · refine r_vret M dX6_finds_103 ?_
        have etr : trk (qBar p) (qKeys p) (nI F) = (kb.2.1, kb.2.2.1) := by
          by_cases q : kb.1 = nI F
          · obtain ⟨-, -, e1, he1, ee⟩ := hok.2.2.2.2.1 kb (List.mem_of_getElem? hkb)
            exact trk_hit hok.2.2.1 hF hk hkb q ee he1
          · exact trk_first hok.2.2.1 hF (by omega) (by rw [← show k = 0 from c6]; exact hkb) q
        refine ⟨rfl, ⟨(((Mt.f4 _ _).tr (Mt.f5 _ _)).tr (Mt.f4 _ _)).tr (Mt.f5 _ _), rfl⟩, ?_⟩
        simp only [zxS_yF, zxF_yF, zxP_yF, zxA_yF, zxB_yF, zxL_yF, zxS_yP, zxF_yP, zxP_yP, zxA_yP, zxB_yP, zxL_yP, zxS_yA, zxF_yA, zxP_yA, zxA_yA, zxB_yA, zxL_yA, zxS_yB, zxF_yB, zxP_yB, zxA_yB, zxB_yB, zxL_yB, zxS_yL, zxF_yL, zxP_yL, zxA_yL, zxB_yL, zxL_yL, zxS_yN, zxF_yN, zxP_yN, zxA_yN, zxB_yN, zxL_yN, Nat.reduceEqDiff, false_and, and_false, true_and, and_true, and_self, ite_false, ite_true, ite_self]
        exact (etr).symm
      · refine r_iload_n Mm dX6_finds_82 rfl ?_
        refine r_aload_n Mm dX6_finds_83 rfl ?_
        refine r_getR Mm dX6_finds_84 fi_X6_16 (hM.1) rfl (i := 603) rfl ((hM.2.1 3 8 8 (by decide)).1) ?_
        refine r_iload_n Mm dX6_finds_87 rfl ?_
        refine r_ialdN Mm dX6_finds_88 ((hM.2.1 3 8 8 (by decide)).2) (by omega) (by omega) ?_
        refine r_top _ (nI ((qKeys p).length)) (p3) ?_
        refine r_icmp_eqN (tgt := 103) Mm dX6_finds_89 (by decide) (by omega) (by omega) (fun c7 => ?_) (fun c7 => ?_)
        · exact absurd c7 (by omega)
        · refine r_aload_n Mm dX6_finds_92 rfl ?_
          refine r_getR Mm dX6_finds_93 fi_X6_25 (hM.1) rfl (i := 607) rfl ((hM.2.1 7 8 96 (by decide)).1) ?_
          refine r_iload Mm dX6_finds_96 rfl ?_
          refine r_ialdN Mm dX6_finds_98 ((hM.2.1 7 8 96 (by decide)).2) (by omega) (by omega) ?_
          refine r_top _ kb.1 ((p6 _ kb hkb).1) ?_
          refine r_iload_n Mm dX6_finds_99 rfl ?_
          refine r_icmp_ne (tgt := 104) Mm dX6_finds_100 (by decide) (fun c8 => ?_) (fun c8 => ?_)
          · refine r_iload Mm dX6_finds_104 rfl ?_
            refine r_iconst (v := nI 1) Mm dX6_finds_106 (by decide) ?_
            refine r_isubN Mm dX6_finds_107 (by omega) ?_
            refine r_top _ (nI (12 * i + (k - 1))) (by rw [show 12 * i + k - 1 = 12 * i + (k - 1) by omega]) ?_
            obtain ⟨ka, hka⟩ : ∃ v, (qKeys p)[k - 1]? = some v := ⟨_, List.getElem?_eq_getElem (by omega)⟩
            obtain ⟨a1, ha1, ea⟩ := hok.2.2.1.2 ka (List.mem_of_getElem? hka)
            obtain ⟨b1, hb1, eb⟩ := hok.2.2.1.2 kb (List.mem_of_getElem? hkb)
            obtain ⟨-, -, e1, he1, ee⟩ := hok.2.2.2.2.1 ka (List.mem_of_getElem? hka)
            have g1 := (ahead_spec (qKeys p) (nI F)).1 (k - 1) ka (by omega) hka
            have g2 := (ahead_spec (qKeys p) (nI F)).2 kb (by rw [hk]; exact hkb)
            rw [ea] at g1
            have g1n := (nI_ltI (by omega) (by omega)).mp g1
            have g2n : F < b1 := by
              rcases Nat.lt_or_ge b1 F with q | q
              · exact absurd (by rw [eb]; exact nI_lt q (by omega)) g2
              · rcases Nat.lt_or_ge F b1 with q2 | q2
                · exact q2
                · exact absurd (by rw [eb, show b1 = F by omega]) c8
            obtain ⟨tt, ht32, ei1, ei2⟩ := idx_in g1n g2n hb1 he1
            rw [← ee, ← ea, ← eb] at ei1 ei2
            have hpos : 0 < kb.1 - ka.1 := by rw [ea, eb, pk_sub (by omega)]; exact nI_lt (show 0 < b1 - a1 by omega) (by omega)
            have hdz : ¬ kb.1 - ka.1 = 0 := fun z => by rw [z] at hpos; exact absurd hpos (by decide)
            have hsh : shr ka kb (nI F) = easeL.getD tt 0 := by rw [shr, if_pos hpos, esy, ei2, if_neg (fun z => z.elim (fun q => absurd (nI_ge0 (a := tt) (by omega)) (Int32.not_le.mpr q)) (fun q => Int32.not_le.mpr (nI_lt ht32 (by decide)) q)), nI_clamp (by omega)]
            refine r_istore Mm dX6_finds_108 (by decide) ?_
            show V 110 [some (.ref m), some (.int (nI i)), some (.int (nI F)), some (.int (nI k)), some (.int (nI ((12 * i) + k))), some (.int (nI ((12 * i) + (k - 1)))), none] _ _ _ _
            refine r_aload_n Mm dX6_finds_110 rfl ?_
            refine r_getR Mm dX6_finds_111 fi_X6_68 (hM.1) rfl (i := 623) rfl ((hM.2.1 23 8 32 (by decide)).1) ?_
            refine r_bipush (v := nI 8) Mm dX6_finds_114 (by decide) ?_
            refine r_aload_n Mm dX6_finds_116 rfl ?_
            refine r_getR Mm dX6_finds_117 fi_X6_34 (hM.1) rfl (i := 610) rfl ((hM.2.1 10 8 96 (by decide)).1) ?_
            refine r_iload Mm dX6_finds_120 rfl ?_
            refine r_ialdN Mm dX6_finds_122 ((hM.2.1 10 8 96 (by decide)).2) (by omega) (by omega) ?_
            refine r_top _ ka.2.2.2 ((p6 _ ka hka).2.2.2) ?_
            refine r_imul Mm dX6_finds_123 ?_
            refine r_iload_n Mm dX6_finds_124 rfl ?_
            refine r_aload_n Mm dX6_finds_125 rfl ?_
            refine r_getR Mm dX6_finds_126 fi_X6_25 (hM.1) rfl (i := 607) rfl ((hM.2.1 7 8 96 (by decide)).1) ?_
            refine r_iload Mm dX6_finds_129 rfl ?_
            refine r_ialdN Mm dX6_finds_131 ((hM.2.1 7 8 96 (by decide)).2) (by omega) (by omega) ?_
            refine r_top _ ka.1 ((p6 _ ka hka).1) ?_
            refine r_isub Mm dX6_finds_132 ?_
            refine r_bipush (v := nI 8) Mm dX6_finds_133 (by decide) ?_
            refine r_imul Mm dX6_finds_135 ?_
            refine r_aload_n Mm dX6_finds_136 rfl ?_
            refine r_getR Mm dX6_finds_137 fi_X6_25 (hM.1) rfl (i := 607) rfl ((hM.2.1 7 8 96 (by decide)).1) ?_
            refine r_iload Mm dX6_finds_140 rfl ?_
            refine r_ialdN Mm dX6_finds_142 ((hM.2.1 7 8 96 (by decide)).2) (by omega) (by omega) ?_
            refine r_top _ kb.1 ((p6 _ kb hkb).1) ?_
            refine r_aload_n Mm dX6_finds_143 rfl ?_
            refine r_getR Mm dX6_finds_144 fi_X6_25 (hM.1) rfl (i := 607) rfl ((hM.2.1 7 8 96 (by decide)).1) ?_
            refine r_iload Mm dX6_finds_147 rfl ?_
            refine r_ialdN Mm dX6_finds_149 ((hM.2.1 7 8 96 (by decide)).2) (by omega) (by omega) ?_
            refine r_top _ ka.1 ((p6 _ ka hka).1) ?_
            refine r_isub Mm dX6_finds_150 ?_
            refine r_idiv Mm dX6_finds_151 (hdz) ?_
            refine r_iadd Mm dX6_finds_152 ?_
            refine r_top _ (nI tt) ei1 ?_
            refine r_ialdN Mm dX6_finds_153 ((hM.2.1 23 8 32 (by decide)).2) (by omega) (by omega) ?_
            refine r_top _ (easeL.getD tt 0) (ht tt ht32) ?_
            refine r_istore Mm dX6_finds_154 (by decide) ?_
            show V 156 [some (.ref m), some (.int (nI i)), some (.int (nI F)), some (.int (nI k)), some (.int (nI ((12 * i) + k))), some (.int (nI ((12 * i) + (k - 1)))), some (.int (easeL.getD tt 0))] _ _ _ _
            refine r_aload_n Mm dX6_finds_156 rfl ?_
            refine r_aload_n Mm dX6_finds_157 rfl ?_
            refine r_getR Mm dX6_finds_158 fi_X6_28 (hM.1) rfl (i := 608) rfl ((hM.2.1 8 8 96 (by decide)).1) ?_
            refine r_iload Mm dX6_finds_161 rfl ?_
            refine r_ialdN Mm dX6_finds_163 ((hM.2.1 8 8 96 (by decide)).2) (by omega) (by omega) ?_
            refine r_top _ ka.2.1 ((p6 _ ka hka).2.1) ?_
            refine r_aload_n Mm dX6_finds_164 rfl ?_
            refine r_getR Mm dX6_finds_165 fi_X6_28 (hM.1) rfl (i := 608) rfl ((hM.2.1 8 8 96 (by decide)).1) ?_
            refine r_iload Mm dX6_finds_168 rfl ?_
            refine r_ialdN Mm dX6_finds_170 ((hM.2.1 8 8 96 (by decide)).2) (by omega) (by omega) ?_
            refine r_top _ kb.2.1 ((p6 _ kb hkb).2.1) ?_
            refine r_aload_n Mm dX6_finds_171 rfl ?_
            refine r_getR Mm dX6_finds_172 fi_X6_28 (hM.1) rfl (i := 608) rfl ((hM.2.1 8 8 96 (by decide)).1) ?_
            refine r_iload Mm dX6_finds_175 rfl ?_
            refine r_ialdN Mm dX6_finds_177 ((hM.2.1 8 8 96 (by decide)).2) (by omega) (by omega) ?_
            refine r_top _ ka.2.1 ((p6 _ ka hka).2.1) ?_
            refine r_isub Mm dX6_finds_178 ?_
            refine r_iload Mm dX6_finds_179 rfl ?_
            refine r_imul Mm dX6_finds_181 ?_
            refine r_bipush (v := nI 64) Mm dX6_finds_182 (by decide) ?_
            refine r_idiv Mm dX6_finds_184 (by decide) ?_
            refine r_iadd Mm dX6_finds_185 ?_
            refine r_putI (ty := .int) Mm dX6_finds_186 fi_X6_134 ki_6 rfl (hM.1) rfl (i := 624) rfl rfl (by decide +kernel) rfl rfl ?_
            refine r_aload_n Mm dX6_finds_189 rfl ?_
            refine r_aload_n Mm dX6_finds_190 rfl ?_
            refine r_getR Mm dX6_finds_191 fi_X6_31 (hM.1) rfl (i := 609) rfl ((hM.2.1 9 8 96 (by decide)).1) ?_
            refine r_iload Mm dX6_finds_194 rfl ?_
            refine r_ialdN Mm dX6_finds_196 ((hM.2.1 9 8 96 (by decide)).2) (by omega) (by omega) ?_
            refine r_top _ ka.2.2.1 ((p6 _ ka hka).2.2.1) ?_
            refine r_aload_n Mm dX6_finds_197 rfl ?_
            refine r_getR Mm dX6_finds_198 fi_X6_31 (hM.1) rfl (i := 609) rfl ((hM.2.1 9 8 96 (by decide)).1) ?_
            refine r_iload Mm dX6_finds_201 rfl ?_
            refine r_ialdN Mm dX6_finds_203 ((hM.2.1 9 8 96 (by decide)).2) (by omega) (by omega) ?_
            refine r_top _ kb.2.2.1 ((p6 _ kb hkb).2.2.1) ?_
            refine r_aload_n Mm dX6_finds_204 rfl ?_
            refine r_getR Mm dX6_finds_205 fi_X6_31 (hM.1) rfl (i := 609) rfl ((hM.2.1 9 8 96 (by decide)).1) ?_
            refine r_iload Mm dX6_finds_208 rfl ?_
            refine r_ialdN Mm dX6_finds_210 ((hM.2.1 9 8 96 (by decide)).2) (by omega) (by omega) ?_
            refine r_top _ ka.2.2.1 ((p6 _ ka hka).2.2.1) ?_
            refine r_isub Mm dX6_finds_211 ?_
            refine r_iload Mm dX6_finds_212 rfl ?_
            refine r_imul Mm dX6_finds_214 ?_
            refine r_bipush (v := nI 64) Mm dX6_finds_215 (by decide) ?_
            refine r_idiv Mm dX6_finds_217 (by decide) ?_
            refine r_iadd Mm dX6_finds_218 ?_
            refine r_putI (ty := .int) Mm dX6_finds_219 fi_X6_137 ki_6 rfl (hM.1) rfl (i := 625) rfl rfl (by decide +kernel) rfl rfl ?_
            refine r_vret M dX6_finds_222 ?_
            refine ⟨rfl, ⟨(((Mt.f4 _ _).tr (Mt.f5 _ _)).tr ((Mt.f4 _ _).tr (Mt.f5 _ _))).tr ((Mt.f4 _ _).tr (Mt.f5 _ _)), rfl⟩, ?_⟩
            simp only [zxS_yF, zxF_yF, zxP_yF, zxA_yF, zxB_yF, zxL_yF, zxS_yP, zxF_yP, zxP_yP, zxA_yP, zxB_yP, zxL_yP, zxS_yA, zxF_yA, zxP_yA, zxA_yA, zxB_yA, zxL_yA, zxS_yB, zxF_yB, zxP_yB, zxA_yB, zxB_yB, zxL_yB, zxS_yL, zxF_yL, zxP_yL, zxA_yL, zxB_yL, zxL_yL, zxS_yN, zxF_yN, zxP_yN, zxA_yN, zxB_yN, zxL_yN, Nat.reduceEqDiff, false_and, and_false, true_and, and_true, and_self, ite_false, ite_true, ite_self]
            exact ((trk_mid hok.2.2.1 hF hk (by omega) hka hkb c8).trans (by rw [betw, hsh])).symm
          · refine r_vret M dX6_finds_103 ?_
            obtain ⟨-, -, e1, he1, ee⟩ := hok.2.2.2.2.1 kb (List.mem_of_getElem? hkb)
            refine ⟨rfl, ⟨(((Mt.f4 _ _).tr (Mt.f5 _ _)).tr (Mt.f4 _ _)).tr (Mt.f5 _ _), rfl⟩, ?_⟩
            simp only [zxS_yF, zxF_yF, zxP_yF, zxA_yF, zxB_yF, zxL_yF, zxS_yP, zxF_yP, zxP_yP, zxA_yP, zxB_yP, zxL_yP, zxS_yA, zxF_yA, zxP_yA, zxA_yA, zxB_yA, zxL_yA, zxS_yB, zxF_yB, zxP_yB, zxA_yB, zxB_yB, zxL_yB, zxS_yL, zxF_yL, zxP_yL, zxA_yL, zxB_yL, zxL_yL, zxS_yN, zxF_yN, zxP_yN, zxA_yN, zxB_yN, zxL_yN, Nat.reduceEqDiff, false_and, and_false, true_and, and_true, and_self, ite_false, ite_true, ite_self]
            exact (trk_hit hok.2.2.1 hF hk hkb c8 ee he1).symm
    · obtain ⟨kl, hkl⟩ : ∃ v, (qKeys p)[k - 1]? = some v := ⟨_, List.getElem?_eq_getElem (by omega)⟩
      refine r_iload_n Mm dX6_finds_46 rfl ?_
      refine r_iconst (v := nI 1) Mm dX6_finds_47 (by decide) ?_
      refine r_isubN Mm dX6_finds_48 (by omega) ?_
      refine r_goto (tgt := 53) Mm dX6_finds_49 (by decide) ?_
      refine r_iaddN Mm dX6_finds_53 ?_
      refine r_istore Mm dX6_finds_54 (by decide) ?_
      show V 56 [some (.ref m), some (.int (nI i)), some (.int (nI F)), some (.int (nI k)), some (.int (nI ((12 * i) + (k - 1)))), none, none] _ _ _ _
      refine r_aload_n Mm dX6_finds_56 rfl ?_
      refine r_aload_n Mm dX6_finds_57 rfl ?_
      refine r_getR Mm dX6_finds_58 fi_X6_28 (hM.1) rfl (i := 608) rfl ((hM.2.1 8 8 96 (by decide)).1) ?_
      refine r_iload Mm dX6_finds_61 rfl ?_
      refine r_ialdN Mm dX6_finds_63 ((hM.2.1 8 8 96 (by decide)).2) (by omega) (by omega) ?_
      refine r_top _ kl.2.1 ((p6 _ kl hkl).2.1) ?_
      refine r_putI (ty := .int) Mm dX6_finds_64 fi_X6_134 ki_6 rfl (hM.1) rfl (i := 624) rfl rfl (by decide +kernel) rfl rfl ?_
      refine r_aload_n Mm dX6_finds_67 rfl ?_
      refine r_aload_n Mm dX6_finds_68 rfl ?_
      refine r_getR Mm dX6_finds_69 fi_X6_31 (hM.1) rfl (i := 609) rfl ((hM.2.1 9 8 96 (by decide)).1) ?_
      refine r_iload Mm dX6_finds_72 rfl ?_
      refine r_ialdN Mm dX6_finds_74 ((hM.2.1 9 8 96 (by decide)).2) (by omega) (by omega) ?_
      refine r_top _ kl.2.2.1 ((p6 _ kl hkl).2.2.1) ?_
      refine r_putI (ty := .int) Mm dX6_finds_75 fi_X6_137 ki_6 rfl (hM.1) rfl (i := 625) rfl rfl (by decide +kernel) rfl rfl ?_
      refine r_iload_n Mm dX6_finds_78 rfl ?_
      refine r_if_eqN (tgt := 103) Mm dX6_finds_79 (by decide) (by omega) (fun c9 => ?_) (fun c9 => ?_)
      · omega
      · refine r_iload_n Mm dX6_finds_82 rfl ?_
        refine r_aload_n Mm dX6_finds_83 rfl ?_
        refine r_getR Mm dX6_finds_84 fi_X6_16 (hM.1) rfl (i := 603) rfl ((hM.2.1 3 8 8 (by decide)).1) ?_
        refine r_iload_n Mm dX6_finds_87 rfl ?_
        refine r_ialdN Mm dX6_finds_88 ((hM.2.1 3 8 8 (by decide)).2) (by omega) (by omega) ?_
        refine r_top _ (nI ((qKeys p).length)) (p3) ?_
        refine r_icmp_eqN (tgt := 103) Mm dX6_finds_89 (by decide) (by omega) (by omega) (fun c10 => ?_) (fun c10 => ?_)
        · refine r_vret M dX6_finds_103 ?_
          refine ⟨rfl, ⟨(((Mt.f4 _ _).tr (Mt.f5 _ _)).tr (Mt.f4 _ _)).tr (Mt.f5 _ _), rfl⟩, ?_⟩
          simp only [zxS_yF, zxF_yF, zxP_yF, zxA_yF, zxB_yF, zxL_yF, zxS_yP, zxF_yP, zxP_yP, zxA_yP, zxB_yP, zxL_yP, zxS_yA, zxF_yA, zxP_yA, zxA_yA, zxB_yA, zxL_yA, zxS_yB, zxF_yB, zxP_yB, zxA_yB, zxB_yB, zxL_yB, zxS_yL, zxF_yL, zxP_yL, zxA_yL, zxB_yL, zxL_yL, zxS_yN, zxF_yN, zxP_yN, zxA_yN, zxB_yN, zxL_yN, Nat.reduceEqDiff, false_and, and_false, true_and, and_true, and_self, ite_false, ite_true, ite_self]
          exact (trk_end hok.2.2.1 hF (by omega) (by rw [show (qKeys p).length - 1 = k - 1 by omega]; exact hkl)).symm
        · exact absurd c5 (by omega)
  · refine r_vret M dX6_finds_24 ?_
    refine ⟨rfl, ⟨(Mt.f4 _ _).tr (Mt.f5 _ _), rfl⟩, ?_⟩
    simp only [zxS_yF, zxF_yF, zxP_yF, zxA_yF, zxB_yF, zxL_yF, zxS_yP, zxF_yP, zxP_yP, zxA_yP, zxB_yP, zxL_yP, zxS_yA, zxF_yA, zxP_yA, zxA_yA, zxB_yA, zxL_yA, zxS_yB, zxF_yB, zxP_yB, zxA_yB, zxB_yB, zxL_yB, zxS_yL, zxF_yL, zxP_yL, zxA_yL, zxB_yL, zxL_yL, zxS_yN, zxF_yN, zxP_yN, zxA_yN, zxB_yN, zxL_yN, Nat.reduceEqDiff, false_and, and_false, true_and, and_true, and_self, ite_false, ite_true, ite_self]
    exact (trk_none c1).symm
