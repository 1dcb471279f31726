/-! ===== the string pulls: roots and ends, both ways ===== -/
theorem rootF_spec {n : Nat} (hn : n < 4194304) : ∀ (k r : Nat), r * r ≤ n → n < (r + 2 ^ k) * (r + 2 ^ k) → r + 2 ^ k ≤ 2048 → ∃ q : Nat, rootF (nI n) k (nI r) = nI q ∧ q * q ≤ n ∧ n < (q + 1) * (q + 1) ∧ q < 2048 := by
  intro k
  induction k with
  | zero => intro r h1 h2 h3; exact ⟨r, rfl, h1, by simpa using h2, by have : 2 ^ 0 = 1 := rfl; omega⟩
  | succ k ih =>
    intro r h1 h2 h3
    have hp : 2 ^ (k + 1) = 2 ^ k + 2 ^ k := by rw [Nat.pow_succ]; omega
    have hpos : 0 < 2 ^ k := Nat.pow_pos (by decide)
    have ht : r + 2 ^ k < 2048 := by omega
    have hsq : (r + 2 ^ k) * (r + 2 ^ k) ≤ 2048 * 2048 := Nat.mul_le_mul (by omega) (by omega)
    rw [rootF, nI_add, pk_mul]
    by_cases c : n < (r + 2 ^ k) * (r + 2 ^ k)
    · rw [if_pos (nI_lt c (by omega))]
      exact ih r h1 c (by omega)
    · rw [if_neg (nI_nlt (by omega) (by omega))]
      exact ih (r + 2 ^ k) (by omega) (by rw [show r + 2 ^ k + 2 ^ k = r + 2 ^ (k + 1) by omega]; exact h2) (by omega)
theorem rootB_spec {n : Nat} (hn : n < 4194304) : ∃ q : Nat, rootB (nI n) = nI q ∧ q * q ≤ n ∧ n < (q + 1) * (q + 1) ∧ q < 2048 := rootF_spec hn 11 0 (Nat.zero_le _) (by show n < (0 + 2 ^ 11) * (0 + 2 ^ 11); simpa using hn) (by decide)
theorem root_uniq {n a b : Nat} (h1 : a * a ≤ n) (h2 : n < (a + 1) * (a + 1)) (h3 : b * b ≤ n) (h4 : n < (b + 1) * (b + 1)) : a = b := by
  rcases Nat.lt_trichotomy a b with c | c | c
  · have := Nat.mul_le_mul (show a + 1 ≤ b from c) (show a + 1 ≤ b from c); omega
  · exact c
  · have := Nat.mul_le_mul (show b + 1 ≤ a from c) (show b + 1 ≤ a from c); omega
theorem i_add {a b : Int32} (h1 : -2000000000 ≤ a.toInt + b.toInt) (h2 : a.toInt + b.toInt ≤ 2000000000) : (a + b).toInt = a.toInt + b.toInt := by
  rw [Int32.toInt_add]; exact Int.bmod_eq_of_le (by omega) (by omega)
theorem i_sub {a b : Int32} (h1 : -2000000000 ≤ a.toInt - b.toInt) (h2 : a.toInt - b.toInt ≤ 2000000000) : (a - b).toInt = a.toInt - b.toInt := by
  rw [Int32.toInt_sub]; exact Int.bmod_eq_of_le (by omega) (by omega)
theorem i_neg {a : Int32} (h1 : -2000000000 ≤ a.toInt) (h2 : a.toInt ≤ 2000000000) : (-a).toInt = -a.toInt := by
  rw [Int32.toInt_neg]; exact Int.bmod_eq_of_le (by omega) (by omega)
theorem i_mul {a b : Int32} (h1 : -2000000000 ≤ a.toInt * b.toInt) (h2 : a.toInt * b.toInt ≤ 2000000000) : (a * b).toInt = a.toInt * b.toInt := by
  rw [Int32.toInt_mul]; exact Int.bmod_eq_of_le (by omega) (by omega)
/-- the end of the string, both ways -/
theorem clamp_eq {bar len x : Int32} (hb : 0 ≤ bar.toInt ∧ bar.toInt ≤ 999) (hl : 0 ≤ len.toInt ∧ len.toInt ≤ 1500) (hx : -10000 ≤ x.toInt ∧ x.toInt ≤ 10000) : (if bar + len < x then bar + len else if x < bar - len then bar - len else x) = bar + clampS len (x - bar) := by
  have e1 := i_add (a := bar) (b := len) (by omega) (by omega)
  have e2 := i_sub (a := bar) (b := len) (by omega) (by omega)
  have e3 := i_sub (a := x) (b := bar) (by omega) (by omega)
  have e4 := i_neg (a := len) (by omega) (by omega)
  apply Int32.toInt_inj.mp
  rw [clampS]
  simp only [Int32.lt_iff_toInt_lt, e1, e2, e3, e4]
  by_cases c1 : x.toInt - bar.toInt < len.toInt
  · rw [if_pos c1, e3]
    rw [if_neg (by omega)]
    by_cases c2 : x.toInt < bar.toInt - len.toInt
    · rw [if_pos c2, e2, if_neg (by omega), i_add (by omega) (by omega), e4]; omega
    · rw [if_neg c2]
      by_cases c3 : -len.toInt < x.toInt - bar.toInt
      · rw [if_pos c3, i_add (by omega) (by omega), e3]; omega
      · rw [if_neg c3, i_add (by omega) (by omega), e4]; omega
  · rw [if_neg c1]
    by_cases c2 : bar.toInt + len.toInt < x.toInt
    · rw [if_pos c2, e1]
      by_cases c3 : -len.toInt < len.toInt
      · rw [if_pos c3, i_add (by omega) (by omega)]
      · rw [if_neg c3, i_add (by omega) (by omega), e4]; omega
    · rw [if_neg c2, if_neg (by omega)]
      by_cases c3 : -len.toInt < len.toInt
      · rw [if_pos c3, i_add (by omega) (by omega)]; omega
      · rw [if_neg c3, i_add (by omega) (by omega), e4]; omega
theorem sq_abs {a : Int32} {L : Nat} (h : -(L : Int) ≤ a.toInt ∧ a.toInt ≤ L) (hL : L ≤ 1500) : ∃ D : Nat, D ≤ L ∧ a * a = nI (D * D) := by
  refine ⟨a.toInt.natAbs, by omega, ?_⟩
  have hD : a.toInt.natAbs ≤ 1500 := by omega
  have hm : a.toInt.natAbs * a.toInt.natAbs ≤ 1500 * 1500 := Nat.mul_le_mul hD hD
  have hz : a.toInt * a.toInt = ((a.toInt.natAbs * a.toInt.natAbs : Nat) : Int) := by
    rw [Int.natCast_mul]; exact (Int.natAbs_mul_self' a.toInt).symm
  apply Int32.toInt_inj.mp
  rw [i_mul (by omega) (by omega), hz, nI_toInt (by omega)]
theorem clamp_in {bar len x : Int32} (hb : 0 ≤ bar.toInt ∧ bar.toInt ≤ 999) (hl : 0 ≤ len.toInt ∧ len.toInt ≤ 1500) (hx : -10000 ≤ x.toInt ∧ x.toInt ≤ 10000) : -len.toInt ≤ (clampS len (x - bar)).toInt ∧ (clampS len (x - bar)).toInt ≤ len.toInt := by
  have e3 := i_sub (a := x) (b := bar) (by omega) (by omega)
  have e4 := i_neg (a := len) (by omega) (by omega)
  rw [clampS]
  simp only [Int32.lt_iff_toInt_lt]
  by_cases c1 : (x - bar).toInt < len.toInt
  · rw [if_pos c1]
    by_cases c3 : (-len).toInt < (x - bar).toInt
    · rw [if_pos c3]; omega
    · rw [if_neg c3]; omega
  · rw [if_neg c1]
    by_cases c3 : (-len).toInt < len.toInt
    · rw [if_pos c3]; omega
    · rw [if_neg c3]; omega
theorem add_subx (a b : Int32) : a + b - a = b := by
  rw [Int32.add_comm]; exact Int32.add_sub_cancel b a
def pulledM (h h' : Hp) (ad : Nat → Nat) (i : Nat) (v : Int32 × Int32) : Prop := (xA h' (ad 26) i, xA h' (ad 27) i) = v ∧ (∀ q, q ≠ i → xA h' (ad 26) q = xA h (ad 26) q ∧ xA h' (ad 27) q = xA h (ad 27) q) ∧ ∀ q, xA h' (ad 28) q = xA h (ad 28) q
theorem Mt.a6 {m : Nat} {ad : Nat → Nat} (h : Hp) (i : Nat) (v : Int32) : Mt m ad h (yA h (ad 26) i v) := ⟨rfl, rfl, rfl, rfl, fun _ _ _ => rfl, fun b j h1 _ _ => by rw [zxA_yA, if_neg (fun z => h1 z.1)]⟩
theorem Mt.a7 {m : Nat} {ad : Nat → Nat} (h : Hp) (i : Nat) (v : Int32) : Mt m ad h (yA h (ad 27) i v) := ⟨rfl, rfl, rfl, rfl, fun _ _ _ => rfl, fun b j _ h2 _ => by rw [zxA_yA, if_neg (fun z => h2 z.1)]⟩
theorem Mt.a8 {m : Nat} {ad : Nat → Nat} (h : Hp) (i : Nat) (v : Int32) : Mt m ad h (yA h (ad 28) i v) := ⟨rfl, rfl, rfl, rfl, fun _ _ _ => rfl, fun b j _ _ h3 => by rw [zxA_yA, if_neg (fun z => h3 z.1)]⟩
set_option maxRecDepth 100000 in
set_option maxHeartbeats 4000000 in
theorem cm_pulls {g : Gl} {l : Launch} (hfl : l.stackTraces = false) (h : Hp) (m : Nat) (ad : Nat → Nat) (hM : MS h m ad) (i : Nat) (p : PS) (hi : i < 8) (hp : MPup h ad i p) (hok : okP p) (X0 Y0 : Int32) (hX : xA h (ad 26) i = X0) (hY : xA h (ad 27) i = Y0) (hx : -10000 ≤ X0.toInt ∧ X0.toInt ≤ 10000) : CT g l iX6_pulls 2 [.ref m, .int (nI i)] h 0 0 (pRel (fun r h' => r = none ∧ Mt m ad h h' ∧ pulledM h h' ad i (pullS (qBar p) (qLen p) (X0, Y0)))) := by
  obtain ⟨p1, p2, p3, p4, p5, p6, p7, p8⟩ := hp
  obtain ⟨⟨b0, hb0, eb0⟩, ⟨L, hL15, eL⟩, -⟩ := hok
  have tb : (nI b0).toInt = b0 := nI_toInt (by omega)
  have tl : (nI L).toInt = L := nI_toInt (by omega)
  have hb : 0 ≤ (qBar p).toInt ∧ (qBar p).toInt ≤ 999 := by rw [eb0, tb]; omega
  have hl : 0 ≤ (qLen p).toInt ∧ (qLen p).toInt ≤ 1500 := by rw [eL, tl]; omega
  have hci := clamp_in hb hl hx
  rw [show (qLen p).toInt = L by rw [eL, tl]] at hci
  obtain ⟨D, hDL, eD⟩ := sq_abs hci hL15
  have hDL2 : D * D ≤ L * L := Nat.mul_le_mul hDL hDL
  have hLL : L * L ≤ 1500 * 1500 := Nat.mul_le_mul hL15 hL15
  have hLs : (L + 1) * (L + 1) = L * L + 2 * L + 1 := by rw [Nat.add_mul, Nat.mul_add]; omega
  have n16 := hM.ne (by decide : (1, 8, 8) ∈ mSl) (by decide : (26, 8, 8) ∈ mSl) (by decide)
  have n26 := hM.ne (by decide : (2, 8, 8) ∈ mSl) (by decide : (26, 8, 8) ∈ mSl) (by decide)
  have n67 := hM.ne (by decide : (26, 8, 8) ∈ mSl) (by decide : (27, 8, 8) ∈ mSl) (by decide)
  have n86 := hM.ne (by decide : (28, 9, 8) ∈ mSl) (by decide : (26, 8, 8) ∈ mSl) (by decide)
  have n87 := hM.ne (by decide : (28, 9, 8) ∈ mSl) (by decide : (27, 8, 8) ∈ mSl) (by decide)
  refine ct_mk hfl (by decide) (Nat.le_of_ble_eq_true rfl) (by intro v hv; simp only [List.mem_cons, List.not_mem_nil, or_false] at hv; rcases hv with rfl | rfl <;> rfl) (fun V X M => ?_)
  have Mm := M.m
  show V 0 [some (.ref m), some (.int (nI i)), none, none, none, none, none] [] _ 0 0
  refine r_aload_n Mm dX6_pulls_0 rfl ?_
  refine r_getR Mm dX6_pulls_1 fi_X6_13 (hM.1) rfl (i := 602) rfl ((hM.2.1 2 8 8 (by decide)).1) ?_
  refine r_iload_n Mm dX6_pulls_4 rfl ?_
  refine r_ialdN Mm dX6_pulls_5 ((hM.2.1 2 8 8 (by decide)).2) (by omega) (by omega) ?_
  refine r_top _ (qLen p) (p2) ?_
  refine r_aload_n Mm dX6_pulls_6 rfl ?_
  refine r_getR Mm dX6_pulls_7 fi_X6_13 (hM.1) rfl (i := 602) rfl ((hM.2.1 2 8 8 (by decide)).1) ?_
  refine r_iload_n Mm dX6_pulls_10 rfl ?_
  refine r_ialdN Mm dX6_pulls_11 ((hM.2.1 2 8 8 (by decide)).2) (by omega) (by omega) ?_
  refine r_top _ (qLen p) (p2) ?_
  refine r_imul Mm dX6_pulls_12 ?_
  refine r_istore_n Mm dX6_pulls_13 (by decide) ?_
  show V 14 [some (.ref m), some (.int (nI i)), some (.int ((qLen p) * (qLen p))), none, none, none, none] _ _ _ _
  refine r_aload_n Mm dX6_pulls_14 rfl ?_
  refine r_getR Mm dX6_pulls_15 fi_X6_71 (hM.1) rfl (i := 626) rfl ((hM.2.1 26 8 8 (by decide)).1) ?_
  refine r_iload_n Mm dX6_pulls_18 rfl ?_
  refine r_ialdN Mm dX6_pulls_19 ((hM.2.1 26 8 8 (by decide)).2) (by omega) (by omega) ?_
  refine r_top _ X0 (hX) ?_
  refine r_aload_n Mm dX6_pulls_20 rfl ?_
  refine r_getR Mm dX6_pulls_21 fi_X6_7 (hM.1) rfl (i := 601) rfl ((hM.2.1 1 8 8 (by decide)).1) ?_
  refine r_iload_n Mm dX6_pulls_24 rfl ?_
  refine r_ialdN Mm dX6_pulls_25 ((hM.2.1 1 8 8 (by decide)).2) (by omega) (by omega) ?_
  refine r_top _ (qBar p) (p1) ?_
  refine r_isub Mm dX6_pulls_26 ?_
  refine r_aload_n Mm dX6_pulls_27 rfl ?_
  refine r_getR Mm dX6_pulls_28 fi_X6_74 (hM.1) rfl (i := 627) rfl ((hM.2.1 27 8 8 (by decide)).1) ?_
  refine r_iload_n Mm dX6_pulls_31 rfl ?_
  refine r_ialdN Mm dX6_pulls_32 ((hM.2.1 27 8 8 (by decide)).2) (by omega) (by omega) ?_
  refine r_top _ Y0 (hY) ?_
  refine r_callS (As := [(.int (X0 - (qBar p))), (.int Y0)]) Mm dX6_pulls_33 rfl (cm_far hfl h (X0 - (qBar p)) Y0) cw_X6_149 ⟨Nat.le_of_ble_eq_true rfl, Nat.le_of_ble_eq_true rfl, Nat.le_of_ble_eq_true rfl⟩ (Nat.le_of_ble_eq_true rfl) ⟨Nat.le_of_ble_eq_true rfl, Nat.le_of_ble_eq_true rfl⟩ (fun r1 h2 p3 => ?_) (fun Er1 h2 p3 => False.elim p3)
  obtain ⟨rfl, rfl⟩ := p3
  show V 36 _ [(.int (sq2 (X0 - (qBar p)) Y0))] _ _ _
  refine r_iload_n Mm dX6_pulls_36 rfl ?_
  refine r_icmp_gt (tgt := 41) Mm dX6_pulls_37 (by decide) (fun c4 => ?_) (fun c4 => ?_)
  · have hfar := c4
    have c128 : V 128 [some (.ref m), some (.int (nI i)), some (.int ((qLen p) * (qLen p))), none, none, none, none] [.int (qBar p + (clampS (qLen p) (X0 - qBar p))), .int (nI i), .ref (ad 26)] h 0 0 := by
      refine r_iastN Mm dX6_pulls_128 ((hM.2.1 26 8 8 (by decide)).2) (by omega) (by omega) ?_
      refine r_iconst (v := nI 0) Mm dX6_pulls_129 (by decide) ?_
      refine r_istore_n Mm dX6_pulls_130 (by decide) ?_
      show V 131 [some (.ref m), some (.int (nI i)), some (.int ((qLen p) * (qLen p))), some (.int (nI 0)), none, none, none] _ _ _ _
      refine r_aload_n Mm dX6_pulls_131 rfl ?_
      refine r_getR Mm dX6_pulls_132 fi_X6_13 (hM.1) rfl (i := 602) rfl ((hM.2.1 2 8 8 (by decide)).1) ?_
      refine r_iload_n Mm dX6_pulls_135 rfl ?_
      refine r_ialdN Mm dX6_pulls_136 ((hM.2.1 2 8 8 (by decide)).2) (by omega) (by omega) ?_
      refine r_top _ (nI L) (by rw [zxA_yA, if_neg (fun z => n26 z.1)]; exact p2.trans eL) ?_
      refine r_istore Mm dX6_pulls_137 (by decide) ?_
      show V 139 [some (.ref m), some (.int (nI i)), some (.int ((qLen p) * (qLen p))), some (.int (nI 0)), some (.int (nI L)), none, none] _ _ _ _
      have loop : ∀ (n : Nat) (lo hi : Nat) (z5 z6 : Option Value), hi - lo < n → (lo ≤ hi) → (hi ≤ L) → (lo * lo ≤ L * L - D * D) → (L * L - D * D < (hi + 1) * (hi + 1)) → V 139 [some (.ref m), some (.int (nI i)), some (.int ((qLen p) * (qLen p))), some (.int (nI lo)), some (.int (nI hi)), z5, z6] [] (yA h (ad 26) i (qBar p + (clampS (qLen p) (X0 - qBar p)))) 0 0 := by
        intro n
        induction n with
        | zero => intro lo hi z5 z6 hm; exact absurd hm (Nat.not_lt_zero _)
        | succ n ih =>
          intro lo hi z5 z6 hm hlh hhL hlo hhi
          refine r_iload_n Mm dX6_pulls_139 rfl ?_
          refine r_iload Mm dX6_pulls_140 rfl ?_
          refine r_icmp_geN (tgt := 215) Mm dX6_pulls_142 (by decide) (by omega) (by omega) (fun c5 => ?_) (fun c5 => ?_)
          · refine r_aload_n Mm dX6_pulls_215 rfl ?_
            refine r_getR Mm dX6_pulls_216 fi_X6_74 (hM.1) rfl (i := 627) rfl ((hM.2.1 27 8 8 (by decide)).1) ?_
            refine r_iload_n Mm dX6_pulls_219 rfl ?_
            refine r_iload_n Mm dX6_pulls_220 rfl ?_
            refine r_iastN Mm dX6_pulls_221 ((hM.2.1 27 8 8 (by decide)).2) (by omega) (by omega) ?_
            refine r_vret M dX6_pulls_222 ?_
            obtain rfl : lo = hi := by omega
            obtain ⟨q, eq1, eq2, eq3, eq4⟩ := rootB_spec (n := L * L - D * D) (by omega)
            obtain rfl : lo = q := root_uniq hlo hhi eq2 eq3
            have epull : pullS (qBar p) (qLen p) (X0, Y0) = ((qBar p + (clampS (qLen p) (X0 - qBar p))), nI lo) := by
              rw [show pullS (qBar p) (qLen p) (X0, Y0) = ((qBar p + (clampS (qLen p) (X0 - qBar p))), rootB (qLen p * qLen p - (clampS (qLen p) (X0 - qBar p)) * (clampS (qLen p) (X0 - qBar p)))) from if_pos hfar, eD, eL, pk_mul, pk_sub hDL2, eq1]
            rw [epull]
            refine ⟨rfl, (Mt.a6 _ _ _).tr (Mt.a7 _ _ _), ?_, fun q hq => ⟨?_, ?_⟩, fun q => ?_⟩
            · rw [zxA_yA, if_neg (fun z => n67 z.1), zxA_yA, if_pos ⟨rfl, rfl⟩, zxA_yA, if_pos ⟨rfl, rfl⟩]
            · rw [zxA_yA, if_neg (fun z => n67 z.1), zxA_yA, if_neg (fun z => hq z.2)]
            · rw [zxA_yA, if_neg (fun z => hq z.2), zxA_yA, if_neg (fun z => n67 z.1.symm)]
            · rw [zxA_yA, if_neg (fun z => n87 z.1), zxA_yA, if_neg (fun z => n86 z.1)]
          · refine r_iload_n Mm dX6_pulls_145 rfl ?_
            refine r_iload Mm dX6_pulls_146 rfl ?_
            refine r_iaddN Mm dX6_pulls_148 ?_
            refine r_iconst (v := nI 1) Mm dX6_pulls_149 (by decide) ?_
            refine r_iaddN Mm dX6_pulls_150 ?_
            refine r_iconst (v := nI 2) Mm dX6_pulls_151 (by decide) ?_
            refine r_idiv Mm dX6_pulls_152 (by decide) ?_
            refine r_top _ (nI ((lo + hi + 1) / 2)) (pk_div (by omega) (by decide) (by decide)) ?_
            refine r_istore Mm dX6_pulls_153 (by decide) ?_
            show V 155 [some (.ref m), some (.int (nI i)), some (.int ((qLen p) * (qLen p))), some (.int (nI lo)), some (.int (nI hi)), some (.int (nI ((lo + hi + 1) / 2))), z6] _ _ _ _
            refine r_aload_n Mm dX6_pulls_155 rfl ?_
            refine r_getR Mm dX6_pulls_156 fi_X6_71 (hM.1) rfl (i := 626) rfl ((hM.2.1 26 8 8 (by decide)).1) ?_
            refine r_iload_n Mm dX6_pulls_159 rfl ?_
            refine r_ialdN Mm dX6_pulls_160 ((hM.2.1 26 8 8 (by decide)).2) (by omega) (by omega) ?_
            refine r_top _ (qBar p + (clampS (qLen p) (X0 - qBar p))) (by rw [zxA_yA, if_pos ⟨rfl, rfl⟩]) ?_
            refine r_aload_n Mm dX6_pulls_161 rfl ?_
            refine r_getR Mm dX6_pulls_162 fi_X6_7 (hM.1) rfl (i := 601) rfl ((hM.2.1 1 8 8 (by decide)).1) ?_
            refine r_iload_n Mm dX6_pulls_165 rfl ?_
            refine r_ialdN Mm dX6_pulls_166 ((hM.2.1 1 8 8 (by decide)).2) (by omega) (by omega) ?_
            refine r_top _ (qBar p) (by rw [zxA_yA, if_neg (fun z => n16 z.1)]; exact p1) ?_
            refine r_isub Mm dX6_pulls_167 ?_
            refine r_iload Mm dX6_pulls_168 rfl ?_
            refine r_callS (As := [(.int ((qBar p + (clampS (qLen p) (X0 - qBar p))) - (qBar p))), (.int (nI ((lo + hi + 1) / 2)))]) Mm dX6_pulls_170 rfl (cm_far hfl ((yA h (ad 26) i (qBar p + (clampS (qLen p) (X0 - qBar p))))) ((qBar p + (clampS (qLen p) (X0 - qBar p))) - (qBar p)) (nI ((lo + hi + 1) / 2))) cw_X6_149 ⟨Nat.le_of_ble_eq_true rfl, Nat.le_of_ble_eq_true rfl, Nat.le_of_ble_eq_true rfl⟩ (Nat.le_of_ble_eq_true rfl) ⟨Nat.le_of_ble_eq_true rfl, Nat.le_of_ble_eq_true rfl⟩ (fun r6 h7 p8 => ?_) (fun Er6 h7 p8 => False.elim p8)
            obtain ⟨rfl, rfl⟩ := p8
            show V 173 _ [(.int (sq2 ((qBar p + (clampS (qLen p) (X0 - qBar p))) - (qBar p)) (nI ((lo + hi + 1) / 2))))] _ _ _
            refine r_iload_n Mm dX6_pulls_173 rfl ?_
            refine r_icmp_gt (tgt := 181) Mm dX6_pulls_174 (by decide) (fun c9 => ?_) (fun c9 => ?_)
            · refine r_iconst (v := nI 0) Mm dX6_pulls_181 (by decide) ?_
              refine r_istore Mm dX6_pulls_182 (by decide) ?_
              show V 184 [some (.ref m), some (.int (nI i)), some (.int ((qLen p) * (qLen p))), some (.int (nI lo)), some (.int (nI hi)), some (.int (nI ((lo + hi + 1) / 2))), some (.int (nI 0))] _ _ _ _
              refine r_iload Mm dX6_pulls_184 rfl ?_
              refine r_if_eq (tgt := 194) Mm dX6_pulls_186 (by decide) (fun _ => ?_) (fun c10 => absurd (by decide) c10)
              refine r_iload_n Mm dX6_pulls_194 rfl ?_
              refine r_istore_n Mm dX6_pulls_195 (by decide) ?_
              show V 196 [some (.ref m), some (.int (nI i)), some (.int ((qLen p) * (qLen p))), some (.int (nI lo)), some (.int (nI hi)), some (.int (nI ((lo + hi + 1) / 2))), some (.int (nI 0))] _ _ _ _
              refine r_iload Mm dX6_pulls_196 rfl ?_
              refine r_if_eq (tgt := 206) Mm dX6_pulls_198 (by decide) (fun _ => ?_) (fun c11 => absurd (by decide) c11)
              refine r_iload Mm dX6_pulls_206 rfl ?_
              refine r_iconst (v := nI 1) Mm dX6_pulls_208 (by decide) ?_
              refine r_isubN Mm dX6_pulls_209 (by omega) ?_
              refine r_istore Mm dX6_pulls_210 (by decide) ?_
              show V 212 [some (.ref m), some (.int (nI i)), some (.int ((qLen p) * (qLen p))), some (.int (nI lo)), some (.int (nI (((lo + hi + 1) / 2) - 1))), some (.int (nI ((lo + hi + 1) / 2))), some (.int (nI 0))] _ _ _ _
              refine r_goto (tgt := 139) Mm dX6_pulls_212 (by decide) ?_
              have hsum : sq2 ((qBar p + (clampS (qLen p) (X0 - qBar p))) - qBar p) (nI ((lo + hi + 1) / 2)) = nI (D * D + ((lo + hi + 1) / 2) * ((lo + hi + 1) / 2)) := by rw [add_subx, sq2, eD, pk_mul, nI_add]
              have hhl : ((lo + hi + 1) / 2) ≤ L := by omega
              have hh2 : ((lo + hi + 1) / 2) * ((lo + hi + 1) / 2) ≤ 1500 * 1500 := Nat.mul_le_mul (by omega) (by omega)
              have ecmp : qLen p * qLen p = nI (L * L) := by rw [eL, pk_mul]
              have hc : L * L - D * D < ((lo + hi + 1) / 2) * ((lo + hi + 1) / 2) := by
                have q := c9
                rw [hsum, ecmp] at q
                have := (nI_ltI (by omega) (by omega)).mp q
                omega
              exact ih lo ((lo + hi + 1) / 2 - 1) _ _ (by omega) (by omega) (by omega) hlo (by rw [show (lo + hi + 1) / 2 - 1 + 1 = (lo + hi + 1) / 2 by omega]; exact hc)
            · refine r_iconst (v := nI 1) Mm dX6_pulls_177 (by decide) ?_
              refine r_goto (tgt := 182) Mm dX6_pulls_178 (by decide) ?_
              refine r_istore Mm dX6_pulls_182 (by decide) ?_
              show V 184 [some (.ref m), some (.int (nI i)), some (.int ((qLen p) * (qLen p))), some (.int (nI lo)), some (.int (nI hi)), some (.int (nI ((lo + hi + 1) / 2))), some (.int (nI 1))] _ _ _ _
              refine r_iload Mm dX6_pulls_184 rfl ?_
              refine r_if_eq (tgt := 194) Mm dX6_pulls_186 (by decide) (fun c12 => absurd c12 (by decide)) (fun _ => ?_)
              refine r_iload Mm dX6_pulls_189 rfl ?_
              refine r_goto (tgt := 195) Mm dX6_pulls_191 (by decide) ?_
              refine r_istore_n Mm dX6_pulls_195 (by decide) ?_
              show V 196 [some (.ref m), some (.int (nI i)), some (.int ((qLen p) * (qLen p))), some (.int (nI ((lo + hi + 1) / 2))), some (.int (nI hi)), some (.int (nI ((lo + hi + 1) / 2))), some (.int (nI 1))] _ _ _ _
              refine r_iload Mm dX6_pulls_196 rfl ?_
              refine r_if_eq (tgt := 206) Mm dX6_pulls_198 (by decide) (fun c13 => absurd c13 (by decide)) (fun _ => ?_)
              refine r_iload Mm dX6_pulls_201 rfl ?_
              refine r_goto (tgt := 210) Mm dX6_pulls_203 (by decide) ?_
              refine r_istore Mm dX6_pulls_210 (by decide) ?_
              show V 212 [some (.ref m), some (.int (nI i)), some (.int ((qLen p) * (qLen p))), some (.int (nI ((lo + hi + 1) / 2))), some (.int (nI hi)), some (.int (nI ((lo + hi + 1) / 2))), some (.int (nI 1))] _ _ _ _
              refine r_goto (tgt := 139) Mm dX6_pulls_212 (by decide) ?_
              have hsum : sq2 ((qBar p + (clampS (qLen p) (X0 - qBar p))) - qBar p) (nI ((lo + hi + 1) / 2)) = nI (D * D + ((lo + hi + 1) / 2) * ((lo + hi + 1) / 2)) := by rw [add_subx, sq2, eD, pk_mul, nI_add]
              have hhl : ((lo + hi + 1) / 2) ≤ L := by omega
              have hh2 : ((lo + hi + 1) / 2) * ((lo + hi + 1) / 2) ≤ 1500 * 1500 := Nat.mul_le_mul (by omega) (by omega)
              have ecmp : qLen p * qLen p = nI (L * L) := by rw [eL, pk_mul]
              have hc : ((lo + hi + 1) / 2) * ((lo + hi + 1) / 2) ≤ L * L - D * D := by
                have q := Int32.not_lt.mp c9
                rw [hsum, ecmp] at q
                have := (nI_leI (by omega) (by omega)).mp q
                omega
              exact ih ((lo + hi + 1) / 2) hi _ _ (by omega) (by omega) (by omega) hc hhi
      exact loop (L + 1) 0 L none none (by omega) (Nat.zero_le _) (Nat.le_refl _) (Nat.zero_le _) (by omega)
    refine r_aload_n Mm dX6_pulls_41 rfl ?_
    refine r_getR Mm dX6_pulls_42 fi_X6_71 (hM.1) rfl (i := 626) rfl ((hM.2.1 26 8 8 (by decide)).1) ?_
    refine r_iload_n Mm dX6_pulls_45 rfl ?_
    refine r_aload_n Mm dX6_pulls_46 rfl ?_
    refine r_getR Mm dX6_pulls_47 fi_X6_71 (hM.1) rfl (i := 626) rfl ((hM.2.1 26 8 8 (by decide)).1) ?_
    refine r_iload_n Mm dX6_pulls_50 rfl ?_
    refine r_ialdN Mm dX6_pulls_51 ((hM.2.1 26 8 8 (by decide)).2) (by omega) (by omega) ?_
    refine r_top _ X0 (hX) ?_
    refine r_aload_n Mm dX6_pulls_52 rfl ?_
    refine r_getR Mm dX6_pulls_53 fi_X6_7 (hM.1) rfl (i := 601) rfl ((hM.2.1 1 8 8 (by decide)).1) ?_
    refine r_iload_n Mm dX6_pulls_56 rfl ?_
    refine r_ialdN Mm dX6_pulls_57 ((hM.2.1 1 8 8 (by decide)).2) (by omega) (by omega) ?_
    refine r_top _ (qBar p) (p1) ?_
    refine r_aload_n Mm dX6_pulls_58 rfl ?_
    refine r_getR Mm dX6_pulls_59 fi_X6_13 (hM.1) rfl (i := 602) rfl ((hM.2.1 2 8 8 (by decide)).1) ?_
    refine r_iload_n Mm dX6_pulls_62 rfl ?_
    refine r_ialdN Mm dX6_pulls_63 ((hM.2.1 2 8 8 (by decide)).2) (by omega) (by omega) ?_
    refine r_top _ (qLen p) (p2) ?_
    refine r_iadd Mm dX6_pulls_64 ?_
    refine r_icmp_le (tgt := 84) Mm dX6_pulls_65 (by decide) (fun c14 => ?_) (fun c14 => ?_)
    · refine r_aload_n Mm dX6_pulls_84 rfl ?_
      refine r_getR Mm dX6_pulls_85 fi_X6_71 (hM.1) rfl (i := 626) rfl ((hM.2.1 26 8 8 (by decide)).1) ?_
      refine r_iload_n Mm dX6_pulls_88 rfl ?_
      refine r_ialdN Mm dX6_pulls_89 ((hM.2.1 26 8 8 (by decide)).2) (by omega) (by omega) ?_
      refine r_top _ X0 (hX) ?_
      refine r_aload_n Mm dX6_pulls_90 rfl ?_
      refine r_getR Mm dX6_pulls_91 fi_X6_7 (hM.1) rfl (i := 601) rfl ((hM.2.1 1 8 8 (by decide)).1) ?_
      refine r_iload_n Mm dX6_pulls_94 rfl ?_
      refine r_ialdN Mm dX6_pulls_95 ((hM.2.1 1 8 8 (by decide)).2) (by omega) (by omega) ?_
      refine r_top _ (qBar p) (p1) ?_
      refine r_aload_n Mm dX6_pulls_96 rfl ?_
      refine r_getR Mm dX6_pulls_97 fi_X6_13 (hM.1) rfl (i := 602) rfl ((hM.2.1 2 8 8 (by decide)).1) ?_
      refine r_iload_n Mm dX6_pulls_100 rfl ?_
      refine r_ialdN Mm dX6_pulls_101 ((hM.2.1 2 8 8 (by decide)).2) (by omega) (by omega) ?_
      refine r_top _ (qLen p) (p2) ?_
      refine r_isub Mm dX6_pulls_102 ?_
      refine r_icmp_ge (tgt := 122) Mm dX6_pulls_103 (by decide) (fun c15 => ?_) (fun c15 => ?_)
      · refine r_aload_n Mm dX6_pulls_122 rfl ?_
        refine r_getR Mm dX6_pulls_123 fi_X6_71 (hM.1) rfl (i := 626) rfl ((hM.2.1 26 8 8 (by decide)).1) ?_
        refine r_iload_n Mm dX6_pulls_126 rfl ?_
        refine r_ialdN Mm dX6_pulls_127 ((hM.2.1 26 8 8 (by decide)).2) (by omega) (by omega) ?_
        refine r_top _ X0 (hX) ?_
        refine r_top _ (qBar p + (clampS (qLen p) (X0 - qBar p))) (by rw [← clamp_eq hb hl hx]; exact ((if_neg (Int32.not_lt.mpr c14)).trans (if_neg (Int32.not_lt.mpr c15))).symm) ?_
        exact c128
      · refine r_aload_n Mm dX6_pulls_106 rfl ?_
        refine r_getR Mm dX6_pulls_107 fi_X6_7 (hM.1) rfl (i := 601) rfl ((hM.2.1 1 8 8 (by decide)).1) ?_
        refine r_iload_n Mm dX6_pulls_110 rfl ?_
        refine r_ialdN Mm dX6_pulls_111 ((hM.2.1 1 8 8 (by decide)).2) (by omega) (by omega) ?_
        refine r_top _ (qBar p) (p1) ?_
        refine r_aload_n Mm dX6_pulls_112 rfl ?_
        refine r_getR Mm dX6_pulls_113 fi_X6_13 (hM.1) rfl (i := 602) rfl ((hM.2.1 2 8 8 (by decide)).1) ?_
        refine r_iload_n Mm dX6_pulls_116 rfl ?_
        refine r_ialdN Mm dX6_pulls_117 ((hM.2.1 2 8 8 (by decide)).2) (by omega) (by omega) ?_
        refine r_top _ (qLen p) (p2) ?_
        refine r_isub Mm dX6_pulls_118 ?_
        refine r_goto (tgt := 128) Mm dX6_pulls_119 (by decide) ?_
        refine r_top _ (qBar p + (clampS (qLen p) (X0 - qBar p))) (by rw [← clamp_eq hb hl hx]; exact ((if_neg (Int32.not_lt.mpr c14)).trans (if_pos (Int32.not_le.mp c15))).symm) ?_
        exact c128
    · refine r_aload_n Mm dX6_pulls_68 rfl ?_
      refine r_getR Mm dX6_pulls_69 fi_X6_7 (hM.1) rfl (i := 601) rfl ((hM.2.1 1 8 8 (by decide)).1) ?_
      refine r_iload_n Mm dX6_pulls_72 rfl ?_
      refine r_ialdN Mm dX6_pulls_73 ((hM.2.1 1 8 8 (by decide)).2) (by omega) (by omega) ?_
      refine r_top _ (qBar p) (p1) ?_
      refine r_aload_n Mm dX6_pulls_74 rfl ?_
      refine r_getR Mm dX6_pulls_75 fi_X6_13 (hM.1) rfl (i := 602) rfl ((hM.2.1 2 8 8 (by decide)).1) ?_
      refine r_iload_n Mm dX6_pulls_78 rfl ?_
      refine r_ialdN Mm dX6_pulls_79 ((hM.2.1 2 8 8 (by decide)).2) (by omega) (by omega) ?_
      refine r_top _ (qLen p) (p2) ?_
      refine r_iadd Mm dX6_pulls_80 ?_
      refine r_goto (tgt := 128) Mm dX6_pulls_81 (by decide) ?_
      refine r_top _ (qBar p + (clampS (qLen p) (X0 - qBar p))) (by rw [← clamp_eq hb hl hx]; exact (if_pos (Int32.not_le.mp c14)).symm) ?_
      exact c128
  · refine r_vret M dX6_pulls_40 ?_
    rw [show pullS (qBar p) (qLen p) (X0, Y0) = (X0, Y0) from if_neg c4]
    exact ⟨rfl, Mt.rf, by rw [hX, hY], fun q _ => ⟨rfl, rfl⟩, fun q => rfl⟩
