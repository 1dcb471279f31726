/-! ===== what the document says of places, keys and spans, in numbers of the machine ===== -/
abbrev K4 : Type := Int32 × Int32 × Int32 × Int32
/-- a key: its frame, x, y, ease -/
def kv (h : Hp) (a : Nat) : K4 := (xF h 0 a, xF h 1 a, xF h 2 a, xF h 3 a)
def esy (e p : Int32) : Int32 := if e * nI 8 + p < 0 ∨ nI 32 ≤ e * nI 8 + p then nI 0 else easeL.getD (e * nI 8 + p).toNatClampNeg 0
def shr (a b : K4) (f : Int32) : Int32 := if 0 < b.1 - a.1 then esy a.2.2.2 ((f - a.1) * nI 8 / (b.1 - a.1)) else nI 0
def betw (a b : K4) (f : Int32) : Int32 × Int32 := (a.2.1 + (b.2.1 - a.2.1) * shr a b f / nI 64, a.2.2.1 + (b.2.2.1 - a.2.2.1) * shr a b f / nI 64)
def ahead (ks : List K4) (f : Int32) : Nat := (ks.takeWhile (fun k => decide (k.1 < f))).length
theorem ahead_eq {ks : List K4} {f : Int32} {i : Nat} (hi : i ≤ ks.length) (h1 : ∀ (j : Nat) (k : K4), j < i → ks[j]? = some k → k.1 < f) (h2 : ∀ k : K4, ks[i]? = some k → ¬ k.1 < f) : ahead ks f = i := by
  induction ks generalizing i with
  | nil => simp at hi; subst hi; rfl
  | cons a t ih =>
    cases i with
    | zero =>
      have := h2 a (by simp)
      simp [ahead, this]
    | succ i =>
      have ha := h1 0 a (by omega) (by simp)
      have e := ih (i := i) (by simpa using hi) (fun j k hj hk => h1 (j + 1) k (by omega) (by simpa using hk)) (fun k hk => h2 k (by simpa using hk))
      simp only [ahead, List.takeWhile_cons, ha, decide_true, if_true, List.length_cons]
      simp only [ahead] at e
      rw [e]
theorem ahead_le (ks : List K4) (f : Int32) : ahead ks f ≤ ks.length := (List.takeWhile_sublist _).length_le
def hasK (ks : List K4) (f : Int32) : Bool := (ks[ahead ks f]?).any (fun k => k.1 == f)
def behind (bar : Int32) (ks : List K4) (n : Nat) (f : Int32) : Int32 × Int32 :=
  if ks.length = 0 then (bar, nI 0) else if n = 0 then (match ks[0]? with | some k => (k.2.1, k.2.2.1) | none => (bar, nI 0)) else if ks.length ≤ n then (match ks[ks.length - 1]? with | some k => (k.2.1, k.2.2.1) | none => (bar, nI 0)) else (match ks[n - 1]?, ks[n]? with | some a, some b => betw a b f | _, _ => (bar, nI 0))
def trk (bar : Int32) (ks : List K4) (f : Int32) : Int32 × Int32 := behind bar ks (ahead ks (f + nI 1)) f
def sq2 (dx y : Int32) : Int32 := dx * dx + y * y
def rootF (s : Int32) : Nat → Int32 → Int32
  | 0, r => r
  | n + 1, r => rootF s n (if s < (r + nI (2 ^ n)) * (r + nI (2 ^ n)) then r else r + nI (2 ^ n))
def rootB (s : Int32) : Int32 := rootF s 11 (nI 0)
def meetS (a b : Int32 × Int32) : Bool := decide (a.1 < b.1 + b.2) && decide (b.1 < a.1 + a.2)
def sv (h : Hp) (a : Nat) : Int32 × Int32 := (xF h 400 a, xF h 401 a)
def pXY (h : Hp) (p : Nat) (v : Int32 × Int32) : Hp := yF (yF h 100 p v.1) 101 p v.2
def hasC (c : Nat → Bool) (n : Int32) : Bool := decide (0 ≤ n) && decide (n < nI 8) && c n.toNatClampNeg
theorem hasC_nI {c : Nat → Bool} {i : Nat} (hi : i < 8) : hasC c (nI i) = c i := by
  simp only [hasC]
  rw [nI_clamp (by omega)]
  have h1 : (0 : Int32) ≤ nI i := nI_pos' (by omega)
  have h2 : nI i < nI 8 := nI_lt hi (by decide)
  simp [h1, h2]
set_option maxRecDepth 100000 in
set_option maxHeartbeats 4000000 in
theorem ct_easing {g : Gl} {l : Launch} (hfl : l.stackTraces = false) (h : Hp) (e p : Int32) : CT g l iX5_easing 1 [.int e, .int p] h 0 0 (pRet (some (.int (esy e p))) h) := by
  refine ct_mk hfl (by decide) (Nat.le_of_ble_eq_true rfl) (by intro v hv; simp only [List.mem_cons, List.not_mem_nil, or_false] at hv; rcases hv with rfl | rfl <;> rfl) (fun V X M => ?_)
  have Mm := M.m
  show V 0 [some (.int e), some (.int p), none] [] _ 0 0
  refine r_iload_n Mm dX5_easing_0 rfl ?_
  refine r_bipush (v := nI 8) Mm dX5_easing_1 (by decide) ?_
  refine r_imul Mm dX5_easing_3 ?_
  refine r_iload_n Mm dX5_easing_4 rfl ?_
  refine r_iadd Mm dX5_easing_5 ?_
  refine r_istore_n Mm dX5_easing_6 (by decide) ?_
  show V 7 [some (.int e), some (.int p), some (.int ((e * (nI 8)) + p))] _ _ _ _
  refine r_iload_n Mm dX5_easing_7 rfl ?_
  refine r_if_lt (tgt := 19) Mm dX5_easing_8 (by decide) (fun c1 => ?_) (fun c1 => ?_)
  · refine r_iconst (v := nI 0) Mm dX5_easing_19 (by decide) ?_
    refine r_goto (tgt := 28) Mm dX5_easing_20 (by decide) ?_
    refine r_iret M dX5_easing_28 ?_
    refine ⟨?_, rfl⟩
    simp only [esy]
    rw [if_pos (Or.inl c1)]
  · refine r_iload_n Mm dX5_easing_11 rfl ?_
    refine r_getsE Mm dX5_easing_12 fs_X5_249 ?_
    refine r_alenE Mm dX5_easing_15 ?_
    refine r_icmp_lt (tgt := 23) Mm dX5_easing_16 (by decide) (fun c2 => ?_) (fun c2 => ?_)
    · refine r_getsE Mm dX5_easing_23 fs_X5_249 ?_
      refine r_iload_n Mm dX5_easing_26 rfl ?_
      refine r_ialdE Mm dX5_easing_27 (vp_of c1 c2 (by decide)) ?_
      refine r_iret M dX5_easing_28 ?_
      refine ⟨?_, rfl⟩
      simp only [esy]
      rw [if_neg (fun z => z.elim c1 (fun q => Int32.not_lt.mpr q c2))]
    · refine r_iconst (v := nI 0) Mm dX5_easing_19 (by decide) ?_
      refine r_goto (tgt := 28) Mm dX5_easing_20 (by decide) ?_
      refine r_iret M dX5_easing_28 ?_
      refine ⟨?_, rfl⟩
      simp only [esy]
      rw [if_pos (Or.inr (Int32.not_lt.mp c2))]
set_option maxRecDepth 100000 in
set_option maxHeartbeats 4000000 in
theorem ct_root {g : Gl} {l : Launch} (hfl : l.stackTraces = false) (h : Hp) (s : Int32) : CT g l iX5_rootBelow 1 [.int s] h 0 0 (pRet (some (.int (rootB s))) h) := by
  refine ct_mk hfl (by decide) (Nat.le_of_ble_eq_true rfl) (by intro v hv; simp only [List.mem_cons, List.not_mem_nil, or_false] at hv; rcases hv with rfl <;> rfl) (fun V X M => ?_)
  have Mm := M.m
  show V 0 [some (.int s), none, none, none] [] _ 0 0
  refine r_iconst (v := nI 0) Mm dX5_rootBelow_0 (by decide) ?_
  refine r_istore_n Mm dX5_rootBelow_1 (by decide) ?_
  show V 2 [some (.int s), some (.int (nI 0)), none, none] _ _ _ _
  refine r_sipush (v := nI 1024) Mm dX5_rootBelow_2 (by decide) ?_
  refine r_istore_n Mm dX5_rootBelow_5 (by decide) ?_
  show V 6 [some (.int s), some (.int (nI 0)), some (.int (nI 1024)), none] _ _ _ _
  have loop : ∀ (n : Nat) (k : Nat) (r : Int32) (x : Option Value), k < n → (k ≤ 11) → (rootF s k r = rootB s) → V 6 [some (.int s), some (.int r), some (.int (nI (if k = 0 then 0 else 2 ^ (k - 1)))), x] [] h 0 0 := by
    intro n
    induction n with
    | zero => intro k r x hm; exact absurd hm (Nat.not_lt_zero _)
    | succ n ih =>
      intro k r x hm hk hr
      cases k with
      | zero =>
        refine r_iload_n Mm dX5_rootBelow_6 rfl ?_
        refine r_if_le (tgt := 30) Mm dX5_rootBelow_7 (by decide) (fun _ => ?_) (fun c => absurd (show nI (if 0 = 0 then 0 else 2 ^ (0 - 1)) ≤ 0 by decide) c)
        refine r_iload_n Mm dX5_rootBelow_30 rfl ?_
        refine r_iret M dX5_rootBelow_31 ?_
        exact ⟨by rw [← hr]; rfl, rfl⟩
      | succ k =>
        have hpw : (2:Nat) ^ k < 2 ^ 31 := Nat.pow_lt_pow_right (by decide) (by omega)
        show V 6 [some (.int s), some (.int r), some (.int (nI (2 ^ k))), _] [] h 0 0
        refine r_iload_n Mm dX5_rootBelow_6 rfl ?_
        refine r_if_le (tgt := 30) Mm dX5_rootBelow_7 (by decide) (fun c => absurd ((nI_le0 hpw).mp c) (Nat.ne_of_gt (Nat.pow_pos (by decide)))) (fun _ => ?_)
        refine r_iload_n Mm dX5_rootBelow_10 rfl ?_
        refine r_iload_n Mm dX5_rootBelow_11 rfl ?_
        refine r_iadd Mm dX5_rootBelow_12 ?_
        refine r_istore_n Mm dX5_rootBelow_13 (by decide) ?_
        show V 14 [some (.int s), some (.int r), some (.int (nI (2 ^ k))), some (.int (r + (nI (2 ^ k))))] _ _ _ _
        refine r_iload_n Mm dX5_rootBelow_14 rfl ?_
        refine r_iload_n Mm dX5_rootBelow_15 rfl ?_
        refine r_imul Mm dX5_rootBelow_16 ?_
        refine r_iload_n Mm dX5_rootBelow_17 rfl ?_
        refine r_icmp_gt (tgt := 23) Mm dX5_rootBelow_18 (by decide) (fun c1 => ?_) (fun c1 => ?_)
        · refine r_iload_n Mm dX5_rootBelow_23 rfl ?_
          refine r_iconst (v := nI 2) Mm dX5_rootBelow_24 (by decide) ?_
          refine r_idiv Mm dX5_rootBelow_25 (by decide) ?_
          refine r_top _ (nI (if k = 0 then 0 else 2 ^ (k - 1))) (by rw [pk_div hpw (by decide) (by decide)]; congr 1; cases k with | zero => rfl | succ k => simp [Nat.pow_succ]) ?_
          refine r_istore_n Mm dX5_rootBelow_26 (by decide) ?_
          refine r_goto (tgt := 6) Mm dX5_rootBelow_27 (by decide) ?_
          exact ih k r _ (by omega) (by omega) (by rw [← hr]; show _ = rootF s k (if s < (r + nI (2 ^ k)) * (r + nI (2 ^ k)) then r else r + nI (2 ^ k)); rw [if_pos c1])
        · refine r_iload_n Mm dX5_rootBelow_21 rfl ?_
          refine r_istore_n Mm dX5_rootBelow_22 (by decide) ?_
          show V 23 [some (.int s), some (.int (r + (nI (2 ^ k)))), some (.int (nI (2 ^ k))), some (.int (r + (nI (2 ^ k))))] _ _ _ _
          refine r_iload_n Mm dX5_rootBelow_23 rfl ?_
          refine r_iconst (v := nI 2) Mm dX5_rootBelow_24 (by decide) ?_
          refine r_idiv Mm dX5_rootBelow_25 (by decide) ?_
          refine r_top _ (nI (if k = 0 then 0 else 2 ^ (k - 1))) (by rw [pk_div hpw (by decide) (by decide)]; congr 1; cases k with | zero => rfl | succ k => simp [Nat.pow_succ]) ?_
          refine r_istore_n Mm dX5_rootBelow_26 (by decide) ?_
          refine r_goto (tgt := 6) Mm dX5_rootBelow_27 (by decide) ?_
          exact ih k (r + nI (2 ^ k)) _ (by omega) (by omega) (by rw [← hr]; show _ = rootF s k (if s < (r + nI (2 ^ k)) * (r + nI (2 ^ k)) then r else r + nI (2 ^ k)); rw [if_neg c1])
  exact loop (12) 11 (nI 0) none (by omega) (by decide) rfl
set_option maxRecDepth 100000 in
set_option maxHeartbeats 4000000 in
theorem ct_key {g : Gl} {l : Launch} (hfl : l.stackTraces = false) (h : Hp) (a : Nat) (f x y e : Int32) (hs : xS h a = some (0, 0)) : CT g l iX0_init 2 [.ref a, .int f, .int x, .int y, .int e] h 0 0 (pRet none (yF (yF (yF (yF h 0 a f) 1 a x) 2 a y) 3 a e)) := by
  refine ct_mk hfl (by decide) (Nat.le_of_ble_eq_true rfl) (by intro v hv; simp only [List.mem_cons, List.not_mem_nil, or_false] at hv; rcases hv with rfl | rfl | rfl | rfl | rfl <;> rfl) (fun V X M => ?_)
  have Mm := M.m
  show V 0 [some (.ref a), some (.int f), some (.int x), some (.int y), some (.int e)] [] _ 0 0
  refine r_aload_n Mm dX0_init_0 rfl ?_
  refine r_objInit Mm dX0_init_1 co_X0_1 coi coc (Nat.le_of_ble_eq_true rfl) (Nat.le_of_ble_eq_true rfl) ?_
  refine r_aload_n Mm dX0_init_4 rfl ?_
  refine r_iload_n Mm dX0_init_5 rfl ?_
  refine r_putIF (ty := .int) Mm dX0_init_6 fi_X0_7 ki_0 rfl (hs) rfl (i := 0) rfl rfl (by decide +kernel) rfl rfl rfl rfl ?_
  refine r_aload_n Mm dX0_init_9 rfl ?_
  refine r_iload_n Mm dX0_init_10 rfl ?_
  refine r_putIF (ty := .int) Mm dX0_init_11 fi_X0_13 ki_0 rfl (hs) rfl (i := 1) rfl rfl (by decide +kernel) rfl rfl rfl rfl ?_
  refine r_aload_n Mm dX0_init_14 rfl ?_
  refine r_iload_n Mm dX0_init_15 rfl ?_
  refine r_putIF (ty := .int) Mm dX0_init_16 fi_X0_16 ki_0 rfl (hs) rfl (i := 2) rfl rfl (by decide +kernel) rfl rfl rfl rfl ?_
  refine r_aload_n Mm dX0_init_19 rfl ?_
  refine r_iload Mm dX0_init_20 rfl ?_
  refine r_putIF (ty := .int) Mm dX0_init_22 fi_X0_19 ki_0 rfl (hs) rfl (i := 3) rfl rfl (by decide +kernel) rfl rfl rfl rfl ?_
  refine r_vret M dX0_init_25 ?_
  exact ⟨rfl, rfl⟩
set_option maxRecDepth 100000 in
set_option maxHeartbeats 4000000 in
theorem ct_span {g : Gl} {l : Launch} (hfl : l.stackTraces = false) (h : Hp) (a : Nat) (x y : Int32) (hs : xS h a = some (4, 0)) : CT g l iX4_init 2 [.ref a, .int x, .int y] h 0 0 (pRet none (yF (yF h 400 a x) 401 a y)) := by
  refine ct_mk hfl (by decide) (Nat.le_of_ble_eq_true rfl) (by intro v hv; simp only [List.mem_cons, List.not_mem_nil, or_false] at hv; rcases hv with rfl | rfl | rfl <;> rfl) (fun V X M => ?_)
  have Mm := M.m
  show V 0 [some (.ref a), some (.int x), some (.int y)] [] _ 0 0
  refine r_aload_n Mm dX4_init_0 rfl ?_
  refine r_objInit Mm dX4_init_1 co_X4_1 coi coc (Nat.le_of_ble_eq_true rfl) (Nat.le_of_ble_eq_true rfl) ?_
  refine r_aload_n Mm dX4_init_4 rfl ?_
  refine r_iload_n Mm dX4_init_5 rfl ?_
  refine r_putIF (ty := .int) Mm dX4_init_6 fi_X4_7 ki_4 rfl (hs) rfl (i := 400) rfl rfl (by decide +kernel) rfl rfl rfl rfl ?_
  refine r_aload_n Mm dX4_init_9 rfl ?_
  refine r_iload_n Mm dX4_init_10 rfl ?_
  refine r_putIF (ty := .int) Mm dX4_init_11 fi_X4_13 ki_4 rfl (hs) rfl (i := 401) rfl rfl (by decide +kernel) rfl rfl rfl rfl ?_
  refine r_vret M dX4_init_14 ?_
  exact ⟨rfl, rfl⟩
set_option maxRecDepth 100000 in
set_option maxHeartbeats 4000000 in
theorem ct_meets {g : Gl} {l : Launch} (hfl : l.stackTraces = false) (h : Hp) (a b : Nat) (hs : xS h a = some (4, 0)) (hb : xS h b = some (4, 0)) : CT g l iX4_meets 1 [.ref a, .ref b] h 0 0 (pRet (some (.int (bI (meetS (sv h a) (sv h b))))) h) := by
  refine ct_mk hfl (by decide) (Nat.le_of_ble_eq_true rfl) (by intro v hv; simp only [List.mem_cons, List.not_mem_nil, or_false] at hv; rcases hv with rfl | rfl <;> rfl) (fun V X M => ?_)
  have Mm := M.m
  show V 0 [some (.ref a), some (.ref b)] [] _ 0 0
  refine r_aload_n Mm dX4_meets_0 rfl ?_
  refine r_getI Mm dX4_meets_1 fi_X4_7 (hs) rfl (i := 400) rfl ?_
  refine r_aload_n Mm dX4_meets_4 rfl ?_
  refine r_getI Mm dX4_meets_5 fi_X4_7 (hb) rfl (i := 400) rfl ?_
  refine r_aload_n Mm dX4_meets_8 rfl ?_
  refine r_getI Mm dX4_meets_9 fi_X4_13 (hb) rfl (i := 401) rfl ?_
  refine r_iadd Mm dX4_meets_12 ?_
  refine r_icmp_ge (tgt := 36) Mm dX4_meets_13 (by decide) (fun c1 => ?_) (fun c1 => ?_)
  · refine r_iconst (v := nI 0) Mm dX4_meets_36 (by decide) ?_
    refine r_zret M dX4_meets_37 (by decide) ?_
    refine ⟨?_, rfl⟩
    rw [show meetS (sv h a) (sv h b) = false by simp [meetS, sv, Int32.not_lt.mpr c1]]; rfl
  · refine r_aload_n Mm dX4_meets_16 rfl ?_
    refine r_getI Mm dX4_meets_17 fi_X4_7 (hb) rfl (i := 400) rfl ?_
    refine r_aload_n Mm dX4_meets_20 rfl ?_
    refine r_getI Mm dX4_meets_21 fi_X4_7 (hs) rfl (i := 400) rfl ?_
    refine r_aload_n Mm dX4_meets_24 rfl ?_
    refine r_getI Mm dX4_meets_25 fi_X4_13 (hs) rfl (i := 401) rfl ?_
    refine r_iadd Mm dX4_meets_28 ?_
    refine r_icmp_ge (tgt := 36) Mm dX4_meets_29 (by decide) (fun c2 => ?_) (fun c2 => ?_)
    · refine r_iconst (v := nI 0) Mm dX4_meets_36 (by decide) ?_
      refine r_zret M dX4_meets_37 (by decide) ?_
      refine ⟨?_, rfl⟩
      rw [show meetS (sv h a) (sv h b) = false by simp [meetS, sv, Int32.not_lt.mpr c2]]; rfl
    · refine r_iconst (v := nI 1) Mm dX4_meets_32 (by decide) ?_
      refine r_goto (tgt := 37) Mm dX4_meets_33 (by decide) ?_
      refine r_zret M dX4_meets_37 (by decide) ?_
      refine ⟨?_, rfl⟩
      rw [show meetS (sv h a) (sv h b) = true by simp only [meetS, sv, Int32.not_le.mp c1, Int32.not_le.mp c2, decide_true, Bool.and_self]]; rfl
set_option maxRecDepth 100000 in
set_option maxHeartbeats 4000000 in
theorem ct_placeInit {g : Gl} {l : Launch} (hfl : l.stackTraces = false) (h : Hp) (a : Nat) : CT g l iX1_init 2 [.ref a] h 0 0 (pRet none h) := by
  refine ct_mk hfl (by decide) (Nat.le_of_ble_eq_true rfl) (by intro v hv; simp only [List.mem_cons, List.not_mem_nil, or_false] at hv; rcases hv with rfl <;> rfl) (fun V X M => ?_)
  have Mm := M.m
  show V 0 [some (.ref a)] [] _ 0 0
  refine r_aload_n Mm dX1_init_0 rfl ?_
  refine r_objInit Mm dX1_init_1 co_X1_3 coi coc (Nat.le_of_ble_eq_true rfl) (Nat.le_of_ble_eq_true rfl) ?_
  refine r_vret M dX1_init_4 ?_
  exact ⟨rfl, rfl⟩
set_option maxRecDepth 100000 in
set_option maxHeartbeats 4000000 in
theorem ct_together {g : Gl} {l : Launch} (hfl : l.stackTraces = false) (h : Hp) (p : Nat) (hs : xS h p = some (1, 0)) : CT g l iX1_together 1 [.ref p] h 0 0 (pRet (some (.int (nI 1000 * xF h 100 p + xF h 101 p))) h) := by
  refine ct_mk hfl (by decide) (Nat.le_of_ble_eq_true rfl) (by intro v hv; simp only [List.mem_cons, List.not_mem_nil, or_false] at hv; rcases hv with rfl <;> rfl) (fun V X M => ?_)
  have Mm := M.m
  show V 0 [some (.ref p)] [] _ 0 0
  refine r_sipush (v := nI 1000) Mm dX1_together_0 (by decide) ?_
  refine r_aload_n Mm dX1_together_3 rfl ?_
  refine r_getI Mm dX1_together_4 fi_X1_9 (hs) rfl (i := 100) rfl ?_
  refine r_imul Mm dX1_together_7 ?_
  refine r_aload_n Mm dX1_together_8 rfl ?_
  refine r_getI Mm dX1_together_9 fi_X1_15 (hs) rfl (i := 101) rfl ?_
  refine r_iadd Mm dX1_together_12 ?_
  refine r_iret M dX1_together_13 ?_
  exact ⟨rfl, rfl⟩
set_option maxRecDepth 100000 in
set_option maxHeartbeats 4000000 in
theorem ct_putAt {g : Gl} {l : Launch} (hfl : l.stackTraces = false) (h : Hp) (p k : Nat) (hs : xS h p = some (1, 0)) (hk : xS h k = some (0, 0)) : CT g l iX1_putAt 1 [.ref p, .ref k] h 0 0 (pRet none (pXY h p ((kv h k).2.1, (kv h k).2.2.1))) := by
  refine ct_mk hfl (by decide) (Nat.le_of_ble_eq_true rfl) (by intro v hv; simp only [List.mem_cons, List.not_mem_nil, or_false] at hv; rcases hv with rfl | rfl <;> rfl) (fun V X M => ?_)
  have Mm := M.m
  show V 0 [some (.ref p), some (.ref k)] [] _ 0 0
  refine r_aload_n Mm dX1_putAt_0 rfl ?_
  refine r_aload_n Mm dX1_putAt_1 rfl ?_
  refine r_getI Mm dX1_putAt_2 fi_X1_18 (hk) rfl (i := 1) rfl ?_
  refine r_putI (ty := .int) Mm dX1_putAt_5 fi_X1_9 ki_1 rfl (hs) rfl (i := 100) rfl rfl (by decide +kernel) rfl rfl ?_
  refine r_aload_n Mm dX1_putAt_8 rfl ?_
  refine r_aload_n Mm dX1_putAt_9 rfl ?_
  refine r_getI Mm dX1_putAt_10 fi_X1_21 (hk) rfl (i := 2) rfl ?_
  refine r_putI (ty := .int) Mm dX1_putAt_13 fi_X1_15 ki_1 rfl (hs) rfl (i := 101) rfl rfl (by decide +kernel) rfl rfl ?_
  refine r_vret M dX1_putAt_16 ?_
  exact ⟨rfl, rfl⟩
set_option maxRecDepth 100000 in
set_option maxHeartbeats 4000000 in
theorem ct_putBetween {g : Gl} {l : Launch} (hfl : l.stackTraces = false) (h : Hp) (p a b : Nat) (f : Int32) (hs : xS h p = some (1, 0)) (ha : xS h a = some (0, 0)) (hb : xS h b = some (0, 0)) : CT g l iX1_putBetween 2 [.ref p, .ref a, .ref b, .int f] h 0 0 (pRet none (pXY h p (betw (kv h a) (kv h b) f))) := by
  refine ct_mk hfl (by decide) (Nat.le_of_ble_eq_true rfl) (by intro v hv; simp only [List.mem_cons, List.not_mem_nil, or_false] at hv; rcases hv with rfl | rfl | rfl | rfl <;> rfl) (fun V X M => ?_)
  have Mm := M.m
  show V 0 [some (.ref p), some (.ref a), some (.ref b), some (.int f), none, none, none] [] _ 0 0
  refine r_aload_n Mm dX1_putBetween_0 rfl ?_
  refine r_getI Mm dX1_putBetween_1 fi_X1_22 (hb) rfl (i := 0) rfl ?_
  refine r_aload_n Mm dX1_putBetween_4 rfl ?_
  refine r_getI Mm dX1_putBetween_5 fi_X1_22 (ha) rfl (i := 0) rfl ?_
  refine r_isub Mm dX1_putBetween_8 ?_
  refine r_istore Mm dX1_putBetween_9 (by decide) ?_
  show V 11 [some (.ref p), some (.ref a), some (.ref b), some (.int f), some (.int ((xF h 0 b) - (xF h 0 a))), none, none] _ _ _ _
  refine r_iload_n Mm dX1_putBetween_11 rfl ?_
  refine r_aload_n Mm dX1_putBetween_12 rfl ?_
  refine r_getI Mm dX1_putBetween_13 fi_X1_22 (ha) rfl (i := 0) rfl ?_
  refine r_isub Mm dX1_putBetween_16 ?_
  refine r_istore Mm dX1_putBetween_17 (by decide) ?_
  show V 19 [some (.ref p), some (.ref a), some (.ref b), some (.int f), some (.int ((xF h 0 b) - (xF h 0 a))), some (.int (f - (xF h 0 a))), none] _ _ _ _
  refine r_iload Mm dX1_putBetween_19 rfl ?_
  refine r_if_le (tgt := 42) Mm dX1_putBetween_21 (by decide) (fun c1 => ?_) (fun c1 => ?_)
  · refine r_iconst (v := nI 0) Mm dX1_putBetween_42 (by decide) ?_
    refine r_istore Mm dX1_putBetween_43 (by decide) ?_
    show V 45 [some (.ref p), some (.ref a), some (.ref b), some (.int f), some (.int ((xF h 0 b) - (xF h 0 a))), some (.int (f - (xF h 0 a))), some (.int (nI 0))] _ _ _ _
    refine r_aload_n Mm dX1_putBetween_45 rfl ?_
    refine r_aload_n Mm dX1_putBetween_46 rfl ?_
    refine r_getI Mm dX1_putBetween_47 fi_X1_18 (ha) rfl (i := 1) rfl ?_
    refine r_aload_n Mm dX1_putBetween_50 rfl ?_
    refine r_getI Mm dX1_putBetween_51 fi_X1_18 (hb) rfl (i := 1) rfl ?_
    refine r_aload_n Mm dX1_putBetween_54 rfl ?_
    refine r_getI Mm dX1_putBetween_55 fi_X1_18 (ha) rfl (i := 1) rfl ?_
    refine r_isub Mm dX1_putBetween_58 ?_
    refine r_iload Mm dX1_putBetween_59 rfl ?_
    refine r_imul Mm dX1_putBetween_61 ?_
    refine r_bipush (v := nI 64) Mm dX1_putBetween_62 (by decide) ?_
    refine r_idiv Mm dX1_putBetween_64 (by decide) ?_
    refine r_iadd Mm dX1_putBetween_65 ?_
    refine r_putI (ty := .int) Mm dX1_putBetween_66 fi_X1_9 ki_1 rfl (hs) rfl (i := 100) rfl rfl (by decide +kernel) rfl rfl ?_
    refine r_aload_n Mm dX1_putBetween_69 rfl ?_
    refine r_aload_n Mm dX1_putBetween_70 rfl ?_
    refine r_getI Mm dX1_putBetween_71 fi_X1_21 (ha) rfl (i := 2) rfl ?_
    refine r_aload_n Mm dX1_putBetween_74 rfl ?_
    refine r_getI Mm dX1_putBetween_75 fi_X1_21 (hb) rfl (i := 2) rfl ?_
    refine r_aload_n Mm dX1_putBetween_78 rfl ?_
    refine r_getI Mm dX1_putBetween_79 fi_X1_21 (ha) rfl (i := 2) rfl ?_
    refine r_isub Mm dX1_putBetween_82 ?_
    refine r_iload Mm dX1_putBetween_83 rfl ?_
    refine r_imul Mm dX1_putBetween_85 ?_
    refine r_bipush (v := nI 64) Mm dX1_putBetween_86 (by decide) ?_
    refine r_idiv Mm dX1_putBetween_88 (by decide) ?_
    refine r_iadd Mm dX1_putBetween_89 ?_
    refine r_putI (ty := .int) Mm dX1_putBetween_90 fi_X1_15 ki_1 rfl (hs) rfl (i := 101) rfl rfl (by decide +kernel) rfl rfl ?_
    refine r_vret M dX1_putBetween_93 ?_
    refine ⟨rfl, ?_⟩
    show pXY h p (betw (kv h a) (kv h b) f) = _
    have e : shr (kv h a) (kv h b) f = _ := if_neg (Int32.not_lt.mpr c1)
    simp only [betw, e]
    rfl
  · refine r_aload_n Mm dX1_putBetween_24 rfl ?_
    refine r_getI Mm dX1_putBetween_25 fi_X1_25 (ha) rfl (i := 3) rfl ?_
    refine r_iload Mm dX1_putBetween_28 rfl ?_
    refine r_bipush (v := nI 8) Mm dX1_putBetween_30 (by decide) ?_
    refine r_imul Mm dX1_putBetween_32 ?_
    refine r_iload Mm dX1_putBetween_33 rfl ?_
    refine r_idiv Mm dX1_putBetween_35 (fun z => c1 (by rw [z]; decide)) ?_
    refine r_callSN (As := [(.int (xF h 3 a)), (.int (((f - (xF h 0 a)) * (nI 8)) / ((xF h 0 b) - (xF h 0 a))))]) Mm dX1_putBetween_36 rfl (ct_easing hfl h (xF h 3 a) (((f - (xF h 0 a)) * (nI 8)) / ((xF h 0 b) - (xF h 0 a)))) cw_X1_28 ⟨Nat.le_of_ble_eq_true rfl, Nat.le_of_ble_eq_true rfl, Nat.le_of_ble_eq_true rfl⟩ (Nat.le_of_ble_eq_true rfl) ⟨Nat.le_of_ble_eq_true rfl, Nat.le_of_ble_eq_true rfl⟩ (fun r2 h3 p4 => ?_) (fun _ _ z => z)
    obtain ⟨rfl, rfl⟩ := p4
    show V 39 _ [(.int (esy (xF h 3 a) (((f - (xF h 0 a)) * (nI 8)) / ((xF h 0 b) - (xF h 0 a)))))] _ _ _
    refine r_goto (tgt := 43) Mm dX1_putBetween_39 (by decide) ?_
    refine r_istore Mm dX1_putBetween_43 (by decide) ?_
    show V 45 [some (.ref p), some (.ref a), some (.ref b), some (.int f), some (.int ((xF h 0 b) - (xF h 0 a))), some (.int (f - (xF h 0 a))), some (.int (esy (xF h 3 a) (((f - (xF h 0 a)) * (nI 8)) / ((xF h 0 b) - (xF h 0 a)))))] _ _ _ _
    refine r_aload_n Mm dX1_putBetween_45 rfl ?_
    refine r_aload_n Mm dX1_putBetween_46 rfl ?_
    refine r_getI Mm dX1_putBetween_47 fi_X1_18 (ha) rfl (i := 1) rfl ?_
    refine r_aload_n Mm dX1_putBetween_50 rfl ?_
    refine r_getI Mm dX1_putBetween_51 fi_X1_18 (hb) rfl (i := 1) rfl ?_
    refine r_aload_n Mm dX1_putBetween_54 rfl ?_
    refine r_getI Mm dX1_putBetween_55 fi_X1_18 (ha) rfl (i := 1) rfl ?_
    refine r_isub Mm dX1_putBetween_58 ?_
    refine r_iload Mm dX1_putBetween_59 rfl ?_
    refine r_imul Mm dX1_putBetween_61 ?_
    refine r_bipush (v := nI 64) Mm dX1_putBetween_62 (by decide) ?_
    refine r_idiv Mm dX1_putBetween_64 (by decide) ?_
    refine r_iadd Mm dX1_putBetween_65 ?_
    refine r_putI (ty := .int) Mm dX1_putBetween_66 fi_X1_9 ki_1 rfl (hs) rfl (i := 100) rfl rfl (by decide +kernel) rfl rfl ?_
    refine r_aload_n Mm dX1_putBetween_69 rfl ?_
    refine r_aload_n Mm dX1_putBetween_70 rfl ?_
    refine r_getI Mm dX1_putBetween_71 fi_X1_21 (ha) rfl (i := 2) rfl ?_
    refine r_aload_n Mm dX1_putBetween_74 rfl ?_
    refine r_getI Mm dX1_putBetween_75 fi_X1_21 (hb) rfl (i := 2) rfl ?_
    refine r_aload_n Mm dX1_putBetween_78 rfl ?_
    refine r_getI Mm dX1_putBetween_79 fi_X1_21 (ha) rfl (i := 2) rfl ?_
    refine r_isub Mm dX1_putBetween_82 ?_
    refine r_iload Mm dX1_putBetween_83 rfl ?_
    refine r_imul Mm dX1_putBetween_85 ?_
    refine r_bipush (v := nI 64) Mm dX1_putBetween_86 (by decide) ?_
    refine r_idiv Mm dX1_putBetween_88 (by decide) ?_
    refine r_iadd Mm dX1_putBetween_89 ?_
    refine r_putI (ty := .int) Mm dX1_putBetween_90 fi_X1_15 ki_1 rfl (hs) rfl (i := 101) rfl rfl (by decide +kernel) rfl rfl ?_
    refine r_vret M dX1_putBetween_93 ?_
    refine ⟨rfl, ?_⟩
    show pXY h p (betw (kv h a) (kv h b) f) = _
    have e : shr (kv h a) (kv h b) f = _ := if_pos (Int32.not_le.mp c1)
    simp only [betw, e]
    rfl
set_option maxRecDepth 100000 in
set_option maxHeartbeats 4000000 in
theorem ct_showInit {g : Gl} {l : Launch} (hfl : l.stackTraces = false) (h : Hp) (a b : Nat) (hs : xS h a = some (3, 0)) : CT g l iX3_init 2 [.ref a, .ref b] h 1 8 (pRel (fun r h' => ∃ q : Nat, xS h q = none ∧ r = none ∧ h' = yF (yF (yF (yF (yP (yN (yP h 300 a (some b)) q 9 8) 301 a (some q)) 302 a (nI 0)) 303 a (nI 50)) 304 a (nI 0)) 305 a (nI 0))) := by
  refine ct_mk hfl (by decide) (Nat.le_of_ble_eq_true rfl) (by intro v hv; simp only [List.mem_cons, List.not_mem_nil, or_false] at hv; rcases hv with rfl | rfl <;> rfl) (fun V X M => ?_)
  have Mm := M.m
  show V 0 [some (.ref a), some (.ref b)] [] _ 0 0
  refine r_aload_n Mm dX3_init_0 rfl ?_
  refine r_objInit Mm dX3_init_1 co_X3_3 coi coc (Nat.le_of_ble_eq_true rfl) (Nat.le_of_ble_eq_true rfl) ?_
  refine r_aload_n Mm dX3_init_4 rfl ?_
  refine r_aload_n Mm dX3_init_5 rfl ?_
  refine r_putRF (v := some b) (ty := .object "Puppetloom$Span") Mm dX3_init_6 fi_X3_9 ki_3 rfl (hs) rfl (i := 300) rfl rfl (by decide +kernel) rfl rfl rfl rfl ?_
  refine r_aload_n Mm dX3_init_9 rfl ?_
  refine r_bipush (v := nI 8) Mm dX3_init_10 (by decide) ?_
  refine r_newZ (N := 8) Mm dX3_init_12 ac_boolean (nI_pos (by omega)) (nI_clamp (by omega)) (by first | decide | (show _ * 4 ≤ _; omega)) ⟨Nat.le_of_ble_eq_true rfl, Nat.le_of_ble_eq_true rfl⟩ (fun q1 hq1 => ?_)
  refine r_putRF (v := some q1) (ty := .array .boolean) Mm dX3_init_14 fi_X3_15 ki_3 rfl (yN_S hq1 (hs)) rfl (i := 301) rfl rfl (by decide +kernel) rfl rfl rfl rfl ?_
  refine r_aload_n Mm dX3_init_17 rfl ?_
  refine r_iconst (v := nI 0) Mm dX3_init_18 (by decide) ?_
  refine r_putI (ty := .int) Mm dX3_init_19 fi_X3_19 ki_3 rfl (yN_S hq1 (hs)) rfl (i := 302) rfl rfl (by decide +kernel) rfl rfl ?_
  refine r_aload_n Mm dX3_init_22 rfl ?_
  refine r_bipush (v := nI 50) Mm dX3_init_23 (by decide) ?_
  refine r_putI (ty := .int) Mm dX3_init_25 fi_X3_23 ki_3 rfl (yN_S hq1 (hs)) rfl (i := 303) rfl rfl (by decide +kernel) rfl rfl ?_
  refine r_aload_n Mm dX3_init_28 rfl ?_
  refine r_iconst (v := nI 0) Mm dX3_init_29 (by decide) ?_
  refine r_putI (ty := .int) Mm dX3_init_30 fi_X3_26 ki_3 rfl (yN_S hq1 (hs)) rfl (i := 304) rfl rfl (by decide +kernel) rfl rfl ?_
  refine r_aload_n Mm dX3_init_33 rfl ?_
  refine r_iconst (v := nI 0) Mm dX3_init_34 (by decide) ?_
  refine r_putI (ty := .boolean) Mm dX3_init_35 fi_X3_29 ki_3 rfl (yN_S hq1 (hs)) rfl (i := 305) rfl rfl (by decide +kernel) rfl rfl ?_
  refine r_vret M dX3_init_38 ?_
  exact ⟨q1, hq1, rfl, rfl⟩
set_option maxRecDepth 100000 in
set_option maxHeartbeats 4000000 in
theorem ct_hasPuppet {g : Gl} {l : Launch} (hfl : l.stackTraces = false) (h : Hp) (a A : Nat) (c : Nat → Bool) (hs : xS h a = some (3, 0)) (hA : xP h 301 a = some A) (hAs : xS h A = some (9, 8)) (hc : ∀ j, xA h A j = bI (c j)) (n : Int32) : CT g l iX3_hasPuppet 1 [.ref a, .int n] h 0 0 (pRet (some (.int (bI (hasC c n)))) h) := by
  refine ct_mk hfl (by decide) (Nat.le_of_ble_eq_true rfl) (by intro v hv; simp only [List.mem_cons, List.not_mem_nil, or_false] at hv; rcases hv with rfl | rfl <;> rfl) (fun V X M => ?_)
  have Mm := M.m
  show V 0 [some (.ref a), some (.int n)] [] _ 0 0
  refine r_iload_n Mm dX3_hasPuppet_0 rfl ?_
  refine r_if_lt (tgt := 26) Mm dX3_hasPuppet_1 (by decide) (fun c1 => ?_) (fun c1 => ?_)
  · refine r_iconst (v := nI 0) Mm dX3_hasPuppet_26 (by decide) ?_
    refine r_zret M dX3_hasPuppet_27 (by decide) ?_
    refine ⟨?_, rfl⟩
    rw [show hasC c n = false by simp only [hasC, decide_eq_false (Int32.not_le.mpr c1), Bool.false_and]]; rfl
  · refine r_iload_n Mm dX3_hasPuppet_4 rfl ?_
    refine r_aload_n Mm dX3_hasPuppet_5 rfl ?_
    refine r_getR Mm dX3_hasPuppet_6 fi_X3_15 (hs) rfl (i := 301) rfl (hA) ?_
    refine r_alenZ Mm dX3_hasPuppet_9 (hAs) ?_
    refine r_icmp_ge (tgt := 26) Mm dX3_hasPuppet_10 (by decide) (fun c2 => ?_) (fun c2 => ?_)
    · refine r_iconst (v := nI 0) Mm dX3_hasPuppet_26 (by decide) ?_
      refine r_zret M dX3_hasPuppet_27 (by decide) ?_
      refine ⟨?_, rfl⟩
      rw [show hasC c n = false by simp only [hasC, decide_eq_false (Int32.not_lt.mpr c2), Bool.and_false, Bool.false_and]]; rfl
    · refine r_aload_n Mm dX3_hasPuppet_13 rfl ?_
      refine r_getR Mm dX3_hasPuppet_14 fi_X3_15 (hs) rfl (i := 301) rfl (hA) ?_
      refine r_iload_n Mm dX3_hasPuppet_17 rfl ?_
      refine r_zald Mm dX3_hasPuppet_18 (hAs) (vp_of c1 (Int32.not_le.mp c2) (by decide)) ?_
      refine r_top _ (bI (c n.toNatClampNeg)) (hc _) ?_
      refine r_if_eqB (tgt := 26) Mm dX3_hasPuppet_19 (by decide) (fun c3 => ?_) (fun c3 => ?_)
      · refine r_iconst (v := nI 0) Mm dX3_hasPuppet_26 (by decide) ?_
        refine r_zret M dX3_hasPuppet_27 (by decide) ?_
        refine ⟨?_, rfl⟩
        rw [show hasC c n = false by simp only [hasC, c3, Bool.and_false]]; rfl
      · refine r_iconst (v := nI 1) Mm dX3_hasPuppet_22 (by decide) ?_
        refine r_goto (tgt := 27) Mm dX3_hasPuppet_23 (by decide) ?_
        refine r_zret M dX3_hasPuppet_27 (by decide) ?_
        refine ⟨?_, rfl⟩
        rw [show hasC c n = true by simp only [hasC, decide_eq_true (Int32.not_lt.mp c1), decide_eq_true (Int32.not_le.mp c2), c3, Bool.and_self]]; rfl
set_option maxRecDepth 100000 in
set_option maxHeartbeats 4000000 in
theorem ct_take {g : Gl} {l : Launch} (hfl : l.stackTraces = false) (h : Hp) (a A : Nat) (c : Nat → Bool) (hs : xS h a = some (3, 0)) (hA : xP h 301 a = some A) (hAs : xS h A = some (9, 8)) (hc : ∀ j, xA h A j = bI (c j)) (i : Nat) (hi : i < 8) (hci : c i = false) : CT g l iX3_take 1 [.ref a, .int (nI i)] h 0 0 (pRet none (yF (yA h A i (nI 1)) 302 a (xF h 302 a + nI 1))) := by
  refine ct_mk hfl (by decide) (Nat.le_of_ble_eq_true rfl) (by intro v hv; simp only [List.mem_cons, List.not_mem_nil, or_false] at hv; rcases hv with rfl | rfl <;> rfl) (fun V X M => ?_)
  have Mm := M.m
  show V 0 [some (.ref a), some (.int (nI i))] [] _ 0 0
  refine r_iload_n Mm dX3_take_0 rfl ?_
  refine r_if_lt (tgt := 39) Mm dX3_take_1 (by decide) (fun c1 => absurd c1 (nI_pos (by omega))) (fun _ => ?_)
  refine r_iload_n Mm dX3_take_4 rfl ?_
  refine r_aload_n Mm dX3_take_5 rfl ?_
  refine r_getR Mm dX3_take_6 fi_X3_15 (hs) rfl (i := 301) rfl (hA) ?_
  refine r_alenZ Mm dX3_take_9 (hAs) ?_
  refine r_icmp_geN (tgt := 39) Mm dX3_take_10 (by decide) (by omega) (by omega) (fun c2 => ?_) (fun c2 => ?_)
  · exact absurd c2 (by first | omega | (rw [hci]; decide))
  · refine r_aload_n Mm dX3_take_13 rfl ?_
    refine r_getR Mm dX3_take_14 fi_X3_15 (hs) rfl (i := 301) rfl (hA) ?_
    refine r_iload_n Mm dX3_take_17 rfl ?_
    refine r_zaldN Mm dX3_take_18 (hAs) (by omega) (by omega) ?_
    refine r_top _ (bI (c i)) (hc _) ?_
    refine r_if_neB (tgt := 39) Mm dX3_take_19 (by decide) (fun c3 => ?_) (fun c3 => ?_)
    · exact absurd c3 (by first | omega | (rw [hci]; decide))
    · refine r_aload_n Mm dX3_take_22 rfl ?_
      refine r_getR Mm dX3_take_23 fi_X3_15 (hs) rfl (i := 301) rfl (hA) ?_
      refine r_iload_n Mm dX3_take_26 rfl ?_
      refine r_iconst (v := nI 1) Mm dX3_take_27 (by decide) ?_
      refine r_zastN Mm dX3_take_28 (hAs) (by omega) (by omega) (by decide) ?_
      refine r_aload_n Mm dX3_take_29 rfl ?_
      refine r_dup Mm dX3_take_30 rfl ?_
      refine r_getI Mm dX3_take_31 fi_X3_19 (hs) rfl (i := 302) rfl ?_
      refine r_iconst (v := nI 1) Mm dX3_take_34 (by decide) ?_
      refine r_iadd Mm dX3_take_35 ?_
      refine r_putI (ty := .int) Mm dX3_take_36 fi_X3_19 ki_3 rfl (hs) rfl (i := 302) rfl rfl (by decide +kernel) rfl rfl ?_
      refine r_vret M dX3_take_39 ?_
      exact ⟨rfl, rfl⟩
set_option maxRecDepth 100000 in
set_option maxHeartbeats 4000000 in
theorem ct_release {g : Gl} {l : Launch} (hfl : l.stackTraces = false) (h : Hp) (a A : Nat) (c : Nat → Bool) (hs : xS h a = some (3, 0)) (hA : xP h 301 a = some A) (hAs : xS h A = some (9, 8)) (hc : ∀ j, xA h A j = bI (c j)) (i : Nat) (hi : i < 8) (hci : c i = true) : CT g l iX3_release 1 [.ref a, .int (nI i)] h 0 0 (pRet none (yF (yA h A i (nI 0)) 302 a (xF h 302 a - nI 1))) := by
  refine ct_mk hfl (by decide) (Nat.le_of_ble_eq_true rfl) (by intro v hv; simp only [List.mem_cons, List.not_mem_nil, or_false] at hv; rcases hv with rfl | rfl <;> rfl) (fun V X M => ?_)
  have Mm := M.m
  show V 0 [some (.ref a), some (.int (nI i))] [] _ 0 0
  refine r_iload_n Mm dX3_release_0 rfl ?_
  refine r_if_lt (tgt := 39) Mm dX3_release_1 (by decide) (fun c1 => absurd c1 (nI_pos (by omega))) (fun _ => ?_)
  refine r_iload_n Mm dX3_release_4 rfl ?_
  refine r_aload_n Mm dX3_release_5 rfl ?_
  refine r_getR Mm dX3_release_6 fi_X3_15 (hs) rfl (i := 301) rfl (hA) ?_
  refine r_alenZ Mm dX3_release_9 (hAs) ?_
  refine r_icmp_geN (tgt := 39) Mm dX3_release_10 (by decide) (by omega) (by omega) (fun c2 => ?_) (fun c2 => ?_)
  · exact absurd c2 (by first | omega | (rw [hci]; decide))
  · refine r_aload_n Mm dX3_release_13 rfl ?_
    refine r_getR Mm dX3_release_14 fi_X3_15 (hs) rfl (i := 301) rfl (hA) ?_
    refine r_iload_n Mm dX3_release_17 rfl ?_
    refine r_zaldN Mm dX3_release_18 (hAs) (by omega) (by omega) ?_
    refine r_top _ (bI (c i)) (hc _) ?_
    refine r_if_eqB (tgt := 39) Mm dX3_release_19 (by decide) (fun c3 => ?_) (fun c3 => ?_)
    · exact absurd c3 (by first | omega | (rw [hci]; decide))
    · refine r_aload_n Mm dX3_release_22 rfl ?_
      refine r_getR Mm dX3_release_23 fi_X3_15 (hs) rfl (i := 301) rfl (hA) ?_
      refine r_iload_n Mm dX3_release_26 rfl ?_
      refine r_iconst (v := nI 0) Mm dX3_release_27 (by decide) ?_
      refine r_zastN Mm dX3_release_28 (hAs) (by omega) (by omega) (by decide) ?_
      refine r_aload_n Mm dX3_release_29 rfl ?_
      refine r_dup Mm dX3_release_30 rfl ?_
      refine r_getI Mm dX3_release_31 fi_X3_19 (hs) rfl (i := 302) rfl ?_
      refine r_iconst (v := nI 1) Mm dX3_release_34 (by decide) ?_
      refine r_isub Mm dX3_release_35 ?_
      refine r_putI (ty := .int) Mm dX3_release_36 fi_X3_19 ki_3 rfl (hs) rfl (i := 302) rfl rfl (by decide +kernel) rfl rfl ?_
      refine r_vret M dX3_release_39 ?_
      exact ⟨rfl, rfl⟩
