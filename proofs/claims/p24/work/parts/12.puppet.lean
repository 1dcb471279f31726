/-! ===== a puppet ===== -/
def isPup (E : Nat) (h : Hp) (a ka ma pl : Nat) (xs ms : List Nat) : Prop := xS h a = some (2, 0) ∧ xP h 202 a = some ka ∧ xP h 205 a = some ma ∧ xP h 206 a = some pl ∧ xS h pl = some (1, 0) ∧ IsL E h ka xs ∧ IsL E h ma ms ∧ (∀ k ∈ xs, xS h k = some (0, 0)) ∧ ∀ m ∈ ms, xS h m = some (4, 0)
def ksOf (h : Hp) (xs : List Nat) : List K4 := xs.map (kv h)
theorem ksOf_len (h : Hp) (xs : List Nat) : (ksOf h xs).length = xs.length := List.length_map ..
theorem ksOf_get {h : Hp} {xs : List Nat} {i : Nat} {k : K4} (hk : (ksOf h xs)[i]? = some k) : ∃ v, xs[i]? = some v ∧ k = kv h v := by
  rw [ksOf, List.getElem?_map] at hk
  cases hx : xs[i]? with
  | none => rw [hx] at hk; cases hk
  | some v => rw [hx] at hk; cases hk; exact ⟨v, rfl, rfl⟩
theorem ksOf_at {h : Hp} {xs : List Nat} {i v : Nat} (hv : xs[i]? = some v) : (ksOf h xs)[i]? = some (kv h v) := by rw [ksOf, List.getElem?_map, hv]; rfl
theorem pXY_mk (h : Hp) (p : Nat) (a b : Int32) : pXY h p (a, b) = yF (yF h 100 p a) 101 p b := rfl
theorem pXY_pXY (h : Hp) (p : Nat) (v w : Int32 × Int32) : pXY (pXY h p v) p w = pXY h p w := by
  have e : u2 (u2 (u2 (u2 (xF h) 100 p v.1) 101 p v.2) 100 p w.1) 101 p w.2 = u2 (u2 (xF h) 100 p w.1) 101 p w.2 := by
    funext i a
    simp only [u2]
    by_cases h1 : i = 101 ∧ a = p
    · simp [h1]
    · by_cases h2 : i = 100 ∧ a = p
      · simp [h2]
      · simp [h1, h2]
  show (xS h, u2 (u2 (u2 (u2 (xF h) 100 p v.1) 101 p v.2) 100 p w.1) 101 p w.2, xP h, xA h, xB h, xL h) = _
  rw [e]
  rfl
theorem pXY_self (h : Hp) (p : Nat) : pXY h p (xF h 100 p, xF h 101 p) = h := by
  show yF (yF h 100 p (xF h 100 p)) 101 p (xF h 101 p) = h
  rw [yF_self, yF_self]
theorem any_T {h : Hp} {v : Nat} {f : Int32} (e : xF h 0 v = f) : (some (kv h v)).any (fun k => k.1 == f) = true := by simpa [kv] using e
theorem any_F {h : Hp} {v : Nat} {f : Int32} (e : ¬ xF h 0 v = f) : (some (kv h v)).any (fun k => k.1 == f) = false := by simpa [kv] using e
theorem any_N {h : Hp} {v : Nat} {f : Int32} (e : ¬ xF h 0 v = f) : ¬ (some (kv h v)).any (fun k => k.1 == f) = true := by simpa [kv] using e
def clampS (len d : Int32) : Int32 := if (-len) < (if d < len then d else len) then (if d < len then d else len) else (-len)
def pullS (bar len : Int32) (v : Int32 × Int32) : Int32 × Int32 :=
  if len * len < sq2 (v.1 - bar) v.2 then (bar + clampS len (v.1 - bar), rootB (len * len - clampS len (v.1 - bar) * clampS len (v.1 - bar)))
  else v
def absS (d : Int32) : Int32 := if 0 ≤ d then d else 0 - d
def nearS (v w : Int32 × Int32) : Bool := decide (absS (v.1 - w.1) < nI 10) && decide (absS (v.2 - w.2) < nI 10)
def awayS (x w : Int32) : Int32 := if x < w then w - nI 10 else w + nI 10
def mxS (a b : Int32) : Int32 := if a < b then b else a
def farF (bar : Int32) (ks : List K4) : Nat → Int32
  | 0 => nI 0
  | n + 1 => mxS (farF bar ks n) (sq2 ((trk bar ks (nI n)).1 - bar) (trk bar ks (nI n)).2)
def leastS (bar : Int32) (ks : List K4) : Int32 := if rootB (farF bar ks 1000) * rootB (farF bar ks 1000) < farF bar ks 1000 then rootB (farF bar ks 1000) + nI 1 else rootB (farF bar ks 1000)
def SortK (ks : List K4) : Prop := (∀ (i : Nat) (a b : K4), ks[i]? = some a → ks[i + 1]? = some b → a.1 < b.1) ∧ ∀ k ∈ ks, ∃ n : Nat, n ≤ 999 ∧ k.1 = nI n
theorem ahead_spec (ks : List K4) (f : Int32) : (∀ (j : Nat) (k : K4), j < ahead ks f → ks[j]? = some k → k.1 < f) ∧ ∀ k : K4, ks[ahead ks f]? = some k → ¬ k.1 < f := by
  induction ks with
  | nil => exact ⟨fun j k hj => absurd hj (Nat.not_lt_zero _), fun k hk => by simp at hk⟩
  | cons a t ih =>
    by_cases ha : a.1 < f
    · have e : ahead (a :: t) f = ahead t f + 1 := by simp [ahead, ha]
      rw [e]
      refine ⟨fun j k hj hk => ?_, fun k hk => ih.2 k (by simpa using hk)⟩
      cases j with
      | zero => simp at hk; subst hk; exact ha
      | succ j => exact ih.1 j k (by omega) (by simpa using hk)
    · have e : ahead (a :: t) f = 0 := by simp [ahead, ha]
      rw [e]
      exact ⟨fun j k hj => absurd hj (Nat.not_lt_zero _), fun k hk => by simp at hk; subst hk; exact ha⟩
theorem SortK.lt {ks : List K4} (hs : SortK ks) {i j : Nat} {a b : K4} (hij : i < j) (ha : ks[i]? = some a) (hb : ks[j]? = some b) : a.1 < b.1 := by
  obtain ⟨d, rfl⟩ : ∃ d, j = i + 1 + d := ⟨j - (i + 1), by omega⟩
  induction d generalizing b with
  | zero => exact hs.1 i a b ha hb
  | succ d ih =>
    have hlt : i + 1 + d < ks.length := by have := (List.getElem?_eq_some_iff.mp hb).1; omega
    have hc := List.getElem?_eq_getElem hlt
    have h1 := ih (by omega) hc
    have h2 := hs.1 (i + 1 + d) _ b hc hb
    exact Int32.lt_trans h1 h2
/-- one frame on -/
theorem ahead_step {ks : List K4} (hs : SortK ks) {j : Nat} (hj : j < 5000) : ahead ks (nI (j + 1)) = if (ks[ahead ks (nI j)]?).any (fun k => k.1 == nI j) = true then ahead ks (nI j) + 1 else ahead ks (nI j) := by
  obtain ⟨h1, h2⟩ := ahead_spec ks (nI j)
  have hle := ahead_le ks (nI j)
  have hmono : ∀ k : K4, k.1 < nI j → k.1 < nI (j + 1) := fun k hk => Int32.lt_trans hk (nI_lt (by omega) (by omega))
  cases hc : ks[ahead ks (nI j)]? with
  | none =>
    rw [if_neg (by simp)]
    exact ahead_eq hle (fun i k hi hk => hmono k (h1 i k hi hk)) (fun k hk => by rw [hc] at hk; cases hk)
  | some c =>
    obtain ⟨n, hn, hcn⟩ := hs.2 c (List.mem_of_getElem? hc)
    have hge : j ≤ n := by
      have := h2 c hc
      rw [hcn] at this
      exact Nat.not_lt.mp (fun z => this (nI_lt z (by omega)))
    by_cases he : n = j
    · subst he
      rw [if_pos (by simp [hcn])]
      refine ahead_eq (by have := (List.getElem?_eq_some_iff.mp hc).1; omega) (fun i k hi hk => ?_) (fun k hk => ?_)
      · by_cases hi2 : i < ahead ks (nI n)
        · exact hmono k (h1 i k hi2 hk)
        · have : i = ahead ks (nI n) := by omega
          subst this
          rw [hc] at hk; cases hk
          rw [hcn]; exact nI_lt (by omega) (by omega)
      · have hlt := hs.lt (Nat.lt_succ_self _) hc hk
        obtain ⟨n2, hn2, hk2⟩ := hs.2 k (List.mem_of_getElem? hk)
        rw [hcn, hk2] at hlt
        have := (nI_ltI (by omega) (by omega)).mp hlt
        rw [hk2]
        exact nI_nlt (by omega) (by omega)
    · have hne : ¬ (some c).any (fun k => k.1 == nI j) = true := by
        simp only [Option.any_some, beq_iff_eq, hcn]
        exact fun z => he ((nI_eq (by omega) (by omega)).mp z)
      rw [if_neg hne]
      refine ahead_eq hle (fun i k hi hk => hmono k (h1 i k hi hk)) (fun k hk => ?_)
      rw [hc] at hk; cases hk
      rw [hcn]; exact nI_nlt (by omega) (by omega)
set_option maxRecDepth 100000 in
set_option maxHeartbeats 4000000 in
theorem ct_sqBar {g : Gl} {l : Launch} (hfl : l.stackTraces = false) {E : Nat} (h : Hp) (a ka ma pl : Nat) (xs ms : List Nat) (hP : isPup E h a ka ma pl xs ms)  : CT g l iX2_squareFromBar 1 [.ref a] h 0 0 (pRet (some (.int (sq2 (xF h 100 pl - xF h 200 a) (xF h 101 pl)))) h) := by
  obtain ⟨hs, hka, hma, hpl, hsp, hLk, hLm, hxk, hxm⟩ := hP
  have hl1 := hLk.2.2.1
  have hl2 := hLm.2.2.1
  refine ct_mk hfl (by decide) (Nat.le_of_ble_eq_true rfl) (by intro v hv; simp only [List.mem_cons, List.not_mem_nil, or_false] at hv; rcases hv with rfl <;> rfl) (fun V X M => ?_)
  have Mm := M.m
  show V 0 [some (.ref a), none] [] _ 0 0
  refine r_aload_n Mm dX2_squareFromBar_0 rfl ?_
  refine r_getR Mm dX2_squareFromBar_1 fi_X2_37 (hs) rfl (i := 206) rfl (hpl) ?_
  refine r_getI Mm dX2_squareFromBar_4 fi_X2_77 (hsp) rfl (i := 100) rfl ?_
  refine r_aload_n Mm dX2_squareFromBar_7 rfl ?_
  refine r_getI Mm dX2_squareFromBar_8 fi_X2_9 (hs) rfl (i := 200) rfl ?_
  refine r_isub Mm dX2_squareFromBar_11 ?_
  refine r_istore_n Mm dX2_squareFromBar_12 (by decide) ?_
  show V 13 [some (.ref a), some (.int ((xF h 100 pl) - (xF h 200 a)))] _ _ _ _
  refine r_iload_n Mm dX2_squareFromBar_13 rfl ?_
  refine r_iload_n Mm dX2_squareFromBar_14 rfl ?_
  refine r_imul Mm dX2_squareFromBar_15 ?_
  refine r_aload_n Mm dX2_squareFromBar_16 rfl ?_
  refine r_getR Mm dX2_squareFromBar_17 fi_X2_37 (hs) rfl (i := 206) rfl (hpl) ?_
  refine r_getI Mm dX2_squareFromBar_20 fi_X2_80 (hsp) rfl (i := 101) rfl ?_
  refine r_aload_n Mm dX2_squareFromBar_23 rfl ?_
  refine r_getR Mm dX2_squareFromBar_24 fi_X2_37 (hs) rfl (i := 206) rfl (hpl) ?_
  refine r_getI Mm dX2_squareFromBar_27 fi_X2_80 (hsp) rfl (i := 101) rfl ?_
  refine r_imul Mm dX2_squareFromBar_30 ?_
  refine r_iadd Mm dX2_squareFromBar_31 ?_
  refine r_iret M dX2_squareFromBar_32 ?_
  exact ⟨rfl, rfl⟩
set_option maxRecDepth 100000 in
set_option maxHeartbeats 4000000 in
theorem ct_keysAhead {g : Gl} {l : Launch} (hfl : l.stackTraces = false) {E : Nat} (h : Hp) (a ka ma pl : Nat) (xs ms : List Nat) (hP : isPup E h a ka ma pl xs ms) (f : Int32) : CT g l iX2_keysAhead 4 [.ref a, .int f] h 0 0 (pRet (some (.int (nI (ahead (ksOf h xs) f)))) h) := by
  obtain ⟨hs, hka, hma, hpl, hsp, hLk, hLm, hxk, hxm⟩ := hP
  have hl1 := hLk.2.2.1
  have hl2 := hLm.2.2.1
  refine ct_mk hfl (by decide) (Nat.le_of_ble_eq_true rfl) (by intro v hv; simp only [List.mem_cons, List.not_mem_nil, or_false] at hv; rcases hv with rfl | rfl <;> rfl) (fun V X M => ?_)
  have Mm := M.m
  show V 0 [some (.ref a), some (.int f), none] [] _ 0 0
  refine r_iconst (v := nI 0) Mm dX2_keysAhead_0 (by decide) ?_
  refine r_istore_n Mm dX2_keysAhead_1 (by decide) ?_
  show V 2 [some (.ref a), some (.int f), some (.int (nI 0))] _ _ _ _
  have loop : ∀ (n : Nat) (i : Nat), xs.length - i < n → (i ≤ xs.length) → (∀ (j : Nat) (k : K4), j < i → (ksOf h xs)[j]? = some k → k.1 < f) → V 2 [some (.ref a), some (.int f), some (.int (nI i))] [] h 0 0 := by
    intro n
    induction n with
    | zero => intro i hm; exact absurd hm (Nat.not_lt_zero _)
    | succ n ih =>
      intro i hm hi hf
      refine r_iload_n Mm dX2_keysAhead_2 rfl ?_
      refine r_aload_n Mm dX2_keysAhead_3 rfl ?_
      refine r_getR Mm dX2_keysAhead_4 fi_X2_21 (hs) rfl (i := 202) rfl (hka) ?_
      refine r_callV (As := []) Mm dX2_keysAhead_7 rfl (ct_lsize hfl h ka xs (hLk)) (hLk.1) rfl cw_X2_45 ⟨Nat.le_of_ble_eq_true rfl, Nat.le_of_ble_eq_true rfl, Nat.le_of_ble_eq_true rfl⟩ (Nat.le_of_ble_eq_true rfl) ⟨Nat.le_of_ble_eq_true rfl, Nat.le_of_ble_eq_true rfl⟩ (fun r1 h2 p3 => ?_) (fun Er1 h2 p3 => False.elim p3)
      obtain ⟨rfl, rfl⟩ := p3
      show V 10 _ [(.int (nI (xs.length))), (.int (nI i))] _ _ _
      refine r_icmp_geN (tgt := 37) Mm dX2_keysAhead_10 (by decide) (by omega) (by omega) (fun c4 => ?_) (fun c4 => ?_)
      · refine r_iload_n Mm dX2_keysAhead_37 rfl ?_
        refine r_iret M dX2_keysAhead_38 ?_
        exact ⟨by rw [ahead_eq (by rw [ksOf_len]; exact hi) hf (fun k hk => absurd (List.getElem?_eq_some_iff.mp hk).1 (by rw [ksOf_len]; omega))], rfl⟩
      · refine r_aload_n Mm dX2_keysAhead_13 rfl ?_
        refine r_getR Mm dX2_keysAhead_14 fi_X2_21 (hs) rfl (i := 202) rfl (hka) ?_
        refine r_iload_n Mm dX2_keysAhead_17 rfl ?_
        obtain ⟨v5, hv5⟩ : ∃ v, xs[i]? = some v := ⟨_, List.getElem?_eq_getElem (by omega)⟩
        have sv5 := hxk v5 (List.mem_of_getElem? hv5)
        refine r_callV (As := [(.int (nI i))]) Mm dX2_keysAhead_18 rfl (ct_lget hfl h ka i v5 xs (hLk) hv5) (hLk.1) rfl cw_X2_49 ⟨Nat.le_of_ble_eq_true rfl, Nat.le_of_ble_eq_true rfl, Nat.le_of_ble_eq_true rfl⟩ (Nat.le_of_ble_eq_true rfl) ⟨Nat.le_of_ble_eq_true rfl, Nat.le_of_ble_eq_true rfl⟩ (fun r6 h7 p8 => ?_) (fun Er6 h7 p8 => False.elim p8)
        obtain ⟨rfl, rfl⟩ := p8
        show V 21 _ [(.ref v5)] _ _ _
        refine r_cast Mm dX2_keysAhead_21 (sv5) rfl cl_X2_53 ?_
        refine r_getI Mm dX2_keysAhead_24 fi_X2_55 (sv5) rfl (i := 0) rfl ?_
        refine r_iload_n Mm dX2_keysAhead_27 rfl ?_
        refine r_icmp_ge (tgt := 37) Mm dX2_keysAhead_28 (by decide) (fun c9 => ?_) (fun c9 => ?_)
        · refine r_iload_n Mm dX2_keysAhead_37 rfl ?_
          refine r_iret M dX2_keysAhead_38 ?_
          exact ⟨by rw [ahead_eq (by rw [ksOf_len]; exact hi) hf (fun k hk => by rw [ksOf_at hv5] at hk; cases hk; exact Int32.not_lt.mpr c9)], rfl⟩
        · refine r_iincN (k := 1) Mm dX2_keysAhead_31 rfl (by decide) (by decide) ?_
          show V 34 [some (.ref a), some (.int f), some (.int (nI (i + 1)))] _ _ _ _
          refine r_goto (tgt := 2) Mm dX2_keysAhead_34 (by decide) ?_
          exact ih (i + 1) (by omega) (by omega) (fun j k hj hk => by
            by_cases hji : j < i
            · exact hf j k hji hk
            · obtain rfl : j = i := by omega
              rw [ksOf_at hv5] at hk; cases hk; exact Int32.not_le.mp c9)
  exact loop (xs.length + 1) 0 (by omega) (Nat.zero_le _) (fun j _ hj => absurd hj (Nat.not_lt_zero _))
set_option maxRecDepth 100000 in
set_option maxHeartbeats 4000000 in
theorem ct_hasKeyAt {g : Gl} {l : Launch} (hfl : l.stackTraces = false) {E : Nat} (h : Hp) (a ka ma pl : Nat) (xs ms : List Nat) (hP : isPup E h a ka ma pl xs ms) (f : Int32) : CT g l iX2_hasKeyAt 5 [.ref a, .int f] h 0 0 (pRet (some (.int (bI (hasK (ksOf h xs) f)))) h) := by
  obtain ⟨hs, hka, hma, hpl, hsp, hLk, hLm, hxk, hxm⟩ := hP
  have hl1 := hLk.2.2.1
  have hl2 := hLm.2.2.1
  refine ct_mk hfl (by decide) (Nat.le_of_ble_eq_true rfl) (by intro v hv; simp only [List.mem_cons, List.not_mem_nil, or_false] at hv; rcases hv with rfl | rfl <;> rfl) (fun V X M => ?_)
  have Mm := M.m
  show V 0 [some (.ref a), some (.int f), none] [] _ 0 0
  refine r_aload_n Mm dX2_hasKeyAt_0 rfl ?_
  refine r_iload_n Mm dX2_hasKeyAt_1 rfl ?_
  have hal := ahead_le (ksOf h xs) f
  rw [ksOf_len] at hal
  refine r_callV (As := [(.int f)]) Mm dX2_hasKeyAt_2 rfl (ct_keysAhead hfl h a ka ma pl xs ms ⟨hs, hka, hma, hpl, hsp, hLk, hLm, hxk, hxm⟩ f) (hs) rfl cw_X2_58 ⟨Nat.le_of_ble_eq_true rfl, Nat.le_of_ble_eq_true rfl, Nat.le_of_ble_eq_true rfl⟩ (Nat.le_of_ble_eq_true rfl) ⟨Nat.le_of_ble_eq_true rfl, Nat.le_of_ble_eq_true rfl⟩ (fun r1 h2 p3 => ?_) (fun Er1 h2 p3 => False.elim p3)
  obtain ⟨rfl, rfl⟩ := p3
  show V 5 _ [(.int (nI (ahead (ksOf h xs) f)))] _ _ _
  refine r_istore_n Mm dX2_hasKeyAt_5 (by decide) ?_
  show V 6 [some (.ref a), some (.int f), some (.int (nI (ahead (ksOf h xs) f)))] _ _ _ _
  refine r_iload_n Mm dX2_hasKeyAt_6 rfl ?_
  refine r_aload_n Mm dX2_hasKeyAt_7 rfl ?_
  refine r_getR Mm dX2_hasKeyAt_8 fi_X2_21 (hs) rfl (i := 202) rfl (hka) ?_
  refine r_callV (As := []) Mm dX2_hasKeyAt_11 rfl (ct_lsize hfl h ka xs (hLk)) (hLk.1) rfl cw_X2_45 ⟨Nat.le_of_ble_eq_true rfl, Nat.le_of_ble_eq_true rfl, Nat.le_of_ble_eq_true rfl⟩ (Nat.le_of_ble_eq_true rfl) ⟨Nat.le_of_ble_eq_true rfl, Nat.le_of_ble_eq_true rfl⟩ (fun r4 h5 p6 => ?_) (fun Er4 h5 p6 => False.elim p6)
  obtain ⟨rfl, rfl⟩ := p6
  show V 14 _ [(.int (nI (xs.length))), (.int (nI (ahead (ksOf h xs) f)))] _ _ _
  refine r_icmp_geN (tgt := 39) Mm dX2_hasKeyAt_14 (by decide) (by omega) (by omega) (fun c7 => ?_) (fun c7 => ?_)
  · refine r_iconst (v := nI 0) Mm dX2_hasKeyAt_39 (by decide) ?_
    refine r_zret M dX2_hasKeyAt_40 (by decide) ?_
    refine ⟨?_, rfl⟩
    rw [show hasK (ksOf h xs) f = false by unfold hasK; rw [List.getElem?_eq_none (by rw [ksOf_len]; omega)]; rfl]; rfl
  · refine r_aload_n Mm dX2_hasKeyAt_17 rfl ?_
    refine r_getR Mm dX2_hasKeyAt_18 fi_X2_21 (hs) rfl (i := 202) rfl (hka) ?_
    refine r_iload_n Mm dX2_hasKeyAt_21 rfl ?_
    obtain ⟨v8, hv8⟩ : ∃ v, xs[ahead (ksOf h xs) f]? = some v := ⟨_, List.getElem?_eq_getElem (by omega)⟩
    have sv8 := hxk v8 (List.mem_of_getElem? hv8)
    refine r_callV (As := [(.int (nI (ahead (ksOf h xs) f)))]) Mm dX2_hasKeyAt_22 rfl (ct_lget hfl h ka (ahead (ksOf h xs) f) v8 xs (hLk) hv8) (hLk.1) rfl cw_X2_49 ⟨Nat.le_of_ble_eq_true rfl, Nat.le_of_ble_eq_true rfl, Nat.le_of_ble_eq_true rfl⟩ (Nat.le_of_ble_eq_true rfl) ⟨Nat.le_of_ble_eq_true rfl, Nat.le_of_ble_eq_true rfl⟩ (fun r9 h10 p11 => ?_) (fun Er9 h10 p11 => False.elim p11)
    obtain ⟨rfl, rfl⟩ := p11
    show V 25 _ [(.ref v8)] _ _ _
    refine r_cast Mm dX2_hasKeyAt_25 (sv8) rfl cl_X2_53 ?_
    refine r_getI Mm dX2_hasKeyAt_28 fi_X2_55 (sv8) rfl (i := 0) rfl ?_
    refine r_iload_n Mm dX2_hasKeyAt_31 rfl ?_
    refine r_icmp_ne (tgt := 39) Mm dX2_hasKeyAt_32 (by decide) (fun c12 => ?_) (fun c12 => ?_)
    · refine r_iconst (v := nI 0) Mm dX2_hasKeyAt_39 (by decide) ?_
      refine r_zret M dX2_hasKeyAt_40 (by decide) ?_
      refine ⟨?_, rfl⟩
      rw [show hasK (ksOf h xs) f = false by unfold hasK; rw [ksOf_at hv8]; exact any_F c12]; rfl
    · refine r_iconst (v := nI 1) Mm dX2_hasKeyAt_35 (by decide) ?_
      refine r_goto (tgt := 40) Mm dX2_hasKeyAt_36 (by decide) ?_
      refine r_zret M dX2_hasKeyAt_40 (by decide) ?_
      refine ⟨?_, rfl⟩
      rw [show hasK (ksOf h xs) f = true by unfold hasK; rw [ksOf_at hv8]; exact any_T c12]; rfl
set_option maxRecDepth 100000 in
set_option maxHeartbeats 4000000 in
theorem ct_putKey {g : Gl} {l : Launch} (hfl : l.stackTraces = false) (h : Hp) (a ka ma pl : Nat) (xs ms : List Nat) (hP : isPup (gN g 2) h a ka ma pl xs ms) (k : Nat) (hk : xS h k = some (0, 0)) (hlen : xs.length < 600) : CT g l iX2_putKey 7 [.ref a, .ref k] h 1 1500 (pRel (fun r h' => r = none ∧ LiP (gN g 2) h ka h' (if hasK (ksOf h xs) (xF h 0 k) = true then xs.set (ahead (ksOf h xs) (xF h 0 k)) k else xs.insertIdx (ahead (ksOf h xs) (xF h 0 k)) k))) := by
  obtain ⟨hs, hka, hma, hpl, hsp, hLk, hLm, hxk, hxm⟩ := hP
  have hl1 := hLk.2.2.1
  have hl2 := hLm.2.2.1
  have hEk : isE h k := ⟨0, 0, _, hk, rfl, ca_0⟩
  refine ct_mk hfl (by decide) (Nat.le_of_ble_eq_true rfl) (by intro v hv; simp only [List.mem_cons, List.not_mem_nil, or_false] at hv; rcases hv with rfl | rfl <;> rfl) (fun V X M => ?_)
  have Mm := M.m
  show V 0 [some (.ref a), some (.ref k), none] [] _ 0 0
  refine r_aload_n Mm dX2_putKey_0 rfl ?_
  refine r_aload_n Mm dX2_putKey_1 rfl ?_
  refine r_getI Mm dX2_putKey_2 fi_X2_55 (hk) rfl (i := 0) rfl ?_
  have hal := ahead_le (ksOf h xs) (xF h 0 k)
  rw [ksOf_len] at hal
  refine r_callV (As := [(.int (xF h 0 k))]) Mm dX2_putKey_5 rfl (ct_keysAhead hfl h a ka ma pl xs ms ⟨hs, hka, hma, hpl, hsp, hLk, hLm, hxk, hxm⟩ (xF h 0 k)) (hs) rfl cw_X2_58 ⟨Nat.le_of_ble_eq_true rfl, Nat.le_of_ble_eq_true rfl, Nat.le_of_ble_eq_true rfl⟩ (Nat.le_of_ble_eq_true rfl) ⟨Nat.le_of_ble_eq_true rfl, Nat.le_of_ble_eq_true rfl⟩ (fun r1 h2 p3 => ?_) (fun Er1 h2 p3 => False.elim p3)
  obtain ⟨rfl, rfl⟩ := p3
  show V 8 _ [(.int (nI (ahead (ksOf h xs) (xF h 0 k))))] _ _ _
  refine r_istore_n Mm dX2_putKey_8 (by decide) ?_
  show V 9 [some (.ref a), some (.ref k), some (.int (nI (ahead (ksOf h xs) (xF h 0 k))))] _ _ _ _
  refine r_iload_n Mm dX2_putKey_9 rfl ?_
  refine r_aload_n Mm dX2_putKey_10 rfl ?_
  refine r_getR Mm dX2_putKey_11 fi_X2_21 (hs) rfl (i := 202) rfl (hka) ?_
  refine r_callV (As := []) Mm dX2_putKey_14 rfl (ct_lsize hfl h ka xs (hLk)) (hLk.1) rfl cw_X2_45 ⟨Nat.le_of_ble_eq_true rfl, Nat.le_of_ble_eq_true rfl, Nat.le_of_ble_eq_true rfl⟩ (Nat.le_of_ble_eq_true rfl) ⟨Nat.le_of_ble_eq_true rfl, Nat.le_of_ble_eq_true rfl⟩ (fun r4 h5 p6 => ?_) (fun Er4 h5 p6 => False.elim p6)
  obtain ⟨rfl, rfl⟩ := p6
  show V 17 _ [(.int (nI (xs.length))), (.int (nI (ahead (ksOf h xs) (xF h 0 k))))] _ _ _
  refine r_icmp_geN (tgt := 54) Mm dX2_putKey_17 (by decide) (by omega) (by omega) (fun c7 => ?_) (fun c7 => ?_)
  · refine r_aload_n Mm dX2_putKey_54 rfl ?_
    refine r_getR Mm dX2_putKey_55 fi_X2_21 (hs) rfl (i := 202) rfl (hka) ?_
    refine r_iload_n Mm dX2_putKey_58 rfl ?_
    refine r_aload_n Mm dX2_putKey_59 rfl ?_
    refine r_callV (As := [(.int (nI (ahead (ksOf h xs) (xF h 0 k)))), (.ref k)]) Mm dX2_putKey_60 rfl (ct_laddI hfl h ka (ahead (ksOf h xs) (xF h 0 k)) k xs hLk (by omega) hlen hEk) (hLk.1) rfl cw_X2_66 ⟨Nat.le_of_ble_eq_true rfl, Nat.le_of_ble_eq_true rfl, Nat.le_of_ble_eq_true rfl⟩ (Nat.le_of_ble_eq_true rfl) ⟨Nat.le_of_ble_eq_true rfl, Nat.le_of_ble_eq_true rfl⟩ (fun r8 h9 p10 => ?_) (fun Er8 h9 p10 => False.elim p10)
    obtain ⟨rfl, hLP⟩ := p10
    show V 63 _ [] _ _ _
    refine r_vret M dX2_putKey_63 ?_
    refine ⟨rfl, ?_⟩
    rw [if_neg (show ¬ hasK (ksOf h xs) (xF h 0 k) = true by unfold hasK; rw [List.getElem?_eq_none (by rw [ksOf_len]; omega)]; exact Bool.noConfusion)]
    exact hLP
  · refine r_aload_n Mm dX2_putKey_20 rfl ?_
    refine r_getR Mm dX2_putKey_21 fi_X2_21 (hs) rfl (i := 202) rfl (hka) ?_
    refine r_iload_n Mm dX2_putKey_24 rfl ?_
    obtain ⟨v11, hv11⟩ : ∃ v, xs[ahead (ksOf h xs) (xF h 0 k)]? = some v := ⟨_, List.getElem?_eq_getElem (by omega)⟩
    have sv11 := hxk v11 (List.mem_of_getElem? hv11)
    refine r_callV (As := [(.int (nI (ahead (ksOf h xs) (xF h 0 k))))]) Mm dX2_putKey_25 rfl (ct_lget hfl h ka (ahead (ksOf h xs) (xF h 0 k)) v11 xs (hLk) hv11) (hLk.1) rfl cw_X2_49 ⟨Nat.le_of_ble_eq_true rfl, Nat.le_of_ble_eq_true rfl, Nat.le_of_ble_eq_true rfl⟩ (Nat.le_of_ble_eq_true rfl) ⟨Nat.le_of_ble_eq_true rfl, Nat.le_of_ble_eq_true rfl⟩ (fun r12 h13 p14 => ?_) (fun Er12 h13 p14 => False.elim p14)
    obtain ⟨rfl, rfl⟩ := p14
    show V 28 _ [(.ref v11)] _ _ _
    refine r_cast Mm dX2_putKey_28 (sv11) rfl cl_X2_53 ?_
    refine r_getI Mm dX2_putKey_31 fi_X2_55 (sv11) rfl (i := 0) rfl ?_
    refine r_aload_n Mm dX2_putKey_34 rfl ?_
    refine r_getI Mm dX2_putKey_35 fi_X2_55 (hk) rfl (i := 0) rfl ?_
    refine r_icmp_ne (tgt := 54) Mm dX2_putKey_38 (by decide) (fun c15 => ?_) (fun c15 => ?_)
    · refine r_aload_n Mm dX2_putKey_54 rfl ?_
      refine r_getR Mm dX2_putKey_55 fi_X2_21 (hs) rfl (i := 202) rfl (hka) ?_
      refine r_iload_n Mm dX2_putKey_58 rfl ?_
      refine r_aload_n Mm dX2_putKey_59 rfl ?_
      refine r_callV (As := [(.int (nI (ahead (ksOf h xs) (xF h 0 k)))), (.ref k)]) Mm dX2_putKey_60 rfl (ct_laddI hfl h ka (ahead (ksOf h xs) (xF h 0 k)) k xs hLk (by omega) hlen hEk) (hLk.1) rfl cw_X2_66 ⟨Nat.le_of_ble_eq_true rfl, Nat.le_of_ble_eq_true rfl, Nat.le_of_ble_eq_true rfl⟩ (Nat.le_of_ble_eq_true rfl) ⟨Nat.le_of_ble_eq_true rfl, Nat.le_of_ble_eq_true rfl⟩ (fun r16 h17 p18 => ?_) (fun Er16 h17 p18 => False.elim p18)
      obtain ⟨rfl, hLP⟩ := p18
      show V 63 _ [] _ _ _
      refine r_vret M dX2_putKey_63 ?_
      refine ⟨rfl, ?_⟩
      rw [if_neg (show ¬ hasK (ksOf h xs) (xF h 0 k) = true by unfold hasK; rw [ksOf_at hv11]; exact any_N c15)]
      exact hLP
    · refine r_aload_n Mm dX2_putKey_41 rfl ?_
      refine r_getR Mm dX2_putKey_42 fi_X2_21 (hs) rfl (i := 202) rfl (hka) ?_
      refine r_iload_n Mm dX2_putKey_45 rfl ?_
      refine r_aload_n Mm dX2_putKey_46 rfl ?_
      refine r_callV (As := [(.int (nI (ahead (ksOf h xs) (xF h 0 k)))), (.ref k)]) Mm dX2_putKey_47 rfl (ct_lset hfl h ka (ahead (ksOf h xs) (xF h 0 k)) v11 k xs hLk hv11 hEk) (hLk.1) rfl cw_X2_62 ⟨Nat.le_of_ble_eq_true rfl, Nat.le_of_ble_eq_true rfl, Nat.le_of_ble_eq_true rfl⟩ (Nat.le_of_ble_eq_true rfl) ⟨Nat.le_of_ble_eq_true rfl, Nat.le_of_ble_eq_true rfl⟩ (fun r19 h20 p21 => ?_) (fun Er19 h20 p21 => False.elim p21)
      obtain ⟨rfl, hLP⟩ := p21
      show V 50 _ [(.ref v11)] _ _ _
      refine r_pop Mm dX2_putKey_50 rfl ?_
      refine r_goto (tgt := 63) Mm dX2_putKey_51 (by decide) ?_
      refine r_vret M dX2_putKey_63 ?_
      refine ⟨rfl, ?_⟩
      rw [if_pos (show hasK (ksOf h xs) (xF h 0 k) = true by unfold hasK; rw [ksOf_at hv11]; exact any_T c15)]
      exact hLP
set_option maxRecDepth 100000 in
set_option maxHeartbeats 4000000 in
theorem ct_removeKeyAt {g : Gl} {l : Launch} (hfl : l.stackTraces = false) {E : Nat} (h : Hp) (a ka ma pl : Nat) (xs ms : List Nat) (hP : isPup E h a ka ma pl xs ms) (f : Int32) (hh : hasK (ksOf h xs) f = true) : CT g l iX2_removeKeyAt 5 [.ref a, .int f] h 0 0 (pRel (fun r h' => r = none ∧ LiP E h ka h' (xs.eraseIdx (ahead (ksOf h xs) f)))) := by
  obtain ⟨hs, hka, hma, hpl, hsp, hLk, hLm, hxk, hxm⟩ := hP
  have hl1 := hLk.2.2.1
  have hl2 := hLm.2.2.1
  refine ct_mk hfl (by decide) (Nat.le_of_ble_eq_true rfl) (by intro v hv; simp only [List.mem_cons, List.not_mem_nil, or_false] at hv; rcases hv with rfl | rfl <;> rfl) (fun V X M => ?_)
  have Mm := M.m
  show V 0 [some (.ref a), some (.int f), none] [] _ 0 0
  refine r_aload_n Mm dX2_removeKeyAt_0 rfl ?_
  refine r_iload_n Mm dX2_removeKeyAt_1 rfl ?_
  have hal := ahead_le (ksOf h xs) f
  rw [ksOf_len] at hal
  refine r_callV (As := [(.int f)]) Mm dX2_removeKeyAt_2 rfl (ct_keysAhead hfl h a ka ma pl xs ms ⟨hs, hka, hma, hpl, hsp, hLk, hLm, hxk, hxm⟩ f) (hs) rfl cw_X2_58 ⟨Nat.le_of_ble_eq_true rfl, Nat.le_of_ble_eq_true rfl, Nat.le_of_ble_eq_true rfl⟩ (Nat.le_of_ble_eq_true rfl) ⟨Nat.le_of_ble_eq_true rfl, Nat.le_of_ble_eq_true rfl⟩ (fun r1 h2 p3 => ?_) (fun Er1 h2 p3 => False.elim p3)
  obtain ⟨rfl, rfl⟩ := p3
  show V 5 _ [(.int (nI (ahead (ksOf h xs) f)))] _ _ _
  refine r_istore_n Mm dX2_removeKeyAt_5 (by decide) ?_
  show V 6 [some (.ref a), some (.int f), some (.int (nI (ahead (ksOf h xs) f)))] _ _ _ _
  refine r_iload_n Mm dX2_removeKeyAt_6 rfl ?_
  refine r_aload_n Mm dX2_removeKeyAt_7 rfl ?_
  refine r_getR Mm dX2_removeKeyAt_8 fi_X2_21 (hs) rfl (i := 202) rfl (hka) ?_
  refine r_callV (As := []) Mm dX2_removeKeyAt_11 rfl (ct_lsize hfl h ka xs (hLk)) (hLk.1) rfl cw_X2_45 ⟨Nat.le_of_ble_eq_true rfl, Nat.le_of_ble_eq_true rfl, Nat.le_of_ble_eq_true rfl⟩ (Nat.le_of_ble_eq_true rfl) ⟨Nat.le_of_ble_eq_true rfl, Nat.le_of_ble_eq_true rfl⟩ (fun r4 h5 p6 => ?_) (fun Er4 h5 p6 => False.elim p6)
  obtain ⟨rfl, rfl⟩ := p6
  show V 14 _ [(.int (nI (xs.length))), (.int (nI (ahead (ksOf h xs) f)))] _ _ _
  refine r_icmp_geN (tgt := 44) Mm dX2_removeKeyAt_14 (by decide) (by omega) (by omega) (fun c7 => ?_) (fun c7 => ?_)
  · exact absurd hh (by unfold hasK; rw [List.getElem?_eq_none (by rw [ksOf_len]; omega)]; exact Bool.noConfusion)
  · refine r_aload_n Mm dX2_removeKeyAt_17 rfl ?_
    refine r_getR Mm dX2_removeKeyAt_18 fi_X2_21 (hs) rfl (i := 202) rfl (hka) ?_
    refine r_iload_n Mm dX2_removeKeyAt_21 rfl ?_
    obtain ⟨v8, hv8⟩ : ∃ v, xs[ahead (ksOf h xs) f]? = some v := ⟨_, List.getElem?_eq_getElem (by omega)⟩
    have sv8 := hxk v8 (List.mem_of_getElem? hv8)
    refine r_callV (As := [(.int (nI (ahead (ksOf h xs) f)))]) Mm dX2_removeKeyAt_22 rfl (ct_lget hfl h ka (ahead (ksOf h xs) f) v8 xs (hLk) hv8) (hLk.1) rfl cw_X2_49 ⟨Nat.le_of_ble_eq_true rfl, Nat.le_of_ble_eq_true rfl, Nat.le_of_ble_eq_true rfl⟩ (Nat.le_of_ble_eq_true rfl) ⟨Nat.le_of_ble_eq_true rfl, Nat.le_of_ble_eq_true rfl⟩ (fun r9 h10 p11 => ?_) (fun Er9 h10 p11 => False.elim p11)
    obtain ⟨rfl, rfl⟩ := p11
    show V 25 _ [(.ref v8)] _ _ _
    refine r_cast Mm dX2_removeKeyAt_25 (sv8) rfl cl_X2_53 ?_
    refine r_getI Mm dX2_removeKeyAt_28 fi_X2_55 (sv8) rfl (i := 0) rfl ?_
    refine r_iload_n Mm dX2_removeKeyAt_31 rfl ?_
    refine r_icmp_ne (tgt := 44) Mm dX2_removeKeyAt_32 (by decide) (fun c12 => ?_) (fun c12 => ?_)
    · exact absurd hh (by unfold hasK; rw [ksOf_at hv8]; exact any_N c12)
    · refine r_aload_n Mm dX2_removeKeyAt_35 rfl ?_
      refine r_getR Mm dX2_removeKeyAt_36 fi_X2_21 (hs) rfl (i := 202) rfl (hka) ?_
      refine r_iload_n Mm dX2_removeKeyAt_39 rfl ?_
      refine r_callV (As := [(.int (nI (ahead (ksOf h xs) f)))]) Mm dX2_removeKeyAt_40 rfl (ct_lremove hfl h ka (ahead (ksOf h xs) f) v8 xs hLk hv8) (hLk.1) rfl cw_X2_70 ⟨Nat.le_of_ble_eq_true rfl, Nat.le_of_ble_eq_true rfl, Nat.le_of_ble_eq_true rfl⟩ (Nat.le_of_ble_eq_true rfl) ⟨Nat.le_of_ble_eq_true rfl, Nat.le_of_ble_eq_true rfl⟩ (fun r13 h14 p15 => ?_) (fun Er13 h14 p15 => False.elim p15)
      obtain ⟨rfl, hLP⟩ := p15
      show V 43 _ [(.ref v8)] _ _ _
      refine r_pop Mm dX2_removeKeyAt_43 rfl ?_
      refine r_vret M dX2_removeKeyAt_44 ?_
      exact ⟨rfl, hLP⟩
set_option maxRecDepth 100000 in
set_option maxHeartbeats 4000000 in
theorem ct_standBehind {g : Gl} {l : Launch} (hfl : l.stackTraces = false) {E : Nat} (h : Hp) (a ka ma pl : Nat) (xs ms : List Nat) (hP : isPup E h a ka ma pl xs ms) (n : Nat) (f : Int32) (hn : n < 2000) : CT g l iX2_standBehind 4 [.ref a, .int (nI n), .int f] h 0 0 (pRet none (pXY h pl (behind (xF h 200 a) (ksOf h xs) n f))) := by
  obtain ⟨hs, hka, hma, hpl, hsp, hLk, hLm, hxk, hxm⟩ := hP
  have hl1 := hLk.2.2.1
  have hl2 := hLm.2.2.1
  refine ct_mk hfl (by decide) (Nat.le_of_ble_eq_true rfl) (by intro v hv; simp only [List.mem_cons, List.not_mem_nil, or_false] at hv; rcases hv with rfl | rfl | rfl <;> rfl) (fun V X M => ?_)
  have Mm := M.m
  show V 0 [some (.ref a), some (.int (nI n)), some (.int f), none] [] _ 0 0
  refine r_aload_n Mm dX2_standBehind_0 rfl ?_
  refine r_getR Mm dX2_standBehind_1 fi_X2_21 (hs) rfl (i := 202) rfl (hka) ?_
  refine r_callV (As := []) Mm dX2_standBehind_4 rfl (ct_lsize hfl h ka xs (hLk)) (hLk.1) rfl cw_X2_45 ⟨Nat.le_of_ble_eq_true rfl, Nat.le_of_ble_eq_true rfl, Nat.le_of_ble_eq_true rfl⟩ (Nat.le_of_ble_eq_true rfl) ⟨Nat.le_of_ble_eq_true rfl, Nat.le_of_ble_eq_true rfl⟩ (fun r1 h2 p3 => ?_) (fun Er1 h2 p3 => False.elim p3)
  obtain ⟨rfl, rfl⟩ := p3
  show V 7 _ [(.int (nI (xs.length)))] _ _ _
  refine r_istore_n Mm dX2_standBehind_7 (by decide) ?_
  show V 8 [some (.ref a), some (.int (nI n)), some (.int f), some (.int (nI (xs.length)))] _ _ _ _
  refine r_iload_n Mm dX2_standBehind_8 rfl ?_
  refine r_if_neN (tgt := 34) Mm dX2_standBehind_9 (by decide) (by omega) (fun c4 => ?_) (fun c4 => ?_)
  · refine r_iload_n Mm dX2_standBehind_34 rfl ?_
    refine r_if_gtN (tgt := 59) Mm dX2_standBehind_35 (by decide) (by omega) (fun c5 => ?_) (fun c5 => ?_)
    · refine r_iload_n Mm dX2_standBehind_59 rfl ?_
      refine r_iload_n Mm dX2_standBehind_60 rfl ?_
      refine r_icmp_ltN (tgt := 87) Mm dX2_standBehind_61 (by decide) (by omega) (by omega) (fun c6 => ?_) (fun c6 => ?_)
      · refine r_aload_n Mm dX2_standBehind_87 rfl ?_
        refine r_getR Mm dX2_standBehind_88 fi_X2_37 (hs) rfl (i := 206) rfl (hpl) ?_
        refine r_aload_n Mm dX2_standBehind_91 rfl ?_
        refine r_getR Mm dX2_standBehind_92 fi_X2_21 (hs) rfl (i := 202) rfl (hka) ?_
        refine r_iload_n Mm dX2_standBehind_95 rfl ?_
        refine r_iconst (v := nI 1) Mm dX2_standBehind_96 (by decide) ?_
        refine r_isubN Mm dX2_standBehind_97 (by omega) ?_
        obtain ⟨v7, hv7⟩ : ∃ v, xs[n - 1]? = some v := ⟨_, List.getElem?_eq_getElem (by omega)⟩
        have sv7 := hxk v7 (List.mem_of_getElem? hv7)
        refine r_callV (As := [(.int (nI (n - 1)))]) Mm dX2_standBehind_98 rfl (ct_lget hfl h ka (n - 1) v7 xs (hLk) hv7) (hLk.1) rfl cw_X2_49 ⟨Nat.le_of_ble_eq_true rfl, Nat.le_of_ble_eq_true rfl, Nat.le_of_ble_eq_true rfl⟩ (Nat.le_of_ble_eq_true rfl) ⟨Nat.le_of_ble_eq_true rfl, Nat.le_of_ble_eq_true rfl⟩ (fun r8 h9 p10 => ?_) (fun Er8 h9 p10 => False.elim p10)
        obtain ⟨rfl, rfl⟩ := p10
        show V 101 _ [(.ref v7), (.ref pl)] _ _ _
        refine r_cast Mm dX2_standBehind_101 (sv7) rfl cl_X2_53 ?_
        refine r_aload_n Mm dX2_standBehind_104 rfl ?_
        refine r_getR Mm dX2_standBehind_105 fi_X2_21 (hs) rfl (i := 202) rfl (hka) ?_
        refine r_iload_n Mm dX2_standBehind_108 rfl ?_
        obtain ⟨v11, hv11⟩ : ∃ v, xs[n]? = some v := ⟨_, List.getElem?_eq_getElem (by omega)⟩
        have sv11 := hxk v11 (List.mem_of_getElem? hv11)
        refine r_callV (As := [(.int (nI n))]) Mm dX2_standBehind_109 rfl (ct_lget hfl h ka n v11 xs (hLk) hv11) (hLk.1) rfl cw_X2_49 ⟨Nat.le_of_ble_eq_true rfl, Nat.le_of_ble_eq_true rfl, Nat.le_of_ble_eq_true rfl⟩ (Nat.le_of_ble_eq_true rfl) ⟨Nat.le_of_ble_eq_true rfl, Nat.le_of_ble_eq_true rfl⟩ (fun r12 h13 p14 => ?_) (fun Er12 h13 p14 => False.elim p14)
        obtain ⟨rfl, rfl⟩ := p14
        show V 112 _ [(.ref v11), (.ref v7), (.ref pl)] _ _ _
        refine r_cast Mm dX2_standBehind_112 (sv11) rfl cl_X2_53 ?_
        refine r_iload_n Mm dX2_standBehind_115 rfl ?_
        refine r_callV (As := [(.ref v7), (.ref v11), (.int f)]) Mm dX2_standBehind_116 rfl (ct_putBetween hfl h pl v7 v11 f hsp sv7 sv11) (hsp) rfl cw_X2_87 ⟨Nat.le_of_ble_eq_true rfl, Nat.le_of_ble_eq_true rfl, Nat.le_of_ble_eq_true rfl⟩ (Nat.le_of_ble_eq_true rfl) ⟨Nat.le_of_ble_eq_true rfl, Nat.le_of_ble_eq_true rfl⟩ (fun r15 h16 p17 => ?_) (fun Er15 h16 p17 => False.elim p17)
        obtain ⟨rfl, rfl⟩ := p17
        show V 119 _ [] _ _ _
        refine r_vret M dX2_standBehind_119 ?_
        refine ⟨rfl, ?_⟩
        unfold behind
        rw [if_neg (by rw [ksOf_len]; omega), if_neg (by omega), if_neg (by rw [ksOf_len]; omega), ksOf_at hv7, ksOf_at hv11]
      · refine r_aload_n Mm dX2_standBehind_64 rfl ?_
        refine r_getR Mm dX2_standBehind_65 fi_X2_37 (hs) rfl (i := 206) rfl (hpl) ?_
        refine r_aload_n Mm dX2_standBehind_68 rfl ?_
        refine r_getR Mm dX2_standBehind_69 fi_X2_21 (hs) rfl (i := 202) rfl (hka) ?_
        refine r_iload_n Mm dX2_standBehind_72 rfl ?_
        refine r_iconst (v := nI 1) Mm dX2_standBehind_73 (by decide) ?_
        refine r_isubN Mm dX2_standBehind_74 (by omega) ?_
        obtain ⟨v18, hv18⟩ : ∃ v, xs[(xs.length) - 1]? = some v := ⟨_, List.getElem?_eq_getElem (by omega)⟩
        have sv18 := hxk v18 (List.mem_of_getElem? hv18)
        refine r_callV (As := [(.int (nI ((xs.length) - 1)))]) Mm dX2_standBehind_75 rfl (ct_lget hfl h ka ((xs.length) - 1) v18 xs (hLk) hv18) (hLk.1) rfl cw_X2_49 ⟨Nat.le_of_ble_eq_true rfl, Nat.le_of_ble_eq_true rfl, Nat.le_of_ble_eq_true rfl⟩ (Nat.le_of_ble_eq_true rfl) ⟨Nat.le_of_ble_eq_true rfl, Nat.le_of_ble_eq_true rfl⟩ (fun r19 h20 p21 => ?_) (fun Er19 h20 p21 => False.elim p21)
        obtain ⟨rfl, rfl⟩ := p21
        show V 78 _ [(.ref v18), (.ref pl)] _ _ _
        refine r_cast Mm dX2_standBehind_78 (sv18) rfl cl_X2_53 ?_
        refine r_callV (As := [(.ref v18)]) Mm dX2_standBehind_81 rfl (ct_putAt hfl h pl v18 hsp sv18) (hsp) rfl cw_X2_83 ⟨Nat.le_of_ble_eq_true rfl, Nat.le_of_ble_eq_true rfl, Nat.le_of_ble_eq_true rfl⟩ (Nat.le_of_ble_eq_true rfl) ⟨Nat.le_of_ble_eq_true rfl, Nat.le_of_ble_eq_true rfl⟩ (fun r22 h23 p24 => ?_) (fun Er22 h23 p24 => False.elim p24)
        obtain ⟨rfl, rfl⟩ := p24
        show V 84 _ [] _ _ _
        refine r_goto (tgt := 119) Mm dX2_standBehind_84 (by decide) ?_
        refine r_vret M dX2_standBehind_119 ?_
        refine ⟨rfl, ?_⟩
        unfold behind
        rw [if_neg (by rw [ksOf_len]; omega), if_neg (by omega), if_pos (by rw [ksOf_len]; omega), ksOf_len, ksOf_at hv18]
    · refine r_aload_n Mm dX2_standBehind_38 rfl ?_
      refine r_getR Mm dX2_standBehind_39 fi_X2_37 (hs) rfl (i := 206) rfl (hpl) ?_
      refine r_aload_n Mm dX2_standBehind_42 rfl ?_
      refine r_getR Mm dX2_standBehind_43 fi_X2_21 (hs) rfl (i := 202) rfl (hka) ?_
      refine r_iconst (v := nI 0) Mm dX2_standBehind_46 (by decide) ?_
      obtain ⟨v25, hv25⟩ : ∃ v, xs[0]? = some v := ⟨_, List.getElem?_eq_getElem (by omega)⟩
      have sv25 := hxk v25 (List.mem_of_getElem? hv25)
      refine r_callV (As := [(.int (nI 0))]) Mm dX2_standBehind_47 rfl (ct_lget hfl h ka 0 v25 xs (hLk) hv25) (hLk.1) rfl cw_X2_49 ⟨Nat.le_of_ble_eq_true rfl, Nat.le_of_ble_eq_true rfl, Nat.le_of_ble_eq_true rfl⟩ (Nat.le_of_ble_eq_true rfl) ⟨Nat.le_of_ble_eq_true rfl, Nat.le_of_ble_eq_true rfl⟩ (fun r26 h27 p28 => ?_) (fun Er26 h27 p28 => False.elim p28)
      obtain ⟨rfl, rfl⟩ := p28
      show V 50 _ [(.ref v25), (.ref pl)] _ _ _
      refine r_cast Mm dX2_standBehind_50 (sv25) rfl cl_X2_53 ?_
      refine r_callV (As := [(.ref v25)]) Mm dX2_standBehind_53 rfl (ct_putAt hfl h pl v25 hsp sv25) (hsp) rfl cw_X2_83 ⟨Nat.le_of_ble_eq_true rfl, Nat.le_of_ble_eq_true rfl, Nat.le_of_ble_eq_true rfl⟩ (Nat.le_of_ble_eq_true rfl) ⟨Nat.le_of_ble_eq_true rfl, Nat.le_of_ble_eq_true rfl⟩ (fun r29 h30 p31 => ?_) (fun Er29 h30 p31 => False.elim p31)
      obtain ⟨rfl, rfl⟩ := p31
      show V 56 _ [] _ _ _
      refine r_goto (tgt := 119) Mm dX2_standBehind_56 (by decide) ?_
      refine r_vret M dX2_standBehind_119 ?_
      refine ⟨rfl, ?_⟩
      unfold behind
      rw [if_neg (by rw [ksOf_len]; omega), if_pos c5, ksOf_at hv25]
  · refine r_aload_n Mm dX2_standBehind_12 rfl ?_
    refine r_getR Mm dX2_standBehind_13 fi_X2_37 (hs) rfl (i := 206) rfl (hpl) ?_
    refine r_aload_n Mm dX2_standBehind_16 rfl ?_
    refine r_getI Mm dX2_standBehind_17 fi_X2_9 (hs) rfl (i := 200) rfl ?_
    refine r_putI (ty := .int) Mm dX2_standBehind_20 fi_X2_77 ki_1 rfl (hsp) rfl (i := 100) rfl rfl (by decide +kernel) rfl rfl ?_
    refine r_aload_n Mm dX2_standBehind_23 rfl ?_
    refine r_getR Mm dX2_standBehind_24 fi_X2_37 (hs) rfl (i := 206) rfl (hpl) ?_
    refine r_iconst (v := nI 0) Mm dX2_standBehind_27 (by decide) ?_
    refine r_putI (ty := .int) Mm dX2_standBehind_28 fi_X2_80 ki_1 rfl (hsp) rfl (i := 101) rfl rfl (by decide +kernel) rfl rfl ?_
    refine r_goto (tgt := 119) Mm dX2_standBehind_31 (by decide) ?_
    refine r_vret M dX2_standBehind_119 ?_
    refine ⟨rfl, ?_⟩
    unfold behind
    rw [if_pos (by rw [ksOf_len]; exact c4)]; rfl
set_option maxRecDepth 100000 in
set_option maxHeartbeats 4000000 in
theorem ct_standAt {g : Gl} {l : Launch} (hfl : l.stackTraces = false) {E : Nat} (h : Hp) (a ka ma pl : Nat) (xs ms : List Nat) (hP : isPup E h a ka ma pl xs ms) (f : Int32) : CT g l iX2_standAt 5 [.ref a, .int f] h 0 0 (pRet none (pXY h pl (trk (xF h 200 a) (ksOf h xs) f))) := by
  obtain ⟨hs, hka, hma, hpl, hsp, hLk, hLm, hxk, hxm⟩ := hP
  have hl1 := hLk.2.2.1
  have hl2 := hLm.2.2.1
  refine ct_mk hfl (by decide) (Nat.le_of_ble_eq_true rfl) (by intro v hv; simp only [List.mem_cons, List.not_mem_nil, or_false] at hv; rcases hv with rfl | rfl <;> rfl) (fun V X M => ?_)
  have Mm := M.m
  show V 0 [some (.ref a), some (.int f)] [] _ 0 0
  refine r_aload_n Mm dX2_standAt_0 rfl ?_
  refine r_aload_n Mm dX2_standAt_1 rfl ?_
  refine r_iload_n Mm dX2_standAt_2 rfl ?_
  refine r_iconst (v := nI 1) Mm dX2_standAt_3 (by decide) ?_
  refine r_iadd Mm dX2_standAt_4 ?_
  have hal := ahead_le (ksOf h xs) (f + (nI 1))
  rw [ksOf_len] at hal
  refine r_callV (As := [(.int (f + (nI 1)))]) Mm dX2_standAt_5 rfl (ct_keysAhead hfl h a ka ma pl xs ms ⟨hs, hka, hma, hpl, hsp, hLk, hLm, hxk, hxm⟩ (f + (nI 1))) (hs) rfl cw_X2_58 ⟨Nat.le_of_ble_eq_true rfl, Nat.le_of_ble_eq_true rfl, Nat.le_of_ble_eq_true rfl⟩ (Nat.le_of_ble_eq_true rfl) ⟨Nat.le_of_ble_eq_true rfl, Nat.le_of_ble_eq_true rfl⟩ (fun r1 h2 p3 => ?_) (fun Er1 h2 p3 => False.elim p3)
  obtain ⟨rfl, rfl⟩ := p3
  show V 8 _ [(.int (nI (ahead (ksOf h xs) (f + (nI 1))))), (.ref a)] _ _ _
  refine r_iload_n Mm dX2_standAt_8 rfl ?_
  refine r_callV (As := [(.int (nI (ahead (ksOf h xs) (f + (nI 1))))), (.int f)]) Mm dX2_standAt_9 rfl (ct_standBehind hfl h a ka ma pl xs ms ⟨hs, hka, hma, hpl, hsp, hLk, hLm, hxk, hxm⟩ (ahead (ksOf h xs) (f + (nI 1))) f (by omega)) (hs) rfl cw_X2_73 ⟨Nat.le_of_ble_eq_true rfl, Nat.le_of_ble_eq_true rfl, Nat.le_of_ble_eq_true rfl⟩ (Nat.le_of_ble_eq_true rfl) ⟨Nat.le_of_ble_eq_true rfl, Nat.le_of_ble_eq_true rfl⟩ (fun r4 h5 p6 => ?_) (fun Er4 h5 p6 => False.elim p6)
  obtain ⟨rfl, rfl⟩ := p6
  show V 12 _ [] _ _ _
  refine r_vret M dX2_standAt_12 ?_
  exact ⟨rfl, rfl⟩
set_option maxRecDepth 100000 in
set_option maxHeartbeats 4000000 in
theorem ct_wear {g : Gl} {l : Launch} (hfl : l.stackTraces = false) {E : Nat} (h : Hp) (a ka ma pl : Nat) (xs ms : List Nat) (hP : isPup E h a ka ma pl xs ms) (w : Nat) (hw : w < 1000) (hwn : xF h 204 a = nI w) : CT g l iX2_wear 2 [.ref a] h 0 0 (pRet none (yF h 204 a (nI (min 99 (w + xs.length))))) := by
  obtain ⟨hs, hka, hma, hpl, hsp, hLk, hLm, hxk, hxm⟩ := hP
  have hl1 := hLk.2.2.1
  have hl2 := hLm.2.2.1
  refine ct_mk hfl (by decide) (Nat.le_of_ble_eq_true rfl) (by intro v hv; simp only [List.mem_cons, List.not_mem_nil, or_false] at hv; rcases hv with rfl <;> rfl) (fun V X M => ?_)
  have Mm := M.m
  show V 0 [some (.ref a)] [] _ 0 0
  refine r_aload_n Mm dX2_wear_0 rfl ?_
  refine r_bipush (v := nI 99) Mm dX2_wear_1 (by decide) ?_
  refine r_aload_n Mm dX2_wear_3 rfl ?_
  refine r_getI Mm dX2_wear_4 fi_X2_28 (hs) rfl (i := 204) rfl ?_
  refine r_top _ (nI w) (hwn) ?_
  refine r_aload_n Mm dX2_wear_7 rfl ?_
  refine r_getR Mm dX2_wear_8 fi_X2_21 (hs) rfl (i := 202) rfl (hka) ?_
  refine r_callV (As := []) Mm dX2_wear_11 rfl (ct_lsize hfl h ka xs (hLk)) (hLk.1) rfl cw_X2_45 ⟨Nat.le_of_ble_eq_true rfl, Nat.le_of_ble_eq_true rfl, Nat.le_of_ble_eq_true rfl⟩ (Nat.le_of_ble_eq_true rfl) ⟨Nat.le_of_ble_eq_true rfl, Nat.le_of_ble_eq_true rfl⟩ (fun r1 h2 p3 => ?_) (fun Er1 h2 p3 => False.elim p3)
  obtain ⟨rfl, rfl⟩ := p3
  show V 14 _ [(.int (nI (xs.length))), (.int (nI w)), (.int (nI 99)), (.ref a)] _ _ _
  refine r_iaddN Mm dX2_wear_14 ?_
  refine r_min Mm dX2_wear_15 cm_X2_94 cms_min cmi cmc_min (Nat.le_of_ble_eq_true rfl) (Nat.le_of_ble_eq_true rfl) ?_
  refine r_top _ (nI (min 99 (w + xs.length))) (minN (by omega) (by omega)) ?_
  refine r_putI (ty := .int) Mm dX2_wear_18 fi_X2_28 ki_2 rfl (hs) rfl (i := 204) rfl rfl (by decide +kernel) rfl rfl ?_
  refine r_vret M dX2_wear_21 ?_
  exact ⟨rfl, rfl⟩
set_option maxRecDepth 100000 in
set_option maxHeartbeats 4000000 in
theorem ct_pull {g : Gl} {l : Launch} (hfl : l.stackTraces = false) {E : Nat} (h : Hp) (a ka ma pl : Nat) (xs ms : List Nat) (hP : isPup E h a ka ma pl xs ms)  : CT g l iX2_pull 2 [.ref a] h 0 0 (pRet none (pXY h pl (pullS (xF h 200 a) (xF h 201 a) (xF h 100 pl, xF h 101 pl)))) := by
  obtain ⟨hs, hka, hma, hpl, hsp, hLk, hLm, hxk, hxm⟩ := hP
  have hl1 := hLk.2.2.1
  have hl2 := hLm.2.2.1
  refine ct_mk hfl (by decide) (Nat.le_of_ble_eq_true rfl) (by intro v hv; simp only [List.mem_cons, List.not_mem_nil, or_false] at hv; rcases hv with rfl <;> rfl) (fun V X M => ?_)
  have Mm := M.m
  show V 0 [some (.ref a), none, none] [] _ 0 0
  refine r_aload_n Mm dX2_pull_0 rfl ?_
  refine r_getI Mm dX2_pull_1 fi_X2_15 (hs) rfl (i := 201) rfl ?_
  refine r_aload_n Mm dX2_pull_4 rfl ?_
  refine r_getI Mm dX2_pull_5 fi_X2_15 (hs) rfl (i := 201) rfl ?_
  refine r_imul Mm dX2_pull_8 ?_
  refine r_istore_n Mm dX2_pull_9 (by decide) ?_
  show V 10 [some (.ref a), some (.int ((xF h 201 a) * (xF h 201 a))), none] _ _ _ _
  refine r_aload_n Mm dX2_pull_10 rfl ?_
  refine r_callV (As := []) Mm dX2_pull_11 rfl (ct_sqBar hfl h a ka ma pl xs ms ⟨hs, hka, hma, hpl, hsp, hLk, hLm, hxk, hxm⟩) (hs) rfl cw_X2_91 ⟨Nat.le_of_ble_eq_true rfl, Nat.le_of_ble_eq_true rfl, Nat.le_of_ble_eq_true rfl⟩ (Nat.le_of_ble_eq_true rfl) ⟨Nat.le_of_ble_eq_true rfl, Nat.le_of_ble_eq_true rfl⟩ (fun r1 h2 p3 => ?_) (fun Er1 h2 p3 => False.elim p3)
  obtain ⟨rfl, rfl⟩ := p3
  show V 14 _ [(.int (sq2 (xF h 100 pl - xF h 200 a) (xF h 101 pl)))] _ _ _
  refine r_iload_n Mm dX2_pull_14 rfl ?_
  refine r_icmp_gt (tgt := 19) Mm dX2_pull_15 (by decide) (fun c4 => ?_) (fun c4 => ?_)
  · refine r_aload_n Mm dX2_pull_19 rfl ?_
    refine r_getI Mm dX2_pull_20 fi_X2_15 (hs) rfl (i := 201) rfl ?_
    refine r_ineg Mm dX2_pull_23 ?_
    refine r_aload_n Mm dX2_pull_24 rfl ?_
    refine r_getI Mm dX2_pull_25 fi_X2_15 (hs) rfl (i := 201) rfl ?_
    refine r_aload_n Mm dX2_pull_28 rfl ?_
    refine r_getR Mm dX2_pull_29 fi_X2_37 (hs) rfl (i := 206) rfl (hpl) ?_
    refine r_getI Mm dX2_pull_32 fi_X2_77 (hsp) rfl (i := 100) rfl ?_
    refine r_aload_n Mm dX2_pull_35 rfl ?_
    refine r_getI Mm dX2_pull_36 fi_X2_9 (hs) rfl (i := 200) rfl ?_
    refine r_isub Mm dX2_pull_39 ?_
    refine r_min Mm dX2_pull_40 cm_X2_94 cms_min cmi cmc_min (Nat.le_of_ble_eq_true rfl) (Nat.le_of_ble_eq_true rfl) ?_
    refine r_max Mm dX2_pull_43 cm_X2_100 cms_max cmi cmc_max (Nat.le_of_ble_eq_true rfl) (Nat.le_of_ble_eq_true rfl) ?_
    refine r_top _ (clampS (xF h 201 a) (xF h 100 pl - xF h 200 a)) rfl ?_
    refine r_istore_n Mm dX2_pull_46 (by decide) ?_
    show V 47 [some (.ref a), some (.int ((xF h 201 a) * (xF h 201 a))), some (.int (clampS (xF h 201 a) (xF h 100 pl - xF h 200 a)))] _ _ _ _
    refine r_aload_n Mm dX2_pull_47 rfl ?_
    refine r_getR Mm dX2_pull_48 fi_X2_37 (hs) rfl (i := 206) rfl (hpl) ?_
    refine r_aload_n Mm dX2_pull_51 rfl ?_
    refine r_getI Mm dX2_pull_52 fi_X2_9 (hs) rfl (i := 200) rfl ?_
    refine r_iload_n Mm dX2_pull_55 rfl ?_
    refine r_iadd Mm dX2_pull_56 ?_
    refine r_putI (ty := .int) Mm dX2_pull_57 fi_X2_77 ki_1 rfl (hsp) rfl (i := 100) rfl rfl (by decide +kernel) rfl rfl ?_
    refine r_aload_n Mm dX2_pull_60 rfl ?_
    refine r_getR Mm dX2_pull_61 fi_X2_37 (hs) rfl (i := 206) rfl (hpl) ?_
    refine r_iload_n Mm dX2_pull_64 rfl ?_
    refine r_iload_n Mm dX2_pull_65 rfl ?_
    refine r_iload_n Mm dX2_pull_66 rfl ?_
    refine r_imul Mm dX2_pull_67 ?_
    refine r_isub Mm dX2_pull_68 ?_
    refine r_callSN (As := [(.int (((xF h 201 a) * (xF h 201 a)) - ((clampS (xF h 201 a) (xF h 100 pl - xF h 200 a)) * (clampS (xF h 201 a) (xF h 100 pl - xF h 200 a)))))]) Mm dX2_pull_69 rfl (ct_root hfl ((yF h 100 pl ((xF h 200 a) + (clampS (xF h 201 a) (xF h 100 pl - xF h 200 a))))) (((xF h 201 a) * (xF h 201 a)) - ((clampS (xF h 201 a) (xF h 100 pl - xF h 200 a)) * (clampS (xF h 201 a) (xF h 100 pl - xF h 200 a))))) cw_X2_103 ⟨Nat.le_of_ble_eq_true rfl, Nat.le_of_ble_eq_true rfl, Nat.le_of_ble_eq_true rfl⟩ (Nat.le_of_ble_eq_true rfl) ⟨Nat.le_of_ble_eq_true rfl, Nat.le_of_ble_eq_true rfl⟩ (fun r5 h6 p7 => ?_) (fun _ _ z => z)
    obtain ⟨rfl, rfl⟩ := p7
    show V 72 _ [(.int (rootB (((xF h 201 a) * (xF h 201 a)) - ((clampS (xF h 201 a) (xF h 100 pl - xF h 200 a)) * (clampS (xF h 201 a) (xF h 100 pl - xF h 200 a)))))), (.ref pl)] _ _ _
    refine r_putI (ty := .int) Mm dX2_pull_72 fi_X2_80 ki_1 rfl (hsp) rfl (i := 101) rfl rfl (by decide +kernel) rfl rfl ?_
    refine r_vret M dX2_pull_75 ?_
    refine ⟨rfl, ?_⟩
    rw [show pullS (xF h 200 a) (xF h 201 a) (xF h 100 pl, xF h 101 pl) = (xF h 200 a + clampS (xF h 201 a) (xF h 100 pl - xF h 200 a), rootB (xF h 201 a * xF h 201 a - clampS (xF h 201 a) (xF h 100 pl - xF h 200 a) * clampS (xF h 201 a) (xF h 100 pl - xF h 200 a))) from if_pos c4]
    exact pXY_mk _ _ _ _
  · refine r_vret M dX2_pull_18 ?_
    refine ⟨rfl, ?_⟩
    rw [show pullS (xF h 200 a) (xF h 201 a) (xF h 100 pl, xF h 101 pl) = (xF h 100 pl, xF h 101 pl) from if_neg (Int32.not_lt.mpr (Int32.not_lt.mp c4))]
    exact pXY_self h pl
set_option maxRecDepth 100000 in
set_option maxHeartbeats 4000000 in
theorem ct_keepOff {g : Gl} {l : Launch} (hfl : l.stackTraces = false) {E : Nat} (h : Hp) (a ka ma pl : Nat) (xs ms : List Nat) (hP : isPup E h a ka ma pl xs ms) (p2 : Nat) (h2 : xS h p2 = some (1, 0)) : CT g l iX2_keepOff 2 [.ref a, .ref p2] h 0 0 (pRet none (if nearS (xF h 100 pl, xF h 101 pl) (xF h 100 p2, xF h 101 p2) = true then yF (yF h 100 pl (awayS (xF h 100 pl) (xF h 100 p2))) 207 a (nI 1) else h)) := by
  obtain ⟨hs, hka, hma, hpl, hsp, hLk, hLm, hxk, hxm⟩ := hP
  have hl1 := hLk.2.2.1
  have hl2 := hLm.2.2.1
  refine ct_mk hfl (by decide) (Nat.le_of_ble_eq_true rfl) (by intro v hv; simp only [List.mem_cons, List.not_mem_nil, or_false] at hv; rcases hv with rfl | rfl <;> rfl) (fun V X M => ?_)
  have Mm := M.m
  show V 0 [some (.ref a), some (.ref p2)] [] _ 0 0
  refine r_aload_n Mm dX2_keepOff_0 rfl ?_
  refine r_getR Mm dX2_keepOff_1 fi_X2_37 (hs) rfl (i := 206) rfl (hpl) ?_
  refine r_getI Mm dX2_keepOff_4 fi_X2_77 (hsp) rfl (i := 100) rfl ?_
  refine r_aload_n Mm dX2_keepOff_7 rfl ?_
  refine r_getI Mm dX2_keepOff_8 fi_X2_77 (h2) rfl (i := 100) rfl ?_
  refine r_isub Mm dX2_keepOff_11 ?_
  refine r_abs Mm dX2_keepOff_12 cm_X2_106 cms_abs cmi cmc_abs (Nat.le_of_ble_eq_true rfl) (Nat.le_of_ble_eq_true rfl) ?_
  refine r_bipush (v := nI 10) Mm dX2_keepOff_15 (by decide) ?_
  refine r_icmp_ge (tgt := 40) Mm dX2_keepOff_17 (by decide) (fun c1 => ?_) (fun c1 => ?_)
  · refine r_vret M dX2_keepOff_40 ?_
    refine ⟨rfl, ?_⟩
    rw [if_neg (show ¬ nearS (xF h 100 pl, xF h 101 pl) (xF h 100 p2, xF h 101 p2) = true by simp only [nearS, Bool.and_eq_true, decide_eq_true_eq]; exact fun z => absurd z.1 (Int32.not_lt.mpr c1))]
  · refine r_aload_n Mm dX2_keepOff_20 rfl ?_
    refine r_getR Mm dX2_keepOff_21 fi_X2_37 (hs) rfl (i := 206) rfl (hpl) ?_
    refine r_getI Mm dX2_keepOff_24 fi_X2_80 (hsp) rfl (i := 101) rfl ?_
    refine r_aload_n Mm dX2_keepOff_27 rfl ?_
    refine r_getI Mm dX2_keepOff_28 fi_X2_80 (h2) rfl (i := 101) rfl ?_
    refine r_isub Mm dX2_keepOff_31 ?_
    refine r_abs Mm dX2_keepOff_32 cm_X2_106 cms_abs cmi cmc_abs (Nat.le_of_ble_eq_true rfl) (Nat.le_of_ble_eq_true rfl) ?_
    refine r_bipush (v := nI 10) Mm dX2_keepOff_35 (by decide) ?_
    refine r_icmp_lt (tgt := 41) Mm dX2_keepOff_37 (by decide) (fun c2 => ?_) (fun c2 => ?_)
    · refine r_aload_n Mm dX2_keepOff_41 rfl ?_
      refine r_getR Mm dX2_keepOff_42 fi_X2_37 (hs) rfl (i := 206) rfl (hpl) ?_
      refine r_aload_n Mm dX2_keepOff_45 rfl ?_
      refine r_getR Mm dX2_keepOff_46 fi_X2_37 (hs) rfl (i := 206) rfl (hpl) ?_
      refine r_getI Mm dX2_keepOff_49 fi_X2_77 (hsp) rfl (i := 100) rfl ?_
      refine r_aload_n Mm dX2_keepOff_52 rfl ?_
      refine r_getI Mm dX2_keepOff_53 fi_X2_77 (h2) rfl (i := 100) rfl ?_
      refine r_icmp_ge (tgt := 69) Mm dX2_keepOff_56 (by decide) (fun c3 => ?_) (fun c3 => ?_)
      · refine r_aload_n Mm dX2_keepOff_69 rfl ?_
        refine r_getI Mm dX2_keepOff_70 fi_X2_77 (h2) rfl (i := 100) rfl ?_
        refine r_bipush (v := nI 10) Mm dX2_keepOff_73 (by decide) ?_
        refine r_iadd Mm dX2_keepOff_75 ?_
        refine r_putI (ty := .int) Mm dX2_keepOff_76 fi_X2_77 ki_1 rfl (hsp) rfl (i := 100) rfl rfl (by decide +kernel) rfl rfl ?_
        refine r_aload_n Mm dX2_keepOff_79 rfl ?_
        refine r_iconst (v := nI 1) Mm dX2_keepOff_80 (by decide) ?_
        refine r_putI (ty := .boolean) Mm dX2_keepOff_81 fi_X2_41 ki_2 rfl (hs) rfl (i := 207) rfl rfl (by decide +kernel) rfl rfl ?_
        refine r_vret M dX2_keepOff_84 ?_
        refine ⟨rfl, ?_⟩
        rw [if_pos (show nearS (xF h 100 pl, xF h 101 pl) (xF h 100 p2, xF h 101 p2) = true by simp only [nearS, Bool.and_eq_true, decide_eq_true_eq]; exact ⟨Int32.not_le.mp c1, c2⟩)]
        rw [show awayS (xF h 100 pl) (xF h 100 p2) = _ from if_neg (Int32.not_lt.mpr c3)]
      · refine r_aload_n Mm dX2_keepOff_59 rfl ?_
        refine r_getI Mm dX2_keepOff_60 fi_X2_77 (h2) rfl (i := 100) rfl ?_
        refine r_bipush (v := nI 10) Mm dX2_keepOff_63 (by decide) ?_
        refine r_isub Mm dX2_keepOff_65 ?_
        refine r_goto (tgt := 76) Mm dX2_keepOff_66 (by decide) ?_
        refine r_putI (ty := .int) Mm dX2_keepOff_76 fi_X2_77 ki_1 rfl (hsp) rfl (i := 100) rfl rfl (by decide +kernel) rfl rfl ?_
        refine r_aload_n Mm dX2_keepOff_79 rfl ?_
        refine r_iconst (v := nI 1) Mm dX2_keepOff_80 (by decide) ?_
        refine r_putI (ty := .boolean) Mm dX2_keepOff_81 fi_X2_41 ki_2 rfl (hs) rfl (i := 207) rfl rfl (by decide +kernel) rfl rfl ?_
        refine r_vret M dX2_keepOff_84 ?_
        refine ⟨rfl, ?_⟩
        rw [if_pos (show nearS (xF h 100 pl, xF h 101 pl) (xF h 100 p2, xF h 101 p2) = true by simp only [nearS, Bool.and_eq_true, decide_eq_true_eq]; exact ⟨Int32.not_le.mp c1, c2⟩)]
        rw [show awayS (xF h 100 pl) (xF h 100 p2) = _ from if_pos (Int32.not_le.mp c3)]
    · refine r_vret M dX2_keepOff_40 ?_
      refine ⟨rfl, ?_⟩
      rw [if_neg (show ¬ nearS (xF h 100 pl, xF h 101 pl) (xF h 100 p2, xF h 101 p2) = true by simp only [nearS, Bool.and_eq_true, decide_eq_true_eq]; exact fun z => c2 z.2)]
theorem any_none {α : Type} {ms : List α} {p : α → Bool} {i : Nat} (hf : ∀ (j : Nat) (m : α), j < i → ms[j]? = some m → p m = false) (hi : ms.length ≤ i) : ms.any p = false := by
  rw [List.any_eq_false]
  intro m hm
  obtain ⟨j, hj⟩ := List.getElem?_of_mem hm
  rw [hf j m (by have := (List.getElem?_eq_some_iff.mp hj).1; omega) hj]
  exact Bool.noConfusion
theorem none_step {α : Type} {ms : List α} {p : α → Bool} {i : Nat} {v : α} (hf : ∀ (j : Nat) (m : α), j < i → ms[j]? = some m → p m = false) (hv : ms[i]? = some v) (hp : p v = false) : ∀ (j : Nat) (m : α), j < i + 1 → ms[j]? = some m → p m = false := fun j m hj hm => by
  by_cases hji : j < i
  · exact hf j m hji hm
  · obtain rfl : j = i := by omega
    rw [hv] at hm; cases hm; exact hp
set_option maxRecDepth 100000 in
set_option maxHeartbeats 4000000 in
theorem ct_mended {g : Gl} {l : Launch} (hfl : l.stackTraces = false) {E : Nat} (h : Hp) (a ka ma pl : Nat) (xs ms : List Nat) (hP : isPup E h a ka ma pl xs ms) (b : Nat) (hb : xS h b = some (4, 0)) : CT g l iX2_isMendedDuring 4 [.ref a, .ref b] h 0 0 (pRet (some (.int (bI (ms.any (fun m => meetS (sv h m) (sv h b)))))) h) := by
  obtain ⟨hs, hka, hma, hpl, hsp, hLk, hLm, hxk, hxm⟩ := hP
  have hl1 := hLk.2.2.1
  have hl2 := hLm.2.2.1
  refine ct_mk hfl (by decide) (Nat.le_of_ble_eq_true rfl) (by intro v hv; simp only [List.mem_cons, List.not_mem_nil, or_false] at hv; rcases hv with rfl | rfl <;> rfl) (fun V X M => ?_)
  have Mm := M.m
  show V 0 [some (.ref a), some (.ref b), none] [] _ 0 0
  refine r_iconst (v := nI 0) Mm dX2_isMendedDuring_0 (by decide) ?_
  refine r_istore_n Mm dX2_isMendedDuring_1 (by decide) ?_
  show V 2 [some (.ref a), some (.ref b), some (.int (nI 0))] _ _ _ _
  have loop : ∀ (n : Nat) (i : Nat), ms.length - i < n → (i ≤ ms.length) → (∀ (j m : Nat), j < i → ms[j]? = some m → meetS (sv h m) (sv h b) = false) → V 2 [some (.ref a), some (.ref b), some (.int (nI i))] [] h 0 0 := by
    intro n
    induction n with
    | zero => intro i hm; exact absurd hm (Nat.not_lt_zero _)
    | succ n ih =>
      intro i hm hi hf
      refine r_iload_n Mm dX2_isMendedDuring_2 rfl ?_
      refine r_aload_n Mm dX2_isMendedDuring_3 rfl ?_
      refine r_getR Mm dX2_isMendedDuring_4 fi_X2_31 (hs) rfl (i := 205) rfl (hma) ?_
      refine r_callV (As := []) Mm dX2_isMendedDuring_7 rfl (ct_lsize hfl h ma ms (hLm)) (hLm.1) rfl cw_X2_45 ⟨Nat.le_of_ble_eq_true rfl, Nat.le_of_ble_eq_true rfl, Nat.le_of_ble_eq_true rfl⟩ (Nat.le_of_ble_eq_true rfl) ⟨Nat.le_of_ble_eq_true rfl, Nat.le_of_ble_eq_true rfl⟩ (fun r1 h2 p3 => ?_) (fun Er1 h2 p3 => False.elim p3)
      obtain ⟨rfl, rfl⟩ := p3
      show V 10 _ [(.int (nI (ms.length))), (.int (nI i))] _ _ _
      refine r_icmp_geN (tgt := 39) Mm dX2_isMendedDuring_10 (by decide) (by omega) (by omega) (fun c4 => ?_) (fun c4 => ?_)
      · refine r_iconst (v := nI 0) Mm dX2_isMendedDuring_39 (by decide) ?_
        refine r_zret M dX2_isMendedDuring_40 (by decide) ?_
        exact ⟨by rw [show ms.any (fun m => meetS (sv h m) (sv h b)) = false from any_none hf (by omega)]; rfl, rfl⟩
      · refine r_aload_n Mm dX2_isMendedDuring_13 rfl ?_
        refine r_getR Mm dX2_isMendedDuring_14 fi_X2_31 (hs) rfl (i := 205) rfl (hma) ?_
        refine r_iload_n Mm dX2_isMendedDuring_17 rfl ?_
        obtain ⟨v5, hv5⟩ : ∃ v, ms[i]? = some v := ⟨_, List.getElem?_eq_getElem (by omega)⟩
        have sv5 := hxm v5 (List.mem_of_getElem? hv5)
        refine r_callV (As := [(.int (nI i))]) Mm dX2_isMendedDuring_18 rfl (ct_lget hfl h ma i v5 ms (hLm) hv5) (hLm.1) rfl cw_X2_49 ⟨Nat.le_of_ble_eq_true rfl, Nat.le_of_ble_eq_true rfl, Nat.le_of_ble_eq_true rfl⟩ (Nat.le_of_ble_eq_true rfl) ⟨Nat.le_of_ble_eq_true rfl, Nat.le_of_ble_eq_true rfl⟩ (fun r6 h7 p8 => ?_) (fun Er6 h7 p8 => False.elim p8)
        obtain ⟨rfl, rfl⟩ := p8
        show V 21 _ [(.ref v5)] _ _ _
        refine r_cast Mm dX2_isMendedDuring_21 (sv5) rfl cl_X2_113 ?_
        refine r_aload_n Mm dX2_isMendedDuring_24 rfl ?_
        refine r_callV (As := [(.ref b)]) Mm dX2_isMendedDuring_25 rfl (ct_meets hfl h v5 b sv5 hb) (sv5) rfl cw_X2_115 ⟨Nat.le_of_ble_eq_true rfl, Nat.le_of_ble_eq_true rfl, Nat.le_of_ble_eq_true rfl⟩ (Nat.le_of_ble_eq_true rfl) ⟨Nat.le_of_ble_eq_true rfl, Nat.le_of_ble_eq_true rfl⟩ (fun r9 h10 p11 => ?_) (fun Er9 h10 p11 => False.elim p11)
        obtain ⟨rfl, rfl⟩ := p11
        show V 28 _ [(.int (bI (meetS (sv h v5) (sv h b))))] _ _ _
        refine r_if_eqB (tgt := 33) Mm dX2_isMendedDuring_28 (by decide) (fun c12 => ?_) (fun c12 => ?_)
        · refine r_iincN (k := 1) Mm dX2_isMendedDuring_33 rfl (by decide) (by decide) ?_
          show V 36 [some (.ref a), some (.ref b), some (.int (nI (i + 1)))] _ _ _ _
          refine r_goto (tgt := 2) Mm dX2_isMendedDuring_36 (by decide) ?_
          exact ih (i + 1) (by omega) (by omega) (none_step hf hv5 c12)
        · refine r_iconst (v := nI 1) Mm dX2_isMendedDuring_31 (by decide) ?_
          refine r_zret M dX2_isMendedDuring_32 (by decide) ?_
          exact ⟨by rw [show ms.any (fun m => meetS (sv h m) (sv h b)) = true from List.any_eq_true.mpr ⟨v5, List.mem_of_getElem? hv5, c12⟩]; rfl, rfl⟩
  exact loop (ms.length + 1) 0 (by omega) (Nat.zero_le _) (fun j _ hj => absurd hj (Nat.not_lt_zero _))
theorem isPup.xy {E : Nat} {h : Hp} {a ka ma pl : Nat} {xs ms : List Nat} (hP : isPup E h a ka ma pl xs ms) (p : Nat) (v : Int32 × Int32) : isPup E (pXY h p v) a ka ma pl xs ms := hP
set_option maxRecDepth 100000 in
set_option maxHeartbeats 4000000 in
theorem ct_walkTo {g : Gl} {l : Launch} (hfl : l.stackTraces = false) {E : Nat} (h : Hp) (a ka ma pl : Nat) (xs ms : List Nat) (hP : isPup E h a ka ma pl xs ms) (F : Nat) (hF : F < 2000) (hsort : SortK (ksOf h xs)) : CT g l iX2_walkTo 5 [.ref a, .int (nI F)] h 0 0 (pRet none (pXY h pl (trk (xF h 200 a) (ksOf h xs) (nI F)))) := by
  obtain ⟨hs, hka, hma, hpl, hsp, hLk, hLm, hxk, hxm⟩ := hP
  have hl1 := hLk.2.2.1
  have hl2 := hLm.2.2.1
  refine ct_mk hfl (by decide) (Nat.le_of_ble_eq_true rfl) (by intro v hv; simp only [List.mem_cons, List.not_mem_nil, or_false] at hv; rcases hv with rfl | rfl <;> rfl) (fun V X M => ?_)
  have Mm := M.m
  show V 0 [some (.ref a), some (.int (nI F)), none, none] [] _ 0 0
  refine r_iconst (v := nI 0) Mm dX2_walkTo_0 (by decide) ?_
  refine r_istore_n Mm dX2_walkTo_1 (by decide) ?_
  show V 2 [some (.ref a), some (.int (nI F)), some (.int (nI 0)), none] _ _ _ _
  refine r_iconst (v := nI 0) Mm dX2_walkTo_2 (by decide) ?_
  refine r_istore_n Mm dX2_walkTo_3 (by decide) ?_
  show V 4 [some (.ref a), some (.int (nI F)), some (.int (nI 0)), some (.int (nI 0))] _ _ _ _
  have loop : ∀ (n : Nat) (j : Nat) (v : Int32 × Int32), F + 1 - j < n → (j ≤ F + 1) → (j = 0 ∨ v = behind (xF h 200 a) (ksOf h xs) (ahead (ksOf h xs) (nI j)) (nI (j - 1))) → V 4 [some (.ref a), some (.int (nI F)), some (.int (nI (ahead (ksOf h xs) (nI j)))), some (.int (nI j))] [] (pXY h pl v) 0 0 := by
    intro n
    induction n with
    | zero => intro j v hm; exact absurd hm (Nat.not_lt_zero _)
    | succ n ih =>
      intro j v hm hj hv
      have hal := ahead_le (ksOf h xs) (nI j)
      rw [ksOf_len] at hal
      refine r_iload_n Mm dX2_walkTo_4 rfl ?_
      refine r_iload_n Mm dX2_walkTo_5 rfl ?_
      refine r_icmp_gtN (tgt := 53) Mm dX2_walkTo_6 (by decide) (by omega) (by omega) (fun c1 => ?_) (fun c1 => ?_)
      · refine r_vret M dX2_walkTo_53 ?_
        obtain rfl : j = F + 1 := by omega
        refine ⟨rfl, ?_⟩
        rw [hv.resolve_left (by omega)]
        unfold trk
        rw [nI_add]; rfl
      · refine r_iload_n Mm dX2_walkTo_9 rfl ?_
        refine r_aload_n Mm dX2_walkTo_10 rfl ?_
        refine r_getR Mm dX2_walkTo_11 fi_X2_21 (hs) rfl (i := 202) rfl (hka) ?_
        refine r_callV (As := []) Mm dX2_walkTo_14 rfl (ct_lsize hfl ((pXY h pl v)) ka xs (hLk)) (hLk.1) rfl cw_X2_45 ⟨Nat.le_of_ble_eq_true rfl, Nat.le_of_ble_eq_true rfl, Nat.le_of_ble_eq_true rfl⟩ (Nat.le_of_ble_eq_true rfl) ⟨Nat.le_of_ble_eq_true rfl, Nat.le_of_ble_eq_true rfl⟩ (fun r2 h3 p4 => ?_) (fun Er2 h3 p4 => False.elim p4)
        obtain ⟨rfl, rfl⟩ := p4
        show V 17 _ [(.int (nI (xs.length))), (.int (nI (ahead (ksOf h xs) (nI j))))] _ _ _
        refine r_icmp_geN (tgt := 41) Mm dX2_walkTo_17 (by decide) (by omega) (by omega) (fun c5 => ?_) (fun c5 => ?_)
        · have e41 : ahead (ksOf h xs) (nI (j + 1)) = ahead (ksOf h xs) (nI j) := ahead_step hsort (by omega) |>.trans (if_neg (by rw [List.getElem?_eq_none (by rw [ksOf_len]; omega)]; exact Bool.noConfusion))
          have hal2 := ahead_le (ksOf h xs) (nI (j + 1))
          rw [ksOf_len] at hal2
          rw [← e41]
          show V 41 [some (.ref a), some (.int (nI F)), some (.int (nI (ahead (ksOf h xs) (nI (j + 1))))), some (.int (nI j))] [] (pXY h pl v) _ _
          refine r_aload_n Mm dX2_walkTo_41 rfl ?_
          refine r_iload_n Mm dX2_walkTo_42 rfl ?_
          refine r_iload_n Mm dX2_walkTo_43 rfl ?_
          refine r_callV (As := [(.int (nI (ahead (ksOf h xs) (nI (j + 1))))), (.int (nI j))]) Mm dX2_walkTo_44 rfl (ct_standBehind hfl (pXY h pl v) a ka ma pl xs ms (isPup.xy ⟨hs, hka, hma, hpl, hsp, hLk, hLm, hxk, hxm⟩ pl v) (ahead (ksOf h xs) (nI (j + 1))) (nI j) (by omega)) (hs) rfl cw_X2_73 ⟨Nat.le_of_ble_eq_true rfl, Nat.le_of_ble_eq_true rfl, Nat.le_of_ble_eq_true rfl⟩ (Nat.le_of_ble_eq_true rfl) ⟨Nat.le_of_ble_eq_true rfl, Nat.le_of_ble_eq_true rfl⟩ (fun r6 h7 p8 => ?_) (fun Er6 h7 p8 => False.elim p8)
          obtain ⟨rfl, rfl⟩ := p8
          rw [pXY_pXY]
          show V 47 _ [] _ _ _
          refine r_iincN (k := 1) Mm dX2_walkTo_47 rfl (by decide) (by decide) ?_
          show V 50 [some (.ref a), some (.int (nI F)), some (.int (nI (ahead (ksOf h xs) (nI (j + 1))))), some (.int (nI (j + 1)))] _ _ _ _
          refine r_goto (tgt := 4) Mm dX2_walkTo_50 (by decide) ?_
          exact ih (j + 1) _ (by omega) (by omega) (Or.inr rfl)
        · refine r_aload_n Mm dX2_walkTo_20 rfl ?_
          refine r_getR Mm dX2_walkTo_21 fi_X2_21 (hs) rfl (i := 202) rfl (hka) ?_
          refine r_iload_n Mm dX2_walkTo_24 rfl ?_
          obtain ⟨v9, hv9⟩ : ∃ v, xs[ahead (ksOf h xs) (nI j)]? = some v := ⟨_, List.getElem?_eq_getElem (by omega)⟩
          have sv9 := hxk v9 (List.mem_of_getElem? hv9)
          refine r_callV (As := [(.int (nI (ahead (ksOf h xs) (nI j))))]) Mm dX2_walkTo_25 rfl (ct_lget hfl ((pXY h pl v)) ka (ahead (ksOf h xs) (nI j)) v9 xs (hLk) hv9) (hLk.1) rfl cw_X2_49 ⟨Nat.le_of_ble_eq_true rfl, Nat.le_of_ble_eq_true rfl, Nat.le_of_ble_eq_true rfl⟩ (Nat.le_of_ble_eq_true rfl) ⟨Nat.le_of_ble_eq_true rfl, Nat.le_of_ble_eq_true rfl⟩ (fun r10 h11 p12 => ?_) (fun Er10 h11 p12 => False.elim p12)
          obtain ⟨rfl, rfl⟩ := p12
          show V 28 _ [(.ref v9)] _ _ _
          refine r_cast Mm dX2_walkTo_28 (sv9) rfl cl_X2_53 ?_
          refine r_getI Mm dX2_walkTo_31 fi_X2_55 (sv9) rfl (i := 0) rfl ?_
          refine r_iload_n Mm dX2_walkTo_34 rfl ?_
          refine r_icmp_ne (tgt := 41) Mm dX2_walkTo_35 (by decide) (fun c13 => ?_) (fun c13 => ?_)
          · have e41 : ahead (ksOf h xs) (nI (j + 1)) = ahead (ksOf h xs) (nI j) := ahead_step hsort (by omega) |>.trans (if_neg (by rw [ksOf_at hv9]; exact any_N (h := h) c13))
            have hal2 := ahead_le (ksOf h xs) (nI (j + 1))
            rw [ksOf_len] at hal2
            rw [← e41]
            show V 41 [some (.ref a), some (.int (nI F)), some (.int (nI (ahead (ksOf h xs) (nI (j + 1))))), some (.int (nI j))] [] (pXY h pl v) _ _
            refine r_aload_n Mm dX2_walkTo_41 rfl ?_
            refine r_iload_n Mm dX2_walkTo_42 rfl ?_
            refine r_iload_n Mm dX2_walkTo_43 rfl ?_
            refine r_callV (As := [(.int (nI (ahead (ksOf h xs) (nI (j + 1))))), (.int (nI j))]) Mm dX2_walkTo_44 rfl (ct_standBehind hfl (pXY h pl v) a ka ma pl xs ms (isPup.xy ⟨hs, hka, hma, hpl, hsp, hLk, hLm, hxk, hxm⟩ pl v) (ahead (ksOf h xs) (nI (j + 1))) (nI j) (by omega)) (hs) rfl cw_X2_73 ⟨Nat.le_of_ble_eq_true rfl, Nat.le_of_ble_eq_true rfl, Nat.le_of_ble_eq_true rfl⟩ (Nat.le_of_ble_eq_true rfl) ⟨Nat.le_of_ble_eq_true rfl, Nat.le_of_ble_eq_true rfl⟩ (fun r14 h15 p16 => ?_) (fun Er14 h15 p16 => False.elim p16)
            obtain ⟨rfl, rfl⟩ := p16
            rw [pXY_pXY]
            show V 47 _ [] _ _ _
            refine r_iincN (k := 1) Mm dX2_walkTo_47 rfl (by decide) (by decide) ?_
            show V 50 [some (.ref a), some (.int (nI F)), some (.int (nI (ahead (ksOf h xs) (nI (j + 1))))), some (.int (nI (j + 1)))] _ _ _ _
            refine r_goto (tgt := 4) Mm dX2_walkTo_50 (by decide) ?_
            exact ih (j + 1) _ (by omega) (by omega) (Or.inr rfl)
          · refine r_iincN (k := 1) Mm dX2_walkTo_38 rfl (by decide) (by decide) ?_
            show V 41 [some (.ref a), some (.int (nI F)), some (.int (nI (ahead (ksOf h xs) (nI j) + 1))), some (.int (nI j))] _ _ _ _
            have e41 : ahead (ksOf h xs) (nI (j + 1)) = ahead (ksOf h xs) (nI j) + 1 := ahead_step hsort (by omega) |>.trans (if_pos (by rw [ksOf_at hv9]; exact any_T (h := h) c13))
            have hal2 := ahead_le (ksOf h xs) (nI (j + 1))
            rw [ksOf_len] at hal2
            rw [← e41]
            show V 41 [some (.ref a), some (.int (nI F)), some (.int (nI (ahead (ksOf h xs) (nI (j + 1))))), some (.int (nI j))] [] (pXY h pl v) _ _
            refine r_aload_n Mm dX2_walkTo_41 rfl ?_
            refine r_iload_n Mm dX2_walkTo_42 rfl ?_
            refine r_iload_n Mm dX2_walkTo_43 rfl ?_
            refine r_callV (As := [(.int (nI (ahead (ksOf h xs) (nI (j + 1))))), (.int (nI j))]) Mm dX2_walkTo_44 rfl (ct_standBehind hfl (pXY h pl v) a ka ma pl xs ms (isPup.xy ⟨hs, hka, hma, hpl, hsp, hLk, hLm, hxk, hxm⟩ pl v) (ahead (ksOf h xs) (nI (j + 1))) (nI j) (by omega)) (hs) rfl cw_X2_73 ⟨Nat.le_of_ble_eq_true rfl, Nat.le_of_ble_eq_true rfl, Nat.le_of_ble_eq_true rfl⟩ (Nat.le_of_ble_eq_true rfl) ⟨Nat.le_of_ble_eq_true rfl, Nat.le_of_ble_eq_true rfl⟩ (fun r17 h18 p19 => ?_) (fun Er17 h18 p19 => False.elim p19)
            obtain ⟨rfl, rfl⟩ := p19
            rw [pXY_pXY]
            show V 47 _ [] _ _ _
            refine r_iincN (k := 1) Mm dX2_walkTo_47 rfl (by decide) (by decide) ?_
            show V 50 [some (.ref a), some (.int (nI F)), some (.int (nI (ahead (ksOf h xs) (nI (j + 1))))), some (.int (nI (j + 1)))] _ _ _ _
            refine r_goto (tgt := 4) Mm dX2_walkTo_50 (by decide) ?_
            exact ih (j + 1) _ (by omega) (by omega) (Or.inr rfl)
  have e0 : ahead (ksOf h xs) (nI 0) = 0 := ahead_eq (Nat.zero_le _) (fun j _ hj => absurd hj (Nat.not_lt_zero _)) (fun k hk => by obtain ⟨n, hn, hk2⟩ := hsort.2 k (List.mem_of_getElem? hk); rw [hk2]; exact nI_nlt (Nat.zero_le _) (by omega))
  have l0 := loop (F + 2) 0 (xF h 100 pl, xF h 101 pl) (by omega) (Nat.zero_le _) (Or.inl rfl)
  rw [pXY_self, e0] at l0
  exact l0
set_option maxRecDepth 100000 in
set_option maxHeartbeats 4000000 in
theorem ct_least {g : Gl} {l : Launch} (hfl : l.stackTraces = false) {E : Nat} (h : Hp) (a ka ma pl : Nat) (xs ms : List Nat) (hP : isPup E h a ka ma pl xs ms) : CT g l iX2_leastLength 6 [.ref a] h 0 0 (pRel (fun r h' => r = some (.int (leastS (xF h 200 a) (ksOf h xs))) ∧ ∃ v : Int32 × Int32, h' = pXY h pl v)) := by
  obtain ⟨hs, hka, hma, hpl, hsp, hLk, hLm, hxk, hxm⟩ := hP
  have hl1 := hLk.2.2.1
  have hl2 := hLm.2.2.1
  refine ct_mk hfl (by decide) (Nat.le_of_ble_eq_true rfl) (by intro v hv; simp only [List.mem_cons, List.not_mem_nil, or_false] at hv; rcases hv with rfl <;> rfl) (fun V X M => ?_)
  have Mm := M.m
  show V 0 [some (.ref a), none, none] [] _ 0 0
  refine r_iconst (v := nI 0) Mm dX2_leastLength_0 (by decide) ?_
  refine r_istore_n Mm dX2_leastLength_1 (by decide) ?_
  show V 2 [some (.ref a), some (.int (nI 0)), none] _ _ _ _
  refine r_iconst (v := nI 0) Mm dX2_leastLength_2 (by decide) ?_
  refine r_istore_n Mm dX2_leastLength_3 (by decide) ?_
  show V 4 [some (.ref a), some (.int (nI 0)), some (.int (nI 0))] _ _ _ _
  have loop : ∀ (n : Nat) (j : Nat) (v : Int32 × Int32), 1000 - j < n → (j ≤ 1000) → V 4 [some (.ref a), some (.int (farF (xF h 200 a) (ksOf h xs) j)), some (.int (nI j))] [] (pXY h pl v) 0 0 := by
    intro n
    induction n with
    | zero => intro j v hm; exact absurd hm (Nat.not_lt_zero _)
    | succ n ih =>
      intro j v hm hj
      refine r_iload_n Mm dX2_leastLength_4 rfl ?_
      refine r_sipush (v := nI 999) Mm dX2_leastLength_5 (by decide) ?_
      refine r_icmp_gtN (tgt := 31) Mm dX2_leastLength_8 (by decide) (by omega) (by omega) (fun c1 => ?_) (fun c1 => ?_)
      · refine r_iload_n Mm dX2_leastLength_31 rfl ?_
        refine r_callSN (As := [(.int (farF (xF h 200 a) (ksOf h xs) j))]) Mm dX2_leastLength_32 rfl (ct_root hfl ((pXY h pl v)) (farF (xF h 200 a) (ksOf h xs) j)) cw_X2_103 ⟨Nat.le_of_ble_eq_true rfl, Nat.le_of_ble_eq_true rfl, Nat.le_of_ble_eq_true rfl⟩ (Nat.le_of_ble_eq_true rfl) ⟨Nat.le_of_ble_eq_true rfl, Nat.le_of_ble_eq_true rfl⟩ (fun r2 h3 p4 => ?_) (fun _ _ z => z)
        obtain ⟨rfl, rfl⟩ := p4
        show V 35 _ [(.int (rootB (farF (xF h 200 a) (ksOf h xs) j)))] _ _ _
        refine r_istore_n Mm dX2_leastLength_35 (by decide) ?_
        show V 36 [some (.ref a), some (.int (farF (xF h 200 a) (ksOf h xs) j)), some (.int (rootB (farF (xF h 200 a) (ksOf h xs) j)))] _ _ _ _
        refine r_iload_n Mm dX2_leastLength_36 rfl ?_
        refine r_iload_n Mm dX2_leastLength_37 rfl ?_
        refine r_imul Mm dX2_leastLength_38 ?_
        refine r_iload_n Mm dX2_leastLength_39 rfl ?_
        refine r_icmp_ge (tgt := 49) Mm dX2_leastLength_40 (by decide) (fun c5 => ?_) (fun c5 => ?_)
        · refine r_iload_n Mm dX2_leastLength_49 rfl ?_
          refine r_iret M dX2_leastLength_50 ?_
          obtain rfl : j = 1000 := by omega
          exact ⟨by rw [show leastS (xF h 200 a) (ksOf h xs) = _ from if_neg (Int32.not_lt.mpr c5)], v, rfl⟩
        · refine r_iload_n Mm dX2_leastLength_43 rfl ?_
          refine r_iconst (v := nI 1) Mm dX2_leastLength_44 (by decide) ?_
          refine r_iadd Mm dX2_leastLength_45 ?_
          refine r_goto (tgt := 50) Mm dX2_leastLength_46 (by decide) ?_
          refine r_iret M dX2_leastLength_50 ?_
          obtain rfl : j = 1000 := by omega
          exact ⟨by rw [show leastS (xF h 200 a) (ksOf h xs) = _ from if_pos (Int32.not_le.mp c5)], v, rfl⟩
      · refine r_aload_n Mm dX2_leastLength_11 rfl ?_
        refine r_iload_n Mm dX2_leastLength_12 rfl ?_
        refine r_callV (As := [(.int (nI j))]) Mm dX2_leastLength_13 rfl (ct_standAt hfl (pXY h pl v) a ka ma pl xs ms (isPup.xy ⟨hs, hka, hma, hpl, hsp, hLk, hLm, hxk, hxm⟩ pl v) (nI j)) (hs) rfl cw_X2_109 ⟨Nat.le_of_ble_eq_true rfl, Nat.le_of_ble_eq_true rfl, Nat.le_of_ble_eq_true rfl⟩ (Nat.le_of_ble_eq_true rfl) ⟨Nat.le_of_ble_eq_true rfl, Nat.le_of_ble_eq_true rfl⟩ (fun r6 h7 p8 => ?_) (fun Er6 h7 p8 => False.elim p8)
        obtain ⟨rfl, rfl⟩ := p8
        rw [pXY_pXY]
        show V 16 _ [] _ _ _
        refine r_iload_n Mm dX2_leastLength_16 rfl ?_
        refine r_aload_n Mm dX2_leastLength_17 rfl ?_
        refine r_callV (As := []) Mm dX2_leastLength_18 rfl (ct_sqBar hfl (pXY h pl (trk (xF h 200 a) (ksOf h xs) (nI j))) a ka ma pl xs ms (isPup.xy ⟨hs, hka, hma, hpl, hsp, hLk, hLm, hxk, hxm⟩ pl _)) (hs) rfl cw_X2_91 ⟨Nat.le_of_ble_eq_true rfl, Nat.le_of_ble_eq_true rfl, Nat.le_of_ble_eq_true rfl⟩ (Nat.le_of_ble_eq_true rfl) ⟨Nat.le_of_ble_eq_true rfl, Nat.le_of_ble_eq_true rfl⟩ (fun r9 h10 p11 => ?_) (fun Er9 h10 p11 => False.elim p11)
        obtain ⟨rfl, rfl⟩ := p11
        refine r_top _ (sq2 ((trk (xF h 200 a) (ksOf h xs) (nI j)).1 - xF h 200 a) (trk (xF h 200 a) (ksOf h xs) (nI j)).2) (by congr 1 <;> first | exact congrArg (fun z => z - xF h 200 a) (u2_s _ _ _ _) | exact u2_s _ _ _ _) ?_
        show V 21 _ [(.int (sq2 ((trk (xF h 200 a) (ksOf h xs) (nI j)).1 - xF h 200 a) (trk (xF h 200 a) (ksOf h xs) (nI j)).2)), (.int (farF (xF h 200 a) (ksOf h xs) j))] _ _ _
        refine r_max Mm dX2_leastLength_21 cm_X2_100 cms_max cmi cmc_max (Nat.le_of_ble_eq_true rfl) (Nat.le_of_ble_eq_true rfl) ?_
        refine r_istore_n Mm dX2_leastLength_24 (by decide) ?_
        show V 25 [some (.ref a), some (.int (if (farF (xF h 200 a) (ksOf h xs) j) < (sq2 ((trk (xF h 200 a) (ksOf h xs) (nI j)).1 - xF h 200 a) (trk (xF h 200 a) (ksOf h xs) (nI j)).2) then (sq2 ((trk (xF h 200 a) (ksOf h xs) (nI j)).1 - xF h 200 a) (trk (xF h 200 a) (ksOf h xs) (nI j)).2) else (farF (xF h 200 a) (ksOf h xs) j))), some (.int (nI j))] _ _ _ _
        refine r_iincN (k := 1) Mm dX2_leastLength_25 rfl (by decide) (by decide) ?_
        show V 28 [some (.ref a), some (.int (if (farF (xF h 200 a) (ksOf h xs) j) < (sq2 ((trk (xF h 200 a) (ksOf h xs) (nI j)).1 - xF h 200 a) (trk (xF h 200 a) (ksOf h xs) (nI j)).2) then (sq2 ((trk (xF h 200 a) (ksOf h xs) (nI j)).1 - xF h 200 a) (trk (xF h 200 a) (ksOf h xs) (nI j)).2) else (farF (xF h 200 a) (ksOf h xs) j))), some (.int (nI (j + 1)))] _ _ _ _
        refine r_goto (tgt := 4) Mm dX2_leastLength_28 (by decide) ?_
        exact ih (j + 1) _ (by omega) (by omega)
  have l0 := loop 1001 0 (xF h 100 pl, xF h 101 pl) (by omega) (Nat.zero_le _)
  rw [pXY_self] at l0
  exact l0
theorem idP {p : Prop} (q : p) : p := q
theorem zxS_yF (h : Hp) (i a : Nat) (v : Int32) (b : Nat) : xS (yF h i a v) b = xS h b := idP (by rfl)
theorem zxF_yF (h : Hp) (i a : Nat) (v : Int32) (b j : Nat) : xF (yF h i a v) j b = if j = i ∧ b = a then v else xF h j b := idP (by rfl)
theorem zxP_yF (h : Hp) (i a : Nat) (v : Int32) (j b : Nat) : xP (yF h i a v) j b = xP h j b := idP (by rfl)
theorem zxA_yF (h : Hp) (i a : Nat) (v : Int32) (j b : Nat) : xA (yF h i a v) j b = xA h j b := idP (by rfl)
theorem zxB_yF (h : Hp) (i a : Nat) (v : Int32) (j b : Nat) : xB (yF h i a v) j b = xB h j b := idP (by rfl)
theorem zxL_yF (h : Hp) (i a : Nat) (v : Int32) (j b : Nat) : xL (yF h i a v) j b = xL h j b := idP (by rfl)
theorem zxS_yP (h : Hp) (i a : Nat) (v : Option Nat) (b : Nat) : xS (yP h i a v) b = xS h b := idP (by rfl)
theorem zxF_yP (h : Hp) (i a : Nat) (v : Option Nat) (j b : Nat) : xF (yP h i a v) j b = xF h j b := idP (by rfl)
theorem zxP_yP (h : Hp) (i a : Nat) (v : Option Nat) (b j : Nat) : xP (yP h i a v) j b = if j = i ∧ b = a then v else xP h j b := idP (by rfl)
theorem zxA_yP (h : Hp) (i a : Nat) (v : Option Nat) (j b : Nat) : xA (yP h i a v) j b = xA h j b := idP (by rfl)
theorem zxB_yP (h : Hp) (i a : Nat) (v : Option Nat) (j b : Nat) : xB (yP h i a v) j b = xB h j b := idP (by rfl)
theorem zxL_yP (h : Hp) (i a : Nat) (v : Option Nat) (j b : Nat) : xL (yP h i a v) j b = xL h j b := idP (by rfl)
theorem zxS_yA (h : Hp) (a i : Nat) (v : Int32) (b : Nat) : xS (yA h a i v) b = xS h b := idP (by rfl)
theorem zxF_yA (h : Hp) (a i : Nat) (v : Int32) (j b : Nat) : xF (yA h a i v) j b = xF h j b := idP (by rfl)
theorem zxP_yA (h : Hp) (a i : Nat) (v : Int32) (j b : Nat) : xP (yA h a i v) j b = xP h j b := idP (by rfl)
theorem zxA_yA (h : Hp) (a i : Nat) (v : Int32) (b j : Nat) : xA (yA h a i v) b j = if b = a ∧ j = i then v else xA h b j := idP (by rfl)
theorem zxB_yA (h : Hp) (a i : Nat) (v : Int32) (j b : Nat) : xB (yA h a i v) j b = xB h j b := idP (by rfl)
theorem zxL_yA (h : Hp) (a i : Nat) (v : Int32) (j b : Nat) : xL (yA h a i v) j b = xL h j b := idP (by rfl)
theorem zxS_yB (h : Hp) (a i : Nat) (v : Option Nat) (b : Nat) : xS (yB h a i v) b = xS h b := idP (by rfl)
theorem zxF_yB (h : Hp) (a i : Nat) (v : Option Nat) (j b : Nat) : xF (yB h a i v) j b = xF h j b := idP (by rfl)
theorem zxP_yB (h : Hp) (a i : Nat) (v : Option Nat) (j b : Nat) : xP (yB h a i v) j b = xP h j b := idP (by rfl)
theorem zxA_yB (h : Hp) (a i : Nat) (v : Option Nat) (j b : Nat) : xA (yB h a i v) j b = xA h j b := idP (by rfl)
theorem zxB_yB (h : Hp) (a i : Nat) (v : Option Nat) (b j : Nat) : xB (yB h a i v) b j = if b = a ∧ j = i then v else xB h b j := idP (by rfl)
theorem zxL_yB (h : Hp) (a i : Nat) (v : Option Nat) (j b : Nat) : xL (yB h a i v) j b = xL h j b := idP (by rfl)
theorem zxS_yL (h : Hp) (a i : Nat) (v : Int64) (b : Nat) : xS (yL h a i v) b = xS h b := idP (by rfl)
theorem zxF_yL (h : Hp) (a i : Nat) (v : Int64) (j b : Nat) : xF (yL h a i v) j b = xF h j b := idP (by rfl)
theorem zxP_yL (h : Hp) (a i : Nat) (v : Int64) (j b : Nat) : xP (yL h a i v) j b = xP h j b := idP (by rfl)
theorem zxA_yL (h : Hp) (a i : Nat) (v : Int64) (j b : Nat) : xA (yL h a i v) j b = xA h j b := idP (by rfl)
theorem zxB_yL (h : Hp) (a i : Nat) (v : Int64) (j b : Nat) : xB (yL h a i v) j b = xB h j b := idP (by rfl)
theorem zxL_yL (h : Hp) (a i : Nat) (v : Int64) (b j : Nat) : xL (yL h a i v) b j = if b = a ∧ j = i then v else xL h b j := idP (by rfl)
theorem zxS_yN (h : Hp) (q kd n b : Nat) : xS (yN h q kd n) b = if b = q then some (kd, n) else xS h b := by
  by_cases e : b = q
  · rw [if_pos e, e]; exact yN_q
  · rw [if_neg e]; exact va_up_ne _ _ e
theorem zxF_yN (h : Hp) (q kd n i b : Nat) : xF (yN h q kd n) i b = if b = q then 0 else xF h i b := idP (by rfl)
theorem zxP_yN (h : Hp) (q kd n i b : Nat) : xP (yN h q kd n) i b = if b = q then none else xP h i b := idP (by rfl)
theorem zxA_yN (h : Hp) (q kd n b i : Nat) : xA (yN h q kd n) b i = if b = q then 0 else xA h b i := idP (by rfl)
theorem zxB_yN (h : Hp) (q kd n b i : Nat) : xB (yN h q kd n) b i = if b = q then none else xB h b i := idP (by rfl)
theorem zxL_yN (h : Hp) (q kd n b i : Nat) : xL (yN h q kd n) b i = if b = q then 0 else xL h b i := idP (by rfl)
theorem sF {h : Hp} {i a b : Nat} {v : Int32} {z : Option (Nat × Nat)} (p : xS h b = z) : xS (yF h i a v) b = z := p
theorem sP {h : Hp} {i a b : Nat} {v : Option Nat} {z : Option (Nat × Nat)} (p : xS h b = z) : xS (yP h i a v) b = z := p
theorem sA {h : Hp} {i a b : Nat} {v : Int32} {z : Option (Nat × Nat)} (p : xS h b = z) : xS (yA h a i v) b = z := p
theorem sB {h : Hp} {i a b : Nat} {v : Option Nat} {z : Option (Nat × Nat)} (p : xS h b = z) : xS (yB h a i v) b = z := p
theorem sL {h : Hp} {i a b : Nat} {v : Int64} {z : Option (Nat × Nat)} (p : xS h b = z) : xS (yL h a i v) b = z := p
theorem pF {h : Hp} {i a j b : Nat} {v : Int32} {z : Option Nat} (p : xP h j b = z) : xP (yF h i a v) j b = z := p
theorem pA {h : Hp} {i a j b : Nat} {v : Int32} {z : Option Nat} (p : xP h j b = z) : xP (yA h a i v) j b = z := p
theorem pB {h : Hp} {i a j b : Nat} {v : Option Nat} {z : Option Nat} (p : xP h j b = z) : xP (yB h a i v) j b = z := p
theorem pL {h : Hp} {i a j b : Nat} {v : Int64} {z : Option Nat} (p : xP h j b = z) : xP (yL h a i v) j b = z := p
theorem pP {h : Hp} {i a j b : Nat} {v z : Option Nat} (hn : j ≠ i) (p : xP h j b = z) : xP (yP h i a v) j b = z := (u2_n _ _ (fun q => hn q.1)).trans p
theorem pP_s {h : Hp} {i a : Nat} {v : Option Nat} : xP (yP h i a v) i a = v := u2_s _ _ _ _
theorem ite_none {α : Type} {c : Prop} [Decidable c] {z : α} {y : Option α} (e : (if c then some z else y) = none) : ¬ c ∧ y = none := by
  by_cases q : c
  · rw [if_pos q] at e; cases e
  · rw [if_neg q] at e; exact ⟨q, e⟩
theorem ne_of_S {h : Hp} {a q : Nat} {z : Nat × Nat} (ha : xS h a = some z) (hq : xS h q = none) : a ≠ q := fun e => by rw [e, hq] at ha; cases ha
theorem isL_new {h : Hp} {L : Nat} {E : Nat} (hs : xS h L = some (7, 0)) (h1 : xF h 702 L = 0) (h2 : xP h 701 L = some E) : IsL E h L [] := ⟨hs, h1, by decide, fun v hv => absurd hv List.not_mem_nil, Or.inl ⟨rfl, h2⟩⟩
/-- a puppet just made -/
def newPup (E : Nat) (h h' : Hp) (a ka ma pl : Nat) (b n : Int32) : Prop := isPup E h' a ka ma pl [] [] ∧ xF h' 200 a = b ∧ xF h' 201 a = n ∧ xF h' 203 a = -1 ∧ xF h' 204 a = nI 0 ∧ Fr (fun b => b = a) h h' ∧ xS h ka = none ∧ xS h ma = none ∧ xS h pl = none ∧ ka ≠ ma ∧ ka ≠ pl ∧ ma ≠ pl ∧ xP h' 701 ka = some E ∧ xP h' 701 ma = some E
set_option maxRecDepth 100000 in
set_option maxHeartbeats 4000000 in
theorem ct_pupInit {g : Gl} {l : Launch} (hfl : l.stackTraces = false) (h : Hp) (a : Nat) (b n : Int32) (hs : xS h a = some (2, 0)) : CT g l iX2_init 5 [.ref a, .int b, .int n] h 3 20 (pRel (fun r h' => r = none ∧ ∃ ka ma pl : Nat, newPup (gN g 2) h h' a ka ma pl b n)) := by
  refine ct_mk hfl (by decide) (Nat.le_of_ble_eq_true rfl) (by intro v hv; simp only [List.mem_cons, List.not_mem_nil, or_false] at hv; rcases hv with rfl | rfl | rfl <;> rfl) (fun V X M => ?_)
  have Mm := M.m
  show V 0 [some (.ref a), some (.int b), some (.int n)] [] _ 0 0
  refine r_aload_n Mm dX2_init_0 rfl ?_
  refine r_objInit Mm dX2_init_1 co_X2_3 coi coc (Nat.le_of_ble_eq_true rfl) (Nat.le_of_ble_eq_true rfl) ?_
  refine r_aload_n Mm dX2_init_4 rfl ?_
  refine r_iload_n Mm dX2_init_5 rfl ?_
  refine r_putIF (ty := .int) Mm dX2_init_6 fi_X2_9 ki_2 rfl (hs) rfl (i := 200) rfl rfl (by decide +kernel) rfl rfl rfl rfl ?_
  refine r_aload_n Mm dX2_init_9 rfl ?_
  refine r_iload_n Mm dX2_init_10 rfl ?_
  refine r_putI (ty := .int) Mm dX2_init_11 fi_X2_15 ki_2 rfl (sF (hs)) rfl (i := 201) rfl rfl (by decide +kernel) rfl rfl ?_
  refine r_aload_n Mm dX2_init_14 rfl ?_
  refine r_new Mm dX2_init_15 ki_7 rfl cl_X2_18 nw_7 ni_7 ⟨Nat.le_of_ble_eq_true rfl, Nat.le_of_ble_eq_true rfl⟩ (fun q1 hq1 => ?_)
  have s2 : xS (yN (yF (yF h 200 a b) 201 a n) q1 7 0) a = some (2, 0) := yN_S hq1 (sF (sF (hs)))
  refine r_dup Mm dX2_init_18 rfl ?_
  refine r_callI (As := []) Mm dX2_init_19 rfl (ct_listInit hfl ((yN (yF (yF h 200 a b) 201 a n) q1 7 0)) q1 (yN_q)) cw_X2_20 ⟨Nat.le_of_ble_eq_true rfl, Nat.le_of_ble_eq_true rfl, Nat.le_of_ble_eq_true rfl⟩ (Nat.le_of_ble_eq_true rfl) ⟨Nat.le_of_ble_eq_true rfl, Nat.le_of_ble_eq_true rfl⟩ (fun r3 h4 p5 => ?_) (fun _ _ z => z)
  obtain ⟨rfl, rfl⟩ := p5
  have s6 : xS (yP (yF (yN (yF (yF h 200 a b) 201 a n) q1 7 0) 700 q1 (nI 0)) 701 q1 (some (gN g 2))) a = some (2, 0) := sP (sF (s2))
  have s7 : xS (yP (yF (yN (yF (yF h 200 a b) 201 a n) q1 7 0) 700 q1 (nI 0)) 701 q1 (some (gN g 2))) q1 = some (7, 0) := sP (sF (yN_q))
  show V 22 _ [(.ref q1), (.ref a)] _ _ _
  refine r_putRF (v := some q1) (ty := .object "java/util/ArrayList") Mm dX2_init_22 fi_X2_21 ki_2 rfl (s6) rfl (i := 202) rfl rfl (by decide +kernel) rfl rfl rfl rfl ?_
  refine r_aload_n Mm dX2_init_25 rfl ?_
  refine r_iconst (v := -1) Mm dX2_init_26 (by decide) ?_
  refine r_putI (ty := .int) Mm dX2_init_27 fi_X2_25 ki_2 rfl (sP (s6)) rfl (i := 203) rfl rfl (by decide +kernel) rfl rfl ?_
  refine r_aload_n Mm dX2_init_30 rfl ?_
  refine r_iconst (v := nI 0) Mm dX2_init_31 (by decide) ?_
  refine r_putI (ty := .int) Mm dX2_init_32 fi_X2_28 ki_2 rfl (sF (sP (s6))) rfl (i := 204) rfl rfl (by decide +kernel) rfl rfl ?_
  refine r_aload_n Mm dX2_init_35 rfl ?_
  refine r_new Mm dX2_init_36 ki_7 rfl cl_X2_18 nw_7 ni_7 ⟨Nat.le_of_ble_eq_true rfl, Nat.le_of_ble_eq_true rfl⟩ (fun q8 hq8 => ?_)
  have s9 : xS (yN (yF (yF (yP (yP (yF (yN (yF (yF h 200 a b) 201 a n) q1 7 0) 700 q1 (nI 0)) 701 q1 (some (gN g 2))) 202 a (some q1)) 203 a (-1)) 204 a (nI 0)) q8 7 0) a = some (2, 0) := yN_S hq8 (sF (sF (sP (s6))))
  have s10 : xS (yN (yF (yF (yP (yP (yF (yN (yF (yF h 200 a b) 201 a n) q1 7 0) 700 q1 (nI 0)) 701 q1 (some (gN g 2))) 202 a (some q1)) 203 a (-1)) 204 a (nI 0)) q8 7 0) q1 = some (7, 0) := yN_S hq8 (sF (sF (sP (s7))))
  have p11 : xP (yN (yF (yF (yP (yP (yF (yN (yF (yF h 200 a b) 201 a n) q1 7 0) 700 q1 (nI 0)) 701 q1 (some (gN g 2))) 202 a (some q1)) 203 a (-1)) 204 a (nI 0)) q8 7 0) 202 a = some q1 := yN_P hq8 (sF (sF (sP (s6)))) (pF (pF (pP_s)))
  refine r_dup Mm dX2_init_39 rfl ?_
  refine r_callI (As := []) Mm dX2_init_40 rfl (ct_listInit hfl ((yN (yF (yF (yP (yP (yF (yN (yF (yF h 200 a b) 201 a n) q1 7 0) 700 q1 (nI 0)) 701 q1 (some (gN g 2))) 202 a (some q1)) 203 a (-1)) 204 a (nI 0)) q8 7 0)) q8 (yN_q)) cw_X2_20 ⟨Nat.le_of_ble_eq_true rfl, Nat.le_of_ble_eq_true rfl, Nat.le_of_ble_eq_true rfl⟩ (Nat.le_of_ble_eq_true rfl) ⟨Nat.le_of_ble_eq_true rfl, Nat.le_of_ble_eq_true rfl⟩ (fun r12 h13 p14 => ?_) (fun _ _ z => z)
  obtain ⟨rfl, rfl⟩ := p14
  have s15 : xS (yP (yF (yN (yF (yF (yP (yP (yF (yN (yF (yF h 200 a b) 201 a n) q1 7 0) 700 q1 (nI 0)) 701 q1 (some (gN g 2))) 202 a (some q1)) 203 a (-1)) 204 a (nI 0)) q8 7 0) 700 q8 (nI 0)) 701 q8 (some (gN g 2))) a = some (2, 0) := sP (sF (s9))
  have s16 : xS (yP (yF (yN (yF (yF (yP (yP (yF (yN (yF (yF h 200 a b) 201 a n) q1 7 0) 700 q1 (nI 0)) 701 q1 (some (gN g 2))) 202 a (some q1)) 203 a (-1)) 204 a (nI 0)) q8 7 0) 700 q8 (nI 0)) 701 q8 (some (gN g 2))) q1 = some (7, 0) := sP (sF (s10))
  have s17 : xS (yP (yF (yN (yF (yF (yP (yP (yF (yN (yF (yF h 200 a b) 201 a n) q1 7 0) 700 q1 (nI 0)) 701 q1 (some (gN g 2))) 202 a (some q1)) 203 a (-1)) 204 a (nI 0)) q8 7 0) 700 q8 (nI 0)) 701 q8 (some (gN g 2))) q8 = some (7, 0) := sP (sF (yN_q))
  have p18 : xP (yP (yF (yN (yF (yF (yP (yP (yF (yN (yF (yF h 200 a b) 201 a n) q1 7 0) 700 q1 (nI 0)) 701 q1 (some (gN g 2))) 202 a (some q1)) 203 a (-1)) 204 a (nI 0)) q8 7 0) 700 q8 (nI 0)) 701 q8 (some (gN g 2))) 202 a = some q1 := pP (by decide) (pF (p11))
  show V 43 _ [(.ref q8), (.ref a)] _ _ _
  refine r_putRF (v := some q8) (ty := .object "java/util/ArrayList") Mm dX2_init_43 fi_X2_31 ki_2 rfl (s15) rfl (i := 205) rfl rfl (by decide +kernel) rfl rfl rfl rfl ?_
  refine r_aload_n Mm dX2_init_46 rfl ?_
  refine r_new Mm dX2_init_47 ki_1 rfl cl_X2_34 nw_1 ni_1 ⟨Nat.le_of_ble_eq_true rfl, Nat.le_of_ble_eq_true rfl⟩ (fun q19 hq19 => ?_)
  have s20 : xS (yN (yP (yP (yF (yN (yF (yF (yP (yP (yF (yN (yF (yF h 200 a b) 201 a n) q1 7 0) 700 q1 (nI 0)) 701 q1 (some (gN g 2))) 202 a (some q1)) 203 a (-1)) 204 a (nI 0)) q8 7 0) 700 q8 (nI 0)) 701 q8 (some (gN g 2))) 205 a (some q8)) q19 1 0) a = some (2, 0) := yN_S hq19 (sP (s15))
  have s21 : xS (yN (yP (yP (yF (yN (yF (yF (yP (yP (yF (yN (yF (yF h 200 a b) 201 a n) q1 7 0) 700 q1 (nI 0)) 701 q1 (some (gN g 2))) 202 a (some q1)) 203 a (-1)) 204 a (nI 0)) q8 7 0) 700 q8 (nI 0)) 701 q8 (some (gN g 2))) 205 a (some q8)) q19 1 0) q1 = some (7, 0) := yN_S hq19 (sP (s16))
  have s22 : xS (yN (yP (yP (yF (yN (yF (yF (yP (yP (yF (yN (yF (yF h 200 a b) 201 a n) q1 7 0) 700 q1 (nI 0)) 701 q1 (some (gN g 2))) 202 a (some q1)) 203 a (-1)) 204 a (nI 0)) q8 7 0) 700 q8 (nI 0)) 701 q8 (some (gN g 2))) 205 a (some q8)) q19 1 0) q8 = some (7, 0) := yN_S hq19 (sP (s17))
  have p23 : xP (yN (yP (yP (yF (yN (yF (yF (yP (yP (yF (yN (yF (yF h 200 a b) 201 a n) q1 7 0) 700 q1 (nI 0)) 701 q1 (some (gN g 2))) 202 a (some q1)) 203 a (-1)) 204 a (nI 0)) q8 7 0) 700 q8 (nI 0)) 701 q8 (some (gN g 2))) 205 a (some q8)) q19 1 0) 202 a = some q1 := yN_P hq19 (sP (s15)) (pP (by decide) (p18))
  have p24 : xP (yN (yP (yP (yF (yN (yF (yF (yP (yP (yF (yN (yF (yF h 200 a b) 201 a n) q1 7 0) 700 q1 (nI 0)) 701 q1 (some (gN g 2))) 202 a (some q1)) 203 a (-1)) 204 a (nI 0)) q8 7 0) 700 q8 (nI 0)) 701 q8 (some (gN g 2))) 205 a (some q8)) q19 1 0) 205 a = some q8 := yN_P hq19 (sP (s15)) (pP_s)
  refine r_dup Mm dX2_init_50 rfl ?_
  refine r_callIN (As := []) Mm dX2_init_51 rfl (ct_placeInit hfl ((yN (yP (yP (yF (yN (yF (yF (yP (yP (yF (yN (yF (yF h 200 a b) 201 a n) q1 7 0) 700 q1 (nI 0)) 701 q1 (some (gN g 2))) 202 a (some q1)) 203 a (-1)) 204 a (nI 0)) q8 7 0) 700 q8 (nI 0)) 701 q8 (some (gN g 2))) 205 a (some q8)) q19 1 0)) q19) cw_X2_36 ⟨Nat.le_of_ble_eq_true rfl, Nat.le_of_ble_eq_true rfl, Nat.le_of_ble_eq_true rfl⟩ (Nat.le_of_ble_eq_true rfl) ⟨Nat.le_of_ble_eq_true rfl, Nat.le_of_ble_eq_true rfl⟩ (fun r25 h26 p27 => ?_) (fun _ _ z => z)
  obtain ⟨rfl, rfl⟩ := p27
  show V 54 _ [(.ref q19), (.ref a)] _ _ _
  refine r_putRF (v := some q19) (ty := .object "Puppetloom$Place") Mm dX2_init_54 fi_X2_37 ki_2 rfl (s20) rfl (i := 206) rfl rfl (by decide +kernel) rfl rfl rfl rfl ?_
  refine r_aload_n Mm dX2_init_57 rfl ?_
  refine r_iconst (v := nI 0) Mm dX2_init_58 (by decide) ?_
  refine r_putI (ty := .boolean) Mm dX2_init_59 fi_X2_41 ki_2 rfl (sP (s20)) rfl (i := 207) rfl rfl (by decide +kernel) rfl rfl ?_
  refine r_vret M dX2_init_62 ?_
  have gq1 := hq1
  simp only [zxS_yF, zxF_yF, zxP_yF, zxA_yF, zxB_yF, zxL_yF, zxS_yP, zxF_yP, zxP_yP, zxA_yP, zxB_yP, zxL_yP, zxS_yA, zxF_yA, zxP_yA, zxA_yA, zxB_yA, zxL_yA, zxS_yB, zxF_yB, zxP_yB, zxA_yB, zxB_yB, zxL_yB, zxS_yL, zxF_yL, zxP_yL, zxA_yL, zxB_yL, zxL_yL, zxS_yN, zxF_yN, zxP_yN, zxA_yN, zxB_yN, zxL_yN, Nat.reduceEqDiff, false_and, and_false, true_and, and_true, and_self, ite_false, ite_true, ite_self] at gq1
  have f_q1 : xS h q1 = none := gq1
  have gq8 := hq8
  simp only [zxS_yF, zxF_yF, zxP_yF, zxA_yF, zxB_yF, zxL_yF, zxS_yP, zxF_yP, zxP_yP, zxA_yP, zxB_yP, zxL_yP, zxS_yA, zxF_yA, zxP_yA, zxA_yA, zxB_yA, zxL_yA, zxS_yB, zxF_yB, zxP_yB, zxA_yB, zxB_yB, zxL_yB, zxS_yL, zxF_yL, zxP_yL, zxA_yL, zxB_yL, zxL_yL, zxS_yN, zxF_yN, zxP_yN, zxA_yN, zxB_yN, zxL_yN, Nat.reduceEqDiff, false_and, and_false, true_and, and_true, and_self, ite_false, ite_true, ite_self] at gq8
  obtain ⟨n_q8_q1, gq8b⟩ := ite_none gq8
  have f_q8 : xS h q8 = none := gq8b
  have gq19 := hq19
  simp only [zxS_yF, zxF_yF, zxP_yF, zxA_yF, zxB_yF, zxL_yF, zxS_yP, zxF_yP, zxP_yP, zxA_yP, zxB_yP, zxL_yP, zxS_yA, zxF_yA, zxP_yA, zxA_yA, zxB_yA, zxL_yA, zxS_yB, zxF_yB, zxP_yB, zxA_yB, zxB_yB, zxL_yB, zxS_yL, zxF_yL, zxP_yL, zxA_yL, zxB_yL, zxL_yL, zxS_yN, zxF_yN, zxP_yN, zxA_yN, zxB_yN, zxL_yN, Nat.reduceEqDiff, false_and, and_false, true_and, and_true, and_self, ite_false, ite_true, ite_self] at gq19
  obtain ⟨n_q19_q8, gq19b⟩ := ite_none gq19
  obtain ⟨n_q19_q1, gq19bb⟩ := ite_none gq19b
  have f_q19 : xS h q19 = none := gq19bb
  have n_a_q1 := ne_of_S hs f_q1
  have n_a_q8 := ne_of_S hs f_q8
  have n_a_q19 := ne_of_S hs f_q19
  refine ⟨rfl, q1, q8, q19, ⟨by simp only [zxS_yF, zxF_yF, zxP_yF, zxA_yF, zxB_yF, zxL_yF, zxS_yP, zxF_yP, zxP_yP, zxA_yP, zxB_yP, zxL_yP, zxS_yA, zxF_yA, zxP_yA, zxA_yA, zxB_yA, zxL_yA, zxS_yB, zxF_yB, zxP_yB, zxA_yB, zxB_yB, zxL_yB, zxS_yL, zxF_yL, zxP_yL, zxA_yL, zxB_yL, zxL_yL, zxS_yN, zxF_yN, zxP_yN, zxA_yN, zxB_yN, zxL_yN, Nat.reduceEqDiff, false_and, and_false, true_and, and_true, and_self, ite_false, ite_true, ite_self, n_a_q1, n_a_q1.symm, n_a_q8, n_a_q8.symm, n_a_q19, n_a_q19.symm, n_q8_q1, n_q19_q1, n_q19_q8, Ne.symm n_q8_q1, Ne.symm n_q19_q1, Ne.symm n_q19_q8, hs], by simp only [zxS_yF, zxF_yF, zxP_yF, zxA_yF, zxB_yF, zxL_yF, zxS_yP, zxF_yP, zxP_yP, zxA_yP, zxB_yP, zxL_yP, zxS_yA, zxF_yA, zxP_yA, zxA_yA, zxB_yA, zxL_yA, zxS_yB, zxF_yB, zxP_yB, zxA_yB, zxB_yB, zxL_yB, zxS_yL, zxF_yL, zxP_yL, zxA_yL, zxB_yL, zxL_yL, zxS_yN, zxF_yN, zxP_yN, zxA_yN, zxB_yN, zxL_yN, Nat.reduceEqDiff, false_and, and_false, true_and, and_true, and_self, ite_false, ite_true, ite_self, n_a_q1, n_a_q1.symm, n_a_q8, n_a_q8.symm, n_a_q19, n_a_q19.symm, n_q8_q1, n_q19_q1, n_q19_q8, Ne.symm n_q8_q1, Ne.symm n_q19_q1, Ne.symm n_q19_q8, hs], by simp only [zxS_yF, zxF_yF, zxP_yF, zxA_yF, zxB_yF, zxL_yF, zxS_yP, zxF_yP, zxP_yP, zxA_yP, zxB_yP, zxL_yP, zxS_yA, zxF_yA, zxP_yA, zxA_yA, zxB_yA, zxL_yA, zxS_yB, zxF_yB, zxP_yB, zxA_yB, zxB_yB, zxL_yB, zxS_yL, zxF_yL, zxP_yL, zxA_yL, zxB_yL, zxL_yL, zxS_yN, zxF_yN, zxP_yN, zxA_yN, zxB_yN, zxL_yN, Nat.reduceEqDiff, false_and, and_false, true_and, and_true, and_self, ite_false, ite_true, ite_self, n_a_q1, n_a_q1.symm, n_a_q8, n_a_q8.symm, n_a_q19, n_a_q19.symm, n_q8_q1, n_q19_q1, n_q19_q8, Ne.symm n_q8_q1, Ne.symm n_q19_q1, Ne.symm n_q19_q8, hs], by simp only [zxS_yF, zxF_yF, zxP_yF, zxA_yF, zxB_yF, zxL_yF, zxS_yP, zxF_yP, zxP_yP, zxA_yP, zxB_yP, zxL_yP, zxS_yA, zxF_yA, zxP_yA, zxA_yA, zxB_yA, zxL_yA, zxS_yB, zxF_yB, zxP_yB, zxA_yB, zxB_yB, zxL_yB, zxS_yL, zxF_yL, zxP_yL, zxA_yL, zxB_yL, zxL_yL, zxS_yN, zxF_yN, zxP_yN, zxA_yN, zxB_yN, zxL_yN, Nat.reduceEqDiff, false_and, and_false, true_and, and_true, and_self, ite_false, ite_true, ite_self, n_a_q1, n_a_q1.symm, n_a_q8, n_a_q8.symm, n_a_q19, n_a_q19.symm, n_q8_q1, n_q19_q1, n_q19_q8, Ne.symm n_q8_q1, Ne.symm n_q19_q1, Ne.symm n_q19_q8, hs], by simp only [zxS_yF, zxF_yF, zxP_yF, zxA_yF, zxB_yF, zxL_yF, zxS_yP, zxF_yP, zxP_yP, zxA_yP, zxB_yP, zxL_yP, zxS_yA, zxF_yA, zxP_yA, zxA_yA, zxB_yA, zxL_yA, zxS_yB, zxF_yB, zxP_yB, zxA_yB, zxB_yB, zxL_yB, zxS_yL, zxF_yL, zxP_yL, zxA_yL, zxB_yL, zxL_yL, zxS_yN, zxF_yN, zxP_yN, zxA_yN, zxB_yN, zxL_yN, Nat.reduceEqDiff, false_and, and_false, true_and, and_true, and_self, ite_false, ite_true, ite_self, n_a_q1, n_a_q1.symm, n_a_q8, n_a_q8.symm, n_a_q19, n_a_q19.symm, n_q8_q1, n_q19_q1, n_q19_q8, Ne.symm n_q8_q1, Ne.symm n_q19_q1, Ne.symm n_q19_q8, hs], isL_new (by simp only [zxS_yF, zxF_yF, zxP_yF, zxA_yF, zxB_yF, zxL_yF, zxS_yP, zxF_yP, zxP_yP, zxA_yP, zxB_yP, zxL_yP, zxS_yA, zxF_yA, zxP_yA, zxA_yA, zxB_yA, zxL_yA, zxS_yB, zxF_yB, zxP_yB, zxA_yB, zxB_yB, zxL_yB, zxS_yL, zxF_yL, zxP_yL, zxA_yL, zxB_yL, zxL_yL, zxS_yN, zxF_yN, zxP_yN, zxA_yN, zxB_yN, zxL_yN, Nat.reduceEqDiff, false_and, and_false, true_and, and_true, and_self, ite_false, ite_true, ite_self, n_a_q1, n_a_q1.symm, n_a_q8, n_a_q8.symm, n_a_q19, n_a_q19.symm, n_q8_q1, n_q19_q1, n_q19_q8, Ne.symm n_q8_q1, Ne.symm n_q19_q1, Ne.symm n_q19_q8, hs]) (by simp only [zxS_yF, zxF_yF, zxP_yF, zxA_yF, zxB_yF, zxL_yF, zxS_yP, zxF_yP, zxP_yP, zxA_yP, zxB_yP, zxL_yP, zxS_yA, zxF_yA, zxP_yA, zxA_yA, zxB_yA, zxL_yA, zxS_yB, zxF_yB, zxP_yB, zxA_yB, zxB_yB, zxL_yB, zxS_yL, zxF_yL, zxP_yL, zxA_yL, zxB_yL, zxL_yL, zxS_yN, zxF_yN, zxP_yN, zxA_yN, zxB_yN, zxL_yN, Nat.reduceEqDiff, false_and, and_false, true_and, and_true, and_self, ite_false, ite_true, ite_self, n_a_q1, n_a_q1.symm, n_a_q8, n_a_q8.symm, n_a_q19, n_a_q19.symm, n_q8_q1, n_q19_q1, n_q19_q8, Ne.symm n_q8_q1, Ne.symm n_q19_q1, Ne.symm n_q19_q8, hs]) (by simp only [zxS_yF, zxF_yF, zxP_yF, zxA_yF, zxB_yF, zxL_yF, zxS_yP, zxF_yP, zxP_yP, zxA_yP, zxB_yP, zxL_yP, zxS_yA, zxF_yA, zxP_yA, zxA_yA, zxB_yA, zxL_yA, zxS_yB, zxF_yB, zxP_yB, zxA_yB, zxB_yB, zxL_yB, zxS_yL, zxF_yL, zxP_yL, zxA_yL, zxB_yL, zxL_yL, zxS_yN, zxF_yN, zxP_yN, zxA_yN, zxB_yN, zxL_yN, Nat.reduceEqDiff, false_and, and_false, true_and, and_true, and_self, ite_false, ite_true, ite_self, n_a_q1, n_a_q1.symm, n_a_q8, n_a_q8.symm, n_a_q19, n_a_q19.symm, n_q8_q1, n_q19_q1, n_q19_q8, Ne.symm n_q8_q1, Ne.symm n_q19_q1, Ne.symm n_q19_q8, hs]), isL_new (by simp only [zxS_yF, zxF_yF, zxP_yF, zxA_yF, zxB_yF, zxL_yF, zxS_yP, zxF_yP, zxP_yP, zxA_yP, zxB_yP, zxL_yP, zxS_yA, zxF_yA, zxP_yA, zxA_yA, zxB_yA, zxL_yA, zxS_yB, zxF_yB, zxP_yB, zxA_yB, zxB_yB, zxL_yB, zxS_yL, zxF_yL, zxP_yL, zxA_yL, zxB_yL, zxL_yL, zxS_yN, zxF_yN, zxP_yN, zxA_yN, zxB_yN, zxL_yN, Nat.reduceEqDiff, false_and, and_false, true_and, and_true, and_self, ite_false, ite_true, ite_self, n_a_q1, n_a_q1.symm, n_a_q8, n_a_q8.symm, n_a_q19, n_a_q19.symm, n_q8_q1, n_q19_q1, n_q19_q8, Ne.symm n_q8_q1, Ne.symm n_q19_q1, Ne.symm n_q19_q8, hs]) (by simp only [zxS_yF, zxF_yF, zxP_yF, zxA_yF, zxB_yF, zxL_yF, zxS_yP, zxF_yP, zxP_yP, zxA_yP, zxB_yP, zxL_yP, zxS_yA, zxF_yA, zxP_yA, zxA_yA, zxB_yA, zxL_yA, zxS_yB, zxF_yB, zxP_yB, zxA_yB, zxB_yB, zxL_yB, zxS_yL, zxF_yL, zxP_yL, zxA_yL, zxB_yL, zxL_yL, zxS_yN, zxF_yN, zxP_yN, zxA_yN, zxB_yN, zxL_yN, Nat.reduceEqDiff, false_and, and_false, true_and, and_true, and_self, ite_false, ite_true, ite_self, n_a_q1, n_a_q1.symm, n_a_q8, n_a_q8.symm, n_a_q19, n_a_q19.symm, n_q8_q1, n_q19_q1, n_q19_q8, Ne.symm n_q8_q1, Ne.symm n_q19_q1, Ne.symm n_q19_q8, hs]) (by simp only [zxS_yF, zxF_yF, zxP_yF, zxA_yF, zxB_yF, zxL_yF, zxS_yP, zxF_yP, zxP_yP, zxA_yP, zxB_yP, zxL_yP, zxS_yA, zxF_yA, zxP_yA, zxA_yA, zxB_yA, zxL_yA, zxS_yB, zxF_yB, zxP_yB, zxA_yB, zxB_yB, zxL_yB, zxS_yL, zxF_yL, zxP_yL, zxA_yL, zxB_yL, zxL_yL, zxS_yN, zxF_yN, zxP_yN, zxA_yN, zxB_yN, zxL_yN, Nat.reduceEqDiff, false_and, and_false, true_and, and_true, and_self, ite_false, ite_true, ite_self, n_a_q1, n_a_q1.symm, n_a_q8, n_a_q8.symm, n_a_q19, n_a_q19.symm, n_q8_q1, n_q19_q1, n_q19_q8, Ne.symm n_q8_q1, Ne.symm n_q19_q1, Ne.symm n_q19_q8, hs]), fun k hk => absurd hk List.not_mem_nil, fun k hk => absurd hk List.not_mem_nil⟩, by simp only [zxS_yF, zxF_yF, zxP_yF, zxA_yF, zxB_yF, zxL_yF, zxS_yP, zxF_yP, zxP_yP, zxA_yP, zxB_yP, zxL_yP, zxS_yA, zxF_yA, zxP_yA, zxA_yA, zxB_yA, zxL_yA, zxS_yB, zxF_yB, zxP_yB, zxA_yB, zxB_yB, zxL_yB, zxS_yL, zxF_yL, zxP_yL, zxA_yL, zxB_yL, zxL_yL, zxS_yN, zxF_yN, zxP_yN, zxA_yN, zxB_yN, zxL_yN, Nat.reduceEqDiff, false_and, and_false, true_and, and_true, and_self, ite_false, ite_true, ite_self, n_a_q1, n_a_q1.symm, n_a_q8, n_a_q8.symm, n_a_q19, n_a_q19.symm, n_q8_q1, n_q19_q1, n_q19_q8, Ne.symm n_q8_q1, Ne.symm n_q19_q1, Ne.symm n_q19_q8, hs], by simp only [zxS_yF, zxF_yF, zxP_yF, zxA_yF, zxB_yF, zxL_yF, zxS_yP, zxF_yP, zxP_yP, zxA_yP, zxB_yP, zxL_yP, zxS_yA, zxF_yA, zxP_yA, zxA_yA, zxB_yA, zxL_yA, zxS_yB, zxF_yB, zxP_yB, zxA_yB, zxB_yB, zxL_yB, zxS_yL, zxF_yL, zxP_yL, zxA_yL, zxB_yL, zxL_yL, zxS_yN, zxF_yN, zxP_yN, zxA_yN, zxB_yN, zxL_yN, Nat.reduceEqDiff, false_and, and_false, true_and, and_true, and_self, ite_false, ite_true, ite_self, n_a_q1, n_a_q1.symm, n_a_q8, n_a_q8.symm, n_a_q19, n_a_q19.symm, n_q8_q1, n_q19_q1, n_q19_q8, Ne.symm n_q8_q1, Ne.symm n_q19_q1, Ne.symm n_q19_q8, hs], by simp only [zxS_yF, zxF_yF, zxP_yF, zxA_yF, zxB_yF, zxL_yF, zxS_yP, zxF_yP, zxP_yP, zxA_yP, zxB_yP, zxL_yP, zxS_yA, zxF_yA, zxP_yA, zxA_yA, zxB_yA, zxL_yA, zxS_yB, zxF_yB, zxP_yB, zxA_yB, zxB_yB, zxL_yB, zxS_yL, zxF_yL, zxP_yL, zxA_yL, zxB_yL, zxL_yL, zxS_yN, zxF_yN, zxP_yN, zxA_yN, zxB_yN, zxL_yN, Nat.reduceEqDiff, false_and, and_false, true_and, and_true, and_self, ite_false, ite_true, ite_self, n_a_q1, n_a_q1.symm, n_a_q8, n_a_q8.symm, n_a_q19, n_a_q19.symm, n_q8_q1, n_q19_q1, n_q19_q8, Ne.symm n_q8_q1, Ne.symm n_q19_q1, Ne.symm n_q19_q8, hs], by simp only [zxS_yF, zxF_yF, zxP_yF, zxA_yF, zxB_yF, zxL_yF, zxS_yP, zxF_yP, zxP_yP, zxA_yP, zxB_yP, zxL_yP, zxS_yA, zxF_yA, zxP_yA, zxA_yA, zxB_yA, zxL_yA, zxS_yB, zxF_yB, zxP_yB, zxA_yB, zxB_yB, zxL_yB, zxS_yL, zxF_yL, zxP_yL, zxA_yL, zxB_yL, zxL_yL, zxS_yN, zxF_yN, zxP_yN, zxA_yN, zxB_yN, zxL_yN, Nat.reduceEqDiff, false_and, and_false, true_and, and_true, and_self, ite_false, ite_true, ite_self, n_a_q1, n_a_q1.symm, n_a_q8, n_a_q8.symm, n_a_q19, n_a_q19.symm, n_q8_q1, n_q19_q1, n_q19_q8, Ne.symm n_q8_q1, Ne.symm n_q19_q1, Ne.symm n_q19_q8, hs], ?_, f_q1, f_q8, f_q19, Ne.symm n_q8_q1, Ne.symm n_q19_q1, Ne.symm n_q19_q8, by simp only [zxS_yF, zxF_yF, zxP_yF, zxA_yF, zxB_yF, zxL_yF, zxS_yP, zxF_yP, zxP_yP, zxA_yP, zxB_yP, zxL_yP, zxS_yA, zxF_yA, zxP_yA, zxA_yA, zxB_yA, zxL_yA, zxS_yB, zxF_yB, zxP_yB, zxA_yB, zxB_yB, zxL_yB, zxS_yL, zxF_yL, zxP_yL, zxA_yL, zxB_yL, zxL_yL, zxS_yN, zxF_yN, zxP_yN, zxA_yN, zxB_yN, zxL_yN, Nat.reduceEqDiff, false_and, and_false, true_and, and_true, and_self, ite_false, ite_true, ite_self, n_a_q1, n_a_q1.symm, n_a_q8, n_a_q8.symm, n_a_q19, n_a_q19.symm, n_q8_q1, n_q19_q1, n_q19_q8, Ne.symm n_q8_q1, Ne.symm n_q19_q1, Ne.symm n_q19_q8, hs], by simp only [zxS_yF, zxF_yF, zxP_yF, zxA_yF, zxB_yF, zxL_yF, zxS_yP, zxF_yP, zxP_yP, zxA_yP, zxB_yP, zxL_yP, zxS_yA, zxF_yA, zxP_yA, zxA_yA, zxB_yA, zxL_yA, zxS_yB, zxF_yB, zxP_yB, zxA_yB, zxB_yB, zxL_yB, zxS_yL, zxF_yL, zxP_yL, zxA_yL, zxB_yL, zxL_yL, zxS_yN, zxF_yN, zxP_yN, zxA_yN, zxB_yN, zxL_yN, Nat.reduceEqDiff, false_and, and_false, true_and, and_true, and_self, ite_false, ite_true, ite_self, n_a_q1, n_a_q1.symm, n_a_q8, n_a_q8.symm, n_a_q19, n_a_q19.symm, n_q8_q1, n_q19_q1, n_q19_q8, Ne.symm n_q8_q1, Ne.symm n_q19_q1, Ne.symm n_q19_q8, hs]⟩
  refine Fr.mono (Wr := fun b => b = a ∨ b = q1 ∨ b = q8) ?_ (fun b hb hw => hw.elim id (fun z => z.elim (fun e => absurd (e ▸ f_q1) hb) (fun e => absurd (e ▸ f_q8) hb)))
  refine Fr.tr ?_ (Fr.yF (Or.inl rfl))
  refine Fr.tr ?_ (Fr.yP (Or.inl rfl))
  refine Fr.tr ?_ (Fr.yN hq19)
  refine Fr.tr ?_ (Fr.yP (Or.inl rfl))
  refine Fr.tr ?_ (Fr.yP (Or.inr (Or.inr rfl)))
  refine Fr.tr ?_ (Fr.yF (Or.inr (Or.inr rfl)))
  refine Fr.tr ?_ (Fr.yN hq8)
  refine Fr.tr ?_ (Fr.yF (Or.inl rfl))
  refine Fr.tr ?_ (Fr.yF (Or.inl rfl))
  refine Fr.tr ?_ (Fr.yP (Or.inl rfl))
  refine Fr.tr ?_ (Fr.yP (Or.inr (Or.inl rfl)))
  refine Fr.tr ?_ (Fr.yF (Or.inr (Or.inl rfl)))
  refine Fr.tr ?_ (Fr.yN hq1)
  refine Fr.tr ?_ (Fr.yF (Or.inl rfl))
  refine Fr.tr ?_ (Fr.yF (Or.inl rfl))
  exact Fr.rf
