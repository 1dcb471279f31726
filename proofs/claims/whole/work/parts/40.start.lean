/-! ===== the start: what the Statement gives, and the law's walk from its entry ===== -/
def flN : List Cond := flatC (Jvm.Cond.and given_1 narrow_1)
theorem fl_ea : ∀ j < 32, Cond.eq (.elem (.static "Puppetloom" "EASING" "[I") (.int (Int32.ofNat j))) (.int (easeL.getD j 0)) ∈ flN := by decide +kernel
theorem fl_el : Cond.eq (.length (.static "Puppetloom" "EASING" "[I")) (.int (Int32.ofNat 32)) ∈ flN := by decide +kernel
theorem fl_er : Cond.arrayOf (.static "Puppetloom" "EASING" "[I") .int ∈ flN := by decide +kernel
theorem fl_dl : Cond.eq (.length (.static "java/util/ArrayList" "DEFAULTCAPACITY_EMPTY_ELEMENTDATA" "[Ljava/lang/Object;")) (.int (Int32.ofNat 0)) ∈ flN := by decide +kernel
theorem fl_dr : Cond.arrayOf (.static "java/util/ArrayList" "DEFAULTCAPACITY_EMPTY_ELEMENTDATA" "[Ljava/lang/Object;") (.object "java/lang/Object") ∈ flN := by decide +kernel
theorem fl_un : Cond.isRef (.static Bundle.tN "UNASSIGNED_STACK" Bundle.steD) ∈ flN := by decide +kernel
theorem fl_su : Cond.isRef (.static Bundle.tN "SUPPRESSED_SENTINEL" Bundle.listD) ∈ flN := by decide +kernel
theorem fl_mi : Cond.isRef (.mirror "[Ljava/lang/Object;") ∈ flN := by decide +kernel
theorem fl_nc : ∀ q ∈ ncs, Cond.not (.castable q.1 q.2) ∈ flN := by decide +kernel
theorem fl_st : ∀ q ∈ strs, Cond.exactly (.string q.1 q.2.1) "java/lang/String" ∈ flN := by decide +kernel
theorem tb_st : ∀ q ∈ strs, Cond.stringRef q.1 q.2.1 q.2.2 ∈ lw_tbl := by decide +kernel
theorem tb_e1 : Cond.laysStatic "Puppetloom" "EASING" "[I" ∈ lw_tbl := by decide +kernel
theorem tb_e2 : Cond.initialized "Puppetloom" ∈ lw_tbl := by decide +kernel
theorem tb_d1 : Cond.laysStatic "java/util/ArrayList" "DEFAULTCAPACITY_EMPTY_ELEMENTDATA" "[Ljava/lang/Object;" ∈ lw_tbl := by decide +kernel
theorem tb_d2 : Cond.initialized "java/util/ArrayList" ∈ lw_tbl := by decide +kernel
theorem tb_t1 : Cond.laysStatic Bundle.tN "UNASSIGNED_STACK" Bundle.steD ∈ lw_tbl := by decide +kernel
theorem tb_t2 : Cond.laysStatic Bundle.tN "SUPPRESSED_SENTINEL" Bundle.listD ∈ lw_tbl := by decide +kernel
theorem tb_t3 : Cond.initialized Bundle.tN ∈ lw_tbl := by decide +kernel
theorem tb_gc : Cond.declares ⟨"java/lang/Object", "getClass", "()Ljava/lang/Class;"⟩ ∈ lw_tbl := by decide +kernel
theorem tb_ao : Cond.arrayOver (.object "java/lang/Object") ∈ lw_tbl := by decide +kernel
theorem st_arr {s : State} {args : Array Value} {ty : FieldType} (h : (Cond.arrayClass ty).before args s = true) : ∃ cA, ArrOfT s cA ty ∧ s.vm.findClass ("[" ++ ty.toString) = some cA := by
  obtain ⟨c, k, comp, h1, h2, h3⟩ := Cond.arrayClass_spec (show (Cond.arrayClass ty).holds args s none s [] = true from h)
  exact ⟨c, fun n z => ⟨fun k h => (by cases h), k, h2, comp, h3⟩, h1⟩
theorem st_arrO {s : State} {args : Array Value} {n : String} (h : (Cond.arrayOver (.object n)).before args s = true) : ∃ cA, ArrOfT s cA (.object n) ∧ va_RA s cA (.object n) := by
  obtain ⟨comp, c, k, h1, h2, h3, h4, h5⟩ := Cond.arrayOver_spec (show (Cond.arrayOver (.object n)).holds args s none s [] = true from h)
  exact ⟨c, fun n z => ⟨fun k h => (by cases h), k, h3, comp, h4⟩, k, comp, h3, h4, h1, h5⟩
theorem ev_int {s : State} {args : Array Value} {tm : Term} {v : Int32} (h : (Cond.eq tm (.int v)).before args s = true) : tm.eval args s none [] s = some (.int v) := Cond.eq_int (show (Cond.eq tm (.int v)).holds args s none s [] = true from h) rfl
def mkG (D : va_G) (cI cZ cO cJ : ClassId) (n0 e1 e2 e3 e4 e5 : Nat) (st : Nat → Nat) (xs : Nat → Int32) : Gl := (D, (fun k => if k = 0 then cI else if k = 1 then cZ else if k = 2 then cO else cJ), (fun n => if n = 0 then n0 else if n = 1 then e1 else if n = 2 then e2 else if n = 3 then e3 else if n = 4 then e4 else if n = 5 then e5 else st (n - 10)), xs)
theorem mkG_10 (D : va_G) (cI cZ cO cJ : ClassId) (n0 e1 e2 e3 e4 e5 : Nat) (st : Nat → Nat) (xs : Nat → Int32) (k : Nat) : gN (mkG D cI cZ cO cJ n0 e1 e2 e3 e4 e5 st xs) (10 + k) = st k := by
  show (if 10 + k = 0 then n0 else if 10 + k = 1 then e1 else if 10 + k = 2 then e2 else if 10 + k = 3 then e3 else if 10 + k = 4 then e4 else if 10 + k = 5 then e5 else st (10 + k - 10)) = st k
  rw [if_neg (by omega), if_neg (by omega), if_neg (by omega), if_neg (by omega), if_neg (by omega), if_neg (by omega), show 10 + k - 10 = k by omega]
def hE0 : Hp := (fun _ => none, fun _ _ => 0, fun _ _ => none, fun _ _ => 0, fun _ _ => none, fun _ _ => 0)
set_option maxRecDepth 100000 in
set_option maxHeartbeats 4000000 in
theorem glob_start {s : State} {b L : Nat} {xs : Nat → Int32} (hts : ∀ w ∈ lw_tbl, w.before #[Value.ref b] s = true) (hgv : (Jvm.Cond.and given_1 narrow_1).before #[Value.ref b] s = true) (hX : va_X b L xs s s.heap) (hb : b < s.heap.size) : ∃ g : Gl, Glob g s ∧ gN g 0 = s.heap.size ∧ gN g 4 = b ∧ gN g 5 = L ∧ HG g hE0 s.heap := by
  have hq : ∀ w ∈ flN, w.before #[Value.ref b] s = true := flat_of_before _ hgv
  have hA : ∀ a : Nat, a < s.heap.size → ¬ (fun q : Nat => s.heap.size ≤ q) a := fun a h => Nat.not_le.mpr h
  have tb : ∀ {w : Cond}, w ∈ TB → w.before #[Value.ref b] s = true := fun hw => hts _ (List.mem_filter.mp hw).1
  obtain ⟨k0, i0, u0⟩ := u_known (C := RX0) (T := TX0) (N := 4) (n := 4) (ws := lw_tbl) hts (fun w hw => (List.mem_filter.mp (ws_X0 w hw)).1) (tb nw_0)
  obtain ⟨k1, i1, u1⟩ := u_known (C := RX1) (T := TX1) (N := 2) (n := 2) (ws := lw_tbl) hts (fun w hw => (List.mem_filter.mp (ws_X1 w hw)).1) (tb nw_1)
  obtain ⟨k2, i2, u2⟩ := u_known (C := RX2) (T := TX2) (N := 8) (n := 8) (ws := lw_tbl) hts (fun w hw => (List.mem_filter.mp (ws_X2 w hw)).1) (tb nw_2)
  obtain ⟨k3, i3, u3⟩ := u_known (C := RX3) (T := TX3) (N := 6) (n := 6) (ws := lw_tbl) hts (fun w hw => (List.mem_filter.mp (ws_X3 w hw)).1) (tb nw_3)
  obtain ⟨k4, i4, u4⟩ := u_known (C := RX4) (T := TX4) (N := 2) (n := 2) (ws := lw_tbl) hts (fun w hw => (List.mem_filter.mp (ws_X4 w hw)).1) (tb nw_4)
  obtain ⟨k5, i5, u5⟩ := u_known (C := RX5) (T := TX5) (N := 4) (n := 4) (ws := lw_tbl) hts (fun w hw => (List.mem_filter.mp (ws_X5 w hw)).1) (tb nwL_5)
  obtain ⟨k6, i6, u6⟩ := u_known (C := RX6) (T := TX6) (N := 29) (n := 29) (ws := lw_tbl) hts (fun w hw => (List.mem_filter.mp (ws_X6 w hw)).1) (tb nwL_6)
  obtain ⟨k7, i7, u7⟩ := u_known (C := RJx4a65c) (T := TJx4a65c) (N := 3) (n := 3) (ws := lw_tbl) hts (fun w hw => (List.mem_filter.mp (ws_Jx4a65c w hw)).1) (tb nw_7)
  obtain ⟨D, hD⟩ : ∃ D : va_G, ∀ (c : Nat) (q : vw_C), kcl[c]? = some q → u_Kn s q.1 q.2.1 q.2.2 (D.1 c) (D.2 c) := by
    refine ⟨(fun k => if k = 0 then k0 else if k = 1 then k1 else if k = 2 then k2 else if k = 3 then k3 else if k = 4 then k4 else if k = 5 then k5 else if k = 6 then k6 else k7, fun k => if k = 0 then i0 else if k = 1 then i1 else if k = 2 then i2 else if k = 3 then i3 else if k = 4 then i4 else if k = 5 then i5 else if k = 6 then i6 else i7), fun c q hc => ?_⟩
    match c, hc with
    | 0, hc => cases hc; exact u0
    | 1, hc => cases hc; exact u1
    | 2, hc => cases hc; exact u2
    | 3, hc => cases hc; exact u3
    | 4, hc => cases hc; exact u4
    | 5, hc => cases hc; exact u5
    | 6, hc => cases hc; exact u6
    | 7, hc => cases hc; exact u7
    | n + 8, hc => exact absurd (List.getElem?_eq_some_iff.mp hc).1 (by show ¬ n + 8 < 8; omega)
  obtain ⟨cI, aI, fI⟩ := st_arr (tb ac_int)
  obtain ⟨cZ, aZ, fZ⟩ := st_arr (tb ac_boolean)
  obtain ⟨cJ, aJ, fJ⟩ := st_arr (tb ac_long)
  obtain ⟨cO, aO, fO⟩ := st_arrO (hts _ tb_ao)
  obtain ⟨eE, vE, tE⟩ := va_Tof (args := #[Value.ref b]) (s := s) (tm := .static "Puppetloom" "EASING" "[I") (ty := .int) (N := 32) (f := fun j => .int (easeL.getD j 0)) (A := fun q => s.heap.size ≤ q) (by decide) (hq _ fl_er) (ev_int (hq _ fl_el)) (fun j hj => ev_int (hq _ (fl_ea j hj))) hA
  obtain ⟨eD, vD, tD⟩ := va_Tof (args := #[Value.ref b]) (s := s) (tm := .static "java/util/ArrayList" "DEFAULTCAPACITY_EMPTY_ELEMENTDATA" "[Ljava/lang/Object;") (ty := .object "java/lang/Object") (N := 0) (f := fun _ => .null) (A := fun q => s.heap.size ≤ q) (by decide) (hq _ fl_dr) (ev_int (hq _ fl_dl)) (fun j hj => absurd hj (Nat.not_lt_zero _)) hA
  have zE := va_Zref (hts _ tb_e1) (hts _ tb_e2) vE hA
  have zD := va_Zref (hts _ tb_d1) (hts _ tb_d2) vD hA
  have zU := vx_Zqof (hts _ tb_t1) (hts _ tb_t3) (hq _ fl_un) hA
  have zS := vx_Zqof (hts _ tb_t2) (hts _ tb_t3) (hq _ fl_su) hA
  obtain ⟨mi, hmi⟩ := va_Mi.of (hq _ fl_mi)
  have HS : ∀ k : Nat, ∃ a : Nat, ∀ q : String × Nat × String, strs[k]? = some q → vk_R q.1 q.2.1 q.2.2 a s := fun k => by
    cases hk : strs[k]? with
    | none => exact ⟨0, fun q h => nomatch h⟩
    | some q =>
      have hm := List.mem_of_getElem? hk
      obtain ⟨a, -, -, -, ha, -⟩ := Cond.exactly_spec (show (Cond.exactly (.string q.1 q.2.1) "java/lang/String").holds #[Value.ref b] s none s [] = true from hq _ (fl_st q hm))
      exact ⟨a, fun q' h => by cases h; exact vk_R.of (hts _ (tb_st q hm)) ha⟩
  obtain ⟨st, hst⟩ : ∃ st : Nat → Nat, ∀ (k : Nat) (q : String × Nat × String), strs[k]? = some q → vk_R q.1 q.2.1 q.2.2 (st k) s := ⟨fun k => Classical.choose (HS k), fun k => Classical.choose_spec (HS k)⟩
  have tX : va_T .int b L (fun j => .int (xs j)) (fun q => s.heap.size ≤ q) s s.heap := by
    obtain ⟨scr, x1, x2, x3, x4, x5⟩ := hX
    exact ⟨scr, x1, x2, x3, Nat.le_of_eq x4.symm, (by rw [x4]), x5, hA b hb⟩
  refine ⟨mkG D cI cZ cO cJ s.heap.size eE eD mi b L st xs, ⟨⟨⟨hD, fun k q hk => ?_⟩, fun w hw => va_Nw.of (nw_tabs hw) (hts _ (List.mem_filter.mp hw).1), hmi, va_Dc.of (hts _ tb_gc), va_AO.of (hts _ tb_ao), fun k q hk => ?_, fun q hm => va_Nc.of (hq _ (fl_nc q hm))⟩, zE, tE, zD, tD, tX, zU, zS, Nat.le_refl _⟩, rfl, rfl, rfl, ?_⟩
  · match k, hk with
    | 0, hk => cases hk; exact ⟨aI, fI⟩
    | 1, hk => cases hk; exact ⟨aZ, fZ⟩
    | 2, hk => cases hk; exact ⟨aO, fO⟩
    | 3, hk => cases hk; exact ⟨aJ, fJ⟩
    | n + 4, hk => exact absurd (List.getElem?_eq_some_iff.mp hk).1 (by show ¬ n + 4 < 4; omega)
  · rw [mkG_10]; exact hst k q hk
  · exact ⟨[], fun k q h => (by simp at h), ⟨fun i j p q h => (by simp at h), fun k q h => (by simp at h)⟩, fun a kd n h => (by cases h), fun k q h => (by simp at h)⟩
