/-! ===== the lists of the library ===== -/
def IsL (E : Nat) (h : Hp) (L : Nat) (xs : List Nat) : Prop := xS h L = some (7, 0) ∧ xF h 702 L = nI xs.length ∧ xs.length < 1000 ∧ (∀ v ∈ xs, isE h v) ∧ ((xs = [] ∧ xP h 701 L = some E) ∨ ∃ D n : Nat, xP h 701 L = some D ∧ xS h D = some (10, n) ∧ xs.length ≤ n ∧ 2 ≤ n ∧ n < 1000 ∧ ∀ (i v : Nat), xs[i]? = some v → xB h D i = some v)
theorem nI_m1 {n : Nat} (h : 1 ≤ n) : nI n + (-1) = nI (n - 1) := by
  obtain ⟨k, rfl⟩ : ∃ k, n = k + 1 := ⟨n - 1, by omega⟩
  rw [pk_m1, Nat.add_sub_cancel]
theorem isE.fr {Wr : Nat → Prop} {h h' : Hp} {v : Nat} (hf : Fr Wr h h') (hv : isE h v) : isE h' v := by
  obtain ⟨a, b, c, h1, h2, h3⟩ := hv
  exact ⟨a, b, c, hf.S h1, h2, h3⟩
set_option maxRecDepth 100000 in
set_option maxHeartbeats 4000000 in
theorem ct_acInit {g : Gl} {l : Launch} (hfl : l.stackTraces = false) (h : Hp) (L : Nat) : CT g l iJxa1e45_init_da8c8 2 [.ref L] h 0 0 (pRet none h) := by
  refine ct_mk hfl (by decide) (Nat.le_of_ble_eq_true rfl) (by intro v hv; simp only [List.mem_cons, List.not_mem_nil, or_false] at hv; rcases hv with rfl <;> rfl) (fun V X M => ?_)
  have Mm := M.m
  show V 0 [some (.ref L)] [] _ 0 0
  refine r_aload_n Mm dJxa1e45_init_da8c8_0 rfl ?_
  refine r_objInit Mm dJxa1e45_init_da8c8_1 co_Jxa1e45_1 coi coc (Nat.le_of_ble_eq_true rfl) (Nat.le_of_ble_eq_true rfl) ?_
  refine r_vret M dJxa1e45_init_da8c8_4 ?_
  exact ⟨rfl, rfl⟩
set_option maxRecDepth 100000 in
set_option maxHeartbeats 4000000 in
theorem ct_alInit {g : Gl} {l : Launch} (hfl : l.stackTraces = false) (h : Hp) (L : Nat) (hs : xS h L = some (7, 0)) : CT g l iJxc12de_init_da8c8 3 [.ref L] h 0 0 (pRet none (yF h 700 L (nI 0))) := by
  refine ct_mk hfl (by decide) (Nat.le_of_ble_eq_true rfl) (by intro v hv; simp only [List.mem_cons, List.not_mem_nil, or_false] at hv; rcases hv with rfl <;> rfl) (fun V X M => ?_)
  have Mm := M.m
  show V 0 [some (.ref L)] [] _ 0 0
  refine r_aload_n Mm dJxc12de_init_da8c8_0 rfl ?_
  refine r_callI (As := []) Mm dJxc12de_init_da8c8_1 rfl (ct_acInit hfl h L) cw_Jxc12de_1 ⟨Nat.le_of_ble_eq_true rfl, Nat.le_of_ble_eq_true rfl, Nat.le_of_ble_eq_true rfl⟩ (Nat.le_of_ble_eq_true rfl) ⟨Nat.le_of_ble_eq_true rfl, Nat.le_of_ble_eq_true rfl⟩ (fun r1 h2 p3 => ?_) (fun _ _ z => z)
  obtain ⟨rfl, rfl⟩ := p3
  show V 4 _ [] _ _ _
  refine r_aload_n Mm dJxc12de_init_da8c8_4 rfl ?_
  refine r_iconst (v := nI 0) Mm dJxc12de_init_da8c8_5 (by decide) ?_
  refine r_putI (ty := .int) Mm dJxc12de_init_da8c8_6 fi_Jxc12de_7 ki_7 rfl (hs) rfl (i := 700) rfl rfl (by decide +kernel) rfl rfl ?_
  refine r_vret M dJxc12de_init_da8c8_9 ?_
  exact ⟨rfl, rfl⟩
set_option maxRecDepth 100000 in
set_option maxHeartbeats 4000000 in
theorem ct_listInit {g : Gl} {l : Launch} (hfl : l.stackTraces = false) (h : Hp) (L : Nat) (hs : xS h L = some (7, 0)) : CT g l iJx4a65c_init_da8c8 4 [.ref L] h 0 0 (pRet none (yP (yF h 700 L (nI 0)) 701 L (some (gN g 2)))) := by
  refine ct_mk hfl (by decide) (Nat.le_of_ble_eq_true rfl) (by intro v hv; simp only [List.mem_cons, List.not_mem_nil, or_false] at hv; rcases hv with rfl <;> rfl) (fun V X M => ?_)
  have Mm := M.m
  show V 0 [some (.ref L)] [] _ 0 0
  refine r_aload_n Mm dJx4a65c_init_da8c8_0 rfl ?_
  refine r_callI (As := []) Mm dJx4a65c_init_da8c8_1 rfl (ct_alInit hfl h L hs) cw_Jx4a65c_1 ⟨Nat.le_of_ble_eq_true rfl, Nat.le_of_ble_eq_true rfl, Nat.le_of_ble_eq_true rfl⟩ (Nat.le_of_ble_eq_true rfl) ⟨Nat.le_of_ble_eq_true rfl, Nat.le_of_ble_eq_true rfl⟩ (fun r1 h2 p3 => ?_) (fun _ _ z => z)
  obtain ⟨rfl, rfl⟩ := p3
  show V 4 _ [] _ _ _
  refine r_aload_n Mm dJx4a65c_init_da8c8_4 rfl ?_
  refine r_getsD Mm dJx4a65c_init_da8c8_5 fs_Jx4a65c_39 ?_
  refine r_putR (v := some (gN g 2)) (ty := .array (.object "java/lang/Object")) Mm dJx4a65c_init_da8c8_8 fi_Jx4a65c_9 ki_7 rfl (hs) rfl (i := 701) rfl rfl (by decide +kernel) rfl rfl ?_
  refine r_vret M dJx4a65c_init_da8c8_11 ?_
  exact ⟨rfl, rfl⟩
set_option maxRecDepth 100000 in
set_option maxHeartbeats 4000000 in
theorem ct_size {g : Gl} {l : Launch} (hfl : l.stackTraces = false) (h : Hp) (L n : Nat) (hs : xS h L = some (7, 0)) (hn : xF h 702 L = nI n) : CT g l iJx4a65c_size_8abf5 1 [.ref L] h 0 0 (pRet (some (.int (nI n))) h) := by
  refine ct_mk hfl (by decide) (Nat.le_of_ble_eq_true rfl) (by intro v hv; simp only [List.mem_cons, List.not_mem_nil, or_false] at hv; rcases hv with rfl <;> rfl) (fun V X M => ?_)
  have Mm := M.m
  show V 0 [some (.ref L)] [] _ 0 0
  refine r_aload_n Mm dJx4a65c_size_8abf5_0 rfl ?_
  refine r_getI Mm dJx4a65c_size_8abf5_1 fi_Jx4a65c_48 (hs) rfl (i := 702) rfl ?_
  refine r_top _ (nI n) (hn) ?_
  refine r_iret M dJx4a65c_size_8abf5_4 ?_
  exact ⟨rfl, rfl⟩
set_option maxRecDepth 100000 in
set_option maxHeartbeats 4000000 in
theorem ct_pci {g : Gl} {l : Launch} (hfl : l.stackTraces = false) (h : Hp) (i n : Nat) (hi : i < n) (hn : n < 2 ^ 31) : CT g l iJ3_checkIndex_8e157 1 [.int (nI i), .int (nI n), .null] h 0 0 (pRet (some (.int (nI i))) h) := by
  refine ct_mk hfl (by decide) (Nat.le_of_ble_eq_true rfl) (by intro v hv; simp only [List.mem_cons, List.not_mem_nil, or_false] at hv; rcases hv with rfl | rfl | rfl <;> rfl) (fun V X M => ?_)
  have Mm := M.m
  show V 0 [some (.int (nI i)), some (.int (nI n)), some (.null)] [] _ 0 0
  refine r_iload_n Mm dJ3_checkIndex_8e157_0 rfl ?_
  refine r_if_lt (tgt := 9) Mm dJ3_checkIndex_8e157_1 (by decide) (fun c1 => absurd c1 (nI_pos (by omega))) (fun _ => ?_)
  refine r_iload_n Mm dJ3_checkIndex_8e157_4 rfl ?_
  refine r_iload_n Mm dJ3_checkIndex_8e157_5 rfl ?_
  refine r_icmp_ltN (tgt := 16) Mm dJ3_checkIndex_8e157_6 (by decide) (by omega) (by omega) (fun c2 => ?_) (fun c2 => ?_)
  · refine r_iload_n Mm dJ3_checkIndex_8e157_16 rfl ?_
    refine r_iret M dJ3_checkIndex_8e157_17 ?_
    exact ⟨rfl, rfl⟩
  · exact absurd c2 (by omega)
set_option maxRecDepth 100000 in
set_option maxHeartbeats 4000000 in
theorem ct_oci {g : Gl} {l : Launch} (hfl : l.stackTraces = false) (h : Hp) (i n : Nat) (hi : i < n) (hn : n < 2 ^ 31) : CT g l iJ15_checkIndex_7cf53 2 [.int (nI i), .int (nI n)] h 0 0 (pRet (some (.int (nI i))) h) := by
  refine ct_mk hfl (by decide) (Nat.le_of_ble_eq_true rfl) (by intro v hv; simp only [List.mem_cons, List.not_mem_nil, or_false] at hv; rcases hv with rfl | rfl <;> rfl) (fun V X M => ?_)
  have Mm := M.m
  show V 0 [some (.int (nI i)), some (.int (nI n))] [] _ 0 0
  refine r_iload_n Mm dJ15_checkIndex_7cf53_0 rfl ?_
  refine r_iload_n Mm dJ15_checkIndex_7cf53_1 rfl ?_
  refine r_null Mm dJ15_checkIndex_7cf53_2 ?_
  refine r_callS (As := [(.int (nI i)), (.int (nI n)), .null]) Mm dJ15_checkIndex_7cf53_3 rfl (ct_pci hfl h i n hi hn) cw_J15_105 ⟨Nat.le_of_ble_eq_true rfl, Nat.le_of_ble_eq_true rfl, Nat.le_of_ble_eq_true rfl⟩ (Nat.le_of_ble_eq_true rfl) ⟨Nat.le_of_ble_eq_true rfl, Nat.le_of_ble_eq_true rfl⟩ (fun r1 h2 p3 => ?_) (fun Er1 h2 p3 => False.elim p3)
  obtain ⟨rfl, rfl⟩ := p3
  show V 6 _ [(.int (nI i))] _ _ _
  refine r_iret M dJ15_checkIndex_7cf53_6 ?_
  exact ⟨rfl, rfl⟩
set_option maxRecDepth 100000 in
set_option maxHeartbeats 4000000 in
theorem ct_elementData {g : Gl} {l : Launch} (hfl : l.stackTraces = false) (h : Hp) (L D n i v : Nat) (hs : xS h L = some (7, 0)) (hD : xP h 701 L = some D) (hd : xS h D = some (10, n)) (hi : i < n) (hn : n < 2 ^ 31) (hv : xB h D i = some v) : CT g l iJx4a65c_elementData_915e3 1 [.ref L, .int (nI i)] h 0 0 (pRet (some (.ref v)) h) := by
  refine ct_mk hfl (by decide) (Nat.le_of_ble_eq_true rfl) (by intro v hv; simp only [List.mem_cons, List.not_mem_nil, or_false] at hv; rcases hv with rfl | rfl <;> rfl) (fun V X M => ?_)
  have Mm := M.m
  show V 0 [some (.ref L), some (.int (nI i))] [] _ 0 0
  refine r_aload_n Mm dJx4a65c_elementData_915e3_0 rfl ?_
  refine r_getR Mm dJx4a65c_elementData_915e3_1 fi_Jx4a65c_9 (hs) rfl (i := 701) rfl (hD) ?_
  refine r_iload_n Mm dJx4a65c_elementData_915e3_4 rfl ?_
  refine r_aaldN Mm dJx4a65c_elementData_915e3_5 (hd) (by omega) (by omega) (hv) ?_
  refine r_aret M dJx4a65c_elementData_915e3_6 (Or.inl ⟨_, rfl⟩) ?_
  exact ⟨rfl, rfl⟩
set_option maxRecDepth 100000 in
set_option maxHeartbeats 4000000 in
theorem ct_get0 {g : Gl} {l : Launch} (hfl : l.stackTraces = false) (h : Hp) (L D n i v : Nat) (hs : xS h L = some (7, 0)) (hD : xP h 701 L = some D) (hd : xS h D = some (10, n)) (k : Nat) (hk : xF h 702 L = nI k) (hik : i < k) (hkn : k ≤ n) (hn : n < 2 ^ 31) (hv : xB h D i = some v) : CT g l iJx4a65c_get_915e3 3 [.ref L, .int (nI i)] h 0 0 (pRet (some (.ref v)) h) := by
  refine ct_mk hfl (by decide) (Nat.le_of_ble_eq_true rfl) (by intro v hv; simp only [List.mem_cons, List.not_mem_nil, or_false] at hv; rcases hv with rfl | rfl <;> rfl) (fun V X M => ?_)
  have Mm := M.m
  show V 0 [some (.ref L), some (.int (nI i))] [] _ 0 0
  refine r_iload_n Mm dJx4a65c_get_915e3_0 rfl ?_
  refine r_aload_n Mm dJx4a65c_get_915e3_1 rfl ?_
  refine r_getI Mm dJx4a65c_get_915e3_2 fi_Jx4a65c_48 (hs) rfl (i := 702) rfl ?_
  refine r_top _ (nI k) (hk) ?_
  refine r_callS (As := [(.int (nI i)), (.int (nI k))]) Mm dJx4a65c_get_915e3_5 rfl (ct_oci hfl h i k hik (by omega)) cw_Jx4a65c_118 ⟨Nat.le_of_ble_eq_true rfl, Nat.le_of_ble_eq_true rfl, Nat.le_of_ble_eq_true rfl⟩ (Nat.le_of_ble_eq_true rfl) ⟨Nat.le_of_ble_eq_true rfl, Nat.le_of_ble_eq_true rfl⟩ (fun r1 h2 p3 => ?_) (fun Er1 h2 p3 => False.elim p3)
  obtain ⟨rfl, rfl⟩ := p3
  show V 8 _ [(.int (nI i))] _ _ _
  refine r_pop Mm dJx4a65c_get_915e3_8 rfl ?_
  refine r_aload_n Mm dJx4a65c_get_915e3_9 rfl ?_
  refine r_iload_n Mm dJx4a65c_get_915e3_10 rfl ?_
  refine r_callV (As := [(.int (nI i))]) Mm dJx4a65c_get_915e3_11 rfl (ct_elementData hfl h L D n i v hs hD hd (by omega) hn hv) (hs) rfl cw_Jx4a65c_123 ⟨Nat.le_of_ble_eq_true rfl, Nat.le_of_ble_eq_true rfl, Nat.le_of_ble_eq_true rfl⟩ (Nat.le_of_ble_eq_true rfl) ⟨Nat.le_of_ble_eq_true rfl, Nat.le_of_ble_eq_true rfl⟩ (fun r4 h5 p6 => ?_) (fun Er4 h5 p6 => False.elim p6)
  obtain ⟨rfl, rfl⟩ := p6
  show V 14 _ [(.ref v)] _ _ _
  refine r_aret M dJx4a65c_get_915e3_14 (Or.inl ⟨_, rfl⟩) ?_
  exact ⟨rfl, rfl⟩
set_option maxRecDepth 100000 in
set_option maxHeartbeats 4000000 in
theorem ct_set0 {g : Gl} {l : Launch} (hfl : l.stackTraces = false) (h : Hp) (L D n i v : Nat) (hs : xS h L = some (7, 0)) (hD : xP h 701 L = some D) (hd : xS h D = some (10, n)) (k : Nat) (hk : xF h 702 L = nI k) (hik : i < k) (hkn : k ≤ n) (hn : n < 2 ^ 31) (hv : xB h D i = some v) (x : Nat) (hx : isE h x) : CT g l iJx4a65c_set_bcc79 3 [.ref L, .int (nI i), .ref x] h 0 0 (pRet (some (.ref v)) (yB h D i (some x))) := by
  refine ct_mk hfl (by decide) (Nat.le_of_ble_eq_true rfl) (by intro v hv; simp only [List.mem_cons, List.not_mem_nil, or_false] at hv; rcases hv with rfl | rfl | rfl <;> rfl) (fun V X M => ?_)
  have Mm := M.m
  show V 0 [some (.ref L), some (.int (nI i)), some (.ref x), none] [] _ 0 0
  refine r_iload_n Mm dJx4a65c_set_bcc79_0 rfl ?_
  refine r_aload_n Mm dJx4a65c_set_bcc79_1 rfl ?_
  refine r_getI Mm dJx4a65c_set_bcc79_2 fi_Jx4a65c_48 (hs) rfl (i := 702) rfl ?_
  refine r_top _ (nI k) (hk) ?_
  refine r_callS (As := [(.int (nI i)), (.int (nI k))]) Mm dJx4a65c_set_bcc79_5 rfl (ct_oci hfl h i k hik (by omega)) cw_Jx4a65c_118 ⟨Nat.le_of_ble_eq_true rfl, Nat.le_of_ble_eq_true rfl, Nat.le_of_ble_eq_true rfl⟩ (Nat.le_of_ble_eq_true rfl) ⟨Nat.le_of_ble_eq_true rfl, Nat.le_of_ble_eq_true rfl⟩ (fun r1 h2 p3 => ?_) (fun Er1 h2 p3 => False.elim p3)
  obtain ⟨rfl, rfl⟩ := p3
  show V 8 _ [(.int (nI i))] _ _ _
  refine r_pop Mm dJx4a65c_set_bcc79_8 rfl ?_
  refine r_aload_n Mm dJx4a65c_set_bcc79_9 rfl ?_
  refine r_iload_n Mm dJx4a65c_set_bcc79_10 rfl ?_
  refine r_callV (As := [(.int (nI i))]) Mm dJx4a65c_set_bcc79_11 rfl (ct_elementData hfl h L D n i v hs hD hd (by omega) hn hv) (hs) rfl cw_Jx4a65c_123 ⟨Nat.le_of_ble_eq_true rfl, Nat.le_of_ble_eq_true rfl, Nat.le_of_ble_eq_true rfl⟩ (Nat.le_of_ble_eq_true rfl) ⟨Nat.le_of_ble_eq_true rfl, Nat.le_of_ble_eq_true rfl⟩ (fun r4 h5 p6 => ?_) (fun Er4 h5 p6 => False.elim p6)
  obtain ⟨rfl, rfl⟩ := p6
  show V 14 _ [(.ref v)] _ _ _
  refine r_astore_n Mm dJx4a65c_set_bcc79_14 (by decide) ?_
  show V 15 [some (.ref L), some (.int (nI i)), some (.ref x), some (.ref v)] _ _ _ _
  refine r_aload_n Mm dJx4a65c_set_bcc79_15 rfl ?_
  refine r_getR Mm dJx4a65c_set_bcc79_16 fi_Jx4a65c_9 (hs) rfl (i := 701) rfl (hD) ?_
  refine r_iload_n Mm dJx4a65c_set_bcc79_19 rfl ?_
  refine r_aload_n Mm dJx4a65c_set_bcc79_20 rfl ?_
  refine r_aastE Mm dJx4a65c_set_bcc79_21 (hd) (by omega) (by omega) (hx) ?_
  refine r_aload_n Mm dJx4a65c_set_bcc79_22 rfl ?_
  refine r_aret M dJx4a65c_set_bcc79_23 (Or.inl ⟨_, rfl⟩) ?_
  exact ⟨rfl, rfl⟩
set_option maxRecDepth 100000 in
set_option maxHeartbeats 4000000 in
theorem ct_newLength {g : Gl} {l : Launch} (hfl : l.stackTraces = false) (h : Hp) (a b k : Nat) (ha : a < 2000) (hb : b < 2000) (hk : k < 2000) (hp : 0 < a + max b k) : CT g l iJ8_newLength_cabcc 2 [.int (nI a), .int (nI b), .int (nI k)] h 0 0 (pRet (some (.int (nI (a + max b k)))) h) := by
  refine ct_mk hfl (by decide) (Nat.le_of_ble_eq_true rfl) (by intro v hv; simp only [List.mem_cons, List.not_mem_nil, or_false] at hv; rcases hv with rfl | rfl | rfl <;> rfl) (fun V X M => ?_)
  have Mm := M.m
  show V 0 [some (.int (nI a)), some (.int (nI b)), some (.int (nI k)), none] [] _ 0 0
  refine r_iload_n Mm dJ8_newLength_cabcc_0 rfl ?_
  refine r_iload_n Mm dJ8_newLength_cabcc_1 rfl ?_
  refine r_iload_n Mm dJ8_newLength_cabcc_2 rfl ?_
  refine r_max Mm dJ8_newLength_cabcc_3 cm_J8_194 cms_max cmi cmc_max (Nat.le_of_ble_eq_true rfl) (Nat.le_of_ble_eq_true rfl) ?_
  refine r_top _ (nI (max b k)) (maxN (by omega) (by omega)) ?_
  refine r_iaddN Mm dJ8_newLength_cabcc_6 ?_
  refine r_istore_n Mm dJ8_newLength_cabcc_7 (by decide) ?_
  show V 8 [some (.int (nI a)), some (.int (nI b)), some (.int (nI k)), some (.int (nI (a + (max b k))))] _ _ _ _
  refine r_iconst (v := nI 0) Mm dJ8_newLength_cabcc_8 (by decide) ?_
  refine r_iload_n Mm dJ8_newLength_cabcc_9 rfl ?_
  refine r_icmp_geN (tgt := 21) Mm dJ8_newLength_cabcc_10 (by decide) (by omega) (by omega) (fun c1 => ?_) (fun c1 => ?_)
  · exact absurd c1 (by omega)
  · refine r_iload_n Mm dJ8_newLength_cabcc_13 rfl ?_
    refine r_ldc (v := nI 2147483639) Mm dJ8_newLength_cabcc_14 (by rw [show nI 2147483639 = 2147483639 from rfl]; exact cc_J8_200) ?_
    refine r_icmp_gtN (tgt := 21) Mm dJ8_newLength_cabcc_16 (by decide) (by omega) (by omega) (fun c2 => ?_) (fun c2 => ?_)
    · exact absurd c2 (by omega)
    · refine r_iload_n Mm dJ8_newLength_cabcc_19 rfl ?_
      refine r_iret M dJ8_newLength_cabcc_20 ?_
      exact ⟨rfl, rfl⟩
set_option maxRecDepth 100000 in
set_option maxHeartbeats 4000000 in
theorem ct_copyOf3 {g : Gl} {l : Launch} (hfl : l.stackTraces = false) (h : Hp) (D n m : Nat) (hd : xS h D = some (10, n)) (hnm : n ≤ m) (hm : m < 100000) (hel : ∀ i : Nat, i < n → ∀ y : Nat, xB h D i = some y → isE h y) : CT g l iJ7_copyOf_6403c 2 [.ref D, .int (nI m), .ref (gN g 3)] h 1 m (pRel (fun r h' => ∃ q : Nat, xS h q = none ∧ r = some (.ref q) ∧ h' = (yC (yN h q 10 m) q (va_cpy (xB (yN h q 10 m) D) (xB (yN h q 10 m) q) 0 0 n)))) := by
  refine ct_mk hfl (by decide) (Nat.le_of_ble_eq_true rfl) (by intro v hv; simp only [List.mem_cons, List.not_mem_nil, or_false] at hv; rcases hv with rfl | rfl | rfl <;> rfl) (fun V X M => ?_)
  have Mm := M.m
  show V 0 [some (.ref D), some (.int (nI m)), some (.ref (gN g 3)), none] [] _ 0 0
  refine r_aload_n Mm dJ7_copyOf_6403c_0 rfl ?_
  refine r_ldcM Mm dJ7_copyOf_6403c_1 cl_J7_110 ?_
  refine r_acmp_ne (tgt := 13) Mm dJ7_copyOf_6403c_3 (by decide) (fun c1 => ?_) (fun c1 => ?_)
  · exact absurd rfl c1
  · refine r_iload_n Mm dJ7_copyOf_6403c_6 rfl ?_
    refine r_newO (N := m) Mm dJ7_copyOf_6403c_7 cl_J7_2 (nI_pos (by omega)) (nI_clamp (by omega)) (by omega) ⟨(by first | exact Nat.le_of_ble_eq_true rfl | (show 0 + m ≤ m; omega)), (by first | exact Nat.le_of_ble_eq_true rfl | (show 0 + m ≤ m; omega))⟩ (fun q2 hq2 => ?_)
    refine r_goto (tgt := 24) Mm dJ7_copyOf_6403c_10 (by decide) ?_
    refine r_astore_n Mm dJ7_copyOf_6403c_24 (by decide) ?_
    show V 25 [some (.ref D), some (.int (nI m)), some (.ref (gN g 3)), some (.ref q2)] _ _ _ _
    refine r_aload_n Mm dJ7_copyOf_6403c_25 rfl ?_
    refine r_iconst (v := nI 0) Mm dJ7_copyOf_6403c_26 (by decide) ?_
    refine r_aload_n Mm dJ7_copyOf_6403c_27 rfl ?_
    refine r_iconst (v := nI 0) Mm dJ7_copyOf_6403c_28 (by decide) ?_
    refine r_aload_n Mm dJ7_copyOf_6403c_29 rfl ?_
    refine r_alenO Mm dJ7_copyOf_6403c_30 (yN_S hq2 (hd)) ?_
    refine r_iload_n Mm dJ7_copyOf_6403c_31 rfl ?_
    refine r_min Mm dJ7_copyOf_6403c_32 cm_J7_304 cms_min cmi cmc_min (Nat.le_of_ble_eq_true rfl) (Nat.le_of_ble_eq_true rfl) ?_
    refine r_top _ (nI n) (if_neg (nI_nlt hnm (by omega))) ?_
    refine r_copyN (sp := 0) (dp := 0) (n := n) Mm dJ7_copyOf_6403c_35 (yN_S hq2 (hd)) (yN_q) cy_J7_150 cyn cys cyi ⟨by omega, by omega⟩ (by omega) (by omega) (Nat.le_of_ble_eq_true rfl) (Nat.le_of_ble_eq_true rfl) ?_ ?_
    · intro i hi y hy
      rw [Nat.zero_add] at hy
      have hne : D ≠ q2 := fun e => by rw [e, hq2] at hd; cases hd
      have hy2 : xB h D i = some y := by rw [← hy]; show _ = (if D = q2 then none else xB h D i); rw [if_neg hne]
      exact isE.fr (Wr := fun _ => False) (Fr.yN hq2) (hel i hi y hy2)
    refine r_aload_n Mm dJ7_copyOf_6403c_38 rfl ?_
    refine r_aret M dJ7_copyOf_6403c_39 (Or.inr ⟨_, rfl⟩) ?_
    exact ⟨q2, hq2, rfl, rfl⟩
set_option maxRecDepth 100000 in
set_option maxHeartbeats 4000000 in
theorem ct_copyOf2 {g : Gl} {l : Launch} (hfl : l.stackTraces = false) (h : Hp) (D n m : Nat) (hd : xS h D = some (10, n)) (hnm : n ≤ m) (hm : m < 100000) (hel : ∀ i : Nat, i < n → ∀ y : Nat, xB h D i = some y → isE h y) : CT g l iJ7_copyOf_1904c 3 [.ref D, .int (nI m)] h 1 m (pRel (fun r h' => ∃ q : Nat, xS h q = none ∧ r = some (.ref q) ∧ h' = (yC (yN h q 10 m) q (va_cpy (xB (yN h q 10 m) D) (xB (yN h q 10 m) q) 0 0 n)))) := by
  refine ct_mk hfl (by decide) (Nat.le_of_ble_eq_true rfl) (by intro v hv; simp only [List.mem_cons, List.not_mem_nil, or_false] at hv; rcases hv with rfl | rfl <;> rfl) (fun V X M => ?_)
  have Mm := M.m
  show V 0 [some (.ref D), some (.int (nI m))] [] _ 0 0
  refine r_aload_n Mm dJ7_copyOf_1904c_0 rfl ?_
  refine r_iload_n Mm dJ7_copyOf_1904c_1 rfl ?_
  refine r_aload_n Mm dJ7_copyOf_1904c_2 rfl ?_
  refine r_getC Mm dJ7_copyOf_1904c_3 (hd) cg_J7_86 cgs cgi cgn (Nat.le_of_ble_eq_true rfl) (Nat.le_of_ble_eq_true rfl) ?_
  refine r_callS (As := [(.ref D), (.int (nI m)), (.ref (gN g 3))]) Mm dJ7_copyOf_1904c_6 rfl (ct_copyOf3 hfl h D n m hd hnm hm hel) cw_J7_300 ⟨Nat.le_of_ble_eq_true rfl, Nat.le_of_ble_eq_true rfl, Nat.le_of_ble_eq_true rfl⟩ (Nat.le_of_ble_eq_true rfl) ⟨(by first | exact Nat.le_of_ble_eq_true rfl | (show 0 + m ≤ m; omega)), (by first | exact Nat.le_of_ble_eq_true rfl | (show 0 + m ≤ m; omega))⟩ (fun r1 h2 p3 => ?_) (fun Er1 h2 p3 => False.elim p3)
  obtain ⟨q, hq, rfl, rfl⟩ := p3
  show V 9 _ [(.ref q)] _ _ _
  refine r_aret M dJ7_copyOf_1904c_9 (Or.inr ⟨_, rfl⟩) ?_
  exact ⟨q, hq, rfl, rfl⟩
set_option maxRecDepth 100000 in
set_option maxHeartbeats 4000000 in
theorem ct_growE {g : Gl} {l : Launch} (hfl : l.stackTraces = false) (h : Hp) (L k : Nat) (hs : xS h L = some (7, 0)) (hE : xP h 701 L = some (gN g 2)) (hk : k ≤ 10) : CT g l iJx4a65c_grow_92f84 4 [.ref L, .int (nI k)] h 1 10 (pRel (fun r h' => ∃ q : Nat, xS h q = none ∧ r = some (.ref q) ∧ h' = yP (yN h q 10 10) 701 L (some q))) := by
  refine ct_mk hfl (by decide) (Nat.le_of_ble_eq_true rfl) (by intro v hv; simp only [List.mem_cons, List.not_mem_nil, or_false] at hv; rcases hv with rfl | rfl <;> rfl) (fun V X M => ?_)
  have Mm := M.m
  show V 0 [some (.ref L), some (.int (nI k)), none, none] [] _ 0 0
  refine r_aload_n Mm dJx4a65c_grow_92f84_0 rfl ?_
  refine r_getR Mm dJx4a65c_grow_92f84_1 fi_Jx4a65c_9 (hs) rfl (i := 701) rfl (hE) ?_
  refine r_alenD Mm dJx4a65c_grow_92f84_4 ?_
  refine r_istore_n Mm dJx4a65c_grow_92f84_5 (by decide) ?_
  show V 6 [some (.ref L), some (.int (nI k)), some (.int (nI 0)), none] _ _ _ _
  refine r_iload_n Mm dJx4a65c_grow_92f84_6 rfl ?_
  refine r_if_gt (tgt := 20) Mm dJx4a65c_grow_92f84_7 (by decide) (fun c1 => absurd c1 (by decide)) (fun _ => ?_)
  refine r_aload_n Mm dJx4a65c_grow_92f84_10 rfl ?_
  refine r_getR Mm dJx4a65c_grow_92f84_11 fi_Jx4a65c_9 (hs) rfl (i := 701) rfl (hE) ?_
  refine r_getsD Mm dJx4a65c_grow_92f84_14 fs_Jx4a65c_39 ?_
  refine r_acmp_eq (tgt := 45) Mm dJx4a65c_grow_92f84_17 (by decide) (fun c2 => ?_) (fun c2 => ?_)
  · refine r_aload_n Mm dJx4a65c_grow_92f84_45 rfl ?_
    refine r_bipush (v := nI 10) Mm dJx4a65c_grow_92f84_46 (by decide) ?_
    refine r_iload_n Mm dJx4a65c_grow_92f84_48 rfl ?_
    refine r_max Mm dJx4a65c_grow_92f84_49 cm_Jx4a65c_79 cms_max cmi cmc_max (Nat.le_of_ble_eq_true rfl) (Nat.le_of_ble_eq_true rfl) ?_
    refine r_top _ (nI 10) (if_neg (nI_nlt hk (by decide))) ?_
    refine r_newO (N := 10) Mm dJx4a65c_grow_92f84_52 cl_Jx4a65c_7 (nI_pos (by omega)) (nI_clamp (by omega)) (by omega) ⟨Nat.le_of_ble_eq_true rfl, Nat.le_of_ble_eq_true rfl⟩ (fun q3 hq3 => ?_)
    refine r_dup_x1 Mm dJx4a65c_grow_92f84_55 rfl rfl ?_
    refine r_putR (v := some q3) (ty := .array (.object "java/lang/Object")) Mm dJx4a65c_grow_92f84_56 fi_Jx4a65c_9 ki_7 rfl (yN_S hq3 (hs)) rfl (i := 701) rfl rfl (by decide +kernel) rfl rfl ?_
    refine r_aret M dJx4a65c_grow_92f84_59 (Or.inr ⟨_, rfl⟩) ?_
    exact ⟨q3, hq3, rfl, rfl⟩
  · exact absurd rfl c2
set_option maxRecDepth 100000 in
set_option maxHeartbeats 4000000 in
theorem ct_growE0 {g : Gl} {l : Launch} (hfl : l.stackTraces = false) (h : Hp) (L k : Nat) (hkk : xF h 702 L = nI k) (hs : xS h L = some (7, 0)) (hE : xP h 701 L = some (gN g 2)) (hk : k + 1 ≤ 10) : CT g l iJx4a65c_grow_d5877 5 [.ref L] h 1 10 (pRel (fun r h' => ∃ q : Nat, xS h q = none ∧ r = some (.ref q) ∧ h' = yP (yN h q 10 10) 701 L (some q))) := by
  refine ct_mk hfl (by decide) (Nat.le_of_ble_eq_true rfl) (by intro v hv; simp only [List.mem_cons, List.not_mem_nil, or_false] at hv; rcases hv with rfl <;> rfl) (fun V X M => ?_)
  have Mm := M.m
  show V 0 [some (.ref L)] [] _ 0 0
  refine r_aload_n Mm dJx4a65c_grow_d5877_0 rfl ?_
  refine r_aload_n Mm dJx4a65c_grow_d5877_1 rfl ?_
  refine r_getI Mm dJx4a65c_grow_d5877_2 fi_Jx4a65c_48 (hs) rfl (i := 702) rfl ?_
  refine r_top _ (nI k) (hkk) ?_
  refine r_iconst (v := nI 1) Mm dJx4a65c_grow_d5877_5 (by decide) ?_
  refine r_iaddN Mm dJx4a65c_grow_d5877_6 ?_
  refine r_callV (As := [(.int (nI (k + 1)))]) Mm dJx4a65c_grow_d5877_7 rfl (ct_growE hfl h L (k + 1) hs hE hk) (hs) rfl cw_Jx4a65c_69 ⟨Nat.le_of_ble_eq_true rfl, Nat.le_of_ble_eq_true rfl, Nat.le_of_ble_eq_true rfl⟩ (Nat.le_of_ble_eq_true rfl) ⟨Nat.le_of_ble_eq_true rfl, Nat.le_of_ble_eq_true rfl⟩ (fun r1 h2 p3 => ?_) (fun Er1 h2 p3 => False.elim p3)
  obtain ⟨q, hq, rfl, rfl⟩ := p3
  show V 10 _ [(.ref q)] _ _ _
  refine r_aret M dJx4a65c_grow_d5877_10 (Or.inr ⟨_, rfl⟩) ?_
  exact ⟨q, hq, rfl, rfl⟩
set_option maxRecDepth 100000 in
set_option maxHeartbeats 4000000 in
theorem ct_growN {g : Gl} {l : Launch} (hfl : l.stackTraces = false) (h : Hp) (L D n : Nat) (hs : xS h L = some (7, 0)) (hD : xP h 701 L = some D) (hd : xS h D = some (10, n)) (h2 : 2 ≤ n) (hn : n < 1000) (hel : ∀ i : Nat, i < n → ∀ y : Nat, xB h D i = some y → isE h y) : CT g l iJx4a65c_grow_92f84 4 [.ref L, .int (nI (n + 1))] h 1 (n + n / 2) (pRel (fun r h' => ∃ q : Nat, xS h q = none ∧ r = some (.ref q) ∧ h' = yP (yC (yN h q 10 (n + n / 2)) q (va_cpy (xB (yN h q 10 (n + n / 2)) D) (xB (yN h q 10 (n + n / 2)) q) 0 0 n)) 701 L (some q))) := by
  refine ct_mk hfl (by decide) (Nat.le_of_ble_eq_true rfl) (by intro v hv; simp only [List.mem_cons, List.not_mem_nil, or_false] at hv; rcases hv with rfl | rfl <;> rfl) (fun V X M => ?_)
  have Mm := M.m
  show V 0 [some (.ref L), some (.int (nI (n + 1))), none, none] [] _ 0 0
  refine r_aload_n Mm dJx4a65c_grow_92f84_0 rfl ?_
  refine r_getR Mm dJx4a65c_grow_92f84_1 fi_Jx4a65c_9 (hs) rfl (i := 701) rfl (hD) ?_
  refine r_alenO Mm dJx4a65c_grow_92f84_4 (hd) ?_
  refine r_istore_n Mm dJx4a65c_grow_92f84_5 (by decide) ?_
  show V 6 [some (.ref L), some (.int (nI (n + 1))), some (.int (nI n)), none] _ _ _ _
  refine r_iload_n Mm dJx4a65c_grow_92f84_6 rfl ?_
  refine r_if_gtN (tgt := 20) Mm dJx4a65c_grow_92f84_7 (by decide) (by omega) (fun c1 => ?_) (fun c1 => ?_)
  · refine r_iload_n Mm dJx4a65c_grow_92f84_20 rfl ?_
    refine r_iload_n Mm dJx4a65c_grow_92f84_21 rfl ?_
    refine r_iload_n Mm dJx4a65c_grow_92f84_22 rfl ?_
    refine r_isubN Mm dJx4a65c_grow_92f84_23 (by omega) ?_
    refine r_top _ (nI 1) (by congr 1; omega) ?_
    refine r_iload_n Mm dJx4a65c_grow_92f84_24 rfl ?_
    refine r_iconst (v := nI 1) Mm dJx4a65c_grow_92f84_25 (by decide) ?_
    refine r_ishr Mm dJx4a65c_grow_92f84_26 ?_
    refine r_top _ (nI (n / 2)) (by have k := pk_shrN (n := n) (by omega) (nI 1 &&& 31) 1 (by decide); rw [Nat.pow_one] at k; exact k) ?_
    refine r_callS (As := [(.int (nI n)), (.int (nI 1)), (.int (nI (n / 2)))]) Mm dJx4a65c_grow_92f84_27 rfl (ct_newLength hfl h n 1 (n / 2) (by omega) (by omega) (by omega) (by omega)) cw_Jx4a65c_73 ⟨Nat.le_of_ble_eq_true rfl, Nat.le_of_ble_eq_true rfl, Nat.le_of_ble_eq_true rfl⟩ (Nat.le_of_ble_eq_true rfl) ⟨(by first | exact Nat.le_of_ble_eq_true rfl | (show 0 + (n + n / 2) ≤ (n + n / 2); omega) | (show 0 + 0 + (n + n / 2) ≤ (n + n / 2); omega) | (show 0 + 0 + 0 ≤ (n + n / 2); omega) | (show 0 + 0 ≤ (n + n / 2); omega)), (by first | exact Nat.le_of_ble_eq_true rfl | (show 0 + (n + n / 2) ≤ (n + n / 2); omega) | (show 0 + 0 + (n + n / 2) ≤ (n + n / 2); omega) | (show 0 + 0 + 0 ≤ (n + n / 2); omega) | (show 0 + 0 ≤ (n + n / 2); omega))⟩ (fun r2 h3 p4 => ?_) (fun Er2 h3 p4 => False.elim p4)
    obtain ⟨rfl, rfl⟩ := p4
    show V 30 _ [(.int (nI (n + max 1 (n / 2))))] _ _ _
    refine r_top _ (nI (n + n / 2)) (by congr 1; omega) ?_
    refine r_istore_n Mm dJx4a65c_grow_92f84_30 (by decide) ?_
    show V 31 [some (.ref L), some (.int (nI (n + 1))), some (.int (nI n)), some (.int (nI (n + n / 2)))] _ _ _ _
    refine r_aload_n Mm dJx4a65c_grow_92f84_31 rfl ?_
    refine r_aload_n Mm dJx4a65c_grow_92f84_32 rfl ?_
    refine r_getR Mm dJx4a65c_grow_92f84_33 fi_Jx4a65c_9 (hs) rfl (i := 701) rfl (hD) ?_
    refine r_iload_n Mm dJx4a65c_grow_92f84_36 rfl ?_
    refine r_callS (As := [(.ref D), (.int (nI (n + n / 2)))]) Mm dJx4a65c_grow_92f84_37 rfl (ct_copyOf2 hfl h D n (n + n / 2) hd (by omega) (by omega) hel) cw_Jx4a65c_66 ⟨Nat.le_of_ble_eq_true rfl, Nat.le_of_ble_eq_true rfl, Nat.le_of_ble_eq_true rfl⟩ (Nat.le_of_ble_eq_true rfl) ⟨(by first | exact Nat.le_of_ble_eq_true rfl | (show 0 + (n + n / 2) ≤ (n + n / 2); omega) | (show 0 + 0 + (n + n / 2) ≤ (n + n / 2); omega) | (show 0 + 0 + 0 ≤ (n + n / 2); omega) | (show 0 + 0 ≤ (n + n / 2); omega)), (by first | exact Nat.le_of_ble_eq_true rfl | (show 0 + (n + n / 2) ≤ (n + n / 2); omega) | (show 0 + 0 + (n + n / 2) ≤ (n + n / 2); omega) | (show 0 + 0 + 0 ≤ (n + n / 2); omega) | (show 0 + 0 ≤ (n + n / 2); omega))⟩ (fun r5 h6 p7 => ?_) (fun Er5 h6 p7 => False.elim p7)
    obtain ⟨q, hq, rfl, rfl⟩ := p7
    show V 40 _ [(.ref q), (.ref L)] _ _ _
    refine r_dup_x1 Mm dJx4a65c_grow_92f84_40 rfl rfl ?_
    refine r_putR (v := some q) (ty := .array (.object "java/lang/Object")) Mm dJx4a65c_grow_92f84_41 fi_Jx4a65c_9 ki_7 rfl ((Fr.tr (Fr.yN hq) (Fr.yC (Wr := fun b => b = q) rfl)).S hs) rfl (i := 701) rfl rfl (by decide +kernel) rfl rfl ?_
    refine r_aret M dJx4a65c_grow_92f84_44 (Or.inr ⟨_, rfl⟩) ?_
    exact ⟨q, hq, rfl, rfl⟩
  · exact absurd c1 (by omega)
set_option maxRecDepth 100000 in
set_option maxHeartbeats 4000000 in
theorem ct_growN0 {g : Gl} {l : Launch} (hfl : l.stackTraces = false) (h : Hp) (L D n : Nat) (hs : xS h L = some (7, 0)) (hD : xP h 701 L = some D) (hd : xS h D = some (10, n)) (h2 : 2 ≤ n) (hn : n < 1000) (hel : ∀ i : Nat, i < n → ∀ y : Nat, xB h D i = some y → isE h y) (hnn : xF h 702 L = nI n) : CT g l iJx4a65c_grow_d5877 5 [.ref L] h 1 (n + n / 2) (pRel (fun r h' => ∃ q : Nat, xS h q = none ∧ r = some (.ref q) ∧ h' = yP (yC (yN h q 10 (n + n / 2)) q (va_cpy (xB (yN h q 10 (n + n / 2)) D) (xB (yN h q 10 (n + n / 2)) q) 0 0 n)) 701 L (some q))) := by
  refine ct_mk hfl (by decide) (Nat.le_of_ble_eq_true rfl) (by intro v hv; simp only [List.mem_cons, List.not_mem_nil, or_false] at hv; rcases hv with rfl <;> rfl) (fun V X M => ?_)
  have Mm := M.m
  show V 0 [some (.ref L)] [] _ 0 0
  refine r_aload_n Mm dJx4a65c_grow_d5877_0 rfl ?_
  refine r_aload_n Mm dJx4a65c_grow_d5877_1 rfl ?_
  refine r_getI Mm dJx4a65c_grow_d5877_2 fi_Jx4a65c_48 (hs) rfl (i := 702) rfl ?_
  refine r_top _ (nI n) (hnn) ?_
  refine r_iconst (v := nI 1) Mm dJx4a65c_grow_d5877_5 (by decide) ?_
  refine r_iaddN Mm dJx4a65c_grow_d5877_6 ?_
  refine r_callV (As := [(.int (nI (n + 1)))]) Mm dJx4a65c_grow_d5877_7 rfl (ct_growN hfl h L D n hs hD hd h2 hn hel) (hs) rfl cw_Jx4a65c_69 ⟨Nat.le_of_ble_eq_true rfl, Nat.le_of_ble_eq_true rfl, Nat.le_of_ble_eq_true rfl⟩ (Nat.le_of_ble_eq_true rfl) ⟨(by first | exact Nat.le_of_ble_eq_true rfl | (show 0 + (n + n / 2) ≤ (n + n / 2); omega)), (by first | exact Nat.le_of_ble_eq_true rfl | (show 0 + (n + n / 2) ≤ (n + n / 2); omega))⟩ (fun r1 h2 p3 => ?_) (fun Er1 h2 p3 => False.elim p3)
  obtain ⟨q, hq, rfl, rfl⟩ := p3
  show V 10 _ [(.ref q)] _ _ _
  refine r_aret M dJx4a65c_grow_d5877_10 (Or.inr ⟨_, rfl⟩) ?_
  exact ⟨q, hq, rfl, rfl⟩
