/-! ===== the lists of the library: what changes them ===== -/
def LiP (E : Nat) (h : Hp) (L : Nat) (h' : Hp) (xs : List Nat) : Prop := IsL E h' L xs ∧ Fr (fun b => b = L ∨ xP h 701 L = some b) h h' ∧ (xP h' 701 L = xP h 701 L ∨ ∃ q : Nat, xP h' 701 L = some q ∧ xS h q = none)
theorem ne_S {h : Hp} {a b : Nat} {y z : Nat × Nat} (ha : xS h a = some y) (hb : xS h b = some z) (hn : y ≠ z) : a ≠ b := fun e => hn (by rw [e, hb] at ha; exact (Option.some.inj ha).symm)
theorem va_cpy_in {f g : Nat → Option Nat} {sp dp n j : Nat} (h1 : dp ≤ j) (h2 : j < dp + n) : va_cpy f g sp dp n j = f (sp + (j - dp)) := pk_cpy_in h1 h2
theorem va_cpy_out {f g : Nat → Option Nat} {sp dp n j : Nat} (h1 : j < dp ∨ dp + n ≤ j) : va_cpy f g sp dp n j = g j := pk_cpy_out h1
theorem yC_s (h : Hp) (a : Nat) (f : Nat → Option Nat) : xB (yC h a f) a = f := by show u1 _ _ _ a = f; simp [u1]
theorem yN_B {h : Hp} {q kd n b : Nat} {z : Nat × Nat} (hq : xS h q = none) (hz : xS h b = some z) : xB (yN h q kd n) b = xB h b := by
  have hb : b ≠ q := fun e => by rw [e, hq] at hz; cases hz
  funext i
  show (if b = q then none else xB h b i) = _
  rw [if_neg hb]
theorem isE.at {E : Nat} {h : Hp} {L : Nat} {xs : List Nat} (hL : IsL E h L xs) {i v : Nat} (hi : xs[i]? = some v) : isE h v := hL.2.2.2.1 v (List.mem_of_getElem? hi)
/-- an append where room is -/
theorem lp_addB {E : Nat} {h : Hp} {L D n v : Nat} {xs : List Nat} {m : Int32} (hs : xS h L = some (7, 0)) (hxs : ∀ v ∈ xs, isE h v) (hD : xP h 701 L = some D) (hd : xS h D = some (10, n)) (hl : xs.length < n) (h2 : 2 ≤ n) (hn : n < 1000) (hB : ∀ (i v : Nat), xs[i]? = some v → xB h D i = some v) (hv : isE h v) :
    LiP E h L (yF (yB (yF h 700 L m) D xs.length (some v)) 702 L (nI (xs.length + 1))) (xs ++ [v]) := by
  have hf : Fr (fun b => b = L ∨ xP h 701 L = some b) h (yF (yB (yF h 700 L m) D xs.length (some v)) 702 L (nI (xs.length + 1))) := Fr.tr (Fr.tr (Fr.yF (Or.inl rfl)) (Fr.yB (Or.inr hD))) (Fr.yF (Or.inl rfl))
  refine ⟨⟨hs, ?_, by simp; omega, fun w hw => ?_, Or.inr ⟨D, n, hD, hd, by simp; omega, h2, hn, fun i w hi => ?_⟩⟩, hf, Or.inl rfl⟩
  · rw [xF_yF, if_pos ⟨rfl, rfl⟩, List.length_append]; rfl
  · rcases List.mem_append.mp hw with z | z
    · exact (hxs w z).fr hf
    · rw [List.mem_singleton] at z; subst z; exact hv.fr hf
  · show (if D = D ∧ i = xs.length then some v else xB h D i) = some w
    by_cases hi2 : i = xs.length
    · subst hi2; rw [if_pos ⟨rfl, rfl⟩]; simpa using hi
    · rw [if_neg (fun z => hi2 z.2)]
      have hlt : i < (xs ++ [v]).length := (List.getElem?_eq_some_iff.mp hi).1
      rw [List.getElem?_append_left (by simp at hlt; omega)] at hi
      exact hB i w hi
theorem insertIdx_len {xs : List Nat} {i v : Nat} (hi : i ≤ xs.length) : (xs.insertIdx i v).length = xs.length + 1 := by rw [List.length_insertIdx, if_pos hi]
theorem insertIdx_get {xs : List Nat} {i v j : Nat} (hi : i ≤ xs.length) : (xs.insertIdx i v)[j]? = if j < i then xs[j]? else if j = i then some v else xs[j - 1]? := by
  rw [List.getElem?_insertIdx]
  by_cases h1 : j < i
  · simp [h1]
  · rw [if_neg h1, if_neg h1]
    by_cases h2 : j = i
    · simp [h2, hi]
    · simp [h2]
/-- an insertion into a row that has room -/
theorem lp_insB {E : Nat} {h h1 : Hp} {L D n v i : Nat} {xs : List Nat} (W0 : Nat → Prop) (hW : ∀ b, xS h b ≠ none → W0 b → b = L ∨ xP h 701 L = some b) (hfr : Fr W0 h h1) (hs : xS h1 L = some (7, 0)) (hxs : ∀ v ∈ xs, isE h v) (hD : xP h1 701 L = some D) (hDD : xP h 701 L = some D ∨ xS h D = none) (hd : xS h1 D = some (10, n)) (hl : xs.length < n) (h2 : 2 ≤ n) (hn : n < 1000) (hB : ∀ (i v : Nat), xs[i]? = some v → xB h1 D i = some v) (hv : isE h v) (hi : i ≤ xs.length) (hWD : xS h D ≠ none → W0 D) (hWL : W0 L) :
    LiP E h L (yF (yB (yC h1 D (va_cpy (xB h1 D) (xB h1 D) i (i + 1) (xs.length - i))) D i (some v)) 702 L (nI (xs.length + 1))) (xs.insertIdx i v) := by
  have hf1 : Fr (fun b => b = L ∨ b = D) h1 (yF (yB (yC h1 D (va_cpy (xB h1 D) (xB h1 D) i (i + 1) (xs.length - i))) D i (some v)) 702 L (nI (xs.length + 1))) := Fr.tr (Fr.tr (Fr.yC (Or.inr rfl)) (Fr.yB (Or.inr rfl))) (Fr.yF (Or.inl rfl))
  have hf : Fr (fun b => b = L ∨ xP h 701 L = some b) h (yF (yB (yC h1 D (va_cpy (xB h1 D) (xB h1 D) i (i + 1) (xs.length - i))) D i (some v)) 702 L (nI (xs.length + 1))) := by
    intro b z hz
    have a := (hfr.mono hW) b z hz
    have c := hf1 b z a.1
    refine ⟨c.1, fun hw => ?_⟩
    have hb : ¬ (b = L ∨ b = D) := by
      rintro (q | q)
      · exact hw (Or.inl q)
      · subst q
        exact hw (hW b (by rw [hz]; exact fun y => nomatch y) (hWD (by rw [hz]; exact fun y => nomatch y)))
    obtain ⟨a1, a2, a3, a4, a5⟩ := a.2 hw
    obtain ⟨c1, c2, c3, c4, c5⟩ := c.2 hb
    exact ⟨fun i => (c1 i).trans (a1 i), fun i => (c2 i).trans (a2 i), c3.trans a3, c4.trans a4, c5.trans a5⟩
  refine ⟨⟨hs, ?_, by rw [insertIdx_len hi]; omega, fun w hw => ?_, Or.inr ⟨D, n, hD, hd, by rw [insertIdx_len hi]; omega, h2, hn, fun j w hj => ?_⟩⟩, hf, ?_⟩
  · rw [insertIdx_len hi, xF_yF, if_pos ⟨rfl, rfl⟩]
  · rcases (List.mem_insertIdx hi).mp hw with z | z
    · subst z; exact hv.fr hf
    · exact (hxs w z).fr hf
  · show (if D = D ∧ j = i then some v else xB (yC h1 D (va_cpy (xB h1 D) (xB h1 D) i (i + 1) (xs.length - i))) D j) = some w
    rw [insertIdx_get hi] at hj
    rw [yC_s]
    by_cases h3 : j = i
    · subst h3
      rw [if_pos ⟨rfl, rfl⟩]
      simpa using hj
    · rw [if_neg (fun z => h3 z.2)]
      by_cases h4 : j < i
      · rw [if_pos h4] at hj
        rw [va_cpy_out (Or.inl (by omega))]
        exact hB j w hj
      · rw [if_neg h4, if_neg h3] at hj
        have hjl : j - 1 < xs.length := (List.getElem?_eq_some_iff.mp hj).1
        rw [va_cpy_in (by omega) (by omega), show i + (j - (i + 1)) = j - 1 by omega]
        exact hB (j - 1) w hj
  · rcases hDD with z | z
    · exact Or.inl (hD.trans z.symm)
    · exact Or.inr ⟨D, hD, z⟩
/-- a removal -/
theorem lp_rem {E : Nat} {h : Hp} {L D n i : Nat} {xs : List Nat} {m : Int32} (hs : xS h L = some (7, 0)) (hxs : ∀ v ∈ xs, isE h v) (hD : xP h 701 L = some D) (hd : xS h D = some (10, n)) (hl : xs.length ≤ n) (h2 : 2 ≤ n) (hn : n < 1000) (hB : ∀ (i v : Nat), xs[i]? = some v → xB h D i = some v) (hi : i < xs.length) (h1 : Hp) (e1 : h1 = yF h 700 L m ∨ h1 = yC (yF h 700 L m) D (va_cpy (xB (yF h 700 L m) D) (xB (yF h 700 L m) D) (i + 1) i (xs.length - 1 - i))) (e2 : i < xs.length - 1 → h1 = yC (yF h 700 L m) D (va_cpy (xB (yF h 700 L m) D) (xB (yF h 700 L m) D) (i + 1) i (xs.length - 1 - i))) :
    LiP E h L (yB (yF h1 702 L (nI (xs.length - 1))) D (xs.length - 1) none) (xs.eraseIdx i) := by
  have hf0 : Fr (fun b => b = L ∨ xP h 701 L = some b) h h1 ∧ xP h1 701 L = some D := by
    rcases e1 with rfl | rfl
    · exact ⟨Fr.yF (Or.inl rfl), hD⟩
    · exact ⟨Fr.tr (Fr.yF (Or.inl rfl)) (Fr.yC (Or.inr hD)), hD⟩
  have hf : Fr (fun b => b = L ∨ xP h 701 L = some b) h (yB (yF h1 702 L (nI (xs.length - 1))) D (xs.length - 1) none) := Fr.tr hf0.1 (Fr.tr (Fr.yF (Or.inl rfl)) (Fr.yB (Or.inr hD)))
  have hlen : (xs.eraseIdx i).length = xs.length - 1 := List.length_eraseIdx_of_lt hi
  refine ⟨⟨hf.S hs, ?_, by omega, fun w hw => ?_, Or.inr ⟨D, n, hf0.2, hf.S hd, by omega, h2, hn, fun j w hj => ?_⟩⟩, hf, Or.inl (hf0.2.trans hD.symm)⟩
  · show xF (yF h1 702 L (nI (xs.length - 1))) 702 L = _
    rw [xF_yF, if_pos ⟨rfl, rfl⟩, hlen]
  · exact (hxs w (List.mem_of_mem_eraseIdx hw)).fr hf
  · have hj2 : j < xs.length - 1 := by rw [← hlen]; exact (List.getElem?_eq_some_iff.mp hj).1
    rw [List.getElem?_eraseIdx] at hj
    show (if D = D ∧ j = xs.length - 1 then none else xB h1 D j) = some w
    rw [if_neg (fun z => by omega)]
    by_cases h3 : j < i
    · rw [if_pos h3] at hj
      rcases e1 with rfl | rfl
      · exact hB j w hj
      · rw [yC_s, va_cpy_out (Or.inl h3)]; exact hB j w hj
    · rw [if_neg h3] at hj
      rw [e2 (by omega), yC_s, va_cpy_in (by omega) (by omega), show i + 1 + (j - i) = j + 1 by omega]
      exact hB (j + 1) w hj
/-- a new row under a list, the old elements copied -/
theorem grown {h : Hp} {L D n q m : Nat} {mo : Int32} (hs : xS h L = some (7, 0)) (hd : xS h D = some (10, n)) (hq : xS h q = none) (i : Nat) (hi : i < n) : xB (yP (yC (yN (yF h 700 L mo) q 10 m) q (va_cpy (xB (yN (yF h 700 L mo) q 10 m) D) (xB (yN (yF h 700 L mo) q 10 m) q) 0 0 n)) 701 L (some q)) q i = xB h D i := by
  show xB (yC (yN (yF h 700 L mo) q 10 m) q (va_cpy (xB (yN (yF h 700 L mo) q 10 m) D) (xB (yN (yF h 700 L mo) q 10 m) q) 0 0 n)) q i = _
  rw [yC_s, va_cpy_in (Nat.zero_le _) (by omega), yN_B (h := yF h 700 L mo) hq hd]
  show xB h D (0 + (i - 0)) = _
  rw [Nat.zero_add, Nat.sub_zero]
set_option maxRecDepth 100000 in
set_option maxHeartbeats 4000000 in
theorem ct_add3B {g : Gl} {l : Launch} (hfl : l.stackTraces = false) (h : Hp) (L D n k v : Nat) (hs : xS h L = some (7, 0)) (hd : xS h D = some (10, n)) (hk : k < n) (hn : n < 1000) (hv : isE h v) : CT g l iJx4a65c_add_72be8 6 [.ref L, .ref v, .ref D, .int (nI k)] h 0 0 (pRet none (yF (yB h D k (some v)) 702 L (nI (k + 1)))) := by
  refine ct_mk hfl (by decide) (Nat.le_of_ble_eq_true rfl) (by intro v hv; simp only [List.mem_cons, List.not_mem_nil, or_false] at hv; rcases hv with rfl | rfl | rfl | rfl <;> rfl) (fun V X M => ?_)
  have Mm := M.m
  show V 0 [some (.ref L), some (.ref v), some (.ref D), some (.int (nI k))] [] _ 0 0
  refine r_iload_n Mm dJx4a65c_add_72be8_0 rfl ?_
  refine r_aload_n Mm dJx4a65c_add_72be8_1 rfl ?_
  refine r_alenO Mm dJx4a65c_add_72be8_2 (hd) ?_
  refine r_icmp_neN (tgt := 11) Mm dJx4a65c_add_72be8_3 (by decide) (by omega) (by omega) (fun c1 => ?_) (fun c1 => ?_)
  · refine r_aload_n Mm dJx4a65c_add_72be8_11 rfl ?_
    refine r_iload_n Mm dJx4a65c_add_72be8_12 rfl ?_
    refine r_aload_n Mm dJx4a65c_add_72be8_13 rfl ?_
    refine r_aastE Mm dJx4a65c_add_72be8_14 (hd) (by omega) (by omega) (hv) ?_
    refine r_aload_n Mm dJx4a65c_add_72be8_15 rfl ?_
    refine r_iload_n Mm dJx4a65c_add_72be8_16 rfl ?_
    refine r_iconst (v := nI 1) Mm dJx4a65c_add_72be8_17 (by decide) ?_
    refine r_iaddN Mm dJx4a65c_add_72be8_18 ?_
    refine r_putI (ty := .int) Mm dJx4a65c_add_72be8_19 fi_Jx4a65c_48 ki_7 rfl (hs) rfl (i := 702) rfl rfl (by decide +kernel) rfl rfl ?_
    refine r_vret M dJx4a65c_add_72be8_22 ?_
    exact ⟨rfl, rfl⟩
  · exact absurd c1 (by omega)
set_option maxRecDepth 100000 in
set_option maxHeartbeats 4000000 in
theorem ct_add3A {g : Gl} {l : Launch} (hfl : l.stackTraces = false) (h : Hp) (L v : Nat) (hs : xS h L = some (7, 0)) (hE : xP h 701 L = some (gN g 2)) (h0 : xF h 702 L = nI 0) (hv : isE h v) : CT g l iJx4a65c_add_72be8 6 [.ref L, .ref v, .ref (gN g 2), .int (nI 0)] h 1 10 (pRel (fun r h' => ∃ q : Nat, xS h q = none ∧ r = none ∧ h' = yF (yB (yP (yN h q 10 10) 701 L (some q)) q 0 (some v)) 702 L (nI (0 + 1)))) := by
  refine ct_mk hfl (by decide) (Nat.le_of_ble_eq_true rfl) (by intro v hv; simp only [List.mem_cons, List.not_mem_nil, or_false] at hv; rcases hv with rfl | rfl | rfl | rfl <;> rfl) (fun V X M => ?_)
  have Mm := M.m
  show V 0 [some (.ref L), some (.ref v), some (.ref (gN g 2)), some (.int (nI 0))] [] _ 0 0
  refine r_iload_n Mm dJx4a65c_add_72be8_0 rfl ?_
  refine r_aload_n Mm dJx4a65c_add_72be8_1 rfl ?_
  refine r_alenD Mm dJx4a65c_add_72be8_2 ?_
  refine r_icmp_neN (tgt := 11) Mm dJx4a65c_add_72be8_3 (by decide) (by omega) (by omega) (fun c1 => ?_) (fun c1 => ?_)
  · exact absurd c1 (by omega)
  · refine r_aload_n Mm dJx4a65c_add_72be8_6 rfl ?_
    refine r_callV (As := []) Mm dJx4a65c_add_72be8_7 rfl (ct_growE0 hfl h L 0 h0 hs hE (by decide)) (hs) rfl cw_Jx4a65c_129 ⟨Nat.le_of_ble_eq_true rfl, Nat.le_of_ble_eq_true rfl, Nat.le_of_ble_eq_true rfl⟩ (Nat.le_of_ble_eq_true rfl) ⟨Nat.le_of_ble_eq_true rfl, Nat.le_of_ble_eq_true rfl⟩ (fun r2 h3 p4 => ?_) (fun Er2 h3 p4 => False.elim p4)
    obtain ⟨q, hq, rfl, rfl⟩ := p4
    show V 10 _ [(.ref q)] _ _ _
    refine r_astore_n Mm dJx4a65c_add_72be8_10 (by decide) ?_
    show V 11 [some (.ref L), some (.ref v), some (.ref q), some (.int (nI 0))] _ _ _ _
    refine r_aload_n Mm dJx4a65c_add_72be8_11 rfl ?_
    refine r_iload_n Mm dJx4a65c_add_72be8_12 rfl ?_
    refine r_aload_n Mm dJx4a65c_add_72be8_13 rfl ?_
    refine r_aastE Mm dJx4a65c_add_72be8_14 (yN_q) (by omega) (by omega) (isE.fr (Wr := fun _ => True) (Fr.tr (Fr.yN hq) (Fr.yP trivial)) hv) ?_
    refine r_aload_n Mm dJx4a65c_add_72be8_15 rfl ?_
    refine r_iload_n Mm dJx4a65c_add_72be8_16 rfl ?_
    refine r_iconst (v := nI 1) Mm dJx4a65c_add_72be8_17 (by decide) ?_
    refine r_iaddN Mm dJx4a65c_add_72be8_18 ?_
    refine r_putI (ty := .int) Mm dJx4a65c_add_72be8_19 fi_Jx4a65c_48 ki_7 rfl (yN_S hq hs) rfl (i := 702) rfl rfl (by decide +kernel) rfl rfl ?_
    refine r_vret M dJx4a65c_add_72be8_22 ?_
    exact ⟨q, hq, rfl, rfl⟩
set_option maxRecDepth 100000 in
set_option maxHeartbeats 4000000 in
theorem ct_add3C {g : Gl} {l : Launch} (hfl : l.stackTraces = false) (h : Hp) (L D n : Nat) (hs : xS h L = some (7, 0)) (hD : xP h 701 L = some D) (hd : xS h D = some (10, n)) (h2 : 2 ≤ n) (hn : n < 1000) (hel : ∀ i : Nat, i < n → ∀ y : Nat, xB h D i = some y → isE h y) (v : Nat) (hnn : xF h 702 L = nI n) (hv : isE h v) : CT g l iJx4a65c_add_72be8 6 [.ref L, .ref v, .ref D, .int (nI n)] h 1 1500 (pRel (fun r h' => ∃ q : Nat, xS h q = none ∧ r = none ∧ h' = yF (yB (yP (yC (yN h q 10 (n + n / 2)) q (va_cpy (xB (yN h q 10 (n + n / 2)) D) (xB (yN h q 10 (n + n / 2)) q) 0 0 n)) 701 L (some q)) q n (some v)) 702 L (nI (n + 1)))) := by
  refine ct_mk hfl (by decide) (Nat.le_of_ble_eq_true rfl) (by intro v hv; simp only [List.mem_cons, List.not_mem_nil, or_false] at hv; rcases hv with rfl | rfl | rfl | rfl <;> rfl) (fun V X M => ?_)
  have Mm := M.m
  show V 0 [some (.ref L), some (.ref v), some (.ref D), some (.int (nI n))] [] _ 0 0
  refine r_iload_n Mm dJx4a65c_add_72be8_0 rfl ?_
  refine r_aload_n Mm dJx4a65c_add_72be8_1 rfl ?_
  refine r_alenO Mm dJx4a65c_add_72be8_2 (hd) ?_
  refine r_icmp_neN (tgt := 11) Mm dJx4a65c_add_72be8_3 (by decide) (by omega) (by omega) (fun c1 => ?_) (fun c1 => ?_)
  · exact absurd rfl c1
  · refine r_aload_n Mm dJx4a65c_add_72be8_6 rfl ?_
    refine r_callV (As := []) Mm dJx4a65c_add_72be8_7 rfl (ct_growN0 hfl h L D n hs hD hd h2 hn hel hnn) (hs) rfl cw_Jx4a65c_129 ⟨Nat.le_of_ble_eq_true rfl, Nat.le_of_ble_eq_true rfl, Nat.le_of_ble_eq_true rfl⟩ (Nat.le_of_ble_eq_true rfl) ⟨(by first | exact Nat.le_of_ble_eq_true rfl | (show _ ≤ 1500; omega)), (by first | exact Nat.le_of_ble_eq_true rfl | (show _ ≤ 1500; omega))⟩ (fun r2 h3 p4 => ?_) (fun Er2 h3 p4 => False.elim p4)
    obtain ⟨q, hq, rfl, rfl⟩ := p4
    show V 10 _ [(.ref q)] _ _ _
    refine r_astore_n Mm dJx4a65c_add_72be8_10 (by decide) ?_
    show V 11 [some (.ref L), some (.ref v), some (.ref q), some (.int (nI n))] _ _ _ _
    refine r_aload_n Mm dJx4a65c_add_72be8_11 rfl ?_
    refine r_iload_n Mm dJx4a65c_add_72be8_12 rfl ?_
    refine r_aload_n Mm dJx4a65c_add_72be8_13 rfl ?_
    refine r_aastE Mm dJx4a65c_add_72be8_14 (yN_q) (by omega) (by omega) (isE.fr (Wr := fun _ => True) (Fr.tr (Fr.yN hq) (Fr.tr (Fr.yC trivial) (Fr.yP trivial))) hv) ?_
    refine r_aload_n Mm dJx4a65c_add_72be8_15 rfl ?_
    refine r_iload_n Mm dJx4a65c_add_72be8_16 rfl ?_
    refine r_iconst (v := nI 1) Mm dJx4a65c_add_72be8_17 (by decide) ?_
    refine r_iaddN Mm dJx4a65c_add_72be8_18 ?_
    refine r_putI (ty := .int) Mm dJx4a65c_add_72be8_19 fi_Jx4a65c_48 ki_7 rfl (yN_S hq hs) rfl (i := 702) rfl rfl (by decide +kernel) rfl rfl ?_
    refine r_vret M dJx4a65c_add_72be8_22 ?_
    exact ⟨q, hq, rfl, rfl⟩
set_option maxRecDepth 100000 in
set_option maxHeartbeats 4000000 in
theorem ct_addB {g : Gl} {l : Launch} (hfl : l.stackTraces = false) (h : Hp) (L v : Nat) (xs : List Nat) (hL : IsL (gN g 2) h L xs) (hv : isE h v) (D n : Nat) (hD : xP h 701 L = some D) (hd : xS h D = some (10, n)) (hl : xs.length < n) (h2 : 2 ≤ n) (hn : n < 1000) (hB : ∀ (i v : Nat), xs[i]? = some v → xB h D i = some v) : CT g l iJx4a65c_add_9ea2d 7 [.ref L, .ref v] h 1 1500 (pRel (fun r h' => r = some (.int (nI 1)) ∧ LiP (gN g 2) h L h' (xs ++ [v]))) := by
  refine ct_mk hfl (by decide) (Nat.le_of_ble_eq_true rfl) (by intro v hv; simp only [List.mem_cons, List.not_mem_nil, or_false] at hv; rcases hv with rfl | rfl <;> rfl) (fun V X M => ?_)
  have Mm := M.m
  show V 0 [some (.ref L), some (.ref v)] [] _ 0 0
  refine r_aload_n Mm dJx4a65c_add_9ea2d_0 rfl ?_
  refine r_dup Mm dJx4a65c_add_9ea2d_1 rfl ?_
  refine r_getI Mm dJx4a65c_add_9ea2d_2 fi_Jx4a65c_63 (hL.1) rfl (i := 700) rfl ?_
  refine r_iconst (v := nI 1) Mm dJx4a65c_add_9ea2d_5 (by decide) ?_
  refine r_iadd Mm dJx4a65c_add_9ea2d_6 ?_
  refine r_putI (ty := .int) Mm dJx4a65c_add_9ea2d_7 fi_Jx4a65c_63 ki_7 rfl (hL.1) rfl (i := 700) rfl rfl (by decide +kernel) rfl rfl ?_
  refine r_aload_n Mm dJx4a65c_add_9ea2d_10 rfl ?_
  refine r_aload_n Mm dJx4a65c_add_9ea2d_11 rfl ?_
  refine r_aload_n Mm dJx4a65c_add_9ea2d_12 rfl ?_
  refine r_getR Mm dJx4a65c_add_9ea2d_13 fi_Jx4a65c_9 (hL.1) rfl (i := 701) rfl (hD) ?_
  refine r_aload_n Mm dJx4a65c_add_9ea2d_16 rfl ?_
  refine r_getI Mm dJx4a65c_add_9ea2d_17 fi_Jx4a65c_48 (hL.1) rfl (i := 702) rfl ?_
  refine r_top _ (nI (xs.length)) (hL.2.1) ?_
  refine r_callV (As := [(.ref v), (.ref D), (.int (nI (xs.length)))]) Mm dJx4a65c_add_9ea2d_20 rfl (ct_add3B hfl (yF h 700 L (xF h 700 L + nI 1)) L D n xs.length v hL.1 hd hl hn hv) (hL.1) rfl cw_Jx4a65c_131 ⟨Nat.le_of_ble_eq_true rfl, Nat.le_of_ble_eq_true rfl, Nat.le_of_ble_eq_true rfl⟩ (Nat.le_of_ble_eq_true rfl) ⟨Nat.le_of_ble_eq_true rfl, Nat.le_of_ble_eq_true rfl⟩ (fun r1 h2 p3 => ?_) (fun Er1 h2 p3 => False.elim p3)
  obtain ⟨rfl, rfl⟩ := p3
  show V 23 _ [] _ _ _
  refine r_iconst (v := nI 1) Mm dJx4a65c_add_9ea2d_23 (by decide) ?_
  refine r_zret M dJx4a65c_add_9ea2d_24 (by decide) ?_
  exact ⟨rfl, lp_addB hL.1 hL.2.2.2.1 hD hd hl h2 hn hB hv⟩
theorem lp_addA {h : Hp} {L E q v : Nat} {mo : Int32} (hs : xS h L = some (7, 0)) (hq : xS h q = none) (hv : isE h v) : LiP E h L (yF (yB (yP (yN (yF h 700 L mo) q 10 10) 701 L (some q)) q 0 (some v)) 702 L (nI (0 + 1))) ([] ++ [v]) := by
  have hf : Fr (fun b => b = L ∨ xP h 701 L = some b) h (yF (yB (yP (yN (yF h 700 L mo) q 10 10) 701 L (some q)) q 0 (some v)) 702 L (nI (0 + 1))) := by
    have h1 : Fr (fun b => b = L) h (yP (yN (yF h 700 L mo) q 10 10) 701 L (some q)) := Fr.tr (Fr.tr (Fr.yF rfl) (Fr.yN (h := yF h 700 L mo) hq)) (Fr.yP rfl)
    intro b z hz
    have hb : b ≠ q := fun e => by rw [e, hq] at hz; cases hz
    obtain ⟨a1, a2⟩ := h1 b z hz
    refine ⟨a1, fun hw => ?_⟩
    obtain ⟨b1, b2, b3, b4, b5⟩ := a2 (fun e => hw (Or.inl e))
    have hbL : b ≠ L := fun e => hw (Or.inl e)
    refine ⟨fun i => ?_, b2, b3, ?_, b5⟩
    · rw [xF_yF, if_neg (fun z => hbL z.2)]; exact b1 i
    · show xB (yB _ q 0 (some v)) b = _
      rw [show xB (yB (yP (yN (yF h 700 L mo) q 10 10) 701 L (some q)) q 0 (some v)) b = xB (yP (yN (yF h 700 L mo) q 10 10) 701 L (some q)) b from u2_row _ _ _ hb]
      exact b4
  refine ⟨⟨hf.S hs, ?_, (by show 1 < 1000; decide), fun w hw => ?_, Or.inr ⟨q, 10, ?_, yN_q, (by show 1 ≤ 10; decide), by decide, by decide, fun i w hi => ?_⟩⟩, hf, Or.inr ⟨q, ?_, hq⟩⟩
  · rw [xF_yF, if_pos ⟨rfl, rfl⟩]; rfl
  · rw [List.nil_append, List.mem_singleton] at hw; subst hw; exact hv.fr hf
  · exact u2_s _ _ _ _
  · have : i = 0 := by
      have := (List.getElem?_eq_some_iff.mp hi).1
      simp at this; omega
    subst this
    show (if q = q ∧ 0 = 0 then some v else _) = _
    rw [if_pos ⟨rfl, rfl⟩]; simpa using hi
  · exact u2_s _ _ _ _
/-- a list whose row is full, with a new row: as before, but for the row -/
theorem lp_grow {h : Hp} {L D q n : Nat} {xs : List Nat} {mo : Int32} (hs : xS h L = some (7, 0)) (hD : xP h 701 L = some D) (hd : xS h D = some (10, n)) (hq : xS h q = none) :
    Fr (fun b => b = L) h (yP (yC (yN (yF h 700 L mo) q 10 (n + n / 2)) q (va_cpy (xB (yN (yF h 700 L mo) q 10 (n + n / 2)) D) (xB (yN (yF h 700 L mo) q 10 (n + n / 2)) q) 0 0 n)) 701 L (some q)) := by
  intro b z hz
  have hb : b ≠ q := fun e => by rw [e, hq] at hz; cases hz
  have h1 : Fr (fun b => b = L) h (yP (yN (yF h 700 L mo) q 10 (n + n / 2)) 701 L (some q)) := Fr.tr (Fr.tr (Fr.yF rfl) (Fr.yN (h := yF h 700 L mo) hq)) (Fr.yP rfl)
  obtain ⟨a1, a2⟩ := h1 b z hz
  refine ⟨a1, fun hw => ?_⟩
  obtain ⟨b1, b2, b3, b4, b5⟩ := a2 hw
  refine ⟨b1, b2, b3, ?_, b5⟩
  rw [← b4]
  show u1 _ q _ b = _
  simp only [u1, if_neg hb]
  rfl
theorem lp_addC {h : Hp} {L D q n v E : Nat} {xs : List Nat} {mo : Int32} (hs : xS h L = some (7, 0)) (hxs : ∀ v ∈ xs, isE h v) (hD : xP h 701 L = some D) (hd : xS h D = some (10, n)) (hq : xS h q = none) (hl : xs.length = n) (h2 : 2 ≤ n) (hn : n < 600) (hB : ∀ (i v : Nat), xs[i]? = some v → xB h D i = some v) (hv : isE h v) :
    LiP E h L (yF (yB (yP (yC (yN (yF h 700 L mo) q 10 (n + n / 2)) q (va_cpy (xB (yN (yF h 700 L mo) q 10 (n + n / 2)) D) (xB (yN (yF h 700 L mo) q 10 (n + n / 2)) q) 0 0 n)) 701 L (some q)) q n (some v)) 702 L (nI (n + 1))) (xs ++ [v]) := by
  have hg := lp_grow (xs := xs) (mo := mo) hs hD hd hq
  generalize hh1 : yP (yC (yN (yF h 700 L mo) q 10 (n + n / 2)) q (va_cpy (xB (yN (yF h 700 L mo) q 10 (n + n / 2)) D) (xB (yN (yF h 700 L mo) q 10 (n + n / 2)) q) 0 0 n)) 701 L (some q) = h1 at hg ⊢
  have hB1 : ∀ i, i < n → xB h1 q i = xB h D i := fun i hi => by rw [← hh1]; exact grown hs hd hq i hi
  have hP1 : xP h1 701 L = some q := by rw [← hh1]; exact u2_s _ _ _ _
  have hS1 : xS h1 q = some (10, n + n / 2) := by rw [← hh1]; exact yN_q
  have hf : Fr (fun b => b = L ∨ xP h 701 L = some b) h (yF (yB h1 q n (some v)) 702 L (nI (n + 1))) := by
    intro b z hz
    have hb : b ≠ q := fun e => by rw [e, hq] at hz; cases hz
    obtain ⟨a1, a2⟩ := hg b z hz
    refine ⟨a1, fun hw => ?_⟩
    obtain ⟨b1, b2, b3, b4, b5⟩ := a2 (fun e => hw (Or.inl e))
    refine ⟨fun i => ?_, b2, b3, ?_, b5⟩
    · rw [xF_yF, if_neg (fun z => hw (Or.inl z.2))]; exact b1 i
    · rw [← b4]; exact u2_row _ _ _ hb
  refine ⟨⟨hf.S hs, ?_, by rw [List.length_append]; show _ + 1 < _; omega, fun w hw => ?_, Or.inr ⟨q, n + n / 2, hP1, hS1, by rw [List.length_append]; show _ + 1 ≤ _; omega, by omega, by omega, fun i w hi => ?_⟩⟩, hf, Or.inr ⟨q, hP1, hq⟩⟩
  · rw [xF_yF, if_pos ⟨rfl, rfl⟩, List.length_append, hl]; rfl
  · rcases List.mem_append.mp hw with z | z
    · exact (hxs w z).fr hf
    · rw [List.mem_singleton] at z; subst z; exact hv.fr hf
  · show (if q = q ∧ i = n then some v else xB h1 q i) = some w
    have hlt : i < (xs ++ [v]).length := (List.getElem?_eq_some_iff.mp hi).1
    rw [List.length_append] at hlt
    have hlt : i < xs.length + 1 := hlt
    by_cases hi2 : i = n
    · subst hi2
      rw [if_pos ⟨rfl, rfl⟩]
      rw [List.getElem?_append_right (by omega), hl, Nat.sub_self] at hi
      simpa using hi
    · rw [if_neg (fun z => hi2 z.2), hB1 i (by omega)]
      rw [List.getElem?_append_left (by omega)] at hi
      exact hB i w hi
set_option maxRecDepth 100000 in
set_option maxHeartbeats 4000000 in
theorem ct_addA {g : Gl} {l : Launch} (hfl : l.stackTraces = false) (h : Hp) (L v : Nat) (hL : IsL (gN g 2) h L []) (hv : isE h v) (hD : xP h 701 L = some (gN g 2)) : CT g l iJx4a65c_add_9ea2d 7 [.ref L, .ref v] h 1 1500 (pRel (fun r h' => r = some (.int (nI 1)) ∧ LiP (gN g 2) h L h' ([] ++ [v]))) := by
  refine ct_mk hfl (by decide) (Nat.le_of_ble_eq_true rfl) (by intro v hv; simp only [List.mem_cons, List.not_mem_nil, or_false] at hv; rcases hv with rfl | rfl <;> rfl) (fun V X M => ?_)
  have Mm := M.m
  show V 0 [some (.ref L), some (.ref v)] [] _ 0 0
  refine r_aload_n Mm dJx4a65c_add_9ea2d_0 rfl ?_
  refine r_dup Mm dJx4a65c_add_9ea2d_1 rfl ?_
  refine r_getI Mm dJx4a65c_add_9ea2d_2 fi_Jx4a65c_63 (hL.1) rfl (i := 700) rfl ?_
  refine r_iconst (v := nI 1) Mm dJx4a65c_add_9ea2d_5 (by decide) ?_
  refine r_iadd Mm dJx4a65c_add_9ea2d_6 ?_
  refine r_putI (ty := .int) Mm dJx4a65c_add_9ea2d_7 fi_Jx4a65c_63 ki_7 rfl (hL.1) rfl (i := 700) rfl rfl (by decide +kernel) rfl rfl ?_
  refine r_aload_n Mm dJx4a65c_add_9ea2d_10 rfl ?_
  refine r_aload_n Mm dJx4a65c_add_9ea2d_11 rfl ?_
  refine r_aload_n Mm dJx4a65c_add_9ea2d_12 rfl ?_
  refine r_getR Mm dJx4a65c_add_9ea2d_13 fi_Jx4a65c_9 (hL.1) rfl (i := 701) rfl (hD) ?_
  refine r_aload_n Mm dJx4a65c_add_9ea2d_16 rfl ?_
  refine r_getI Mm dJx4a65c_add_9ea2d_17 fi_Jx4a65c_48 (hL.1) rfl (i := 702) rfl ?_
  refine r_top _ (nI 0) (hL.2.1) ?_
  refine r_callV (As := [(.ref v), (.ref (gN g 2)), (.int (nI 0))]) Mm dJx4a65c_add_9ea2d_20 rfl (ct_add3A hfl (yF h 700 L (xF h 700 L + nI 1)) L v hL.1 hD hL.2.1 hv) (hL.1) rfl cw_Jx4a65c_131 ⟨Nat.le_of_ble_eq_true rfl, Nat.le_of_ble_eq_true rfl, Nat.le_of_ble_eq_true rfl⟩ (Nat.le_of_ble_eq_true rfl) ⟨Nat.le_of_ble_eq_true rfl, Nat.le_of_ble_eq_true rfl⟩ (fun r1 h2 p3 => ?_) (fun Er1 h2 p3 => False.elim p3)
  obtain ⟨q, hq, rfl, rfl⟩ := p3
  show V 23 _ [] _ _ _
  refine r_iconst (v := nI 1) Mm dJx4a65c_add_9ea2d_23 (by decide) ?_
  refine r_zret M dJx4a65c_add_9ea2d_24 (by decide) ?_
  exact ⟨rfl, lp_addA hL.1 hq hv⟩
set_option maxRecDepth 100000 in
set_option maxHeartbeats 4000000 in
theorem ct_addC {g : Gl} {l : Launch} (hfl : l.stackTraces = false) (h : Hp) (L v : Nat) (xs : List Nat) (hL : IsL (gN g 2) h L xs) (hv : isE h v) (D : Nat) (hD : xP h 701 L = some D) (hd : xS h D = some (10, xs.length)) (h2 : 2 ≤ xs.length) (hn : xs.length < 600) (hB : ∀ (i v : Nat), xs[i]? = some v → xB h D i = some v) : CT g l iJx4a65c_add_9ea2d 7 [.ref L, .ref v] h 1 1500 (pRel (fun r h' => r = some (.int (nI 1)) ∧ LiP (gN g 2) h L h' (xs ++ [v]))) := by
  have hel : ∀ j : Nat, j < xs.length → ∀ y : Nat, xB h D j = some y → isE h y := fun j hj y hy => by
    have hb := hB j xs[j] (List.getElem?_eq_getElem hj)
    rw [hy] at hb
    cases hb
    exact hL.2.2.2.1 _ (List.getElem_mem hj)
  refine ct_mk hfl (by decide) (Nat.le_of_ble_eq_true rfl) (by intro v hv; simp only [List.mem_cons, List.not_mem_nil, or_false] at hv; rcases hv with rfl | rfl <;> rfl) (fun V X M => ?_)
  have Mm := M.m
  show V 0 [some (.ref L), some (.ref v)] [] _ 0 0
  refine r_aload_n Mm dJx4a65c_add_9ea2d_0 rfl ?_
  refine r_dup Mm dJx4a65c_add_9ea2d_1 rfl ?_
  refine r_getI Mm dJx4a65c_add_9ea2d_2 fi_Jx4a65c_63 (hL.1) rfl (i := 700) rfl ?_
  refine r_iconst (v := nI 1) Mm dJx4a65c_add_9ea2d_5 (by decide) ?_
  refine r_iadd Mm dJx4a65c_add_9ea2d_6 ?_
  refine r_putI (ty := .int) Mm dJx4a65c_add_9ea2d_7 fi_Jx4a65c_63 ki_7 rfl (hL.1) rfl (i := 700) rfl rfl (by decide +kernel) rfl rfl ?_
  refine r_aload_n Mm dJx4a65c_add_9ea2d_10 rfl ?_
  refine r_aload_n Mm dJx4a65c_add_9ea2d_11 rfl ?_
  refine r_aload_n Mm dJx4a65c_add_9ea2d_12 rfl ?_
  refine r_getR Mm dJx4a65c_add_9ea2d_13 fi_Jx4a65c_9 (hL.1) rfl (i := 701) rfl (hD) ?_
  refine r_aload_n Mm dJx4a65c_add_9ea2d_16 rfl ?_
  refine r_getI Mm dJx4a65c_add_9ea2d_17 fi_Jx4a65c_48 (hL.1) rfl (i := 702) rfl ?_
  refine r_top _ (nI (xs.length)) (hL.2.1) ?_
  refine r_callV (As := [(.ref v), (.ref D), (.int (nI (xs.length)))]) Mm dJx4a65c_add_9ea2d_20 rfl (ct_add3C hfl (yF h 700 L (xF h 700 L + nI 1)) L D xs.length hL.1 hD hd h2 (by omega) hel v hL.2.1 hv) (hL.1) rfl cw_Jx4a65c_131 ⟨Nat.le_of_ble_eq_true rfl, Nat.le_of_ble_eq_true rfl, Nat.le_of_ble_eq_true rfl⟩ (Nat.le_of_ble_eq_true rfl) ⟨Nat.le_of_ble_eq_true rfl, Nat.le_of_ble_eq_true rfl⟩ (fun r1 h2 p3 => ?_) (fun Er1 h2 p3 => False.elim p3)
  obtain ⟨q, hq, rfl, rfl⟩ := p3
  show V 23 _ [] _ _ _
  refine r_iconst (v := nI 1) Mm dJx4a65c_add_9ea2d_23 (by decide) ?_
  refine r_zret M dJx4a65c_add_9ea2d_24 (by decide) ?_
  exact ⟨rfl, lp_addC hL.1 hL.2.2.2.1 hD hd hq rfl h2 hn hB hv⟩
/-- add(E): an element at the end -/
theorem ct_add {g : Gl} {l : Launch} (hfl : l.stackTraces = false) (h : Hp) (L v : Nat) (xs : List Nat) (hL : IsL (gN g 2) h L xs) (hlen : xs.length < 600) (hv : isE h v) : CT g l iJx4a65c_add_9ea2d 7 [.ref L, .ref v] h 1 1500 (pRel (fun r h' => r = some (.int (nI 1)) ∧ LiP (gN g 2) h L h' (xs ++ [v]))) := by
  rcases id hL.2.2.2.2 with ⟨hx, hE⟩ | ⟨D, n, hD, hd, h1, h2, h3, hB⟩
  · subst hx; exact ct_addA hfl h L v hL hv hE
  · rcases Nat.lt_or_ge xs.length n with q | q
    · exact ct_addB hfl h L v xs hL hv D n hD hd q h2 h3 hB
    · obtain rfl : n = xs.length := by omega
      exact ct_addC hfl h L v xs hL hv D hD hd h2 (by omega) hB
/-- the list at L has xs: its methods in these words -/
theorem IsL.cell {E : Nat} {h : Hp} {L i v : Nat} {xs : List Nat} (hL : IsL E h L xs) (hi : xs[i]? = some v) : ∃ D n : Nat, xP h 701 L = some D ∧ xS h D = some (10, n) ∧ xs.length ≤ n ∧ 2 ≤ n ∧ n < 1000 ∧ i < xs.length ∧ xB h D i = some v ∧ ∀ (i v : Nat), xs[i]? = some v → xB h D i = some v := by
  have hlt := (List.getElem?_eq_some_iff.mp hi).1
  rcases hL.2.2.2.2 with ⟨hx, hE⟩ | ⟨D, n, hD, hd, h1, h2, h3, hB⟩
  · rw [hx] at hlt; exact absurd hlt (Nat.not_lt_zero _)
  · exact ⟨D, n, hD, hd, h1, h2, h3, hlt, hB i v hi, hB⟩
theorem ct_lsize {g : Gl} {l : Launch} (hfl : l.stackTraces = false) {E : Nat} (h : Hp) (L : Nat) (xs : List Nat) (hL : IsL E h L xs) : CT g l iJx4a65c_size_8abf5 1 [.ref L] h 0 0 (pRet (some (.int (nI xs.length))) h) := ct_size hfl h L xs.length hL.1 hL.2.1
theorem ct_lget {g : Gl} {l : Launch} (hfl : l.stackTraces = false) {E : Nat} (h : Hp) (L i v : Nat) (xs : List Nat) (hL : IsL E h L xs) (hi : xs[i]? = some v) : CT g l iJx4a65c_get_915e3 3 [.ref L, .int (nI i)] h 0 0 (pRet (some (.ref v)) h) := by
  obtain ⟨D, n, hD, hd, h1, h2, h3, h4, h5, -⟩ := hL.cell hi
  exact ct_get0 hfl h L D n i v hL.1 hD hd xs.length hL.2.1 h4 h1 (by omega) h5
theorem lp_set {E : Nat} {h : Hp} {L D n i x : Nat} {xs : List Nat} (hL : IsL E h L xs) (hD : xP h 701 L = some D) (hd : xS h D = some (10, n)) (h1 : xs.length ≤ n) (h2 : 2 ≤ n) (h3 : n < 1000) (hB : ∀ (i v : Nat), xs[i]? = some v → xB h D i = some v) (hx : isE h x) (hi : i < xs.length) : LiP E h L (yB h D i (some x)) (xs.set i x) := by
  have hf : Fr (fun b => b = L ∨ xP h 701 L = some b) h (yB h D i (some x)) := Fr.yB (Or.inr hD)
  refine ⟨⟨hL.1, by rw [List.length_set]; exact hL.2.1, by rw [List.length_set]; exact hL.2.2.1, fun w hw => ?_, Or.inr ⟨D, n, hD, hd, by rw [List.length_set]; exact h1, h2, h3, fun j w hj => ?_⟩⟩, hf, Or.inl rfl⟩
  · rcases List.mem_or_eq_of_mem_set hw with z | z
    · exact (hL.2.2.2.1 w z).fr hf
    · subst z; exact hx.fr hf
  · show (if D = D ∧ j = i then some x else xB h D j) = some w
    by_cases hj2 : j = i
    · subst hj2
      rw [if_pos ⟨rfl, rfl⟩]
      rw [List.getElem?_set_self hi] at hj
      exact hj
    · rw [if_neg (fun z => hj2 z.2)]
      rw [List.getElem?_set_ne (fun z => hj2 z.symm)] at hj
      exact hB j w hj
theorem ct_lset {g : Gl} {l : Launch} (hfl : l.stackTraces = false) {E : Nat} (h : Hp) (L i v x : Nat) (xs : List Nat) (hL : IsL E h L xs) (hi : xs[i]? = some v) (hx : isE h x) : CT g l iJx4a65c_set_bcc79 3 [.ref L, .int (nI i), .ref x] h 0 0 (pRel (fun r h' => r = some (.ref v) ∧ LiP E h L h' (xs.set i x))) := by
  obtain ⟨D, n, hD, hd, h1, h2, h3, h4, h5, hB⟩ := hL.cell hi
  exact ct_weak (ct_set0 hfl h L D n i v hL.1 hD hd xs.length hL.2.1 h4 h1 (by omega) h5 x hx) (fun r h' hp => ⟨hp.1, hp.2 ▸ lp_set hL hD hd h1 h2 h3 hB hx h4⟩) (fun E h' hp => hp)
set_option maxRecDepth 100000 in
set_option maxHeartbeats 4000000 in
theorem ct_fastRemove {g : Gl} {l : Launch} (hfl : l.stackTraces = false) (h : Hp) (L D n k i : Nat) (hs : xS h L = some (7, 0)) (hd : xS h D = some (10, n)) (hk : xF h 702 L = nI k) (hi : i < k) (hkn : k ≤ n) (hn : n < 1000) (hel : ∀ j : Nat, j < k → ∀ y : Nat, xB h D j = some y → isE h y) : CT g l iJx4a65c_fastRemove_b59b0 2 [.ref L, .ref D, .int (nI i)] h 0 0 (pRel (fun r h' => ∃ h1 : Hp, (h1 = (yF h 700 L (xF h 700 L + nI 1)) ∨ h1 = (yC (yF h 700 L (xF h 700 L + nI 1)) D (va_cpy (xB (yF h 700 L (xF h 700 L + nI 1)) D) (xB (yF h 700 L (xF h 700 L + nI 1)) D) (i + 1) i (k - 1 - i)))) ∧ (i < k - 1 → h1 = (yC (yF h 700 L (xF h 700 L + nI 1)) D (va_cpy (xB (yF h 700 L (xF h 700 L + nI 1)) D) (xB (yF h 700 L (xF h 700 L + nI 1)) D) (i + 1) i (k - 1 - i)))) ∧ r = none ∧ h' = yB (yF h1 702 L (nI (k - 1))) D (k - 1) none)) := by
  refine ct_mk hfl (by decide) (Nat.le_of_ble_eq_true rfl) (by intro v hv; simp only [List.mem_cons, List.not_mem_nil, or_false] at hv; rcases hv with rfl | rfl | rfl <;> rfl) (fun V X M => ?_)
  have Mm := M.m
  show V 0 [some (.ref L), some (.ref D), some (.int (nI i)), none] [] _ 0 0
  refine r_aload_n Mm dJx4a65c_fastRemove_b59b0_0 rfl ?_
  refine r_dup Mm dJx4a65c_fastRemove_b59b0_1 rfl ?_
  refine r_getI Mm dJx4a65c_fastRemove_b59b0_2 fi_Jx4a65c_63 (hs) rfl (i := 700) rfl ?_
  refine r_iconst (v := nI 1) Mm dJx4a65c_fastRemove_b59b0_5 (by decide) ?_
  refine r_iadd Mm dJx4a65c_fastRemove_b59b0_6 ?_
  refine r_putI (ty := .int) Mm dJx4a65c_fastRemove_b59b0_7 fi_Jx4a65c_63 ki_7 rfl (hs) rfl (i := 700) rfl rfl (by decide +kernel) rfl rfl ?_
  refine r_aload_n Mm dJx4a65c_fastRemove_b59b0_10 rfl ?_
  refine r_getI Mm dJx4a65c_fastRemove_b59b0_11 fi_Jx4a65c_48 (hs) rfl (i := 702) rfl ?_
  refine r_top _ (nI k) (hk) ?_
  refine r_iconst (v := nI 1) Mm dJx4a65c_fastRemove_b59b0_14 (by decide) ?_
  refine r_isubN Mm dJx4a65c_fastRemove_b59b0_15 (by omega) ?_
  refine r_dup Mm dJx4a65c_fastRemove_b59b0_16 rfl ?_
  refine r_istore_n Mm dJx4a65c_fastRemove_b59b0_17 (by decide) ?_
  show V 18 [some (.ref L), some (.ref D), some (.int (nI i)), some (.int (nI (k - 1)))] _ _ _ _
  refine r_iload_n Mm dJx4a65c_fastRemove_b59b0_18 rfl ?_
  refine r_icmp_leN (tgt := 34) Mm dJx4a65c_fastRemove_b59b0_19 (by decide) (by omega) (by omega) (fun c1 => ?_) (fun c1 => ?_)
  · refine r_aload_n Mm dJx4a65c_fastRemove_b59b0_34 rfl ?_
    refine r_aload_n Mm dJx4a65c_fastRemove_b59b0_35 rfl ?_
    refine r_iload_n Mm dJx4a65c_fastRemove_b59b0_36 rfl ?_
    refine r_dup_x1 Mm dJx4a65c_fastRemove_b59b0_37 rfl rfl ?_
    refine r_putI (ty := .int) Mm dJx4a65c_fastRemove_b59b0_38 fi_Jx4a65c_48 ki_7 rfl (hs) rfl (i := 702) rfl rfl (by decide +kernel) rfl rfl ?_
    refine r_null Mm dJx4a65c_fastRemove_b59b0_41 ?_
    refine r_aastN0 Mm dJx4a65c_fastRemove_b59b0_42 (hd) (by omega) (by omega) ?_
    refine r_vret M dJx4a65c_fastRemove_b59b0_43 ?_
    exact ⟨(yF h 700 L (xF h 700 L + nI 1)), Or.inl rfl, fun z => absurd z (by omega), rfl, rfl⟩
  · refine r_aload_n Mm dJx4a65c_fastRemove_b59b0_22 rfl ?_
    refine r_iload_n Mm dJx4a65c_fastRemove_b59b0_23 rfl ?_
    refine r_iconst (v := nI 1) Mm dJx4a65c_fastRemove_b59b0_24 (by decide) ?_
    refine r_iaddN Mm dJx4a65c_fastRemove_b59b0_25 ?_
    refine r_aload_n Mm dJx4a65c_fastRemove_b59b0_26 rfl ?_
    refine r_iload_n Mm dJx4a65c_fastRemove_b59b0_27 rfl ?_
    refine r_iload_n Mm dJx4a65c_fastRemove_b59b0_28 rfl ?_
    refine r_iload_n Mm dJx4a65c_fastRemove_b59b0_29 rfl ?_
    refine r_isubN Mm dJx4a65c_fastRemove_b59b0_30 (by omega) ?_
    refine r_copyN (sp := i + 1) (dp := i) (n := (k - 1) - i) Mm dJx4a65c_fastRemove_b59b0_31 (hd) (hd) cy_Jx4a65c_112 cyn cys cyi ⟨by omega, by omega⟩ (by omega) (by omega) (Nat.le_of_ble_eq_true rfl) (Nat.le_of_ble_eq_true rfl) ?_ ?_
    · exact fun j hj y hy => hel (i + 1 + j) (by omega) y hy
    refine r_aload_n Mm dJx4a65c_fastRemove_b59b0_34 rfl ?_
    refine r_aload_n Mm dJx4a65c_fastRemove_b59b0_35 rfl ?_
    refine r_iload_n Mm dJx4a65c_fastRemove_b59b0_36 rfl ?_
    refine r_dup_x1 Mm dJx4a65c_fastRemove_b59b0_37 rfl rfl ?_
    refine r_putI (ty := .int) Mm dJx4a65c_fastRemove_b59b0_38 fi_Jx4a65c_48 ki_7 rfl (hs) rfl (i := 702) rfl rfl (by decide +kernel) rfl rfl ?_
    refine r_null Mm dJx4a65c_fastRemove_b59b0_41 ?_
    refine r_aastN0 Mm dJx4a65c_fastRemove_b59b0_42 (hd) (by omega) (by omega) ?_
    refine r_vret M dJx4a65c_fastRemove_b59b0_43 ?_
    exact ⟨_, Or.inr rfl, fun _ => rfl, rfl, rfl⟩
set_option maxRecDepth 100000 in
set_option maxHeartbeats 4000000 in
theorem ct_remove0 {g : Gl} {l : Launch} (hfl : l.stackTraces = false) (h : Hp) (L D n k i : Nat) (hs : xS h L = some (7, 0)) (hd : xS h D = some (10, n)) (hk : xF h 702 L = nI k) (hi : i < k) (hkn : k ≤ n) (hn : n < 1000) (hel : ∀ j : Nat, j < k → ∀ y : Nat, xB h D j = some y → isE h y) (v : Nat) (hD : xP h 701 L = some D) (hv : xB h D i = some v) : CT g l iJx4a65c_remove_915e3 3 [.ref L, .int (nI i)] h 0 0 (pRel (fun r h' => r = some (.ref v) ∧ ∃ h1 : Hp, (h1 = (yF h 700 L (xF h 700 L + nI 1)) ∨ h1 = (yC (yF h 700 L (xF h 700 L + nI 1)) D (va_cpy (xB (yF h 700 L (xF h 700 L + nI 1)) D) (xB (yF h 700 L (xF h 700 L + nI 1)) D) (i + 1) i (k - 1 - i)))) ∧ (i < k - 1 → h1 = (yC (yF h 700 L (xF h 700 L + nI 1)) D (va_cpy (xB (yF h 700 L (xF h 700 L + nI 1)) D) (xB (yF h 700 L (xF h 700 L + nI 1)) D) (i + 1) i (k - 1 - i)))) ∧ h' = yB (yF h1 702 L (nI (k - 1))) D (k - 1) none)) := by
  refine ct_mk hfl (by decide) (Nat.le_of_ble_eq_true rfl) (by intro v hv; simp only [List.mem_cons, List.not_mem_nil, or_false] at hv; rcases hv with rfl | rfl <;> rfl) (fun V X M => ?_)
  have Mm := M.m
  show V 0 [some (.ref L), some (.int (nI i)), none, none] [] _ 0 0
  refine r_iload_n Mm dJx4a65c_remove_915e3_0 rfl ?_
  refine r_aload_n Mm dJx4a65c_remove_915e3_1 rfl ?_
  refine r_getI Mm dJx4a65c_remove_915e3_2 fi_Jx4a65c_48 (hs) rfl (i := 702) rfl ?_
  refine r_top _ (nI k) (hk) ?_
  refine r_callS (As := [(.int (nI i)), (.int (nI k))]) Mm dJx4a65c_remove_915e3_5 rfl (ct_oci hfl h i k hi (by omega)) cw_Jx4a65c_118 ⟨Nat.le_of_ble_eq_true rfl, Nat.le_of_ble_eq_true rfl, Nat.le_of_ble_eq_true rfl⟩ (Nat.le_of_ble_eq_true rfl) ⟨Nat.le_of_ble_eq_true rfl, Nat.le_of_ble_eq_true rfl⟩ (fun r1 h2 p3 => ?_) (fun Er1 h2 p3 => False.elim p3)
  obtain ⟨rfl, rfl⟩ := p3
  show V 8 _ [(.int (nI i))] _ _ _
  refine r_pop Mm dJx4a65c_remove_915e3_8 rfl ?_
  refine r_aload_n Mm dJx4a65c_remove_915e3_9 rfl ?_
  refine r_getR Mm dJx4a65c_remove_915e3_10 fi_Jx4a65c_9 (hs) rfl (i := 701) rfl (hD) ?_
  refine r_astore_n Mm dJx4a65c_remove_915e3_13 (by decide) ?_
  show V 14 [some (.ref L), some (.int (nI i)), some (.ref D), none] _ _ _ _
  refine r_aload_n Mm dJx4a65c_remove_915e3_14 rfl ?_
  refine r_iload_n Mm dJx4a65c_remove_915e3_15 rfl ?_
  refine r_aaldN Mm dJx4a65c_remove_915e3_16 (hd) (by omega) (by omega) (hv) ?_
  refine r_astore_n Mm dJx4a65c_remove_915e3_17 (by decide) ?_
  show V 18 [some (.ref L), some (.int (nI i)), some (.ref D), some (.ref v)] _ _ _ _
  refine r_aload_n Mm dJx4a65c_remove_915e3_18 rfl ?_
  refine r_aload_n Mm dJx4a65c_remove_915e3_19 rfl ?_
  refine r_iload_n Mm dJx4a65c_remove_915e3_20 rfl ?_
  refine r_callV (As := [(.ref D), (.int (nI i))]) Mm dJx4a65c_remove_915e3_21 rfl (ct_fastRemove hfl h L D n k i hs hd hk hi hkn hn hel) (hs) rfl cw_Jx4a65c_144 ⟨Nat.le_of_ble_eq_true rfl, Nat.le_of_ble_eq_true rfl, Nat.le_of_ble_eq_true rfl⟩ (Nat.le_of_ble_eq_true rfl) ⟨Nat.le_of_ble_eq_true rfl, Nat.le_of_ble_eq_true rfl⟩ (fun r4 h5 p6 => ?_) (fun Er4 h5 p6 => False.elim p6)
  obtain ⟨h1x, o1, o2, rfl, o4⟩ := p6
  show V 24 _ [] _ _ _
  refine r_aload_n Mm dJx4a65c_remove_915e3_24 rfl ?_
  refine r_aret M dJx4a65c_remove_915e3_25 (Or.inl ⟨_, rfl⟩) ?_
  exact ⟨rfl, h1x, o1, o2, o4⟩
theorem ct_lremove {g : Gl} {l : Launch} (hfl : l.stackTraces = false) {E : Nat} (h : Hp) (L i v : Nat) (xs : List Nat) (hL : IsL E h L xs) (hi : xs[i]? = some v) : CT g l iJx4a65c_remove_915e3 3 [.ref L, .int (nI i)] h 0 0 (pRel (fun r h' => r = some (.ref v) ∧ LiP E h L h' (xs.eraseIdx i))) := by
  obtain ⟨D, n, hD, hd, h1, h2, h3, h4, h5, hB⟩ := hL.cell hi
  have hel : ∀ j : Nat, j < xs.length → ∀ y : Nat, xB h D j = some y → isE h y := fun j hj y hy => by
    have hb := hB j xs[j] (List.getElem?_eq_getElem hj)
    rw [hy] at hb
    cases hb
    exact hL.2.2.2.1 _ (List.getElem_mem hj)
  refine ct_weak (ct_remove0 hfl h L D n xs.length i hL.1 hd hL.2.1 h4 h1 h3 hel v hD h5) (fun r h' hp => ?_) (fun E h' hp => hp)
  obtain ⟨hr, h1x, o1, o2, o3⟩ := hp
  refine ⟨hr, ?_⟩
  rw [o3]
  exact lp_rem hL.1 hL.2.2.2.1 hD hd h1 h2 h3 hB h4 h1x o1 o2
set_option maxRecDepth 100000 in
set_option maxHeartbeats 4000000 in
theorem ct_rangeCheck {g : Gl} {l : Launch} (hfl : l.stackTraces = false) (h : Hp) (L i k : Nat) (hs : xS h L = some (7, 0)) (hk : xF h 702 L = nI k) (hi : i ≤ k) (hkn : k < 1000) : CT g l iJx4a65c_rangeCheckForAdd_d00df 2 [.ref L, .int (nI i)] h 0 0 (pRet none h) := by
  refine ct_mk hfl (by decide) (Nat.le_of_ble_eq_true rfl) (by intro v hv; simp only [List.mem_cons, List.not_mem_nil, or_false] at hv; rcases hv with rfl | rfl <;> rfl) (fun V X M => ?_)
  have Mm := M.m
  show V 0 [some (.ref L), some (.int (nI i))] [] _ 0 0
  refine r_iload_n Mm dJx4a65c_rangeCheckForAdd_d00df_0 rfl ?_
  refine r_aload_n Mm dJx4a65c_rangeCheckForAdd_d00df_1 rfl ?_
  refine r_getI Mm dJx4a65c_rangeCheckForAdd_d00df_2 fi_Jx4a65c_48 (hs) rfl (i := 702) rfl ?_
  refine r_top _ (nI k) (hk) ?_
  refine r_icmp_gtN (tgt := 12) Mm dJx4a65c_rangeCheckForAdd_d00df_5 (by decide) (by omega) (by omega) (fun c1 => ?_) (fun c1 => ?_)
  · exact absurd c1 (by omega)
  · refine r_iload_n Mm dJx4a65c_rangeCheckForAdd_d00df_8 rfl ?_
    refine r_if_ge (tgt := 25) Mm dJx4a65c_rangeCheckForAdd_d00df_9 (by decide) (fun _ => ?_) (fun c2 => absurd (nI_ge0 (by omega)) c2)
    refine r_vret M dJx4a65c_rangeCheckForAdd_d00df_25 ?_
    exact ⟨rfl, rfl⟩
set_option maxRecDepth 100000 in
set_option maxHeartbeats 4000000 in
theorem ct_addIB {g : Gl} {l : Launch} (hfl : l.stackTraces = false) (h : Hp) (L i v : Nat) (xs : List Nat) (hL : IsL (gN g 2) h L xs) (hi : i ≤ xs.length) (hlen : xs.length < 600) (hv : isE h v) (D n : Nat) (hD : xP h 701 L = some D) (hd : xS h D = some (10, n)) (hl : xs.length < n) (h2 : 2 ≤ n) (hn : n < 1000) (hB : ∀ (i v : Nat), xs[i]? = some v → xB h D i = some v) : CT g l iJx4a65c_add_7a177 6 [.ref L, .int (nI i), .ref v] h 1 1500 (pRel (fun r h' => r = none ∧ LiP (gN g 2) h L h' (xs.insertIdx i v))) := by
  have hel : ∀ j : Nat, j < xs.length → ∀ y : Nat, xB h D j = some y → isE h y := fun j hj y hy => by
    have hb := hB j xs[j] (List.getElem?_eq_getElem hj)
    rw [hy] at hb
    cases hb
    exact hL.2.2.2.1 _ (List.getElem_mem hj)
  refine ct_mk hfl (by decide) (Nat.le_of_ble_eq_true rfl) (by intro v hv; simp only [List.mem_cons, List.not_mem_nil, or_false] at hv; rcases hv with rfl | rfl | rfl <;> rfl) (fun V X M => ?_)
  have Mm := M.m
  show V 0 [some (.ref L), some (.int (nI i)), some (.ref v), none, none] [] _ 0 0
  refine r_aload_n Mm dJx4a65c_add_7a177_0 rfl ?_
  refine r_iload_n Mm dJx4a65c_add_7a177_1 rfl ?_
  refine r_callV (As := [(.int (nI i))]) Mm dJx4a65c_add_7a177_2 rfl (ct_rangeCheck hfl h L i xs.length hL.1 hL.2.1 hi (by have := hL.2.2.1; omega)) (hL.1) rfl cw_Jx4a65c_135 ⟨Nat.le_of_ble_eq_true rfl, Nat.le_of_ble_eq_true rfl, Nat.le_of_ble_eq_true rfl⟩ (Nat.le_of_ble_eq_true rfl) ⟨Nat.le_of_ble_eq_true rfl, Nat.le_of_ble_eq_true rfl⟩ (fun r1 h2 p3 => ?_) (fun Er1 h2 p3 => False.elim p3)
  obtain ⟨rfl, rfl⟩ := p3
  show V 5 _ [] _ _ _
  refine r_aload_n Mm dJx4a65c_add_7a177_5 rfl ?_
  refine r_dup Mm dJx4a65c_add_7a177_6 rfl ?_
  refine r_getI Mm dJx4a65c_add_7a177_7 fi_Jx4a65c_63 (hL.1) rfl (i := 700) rfl ?_
  refine r_iconst (v := nI 1) Mm dJx4a65c_add_7a177_10 (by decide) ?_
  refine r_iadd Mm dJx4a65c_add_7a177_11 ?_
  refine r_putI (ty := .int) Mm dJx4a65c_add_7a177_12 fi_Jx4a65c_63 ki_7 rfl (hL.1) rfl (i := 700) rfl rfl (by decide +kernel) rfl rfl ?_
  refine r_aload_n Mm dJx4a65c_add_7a177_15 rfl ?_
  refine r_getI Mm dJx4a65c_add_7a177_16 fi_Jx4a65c_48 (hL.1) rfl (i := 702) rfl ?_
  refine r_top _ (nI (xs.length)) (hL.2.1) ?_
  refine r_dup Mm dJx4a65c_add_7a177_19 rfl ?_
  refine r_istore_n Mm dJx4a65c_add_7a177_20 (by decide) ?_
  show V 21 [some (.ref L), some (.int (nI i)), some (.ref v), some (.int (nI (xs.length))), none] _ _ _ _
  refine r_aload_n Mm dJx4a65c_add_7a177_21 rfl ?_
  refine r_getR Mm dJx4a65c_add_7a177_22 fi_Jx4a65c_9 (hL.1) rfl (i := 701) rfl (hD) ?_
  refine r_dup Mm dJx4a65c_add_7a177_25 rfl ?_
  refine r_astore Mm dJx4a65c_add_7a177_26 (by decide) ?_
  show V 28 [some (.ref L), some (.int (nI i)), some (.ref v), some (.int (nI (xs.length))), some (.ref D)] _ _ _ _
  refine r_alenO Mm dJx4a65c_add_7a177_28 (hd) ?_
  refine r_icmp_neN (tgt := 38) Mm dJx4a65c_add_7a177_29 (by decide) (by omega) (by omega) (fun c4 => ?_) (fun c4 => ?_)
  · refine r_aload Mm dJx4a65c_add_7a177_38 rfl ?_
    refine r_iload_n Mm dJx4a65c_add_7a177_40 rfl ?_
    refine r_aload Mm dJx4a65c_add_7a177_41 rfl ?_
    refine r_iload_n Mm dJx4a65c_add_7a177_43 rfl ?_
    refine r_iconst (v := nI 1) Mm dJx4a65c_add_7a177_44 (by decide) ?_
    refine r_iaddN Mm dJx4a65c_add_7a177_45 ?_
    refine r_iload_n Mm dJx4a65c_add_7a177_46 rfl ?_
    refine r_iload_n Mm dJx4a65c_add_7a177_47 rfl ?_
    refine r_isubN Mm dJx4a65c_add_7a177_48 (by omega) ?_
    refine r_copyN (sp := i) (dp := i + 1) (n := (xs.length) - i) Mm dJx4a65c_add_7a177_49 (hd) (hd) cy_Jx4a65c_112 cyn cys cyi ⟨by omega, by omega⟩ (by omega) (by omega) (Nat.le_of_ble_eq_true rfl) (Nat.le_of_ble_eq_true rfl) ?_ ?_
    · exact fun j hj y hy => hel (i + j) (by omega) y hy
    refine r_aload Mm dJx4a65c_add_7a177_52 rfl ?_
    refine r_iload_n Mm dJx4a65c_add_7a177_54 rfl ?_
    refine r_aload_n Mm dJx4a65c_add_7a177_55 rfl ?_
    refine r_aastE Mm dJx4a65c_add_7a177_56 (hd) (by omega) (by omega) (hv) ?_
    refine r_aload_n Mm dJx4a65c_add_7a177_57 rfl ?_
    refine r_iload_n Mm dJx4a65c_add_7a177_58 rfl ?_
    refine r_iconst (v := nI 1) Mm dJx4a65c_add_7a177_59 (by decide) ?_
    refine r_iaddN Mm dJx4a65c_add_7a177_60 ?_
    refine r_putI (ty := .int) Mm dJx4a65c_add_7a177_61 fi_Jx4a65c_48 ki_7 rfl (hL.1) rfl (i := 702) rfl rfl (by decide +kernel) rfl rfl ?_
    refine r_vret M dJx4a65c_add_7a177_64 ?_
    exact ⟨rfl, lp_insB (h1 := yF h 700 L (xF h 700 L + nI 1)) (fun b => b = L ∨ b = D) (fun b _ hb => hb.elim Or.inl (fun e => Or.inr (e ▸ hD))) (Fr.yF (Or.inl rfl)) hL.1 hL.2.2.2.1 hD (Or.inl hD) hd hl h2 hn hB hv hi (fun _ => Or.inr rfl) (Or.inl rfl)⟩
  · exact absurd c4 (by omega)
set_option maxRecDepth 100000 in
set_option maxHeartbeats 4000000 in
theorem ct_addIC {g : Gl} {l : Launch} (hfl : l.stackTraces = false) (h : Hp) (L i v : Nat) (xs : List Nat) (hL : IsL (gN g 2) h L xs) (hi : i ≤ xs.length) (hlen : xs.length < 600) (hv : isE h v) (D n : Nat) (hD : xP h 701 L = some D) (hd : xS h D = some (10, n)) (hl : xs.length = n) (h2 : 2 ≤ n) (hn : n < 600) (hB : ∀ (i v : Nat), xs[i]? = some v → xB h D i = some v) : CT g l iJx4a65c_add_7a177 6 [.ref L, .int (nI i), .ref v] h 1 1500 (pRel (fun r h' => r = none ∧ LiP (gN g 2) h L h' (xs.insertIdx i v))) := by
  have hel : ∀ j : Nat, j < xs.length → ∀ y : Nat, xB h D j = some y → isE h y := fun j hj y hy => by
    have hb := hB j xs[j] (List.getElem?_eq_getElem hj)
    rw [hy] at hb
    cases hb
    exact hL.2.2.2.1 _ (List.getElem_mem hj)
  refine ct_mk hfl (by decide) (Nat.le_of_ble_eq_true rfl) (by intro v hv; simp only [List.mem_cons, List.not_mem_nil, or_false] at hv; rcases hv with rfl | rfl | rfl <;> rfl) (fun V X M => ?_)
  have Mm := M.m
  show V 0 [some (.ref L), some (.int (nI i)), some (.ref v), none, none] [] _ 0 0
  refine r_aload_n Mm dJx4a65c_add_7a177_0 rfl ?_
  refine r_iload_n Mm dJx4a65c_add_7a177_1 rfl ?_
  refine r_callV (As := [(.int (nI i))]) Mm dJx4a65c_add_7a177_2 rfl (ct_rangeCheck hfl h L i xs.length hL.1 hL.2.1 hi (by have := hL.2.2.1; omega)) (hL.1) rfl cw_Jx4a65c_135 ⟨Nat.le_of_ble_eq_true rfl, Nat.le_of_ble_eq_true rfl, Nat.le_of_ble_eq_true rfl⟩ (Nat.le_of_ble_eq_true rfl) ⟨(by first | exact Nat.le_of_ble_eq_true rfl | (show _ ≤ 1500; omega)), (by first | exact Nat.le_of_ble_eq_true rfl | (show _ ≤ 1500; omega))⟩ (fun r1 h2 p3 => ?_) (fun Er1 h2 p3 => False.elim p3)
  obtain ⟨rfl, rfl⟩ := p3
  show V 5 _ [] _ _ _
  refine r_aload_n Mm dJx4a65c_add_7a177_5 rfl ?_
  refine r_dup Mm dJx4a65c_add_7a177_6 rfl ?_
  refine r_getI Mm dJx4a65c_add_7a177_7 fi_Jx4a65c_63 (hL.1) rfl (i := 700) rfl ?_
  refine r_iconst (v := nI 1) Mm dJx4a65c_add_7a177_10 (by decide) ?_
  refine r_iadd Mm dJx4a65c_add_7a177_11 ?_
  refine r_putI (ty := .int) Mm dJx4a65c_add_7a177_12 fi_Jx4a65c_63 ki_7 rfl (hL.1) rfl (i := 700) rfl rfl (by decide +kernel) rfl rfl ?_
  refine r_aload_n Mm dJx4a65c_add_7a177_15 rfl ?_
  refine r_getI Mm dJx4a65c_add_7a177_16 fi_Jx4a65c_48 (hL.1) rfl (i := 702) rfl ?_
  refine r_top _ (nI (xs.length)) (hL.2.1) ?_
  refine r_dup Mm dJx4a65c_add_7a177_19 rfl ?_
  refine r_istore_n Mm dJx4a65c_add_7a177_20 (by decide) ?_
  show V 21 [some (.ref L), some (.int (nI i)), some (.ref v), some (.int (nI (xs.length))), none] _ _ _ _
  refine r_aload_n Mm dJx4a65c_add_7a177_21 rfl ?_
  refine r_getR Mm dJx4a65c_add_7a177_22 fi_Jx4a65c_9 (hL.1) rfl (i := 701) rfl (hD) ?_
  refine r_dup Mm dJx4a65c_add_7a177_25 rfl ?_
  refine r_astore Mm dJx4a65c_add_7a177_26 (by decide) ?_
  show V 28 [some (.ref L), some (.int (nI i)), some (.ref v), some (.int (nI (xs.length))), some (.ref D)] _ _ _ _
  refine r_alenO Mm dJx4a65c_add_7a177_28 (hd) ?_
  refine r_icmp_neN (tgt := 38) Mm dJx4a65c_add_7a177_29 (by decide) (by omega) (by omega) (fun c4 => ?_) (fun c4 => ?_)
  · exact absurd hl c4
  · refine r_aload_n Mm dJx4a65c_add_7a177_32 rfl ?_
    refine r_callV (As := []) Mm dJx4a65c_add_7a177_33 rfl (ct_growN0 hfl (yF h 700 L (xF h 700 L + nI 1)) L D n hL.1 hD hd h2 (by omega) (fun j hj y hy => hel j (by omega) y hy) (by rw [← hl]; exact hL.2.1)) (hL.1) rfl cw_Jx4a65c_129 ⟨Nat.le_of_ble_eq_true rfl, Nat.le_of_ble_eq_true rfl, Nat.le_of_ble_eq_true rfl⟩ (Nat.le_of_ble_eq_true rfl) ⟨(by first | exact Nat.le_of_ble_eq_true rfl | (show _ ≤ 1500; omega)), (by first | exact Nat.le_of_ble_eq_true rfl | (show _ ≤ 1500; omega))⟩ (fun r5 h6 p7 => ?_) (fun Er5 h6 p7 => False.elim p7)
    obtain ⟨q, hq, rfl, rfl⟩ := p7
    have hg := lp_grow (xs := xs) (mo := xF h 700 L + nI 1) hL.1 hD hd hq
    have hgr := fun (i : Nat) (hi : i < n) => grown (mo := xF h 700 L + nI 1) (m := n + n / 2) hL.1 hd hq i hi
    have hz1 := hg.S hL.1
    have hz2 : xS (yP (yC (yN (yF h 700 L (xF h 700 L + nI 1)) q 10 (n + n / 2)) q (va_cpy (xB (yN (yF h 700 L (xF h 700 L + nI 1)) q 10 (n + n / 2)) D) (xB (yN (yF h 700 L (xF h 700 L + nI 1)) q 10 (n + n / 2)) q) 0 0 n)) 701 L (some q)) q = some (10, n + n / 2) := yN_q
    have hz3 : xP (yP (yC (yN (yF h 700 L (xF h 700 L + nI 1)) q 10 (n + n / 2)) q (va_cpy (xB (yN (yF h 700 L (xF h 700 L + nI 1)) q 10 (n + n / 2)) D) (xB (yN (yF h 700 L (xF h 700 L + nI 1)) q 10 (n + n / 2)) q) 0 0 n)) 701 L (some q)) 701 L = some q := u2_s _ _ _ _
    generalize yP (yC (yN (yF h 700 L (xF h 700 L + nI 1)) q 10 (n + n / 2)) q (va_cpy (xB (yN (yF h 700 L (xF h 700 L + nI 1)) q 10 (n + n / 2)) D) (xB (yN (yF h 700 L (xF h 700 L + nI 1)) q 10 (n + n / 2)) q) 0 0 n)) 701 L (some q) = hz at hg hgr hz1 hz2 hz3 ⊢
    show V 36 _ [(.ref q)] _ _ _
    refine r_astore Mm dJx4a65c_add_7a177_36 (by decide) ?_
    show V 38 [some (.ref L), some (.int (nI i)), some (.ref v), some (.int (nI (xs.length))), some (.ref q)] _ _ _ _
    refine r_aload Mm dJx4a65c_add_7a177_38 rfl ?_
    refine r_iload_n Mm dJx4a65c_add_7a177_40 rfl ?_
    refine r_aload Mm dJx4a65c_add_7a177_41 rfl ?_
    refine r_iload_n Mm dJx4a65c_add_7a177_43 rfl ?_
    refine r_iconst (v := nI 1) Mm dJx4a65c_add_7a177_44 (by decide) ?_
    refine r_iaddN Mm dJx4a65c_add_7a177_45 ?_
    refine r_iload_n Mm dJx4a65c_add_7a177_46 rfl ?_
    refine r_iload_n Mm dJx4a65c_add_7a177_47 rfl ?_
    refine r_isubN Mm dJx4a65c_add_7a177_48 (by omega) ?_
    refine r_copyN (sp := i) (dp := i + 1) (n := (xs.length) - i) Mm dJx4a65c_add_7a177_49 (hz2) (hz2) cy_Jx4a65c_112 cyn cys cyi ⟨by omega, by omega⟩ (by omega) (by omega) (Nat.le_of_ble_eq_true rfl) (Nat.le_of_ble_eq_true rfl) ?_ ?_
    · exact fun j hj y hy => (hel (i + j) (by omega) y ((hgr (i + j) (by omega)).symm.trans hy)).fr hg
    refine r_aload Mm dJx4a65c_add_7a177_52 rfl ?_
    refine r_iload_n Mm dJx4a65c_add_7a177_54 rfl ?_
    refine r_aload_n Mm dJx4a65c_add_7a177_55 rfl ?_
    refine r_aastE Mm dJx4a65c_add_7a177_56 (hz2) (by omega) (by omega) (show isE hz v from hv.fr hg) ?_
    refine r_aload_n Mm dJx4a65c_add_7a177_57 rfl ?_
    refine r_iload_n Mm dJx4a65c_add_7a177_58 rfl ?_
    refine r_iconst (v := nI 1) Mm dJx4a65c_add_7a177_59 (by decide) ?_
    refine r_iaddN Mm dJx4a65c_add_7a177_60 ?_
    refine r_putI (ty := .int) Mm dJx4a65c_add_7a177_61 fi_Jx4a65c_48 ki_7 rfl (hz1) rfl (i := 702) rfl rfl (by decide +kernel) rfl rfl ?_
    refine r_vret M dJx4a65c_add_7a177_64 ?_
    exact ⟨rfl, lp_insB (h1 := hz) (fun b => b = L) (fun b _ hb => Or.inl hb) hg hz1 hL.2.2.2.1 hz3 (Or.inr hq) hz2 (by omega) (by omega) (by omega) (fun j w hj => by rw [hgr j (by rw [← hl]; exact (List.getElem?_eq_some_iff.mp hj).1)]; exact hB j w hj) hv hi (fun z => absurd hq z) rfl⟩
set_option maxRecDepth 100000 in
set_option maxHeartbeats 4000000 in
theorem ct_addIA {g : Gl} {l : Launch} (hfl : l.stackTraces = false) (h : Hp) (L i v : Nat) (xs : List Nat) (hL : IsL (gN g 2) h L xs) (hi : i ≤ xs.length) (hlen : xs.length < 600) (hv : isE h v) (hx : xs.length = 0) (hD : xP h 701 L = some (gN g 2)) : CT g l iJx4a65c_add_7a177 6 [.ref L, .int (nI i), .ref v] h 1 1500 (pRel (fun r h' => r = none ∧ LiP (gN g 2) h L h' (xs.insertIdx i v))) := by
  refine ct_mk hfl (by decide) (Nat.le_of_ble_eq_true rfl) (by intro v hv; simp only [List.mem_cons, List.not_mem_nil, or_false] at hv; rcases hv with rfl | rfl | rfl <;> rfl) (fun V X M => ?_)
  have Mm := M.m
  show V 0 [some (.ref L), some (.int (nI i)), some (.ref v), none, none] [] _ 0 0
  refine r_aload_n Mm dJx4a65c_add_7a177_0 rfl ?_
  refine r_iload_n Mm dJx4a65c_add_7a177_1 rfl ?_
  refine r_callV (As := [(.int (nI i))]) Mm dJx4a65c_add_7a177_2 rfl (ct_rangeCheck hfl h L i xs.length hL.1 hL.2.1 hi (by have := hL.2.2.1; omega)) (hL.1) rfl cw_Jx4a65c_135 ⟨Nat.le_of_ble_eq_true rfl, Nat.le_of_ble_eq_true rfl, Nat.le_of_ble_eq_true rfl⟩ (Nat.le_of_ble_eq_true rfl) ⟨(by first | exact Nat.le_of_ble_eq_true rfl | (show _ ≤ 1500; omega)), (by first | exact Nat.le_of_ble_eq_true rfl | (show _ ≤ 1500; omega))⟩ (fun r1 h2 p3 => ?_) (fun Er1 h2 p3 => False.elim p3)
  obtain ⟨rfl, rfl⟩ := p3
  show V 5 _ [] _ _ _
  refine r_aload_n Mm dJx4a65c_add_7a177_5 rfl ?_
  refine r_dup Mm dJx4a65c_add_7a177_6 rfl ?_
  refine r_getI Mm dJx4a65c_add_7a177_7 fi_Jx4a65c_63 (hL.1) rfl (i := 700) rfl ?_
  refine r_iconst (v := nI 1) Mm dJx4a65c_add_7a177_10 (by decide) ?_
  refine r_iadd Mm dJx4a65c_add_7a177_11 ?_
  refine r_putI (ty := .int) Mm dJx4a65c_add_7a177_12 fi_Jx4a65c_63 ki_7 rfl (hL.1) rfl (i := 700) rfl rfl (by decide +kernel) rfl rfl ?_
  refine r_aload_n Mm dJx4a65c_add_7a177_15 rfl ?_
  refine r_getI Mm dJx4a65c_add_7a177_16 fi_Jx4a65c_48 (hL.1) rfl (i := 702) rfl ?_
  refine r_top _ (nI (xs.length)) (hL.2.1) ?_
  refine r_dup Mm dJx4a65c_add_7a177_19 rfl ?_
  refine r_istore_n Mm dJx4a65c_add_7a177_20 (by decide) ?_
  show V 21 [some (.ref L), some (.int (nI i)), some (.ref v), some (.int (nI (xs.length))), none] _ _ _ _
  refine r_aload_n Mm dJx4a65c_add_7a177_21 rfl ?_
  refine r_getR Mm dJx4a65c_add_7a177_22 fi_Jx4a65c_9 (hL.1) rfl (i := 701) rfl (hD) ?_
  refine r_dup Mm dJx4a65c_add_7a177_25 rfl ?_
  refine r_astore Mm dJx4a65c_add_7a177_26 (by decide) ?_
  show V 28 [some (.ref L), some (.int (nI i)), some (.ref v), some (.int (nI (xs.length))), some (.ref (gN g 2))] _ _ _ _
  refine r_alenD Mm dJx4a65c_add_7a177_28 ?_
  refine r_icmp_neN (tgt := 38) Mm dJx4a65c_add_7a177_29 (by decide) (by omega) (by omega) (fun c4 => ?_) (fun c4 => ?_)
  · exact absurd c4 (by omega)
  · refine r_aload_n Mm dJx4a65c_add_7a177_32 rfl ?_
    refine r_callV (As := []) Mm dJx4a65c_add_7a177_33 rfl (ct_growE0 hfl (yF h 700 L (xF h 700 L + nI 1)) L xs.length hL.2.1 hL.1 hD (by omega)) (hL.1) rfl cw_Jx4a65c_129 ⟨Nat.le_of_ble_eq_true rfl, Nat.le_of_ble_eq_true rfl, Nat.le_of_ble_eq_true rfl⟩ (Nat.le_of_ble_eq_true rfl) ⟨(by first | exact Nat.le_of_ble_eq_true rfl | (show _ ≤ 1500; omega)), (by first | exact Nat.le_of_ble_eq_true rfl | (show _ ≤ 1500; omega))⟩ (fun r5 h6 p7 => ?_) (fun Er5 h6 p7 => False.elim p7)
    obtain ⟨q, hq, rfl, rfl⟩ := p7
    have hg : Fr (fun b => b = L) h (yP (yN (yF h 700 L (xF h 700 L + nI 1)) q 10 10) 701 L (some q)) := Fr.tr (Fr.tr (Fr.yF rfl) (Fr.yN (h := yF h 700 L (xF h 700 L + nI 1)) hq)) (Fr.yP rfl)
    have hz1 := hg.S hL.1
    have hz2 : xS (yP (yN (yF h 700 L (xF h 700 L + nI 1)) q 10 10) 701 L (some q)) q = some (10, 10) := yN_q
    have hz3 : xP (yP (yN (yF h 700 L (xF h 700 L + nI 1)) q 10 10) 701 L (some q)) 701 L = some q := u2_s _ _ _ _
    generalize yP (yN (yF h 700 L (xF h 700 L + nI 1)) q 10 10) 701 L (some q) = hz at hg hz1 hz2 hz3 ⊢
    show V 36 _ [(.ref q)] _ _ _
    refine r_astore Mm dJx4a65c_add_7a177_36 (by decide) ?_
    show V 38 [some (.ref L), some (.int (nI i)), some (.ref v), some (.int (nI (xs.length))), some (.ref q)] _ _ _ _
    refine r_aload Mm dJx4a65c_add_7a177_38 rfl ?_
    refine r_iload_n Mm dJx4a65c_add_7a177_40 rfl ?_
    refine r_aload Mm dJx4a65c_add_7a177_41 rfl ?_
    refine r_iload_n Mm dJx4a65c_add_7a177_43 rfl ?_
    refine r_iconst (v := nI 1) Mm dJx4a65c_add_7a177_44 (by decide) ?_
    refine r_iaddN Mm dJx4a65c_add_7a177_45 ?_
    refine r_iload_n Mm dJx4a65c_add_7a177_46 rfl ?_
    refine r_iload_n Mm dJx4a65c_add_7a177_47 rfl ?_
    refine r_isubN Mm dJx4a65c_add_7a177_48 (by omega) ?_
    refine r_copyN (sp := i) (dp := i + 1) (n := (xs.length) - i) Mm dJx4a65c_add_7a177_49 (hz2) (hz2) cy_Jx4a65c_112 cyn cys cyi ⟨by omega, by omega⟩ (by omega) (by omega) (Nat.le_of_ble_eq_true rfl) (Nat.le_of_ble_eq_true rfl) ?_ ?_
    · exact fun j hj y hy => absurd hj (by omega)
    refine r_aload Mm dJx4a65c_add_7a177_52 rfl ?_
    refine r_iload_n Mm dJx4a65c_add_7a177_54 rfl ?_
    refine r_aload_n Mm dJx4a65c_add_7a177_55 rfl ?_
    refine r_aastE Mm dJx4a65c_add_7a177_56 (hz2) (by omega) (by omega) (show isE hz v from hv.fr hg) ?_
    refine r_aload_n Mm dJx4a65c_add_7a177_57 rfl ?_
    refine r_iload_n Mm dJx4a65c_add_7a177_58 rfl ?_
    refine r_iconst (v := nI 1) Mm dJx4a65c_add_7a177_59 (by decide) ?_
    refine r_iaddN Mm dJx4a65c_add_7a177_60 ?_
    refine r_putI (ty := .int) Mm dJx4a65c_add_7a177_61 fi_Jx4a65c_48 ki_7 rfl (hz1) rfl (i := 702) rfl rfl (by decide +kernel) rfl rfl ?_
    refine r_vret M dJx4a65c_add_7a177_64 ?_
    exact ⟨rfl, lp_insB (h1 := hz) (fun b => b = L) (fun b _ hb => Or.inl hb) hg hz1 hL.2.2.2.1 hz3 (Or.inr hq) hz2 (by omega) (by omega) (by omega) (fun j w hj => absurd (List.getElem?_eq_some_iff.mp hj).1 (by omega)) hv hi (fun z => absurd hq z) rfl⟩
/-- add(i, E): an element ahead of the i-th -/
theorem ct_laddI {g : Gl} {l : Launch} (hfl : l.stackTraces = false) (h : Hp) (L i v : Nat) (xs : List Nat) (hL : IsL (gN g 2) h L xs) (hi : i ≤ xs.length) (hlen : xs.length < 600) (hv : isE h v) : CT g l iJx4a65c_add_7a177 6 [.ref L, .int (nI i), .ref v] h 1 1500 (pRel (fun r h' => r = none ∧ LiP (gN g 2) h L h' (xs.insertIdx i v))) := by
  rcases id hL.2.2.2.2 with ⟨hx, hE⟩ | ⟨D, n, hD, hd, h1, h2, h3, hB⟩
  · exact ct_addIA hfl h L i v xs hL hi hlen hv (by rw [hx]; rfl) hE
  · rcases Nat.lt_or_ge xs.length n with q | q
    · exact ct_addIB hfl h L i v xs hL hi hlen hv D n hD hd q h2 h3 hB
    · exact ct_addIC hfl h L i v xs hL hi hlen hv D n hD hd (by omega) h2 (by omega) hB
