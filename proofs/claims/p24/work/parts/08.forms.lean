/-! ===== rules over numbers; frames; forms of contracts ===== -/
section RulesN
variable {g : Gl} {l : Launch} {R : Room} {own : String} {cc : ByteArray} {nL : Nat} {hh : List (Nat × Nat × Nat × Nat)} {mn : String} {V : VT} {X : XT} {pc : Nat} {lv : List (Option Value)} {st : List Value} {h : Hp} {kc ks : Nat}
theorem vp_inN {j n : Nat} (hj : j < n) (hn : n < 2 ^ 31) : vp_in (nI j) n := vp_in_nI hj hn
theorem r_iaddN (M : Mach g l R own cc nL hh mn V X) {a b : Nat} (hd : decode cc pc = .ok (.iadd, 1)) (kk : V (pc + 1) lv (.int (nI (a + b)) :: st) h kc ks) : V pc lv (.int (nI b) :: .int (nI a) :: st) h kc ks := r_iadd M hd (by rw [nI_add]; exact kk)
theorem r_imulN (M : Mach g l R own cc nL hh mn V X) {a b : Nat} (hd : decode cc pc = .ok (.imul, 1)) (kk : V (pc + 1) lv (.int (nI (a * b)) :: st) h kc ks) : V pc lv (.int (nI b) :: .int (nI a) :: st) h kc ks := r_imul M hd (by rw [pk_mul]; exact kk)
theorem r_isubN (M : Mach g l R own cc nL hh mn V X) {a b : Nat} (hd : decode cc pc = .ok (.isub, 1)) (hle : b ≤ a) (kk : V (pc + 1) lv (.int (nI (a - b)) :: st) h kc ks) : V pc lv (.int (nI b) :: .int (nI a) :: st) h kc ks := r_isub M hd (by rw [pk_sub hle]; exact kk)
theorem r_iincN (M : Mach g l R own cc nL hh mn V X) {i x k : Nat} {n : Int} (hd : decode cc pc = .ok (.iinc i n, 3)) (hi : lv[i]? = some (some (.int (nI x)))) (hv : Int32.ofInt n = nI k) (hk : i < nL) (kk : V (pc + 3) (lv.set i (some (.int (nI (x + k))))) st h kc ks) : V pc lv st h kc ks := r_iinc M hd hi (by rw [hv, nI_add]) hk kk

theorem r_icmp_ltN (M : Mach g l R own cc nL hh mn V X) {a b : Nat} {off : Int} {tgt : Nat} (hd : decode cc pc = .ok (.if_icmp .lt off, 3)) (ht : (pc : Int) + off = (tgt : Int)) (ha : a < 2 ^ 31) (hb : b < 2 ^ 31) (kt : a < b → V tgt lv st h kc ks) (kf : b ≤ a → V (pc + 3) lv st h kc ks) : V pc lv (.int (nI b) :: .int (nI a) :: st) h kc ks := r_icmp_lt M hd ht (fun q => kt ((nI_ltI ha hb).mp q)) (fun q => kf (Nat.not_lt.mp (fun z => q ((nI_ltI ha hb).mpr z))))
theorem r_icmp_geN (M : Mach g l R own cc nL hh mn V X) {a b : Nat} {off : Int} {tgt : Nat} (hd : decode cc pc = .ok (.if_icmp .ge off, 3)) (ht : (pc : Int) + off = (tgt : Int)) (ha : a < 2 ^ 31) (hb : b < 2 ^ 31) (kt : b ≤ a → V tgt lv st h kc ks) (kf : a < b → V (pc + 3) lv st h kc ks) : V pc lv (.int (nI b) :: .int (nI a) :: st) h kc ks := r_icmp_ge M hd ht (fun q => kt ((nI_leI hb ha).mp q)) (fun q => kf (Nat.not_le.mp (fun z => q ((nI_leI hb ha).mpr z))))
theorem r_icmp_gtN (M : Mach g l R own cc nL hh mn V X) {a b : Nat} {off : Int} {tgt : Nat} (hd : decode cc pc = .ok (.if_icmp .gt off, 3)) (ht : (pc : Int) + off = (tgt : Int)) (ha : a < 2 ^ 31) (hb : b < 2 ^ 31) (kt : b < a → V tgt lv st h kc ks) (kf : a ≤ b → V (pc + 3) lv st h kc ks) : V pc lv (.int (nI b) :: .int (nI a) :: st) h kc ks := r_icmp_gt M hd ht (fun q => kt ((nI_ltI hb ha).mp q)) (fun q => kf (Nat.not_lt.mp (fun z => q ((nI_ltI hb ha).mpr z))))
theorem r_icmp_leN (M : Mach g l R own cc nL hh mn V X) {a b : Nat} {off : Int} {tgt : Nat} (hd : decode cc pc = .ok (.if_icmp .le off, 3)) (ht : (pc : Int) + off = (tgt : Int)) (ha : a < 2 ^ 31) (hb : b < 2 ^ 31) (kt : a ≤ b → V tgt lv st h kc ks) (kf : b < a → V (pc + 3) lv st h kc ks) : V pc lv (.int (nI b) :: .int (nI a) :: st) h kc ks := r_icmp_le M hd ht (fun q => kt ((nI_leI ha hb).mp q)) (fun q => kf (Nat.not_le.mp (fun z => q ((nI_leI ha hb).mpr z))))
theorem r_icmp_eqN (M : Mach g l R own cc nL hh mn V X) {a b : Nat} {off : Int} {tgt : Nat} (hd : decode cc pc = .ok (.if_icmp .eq off, 3)) (ht : (pc : Int) + off = (tgt : Int)) (ha : a < 2 ^ 31) (hb : b < 2 ^ 31) (kt : a = b → V tgt lv st h kc ks) (kf : ¬ a = b → V (pc + 3) lv st h kc ks) : V pc lv (.int (nI b) :: .int (nI a) :: st) h kc ks := r_icmp_eq M hd ht (fun q => kt ((nI_eq ha hb).mp q)) (fun q => kf (fun z => q ((nI_eq ha hb).mpr z)))
theorem r_icmp_neN (M : Mach g l R own cc nL hh mn V X) {a b : Nat} {off : Int} {tgt : Nat} (hd : decode cc pc = .ok (.if_icmp .ne off, 3)) (ht : (pc : Int) + off = (tgt : Int)) (ha : a < 2 ^ 31) (hb : b < 2 ^ 31) (kt : ¬ a = b → V tgt lv st h kc ks) (kf : a = b → V (pc + 3) lv st h kc ks) : V pc lv (.int (nI b) :: .int (nI a) :: st) h kc ks := r_icmp_ne M hd ht (fun q => kt (fun z => q ((nI_eq ha hb).mpr z))) (fun q => kf ((nI_eq ha hb).mp q))
theorem r_if_eqN (M : Mach g l R own cc nL hh mn V X) {a : Nat} {off : Int} {tgt : Nat} (hd : decode cc pc = .ok (.ifCond .eq off, 3)) (ht : (pc : Int) + off = (tgt : Int)) (ha : a < 2 ^ 31) (kt : a = 0 → V tgt lv st h kc ks) (kf : 0 < a → V (pc + 3) lv st h kc ks) : V pc lv (.int (nI a) :: st) h kc ks := r_if_eq M hd ht (fun q => kt ((nI_eq ha (by decide)).mp (q.trans nI_0.symm))) (fun q => kf (Nat.pos_of_ne_zero (fun z => q (by rw [z]; exact nI_0))))
theorem r_if_neN (M : Mach g l R own cc nL hh mn V X) {a : Nat} {off : Int} {tgt : Nat} (hd : decode cc pc = .ok (.ifCond .ne off, 3)) (ht : (pc : Int) + off = (tgt : Int)) (ha : a < 2 ^ 31) (kt : 0 < a → V tgt lv st h kc ks) (kf : a = 0 → V (pc + 3) lv st h kc ks) : V pc lv (.int (nI a) :: st) h kc ks := r_if_ne M hd ht (fun q => kt (Nat.pos_of_ne_zero (fun z => q (by rw [z]; exact nI_0)))) (fun q => kf ((nI_eq ha (by decide)).mp (q.trans nI_0.symm)))
theorem nI_le0 {a : Nat} (ha : a < 2 ^ 31) : nI a ≤ 0 ↔ a = 0 := by rw [← nI_0, nI_leI ha (by decide)]; omega
theorem nI_gt0 {a : Nat} (ha : a < 2 ^ 31) : 0 < nI a ↔ 0 < a := by rw [← nI_0, nI_ltI (by decide) ha]
theorem nI_ge0 {a : Nat} (ha : a < 2 ^ 31) : 0 ≤ nI a := nI_pos' ha
theorem r_if_gtN (M : Mach g l R own cc nL hh mn V X) {a : Nat} {off : Int} {tgt : Nat} (hd : decode cc pc = .ok (.ifCond .gt off, 3)) (ht : (pc : Int) + off = (tgt : Int)) (ha : a < 2 ^ 31) (kt : 0 < a → V tgt lv st h kc ks) (kf : a = 0 → V (pc + 3) lv st h kc ks) : V pc lv (.int (nI a) :: st) h kc ks := r_if_gt M hd ht (fun q => kt ((nI_gt0 ha).mp q)) (fun q => kf (Nat.eq_zero_of_not_pos (fun z => q ((nI_gt0 ha).mpr z))))
theorem r_if_leN (M : Mach g l R own cc nL hh mn V X) {a : Nat} {off : Int} {tgt : Nat} (hd : decode cc pc = .ok (.ifCond .le off, 3)) (ht : (pc : Int) + off = (tgt : Int)) (ha : a < 2 ^ 31) (kt : a = 0 → V tgt lv st h kc ks) (kf : 0 < a → V (pc + 3) lv st h kc ks) : V pc lv (.int (nI a) :: st) h kc ks := r_if_le M hd ht (fun q => kt ((nI_le0 ha).mp q)) (fun q => kf (Nat.pos_of_ne_zero (fun z => q ((nI_le0 ha).mpr z))))
theorem vp_of {x : Int32} {n : Nat} (h1 : ¬ x < 0) (h2 : x < nI n) (hn : n < 2 ^ 31) : vp_in x n := by
  obtain ⟨j, hj, rfl⟩ := nI_of h1
  exact vp_inN ((nI_ltI hj hn).mp h2) hn
/-- a truth as the machine has it -/
def bI (b : Bool) : Int32 := if b = true then 1 else 0
theorem r_if_eqB (M : Mach g l R own cc nL hh mn V X) {b : Bool} {off : Int} {tgt : Nat} (hd : decode cc pc = .ok (.ifCond .eq off, 3)) (ht : (pc : Int) + off = (tgt : Int)) (kt : b = false → V tgt lv st h kc ks) (kf : b = true → V (pc + 3) lv st h kc ks) : V pc lv (.int (bI b) :: st) h kc ks := r_if_eq M hd ht (fun q => kt (by cases b <;> first | rfl | exact absurd q (by decide))) (fun q => kf (by cases b <;> first | rfl | exact absurd rfl q))
theorem r_if_neB (M : Mach g l R own cc nL hh mn V X) {b : Bool} {off : Int} {tgt : Nat} (hd : decode cc pc = .ok (.ifCond .ne off, 3)) (ht : (pc : Int) + off = (tgt : Int)) (kt : b = true → V tgt lv st h kc ks) (kf : b = false → V (pc + 3) lv st h kc ks) : V pc lv (.int (bI b) :: st) h kc ks := r_if_ne M hd ht (fun q => kt (by cases b <;> first | rfl | exact absurd rfl q)) (fun q => kf (by cases b <;> first | rfl | exact absurd q (by decide)))
theorem bI_nar (b : Bool) : narrow .boolean (.int (bI b)) = .int (bI b) := by cases b <;> rfl
theorem r_ialdN (M : Mach g l R own cc nL hh mn V X) {a n j : Nat} (hd : decode cc pc = .ok (.iaload, 1)) (hs : xS h a = some (8, n)) (hj : j < n) (hn : n < 2 ^ 31) (kk : V (pc + 1) lv (.int (xA h a j) :: st) h kc ks) : V pc lv (.int (nI j) :: .ref a :: st) h kc ks := r_iald M hd hs (vp_inN hj hn) (by rw [nI_clamp (by omega)]; exact kk)
theorem r_zaldN (M : Mach g l R own cc nL hh mn V X) {a n j : Nat} (hd : decode cc pc = .ok (.baload, 1)) (hs : xS h a = some (9, n)) (hj : j < n) (hn : n < 2 ^ 31) (kk : V (pc + 1) lv (.int (xA h a j) :: st) h kc ks) : V pc lv (.int (nI j) :: .ref a :: st) h kc ks := r_zald M hd hs (vp_inN hj hn) (by rw [nI_clamp (by omega)]; exact kk)
theorem r_aaldN (M : Mach g l R own cc nL hh mn V X) {a n j b : Nat} (hd : decode cc pc = .ok (.aaload, 1)) (hs : xS h a = some (10, n)) (hj : j < n) (hn : n < 2 ^ 31) (hv : xB h a j = some b) (kk : V (pc + 1) lv (.ref b :: st) h kc ks) : V pc lv (.int (nI j) :: .ref a :: st) h kc ks := r_aald M hd hs (vp_inN hj hn) (by rw [nI_clamp (by omega)]; exact hv) kk
theorem r_iastN (M : Mach g l R own cc nL hh mn V X) {a n j : Nat} {v : Int32} (hd : decode cc pc = .ok (.iastore, 1)) (hs : xS h a = some (8, n)) (hj : j < n) (hn : n < 2 ^ 31) (kk : V (pc + 1) lv st (yA h a j v) kc ks) : V pc lv (.int v :: .int (nI j) :: .ref a :: st) h kc ks := r_iast M hd hs (vp_inN hj hn) (by rw [nI_clamp (by omega)]; exact kk)
theorem r_zastN (M : Mach g l R own cc nL hh mn V X) {a n j : Nat} {v : Int32} (hd : decode cc pc = .ok (.bastore, 1)) (hs : xS h a = some (9, n)) (hj : j < n) (hn : n < 2 ^ 31) (hnv : vp_nar .boolean v = v) (kk : V (pc + 1) lv st (yA h a j v) kc ks) : V pc lv (.int v :: .int (nI j) :: .ref a :: st) h kc ks := r_zast M hd hs (vp_inN hj hn) hnv (by rw [nI_clamp (by omega)]; exact kk)
theorem r_aastN0 (M : Mach g l R own cc nL hh mn V X) {a n j : Nat} (hd : decode cc pc = .ok (.aastore, 1)) (hs : xS h a = some (10, n)) (hj : j < n) (hn : n < 2 ^ 31) (kk : V (pc + 1) lv st (yB h a j none) kc ks) : V pc lv (.null :: .int (nI j) :: .ref a :: st) h kc ks := r_aastN M hd hs (vp_inN hj hn) (by rw [nI_clamp (by omega)]; exact kk)
/-- what an element of an object row is: an object of a known class -/
def isE (h : Hp) (v : Nat) : Prop := ∃ (ci nv : Nat) (r : vw_C), xS h v = some (ci, nv) ∧ kcl[ci]? = some r ∧ Cond.castable r.1 "java/lang/Object" ∈ NW
theorem r_aastE (M : Mach g l R own cc nL hh mn V X) {a n j v : Nat} (hd : decode cc pc = .ok (.aastore, 1)) (hs : xS h a = some (10, n)) (hj : j < n) (hn : n < 2 ^ 31) (hv : isE h v) (kk : V (pc + 1) lv st (yB h a j (some v)) kc ks) : V pc lv (.ref v :: .int (nI j) :: .ref a :: st) h kc ks := by
  obtain ⟨ci, nv, r, h1, h2, h3⟩ := hv
  exact r_aast M hd hs (vp_inN hj hn) h1 (C1 := r.1) (T1 := r.2.1) (N1 := r.2.2) h2 h3 (by rw [nI_clamp (by omega)]; exact kk)
theorem r_copyN (M : Mach g l R own cc nL hh mn V X) {idx a b na nb sp dp n : Nat} (hd : decode cc pc = .ok (.invokestatic idx, 3)) (ha : xS h a = some (10, na)) (hbb : xS h b = some (10, nb)) (hw1 : Cond.methodLink own idx arraycopyName ∈ TB) (hw2 : Cond.native arraycopyName ∈ TB) (hw3 : Cond.static arraycopyName ∈ TB) (hw4 : Cond.initialized "java/lang/System" ∈ TB) (hz : na < 2 ^ 31 ∧ nb < 2 ^ 31) (h4 : sp + n ≤ na) (h5 : dp + n ≤ nb) (hr1 : 1 ≤ R.frames) (hr2 : (st.map fun v => v.category).sum + (nativeFrameWords "java/lang/System" "arraycopy" 5 + 11) ≤ R.locals) (hel : ∀ i : Nat, i < n → ∀ y : Nat, xB h a (sp + i) = some y → isE h y) (kk : V (pc + 3) lv st (yC h b (va_cpy (xB h a) (xB h b) sp dp n)) kc ks) : V pc lv (.int (nI n) :: .int (nI dp) :: .ref b :: .int (nI sp) :: .ref a :: st) h kc ks := by
  have e1 : (nI sp).toNatClampNeg = sp := nI_clamp (by omega)
  have e2 : (nI dp).toNatClampNeg = dp := nI_clamp (by omega)
  have e3 : (nI n).toNatClampNeg = n := nI_clamp (by omega)
  refine r_copy M hd ha hbb hw1 hw2 hw3 hw4 (nI_pos (by omega)) (nI_pos (by omega)) (nI_pos (by omega)) (by rw [e1, e3]; exact h4) (by rw [e2, e3]; exact h5) (fun i hi y hy => ?_) hr1 hr2 (by rw [e1, e2, e3]; exact kk)
  rw [e3] at hi
  rw [e1] at hy
  exact hel i hi y hy
theorem r_top (x y : Int32) (e : x = y) (kk : V pc lv (.int y :: st) h kc ks) : V pc lv (.int x :: st) h kc ks := e ▸ kk
end RulesN
theorem maxN {a b : Nat} (ha : a < 2 ^ 31) (hb : b < 2 ^ 31) : (if nI a < nI b then nI b else nI a) = nI (max a b) := by
  rcases Nat.lt_or_ge a b with q | q
  · rw [if_pos (nI_lt q hb), Nat.max_eq_right (by omega)]
  · rw [if_neg (nI_nlt q ha), Nat.max_eq_left q]
theorem minN {a b : Nat} (ha : a < 2 ^ 31) (hb : b < 2 ^ 31) : (if nI b < nI a then nI b else nI a) = nI (min a b) := by
  rcases Nat.lt_or_ge b a with q | q
  · rw [if_pos (nI_lt q ha), Nat.min_eq_right (by omega)]
  · rw [if_neg (nI_nlt q hb), Nat.min_eq_left q]
/-- contracts that only return, only throw -/
def pRet (v : Option Value) (h0 : Hp) : Res → Hp → Prop
  | .inl r, h' => r = v ∧ h0 = h'
  | .inr _, _ => False
def pThr (E0 : String) (h0 : Hp) : Res → Hp → Prop
  | .inl _, _ => False
  | .inr E, h' => E = E0 ∧ h0 = h'
def pRel (P : Option Value → Hp → Prop) : Res → Hp → Prop
  | .inl r, h' => P r h'
  | .inr _, _ => False
theorem pRet_no {v : Option Value} {h0 : Hp} (E : String) (h' : Hp) : ¬ pRet v h0 (.inr E) h' := fun q => q
theorem pRel_no {P : Option Value → Hp → Prop} (E : String) (h' : Hp) : ¬ pRel P (.inr E) h' := fun q => q
theorem ct_weak {g : Gl} {l : Launch} {mi : MI} {d : Nat} {av : List Value} {h : Hp} {mc ms : Nat} {P Q : Res → Hp → Prop} (hM : CT g l mi d av h mc ms P) (hr : ∀ (r : Option Value) (h' : Hp), P (.inl r) h' → Q (.inl r) h') (he : ∀ (E : String) (h' : Hp), P (.inr E) h' → Q (.inr E) h') : CT g l mi d av h mc ms Q := by
  intro p e h1 h2 h3 s m args below h4 h5 h6 h7
  obtain ⟨n, o, a1, a2, a3, a4⟩ := hM p e h1 h2 h3 s m args below h4 h5 h6 h7
  refine ⟨n, o, a1, a2, a3, ?_⟩
  rcases a4 with ⟨⟨⟨r, h', b1, b2, b3⟩, b4⟩, b5⟩ | ⟨q, b1, E, ce, L, ⟨⟨h', b2, b3⟩, b4⟩, b5⟩
  · exact Or.inl ⟨⟨⟨r, h', b1, hr r h' b2, b3⟩, b4⟩, b5⟩
  · exact Or.inr ⟨q, b1, E, ce, L, ⟨⟨h', he E h' b2, b3⟩, b4⟩, b5⟩
/-- a heap grown out of another: old cells stay, but for those in Wr -/
def Fr (Wr : Nat → Prop) (h h' : Hp) : Prop := ∀ (b : Nat) (z : Nat × Nat), xS h b = some z → xS h' b = some z ∧ (¬ Wr b → (∀ i, xF h' i b = xF h i b) ∧ (∀ i, xP h' i b = xP h i b) ∧ xA h' b = xA h b ∧ xB h' b = xB h b ∧ xL h' b = xL h b)
theorem Fr.rf {Wr : Nat → Prop} {h : Hp} : Fr Wr h h := fun _ _ hz => ⟨hz, fun _ => ⟨fun _ => rfl, fun _ => rfl, rfl, rfl, rfl⟩⟩
theorem Fr.tr {Wr : Nat → Prop} {h1 h2 h3 : Hp} (a : Fr Wr h1 h2) (b : Fr Wr h2 h3) : Fr Wr h1 h3 := fun c z hz => by
  obtain ⟨p1, p2⟩ := a c z hz
  obtain ⟨q1, q2⟩ := b c z p1
  refine ⟨q1, fun hw => ?_⟩
  obtain ⟨a1, a2, a3, a4, a5⟩ := p2 hw
  obtain ⟨b1, b2, b3, b4, b5⟩ := q2 hw
  exact ⟨fun i => (b1 i).trans (a1 i), fun i => (b2 i).trans (a2 i), b3.trans a3, b4.trans a4, b5.trans a5⟩
theorem Fr.mono {Wr Wr' : Nat → Prop} {h h' : Hp} (a : Fr Wr h h') (hm : ∀ b, xS h b ≠ none → Wr b → Wr' b) : Fr Wr' h h' := fun c z hz => ⟨(a c z hz).1, fun hw => (a c z hz).2 (fun q => hw (hm c (by rw [hz]; exact fun z => nomatch z) q))⟩
theorem Fr.S {Wr : Nat → Prop} {h h' : Hp} (a : Fr Wr h h') {b : Nat} {z : Nat × Nat} (hz : xS h b = some z) : xS h' b = some z := (a b z hz).1
theorem Fr.F {Wr : Nat → Prop} {h h' : Hp} (a : Fr Wr h h') {b : Nat} {z : Nat × Nat} (hz : xS h b = some z) (hw : ¬ Wr b) (i : Nat) : xF h' i b = xF h i b := ((a b z hz).2 hw).1 i
theorem Fr.P {Wr : Nat → Prop} {h h' : Hp} (a : Fr Wr h h') {b : Nat} {z : Nat × Nat} (hz : xS h b = some z) (hw : ¬ Wr b) (i : Nat) : xP h' i b = xP h i b := ((a b z hz).2 hw).2.1 i
theorem Fr.A {Wr : Nat → Prop} {h h' : Hp} (a : Fr Wr h h') {b : Nat} {z : Nat × Nat} (hz : xS h b = some z) (hw : ¬ Wr b) : xA h' b = xA h b := ((a b z hz).2 hw).2.2.1
theorem Fr.B {Wr : Nat → Prop} {h h' : Hp} (a : Fr Wr h h') {b : Nat} {z : Nat × Nat} (hz : xS h b = some z) (hw : ¬ Wr b) : xB h' b = xB h b := ((a b z hz).2 hw).2.2.2.1
theorem Fr.L {Wr : Nat → Prop} {h h' : Hp} (a : Fr Wr h h') {b : Nat} {z : Nat × Nat} (hz : xS h b = some z) (hw : ¬ Wr b) : xL h' b = xL h b := ((a b z hz).2 hw).2.2.2.2
theorem Fr.yF {Wr : Nat → Prop} {h : Hp} {i a : Nat} {v : Int32} (ha : Wr a) : Fr Wr h (yF h i a v) := fun b z hz => ⟨hz, fun hw => ⟨fun j => u2_n _ _ (fun q => hw (q.2 ▸ ha)), fun _ => rfl, rfl, rfl, rfl⟩⟩
theorem Fr.yP {Wr : Nat → Prop} {h : Hp} {i a : Nat} {v : Option Nat} (ha : Wr a) : Fr Wr h (yP h i a v) := fun b z hz => ⟨hz, fun hw => ⟨fun _ => rfl, fun j => u2_n _ _ (fun q => hw (q.2 ▸ ha)), rfl, rfl, rfl⟩⟩
theorem Fr.yA {Wr : Nat → Prop} {h : Hp} {i a : Nat} {v : Int32} (ha : Wr a) : Fr Wr h (yA h a i v) := fun b z hz => ⟨hz, fun hw => ⟨fun _ => rfl, fun _ => rfl, u2_row _ _ _ (fun q => hw (q ▸ ha)), rfl, rfl⟩⟩
theorem Fr.yB {Wr : Nat → Prop} {h : Hp} {i a : Nat} {v : Option Nat} (ha : Wr a) : Fr Wr h (yB h a i v) := fun b z hz => ⟨hz, fun hw => ⟨fun _ => rfl, fun _ => rfl, rfl, u2_row _ _ _ (fun q => hw (q ▸ ha)), rfl⟩⟩
theorem Fr.yC {Wr : Nat → Prop} {h : Hp} {a : Nat} {v : Nat → Option Nat} (ha : Wr a) : Fr Wr h (yC h a v) := fun b z hz => ⟨hz, fun hw => ⟨fun _ => rfl, fun _ => rfl, rfl, by show u1 _ _ _ b = _; simp only [u1, if_neg (fun q : b = a => hw (q ▸ ha))], rfl⟩⟩
theorem Fr.yL {Wr : Nat → Prop} {h : Hp} {i a : Nat} {v : Int64} (ha : Wr a) : Fr Wr h (yL h a i v) := fun b z hz => ⟨hz, fun hw => ⟨fun _ => rfl, fun _ => rfl, rfl, rfl, u2_row _ _ _ (fun q => hw (q ▸ ha))⟩⟩
theorem yN_S {h : Hp} {q kd n b : Nat} {z : Nat × Nat} (hq : xS h q = none) (hz : xS h b = some z) : xS (yN h q kd n) b = some z := by
  have hb : b ≠ q := fun e => by rw [e, hq] at hz; cases hz
  show va_up _ _ _ b = _
  rw [va_up_ne _ _ hb, hz]
theorem yN_q {h : Hp} {q kd n : Nat} : xS (yN h q kd n) q = some (kd, n) := va_up_self _ _ _
theorem yN_P {h : Hp} {q kd n b i : Nat} {z : Nat × Nat} {v : Option Nat} (hq : xS h q = none) (hz : xS h b = some z) (hv : xP h i b = v) : xP (yN h q kd n) i b = v := by
  have hb : b ≠ q := fun e => by rw [e, hq] at hz; cases hz
  show (if b = q then none else xP h i b) = v
  rw [if_neg hb, hv]
theorem Fr.yN {Wr : Nat → Prop} {h : Hp} {q kd n : Nat} (hq : xS h q = none) : Fr Wr h (yN h q kd n) := fun b z hz => ⟨yN_S hq hz, fun _ => by
  have hb : b ≠ q := fun e => by rw [e, hq] at hz; cases hz
  refine ⟨fun i => ?_, fun i => ?_, ?_, ?_, ?_⟩
  · show (if b = q then 0 else xF h i b) = _; rw [if_neg hb]
  · show (if b = q then none else xP h i b) = _; rw [if_neg hb]
  · funext i; show (if b = q then 0 else xA h b i) = _; rw [if_neg hb]
  · funext i; show (if b = q then none else xB h b i) = _; rw [if_neg hb]
  · funext i; show (if b = q then 0 else xL h b i) = _; rw [if_neg hb]⟩
/-- reading through writes -/
theorem xF_yF (h : Hp) (i a : Nat) (v : Int32) (j b : Nat) : xF (yF h i a v) j b = if j = i ∧ b = a then v else xF h j b := rfl
theorem xP_yP (h : Hp) (i a : Nat) (v : Option Nat) (j b : Nat) : xP (yP h i a v) j b = if j = i ∧ b = a then v else xP h j b := rfl
theorem xA_yA (h : Hp) (a i : Nat) (v : Int32) (b j : Nat) : xA (yA h a i v) b j = if b = a ∧ j = i then v else xA h b j := rfl
theorem xB_yB (h : Hp) (a i : Nat) (v : Option Nat) (b j : Nat) : xB (yB h a i v) b j = if b = a ∧ j = i then v else xB h b j := rfl
theorem yF_self (h : Hp) (i a : Nat) : yF h i a (xF h i a) = h := by
  have : u2 (xF h) i a (xF h i a) = xF h := by
    funext j b
    by_cases q : j = i ∧ b = a
    · rw [q.1, q.2, u2_s]
    · rw [u2_n _ _ q]
  show (xS h, u2 (xF h) i a (xF h i a), xP h, xA h, xB h, xL h) = h
  rw [this]
  rfl
