/-! ===== the rules of V that touch the heap; calls; ends ===== -/
theorem u2_s {α : Type} (f : Nat → Nat → α) (i a : Nat) (v : α) : u2 f i a v i a = v := by simp [u2]
theorem u2_n {α : Type} (f : Nat → Nat → α) {i a j b : Nat} (v : α) (hn : ¬ (j = i ∧ b = a)) : u2 f i a v j b = f j b := by simp only [u2, if_neg hn]
/-- what an instruction that names a field needs: the class ci, its field k -/
def FI (own : String) (idx ci k : Nat) : Prop := ∃ (C : String) (T : u_T) (N : Nat) (ref : String), kcl[ci]? = some (C, T, N) ∧ k < N ∧ (∀ w ∈ u_ws C T N, w ∈ TB) ∧ Cond.fieldLink own idx ref (T k).2.1 (T k).2.2.1 ∈ TB ∧ ((T k).1 = ref ∨ Cond.sameField ref (T k).1 (T k).2.1 (T k).2.2.1 ∈ TB)
/-- what every class gives -/
def KI (ci : Nat) : Prop := ∃ (C : String) (T : u_T) (N : Nat) (ty : Nat → FieldType), kcl[ci]? = some (C, T, N) ∧ (∀ w ∈ u_ws C T N, w ∈ TB) ∧ (∀ k, k < N → parseFieldDescriptor (T k).2.2.1 = some (ty k)) ∧ (∀ a, a < N → ∀ b, b < N → a ≠ b → (T a).2.1 ≠ (T b).2.1) ∧ (∀ j, j < N → defaultValue (ty j) = if (flg ci).getD j false = true then .null else .int 0) ∧ (flg ci).length = N ∧ ci < 8
theorem ent_obj {g : Gl} {h : Hp} {a ci n : Nat} (hc : ci < 8) : ent g h a ci n = .inr (ci, fsOf h a ci) := by
  match ci, hc with
  | 0, _ => rfl
  | 1, _ => rfl
  | 2, _ => rfl
  | 3, _ => rfl
  | 4, _ => rfl
  | 5, _ => rfl
  | 6, _ => rfl
  | 7, _ => rfl
theorem kcl_lt {ci : Nat} {r : vw_C} (h : kcl[ci]? = some r) : ci < 8 := (List.getElem?_eq_some_iff.mp h).1
theorem ent_congr {g : Gl} {h h' : Hp} {b : Nat} (e1 : ∀ i, xF h' i b = xF h i b) (e2 : ∀ i, xP h' i b = xP h i b) (e3 : xA h' b = xA h b) (e4 : xB h' b = xB h b) (e5 : xL h' b = xL h b) (kd n : Nat) : ent g h' b kd n = ent g h b kd n := by
  have e : fsOf h' b = fsOf h b := by
    funext ci
    simp only [fsOf, fv, e1, e2]
  simp only [ent, e, e3, e4, e5]
theorem fs_setF {h : Hp} {a ci k : Nat} {v : Int32} (hf : (flg ci)[k]? = some false) : (fsOf h a ci).set k (.int v) = fsOf (yF h (100 * ci + k) a v) a ci := by
  apply List.ext_getElem?
  intro j
  rw [fsOf_get, List.getElem?_set]
  by_cases hj : k = j
  · subst hj
    have : k < (fsOf h a ci).length := by rw [fsOf_len]; exact (List.getElem?_eq_some_iff.mp hf).1
    simp [this, hf, fv, yF, xF, u2]
  · rw [if_neg hj, fsOf_get]
    congr 1
    funext b
    have : ¬ (100 * ci + j = 100 * ci + k ∧ a = a) := fun q => hj (by omega)
    simp only [fv]
    show (if b = true then va_rf (xP h (100 * ci + j) a) else Value.int (xF h (100 * ci + j) a)) = (if b = true then va_rf (xP h (100 * ci + j) a) else Value.int (u2 (xF h) (100 * ci + k) a v (100 * ci + j) a))
    rw [u2_n _ _ this]
theorem fs_setP {h : Hp} {a ci k : Nat} {v : Option Nat} (hf : (flg ci)[k]? = some true) : (fsOf h a ci).set k (va_rf v) = fsOf (yP h (100 * ci + k) a v) a ci := by
  apply List.ext_getElem?
  intro j
  rw [fsOf_get, List.getElem?_set]
  by_cases hj : k = j
  · subst hj
    have : k < (fsOf h a ci).length := by rw [fsOf_len]; exact (List.getElem?_eq_some_iff.mp hf).1
    simp [this, hf, fv, yP, xP, u2]
  · rw [if_neg hj, fsOf_get]
    congr 1
    funext b
    have : ¬ (100 * ci + j = 100 * ci + k ∧ a = a) := fun q => hj (by omega)
    simp only [fv]
    show (if b = true then va_rf (xP h (100 * ci + j) a) else Value.int (xF h (100 * ci + j) a)) = (if b = true then va_rf (u2 (xP h) (100 * ci + k) a v (100 * ci + j) a) else Value.int (xF h (100 * ci + j) a))
    rw [u2_n _ _ this]
theorem yF_ent {g : Gl} {h : Hp} {i a : Nat} {v : Int32} : ∀ b kd n : Nat, b ≠ a → ent g (yF h i a v) b kd n = ent g h b kd n := fun b kd n hb => ent_congr (h := h) (h' := yF h i a v) (b := b) (fun j => u2_n _ _ (fun q => hb q.2)) (fun _ => rfl) rfl rfl rfl kd n
theorem yP_ent {g : Gl} {h : Hp} {i a : Nat} {v : Option Nat} : ∀ b kd n : Nat, b ≠ a → ent g (yP h i a v) b kd n = ent g h b kd n := fun b kd n hb => ent_congr (h := h) (h' := yP h i a v) (b := b) (fun _ => rfl) (fun j => u2_n _ _ (fun q => hb q.2)) rfl rfl rfl kd n
theorem u2_row {α : Type} (f : Nat → Nat → α) {a b : Nat} (i : Nat) (v : α) (hb : b ≠ a) : u2 f a i v b = f b := funext fun j => u2_n _ _ (fun q => hb q.1)
theorem u2_own {α : Type} (f : Nat → Nat → α) (a i : Nat) (v : α) : u2 f a i v a = fun j => if j = i then v else f a j := by funext j; simp [u2]
theorem yA_ent {g : Gl} {h : Hp} {i a : Nat} {v : Int32} : ∀ b kd n : Nat, b ≠ a → ent g (yA h a i v) b kd n = ent g h b kd n := fun b kd n hb => ent_congr (h := h) (h' := yA h a i v) (b := b) (fun _ => rfl) (fun _ => rfl) (u2_row _ _ _ hb) rfl rfl kd n
theorem yB_ent {g : Gl} {h : Hp} {i a : Nat} {v : Option Nat} : ∀ b kd n : Nat, b ≠ a → ent g (yB h a i v) b kd n = ent g h b kd n := fun b kd n hb => ent_congr (h := h) (h' := yB h a i v) (b := b) (fun _ => rfl) (fun _ => rfl) rfl (u2_row _ _ _ hb) rfl kd n
theorem yC_ent {g : Gl} {h : Hp} {a : Nat} {v : Nat → Option Nat} : ∀ b kd n : Nat, b ≠ a → ent g (yC h a v) b kd n = ent g h b kd n := fun b kd n hb => ent_congr (h := h) (h' := yC h a v) (b := b) (fun _ => rfl) (fun _ => rfl) rfl (by show u1 _ _ _ b = _; simp [u1, hb]) rfl kd n
theorem yL_ent {g : Gl} {h : Hp} {i a : Nat} {v : Int64} : ∀ b kd n : Nat, b ≠ a → ent g (yL h a i v) b kd n = ent g h b kd n := fun b kd n hb => ent_congr (h := h) (h' := yL h a i v) (b := b) (fun _ => rfl) (fun _ => rfl) rfl rfl (u2_row _ _ _ hb) kd n
theorem yN_ent {g : Gl} {h : Hp} {q kd0 n0 : Nat} : ∀ b kd n : Nat, b ≠ q → ent g (yN h q kd0 n0) b kd n = ent g h b kd n := fun b kd n hb => by
  refine ent_congr (h := h) (h' := yN h q kd0 n0) (b := b) (fun i => ?_) (fun i => ?_) ?_ ?_ ?_ kd n
  · show (if b = q then 0 else xF h i b) = _; rw [if_neg hb]
  · show (if b = q then none else xP h i b) = _; rw [if_neg hb]
  · funext i; show (if b = q then 0 else xA h b i) = _; rw [if_neg hb]
  · funext i; show (if b = q then none else xB h b i) = _; rw [if_neg hb]
  · funext i; show (if b = q then 0 else xL h b i) = _; rw [if_neg hb]
section RulesH
variable {g : Gl} {l : Launch} {R : Room} {own : String} {cc : ByteArray} {nL : Nat} {hh : List (Nat × Nat × Nat × Nat)} {mn : String} {V : VT} {X : XT} {pc : Nat} {lv : List (Option Value)} {st : List Value} {h : Hp} {kc ks : Nat}

theorem r_getI (M : Mach g l R own cc nL hh mn V X) {idx ci k n a i : Nat} (hd : decode cc pc = .ok (.getfield idx, 3)) (hf : FI own idx ci k) (hs : xS h a = some (ci, n)) (hk : (flg ci)[k]? = some false) (hi : 100 * ci + k = i) (kk : V (pc + 3) lv (.int (xF h i a) :: st) h kc ks) : V pc lv (.ref a :: st) h kc ks := by
  obtain ⟨Qs, p, e, s, m, args, below, meth, c, hx, hb, hml, hown, hts, hgl, hlk, hnm, htab, hst, rfl, rfl⟩ := M
  intro hkc hks H locs ls hG hS hl
  obtain ⟨C, T, N, ref, f1, f2, f3, f4, f5⟩ := hf
  obtain ⟨ws, g1, g2, g3, g4⟩ := id hG
  obtain ⟨q0, hq0⟩ := g3 _ _ _ hs
  rw [ent_obj (kcl_lt f1)] at hq0
  have hsame : ∀ x, s.fieldFound? (T k).1 (T k).2.1 (T k).2.2.1 = some x → s.fieldFound? ref (T k).2.1 (T k).2.2.1 = some x := by
    rcases f5 with z | z
    · rw [z]; exact fun _ q => q
    · exact fun x9 h9 => u_same (hts _ z) x9 h9
  subst hi
  exact va_get hx hb hts f3 hown hgl.1.1 g1 q0 hq0 f1 k f2 (hts _ f4) hsame (by rw [fsOf_get, hk]; rfl) hd (kk hkc hks H locs ls hG hS hl)
theorem r_getR (M : Mach g l R own cc nL hh mn V X) {idx ci k n a i b : Nat} (hd : decode cc pc = .ok (.getfield idx, 3)) (hf : FI own idx ci k) (hs : xS h a = some (ci, n)) (hk : (flg ci)[k]? = some true) (hi : 100 * ci + k = i) (hv : xP h i a = some b) (kk : V (pc + 3) lv (.ref b :: st) h kc ks) : V pc lv (.ref a :: st) h kc ks := by
  obtain ⟨Qs, p, e, s, m, args, below, meth, c, hx, hb, hml, hown, hts, hgl, hlk, hnm, htab, hst, rfl, rfl⟩ := M
  intro hkc hks H locs ls hG hS hl
  obtain ⟨C, T, N, ref, f1, f2, f3, f4, f5⟩ := hf
  obtain ⟨ws, g1, g2, g3, g4⟩ := id hG
  obtain ⟨q0, hq0⟩ := g3 _ _ _ hs
  rw [ent_obj (kcl_lt f1)] at hq0
  have hsame : ∀ x, s.fieldFound? (T k).1 (T k).2.1 (T k).2.2.1 = some x → s.fieldFound? ref (T k).2.1 (T k).2.2.1 = some x := by
    rcases f5 with z | z
    · rw [z]; exact fun _ q => q
    · exact fun x9 h9 => u_same (hts _ z) x9 h9
  subst hi
  exact va_get hx hb hts f3 hown hgl.1.1 g1 q0 hq0 f1 k f2 (hts _ f4) hsame (v := .ref b) (by rw [fsOf_get, hk]; show some (va_rf _) = _; rw [hv]; rfl) hd (kk hkc hks H locs ls hG hS hl)
theorem r_putI (M : Mach g l R own cc nL hh mn V X) {idx ci k n a i : Nat} {v : Int32} {C1 : String} {T1 : u_T} {N1 : Nat} {ty : FieldType} (hd : decode cc pc = .ok (.putfield idx, 3)) (hf : FI own idx ci k) (hc : KI ci) (hcl : kcl[ci]? = some (C1, T1, N1)) (hs : xS h a = some (ci, n)) (hk : (flg ci)[k]? = some false) (hi : 100 * ci + k = i) (hfin : (T1 k).2.2.2 = false) (hty : parseFieldDescriptor (T1 k).2.2.1 = some ty) (hn : narrow ty (.int v) = .int v) (hft : fits ty (.int v) = true) (kk : V (pc + 3) lv st (yF h i a v) kc ks) : V pc lv (.int v :: .ref a :: st) h kc ks := by
  obtain ⟨Qs, p, e, s, m, args, below, meth, c, hx, hb, hml, hown, hts, hgl, hlk, hnm, htab, hst, rfl, rfl⟩ := M
  intro hkc hks H locs ls hG hS hl
  obtain ⟨C, T, N, ref, f1, f2, f3, f4, f5⟩ := hf
  obtain ⟨C', T', N', ty0, c1, c2, c3, c4, c5, c6, c7⟩ := hc
  cases c1.symm.trans f1
  obtain ⟨ws, g1, g2, g3, g4⟩ := id hG
  obtain ⟨q0, hq0⟩ := g3 _ _ _ hs
  rw [ent_obj (kcl_lt f1)] at hq0
  have hsame : ∀ x, s.fieldFound? (T k).1 (T k).2.1 (T k).2.2.1 = some x → s.fieldFound? ref (T k).2.1 (T k).2.2.1 = some x := by
    rcases f5 with z | z
    · rw [z]; exact fun _ q => q
    · exact fun x9 h9 => u_same (hts _ z) x9 h9
  have hkN : k < (fsOf h a ci).length := by rw [fsOf_len]; exact (List.getElem?_eq_some_iff.mp hk).1
  subst hi
  cases hcl.symm.trans f1
  exact va_put hx hb hts f3 ty0 c3 c4 hown hgl.1.1 g1 g2 hS q0 hq0 f1 k f2 (hts _ f4) hsame hfin hty hn hft hkN hd (fun H1 locs1 a1 a2 a3 => kk hkc hks H1 locs1 ls (HG.set g2 g3 g4 rfl hs _ hq0 yF_ent (by rw [ent_obj (kcl_lt f1), fs_setF hk]) a1 a2) a3 hl)
theorem r_putIF (M : Mach g l R own cc nL hh mn V X) {idx ci k n a i : Nat} {v : Int32} {C1 : String} {T1 : u_T} {N1 : Nat} {ty : FieldType} (hd : decode cc pc = .ok (.putfield idx, 3)) (hf : FI own idx ci k) (hc : KI ci) (hcl : kcl[ci]? = some (C1, T1, N1)) (hs : xS h a = some (ci, n)) (hk : (flg ci)[k]? = some false) (hi : 100 * ci + k = i) (hfin : (T1 k).2.2.2 = true) (hty : parseFieldDescriptor (T1 k).2.2.1 = some ty) (hn : narrow ty (.int v) = .int v) (hft : fits ty (.int v) = true) (hin : mn = "<init>") (hde : (T1 k).1 = own) (kk : V (pc + 3) lv st (yF h i a v) kc ks) : V pc lv (.int v :: .ref a :: st) h kc ks := by
  obtain ⟨Qs, p, e, s, m, args, below, meth, c, hx, hb, hml, hown, hts, hgl, hlk, hnm, htab, hst, rfl, rfl⟩ := M
  intro hkc hks H locs ls hG hS hl
  obtain ⟨C, T, N, ref, f1, f2, f3, f4, f5⟩ := hf
  obtain ⟨C', T', N', ty0, c1, c2, c3, c4, c5, c6, c7⟩ := hc
  cases c1.symm.trans f1
  obtain ⟨ws, g1, g2, g3, g4⟩ := id hG
  obtain ⟨q0, hq0⟩ := g3 _ _ _ hs
  rw [ent_obj (kcl_lt f1)] at hq0
  have hsame : ∀ x, s.fieldFound? (T k).1 (T k).2.1 (T k).2.2.1 = some x → s.fieldFound? ref (T k).2.1 (T k).2.2.1 = some x := by
    rcases f5 with z | z
    · rw [z]; exact fun _ q => q
    · exact fun x9 h9 => u_same (hts _ z) x9 h9
  have hkN : k < (fsOf h a ci).length := by rw [fsOf_len]; exact (List.getElem?_eq_some_iff.mp hk).1
  subst hi
  cases hcl.symm.trans f1
  exact va_putF hx hb hts f3 ty0 c3 c4 hown hgl.1.1 g1 g2 hS q0 hq0 f1 k f2 (hts _ f4) hsame hfin (hnm.trans hin) hde hty hn hft hkN hd (fun H1 locs1 a1 a2 a3 => kk hkc hks H1 locs1 ls (HG.set g2 g3 g4 rfl hs _ hq0 yF_ent (by rw [ent_obj (kcl_lt f1), fs_setF hk]) a1 a2) a3 hl)
theorem r_putR (M : Mach g l R own cc nL hh mn V X) {idx ci k n a i : Nat} {v : Option Nat} {C1 : String} {T1 : u_T} {N1 : Nat} {ty : FieldType} (hd : decode cc pc = .ok (.putfield idx, 3)) (hf : FI own idx ci k) (hc : KI ci) (hcl : kcl[ci]? = some (C1, T1, N1)) (hs : xS h a = some (ci, n)) (hk : (flg ci)[k]? = some true) (hi : 100 * ci + k = i) (hfin : (T1 k).2.2.2 = false) (hty : parseFieldDescriptor (T1 k).2.2.1 = some ty) (hn : narrow ty (va_rf v) = va_rf v) (hft : fits ty (va_rf v) = true) (kk : V (pc + 3) lv st (yP h i a v) kc ks) : V pc lv (va_rf v :: .ref a :: st) h kc ks := by
  obtain ⟨Qs, p, e, s, m, args, below, meth, c, hx, hb, hml, hown, hts, hgl, hlk, hnm, htab, hst, rfl, rfl⟩ := M
  intro hkc hks H locs ls hG hS hl
  obtain ⟨C, T, N, ref, f1, f2, f3, f4, f5⟩ := hf
  obtain ⟨C', T', N', ty0, c1, c2, c3, c4, c5, c6, c7⟩ := hc
  cases c1.symm.trans f1
  obtain ⟨ws, g1, g2, g3, g4⟩ := id hG
  obtain ⟨q0, hq0⟩ := g3 _ _ _ hs
  rw [ent_obj (kcl_lt f1)] at hq0
  have hsame : ∀ x, s.fieldFound? (T k).1 (T k).2.1 (T k).2.2.1 = some x → s.fieldFound? ref (T k).2.1 (T k).2.2.1 = some x := by
    rcases f5 with z | z
    · rw [z]; exact fun _ q => q
    · exact fun x9 h9 => u_same (hts _ z) x9 h9
  have hkN : k < (fsOf h a ci).length := by rw [fsOf_len]; exact (List.getElem?_eq_some_iff.mp hk).1
  subst hi
  cases hcl.symm.trans f1
  exact va_put hx hb hts f3 ty0 c3 c4 hown hgl.1.1 g1 g2 hS q0 hq0 f1 k f2 (hts _ f4) hsame hfin hty hn hft hkN hd (fun H1 locs1 a1 a2 a3 => kk hkc hks H1 locs1 ls (HG.set g2 g3 g4 rfl hs _ hq0 yP_ent (by rw [ent_obj (kcl_lt f1), fs_setP hk]) a1 a2) a3 hl)
theorem r_putRF (M : Mach g l R own cc nL hh mn V X) {idx ci k n a i : Nat} {v : Option Nat} {C1 : String} {T1 : u_T} {N1 : Nat} {ty : FieldType} (hd : decode cc pc = .ok (.putfield idx, 3)) (hf : FI own idx ci k) (hc : KI ci) (hcl : kcl[ci]? = some (C1, T1, N1)) (hs : xS h a = some (ci, n)) (hk : (flg ci)[k]? = some true) (hi : 100 * ci + k = i) (hfin : (T1 k).2.2.2 = true) (hty : parseFieldDescriptor (T1 k).2.2.1 = some ty) (hn : narrow ty (va_rf v) = va_rf v) (hft : fits ty (va_rf v) = true) (hin : mn = "<init>") (hde : (T1 k).1 = own) (kk : V (pc + 3) lv st (yP h i a v) kc ks) : V pc lv (va_rf v :: .ref a :: st) h kc ks := by
  obtain ⟨Qs, p, e, s, m, args, below, meth, c, hx, hb, hml, hown, hts, hgl, hlk, hnm, htab, hst, rfl, rfl⟩ := M
  intro hkc hks H locs ls hG hS hl
  obtain ⟨C, T, N, ref, f1, f2, f3, f4, f5⟩ := hf
  obtain ⟨C', T', N', ty0, c1, c2, c3, c4, c5, c6, c7⟩ := hc
  cases c1.symm.trans f1
  obtain ⟨ws, g1, g2, g3, g4⟩ := id hG
  obtain ⟨q0, hq0⟩ := g3 _ _ _ hs
  rw [ent_obj (kcl_lt f1)] at hq0
  have hsame : ∀ x, s.fieldFound? (T k).1 (T k).2.1 (T k).2.2.1 = some x → s.fieldFound? ref (T k).2.1 (T k).2.2.1 = some x := by
    rcases f5 with z | z
    · rw [z]; exact fun _ q => q
    · exact fun x9 h9 => u_same (hts _ z) x9 h9
  have hkN : k < (fsOf h a ci).length := by rw [fsOf_len]; exact (List.getElem?_eq_some_iff.mp hk).1
  subst hi
  cases hcl.symm.trans f1
  exact va_putF hx hb hts f3 ty0 c3 c4 hown hgl.1.1 g1 g2 hS q0 hq0 f1 k f2 (hts _ f4) hsame hfin (hnm.trans hin) hde hty hn hft hkN hd (fun H1 locs1 a1 a2 a3 => kk hkc hks H1 locs1 ls (HG.set g2 g3 g4 rfl hs _ hq0 yP_ent (by rw [ent_obj (kcl_lt f1), fs_setP hk]) a1 a2) a3 hl)
theorem r_new (M : Mach g l R own cc nL hh mn V X) {idx ci : Nat} {C1 : String} {T1 : u_T} {N1 : Nat} (hd : decode cc pc = .ok (.new idx, 3)) (hc : KI ci) (hcl : kcl[ci]? = some (C1, T1, N1)) (hw1 : Cond.classLink own idx C1 ∈ TB) (hw2 : Cond.instantiable C1 N1 ∈ TB) (hw3 : Cond.initialized C1 ∈ TB) (hr : kc + 1 ≤ R.cells ∧ ks + N1 ≤ R.slots) (kk : ∀ q : Nat, xS h q = none → V (pc + 3) lv (.ref q :: st) (yN h q ci 0) (kc + 1) (ks + N1)) : V pc lv st h kc ks := by
  obtain ⟨Qs, p, e, s, m, args, below, meth, c, hx, hb, hml, hown, hts, hgl, hlk, hnm, htab, hst, rfl, rfl⟩ := M
  intro hkc hks H locs ls hG hS hl
  obtain ⟨C', T', N', ty0, c1, c2, c3, c4, c5, c6, c7⟩ := hc
  cases c1.symm.trans hcl
  obtain ⟨ws, g1, g2, g3, g4⟩ := id hG
  have hA : ∀ q, s.heap.size ≤ q → gA g q := fun q hq => Nat.le_trans hgl.2.2.2.2.2.2.2.2 hq
  refine va_new (ci := ci) (fs := (flg ci).map (fun b => if b = true then Value.null else .int 0)) hx hb hts c2 ty0 c3 hown (hts _ hw1) (hts _ hw2) (hts _ hw3) hgl.1.1 g1 g2 hS hA c1 (fun j hj => ?_) hr.1 hr.2 hd (fun q H1 a1 a2 a3 => ?_)
  · rw [c5 j hj]
    have hjl : j < (flg ci).length := by omega
    simp [vp_V, List.getD_eq_getElem?_getD, hjl]
  · have hfs : (flg ci).map (fun b => if b = true then Value.null else .int 0) = fsOf (yN h q ci 0) q ci := by
      apply List.ext_getElem?
      intro j
      rw [fsOf_get, List.getElem?_map]
      congr 1
      funext b
      cases b <;> simp [fv, yN, xP, xF, va_rf]
    obtain ⟨b1, b2⟩ := HG.push (h' := yN h q ci 0) (n := 0) (kd := ci) g3 g4 a1 a2 rfl yN_ent (by rw [ent_obj c7, hfs])
    exact kk q b2 hr.1 hr.2 H1 locs ls b1 a3 hl
theorem r_newI (M : Mach g l R own cc nL hh mn V X) {x : Int32} {N : Nat} (hd : decode cc pc = .ok (.newarray .int, 2)) (hw : Cond.arrayClass .int ∈ TB) (hn : ¬ x < 0) (hN : x.toNatClampNeg = N) (hby : N * componentBytes .int ≤ 536870912) (hr : kc + 1 ≤ R.cells ∧ ks + N ≤ R.slots) (kk : ∀ q : Nat, xS h q = none → V (pc + 2) lv (.ref q :: st) (yN h q 8 N) (kc + 1) (ks + N)) : V pc lv (.int x :: st) h kc ks := by
  obtain ⟨Qs, p, e, s, m, args, below, meth, c, hx, hb, hml, hown, hts, hgl, hlk, hnm, htab, hst, rfl, rfl⟩ := M
  intro hkc hks H locs ls hG hS hl
  obtain ⟨ws, g1, g2, g3, g4⟩ := id hG
  have hA : ∀ q, s.heap.size ≤ q → gA g q := fun q hq => Nat.le_trans hgl.2.2.2.2.2.2.2.2 hq
  refine va_newa (atype := .int) (ty := .int) (a0 := (N, .inl (fun _ => 0))) hx hb (hts _ hw) rfl hgl.1.1 g1 g2 hS hA (fun cA => rfl) hn hN hby hr.1 hr.2 hd (fun q cA H1 hK1 a1 a2 a3 => ?_)
  have e1 := va_nm_int (hK1.2 3 (cA, .int) rfl).2
  have e2 := va_nm_int (hgl.1.1.2 0 (gC g 0, .int) rfl).2
  obtain rfl : cA = gC g 0 := Option.some.inj (e1.symm.trans e2)
  obtain ⟨b1, b2⟩ := HG.push (h' := yN h q 8 N) (n := N) (kd := 8) g3 g4 a1 a2 rfl yN_ent (by simp only [ent, yN, xA, xL]; simp)
  exact kk q b2 hr.1 hr.2 H1 locs ls b1 a3 hl
theorem r_newZ (M : Mach g l R own cc nL hh mn V X) {x : Int32} {N : Nat} (hd : decode cc pc = .ok (.newarray .boolean, 2)) (hw : Cond.arrayClass .boolean ∈ TB) (hn : ¬ x < 0) (hN : x.toNatClampNeg = N) (hby : N * componentBytes .boolean ≤ 536870912) (hr : kc + 1 ≤ R.cells ∧ ks + N ≤ R.slots) (kk : ∀ q : Nat, xS h q = none → V (pc + 2) lv (.ref q :: st) (yN h q 9 N) (kc + 1) (ks + N)) : V pc lv (.int x :: st) h kc ks := by
  obtain ⟨Qs, p, e, s, m, args, below, meth, c, hx, hb, hml, hown, hts, hgl, hlk, hnm, htab, hst, rfl, rfl⟩ := M
  intro hkc hks H locs ls hG hS hl
  obtain ⟨ws, g1, g2, g3, g4⟩ := id hG
  have hA : ∀ q, s.heap.size ≤ q → gA g q := fun q hq => Nat.le_trans hgl.2.2.2.2.2.2.2.2 hq
  refine va_newa (atype := .boolean) (ty := .boolean) (a0 := (N, .inl (fun _ => 0))) hx hb (hts _ hw) rfl hgl.1.1 g1 g2 hS hA (fun cA => rfl) hn hN hby hr.1 hr.2 hd (fun q cA H1 hK1 a1 a2 a3 => ?_)
  have e1 := va_nm_boolean (hK1.2 3 (cA, .boolean) rfl).2
  have e2 := va_nm_boolean (hgl.1.1.2 1 (gC g 1, .boolean) rfl).2
  obtain rfl : cA = gC g 1 := Option.some.inj (e1.symm.trans e2)
  obtain ⟨b1, b2⟩ := HG.push (h' := yN h q 9 N) (n := N) (kd := 9) g3 g4 a1 a2 rfl yN_ent (by simp only [ent, yN, xA, xL]; simp)
  exact kk q b2 hr.1 hr.2 H1 locs ls b1 a3 hl
theorem r_newO (M : Mach g l R own cc nL hh mn V X) {idx N : Nat} {x : Int32} (hd : decode cc pc = .ok (.anewarray idx, 3)) (hw : Cond.classLink own idx "java/lang/Object" ∈ TB) (hn : ¬ x < 0) (hN : x.toNatClampNeg = N) (hby : N * 4 ≤ 536870912) (hr : kc + 1 ≤ R.cells ∧ ks + N ≤ R.slots) (kk : ∀ q : Nat, xS h q = none → V (pc + 3) lv (.ref q :: st) (yN h q 10 N) (kc + 1) (ks + N)) : V pc lv (.int x :: st) h kc ks := by
  obtain ⟨Qs, p, e, s, m, args, below, meth, c, hx, hb, hml, hown, hts, hgl, hlk, hnm, htab, hst, rfl, rfl⟩ := M
  intro hkc hks H locs ls hG hS hl
  obtain ⟨ws, g1, g2, g3, g4⟩ := id hG
  have hA : ∀ q, s.heap.size ≤ q → gA g q := fun q hq => Nat.le_trans hgl.2.2.2.2.2.2.2.2 hq
  refine va_newq (N' := N) hx hb hown (hts _ hw) hgl.1.2.2.2.2.1 hgl.1.1 g1 g2 hS hA hn hN hby hr.1 hr.2 hd (fun q cA H1 hK1 a1 a2 a3 => ?_)
  obtain ⟨-, -, -, -, -, e1⟩ := (hK1.2 3 (cA, .object "java/lang/Object") rfl).2
  obtain ⟨-, -, -, -, -, e2⟩ := (hgl.1.1.2 2 (gC g 2, .object "java/lang/Object") rfl).2
  obtain rfl : cA = gC g 2 := Option.some.inj (e1.symm.trans e2)
  obtain ⟨b1, b2⟩ := HG.push (h' := yN h q 10 N) (n := N) (kd := 10) g3 g4 a1 a2 rfl yN_ent (by simp only [ent, yN, xB]; simp)
  exact kk q b2 hr.1 hr.2 H1 locs ls b1 a3 hl
theorem r_iald (M : Mach g l R own cc nL hh mn V X) {a n : Nat} {x : Int32} (hd : decode cc pc = .ok (.iaload, 1)) (hs : xS h a = some (8, n)) (hin : vp_in x n) (kk : V (pc + 1) lv (.int (xA h a x.toNatClampNeg) :: st) h kc ks) : V pc lv (.int x :: .ref a :: st) h kc ks := by
  obtain ⟨Qs, p, e, s, m, args, below, meth, c, hx, hb, hml, hown, hts, hgl, hlk, hnm, htab, hst, rfl, rfl⟩ := M
  intro hkc hks H locs ls hG hS hl
  obtain ⟨ws, g1, g2, g3, g4⟩ := id hG
  obtain ⟨q0, hq0⟩ := g3 _ _ _ hs
  exact va_iald hx hb hgl.1.1 g1 q0 0 hq0 rfl hin hd (kk hkc hks H locs ls hG hS hl)
theorem r_zald (M : Mach g l R own cc nL hh mn V X) {a n : Nat} {x : Int32} (hd : decode cc pc = .ok (.baload, 1)) (hs : xS h a = some (9, n)) (hin : vp_in x n) (kk : V (pc + 1) lv (.int (xA h a x.toNatClampNeg) :: st) h kc ks) : V pc lv (.int x :: .ref a :: st) h kc ks := by
  obtain ⟨Qs, p, e, s, m, args, below, meth, c, hx, hb, hml, hown, hts, hgl, hlk, hnm, htab, hst, rfl, rfl⟩ := M
  intro hkc hks H locs ls hG hS hl
  obtain ⟨ws, g1, g2, g3, g4⟩ := id hG
  obtain ⟨q0, hq0⟩ := g3 _ _ _ hs
  exact va_zald hx hb hgl.1.1 g1 q0 1 hq0 rfl hin hd (kk hkc hks H locs ls hG hS hl)
theorem r_aald (M : Mach g l R own cc nL hh mn V X) {a n : Nat} {x : Int32} {b : Nat} (hd : decode cc pc = .ok (.aaload, 1)) (hs : xS h a = some (10, n)) (hin : vp_in x n) (hv : xB h a x.toNatClampNeg = some b) (kk : V (pc + 1) lv (.ref b :: st) h kc ks) : V pc lv (.int x :: .ref a :: st) h kc ks := by
  obtain ⟨Qs, p, e, s, m, args, below, meth, c, hx, hb, hml, hown, hts, hgl, hlk, hnm, htab, hst, rfl, rfl⟩ := M
  intro hkc hks H locs ls hG hS hl
  obtain ⟨ws, g1, g2, g3, g4⟩ := id hG
  obtain ⟨q0, hq0⟩ := g3 _ _ _ hs
  refine va_aldq hx hb hgl.1.1 g1 q0 2 hq0 rfl hin hd ?_
  rw [hv]
  exact kk hkc hks H locs ls hG hS hl
theorem r_iast (M : Mach g l R own cc nL hh mn V X) {a n : Nat} {x : Int32} {v : Int32} (hd : decode cc pc = .ok (.iastore, 1)) (hs : xS h a = some (8, n)) (hin : vp_in x n) (kk : V (pc + 1) lv st (yA h a x.toNatClampNeg v) kc ks) : V pc lv (.int v :: .int x :: .ref a :: st) h kc ks := by
  obtain ⟨Qs, p, e, s, m, args, below, meth, c, hx, hb, hml, hown, hts, hgl, hlk, hnm, htab, hst, rfl, rfl⟩ := M
  intro hkc hks H locs ls hG hS hl
  obtain ⟨ws, g1, g2, g3, g4⟩ := id hG
  obtain ⟨q0, hq0⟩ := g3 _ _ _ hs
  exact va_iast hx hb hgl.1.1 g1 g2 hS q0 0 hq0 rfl hin hd (fun H1 locs1 a1 a2 a3 => kk hkc hks H1 locs1 ls (HG.set g2 g3 g4 rfl hs _ hq0 yA_ent (by simp only [ent, yA, xA]; rw [u2_own]; rfl) a1 a2) a3 hl)
theorem r_zast (M : Mach g l R own cc nL hh mn V X) {a n : Nat} {x : Int32} {v : Int32} (hd : decode cc pc = .ok (.bastore, 1)) (hs : xS h a = some (9, n)) (hin : vp_in x n) (hnv : vp_nar .boolean v = v) (kk : V (pc + 1) lv st (yA h a x.toNatClampNeg v) kc ks) : V pc lv (.int v :: .int x :: .ref a :: st) h kc ks := by
  obtain ⟨Qs, p, e, s, m, args, below, meth, c, hx, hb, hml, hown, hts, hgl, hlk, hnm, htab, hst, rfl, rfl⟩ := M
  intro hkc hks H locs ls hG hS hl
  obtain ⟨ws, g1, g2, g3, g4⟩ := id hG
  obtain ⟨q0, hq0⟩ := g3 _ _ _ hs
  exact va_zast hx hb hgl.1.1 g1 g2 hS q0 1 hq0 rfl hin hd (fun H1 locs1 a1 a2 a3 => kk hkc hks H1 locs1 ls (HG.set g2 g3 g4 rfl hs _ hq0 yA_ent (by simp only [ent, yA, xA, hnv]; rw [u2_own]; rfl) a1 a2) a3 hl)
theorem r_aastN (M : Mach g l R own cc nL hh mn V X) {a n : Nat} {x : Int32} (hd : decode cc pc = .ok (.aastore, 1)) (hs : xS h a = some (10, n)) (hin : vp_in x n) (kk : V (pc + 1) lv st (yB h a x.toNatClampNeg none) kc ks) : V pc lv (.null :: .int x :: .ref a :: st) h kc ks := by
  obtain ⟨Qs, p, e, s, m, args, below, meth, c, hx, hb, hml, hown, hts, hgl, hlk, hnm, htab, hst, rfl, rfl⟩ := M
  intro hkc hks H locs ls hG hS hl
  obtain ⟨ws, g1, g2, g3, g4⟩ := id hG
  obtain ⟨q0, hq0⟩ := g3 _ _ _ hs
  exact va_astqN hx hb hgl.1.1 g1 g2 hS q0 2 hq0 rfl hin hd (fun H1 locs1 a1 a2 a3 => kk hkc hks H1 locs1 ls (HG.set g2 g3 g4 rfl hs _ hq0 yB_ent (by simp only [ent, yB, xB]; rw [u2_own]; rfl) a1 a2) a3 hl)
theorem r_aast (M : Mach g l R own cc nL hh mn V X) {a n v ci nv : Nat} {x : Int32} {C1 : String} {T1 : u_T} {N1 : Nat} (hd : decode cc pc = .ok (.aastore, 1)) (hs : xS h a = some (10, n)) (hin : vp_in x n) (hv : xS h v = some (ci, nv)) (hcl : kcl[ci]? = some (C1, T1, N1)) (hw : Cond.castable C1 "java/lang/Object" ∈ NW) (kk : V (pc + 1) lv st (yB h a x.toNatClampNeg (some v)) kc ks) : V pc lv (.ref v :: .int x :: .ref a :: st) h kc ks := by
  obtain ⟨Qs, p, e, s, m, args, below, meth, c, hx, hb, hml, hown, hts, hgl, hlk, hnm, htab, hst, rfl, rfl⟩ := M
  intro hkc hks H locs ls hG hS hl
  obtain ⟨ws, g1, g2, g3, g4⟩ := id hG
  obtain ⟨q0, hq0⟩ := g3 _ _ _ hs
  obtain ⟨qv, hqv⟩ := g3 _ _ _ hv
  rw [ent_obj (kcl_lt hcl)] at hqv
  have hany : va_Any "java/lang/Object" s H v := va_rAny hgl.1.1 g1 hqv hcl (fun comp c0 h1 h2 => by
    obtain ⟨c3, c4, z3, z4, z5⟩ := Cond.castable_spec (va_Nw.use (A := args) rfl (hgl.1.2.1 _ hw))
    cases Option.some.inj (z3.symm.trans h2)
    cases Option.some.inj (z4.symm.trans h1)
    exact z5)
  exact va_astqM hx hb hgl.1.1 g1 g2 hS q0 2 hq0 rfl hany hin hd (fun H1 locs1 a1 a2 a3 => kk hkc hks H1 locs1 ls (HG.set g2 g3 g4 rfl hs _ hq0 yB_ent (by simp only [ent, yB, xB]; rw [u2_own]; rfl) a1 a2) a3 hl)
theorem r_alenI (M : Mach g l R own cc nL hh mn V X) {a n : Nat} (hd : decode cc pc = .ok (.arraylength, 1)) (hs : xS h a = some (8, n)) (kk : V (pc + 1) lv (.int (nI n) :: st) h kc ks) : V pc lv (.ref a :: st) h kc ks := by
  obtain ⟨Qs, p, e, s, m, args, below, meth, c, hx, hb, hml, hown, hts, hgl, hlk, hnm, htab, hst, rfl, rfl⟩ := M
  intro hkc hks H locs ls hG hS hl
  obtain ⟨ws, g1, g2, g3, g4⟩ := id hG
  obtain ⟨q0, hq0⟩ := g3 _ _ _ hs
  exact va_alen (v := nI n) hx hb hgl.1.1 g1 q0 0 hq0 rfl rfl hd (kk hkc hks H locs ls hG hS hl)
theorem r_alenZ (M : Mach g l R own cc nL hh mn V X) {a n : Nat} (hd : decode cc pc = .ok (.arraylength, 1)) (hs : xS h a = some (9, n)) (kk : V (pc + 1) lv (.int (nI n) :: st) h kc ks) : V pc lv (.ref a :: st) h kc ks := by
  obtain ⟨Qs, p, e, s, m, args, below, meth, c, hx, hb, hml, hown, hts, hgl, hlk, hnm, htab, hst, rfl, rfl⟩ := M
  intro hkc hks H locs ls hG hS hl
  obtain ⟨ws, g1, g2, g3, g4⟩ := id hG
  obtain ⟨q0, hq0⟩ := g3 _ _ _ hs
  exact va_alen (v := nI n) hx hb hgl.1.1 g1 q0 1 hq0 rfl rfl hd (kk hkc hks H locs ls hG hS hl)
theorem r_alenO (M : Mach g l R own cc nL hh mn V X) {a n : Nat} (hd : decode cc pc = .ok (.arraylength, 1)) (hs : xS h a = some (10, n)) (kk : V (pc + 1) lv (.int (nI n) :: st) h kc ks) : V pc lv (.ref a :: st) h kc ks := by
  obtain ⟨Qs, p, e, s, m, args, below, meth, c, hx, hb, hml, hown, hts, hgl, hlk, hnm, htab, hst, rfl, rfl⟩ := M
  intro hkc hks H locs ls hG hS hl
  obtain ⟨ws, g1, g2, g3, g4⟩ := id hG
  obtain ⟨q0, hq0⟩ := g3 _ _ _ hs
  exact va_alen (v := nI n) hx hb hgl.1.1 g1 q0 2 hq0 rfl rfl hd (kk hkc hks H locs ls hG hS hl)
theorem r_getsE (M : Mach g l R own cc nL hh mn V X) {idx : Nat} (hd : decode cc pc = .ok (.getstatic idx, 3)) (hw : Cond.fieldLink own idx "Puppetloom" "EASING" "[I" ∈ TB) (kk : V (pc + 3) lv (.ref (gN g 1) :: st) h kc ks) : V pc lv st h kc ks := by
  obtain ⟨Qs, p, e, s, m, args, below, meth, c, hx, hb, hml, hown, hts, hgl, hlk, hnm, htab, hst, rfl, rfl⟩ := M
  intro hkc hks H locs ls hG hS hl
  exact va_gets hx hb hgl.2.1 hS hown (hts _ hw) (fun _ q => q) hd (kk hkc hks H locs ls hG hS hl)
theorem r_getsD (M : Mach g l R own cc nL hh mn V X) {idx : Nat} (hd : decode cc pc = .ok (.getstatic idx, 3)) (hw : Cond.fieldLink own idx "java/util/ArrayList" "DEFAULTCAPACITY_EMPTY_ELEMENTDATA" "[Ljava/lang/Object;" ∈ TB) (kk : V (pc + 3) lv (.ref (gN g 2) :: st) h kc ks) : V pc lv st h kc ks := by
  obtain ⟨Qs, p, e, s, m, args, below, meth, c, hx, hb, hml, hown, hts, hgl, hlk, hnm, htab, hst, rfl, rfl⟩ := M
  intro hkc hks H locs ls hG hS hl
  exact va_gets hx hb hgl.2.2.2.1 hS hown (hts _ hw) (fun _ q => q) hd (kk hkc hks H locs ls hG hS hl)
theorem r_ialdE (M : Mach g l R own cc nL hh mn V X) {x : Int32} (hd : decode cc pc = .ok (.iaload, 1)) (hin : vp_in x 32) (kk : V (pc + 1) lv (.int (easeL.getD x.toNatClampNeg 0) :: st) h kc ks) : V pc lv (.int x :: .ref (gN g 1) :: st) h kc ks := by
  obtain ⟨Qs, p, e, s, m, args, below, meth, c, hx, hb, hml, hown, hts, hgl, hlk, hnm, htab, hst, rfl, rfl⟩ := M
  intro hkc hks H locs ls hG hS hl
  exact va_ti hx hb hgl.2.2.1 hS hin rfl hd (kk hkc hks H locs ls hG hS hl)
theorem r_alenE (M : Mach g l R own cc nL hh mn V X) (hd : decode cc pc = .ok (.arraylength, 1)) (kk : V (pc + 1) lv (.int (nI 32) :: st) h kc ks) : V pc lv (.ref (gN g 1) :: st) h kc ks := by
  obtain ⟨Qs, p, e, s, m, args, below, meth, c, hx, hb, hml, hown, hts, hgl, hlk, hnm, htab, hst, rfl, rfl⟩ := M
  intro hkc hks H locs ls hG hS hl
  exact va_tlen (v := nI 32) hx hb hgl.2.2.1 hS rfl hd (kk hkc hks H locs ls hG hS hl)
theorem r_alenD (M : Mach g l R own cc nL hh mn V X) (hd : decode cc pc = .ok (.arraylength, 1)) (kk : V (pc + 1) lv (.int (nI 0) :: st) h kc ks) : V pc lv (.ref (gN g 2) :: st) h kc ks := by
  obtain ⟨Qs, p, e, s, m, args, below, meth, c, hx, hb, hml, hown, hts, hgl, hlk, hnm, htab, hst, rfl, rfl⟩ := M
  intro hkc hks H locs ls hG hS hl
  exact va_tlen (v := nI 0) hx hb hgl.2.2.2.2.1 hS rfl hd (kk hkc hks H locs ls hG hS hl)
theorem r_ialdX (M : Mach g l R own cc nL hh mn V X) {x : Int32} (hd : decode cc pc = .ok (.iaload, 1)) (hin : vp_in x (gN g 5)) (kk : V (pc + 1) lv (.int (gX g x.toNatClampNeg) :: st) h kc ks) : V pc lv (.int x :: .ref (gN g 4) :: st) h kc ks := by
  obtain ⟨Qs, p, e, s, m, args, below, meth, c, hx, hb, hml, hown, hts, hgl, hlk, hnm, htab, hst, rfl, rfl⟩ := M
  intro hkc hks H locs ls hG hS hl
  exact va_ti hx hb hgl.2.2.2.2.2.1 hS hin rfl hd (kk hkc hks H locs ls hG hS hl)
theorem r_alenX (M : Mach g l R own cc nL hh mn V X) (hd : decode cc pc = .ok (.arraylength, 1)) (kk : V (pc + 1) lv (.int (nI (gN g 5)) :: st) h kc ks) : V pc lv (.ref (gN g 4) :: st) h kc ks := by
  obtain ⟨Qs, p, e, s, m, args, below, meth, c, hx, hb, hml, hown, hts, hgl, hlk, hnm, htab, hst, rfl, rfl⟩ := M
  intro hkc hks H locs ls hG hS hl
  exact va_tlen (v := nI (gN g 5)) hx hb hgl.2.2.2.2.2.1 hS rfl hd (kk hkc hks H locs ls hG hS hl)
theorem r_cast (M : Mach g l R own cc nL hh mn V X) {idx ci n a : Nat} {C1 : String} {T1 : u_T} {N1 : Nat} (hd : decode cc pc = .ok (.checkcast idx, 3)) (hs : xS h a = some (ci, n)) (hcl : kcl[ci]? = some (C1, T1, N1)) (hw : Cond.classLink own idx C1 ∈ TB) (kk : V (pc + 3) lv (.ref a :: st) h kc ks) : V pc lv (.ref a :: st) h kc ks := by
  obtain ⟨Qs, p, e, s, m, args, below, meth, c, hx, hb, hml, hown, hts, hgl, hlk, hnm, htab, hst, rfl, rfl⟩ := M
  intro hkc hks H locs ls hG hS hl
  obtain ⟨ws, g1, g2, g3, g4⟩ := id hG
  obtain ⟨q0, hq0⟩ := g3 _ _ _ hs
  rw [ent_obj (kcl_lt hcl)] at hq0
  exact va_castS (cC := (gD g).1 ci) hx hb hown (hts _ hw) (hgl.1.1.1 ci _ hcl).2 (va_recv hgl.1.1 g1 hcl hq0) hd (kk hkc hks H locs ls hG hS hl)
theorem r_ldcM (M : Mach g l R own cc nL hh mn V X) {idx : Nat} (hd : decode cc pc = .ok (.ldc idx, 2)) (hw : Cond.classLink own idx "[Ljava/lang/Object;" ∈ TB) (kk : V (pc + 2) lv (.ref (gN g 3) :: st) h kc ks) : V pc lv st h kc ks := by
  obtain ⟨Qs, p, e, s, m, args, below, meth, c, hx, hb, hml, hown, hts, hgl, hlk, hnm, htab, hst, rfl, rfl⟩ := M
  intro hkc hks H locs ls hG hS hl
  exact va_ldcM hx hb hown (hts _ hw) hgl.1.2.2.1 hd (kk hkc hks H locs ls hG hS hl)
theorem r_getC (M : Mach g l R own cc nL hh mn V X) {idx a n : Nat} (hd : decode cc pc = .ok (.invokevirtual idx, 3)) (hs : xS h a = some (10, n)) (hw1 : Cond.methodLink own idx ⟨"java/lang/Object", "getClass", "()Ljava/lang/Class;"⟩ ∈ TB) (hw2 : Cond.selects "[Ljava/lang/Object;" ⟨"java/lang/Object", "getClass", "()Ljava/lang/Class;"⟩ ⟨"java/lang/Object", "getClass", "()Ljava/lang/Class;"⟩ ∈ TB) (hw3 : Cond.instanceMethod ⟨"java/lang/Object", "getClass", "()Ljava/lang/Class;"⟩ ∈ TB) (hw4 : Cond.native ⟨"java/lang/Object", "getClass", "()Ljava/lang/Class;"⟩ ∈ TB) (hr1 : 1 ≤ R.frames) (hr2 : (st.map fun v => v.category).sum + 14 ≤ R.locals) (kk : V (pc + 3) lv (.ref (gN g 3) :: st) h kc ks) : V pc lv (.ref a :: st) h kc ks := by
  obtain ⟨Qs, p, e, s, m, args, below, meth, c, hx, hb, hml, hown, hts, hgl, hlk, hnm, htab, hst, rfl, rfl⟩ := M
  intro hkc hks H locs ls hG hS hl
  obtain ⟨ws, g1, g2, g3, g4⟩ := id hG
  obtain ⟨q0, hq0⟩ := g3 _ _ _ hs
  have hnmO : s.vm.findClass "[Ljava/lang/Object;" = some (gC g 2) := va_nmO (hgl.1.1.2 2 (gC g 2, .object "java/lang/Object") rfl).2 (by decide)
  exact va_getC hx hb (hml.trans hl.1.symm) hown (hts _ hw1) (va_Dc.use hgl.1.2.2.2.1) (hts _ hw2) (hts _ hw3) (hts _ hw4) hgl.1.2.2.1 ⟨_, g1 q0 _ hq0, rfl, hnmO⟩ hr1 hr2 hd (kk hkc hks H locs ls hG hS hl)
theorem r_copy (M : Mach g l R own cc nL hh mn V X) {idx a b na nb : Nat} {sp dp n : Int32} (hd : decode cc pc = .ok (.invokestatic idx, 3)) (ha : xS h a = some (10, na)) (hbb : xS h b = some (10, nb)) (hw1 : Cond.methodLink own idx arraycopyName ∈ TB) (hw2 : Cond.native arraycopyName ∈ TB) (hw3 : Cond.static arraycopyName ∈ TB) (hw4 : Cond.initialized "java/lang/System" ∈ TB) (h1 : ¬ sp < 0) (h2 : ¬ dp < 0) (h3 : ¬ n < 0) (h4 : sp.toNatClampNeg + n.toNatClampNeg ≤ na) (h5 : dp.toNatClampNeg + n.toNatClampNeg ≤ nb) (hel : ∀ i : Nat, i < n.toNatClampNeg → ∀ y : Nat, xB h a (sp.toNatClampNeg + i) = some y → ∃ (ci ny : Nat) (r : vw_C), xS h y = some (ci, ny) ∧ kcl[ci]? = some r ∧ Cond.castable r.1 "java/lang/Object" ∈ NW) (hr1 : 1 ≤ R.frames) (hr2 : (st.map fun v => v.category).sum + (nativeFrameWords "java/lang/System" "arraycopy" 5 + 11) ≤ R.locals) (kk : V (pc + 3) lv st (yC h b (va_cpy (xB h a) (xB h b) sp.toNatClampNeg dp.toNatClampNeg n.toNatClampNeg)) kc ks) : V pc lv (.int n :: .int dp :: .ref b :: .int sp :: .ref a :: st) h kc ks := by
  obtain ⟨Qs, p, e, s, m, args, below, meth, c, hx, hb, hml, hown, hts, hgl, hlk, hnm, htab, hst, rfl, rfl⟩ := M
  intro hkc hks H locs ls hG hS hl
  obtain ⟨ws, g1, g2, g3, g4⟩ := id hG
  obtain ⟨q0, hq0⟩ := g3 _ _ _ ha
  obtain ⟨q1, hq1⟩ := g3 _ _ _ hbb
  refine va_copyM hx hb (hml.trans hl.1.symm) hown (hts _ hw1) (hts _ hw2) (hts _ hw3) (hts _ hw4) hgl.1.1 g1 g2 hS q0 q1 2 2 hq0 hq1 rfl rfl h1 h2 h3 h4 h5 (fun i hi y hy => ?_) hr1 hr2 hd (fun H1 locs1 a1 a2 a3 => kk hkc hks H1 locs1 ls (HG.set g2 g3 g4 rfl hbb _ hq1 yC_ent (by simp only [ent, yC, xB]; simp [u1]) a1 a2) a3 hl)
  obtain ⟨ci, ny, r, y1, y2, y3⟩ := hel i hi y hy
  obtain ⟨qv, hqv⟩ := g3 _ _ _ y1
  rw [ent_obj (kcl_lt y2)] at hqv
  exact va_rAny hgl.1.1 g1 hqv y2 (fun comp c0 h1 h2 => by
    obtain ⟨c3, c4, z3, z4, z5⟩ := Cond.castable_spec (va_Nw.use (A := args) rfl (hgl.1.2.1 _ y3))
    cases Option.some.inj (z3.symm.trans h2)
    cases Option.some.inj (z4.symm.trans h1)
    exact z5)
end RulesH
