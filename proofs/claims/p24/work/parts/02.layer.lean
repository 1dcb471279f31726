/-! ===== the layer: a heap by fields, a walk as a small predicate V ===== -/
abbrev Hp : Type := (Nat → Option (Nat × Nat)) × (Nat → Nat → Int32) × (Nat → Nat → Option Nat) × (Nat → Nat → Int32) × (Nat → Nat → Option Nat) × (Nat → Nat → Int64)
def xS (h : Hp) : Nat → Option (Nat × Nat) := h.1
def xF (h : Hp) : Nat → Nat → Int32 := h.2.1
def xP (h : Hp) : Nat → Nat → Option Nat := h.2.2.1
def xA (h : Hp) : Nat → Nat → Int32 := h.2.2.2.1
def xB (h : Hp) : Nat → Nat → Option Nat := h.2.2.2.2.1
def xL (h : Hp) : Nat → Nat → Int64 := h.2.2.2.2.2
def u2 {α : Type} (f : Nat → Nat → α) (i a : Nat) (v : α) : Nat → Nat → α := fun j b => if j = i ∧ b = a then v else f j b
def u1 {α : Type} (f : Nat → Nat → α) (a : Nat) (v : Nat → α) : Nat → Nat → α := fun b => if b = a then v else f b
def yF (h : Hp) (i a : Nat) (v : Int32) : Hp := (xS h, u2 (xF h) i a v, xP h, xA h, xB h, xL h)
def yP (h : Hp) (i a : Nat) (v : Option Nat) : Hp := (xS h, xF h, u2 (xP h) i a v, xA h, xB h, xL h)
def yA (h : Hp) (a i : Nat) (v : Int32) : Hp := (xS h, xF h, xP h, u2 (xA h) a i v, xB h, xL h)
def yB (h : Hp) (a i : Nat) (v : Option Nat) : Hp := (xS h, xF h, xP h, xA h, u2 (xB h) a i v, xL h)
def yC (h : Hp) (a : Nat) (v : Nat → Option Nat) : Hp := (xS h, xF h, xP h, xA h, u1 (xB h) a v, xL h)
def yL (h : Hp) (a i : Nat) (v : Int64) : Hp := (xS h, xF h, xP h, xA h, xB h, u2 (xL h) a i v)
def yN (h : Hp) (q kd n : Nat) : Hp := (va_up (xS h) q (some (kd, n)), (fun f a => if a = q then 0 else xF h f a), (fun f a => if a = q then none else xP h f a), (fun a i => if a = q then 0 else xA h a i), (fun a i => if a = q then none else xB h a i), (fun a i => if a = q then 0 else xL h a i))
/-- which fields of the classes are references -/
def flg : Nat → List Bool
  | 0 => [false, false, false, false]
  | 1 => [false, false]
  | 2 => [false, false, true, false, false, true, true, false]
  | 3 => [true, true, false, false, false, false]
  | 4 => [false, false]
  | 5 => [true, true, true, false]
  | 6 => [false, false, false, false]
  | 7 => [false, true, false]
  | _ => []
abbrev kcl : List vw_C := [(RX0, TX0, 4), (RX1, TX1, 2), (RX2, TX2, 8), (RX3, TX3, 6), (RX4, TX4, 2), (RX5, TX5, 4), (RX0, TX0, 4), (RJx4a65c, TJx4a65c, 3)]
def fv (h : Hp) (a ci k : Nat) (b : Bool) : Value := if b = true then va_rf (xP h (100 * ci + k) a) else .int (xF h (100 * ci + k) a)
def fsOf (h : Hp) (a ci : Nat) : List Value := (flg ci).zipIdx.map (fun q => fv h a ci q.2 q.1)
theorem fsOf_get (h : Hp) (a ci k : Nat) : (fsOf h a ci)[k]? = ((flg ci)[k]?).map (fv h a ci k) := by
  simp only [fsOf, List.getElem?_map, List.getElem?_zipIdx, Option.map_map]
  cases (flg ci)[k]? <;> simp
theorem fsOf_len (h : Hp) (a ci : Nat) : (fsOf h a ci).length = (flg ci).length := by simp [fsOf]
/-- the constants of a run: classes, array classes (int, boolean, Object, long), numbers (0: where the law's own cells begin; 1: EASING; 2: the empty row; 3: the class object; 4: the script; 5: its length; 10 and on: texts), the script -/
abbrev Gl : Type := va_G × (Nat → ClassId) × (Nat → Nat) × (Nat → Int32)
def gD (g : Gl) : va_G := g.1
def gC (g : Gl) : Nat → ClassId := g.2.1
def gN (g : Gl) : Nat → Nat := g.2.2.1
def gX (g : Gl) : Nat → Int32 := g.2.2.2
def gA (g : Gl) : Nat → Prop := fun q => gN g 0 ≤ q
def ent (g : Gl) (h : Hp) (a kd n : Nat) : va_E := match kd with
  | 8 => .inl (gC g 0, n, .inl (xA h a))
  | 9 => .inl (gC g 1, n, .inl (xA h a))
  | 10 => .inl (gC g 2, n, .inr (.inr (.inr (.inr (xB h a)))))
  | 11 => .inl (gC g 3, n, .inr (.inl (xL h a)))
  | ci => .inr (ci, fsOf h a ci)
abbrev tys (g : Gl) : List (ClassId × FieldType) := [(gC g 0, .int), (gC g 1, .boolean), (gC g 2, .object "java/lang/Object")]
def HG (g : Gl) (h : Hp) (H : Heap) : Prop := ∃ ws : va_W, va_P (gD g) kcl ws H ∧ va_D (gA g) ws ∧ (∀ a kd n : Nat, xS h a = some (kd, n) → ∃ k : Nat, ws[k]? = some (a, ent g h a kd n)) ∧ ∀ (k : Nat) (q : Nat × va_E), ws[k]? = some q → xS h q.1 ≠ none
theorem HG.kept {g : Gl} {h : Hp} {H H1 : Heap} (hG : HG g h H) (hk : ∀ q : Nat, q < H.size → H1[q]? = H[q]?) : HG g h H1 := by
  obtain ⟨ws, h1, h2, h3, h4⟩ := hG
  exact ⟨ws, h1.kept (fun k q hq => hk q.1 (h1 k q hq).lt), h2, h3, h4⟩
theorem HG.set {g : Gl} {h h' : Hp} {H1 : Heap} {ws : va_W} {q0 a kd n : Nat} (h2 : va_D (gA g) ws) (h3 : ∀ a kd n : Nat, xS h a = some (kd, n) → ∃ k : Nat, ws[k]? = some (a, ent g h a kd n)) (h4 : ∀ (k : Nat) (q : Nat × va_E), ws[k]? = some q → xS h q.1 ≠ none)
    (hs : xS h' = xS h) (ha : xS h a = some (kd, n)) (e0 : va_E) (he : ws[q0]? = some (a, e0)) (ho : ∀ b kd n : Nat, b ≠ a → ent g h' b kd n = ent g h b kd n) {e : va_E} (ee : e = ent g h' a kd n)
    (hP1 : va_P (gD g) kcl (ws.set q0 (a, e)) H1) (hD1 : va_D (gA g) (ws.set q0 (a, e))) : HG g h' H1 := by
  have hlt : q0 < ws.length := (List.getElem?_eq_some_iff.mp he).1
  refine ⟨_, hP1, hD1, fun b kd' n' hb => ?_, fun k q hq => ?_⟩
  · rw [hs] at hb
    by_cases hba : b = a
    · subst hba
      rw [ha] at hb
      cases hb
      exact ⟨q0, by rw [List.getElem?_set_self hlt, ee]⟩
    · obtain ⟨k, hk⟩ := h3 b kd' n' hb
      have hne : q0 ≠ k := fun e => by rw [← e, he] at hk; cases hk; exact hba rfl
      exact ⟨k, by rw [List.getElem?_set_ne hne, hk, ho b kd' n' hba]⟩
  · rw [hs]
    by_cases hk : q0 = k
    · subst hk
      rw [List.getElem?_set_self hlt] at hq
      cases hq
      rw [ha]
      exact fun z => nomatch z
    · rw [List.getElem?_set_ne hk] at hq
      exact h4 k q hq
theorem HG.push {g : Gl} {h h' : Hp} {H1 : Heap} {ws : va_W} {q kd n : Nat} {e : va_E} (h3 : ∀ a kd n : Nat, xS h a = some (kd, n) → ∃ k : Nat, ws[k]? = some (a, ent g h a kd n)) (h4 : ∀ (k : Nat) (q : Nat × va_E), ws[k]? = some q → xS h q.1 ≠ none)
    (hP1 : va_P (gD g) kcl (ws ++ [(q, e)]) H1) (hD1 : va_D (gA g) (ws ++ [(q, e)])) (hs : xS h' = va_up (xS h) q (some (kd, n))) (ho : ∀ b kd n : Nat, b ≠ q → ent g h' b kd n = ent g h b kd n) (ee : e = ent g h' q kd n) : HG g h' H1 ∧ xS h q = none := by
  have hlast : (ws ++ [(q, e)])[ws.length]? = some (q, e) := by simp
  have hfresh : xS h q = none := by
    cases hq : xS h q with
    | none => rfl
    | some z =>
      obtain ⟨k, hk⟩ := h3 q z.1 z.2 hq
      have hkl : k < ws.length := (List.getElem?_eq_some_iff.mp hk).1
      have := hD1.1 k ws.length (q, ent g h q z.1 z.2) (q, e) (by rw [List.getElem?_append_left hkl]; exact hk) hlast rfl
      omega
  refine ⟨⟨_, hP1, hD1, fun b kd' n' hb => ?_, fun k p hp => ?_⟩, hfresh⟩
  · rw [hs] at hb
    by_cases hba : b = q
    · subst hba
      rw [va_up_self] at hb
      cases hb
      exact ⟨ws.length, by rw [hlast, ee]⟩
    · rw [va_up_ne _ _ hba] at hb
      obtain ⟨k, hk⟩ := h3 b kd' n' hb
      have hkl : k < ws.length := (List.getElem?_eq_some_iff.mp hk).1
      exact ⟨k, by rw [List.getElem?_append_left hkl, hk, ho b kd' n' hba]⟩
  · rw [hs]
    by_cases hk : k < ws.length
    · rw [List.getElem?_append_left hk] at hp
      by_cases hpq : p.1 = q
      · rw [hpq, va_up_self]; exact fun z => nomatch z
      · rw [va_up_ne _ _ hpq]; exact h4 k p hp
    · have hl : k < (ws ++ [(q, e)]).length := (List.getElem?_eq_some_iff.mp hp).1
      have : k = ws.length := by simp at hl; omega
      subst this
      rw [hlast] at hp
      cases hp
      rw [va_up_self]; exact fun z => nomatch z
/-- locals: a list, a place each -/
def LV (ls : Array Slot) (nL : Nat) (lv : List (Option Value)) : Prop := ls.size = nL ∧ lv_wf ls ∧ ∀ (i : Nat) (v : Value), lv[i]? = some (some v) → ls[i]? = some (.val v) ∧ v.category = 1
theorem LV.at {ls : Array Slot} {nL : Nat} {lv : List (Option Value)} (h : LV ls nL lv) {i : Nat} {v : Value} (hi : lv[i]? = some (some v)) : ls[i]? = some (.val v) := (h.2.2 i v hi).1
def lvl (lv : List (Option Value)) : List (Nat × Value) := lv.zipIdx.filterMap (fun q => q.1.map (fun v => (q.2, v)))
theorem mem_lvl {lv : List (Option Value)} {j : Nat} {v : Value} : (j, v) ∈ lvl lv ↔ lv[j]? = some (some v) := by
  simp only [lvl, List.mem_filterMap, Option.map_eq_some_iff, Prod.mk.injEq]
  constructor
  · rintro ⟨⟨o, i⟩, hm, w, h1, h2, h3⟩
    have := List.mem_zipIdx_iff_getElem?.mp hm
    dsimp only at h1 h2 this
    subst h2; subst h3; subst h1
    exact this
  · intro h
    exact ⟨(some v, j), List.mem_zipIdx_iff_getElem?.mpr h, v, rfl, rfl, rfl⟩
theorem LV.has {ls : Array Slot} {nL : Nat} {lv : List (Option Value)} (h : LV ls nL lv) : lv_has ls nL (lvl lv) := ⟨h.1, h.2.1, fun q hq => (h.2.2 q.1 q.2 (mem_lvl.mp hq)).1⟩
theorem LV.stored {ls ls' : Array Slot} {nL i : Nat} {lv : List (Option Value)} {v : Value} (h : LV ls nL lv) (hc : v.category = 1) (h' : lv_has ls' nL ((i, v) :: (lvl lv).filter (fun q => !(q.1 == i) && !(q.1 + 1 == i && q.2.category == 2)))) : LV ls' nL (lv.set i (some v)) := by
  refine ⟨h'.1, h'.2.1, fun j w hj => ?_⟩
  by_cases hij : i = j
  · subst hij
    rw [List.getElem?_set] at hj
    simp only [if_true] at hj
    split at hj
    · cases hj
      exact ⟨h'.2.2 (i, v) List.mem_cons_self, hc⟩
    · cases hj
  · rw [List.getElem?_set_ne hij] at hj
    obtain ⟨h1, h2⟩ := h.2.2 j w hj
    refine ⟨h'.2.2 (j, w) (List.mem_cons_of_mem _ (List.mem_filter.mpr ⟨mem_lvl.mpr hj, ?_⟩)), h2⟩
    simp only [h2, Bool.and_eq_true, Bool.not_eq_true', beq_eq_false_iff_ne, ne_eq, Bool.and_eq_false_iff]
    exact ⟨fun e => hij e.symm, Or.inr (by decide)⟩
theorem lv_args1 (vs : List Value) (hc : ∀ v ∈ vs, v.category = 1) : ∀ k : Nat, ∀ (i : Nat) (v : Value), vs[i]? = some v → (k + i, v) ∈ lv_args k vs := by
  induction vs with
  | nil => intro k i v h; simp at h
  | cons a t ih =>
    intro k i v h
    have ha : ¬ a.category = 2 := by rw [hc a List.mem_cons_self]; decide
    rw [lv_args, if_neg ha]
    cases i with
    | zero => simp at h; subst h; exact List.mem_cons_self
    | succ j =>
      have := ih (fun v hv => hc v (List.mem_cons_of_mem _ hv)) (k + 1) j v (by simpa using h)
      rw [show k + (j + 1) = k + 1 + j by omega]
      exact List.mem_cons_of_mem _ this
theorem lg_sl1 (vs : List Value) (hc : ∀ v ∈ vs, v.category = 1) : lg_sl vs = vs.map Slot.val := by
  induction vs with
  | nil => rfl
  | cons a t ih =>
    have ha : ¬ a.category = 2 := by rw [hc a List.mem_cons_self]; decide
    have e : lg_sl (a :: t) = (if a.category = 2 then [Slot.val a, Slot.second] else [Slot.val a]) ++ lg_sl t := by simp [lg_sl]
    rw [e, if_neg ha, ih (fun v hv => hc v (List.mem_cons_of_mem _ hv))]
    rfl
def lv0 (vs : List Value) (nL : Nat) : List (Option Value) := vs.map some ++ List.replicate (nL - vs.length) none
theorem LV.entry (vs : List Value) {nL : Nat} (hn : vs.length ≤ nL) (hc : ∀ v ∈ vs, v.category = 1) : LV ((lg_sl vs ++ List.replicate (nL - (lg_sl vs).length) Slot.unset).toArray) nL (lv0 vs nL) := by
  have hl := lg_sl1 vs hc
  have hh := lv_entry vs (n := nL) (by rw [hl, List.length_map]; exact hn)
  refine ⟨hh.1, hh.2.1, fun i v hi => ?_⟩
  have hv : vs[i]? = some v := by
    unfold lv0 at hi
    by_cases hil : i < vs.length
    · rw [List.getElem?_append_left (by simpa using hil), List.getElem?_map] at hi
      cases hz : vs[i]? with
      | none => rw [hz] at hi; cases hi
      | some w => rw [hz] at hi; cases hi; rfl
    · rw [List.getElem?_append_right (by simpa using hil)] at hi
      have := List.eq_of_mem_replicate (List.mem_of_getElem? hi)
      cases this
  have := lv_args1 vs hc 0 i v hv
  rw [Nat.zero_add] at this
  exact ⟨hh.2.2 (i, v) this, hc v (List.mem_of_getElem? hv)⟩
