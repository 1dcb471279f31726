/-! ===== the state of the document, and a heap that holds it ===== -/
/-- a puppet: bar, length, keys, cue, worn joints, mendings -/
abbrev PS : Type := Int32 × Int32 × List K4 × Int32 × Nat × List (Int32 × Int32)
abbrev qBar (p : PS) : Int32 := p.1
abbrev qLen (p : PS) : Int32 := p.2.1
abbrev qKeys (p : PS) : List K4 := p.2.2.1
abbrev qCue (p : PS) : Int32 := p.2.2.2.1
abbrev qWorn (p : PS) : Nat := p.2.2.2.2.1
abbrev qMend (p : PS) : List (Int32 × Int32) := p.2.2.2.2.2
/-- a show: its minutes, its puppets, seats left, takings, whether it is performed -/
abbrev SS : Type := (Int32 × Int32) × (Nat → Bool) × Nat × Int32 × Bool
abbrev tSpan (s : SS) : Int32 × Int32 := s.1
abbrev tCast (s : SS) : Nat → Bool := s.2.1
abbrev tLeft (s : SS) : Nat := s.2.2.1
abbrev tTak (s : SS) : Int32 := s.2.2.2.1
abbrev tDone (s : SS) : Bool := s.2.2.2.2
/-- all: the puppets, the shows, when the sounds are heard, the income -/
abbrev ST : Type := (Nat × (Nat → PS)) × (Nat × (Nat → SS)) × (Nat → Int32) × Int32
abbrev eN (σ : ST) : Nat := σ.1.1
abbrev eP (σ : ST) : Nat → PS := σ.1.2
abbrev eM (σ : ST) : Nat := σ.2.1.1
abbrev eS (σ : ST) : Nat → SS := σ.2.1.2
abbrev eH (σ : ST) : Nat → Int32 := σ.2.2.1
abbrev ePaid (σ : ST) : Int32 := σ.2.2.2
def upt {α : Type} (f : Nat → α) (i : Nat) (v : α) : Nat → α := fun j => if j = i then v else f j
theorem upt_s {α : Type} (f : Nat → α) (i : Nat) (v : α) : upt f i v i = v := if_pos rfl
theorem upt_n {α : Type} (f : Nat → α) {i j : Nat} (v : α) (h : j ≠ i) : upt f i v j = f j := if_neg h
def cnt (c : Nat → Bool) : Nat → Nat
  | 0 => 0
  | n + 1 => cnt c n + (if c n = true then 1 else 0)
def PupAt (E : Nat) (ow : Nat → Nat) (h : Hp) (i a : Nat) (p : PS) : Prop := ∃ (ka ma pl : Nat) (xs ms : List Nat), isPup E h a ka ma pl xs ms ∧ xF h 200 a = qBar p ∧ xF h 201 a = qLen p ∧ ksOf h xs = qKeys p ∧ xF h 203 a = qCue p ∧ xF h 204 a = nI (qWorn p) ∧ ms.map (sv h) = qMend p ∧ (ow a = 100 + 8 * i ∧ ow ka = 101 + 8 * i ∧ ow ma = 102 + 8 * i ∧ ow pl = 103 + 8 * i) ∧ (∀ D, xP h 701 ka = some D → D = E ∨ ow D = 104 + 8 * i ∧ xS h D ≠ none) ∧ (∀ D, xP h 701 ma = some D → D = E ∨ ow D = 105 + 8 * i ∧ xS h D ≠ none) ∧ (∀ k ∈ xs, ow k = 7) ∧ ∀ m ∈ ms, ow m = 7
def ShowAt (ow : Nat → Nat) (h : Hp) (j s : Nat) (S : SS) : Prop := ∃ sp A : Nat, xS h s = some (3, 0) ∧ xP h 300 s = some sp ∧ xS h sp = some (4, 0) ∧ ow sp = 7 ∧ sv h sp = tSpan S ∧ xP h 301 s = some A ∧ xS h A = some (9, 8) ∧ (∀ q, xA h A q = bI (tCast S q)) ∧ xF h 302 s = nI (cnt (tCast S) 8) ∧ xF h 303 s = nI (tLeft S) ∧ xF h 304 s = tTak S ∧ xF h 305 s = bI (tDone S) ∧ ow s = 10000 + 8 * j ∧ ow A = 10001 + 8 * j
def LD (E : Nat) (ow : Nat → Nat) (h : Hp) (L t : Nat) : Prop := ∀ D, xP h 701 L = some D → D = E ∨ ow D = t ∧ xS h D ≠ none
def RC (E : Nat) (ow : Nat → Nat) (h : Hp) (x pL sL ha : Nat) (ps ss : List Nat) (σ : ST) : Prop := (xS h x = some (5, 0) ∧ xP h 500 x = some pL ∧ xP h 501 x = some sL ∧ xP h 502 x = some ha ∧ xS h ha = some (8, 10)) ∧ (IsL E h pL ps ∧ IsL E h sL ss ∧ ps.length = eN σ ∧ ss.length = eM σ) ∧ (∀ i a : Nat, ps[i]? = some a → PupAt E ow h i a (eP σ i)) ∧ (∀ j s : Nat, ss[j]? = some s → ShowAt ow h j s (eS σ j)) ∧ ((∀ s, xA h ha s = eH σ s) ∧ xF h 503 x = ePaid σ) ∧ (ow x = 1 ∧ ow pL = 2 ∧ ow sL = 3 ∧ ow ha = 4 ∧ LD E ow h pL 5 ∧ LD E ow h sL 6) ∧ xS h E = none
/-- what is kept: cells whose tag is in T -/
def Kp (T : Nat → Prop) (ow ow' : Nat → Nat) (h h' : Hp) : Prop := ∀ (b : Nat) (z : Nat × Nat), xS h b = some z → ow' b = ow b ∧ xS h' b = some z ∧ (T (ow b) → (∀ i, xF h' i b = xF h i b) ∧ (∀ i, xP h' i b = xP h i b) ∧ xA h' b = xA h b ∧ xB h' b = xB h b ∧ xL h' b = xL h b)
section KpL
variable {T : Nat → Prop} {ow ow' : Nat → Nat} {h h' : Hp}
theorem Kp.O (k : Kp T ow ow' h h') {b : Nat} {z : Nat × Nat} (hz : xS h b = some z) : ow' b = ow b := (k b z hz).1
theorem Kp.S (k : Kp T ow ow' h h') {b : Nat} {z : Nat × Nat} (hz : xS h b = some z) : xS h' b = some z := (k b z hz).2.1
theorem Kp.F (k : Kp T ow ow' h h') {b : Nat} {z : Nat × Nat} (hz : xS h b = some z) (ht : T (ow b)) (i : Nat) : xF h' i b = xF h i b := ((k b z hz).2.2 ht).1 i
theorem Kp.P (k : Kp T ow ow' h h') {b : Nat} {z : Nat × Nat} (hz : xS h b = some z) (ht : T (ow b)) (i : Nat) : xP h' i b = xP h i b := ((k b z hz).2.2 ht).2.1 i
theorem Kp.A (k : Kp T ow ow' h h') {b : Nat} {z : Nat × Nat} (hz : xS h b = some z) (ht : T (ow b)) : xA h' b = xA h b := ((k b z hz).2.2 ht).2.2.1
theorem Kp.B (k : Kp T ow ow' h h') {b : Nat} {z : Nat × Nat} (hz : xS h b = some z) (ht : T (ow b)) : xB h' b = xB h b := ((k b z hz).2.2 ht).2.2.2.1
theorem Kp.of {Wr : Nat → Prop} (f : Fr Wr h h') (ho : ∀ b z, xS h b = some z → ow' b = ow b) (ht : ∀ b z, xS h b = some z → T (ow b) → ¬ Wr b) : Kp T ow ow' h h' := fun b z hz => ⟨ho b z hz, f.S hz, fun q => (f b z hz).2 (ht b z hz q)⟩
theorem isE.kp (k : Kp T ow ow' h h') {v : Nat} (hv : isE h v) : isE h' v := by
  obtain ⟨ci, nv, r, h1, h2, h3⟩ := hv
  exact ⟨ci, nv, r, k.S h1, h2, h3⟩
theorem IsL.kp {E L : Nat} {xs : List Nat} (k : Kp T ow ow' h h') (hL : IsL E h L xs) (hT : T (ow L)) (hD : ∀ D, xP h 701 L = some D → D = E ∨ T (ow D) ∧ xS h D ≠ none) (hE : xS h E = none) : IsL E h' L xs := by
  obtain ⟨h1, h2, h3, h4, h5⟩ := hL
  refine ⟨k.S h1, by rw [k.F h1 hT, h2], h3, fun v hv => (h4 v hv).kp k, ?_⟩
  rcases h5 with ⟨h6, h7⟩ | ⟨D, n, h6, h7, h8, h9, h10, h11⟩
  · exact Or.inl ⟨h6, by rw [k.P h1 hT, h7]⟩
  · refine Or.inr ⟨D, n, by rw [k.P h1 hT, h6], k.S h7, h8, h9, h10, fun i v hv => ?_⟩
    rcases hD D h6 with rfl | ⟨hd, -⟩
    · rw [hE] at h7; cases h7
    · rw [k.B h7 hd]; exact h11 i v hv
theorem LD.kp {E L t : Nat} (k : Kp T ow ow' h h') {z : Nat × Nat} (hz : xS h L = some z) (hT : T (ow L)) (hd : LD E ow h L t) : LD E ow' h' L t := fun D hD => by
  rw [k.P hz hT] at hD
  rcases hd D hD with e | ⟨e1, e2⟩
  · exact Or.inl e
  · cases hs : xS h D with
    | none => exact absurd hs e2
    | some w => exact Or.inr ⟨by rw [k.O hs, e1], by rw [k.S hs]; exact fun z => nomatch z⟩
theorem LD.TT {E L t : Nat} (hd : LD E ow h L t) (ht : T t) : ∀ D, xP h 701 L = some D → D = E ∨ T (ow D) ∧ xS h D ≠ none := fun D hD => (hd D hD).imp id (fun (q : ow D = t ∧ xS h D ≠ none) => ⟨by rw [q.1]; exact ht, q.2⟩)
theorem kv.kp (k : Kp T ow ow' h h') {v : Nat} {z : Nat × Nat} (hz : xS h v = some z) (hT : T (ow v)) : kv h' v = kv h v := by
  simp only [kv, k.F hz hT]
theorem sv.kp (k : Kp T ow ow' h h') {v : Nat} {z : Nat × Nat} (hz : xS h v = some z) (hT : T (ow v)) : sv h' v = sv h v := by
  simp only [sv, k.F hz hT]
theorem ksOf.kp (k : Kp T ow ow' h h') {xs : List Nat} (hx : ∀ v ∈ xs, xS h v = some (0, 0)) (hT : ∀ v ∈ xs, T (ow v)) : ksOf h' xs = ksOf h xs := List.map_congr_left (fun v hv => kv.kp k (hx v hv) (hT v hv))
theorem PupAt.kp {E i a : Nat} {p : PS} (k : Kp T ow ow' h h') (hE : xS h E = none) (hT : ∀ t : Nat, (100 + 8 * i ≤ t ∧ t < 108 + 8 * i ∨ t = 7) → T t) (hP : PupAt E ow h i a p) : PupAt E ow' h' i a p := by
  obtain ⟨ka, ma, pl, xs, ms, ⟨hs, hka, hma, hpl, hsp, hLk, hLm, hxk, hxm⟩, f0, f1, f2, f3, f4, f5, ⟨o1, o2, o3, o4⟩, d1, d2, o5, o6⟩ := hP
  have Ta : T (ow a) := hT _ (by omega)
  have Tk : T (ow ka) := hT _ (by omega)
  have Tm : T (ow ma) := hT _ (by omega)
  have Tp : T (ow pl) := hT _ (by omega)
  have T7 : T 7 := hT _ (Or.inr rfl)
  refine ⟨ka, ma, pl, xs, ms, ⟨k.S hs, by rw [k.P hs Ta, hka], by rw [k.P hs Ta, hma], by rw [k.P hs Ta, hpl], k.S hsp, hLk.kp k Tk (LD.TT d1 (hT _ (by omega))) hE, hLm.kp k Tm (LD.TT d2 (hT _ (by omega))) hE, fun v hv => k.S (hxk v hv), fun v hv => k.S (hxm v hv)⟩, by rw [k.F hs Ta, f0], by rw [k.F hs Ta, f1], ?_, by rw [k.F hs Ta, f3], by rw [k.F hs Ta, f4], ?_, ⟨by rw [k.O hs, o1], by rw [k.O hLk.1, o2], by rw [k.O hLm.1, o3], by rw [k.O hsp, o4]⟩, LD.kp k hLk.1 Tk d1, LD.kp k hLm.1 Tm d2, fun v hv => by rw [k.O (hxk v hv), o5 v hv], fun v hv => by rw [k.O (hxm v hv), o6 v hv]⟩
  · rw [ksOf.kp k hxk (fun v hv => by rw [o5 v hv]; exact T7), f2]
  · rw [← f5]; exact List.map_congr_left (fun v hv => sv.kp k (hxm v hv) (by rw [o6 v hv]; exact T7))
theorem ShowAt.kp {j s : Nat} {S : SS} (k : Kp T ow ow' h h') (hT : ∀ t : Nat, (10000 + 8 * j ≤ t ∧ t < 10008 + 8 * j ∨ t = 7) → T t) (hP : ShowAt ow h j s S) : ShowAt ow' h' j s S := by
  obtain ⟨sp, A, h1, h2, h3, h4, h5, h6, h7, h8, h9, h10, h11, h12, h13, h14⟩ := hP
  have Ts : T (ow s) := hT _ (by omega)
  have TA : T (ow A) := hT _ (by omega)
  have T7 : T (ow sp) := hT _ (by omega)
  exact ⟨sp, A, k.S h1, by rw [k.P h1 Ts, h2], k.S h3, by rw [k.O h3, h4], by rw [sv.kp k h3 T7, h5], by rw [k.P h1 Ts, h6], k.S h7, fun q => by rw [k.A h7 TA, h8], by rw [k.F h1 Ts, h9], by rw [k.F h1 Ts, h10], by rw [k.F h1 Ts, h11], by rw [k.F h1 Ts, h12], by rw [k.O h1, h13], by rw [k.O h7, h14]⟩
end KpL
/-- only where puppets stand for a question changes -/
def Tm (h h' : Hp) : Prop := xS h' = xS h ∧ xP h' = xP h ∧ xA h' = xA h ∧ xB h' = xB h ∧ xL h' = xL h ∧ ∀ i b, i ≠ 100 → i ≠ 101 → i ≠ 207 → xF h' i b = xF h i b
theorem Tm.rf {h : Hp} : Tm h h := ⟨rfl, rfl, rfl, rfl, rfl, fun _ _ _ _ _ => rfl⟩
theorem Tm.tr {h1 h2 h3 : Hp} (a : Tm h1 h2) (b : Tm h2 h3) : Tm h1 h3 := by
  obtain ⟨a1, a2, a3, a4, a5, a6⟩ := a
  obtain ⟨b1, b2, b3, b4, b5, b6⟩ := b
  exact ⟨b1.trans a1, b2.trans a2, b3.trans a3, b4.trans a4, b5.trans a5, fun i b p q r => (b6 i b p q r).trans (a6 i b p q r)⟩
theorem Tm.xy (h : Hp) (p : Nat) (v : Int32 × Int32) : Tm h (pXY h p v) := ⟨rfl, rfl, rfl, rfl, rfl, fun i b h1 h2 _ => (u2_n _ _ (fun q => h2 q.1)).trans (u2_n _ _ (fun q => h1 q.1))⟩
theorem Tm.mv (h : Hp) (a : Nat) (v : Int32) : Tm h (yF h 207 a v) := ⟨rfl, rfl, rfl, rfl, rfl, fun i b _ _ h3 => u2_n _ _ (fun q => h3 q.1)⟩
theorem Tm.x0 (h : Hp) (a : Nat) (v : Int32) : Tm h (yF h 100 a v) := ⟨rfl, rfl, rfl, rfl, rfl, fun i b h1 _ _ => u2_n _ _ (fun q => h1 q.1)⟩
section TmL
variable {h h' : Hp}
theorem IsL.tm {E L : Nat} {xs : List Nat} (t : Tm h h') (hL : IsL E h L xs) : IsL E h' L xs := by
  obtain ⟨t1, t2, t3, t4, t5, t6⟩ := t
  simp only [IsL, isE, t1, t2, t4, t6 702 _ (by decide) (by decide) (by decide)]
  exact hL
theorem kv.tm (t : Tm h h') (v : Nat) : kv h' v = kv h v := by
  obtain ⟨t1, t2, t3, t4, t5, t6⟩ := t
  simp only [kv, t6 0 _ (by decide) (by decide) (by decide), t6 1 _ (by decide) (by decide) (by decide), t6 2 _ (by decide) (by decide) (by decide), t6 3 _ (by decide) (by decide) (by decide)]
theorem sv.tm (t : Tm h h') : sv h' = sv h := by
  obtain ⟨t1, t2, t3, t4, t5, t6⟩ := t
  funext v
  simp only [sv, t6 400 _ (by decide) (by decide) (by decide), t6 401 _ (by decide) (by decide) (by decide)]
theorem ksOf.tm (t : Tm h h') (xs : List Nat) : ksOf h' xs = ksOf h xs := List.map_congr_left (fun v _ => kv.tm t v)
theorem isPup.tm {E a ka ma pl : Nat} {xs ms : List Nat} (t : Tm h h') (hP : isPup E h a ka ma pl xs ms) : isPup E h' a ka ma pl xs ms := by
  obtain ⟨hs, hka, hma, hpl, hsp, hLk, hLm, hxk, hxm⟩ := hP
  have hLk' := hLk.tm t
  have hLm' := hLm.tm t
  obtain ⟨t1, t2, t3, t4, t5, t6⟩ := t
  refine ⟨?_, ?_, ?_, ?_, ?_, hLk', hLm', ?_, ?_⟩ <;> simp only [t1, t2] <;> assumption
theorem PupAt.tm {E i a : Nat} {ow : Nat → Nat} {p : PS} (t : Tm h h') (hP : PupAt E ow h i a p) : PupAt E ow h' i a p := by
  obtain ⟨ka, ma, pl, xs, ms, hp, f0, f1, f2, f3, f4, f5, o, d1, d2, o5, o6⟩ := hP
  have hp' := hp.tm t
  have e1 := ksOf.tm t xs
  have e2 := sv.tm t
  obtain ⟨t1, t2, t3, t4, t5, t6⟩ := t
  refine ⟨ka, ma, pl, xs, ms, hp', ?_, ?_, by rw [e1, f2], ?_, ?_, by rw [e2, f5], o, ?_, ?_, o5, o6⟩
  · rw [t6 _ _ (by decide) (by decide) (by decide), f0]
  · rw [t6 _ _ (by decide) (by decide) (by decide), f1]
  · rw [t6 _ _ (by decide) (by decide) (by decide), f3]
  · rw [t6 _ _ (by decide) (by decide) (by decide), f4]
  · simp only [t1, t2]; exact d1
  · simp only [t1, t2]; exact d2
theorem ShowAt.tm {ow : Nat → Nat} {j s : Nat} {S : SS} (t : Tm h h') (hP : ShowAt ow h j s S) : ShowAt ow h' j s S := by
  obtain ⟨sp, A, h1, h2, h3, h4, h5, h6, h7, h8, h9, h10, h11, h12, h13, h14⟩ := hP
  have e2 := sv.tm t
  obtain ⟨t1, t2, t3, t4, t5, t6⟩ := t
  refine ⟨sp, A, by rw [t1, h1], by rw [t2, h2], by rw [t1, h3], h4, by rw [e2, h5], by rw [t2, h6], by rw [t1, h7], fun q => by rw [t3, h8], ?_, ?_, ?_, ?_, h13, h14⟩
  · rw [t6 _ _ (by decide) (by decide) (by decide), h9]
  · rw [t6 _ _ (by decide) (by decide) (by decide), h10]
  · rw [t6 _ _ (by decide) (by decide) (by decide), h11]
  · rw [t6 _ _ (by decide) (by decide) (by decide), h12]
theorem RC.tm {E x pL sL ha : Nat} {ow : Nat → Nat} {ps ss : List Nat} {σ : ST} (t : Tm h h') (r : RC E ow h x pL sL ha ps ss σ) : RC E ow h' x pL sL ha ps ss σ := by
  obtain ⟨⟨a1, a2, a3, a4, a5⟩, ⟨b1, b2, b3, b4⟩, c1, c2, ⟨d1, d2⟩, ⟨e1, e2, e3, e4, e5, e6⟩, f1⟩ := r
  have b1' := b1.tm t
  have b2' := b2.tm t
  have c1' := fun i a hi => (c1 i a hi).tm t
  have c2' := fun i a hi => (c2 i a hi).tm t
  obtain ⟨t1, t2, t3, t4, t5, t6⟩ := t
  refine ⟨⟨by rw [t1, a1], by rw [t2, a2], by rw [t2, a3], by rw [t2, a4], by rw [t1, a5]⟩, ⟨b1', b2', b3, b4⟩, c1', c2', ⟨fun s => by rw [t3, d1], by rw [t6 _ _ (by decide) (by decide) (by decide), d2]⟩, ⟨e1, e2, e3, e4, ?_, ?_⟩, by rw [t1, f1]⟩
  · simp only [LD, t1, t2]; exact e5
  · simp only [LD, t1, t2]; exact e6
end TmL
