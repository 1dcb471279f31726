/-! ===== the calls as the document has them: an exception, or an answer and the state behind it ===== -/
abbrev OR : Type := String ⊕ (Int32 × ST)
def Ext (ow : Nat → Nat) (h h' : Hp) : Prop := ∀ (b : Nat) (z : Nat × Nat), xS h b = some z → xS h' b = some z ∧ (ow b = 0 → (∀ i, 600 ≤ i → xF h' i b = xF h i b) ∧ (∀ i, xP h' i b = xP h i b) ∧ xA h' b = xA h b ∧ xB h' b = xB h b ∧ xL h' b = xL h b)
theorem Ext.rf {ow : Nat → Nat} {h : Hp} : Ext ow h h := fun b z hz => ⟨hz, fun _ => ⟨fun _ _ => rfl, fun _ => rfl, rfl, rfl, rfl⟩⟩
theorem Ext.tr {ow ow' : Nat → Nat} {h1 h2 h3 : Hp} (ho : ∀ b z, xS h1 b = some z → ow' b = ow b) (a : Ext ow h1 h2) (b : Ext ow' h2 h3) : Ext ow h1 h3 := fun c z hz => by
  obtain ⟨s1, f1⟩ := a c z hz
  obtain ⟨s2, f2⟩ := b c z s1
  refine ⟨s2, fun q => ?_⟩
  obtain ⟨a1, a2, a3, a4, a5⟩ := f1 q
  obtain ⟨b1, b2, b3, b4, b5⟩ := f2 (by rw [ho c z hz]; exact q)
  exact ⟨fun i hi => (b1 i hi).trans (a1 i hi), fun i => (b2 i).trans (a2 i), b3.trans a3, b4.trans a4, b5.trans a5⟩
theorem Ext.tm {ow : Nat → Nat} {h h' : Hp} (t : Tm h h') : Ext ow h h' := fun b z hz => by
  obtain ⟨t1, t2, t3, t4, t5, t6⟩ := t
  exact ⟨by rw [t1]; exact hz, fun _ => ⟨fun i hi => t6 i b (by omega) (by omega) (by omega), fun i => by rw [t2], by rw [t3], by rw [t4], by rw [t5]⟩⟩
theorem Ext.kp {T : Nat → Prop} {ow ow' : Nat → Nat} {h h' : Hp} (k : Kp T ow ow' h h') (h0 : T 0) : Ext ow h h' := fun b z hz => by
  obtain ⟨k1, k2, k3⟩ := k b z hz
  refine ⟨k2, fun q => ?_⟩
  obtain ⟨a1, a2, a3, a4, a5⟩ := k3 (by rw [q]; exact h0)
  exact ⟨fun i _ => a1 i, a2, a3, a4, a5⟩
def Aft (E : Nat) (ow : Nat → Nat) (h : Hp) (x pL sL ha : Nat) (σ' : ST) (h' : Hp) : Prop := ∃ (ow' : Nat → Nat) (ps' ss' : List Nat), RC E ow' h' x pL sL ha ps' ss' σ' ∧ (∀ b z, xS h b = some z → ow' b = ow b) ∧ Ext ow h h'
def pOp (E : Nat) (ow : Nat → Nat) (h : Hp) (x pL sL ha : Nat) (σ : ST) (o : OR) : Res → Hp → Prop := fun res h' => (∃ E0, o = .inl E0 ∧ res = .inr E0 ∧ Aft E ow h x pL sL ha σ h') ∨ ∃ v σ', o = .inr (v, σ') ∧ res = .inl (some (.int v)) ∧ Aft E ow h x pL sL ha σ' h'
theorem pOp.thr {E : Nat} {ow : Nat → Nat} {h h' : Hp} {x pL sL ha : Nat} {σ : ST} {o : OR} {E0 : String} (e : o = .inl E0) (a : Aft E ow h x pL sL ha σ h') : pOp E ow h x pL sL ha σ o (.inr E0) h' := Or.inl ⟨E0, e, rfl, a⟩
theorem pOp.ret {E : Nat} {ow : Nat → Nat} {h h' : Hp} {x pL sL ha : Nat} {σ σ' : ST} {o : OR} {v : Int32} (e : o = .inr (v, σ')) (a : Aft E ow h x pL sL ha σ' h') : pOp E ow h x pL sL ha σ o (.inl (some (.int v))) h' := Or.inr ⟨v, σ', e, rfl, a⟩
section AftL
variable {E : Nat} {ow ow' : Nat → Nat} {h h' : Hp} {x pL sL ha : Nat} {ps ss : List Nat} {σ : ST}
theorem Aft.rf (r : RC E ow h x pL sL ha ps ss σ) : Aft E ow h x pL sL ha σ h := ⟨ow, ps, ss, r, fun _ _ _ => rfl, Ext.rf⟩
theorem Aft.tm (r : RC E ow h x pL sL ha ps ss σ) (t : Tm h h') : Aft E ow h x pL sL ha σ h' := ⟨ow, ps, ss, r.tm t, fun _ _ _ => rfl, Ext.tm t⟩
abbrev wP (σ : ST) (i : Nat) (p : PS) : ST := ((eN σ, upt (eP σ) i p), σ.2)
abbrev wS (σ : ST) (j : Nat) (s : SS) : ST := (σ.1, (eM σ, upt (eS σ) j s), σ.2.2)
theorem RC.pup {i a : Nat} {p' : PS} (r : RC E ow h x pL sL ha ps ss σ) (k : Kp (fun t => ¬ (100 + 8 * i ≤ t ∧ t < 108 + 8 * i)) ow ow' h h') (hi : ps[i]? = some a) (hi8 : i < 1000) (hp : PupAt E ow' h' i a p') (hE : xS h' E = none) : RC E ow' h' x pL sL ha ps ss (wP σ i p') := by
  obtain ⟨⟨a1, a2, a3, a4, a5⟩, ⟨b1, b2, b3, b4⟩, zp, zs, ⟨d1, d2⟩, ⟨e1, e2, e3, e4, e5, e6⟩, f1⟩ := r
  have Tx : ¬ (100 + 8 * i ≤ ow x ∧ ow x < 108 + 8 * i) := by omega
  have Tp : ¬ (100 + 8 * i ≤ ow pL ∧ ow pL < 108 + 8 * i) := by omega
  have Ts : ¬ (100 + 8 * i ≤ ow sL ∧ ow sL < 108 + 8 * i) := by omega
  have Th : ¬ (100 + 8 * i ≤ ow ha ∧ ow ha < 108 + 8 * i) := by omega
  have T5 : (fun t => ¬ (100 + 8 * i ≤ t ∧ t < 108 + 8 * i)) 5 := by show ¬ (100 + 8 * i ≤ 5 ∧ 5 < 108 + 8 * i); omega
  have T6 : (fun t => ¬ (100 + 8 * i ≤ t ∧ t < 108 + 8 * i)) 6 := by show ¬ (100 + 8 * i ≤ 6 ∧ 6 < 108 + 8 * i); omega
  refine ⟨⟨k.S a1, by rw [k.P a1 Tx, a2], by rw [k.P a1 Tx, a3], by rw [k.P a1 Tx, a4], k.S a5⟩, ⟨b1.kp k Tp (LD.TT (T := fun t => ¬ (100 + 8 * i ≤ t ∧ t < 108 + 8 * i)) e5 T5) f1, b2.kp k Ts (LD.TT (T := fun t => ¬ (100 + 8 * i ≤ t ∧ t < 108 + 8 * i)) e6 T6) f1, b3, b4⟩, fun q b hb => ?_, fun j s hs => (zs j s hs).kp k (fun t ht => show ¬ (100 + 8 * i ≤ t ∧ t < 108 + 8 * i) by omega), ⟨fun s => by rw [k.A a5 Th, d1], by rw [k.F a1 Tx, d2]⟩, ⟨by rw [k.O a1, e1], by rw [k.O b1.1, e2], by rw [k.O b2.1, e3], by rw [k.O a5, e4], LD.kp k b1.1 Tp e5, LD.kp k b2.1 Ts e6⟩, hE⟩
  by_cases e : q = i
  · subst e
    rw [hi] at hb; cases hb
    show PupAt E ow' h' q a (upt (eP σ) q p' q)
    rw [upt_s]; exact hp
  · show PupAt E ow' h' q b (upt (eP σ) i p' q)
    rw [upt_n _ _ e]
    exact (zp q b hb).kp k f1 (fun t ht => show ¬ (100 + 8 * i ≤ t ∧ t < 108 + 8 * i) by omega)
theorem RC.shw {j s : Nat} {S' : SS} (r : RC E ow h x pL sL ha ps ss σ) (hn : ps.length ≤ 1000) (k : Kp (fun t => ¬ (10000 + 8 * j ≤ t ∧ t < 10008 + 8 * j)) ow ow' h h') (hj : ss[j]? = some s) (hp : ShowAt ow' h' j s S') (hE : xS h' E = none) : RC E ow' h' x pL sL ha ps ss (wS σ j S') := by
  obtain ⟨⟨a1, a2, a3, a4, a5⟩, ⟨b1, b2, b3, b4⟩, zp, zs, ⟨d1, d2⟩, ⟨e1, e2, e3, e4, e5, e6⟩, f1⟩ := r
  have Tx : ¬ (10000 + 8 * j ≤ ow x ∧ ow x < 10008 + 8 * j) := by omega
  have Tp : ¬ (10000 + 8 * j ≤ ow pL ∧ ow pL < 10008 + 8 * j) := by omega
  have Ts : ¬ (10000 + 8 * j ≤ ow sL ∧ ow sL < 10008 + 8 * j) := by omega
  have Th : ¬ (10000 + 8 * j ≤ ow ha ∧ ow ha < 10008 + 8 * j) := by omega
  have T5 : (fun t => ¬ (10000 + 8 * j ≤ t ∧ t < 10008 + 8 * j)) 5 := by show ¬ (10000 + 8 * j ≤ 5 ∧ 5 < 10008 + 8 * j); omega
  have T6 : (fun t => ¬ (10000 + 8 * j ≤ t ∧ t < 10008 + 8 * j)) 6 := by show ¬ (10000 + 8 * j ≤ 6 ∧ 6 < 10008 + 8 * j); omega
  refine ⟨⟨k.S a1, by rw [k.P a1 Tx, a2], by rw [k.P a1 Tx, a3], by rw [k.P a1 Tx, a4], k.S a5⟩, ⟨b1.kp k Tp (LD.TT (T := fun t => ¬ (10000 + 8 * j ≤ t ∧ t < 10008 + 8 * j)) e5 T5) f1, b2.kp k Ts (LD.TT (T := fun t => ¬ (10000 + 8 * j ≤ t ∧ t < 10008 + 8 * j)) e6 T6) f1, b3, b4⟩, fun q b hb => (zp q b hb).kp k f1 (fun t ht => by have := (List.getElem?_eq_some_iff.mp hb).1; show ¬ (10000 + 8 * j ≤ t ∧ t < 10008 + 8 * j); omega), fun q b hb => ?_, ⟨fun s => by rw [k.A a5 Th, d1], by rw [k.F a1 Tx, d2]⟩, ⟨by rw [k.O a1, e1], by rw [k.O b1.1, e2], by rw [k.O b2.1, e3], by rw [k.O a5, e4], LD.kp k b1.1 Tp e5, LD.kp k b2.1 Ts e6⟩, hE⟩
  by_cases e : q = j
  · subst e
    rw [hj] at hb; cases hb
    show ShowAt ow' h' q s (upt (eS σ) q S' q)
    rw [upt_s]; exact hp
  · show ShowAt ow' h' q b (upt (eS σ) j S' q)
    rw [upt_n _ _ e]
    exact (zs q b hb).kp k (fun t ht => show ¬ (10000 + 8 * j ≤ t ∧ t < 10008 + 8 * j) by omega)
theorem Kp.row {T : Nat → Prop} {a : Nat} (f : Fr (fun b => b = a) h h') (ha : ¬ T (ow a)) : Kp T ow ow h h' := Kp.of f (fun _ _ _ => rfl) (fun b z hz ht e => ha (e ▸ ht))
theorem Aft.pup {i a : Nat} {p' : PS} (r : RC E ow h x pL sL ha ps ss σ) (k : Kp (fun t => ¬ (100 + 8 * i ≤ t ∧ t < 108 + 8 * i)) ow ow' h h') (hi : ps[i]? = some a) (hi8 : i < 1000) (hp : PupAt E ow' h' i a p') (hE : xS h' E = none) : Aft E ow h x pL sL ha (wP σ i p') h' := ⟨ow', ps, ss, r.pup k hi hi8 hp hE, fun b z hz => k.O hz, Ext.kp k (by omega)⟩
theorem Aft.shw {j s : Nat} {S' : SS} (r : RC E ow h x pL sL ha ps ss σ) (hn : ps.length ≤ 1000) (k : Kp (fun t => ¬ (10000 + 8 * j ≤ t ∧ t < 10008 + 8 * j)) ow ow' h h') (hj : ss[j]? = some s) (hp : ShowAt ow' h' j s S') (hE : xS h' E = none) : Aft E ow h x pL sL ha (wS σ j S') h' := ⟨ow', ps, ss, r.shw hn k hj hp hE, fun b z hz => k.O hz, Ext.kp k (by omega)⟩
theorem PupAt.len {i a : Nat} {p : PS} (v : Int32) (hp : PupAt E ow h i a p) : PupAt E ow (yF h 201 a v) i a (p.1, v, p.2.2) := by
  obtain ⟨ka, ma, pl, xs, ms, hP, f0, f1b, f2, f3, f4, f5, o, g1, g2, o5, o6⟩ := hp
  exact ⟨ka, ma, pl, xs, ms, hP, f0, u2_s _ _ _ _, f2, f3, f4, f5, o, g1, g2, o5, o6⟩
theorem PupAt.cue {i a : Nat} {p : PS} (v : Int32) (hp : PupAt E ow h i a p) : PupAt E ow (yF h 203 a v) i a (p.1, p.2.1, p.2.2.1, v, p.2.2.2.2) := by
  obtain ⟨ka, ma, pl, xs, ms, hP, f0, f1b, f2, f3, f4, f5, o, g1, g2, o5, o6⟩ := hp
  exact ⟨ka, ma, pl, xs, ms, hP, f0, f1b, f2, u2_s _ _ _ _, f4, f5, o, g1, g2, o5, o6⟩
theorem PupAt.worn {i a : Nat} {p : PS} (n : Nat) (hp : PupAt E ow h i a p) : PupAt E ow (yF h 204 a (nI n)) i a (p.1, p.2.1, p.2.2.1, p.2.2.2.1, n, p.2.2.2.2.2) := by
  obtain ⟨ka, ma, pl, xs, ms, hP, f0, f1b, f2, f3, f4, f5, o, g1, g2, o5, o6⟩ := hp
  exact ⟨ka, ma, pl, xs, ms, hP, f0, f1b, f2, f3, u2_s _ _ _ _, f5, o, g1, g2, o5, o6⟩
end AftL
