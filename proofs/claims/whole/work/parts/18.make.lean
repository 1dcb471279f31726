/-! ===== the calls that make something ===== -/
section Grow
variable {E : Nat} {ow ow' : Nat → Nat} {h h' : Hp} {x pL sL ha : Nat} {ps ss : List Nat} {σ : ST}
theorem RC.grow (r : RC E ow h x pL sL ha ps ss σ) (k : Kp (fun _ => True) ow ow' h h') (hE : xS h' E = none) : RC E ow' h' x pL sL ha ps ss σ := by
  obtain ⟨⟨a1, a2, a3, a4, a5⟩, ⟨b1, b2, b3, b4⟩, zp, zs, ⟨d1, d2⟩, ⟨e1, e2, e3, e4, e5, e6⟩, f1⟩ := r
  exact ⟨⟨k.S a1, by rw [k.P a1 trivial, a2], by rw [k.P a1 trivial, a3], by rw [k.P a1 trivial, a4], k.S a5⟩, ⟨b1.kp k trivial (LD.TT (T := fun _ => True) e5 trivial) f1, b2.kp k trivial (LD.TT (T := fun _ => True) e6 trivial) f1, b3, b4⟩, fun q b hb => (zp q b hb).kp k f1 (fun _ _ => trivial), fun j s hs => (zs j s hs).kp k (fun _ _ => trivial), ⟨fun s => by rw [k.A a5 trivial, d1], by rw [k.F a1 trivial, d2]⟩, ⟨by rw [k.O a1, e1], by rw [k.O b1.1, e2], by rw [k.O b2.1, e3], by rw [k.O a5, e4], LD.kp k b1.1 trivial e5, LD.kp k b2.1 trivial e6⟩, hE⟩
theorem Kp.new {q t : Nat} (f : Fr (fun b => b = q) h h') (hq : xS h q = none) : Kp (fun _ => True) ow (upt ow q t) h h' := Kp.of f (fun b z hz => upt_n _ _ (fun e => by rw [e, hq] at hz; cases hz)) (fun b z hz _ e => by rw [e, hq] at hz; cases hz)
theorem Aft.grow (r : RC E ow h x pL sL ha ps ss σ) (k : Kp (fun _ => True) ow ow' h h') (hE : xS h' E = none) : Aft E ow h x pL sL ha σ h' := ⟨ow', ps, ss, r.grow k hE, fun b z hz => k.O hz, Ext.kp k trivial⟩
theorem xFN {q kd n b i : Nat} {z : Nat × Nat} {v : Int32} (hq : xS h q = none) (hz : xS h b = some z) (p : xF h i b = v) : xF (yN h q kd n) i b = v := by
  rw [zxF_yN, if_neg (ne_of_S hz hq)]; exact p
theorem qF {i a j b : Nat} {v w : Int32} (hn : j ≠ i) (p : xF h j b = w) : xF (yF h i a v) j b = w := by
  rw [zxF_yF, if_neg (fun z => hn z.1)]; exact p
theorem qF_s {i a : Nat} {v : Int32} : xF (yF h i a v) i a = v := u2_s _ _ _ _
theorem qP {i a j b : Nat} {v : Option Nat} {w : Int32} (p : xF h j b = w) : xF (yP h i a v) j b = w := p
/-- a list of tag tL with its data of tag tD, written -/
theorem LiP.kp {L tL tD : Nat} {xs' : List Nat} {z : Nat × Nat} (hl : LiP E h L h' xs') (hd : LD E ow h L tD) (hE : xS h E = none) (hs : xS h L = some z) (oL : ow L = tL) : ∃ ow3 : Nat → Nat, Kp (fun t => t ≠ tL ∧ t ≠ tD) ow ow3 h h' ∧ LD E ow3 h' L tD := by
  obtain ⟨l1, l2, l3⟩ := hl
  have hw : ∀ b z, xS h b = some z → (ow b ≠ tL ∧ ow b ≠ tD) → ¬ (b = L ∨ xP h 701 L = some b) := fun b z hz ht e => by
    rcases e with rfl | e
    · exact ht.1 oL
    · rcases hd b e with rfl | ⟨e1, -⟩
      · rw [hE] at hz; cases hz
      · exact ht.2 e1
  rcases l3 with e | ⟨q, e1, e2⟩
  · refine ⟨ow, Kp.of l2 (fun _ _ _ => rfl) hw, fun D hD => ?_⟩
    rw [e] at hD
    rcases hd D hD with e | ⟨e1, e2⟩
    · exact Or.inl e
    · cases hs : xS h D with
      | none => exact absurd hs e2
      | some w => exact Or.inr ⟨e1, by rw [l2.S hs]; exact fun z => nomatch z⟩
  · refine ⟨upt ow q tD, Kp.of l2 (fun b z hz => upt_n _ _ (fun e => by rw [e, e2] at hz; cases hz)) hw, fun D hD => ?_⟩
    rw [e1] at hD; cases hD
    obtain ⟨-, -, -, -, h5⟩ := l1
    rcases h5 with ⟨-, h6⟩ | ⟨D, n, h6, h7, -⟩
    · rw [e1] at h6; cases h6; exact Or.inl rfl
    · rw [e1] at h6; cases h6
      exact Or.inr ⟨upt_s _ _ _, by rw [h7]; exact fun z => nomatch z⟩
theorem PupAt.mend {i a ma q : Nat} {p : PS} {ms : List Nat} {w : Int32 × Int32} (hp : PupAt E ow h i a p) (hma : xP h 205 a = some ma) (hms : IsL E h ma ms) (h5 : ms.map (sv h) = qMend p) (h6 : ∀ m ∈ ms, xS h m = some (4, 0) ∧ ow m = 7) (hl : LiP E h ma h' (ms ++ [q])) (hq : xS h q = some (4, 0)) (oq : ow q = 7) (hw : sv h q = w) (hE : xS h E = none) : ∃ ow3 : Nat → Nat, Kp (fun t => t ≠ 102 + 8 * i ∧ t ≠ 105 + 8 * i) ow ow3 h h' ∧ PupAt E ow3 h' i a (p.1, p.2.1, p.2.2.1, p.2.2.2.1, p.2.2.2.2.1, qMend p ++ [w]) := by
  obtain ⟨ka, ma', pl, xs, ms', ⟨hs, hka, hma', hpl, hsp, hLk, hLm, hxk, hxm⟩, f0, f1, f2, f3, f4, f5, ⟨o1, o2, o3, o4⟩, d1, d2, o5, o6⟩ := hp
  rw [hma] at hma'; cases hma'
  obtain ⟨ow3, k, ld⟩ := hl.kp d2 hE hLm.1 o3
  refine ⟨ow3, k, ka, ma, pl, xs, ms ++ [q], ⟨k.S hs, ?_, ?_, ?_, k.S hsp, hLk.kp k ?_ (LD.TT (T := fun t => t ≠ 102 + 8 * i ∧ t ≠ 105 + 8 * i) d1 ?_) hE, hl.1, fun v hv => k.S (hxk v hv), fun v hv => ?_⟩, ?_, ?_, ?_, ?_, ?_, ?_, ⟨by rw [k.O hs, o1], by rw [k.O hLk.1, o2], by rw [k.O hLm.1, o3], by rw [k.O hsp, o4]⟩, LD.kp k hLk.1 ?_ d1, ld, fun v hv => by rw [k.O (hxk v hv), o5 v hv], fun v hv => ?_⟩
  · rw [k.P hs (by rw [o1]; omega), hka]
  · rw [k.P hs (by rw [o1]; omega), hma]
  · rw [k.P hs (by rw [o1]; omega), hpl]
  · rw [o2]; omega
  · show _ ∧ _; omega
  · rcases List.mem_append.mp hv with c | c
    · exact k.S (h6 v c).1
    · rw [List.mem_singleton.mp c]; exact k.S hq
  · rw [k.F hs (by rw [o1]; omega), f0]
  · rw [k.F hs (by rw [o1]; omega), f1]
  · rw [ksOf.kp k hxk (fun v hv => by rw [o5 v hv]; omega), f2]
  · rw [k.F hs (by rw [o1]; omega), f3]
  · rw [k.F hs (by rw [o1]; omega), f4]
  · show (ms ++ [q]).map (sv h') = qMend p ++ [w]
    rw [List.map_append, ← h5, ← hw, ← sv.kp k hq (by rw [oq]; omega)]
    rw [show ms.map (sv h') = ms.map (sv h) from List.map_congr_left (fun v hv => sv.kp k (h6 v hv).1 (by rw [(h6 v hv).2]; omega))]
    rfl
  · rw [o2]; omega
  · rcases List.mem_append.mp hv with c | c
    · rw [k.O (h6 v c).1, (h6 v c).2]
    · rw [List.mem_singleton.mp c, k.O hq, oq]
theorem PupAt.keys {i a ka : Nat} {p : PS} {xs' : List Nat} (hp : PupAt E ow h i a p) (hka : xP h 202 a = some ka) (h6 : ∀ v ∈ xs', xS h v = some (0, 0) ∧ ow v = 7) (hl : LiP E h ka h' xs') (hE : xS h E = none) : ∃ ow3 : Nat → Nat, Kp (fun t => t ≠ 101 + 8 * i ∧ t ≠ 104 + 8 * i) ow ow3 h h' ∧ PupAt E ow3 h' i a (p.1, p.2.1, ksOf h xs', p.2.2.2) := by
  obtain ⟨ka', ma, pl, xs, ms, ⟨hs, hka', hma, hpl, hsp, hLk, hLm, hxk, hxm⟩, f0, f1, f2, f3, f4, f5, ⟨o1, o2, o3, o4⟩, d1, d2, o5, o6⟩ := hp
  rw [hka] at hka'; cases hka'
  obtain ⟨ow3, k, ld⟩ := hl.kp d1 hE hLk.1 o2
  refine ⟨ow3, k, ka, ma, pl, xs', ms, ⟨k.S hs, ?_, ?_, ?_, k.S hsp, hl.1, hLm.kp k ?_ (LD.TT (T := fun t => t ≠ 101 + 8 * i ∧ t ≠ 104 + 8 * i) d2 ?_) hE, fun v hv => k.S (h6 v hv).1, fun v hv => k.S (hxm v hv)⟩, ?_, ?_, ?_, ?_, ?_, ?_, ⟨by rw [k.O hs, o1], by rw [k.O hLk.1, o2], by rw [k.O hLm.1, o3], by rw [k.O hsp, o4]⟩, ld, LD.kp k hLm.1 ?_ d2, fun v hv => by rw [k.O (h6 v hv).1, (h6 v hv).2], fun v hv => by rw [k.O (hxm v hv), o6 v hv]⟩
  · rw [k.P hs (by rw [o1]; omega), hka]
  · rw [k.P hs (by rw [o1]; omega), hma]
  · rw [k.P hs (by rw [o1]; omega), hpl]
  · rw [o3]; omega
  · show _ ∧ _; omega
  · rw [k.F hs (by rw [o1]; omega), f0]
  · rw [k.F hs (by rw [o1]; omega), f1]
  · exact ksOf.kp k (fun v hv => (h6 v hv).1) (fun v hv => by rw [(h6 v hv).2]; omega)
  · rw [k.F hs (by rw [o1]; omega), f3]
  · rw [k.F hs (by rw [o1]; omega), f4]
  · rw [← f5]; exact List.map_congr_left (fun v hv => sv.kp k (hxm v hv) (by rw [o6 v hv]; omega))
  · rw [o3]; omega
theorem Kp.tr {T : Nat → Prop} {ow2 : Nat → Nat} {h2 : Hp} (a : Kp (fun _ => True) ow ow' h h') (b : Kp T ow' ow2 h' h2) : Kp T ow ow2 h h2 := fun c z hz => by
  obtain ⟨a1, a2, a3⟩ := a c z hz
  obtain ⟨b1, b2, b3⟩ := b c z a2
  refine ⟨b1.trans a1, b2, fun t => ?_⟩
  obtain ⟨u1, u2, u3, u4, u5⟩ := a3 trivial
  obtain ⟨v1, v2, v3, v4, v5⟩ := b3 (by rw [a1]; exact t)
  exact ⟨fun i => (v1 i).trans (u1 i), fun i => (v2 i).trans (u2 i), v3.trans u3, v4.trans u4, v5.trans u5⟩
theorem Kp.wk {T T' : Nat → Prop} (a : Kp T ow ow' h h') (hT : ∀ t, T' t → T t) : Kp T' ow ow' h h' := fun c z hz => ⟨(a c z hz).1, (a c z hz).2.1, fun t => (a c z hz).2.2 (hT _ t)⟩
theorem Kp.tr2 {T : Nat → Prop} {ow2 : Nat → Nat} {h2 : Hp} (a : Kp T ow ow' h h') (b : Kp T ow' ow2 h' h2) : Kp T ow ow2 h h2 := fun c z hz => by
  obtain ⟨a1, a2, a3⟩ := a c z hz
  obtain ⟨b1, b2, b3⟩ := b c z a2
  refine ⟨b1.trans a1, b2, fun t => ?_⟩
  obtain ⟨u1, u2, u3, u4, u5⟩ := a3 t
  obtain ⟨v1, v2, v3, v4, v5⟩ := b3 (by rw [a1]; exact t)
  exact ⟨fun i => (v1 i).trans (u1 i), fun i => (v2 i).trans (u2 i), v3.trans u3, v4.trans u4, v5.trans u5⟩
end Grow
