/-! ===== the class and the rows of the law between two calls ===== -/
theorem RC.kp0 {E : Nat} {ow : Nat → Nat} {h h' : Hp} {x pL sL ha : Nat} {ps ss : List Nat} {σ : ST} (r : RC E ow h x pL sL ha ps ss σ) (k : Kp (fun t => t ≠ 0) ow ow h h') (hE : xS h' E = none) : RC E ow h' x pL sL ha ps ss σ := by
  obtain ⟨⟨a1, a2, a3, a4, a5⟩, ⟨b1, b2, b3, b4⟩, zp, zs, ⟨d1, d2⟩, ⟨e1, e2, e3, e4, e5, e6⟩, f1⟩ := r
  have T1 : ow x ≠ 0 := by omega
  have Tp : ow pL ≠ 0 := by omega
  have Ts : ow sL ≠ 0 := by omega
  have Th : ow ha ≠ 0 := by omega
  have T5 : (fun t : Nat => t ≠ 0) 5 := by show 5 ≠ 0; decide
  have T6 : (fun t : Nat => t ≠ 0) 6 := by show 6 ≠ 0; decide
  exact ⟨⟨k.S a1, by rw [k.P a1 T1, a2], by rw [k.P a1 T1, a3], by rw [k.P a1 T1, a4], k.S a5⟩, ⟨b1.kp k Tp (LD.TT (T := fun t => t ≠ 0) e5 T5) f1, b2.kp k Ts (LD.TT (T := fun t => t ≠ 0) e6 T6) f1, b3, b4⟩, fun i b hb => (zp i b hb).kp k f1 (fun t ht => by show t ≠ 0; omega), fun j s hs => (zs j s hs).kp k (fun t ht => by show t ≠ 0; omega), ⟨fun s => by rw [k.A a5 Th, d1], by rw [k.F a1 T1, d2]⟩, ⟨by rw [k.O a1, e1], by rw [k.O b1.1, e2], by rw [k.O b2.1, e3], by rw [k.O a5, e4], LD.kp k b1.1 Tp e5, LD.kp k b2.1 Ts e6⟩, hE⟩
def szA : Nat → Nat
  | 0 => 5
  | 1 => 5
  | 2 => 5
  | _ => 4
/-- the class at a state; the rows of the law, ad 0 to ad 7, and what they hold -/
def Mid (g : Gl) (h : Hp) (x : Nat) (ad : Nat → Nat) (A : Nat → Nat → Int32) (σ : ST) : Prop := ∃ (ow : Nat → Nat) (pL sL ha : Nat) (ps ss : List Nat), RC (gN g 2) ow h x pL sL ha ps ss σ ∧ (∀ k, k < 8 → xS h (ad k) = some (8, szA k) ∧ ow (ad k) = 0 ∧ xA h (ad k) = A k) ∧ ∀ i j, i < 8 → j < 8 → ad i = ad j → i = j
/-- a call comes back by o, the rows stay -/
def pMo (g : Gl) (x : Nat) (ad : Nat → Nat) (A : Nat → Nat → Int32) (σ : ST) (o : OR) : Res → Hp → Prop := fun res h' => (∃ E, o = .inl E ∧ res = .inr E ∧ Mid g h' x ad A σ) ∨ ∃ v σ', o = .inr (v, σ') ∧ res = .inl (some (.int v)) ∧ Mid g h' x ad A σ'
section MidL
variable {g : Gl} {h h' : Hp} {x : Nat} {ad : Nat → Nat} {A B : Nat → Nat → Int32} {σ σ' : ST}
theorem Mid.ox (md : Mid g h x ad A σ) : xS h x = some (5, 0) := by
  obtain ⟨ow, pL, sL, ha, ps, ss, rc, hA, inj⟩ := md
  exact rc.1.1
theorem Mid.sh (md : Mid g h x ad A σ) {k : Nat} (hk : k < 8) : xS h (ad k) = some (8, szA k) := by
  obtain ⟨ow, pL, sL, ha, ps, ss, rc, hA, inj⟩ := md
  exact (hA k hk).1
theorem Mid.rd (md : Mid g h x ad A σ) {k : Nat} (hk : k < 8) (i : Nat) : xA h (ad k) i = A k i := by
  obtain ⟨ow, pL, sL, ha, ps, ss, rc, hA, inj⟩ := md
  rw [(hA k hk).2.2]
theorem Mid.ar (md : Mid g h x ad A σ) (e : ∀ k, k < 8 → ∀ i, A k i = B k i) : Mid g h x ad B σ := by
  obtain ⟨ow, pL, sL, ha, ps, ss, rc, hA, inj⟩ := md
  exact ⟨ow, pL, sL, ha, ps, ss, rc, fun k hk => ⟨(hA k hk).1, (hA k hk).2.1, (hA k hk).2.2.trans (funext (e k hk))⟩, inj⟩
theorem Mid.aft {ow : Nat → Nat} {pL sL ha : Nat} (hA : ∀ k, k < 8 → xS h (ad k) = some (8, szA k) ∧ ow (ad k) = 0 ∧ xA h (ad k) = A k) (inj : ∀ i j, i < 8 → j < 8 → ad i = ad j → i = j) (a : Aft (gN g 2) ow h x pL sL ha σ' h') : Mid g h' x ad A σ' := by
  obtain ⟨ow', ps', ss', r', e1, e2⟩ := a
  refine ⟨ow', pL, sL, ha, ps', ss', r', fun k hk => ?_, inj⟩
  obtain ⟨s1, o1, a1⟩ := hA k hk
  obtain ⟨f1, f2⟩ := e2 _ _ s1
  exact ⟨f1, (e1 _ _ s1).trans o1, ((f2 o1).2.2.1).trans a1⟩
theorem ct_mid {l : Launch} {mi : MI} {d mc ms : Nat} {av : List Value} {o : OR} (md : Mid g h x ad A σ) (c : ∀ (pL sL ha : Nat) (ow : Nat → Nat) (ps ss : List Nat), RC (gN g 2) ow h x pL sL ha ps ss σ → CT g l mi d av h mc ms (pOp (gN g 2) ow h x pL sL ha σ o)) : CT g l mi d av h mc ms (pMo g x ad A σ o) := by
  obtain ⟨ow, pL, sL, ha, ps, ss, rc, hA, inj⟩ := md
  refine ct_weak (c pL sL ha ow ps ss rc) (fun r h' p => ?_) (fun E h' p => ?_)
  · rcases p with ⟨E, e1, e2, a⟩ | ⟨v, σ1, e1, e2, a⟩
    · exact Or.inl ⟨E, e1, e2, Mid.aft hA inj a⟩
    · exact Or.inr ⟨v, σ1, e1, e2, Mid.aft hA inj a⟩
  · rcases p with ⟨E, e1, e2, a⟩ | ⟨v, σ1, e1, e2, a⟩
    · exact Or.inl ⟨E, e1, e2, Mid.aft hA inj a⟩
    · exact Or.inr ⟨v, σ1, e1, e2, Mid.aft hA inj a⟩
theorem ct_ret {l : Launch} {mi : MI} {d mc ms : Nat} {av : List Value} {o : OR} {v : Int32} (c : CT g l mi d av h mc ms (pMo g x ad A σ o)) (e : o = .inr (v, σ')) : CT g l mi d av h mc ms (pRel (fun r h' => r = some (.int v) ∧ Mid g h' x ad A σ')) := by
  refine ct_weak c (fun r h' p => ?_) (fun E h' p => ?_)
  · rcases p with ⟨E, e1, e2, a⟩ | ⟨v1, σ1, e1, e2, a⟩
    · cases e2
    · rw [e] at e1
      cases e1; cases e2
      exact ⟨rfl, a⟩
  · rcases p with ⟨E, e1, e2, a⟩ | ⟨v1, σ1, e1, e2, a⟩
    · rw [e] at e1; cases e1
    · cases e2
theorem Mid.st (md : Mid g h x ad A σ) {k : Nat} (hk : k < 8) (i : Nat) (v : Int32) : Mid g (yA h (ad k) i v) x ad (u2 A k i v) σ := by
  obtain ⟨ow, pL, sL, ha, ps, ss, rc, hA, inj⟩ := md
  have kp : Kp (fun t => t ≠ 0) ow ow h (yA h (ad k) i v) := Kp.row (Fr.yA rfl) (fun z => z (hA k hk).2.1)
  refine ⟨ow, pL, sL, ha, ps, ss, rc.kp0 kp rc.2.2.2.2.2.2, fun q hq => ⟨(hA q hq).1, (hA q hq).2.1, ?_⟩, inj⟩
  by_cases e : q = k
  · subst e
    rw [u2_own]
    funext j
    rw [zxA_yA, (hA q hq).2.2]
    by_cases c : j = i
    · rw [if_pos ⟨rfl, c⟩, if_pos c]
    · rw [if_neg (fun z => c z.2), if_neg c]
  · rw [u2_row _ _ _ e, yA_o (fun z => e (inj q k hq hk z)), (hA q hq).2.2]
theorem Mid.st2 (md : Mid g h x ad A σ) {k : Nat} (hk : k < 8) (i : Nat) (v : Int32) (e : ∀ k' < 8, ∀ j, u2 A k i v k' j = B k' j) : Mid g (yA h (ad k) i v) x ad B σ := (md.st hk i v).ar e
end MidL
theorem cd_income {g : Gl} {l : Launch} (hfl : l.stackTraces = false) {h : Hp} {x : Nat} {ad : Nat → Nat} {A : Nat → Nat → Int32} {σ : ST} (md : Mid g h x ad A σ) (hw : WF σ) : CT g l iX5_income 1 [.ref x] h 0 0 (pMo g x ad A σ (o_income σ)) := ct_mid md (fun pL sL ha ow ps ss r => ct_o_income hfl h x pL sL ha ow ps ss σ r hw)
theorem cd_worn {g : Gl} {l : Launch} (hfl : l.stackTraces = false) {h : Hp} {x : Nat} {ad : Nat → Nat} {A : Nat → Nat → Int32} {σ : ST} (md : Mid g h x ad A σ) (hw : WF σ) (p : Int32) : CT g l iX5_worn 8 [.ref x, .int p] h 1 6 (pMo g x ad A σ (o_worn σ p)) := ct_mid md (fun pL sL ha ow ps ss r => ct_o_worn hfl h x pL sL ha ow ps ss σ r hw p)
theorem cd_setLength {g : Gl} {l : Launch} (hfl : l.stackTraces = false) {h : Hp} {x : Nat} {ad : Nat → Nat} {A : Nat → Nat → Int32} {σ : ST} (md : Mid g h x ad A σ) (hw : WF σ) (p n : Int32) : CT g l iX5_setLength 8 [.ref x, .int p, .int n] h 1 6 (pMo g x ad A σ (o_setLength σ p n)) := ct_mid md (fun pL sL ha ow ps ss r => ct_o_setLength hfl h x pL sL ha ow ps ss σ r hw p n)
theorem cd_track {g : Gl} {l : Launch} (hfl : l.stackTraces = false) {h : Hp} {x : Nat} {ad : Nat → Nat} {A : Nat → Nat → Int32} {σ : ST} (md : Mid g h x ad A σ) (hw : WF σ) (p f : Int32) : CT g l iX5_track 8 [.ref x, .int p, .int f] h 1 6 (pMo g x ad A σ (o_track σ p f)) := ct_mid md (fun pL sL ha ow ps ss r => ct_o_track hfl h x pL sL ha ow ps ss σ r hw p f)
theorem cd_tbf {g : Gl} {l : Launch} (hfl : l.stackTraces = false) {h : Hp} {x : Nat} {ad : Nat → Nat} {A : Nat → Nat → Int32} {σ : ST} (md : Mid g h x ad A σ) (hw : WF σ) (p f : Int32) : CT g l iX5_trackByFrames 8 [.ref x, .int p, .int f] h 1 6 (pMo g x ad A σ (o_tbf σ p f)) := ct_mid md (fun pL sL ha ow ps ss r => ct_o_tbf hfl h x pL sL ha ow ps ss σ r hw p f)
theorem cd_least {g : Gl} {l : Launch} (hfl : l.stackTraces = false) {h : Hp} {x : Nat} {ad : Nat → Nat} {A : Nat → Nat → Int32} {σ : ST} (md : Mid g h x ad A σ) (hw : WF σ) (p : Int32) : CT g l iX5_least 8 [.ref x, .int p] h 1 6 (pMo g x ad A σ (o_least σ p)) := ct_mid md (fun pL sL ha ow ps ss r => ct_o_least hfl h x pL sL ha ow ps ss σ r hw p)
theorem cd_cue {g : Gl} {l : Launch} (hfl : l.stackTraces = false) {h : Hp} {x : Nat} {ad : Nat → Nat} {A : Nat → Nat → Int32} {σ : ST} (md : Mid g h x ad A σ) (hw : WF σ) (p q : Int32) : CT g l iX5_cue 8 [.ref x, .int p, .int q] h 1 6 (pMo g x ad A σ (o_cue σ p q)) := ct_mid md (fun pL sL ha ow ps ss r => ct_o_cue hfl h x pL sL ha ow ps ss σ r hw p q)
theorem cd_hear {g : Gl} {l : Launch} (hfl : l.stackTraces = false) {h : Hp} {x : Nat} {ad : Nat → Nat} {A : Nat → Nat → Int32} {σ : ST} (md : Mid g h x ad A σ) (hw : WF σ) (q f : Int32) : CT g l iX5_hear 8 [.ref x, .int q, .int f] h 1 6 (pMo g x ad A σ (o_hear σ q f)) := ct_mid md (fun pL sL ha ow ps ss r => ct_o_hear hfl h x pL sL ha ow ps ss σ r hw q f)
theorem cd_x {g : Gl} {l : Launch} (hfl : l.stackTraces = false) {h : Hp} {x : Nat} {ad : Nat → Nat} {A : Nat → Nat → Int32} {σ : ST} (md : Mid g h x ad A σ) (hw : WF σ) (q p f : Int32) : CT g l iX5_x 9 [.ref x, .int q, .int p, .int f] h 1 6 (pMo g x ad A σ (o_x σ q p f)) := ct_mid md (fun pL sL ha ow ps ss r => ct_o_x hfl h x pL sL ha ow ps ss σ r hw q p f)
theorem cd_y {g : Gl} {l : Launch} (hfl : l.stackTraces = false) {h : Hp} {x : Nat} {ad : Nat → Nat} {A : Nat → Nat → Int32} {σ : ST} (md : Mid g h x ad A σ) (hw : WF σ) (q p f : Int32) : CT g l iX5_y 9 [.ref x, .int q, .int p, .int f] h 1 6 (pMo g x ad A σ (o_y σ q p f)) := ct_mid md (fun pL sL ha ow ps ss r => ct_o_y hfl h x pL sL ha ow ps ss σ r hw q p f)
theorem cd_bent {g : Gl} {l : Launch} (hfl : l.stackTraces = false) {h : Hp} {x : Nat} {ad : Nat → Nat} {A : Nat → Nat → Int32} {σ : ST} (md : Mid g h x ad A σ) (hw : WF σ) (q p f t : Int32) : CT g l iX5_bent 9 [.ref x, .int q, .int p, .int f, .int t] h 1 6 (pMo g x ad A σ (o_bent σ q p f t)) := ct_mid md (fun pL sL ha ow ps ss r => ct_o_bent hfl h x pL sL ha ow ps ss σ r hw q p f t)
theorem cd_cast {g : Gl} {l : Launch} (hfl : l.stackTraces = false) {h : Hp} {x : Nat} {ad : Nat → Nat} {A : Nat → Nat → Int32} {σ : ST} (md : Mid g h x ad A σ) (hw : WF σ) (q p : Int32) : CT g l iX5_cast 8 [.ref x, .int q, .int p] h 1 6 (pMo g x ad A σ (o_cast σ q p)) := ct_mid md (fun pL sL ha ow ps ss r => ct_o_cast hfl h x pL sL ha ow ps ss σ r hw q p)
theorem cd_leave {g : Gl} {l : Launch} (hfl : l.stackTraces = false) {h : Hp} {x : Nat} {ad : Nat → Nat} {A : Nat → Nat → Int32} {σ : ST} (md : Mid g h x ad A σ) (hw : WF σ) (q p : Int32) : CT g l iX5_leave 8 [.ref x, .int q, .int p] h 1 6 (pMo g x ad A σ (o_leave σ q p)) := ct_mid md (fun pL sL ha ow ps ss r => ct_o_leave hfl h x pL sL ha ow ps ss σ r hw q p)
theorem cd_sell {g : Gl} {l : Launch} (hfl : l.stackTraces = false) {h : Hp} {x : Nat} {ad : Nat → Nat} {A : Nat → Nat → Int32} {σ : ST} (md : Mid g h x ad A σ) (hw : WF σ) (q n m : Int32) : CT g l iX5_sell 8 [.ref x, .int q, .int n, .int m] h 1 6 (pMo g x ad A σ (o_sell σ q n m)) := ct_mid md (fun pL sL ha ow ps ss r => ct_o_sell hfl h x pL sL ha ow ps ss σ r hw q n m)
theorem cd_perform {g : Gl} {l : Launch} (hfl : l.stackTraces = false) {h : Hp} {x : Nat} {ad : Nat → Nat} {A : Nat → Nat → Int32} {σ : ST} (md : Mid g h x ad A σ) (hw : WF σ) (q : Int32) : CT g l iX5_perform 8 [.ref x, .int q] h 1 6 (pMo g x ad A σ (o_perform σ q)) := ct_mid md (fun pL sL ha ow ps ss r => ct_o_perform hfl h x pL sL ha ow ps ss σ r hw q)
theorem cd_isBusy {g : Gl} {l : Launch} (hfl : l.stackTraces = false) {h : Hp} {x : Nat} {ad : Nat → Nat} {A : Nat → Nat → Int32} {σ : ST} (md : Mid g h x ad A σ) (hw : WF σ) (p m : Int32) : CT g l iX5_isBusy 8 [.ref x, .int p, .int m] h 1 6 (pMo g x ad A σ (o_isBusy σ p m)) := ct_mid md (fun pL sL ha ow ps ss r => ct_o_isBusy hfl h x pL sL ha ow ps ss σ r hw p m)
theorem cd_mend {g : Gl} {l : Launch} (hfl : l.stackTraces = false) {h : Hp} {x : Nat} {ad : Nat → Nat} {A : Nat → Nat → Int32} {σ : ST} (md : Mid g h x ad A σ) (hw : WF σ) (p m : Int32) : CT g l iX5_mend 8 [.ref x, .int p, .int m] h 4 1520 (pMo g x ad A σ (o_mend σ p m)) := ct_mid md (fun pL sL ha ow ps ss r => ct_o_mend hfl h x pL sL ha ow ps ss σ r hw p m)
theorem cd_key {g : Gl} {l : Launch} (hfl : l.stackTraces = false) {h : Hp} {x : Nat} {ad : Nat → Nat} {A : Nat → Nat → Int32} {σ : ST} (md : Mid g h x ad A σ) (hw : WF σ) (p f u v e : Int32) : CT g l iX5_key 8 [.ref x, .int p, .int f, .int u, .int v, .int e] h 4 1520 (pMo g x ad A σ (o_key σ p f u v e)) := ct_mid md (fun pL sL ha ow ps ss r => ct_o_key hfl h x pL sL ha ow ps ss σ r hw p f u v e)
theorem cd_puppet {g : Gl} {l : Launch} (hfl : l.stackTraces = false) {h : Hp} {x : Nat} {ad : Nat → Nat} {A : Nat → Nat → Int32} {σ : ST} (md : Mid g h x ad A σ) (hw : WF σ) (b n : Int32) : CT g l iX5_puppet 8 [.ref x, .int b, .int n] h 6 1540 (pMo g x ad A σ (o_puppet σ b n)) := ct_mid md (fun pL sL ha ow ps ss r => ct_o_puppet hfl h x pL sL ha ow ps ss σ r hw b n)
theorem cd_show {g : Gl} {l : Launch} (hfl : l.stackTraces = false) {h : Hp} {x : Nat} {ad : Nat → Nat} {A : Nat → Nat → Int32} {σ : ST} (md : Mid g h x ad A σ) (hw : WF σ) (m n : Int32) : CT g l iX5_show 8 [.ref x, .int m, .int n] h 6 1540 (pMo g x ad A σ (o_show σ m n)) := ct_mid md (fun pL sL ha ow ps ss r => ct_o_show hfl h x pL sL ha ow ps ss σ r hw m n)
theorem cd_cut {g : Gl} {l : Launch} (hfl : l.stackTraces = false) {h : Hp} {x : Nat} {ad : Nat → Nat} {A : Nat → Nat → Int32} {σ : ST} (md : Mid g h x ad A σ) (hw : WF σ) (p f : Int32) : CT g l iX5_cutKey 8 [.ref x, .int p, .int f] h 1 6 (pMo g x ad A σ (o_cut σ p f)) := ct_mid md (fun pL sL ha ow ps ss r => ct_o_cut hfl h x pL sL ha ow ps ss σ r hw p f)
section RulesQ
variable {g : Gl} {l : Launch} {R : Room} {own : String} {cc : ByteArray} {nL : Nat} {hh : List (Nat × Nat × Nat × Nat)} {mn : String} {V : VT} {X : XT} {pc : Nat} {lv : List (Option Value)} {st : List Value} {h : Hp} {kc ks : Nat}
theorem r_ishrN (M : Mach g l R own cc nL hh mn V X) {a k q : Nat} (hd : decode cc pc = .ok (.ishr, 1)) (ha : a < 2 ^ 31) (hs : ((nI k &&& 31).toBitVec.smod 32).toNat = k) (hq : 2 ^ k = q) (kk : V (pc + 1) lv (.int (nI (a / q)) :: st) h kc ks) : V pc lv (.int (nI k) :: .int (nI a) :: st) h kc ks := r_ishr M hd (by rw [pk_shrN ha _ k hs, hq]; exact kk)
theorem r_iremN (M : Mach g l R own cc nL hh mn V X) {a d : Nat} (hd : decode cc pc = .ok (.irem, 1)) (ha : a < 2 ^ 31) (h0 : 0 < d) (h1 : d < 2 ^ 31) (kk : V (pc + 1) lv (.int (nI (a % d)) :: st) h kc ks) : V pc lv (.int (nI d) :: .int (nI a) :: st) h kc ks := r_irem M hd (nI_ne0 h0 h1) (by rw [pk_rem ha h0 h1]; exact kk)
theorem r_idivN (M : Mach g l R own cc nL hh mn V X) {a d : Nat} (hd : decode cc pc = .ok (.idiv, 1)) (ha : a < 2 ^ 31) (h0 : 0 < d) (h1 : d < 2 ^ 31) (kk : V (pc + 1) lv (.int (nI (a / d)) :: st) h kc ks) : V pc lv (.int (nI d) :: .int (nI a) :: st) h kc ks := r_idiv M hd (nI_ne0 h0 h1) (by rw [pk_div ha h0 h1]; exact kk)
theorem r_iandN (M : Mach g l R own cc nL hh mn V X) {a m k q : Nat} (hd : decode cc pc = .ok (.iand, 1)) (ha : a < 2 ^ 32) (hm : (nI m).toBitVec.toNat = 2 ^ k - 1) (hq : 2 ^ k = q) (kk : V (pc + 1) lv (.int (nI (a % q)) :: st) h kc ks) : V pc lv (.int (nI m) :: .int (nI a) :: st) h kc ks := r_iand M hd (by rw [pk_andN ha k hm, hq]; exact kk)
end RulesQ
theorem cd_Y (v : Int32) : ∃ c, c < 268435456 ∧ v &&& nI 268435455 = nI c := pk_andE v 28 (by decide +kernel)
theorem cd_D (v : Int32) : ∃ c, c < 16 ∧ v &&& nI 15 = nI c := pk_andE v 4 (by decide +kernel)
