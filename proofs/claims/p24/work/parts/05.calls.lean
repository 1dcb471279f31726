/-! ===== calls, throws, ends ===== -/
section Go
variable {p : Program} {l : Launch} {e : Env} {R : Room} {s : State} {m : MethodId} {args : Array Value} {below : List Frame} {meth : Method} {c : Code} {H : Heap} {locs : List Loc} {cells slots mc ms : Nat} {Q : State → Prop} {pc : Nat} {ls : Array Slot} {st0 rest : List Value} {g : Gl} {post : Res → Hp → Prop} {a : Array Value}
theorem va_to_vx {gf : JFrame} {Qa : State → Outcome → State → Prop} {XC : String → State → State → Prop} {free : Addr → Prop} (hr : va_Run p l e R s m args below meth c H locs cells slots mc ms gf rest Qa free) : vx_Run p l e R s m args below meth c H locs cells slots mc ms gf rest Qa XC free := fun T hT XS => Or.inl (hr T hT XS)
theorem vx_go (hr : vx_Run p l e R s m args below meth c H locs cells slots mc ms (F0 m pc ls st0) rest (QC g post a) (XQ g post) (gA g)) (hS : va_S (gA g) s.heap H locs)
    (kret : ∀ (r : Option Value) (h' : Hp) (H1 : Heap) (locs1 : List Loc), post (.inl r) h' → HG g h' H1 → va_S (gA g) s.heap H1 locs1 → W p l e R s m args below meth c H1 locs1 (cells + mc) (slots + ms) Q (F0 m (pc + 3) ls (r.toList ++ rest)))
    (kthr : ∀ (E : String) (h' : Hp) (H1 : Heap) (locs1 : List Loc) (q : Nat) (ce : Cell), post (.inr E) h' → HG g h' H1 → va_S (gA g) s.heap H1 locs1 → H1[q]? = some ce → ce.vm = .none → s.vm.findClass E = some ce.cls → vx_W p l e R s m args below meth c H1 locs1 (cells + mc) (slots + ms) Q (F0 m pc ls rest) q) : W p l e R s m args below meth c H locs cells slots Q (F0 m pc ls st0) := by
  intro T hT XS
  rcases hr T hT XS with ⟨v, st₀, t, T', L, h0, X', hL, e1, e2, ⟨⟨r, h', hv, hp, hb⟩, hF⟩, st⟩ | ⟨q, st₀, t, T', L, E, ce, h0, X', hL, e1, e2, ⟨⟨h', hp, hb⟩, hF⟩, hce, hcv, hcl, st⟩
  · cases hv
    obtain ⟨k1, k2, k3⟩ := vx_keep h0 e1 hS (fun _ _ z => z) (fun _ z => z) hL hF
    obtain ⟨t2, a1, b1⟩ := kret v h' T'.heap (locs ++ L) hp (by rw [e1]; exact hb) k3 T' rfl X'
    exact ⟨t2, st t2 a1, b1⟩
  · obtain ⟨k1, k2, k3⟩ := vx_keep h0 e1 hS (fun _ _ z => z) (fun _ z => z) hL hF
    obtain ⟨t2, a1, b1⟩ := kthr E h' T'.heap (locs ++ L) q ce hp (by rw [e1]; exact hb) k3 (by rw [e1]; exact hce) hcv hcl T' rfl X'
    exact ⟨t2, st.trans a1, b1⟩
end Go
theorem PG.at {g : Gl} {s U : State} {H : Heap} {locs : List Loc} {av : List Value} {h : Hp} (hgl : Glob g s) (hG : HG g h H) (hS : va_S (gA g) s.heap H locs) (hU : U.heap = H) (hW : s.WarmedH U.vm) : PG g av h av.toArray U := ⟨rfl, hgl.at hS hU hW, by rw [hU]; exact hG⟩
abbrev notMH (y : MethodName) (n : Nat) : Prop := y.cls ≠ "java/lang/invoke/MethodHandle" ∧ y.cls ≠ "java/lang/invoke/VarHandle" ∧ (parseMethodDescriptor y.desc).map (fun d => d.parameters.length) = some n
/-- what a call asks of the tables -/
def CWV (own : String) (idx : Nat) (C : String) (mi : MI) (n : Nat) : Prop := mi.1.cls = C ∧ notMH mi.1 n ∧ Cond.methodLink own idx mi.1 ∈ TB ∧ Cond.instanceMethod mi.1 ∈ TB ∧ Cond.selects C mi.1 mi.1 ∈ TB ∧ Cond.initialized C ∈ TB ∧ cwOf mi ∈ TB
def CWS (own : String) (idx : Nat) (mi : MI) (n : Nat) : Prop := notMH mi.1 n ∧ Cond.methodLink own idx mi.1 ∈ TB ∧ Cond.static mi.1 ∈ TB ∧ Cond.initialized mi.1.cls ∈ TB ∧ cwOf mi ∈ TB
def CWI (own : String) (idx : Nat) (mi : MI) (n : Nat) : Prop := mi.1.name = "<init>" ∧ mi.2.2.2 = none ∧ notMH mi.1 n ∧ Cond.methodLink own idx mi.1 ∈ TB ∧ Cond.instanceMethod mi.1 ∈ TB ∧ Cond.initialized mi.1.cls ∈ TB ∧ cwOf mi ∈ TB
def CWIN (own : String) (idx : Nat) (host : String) (mi : MI) (n : Nat) : Prop := mi.1.name = "<init>" ∧ mi.2.2.2 = none ∧ notMH mi.1 n ∧ Cond.methodLinkNest own idx mi.1 host ∈ NW ∧ Cond.instanceMethod mi.1 ∈ TB ∧ Cond.initialized mi.1.cls ∈ TB ∧ cwOf mi ∈ TB
def CWSN (own : String) (idx : Nat) (host : String) (mi : MI) (n : Nat) : Prop := notMH mi.1 n ∧ Cond.methodLinkNest own idx mi.1 host ∈ NW ∧ Cond.static mi.1 ∈ TB ∧ Cond.initialized mi.1.cls ∈ TB ∧ cwOf mi ∈ TB
def CWSW (own : String) (idx : Nat) (mi : MI) (hh : List (Nat × Nat × Nat × Nat)) (n : Nat) : Prop := notMH mi.1 n ∧ Cond.methodLink own idx mi.1 ∈ TB ∧ Cond.static mi.1 ∈ TB ∧ Cond.initialized mi.1.cls ∈ TB ∧ Cond.codeWith mi.1 mi.2.1 mi.2.2.1 mi.2.2.2 hh ∈ TB
/-- the room of a callee of depth d -/
abbrev RD (R : Room) (d : Nat) (mi : MI) : Prop := d + 1 ≤ R.frames ∧ 50 * d + 50 ≤ R.locals ∧ mi.2.2.1 ≤ 31
theorem RD.fit {R : Room} {d mc ms : Nat} {mi : MI} (h : RD R d mi) : (rmOf d mc ms).frames + 1 ≤ R.frames ∧ 8 + (mi.2.2.1 + 11) + (rmOf d mc ms).locals ≤ R.locals := ⟨h.1, by
  have h1 := h.2.1
  have h2 := h.2.2
  show 8 + (mi.2.2.1 + 11) + 50 * d ≤ R.locals
  omega⟩
theorem code_in {mi : MI} (h : cwOf mi ∈ TB) : ∀ w ∈ cwOf mi :: TB, w ∈ TB := fun w hw => (List.mem_cons.mp hw).elim (fun e => e ▸ h) id
section RulesC
variable {g : Gl} {l : Launch} {R : Room} {own : String} {cc : ByteArray} {nL : Nat} {hh : List (Nat × Nat × Nat × Nat)} {mn : String} {V : VT} {X : XT} {pc : Nat} {lv : List (Option Value)} {st stk : List Value} {h : Hp} {kc ks : Nat}

theorem r_callV (M : Mach g l R own cc nL hh mn V X) {idx d mc ms a ci n : Nat} {mi : MI} {As : List Value} {post : Res → Hp → Prop} {C1 : String} {T1 : u_T} {N1 : Nat} (hd : decode cc pc = .ok (.invokevirtual idx, 3)) (hstk : stk = As.reverse ++ .ref a :: st) (hct : CT g l mi d (.ref a :: As) h mc ms post) (hs : xS h a = some (ci, n)) (hcl : kcl[ci]? = some (C1, T1, N1)) (hcw : CWV own idx C1 mi As.length) (hR : RD R d mi) (hroom : (st.map fun v => v.category).sum ≤ 8) (hbud : kc + mc ≤ R.cells ∧ ks + ms ≤ R.slots) (kret : ∀ (r : Option Value) (h' : Hp), post (.inl r) h' → V (pc + 3) lv (r.toList ++ st) h' (kc + mc) (ks + ms)) (kthr : ∀ (E : String) (h' : Hp), post (.inr E) h' → X pc lv E h' (kc + mc) (ks + ms)) : V pc lv stk h kc ks := by
  obtain ⟨Qs, p, e, s, m, args, below, meth, c, hx, hb, hml, hown, hts, hgl, hlk, hnm, htab, hst, rfl, rfl⟩ := M
  intro hkc hks H locs ls hG hS hl
  obtain ⟨w1, ⟨w2, w3, w4⟩, w5, w6, w7, w8, w9⟩ := hcw
  obtain ⟨ws, g1, g2, g3, g4⟩ := id hG
  obtain ⟨q0, hq0⟩ := g3 _ _ _ hs
  rw [ent_obj (kcl_lt hcl)] at hq0
  refine vx_go (vx_runV (As := As) (rest := st) ⟨hx, hb, hml, hown, hts⟩ hct (cwV As.length hts (TB_in (fun w hw => ?_)) rfl rfl rfl ⟨w1, w2, w3, w4⟩ hR.fit) ⟨PG.blind, va_recv hgl.1.1 g1 hcl hq0, fun U hU hW => PG.at hgl hG hS hU hW⟩ rfl rfl hl.1 hstk (by show 2 * 0 + _ ≤ 8; omega) hd hbud) hS (fun r h' H1 locs1 a1 a2 a3 => kret r h' a1 hbud.1 hbud.2 H1 locs1 ls a2 a3 hl) (fun E h' H1 locs1 q ce a1 a2 a3 a4 a5 a6 => kthr E h' a1 hbud.1 hbud.2 H1 locs1 ls q ce st a2 a3 hl a4 a5 a6)
  rcases List.mem_append.mp hw with z | z
  · simp only [List.mem_cons, List.not_mem_nil, or_false] at z
    rcases z with rfl | rfl | rfl | rfl
    · exact w5
    · exact w6
    · exact w7
    · exact w8
  · exact code_in w9 w z
theorem r_callS (M : Mach g l R own cc nL hh mn V X) {idx d mc ms : Nat} {mi : MI} {As : List Value} {post : Res → Hp → Prop} (hd : decode cc pc = .ok (.invokestatic idx, 3)) (hstk : stk = As.reverse ++ st) (hct : CT g l mi d As h mc ms post) (hcw : CWS own idx mi As.length) (hR : RD R d mi) (hroom : (st.map fun v => v.category).sum ≤ 8) (hbud : kc + mc ≤ R.cells ∧ ks + ms ≤ R.slots) (kret : ∀ (r : Option Value) (h' : Hp), post (.inl r) h' → V (pc + 3) lv (r.toList ++ st) h' (kc + mc) (ks + ms)) (kthr : ∀ (E : String) (h' : Hp), post (.inr E) h' → X pc lv E h' (kc + mc) (ks + ms)) : V pc lv stk h kc ks := by
  obtain ⟨Qs, p, e, s, m, args, below, meth, c, hx, hb, hml, hown, hts, hgl, hlk, hnm, htab, hst, rfl, rfl⟩ := M
  intro hkc hks H locs ls hG hS hl
  obtain ⟨⟨w2, w3, w4⟩, w5, w6, w8, w9⟩ := hcw
  refine vx_go (vx_runS (As := As) (rest := st) ⟨hx, hb, hml, hown, hts⟩ hct (va_cwS As.length hts (TB_in (fun w hw => ?_)) rfl rfl rfl ⟨w2, w3, w4⟩ hR.fit) ⟨PG.blind, fun U hU hW => PG.at hgl hG hS hU hW⟩ rfl rfl hl.1 hstk (by show 2 * 0 + _ ≤ 8; omega) hd hbud) hS (fun r h' H1 locs1 a1 a2 a3 => kret r h' a1 hbud.1 hbud.2 H1 locs1 ls a2 a3 hl) (fun E h' H1 locs1 q ce a1 a2 a3 a4 a5 a6 => kthr E h' a1 hbud.1 hbud.2 H1 locs1 ls q ce st a2 a3 hl a4 a5 a6)
  rcases List.mem_append.mp hw with z | z
  · simp only [List.mem_cons, List.not_mem_nil, or_false] at z
    rcases z with rfl | rfl | rfl
    · exact w5
    · exact w6
    · exact w8
  · exact code_in w9 w z
theorem r_callSW (M : Mach g l R own cc nL hh mn V X) {idx d mc ms : Nat} {mi : MI} {hh1 : List (Nat × Nat × Nat × Nat)} {As : List Value} {post : Res → Hp → Prop} (hd : decode cc pc = .ok (.invokestatic idx, 3)) (hstk : stk = As.reverse ++ st) (hct : CTW g l mi hh1 d As h mc ms post) (hcw : CWSW own idx mi hh1 As.length) (hR : RD R d mi) (hroom : (st.map fun v => v.category).sum ≤ 8) (hbud : kc + mc ≤ R.cells ∧ ks + ms ≤ R.slots) (kret : ∀ (r : Option Value) (h' : Hp), post (.inl r) h' → V (pc + 3) lv (r.toList ++ st) h' (kc + mc) (ks + ms)) (hno : ∀ (E : String) (h' : Hp), ¬ post (.inr E) h') : V pc lv stk h kc ks := by
  obtain ⟨Qs, p, e, s, m, args, below, meth, c, hx, hb, hml, hown, hts, hgl, hlk, hnm, htab, hst, rfl, rfl⟩ := M
  intro hkc hks H locs ls hG hS hl
  obtain ⟨⟨w2, w3, w4⟩, w5, w6, w8, w9⟩ := hcw
  refine vx_go (vx_runSX (As := As) (rest := st) ⟨hx, hb, hml, hown, hts⟩ hct (vx_cwSW As.length hts (TB_in (fun w hw => ?_)) rfl rfl rfl ⟨w2, w3, w4⟩ hR.fit) ⟨PG.blind, fun U hU hW => PG.at hgl hG hS hU hW⟩ rfl rfl hl.1 hstk (by show 2 * 0 + _ ≤ 8; omega) hd hbud) hS (fun r h' H1 locs1 a1 a2 a3 => kret r h' a1 hbud.1 hbud.2 H1 locs1 ls a2 a3 hl) (fun E h' H1 locs1 q ce a1 a2 a3 a4 a5 a6 => absurd a1 (hno E h'))
  rcases List.mem_append.mp hw with z | z
  · simp only [List.mem_cons, List.not_mem_nil, or_false] at z
    rcases z with rfl | rfl | rfl
    · exact w5
    · exact w6
    · exact w8
  · exact (List.mem_cons.mp z).elim (fun e => e ▸ w9) id
theorem r_callI (M : Mach g l R own cc nL hh mn V X) {idx d mc ms a : Nat} {mi : MI} {As : List Value} {post : Res → Hp → Prop} (hd : decode cc pc = .ok (.invokespecial idx, 3)) (hstk : stk = As.reverse ++ .ref a :: st) (hct : CT g l mi d (.ref a :: As) h mc ms post) (hcw : CWI own idx mi As.length) (hR : RD R d mi) (hroom : (st.map fun v => v.category).sum ≤ 8) (hbud : kc + mc ≤ R.cells ∧ ks + ms ≤ R.slots) (kret : ∀ (r : Option Value) (h' : Hp), post (.inl r) h' → V (pc + 3) lv (r.toList ++ st) h' (kc + mc) (ks + ms)) (hno : ∀ (E : String) (h' : Hp), ¬ post (.inr E) h') : V pc lv stk h kc ks := by
  obtain ⟨Qs, p, e, s, m, args, below, meth, c, hx, hb, hml, hown, hts, hgl, hlk, hnm, htab, hst, rfl, rfl⟩ := M
  intro hkc hks H locs ls hG hS hl
  obtain ⟨w0, w1, ⟨w2, w3, w4⟩, w5, w6, w8, w9⟩ := hcw
  obtain ⟨y, bb, nn, rr⟩ := mi
  dsimp only at w1
  subst w1
  exact vx_go (va_to_vx (va_runI (As := As) (rest := st) ⟨hx, hb, hml, hown, hts⟩ (ct_met hct hno) (cwI As.length hts (TB_in (code_in w9)) rfl rfl rfl (hts _ w8) (hts _ w5) (hts _ w6) w0 ⟨w2, w3, w4⟩ hR.fit) ⟨PG.blind, fun U hU hW => PG.at hgl hG hS hU hW⟩ rfl rfl hl.1 hstk (by show 2 * 0 + _ ≤ 8; omega) hd hbud)) hS (fun r h' H1 locs1 a1 a2 a3 => kret r h' a1 hbud.1 hbud.2 H1 locs1 ls a2 a3 hl) (fun E h' H1 locs1 q ce a1 a2 a3 a4 a5 a6 => absurd a1 (hno E h'))
theorem r_callIN (M : Mach g l R own cc nL hh mn V X) {idx d mc ms a : Nat} {host : String} {mi : MI} {As : List Value} {post : Res → Hp → Prop} (hd : decode cc pc = .ok (.invokespecial idx, 3)) (hstk : stk = As.reverse ++ .ref a :: st) (hct : CT g l mi d (.ref a :: As) h mc ms post) (hcw : CWIN own idx host mi As.length) (hR : RD R d mi) (hroom : (st.map fun v => v.category).sum ≤ 8) (hbud : kc + mc ≤ R.cells ∧ ks + ms ≤ R.slots) (kret : ∀ (r : Option Value) (h' : Hp), post (.inl r) h' → V (pc + 3) lv (r.toList ++ st) h' (kc + mc) (ks + ms)) (hno : ∀ (E : String) (h' : Hp), ¬ post (.inr E) h') : V pc lv stk h kc ks := by
  obtain ⟨Qs, p, e, s, m, args, below, meth, c, hx, hb, hml, hown, hts, hgl, hlk, hnm, htab, hst, rfl, rfl⟩ := M
  intro hkc hks H locs ls hG hS hl
  obtain ⟨w0, w1, ⟨w2, w3, w4⟩, w5, w6, w8, w9⟩ := hcw
  obtain ⟨y, bb, nn, rr⟩ := mi
  dsimp only at w1
  subst w1
  exact vx_go (va_to_vx (va_runIN (As := As) (rest := st) ⟨hx, hb, hml, hown, hts⟩ (ct_met hct hno) ⟨va_cnB As.length hts (TB_in (code_in w9)) rfl rfl rfl (hgl.1.2.1 _ w5) (hts _ w8) ⟨w2, w3, w4⟩ hR.fit, w0, hts _ w6⟩ ⟨PG.blind, fun U hU hW => PG.at hgl hG hS hU hW⟩ rfl rfl hl.1 hstk (by show 2 * 0 + _ ≤ 8; omega) hd hbud)) hS (fun r h' H1 locs1 a1 a2 a3 => kret r h' a1 hbud.1 hbud.2 H1 locs1 ls a2 a3 hl) (fun E h' H1 locs1 q ce a1 a2 a3 a4 a5 a6 => absurd a1 (hno E h'))
theorem r_callSN (M : Mach g l R own cc nL hh mn V X) {idx d mc ms : Nat} {host : String} {mi : MI} {As : List Value} {post : Res → Hp → Prop} (hd : decode cc pc = .ok (.invokestatic idx, 3)) (hstk : stk = As.reverse ++ st) (hct : CT g l mi d As h mc ms post) (hcw : CWSN own idx host mi As.length) (hR : RD R d mi) (hroom : (st.map fun v => v.category).sum ≤ 8) (hbud : kc + mc ≤ R.cells ∧ ks + ms ≤ R.slots) (kret : ∀ (r : Option Value) (h' : Hp), post (.inl r) h' → V (pc + 3) lv (r.toList ++ st) h' (kc + mc) (ks + ms)) (hno : ∀ (E : String) (h' : Hp), ¬ post (.inr E) h') : V pc lv stk h kc ks := by
  obtain ⟨Qs, p, e, s, m, args, below, meth, c, hx, hb, hml, hown, hts, hgl, hlk, hnm, htab, hst, rfl, rfl⟩ := M
  intro hkc hks H locs ls hG hS hl
  obtain ⟨⟨w2, w3, w4⟩, w5, w6, w8, w9⟩ := hcw
  exact vx_go (va_to_vx (va_runSN (As := As) (rest := st) ⟨hx, hb, hml, hown, hts⟩ (ct_met hct hno) ⟨va_cnB As.length hts (TB_in (code_in w9)) rfl rfl rfl (hgl.1.2.1 _ w5) (hts _ w8) ⟨w2, w3, w4⟩ hR.fit, hts _ w6, trivial⟩ ⟨PG.blind, fun U hU hW => PG.at hgl hG hS hU hW⟩ rfl rfl hl.1 hstk (by show 2 * 0 + _ ≤ 8; omega) hd hbud)) hS (fun r h' H1 locs1 a1 a2 a3 => kret r h' a1 hbud.1 hbud.2 H1 locs1 ls a2 a3 hl) (fun E h' H1 locs1 q ce a1 a2 a3 a4 a5 a6 => absurd a1 (hno E h'))
theorem r_objInit (M : Mach g l R own cc nL hh mn V X) {idx a : Nat} (hd : decode cc pc = .ok (.invokespecial idx, 3)) (hw1 : Cond.methodLink own idx objectInit ∈ TB) (hw2 : Cond.instanceMethod objectInit ∈ TB) (hw3 : Cond.code objectInit ⟨#[0xb1]⟩ 1 none ∈ TB) (hr1 : 1 ≤ R.frames) (hr2 : (st.map fun v => v.category).sum + 12 ≤ R.locals) (kk : V (pc + 3) lv st h kc ks) : V pc lv (.ref a :: st) h kc ks := by
  obtain ⟨Qs, p, e, s, m, args, below, meth, c, hx, hb, hml, hown, hts, hgl, hlk, hnm, htab, hst, rfl, rfl⟩ := M
  intro hkc hks H locs ls hG hS hl
  exact W.objInit hx hb hown (hts _ hw1) (hts _ hw2) (hts _ hw3) rfl (hl.1.trans hml.symm) rfl hd hr1 (by show 2 * 0 + _ + 12 ≤ R.locals; omega) (kk hkc hks H locs ls hG hS hl)
theorem r_max (M : Mach g l R own cc nL hh mn V X) {idx : Nat} {x y : Int32} (hd : decode cc pc = .ok (.invokestatic idx, 3)) (hw1 : Cond.methodLink own idx Lib.Math.max.name ∈ TB) (hw2 : Cond.static Lib.Math.max.name ∈ TB) (hw3 : Cond.initialized "java/lang/Math" ∈ TB) (hw4 : Cond.code Lib.Math.max.name Lib.Math.max.code 2 (some .int) ∈ TB) (hr1 : 1 ≤ R.frames) (hr2 : (st.map fun v => v.category).sum + 13 ≤ R.locals) (kk : V (pc + 3) lv (.int (if x < y then y else x) :: st) h kc ks) : V pc lv (.int y :: .int x :: st) h kc ks := by
  obtain ⟨Qs, p, e, s, m, args, below, meth, c, hx, hb, hml, hown, hts, hgl, hlk, hnm, htab, hst, rfl, rfl⟩ := M
  intro hkc hks H locs ls hG hS hl
  exact va_mmax hx hb (hml.trans hl.1.symm) hown (hts _ hw1) (hts _ hw2) (hts _ hw3) (hts _ hw4) hr1 hr2 hkc hks hd (kk hkc hks H locs ls hG hS hl)
theorem r_min (M : Mach g l R own cc nL hh mn V X) {idx : Nat} {x y : Int32} (hd : decode cc pc = .ok (.invokestatic idx, 3)) (hw1 : Cond.methodLink own idx Lib.Math.min.name ∈ TB) (hw2 : Cond.static Lib.Math.min.name ∈ TB) (hw3 : Cond.initialized "java/lang/Math" ∈ TB) (hw4 : Cond.code Lib.Math.min.name Lib.Math.min.code 2 (some .int) ∈ TB) (hr1 : 1 ≤ R.frames) (hr2 : (st.map fun v => v.category).sum + 13 ≤ R.locals) (kk : V (pc + 3) lv (.int (if y < x then y else x) :: st) h kc ks) : V pc lv (.int y :: .int x :: st) h kc ks := by
  obtain ⟨Qs, p, e, s, m, args, below, meth, c, hx, hb, hml, hown, hts, hgl, hlk, hnm, htab, hst, rfl, rfl⟩ := M
  intro hkc hks H locs ls hG hS hl
  exact va_mmin hx hb (hml.trans hl.1.symm) hown (hts _ hw1) (hts _ hw2) (hts _ hw3) (hts _ hw4) hr1 hr2 hkc hks hd (kk hkc hks H locs ls hG hS hl)
theorem r_abs (M : Mach g l R own cc nL hh mn V X) {idx : Nat} {x : Int32} (hd : decode cc pc = .ok (.invokestatic idx, 3)) (hw1 : Cond.methodLink own idx Lib.Math.abs.name ∈ TB) (hw2 : Cond.static Lib.Math.abs.name ∈ TB) (hw3 : Cond.initialized "java/lang/Math" ∈ TB) (hw4 : Cond.code Lib.Math.abs.name Lib.Math.abs.code 1 (some .int) ∈ TB) (hr1 : 1 ≤ R.frames) (hr2 : (st.map fun v => v.category).sum + 13 ≤ R.locals) (kk : V (pc + 3) lv (.int (if 0 ≤ x then x else 0 - x) :: st) h kc ks) : V pc lv (.int x :: st) h kc ks := by
  obtain ⟨Qs, p, e, s, m, args, below, meth, c, hx, hb, hml, hown, hts, hgl, hlk, hnm, htab, hst, rfl, rfl⟩ := M
  intro hkc hks H locs ls hG hS hl
  exact va_mabs hx hb (hml.trans hl.1.symm) hown (hts _ hw1) (hts _ hw2) (hts _ hw3) (hts _ hw4) hr1 hr2 hkc hks hd (kk hkc hks H locs ls hG hS hl)
theorem x_catch (M : Mach g l R own cc nL hh mn V X) {E name : String} (pre : List ExceptionTableEntry) (x : ExceptionTableEntry) (suf : List ExceptionTableEntry) (hsp : tableOf hh = pre ++ x :: suf) (hpass : ∀ z ∈ pre, z.catchType ≠ 0 ∧ ∃ nm : String, Cond.classLink own z.catchType nm ∈ TB ∧ (E, nm) ∈ ncs) (hcov : covers x pc = true) (h0 : x.catchType ≠ 0) (hw : Cond.classLink own x.catchType name ∈ TB) (hc : Cond.castable E name ∈ NW) (kk : ∀ q : Nat, V x.handlerPc lv [.ref q] h kc ks) : X pc lv E h kc ks := by
  obtain ⟨Qs, p, e, s, m, args, below, meth, c, hx, hb, hml, hown, hts, hgl, hlk, hnm, htab, hst, rfl, rfl⟩ := M
  intro hkc hks H locs ls q ce rest hG hS hl h1 h2 h3
  exact vx_catch hown pre x suf (htab.trans hsp) (fun z hz => Or.inr ⟨(hpass z hz).1, (hpass z hz).2.choose, hts _ (hpass z hz).2.choose_spec.1, hgl.1.2.2.2.2.2.2 _ (hpass z hz).2.choose_spec.2⟩) hcov h0 (hts _ hw) (va_Nw.use rfl (hgl.1.2.1 _ hc)) h1 h2 h3 (kk q hkc hks H locs ls hG hS hl)
end RulesC
section Ends
variable {g : Gl} {l : Launch} {own : String} {cc : ByteArray} {nL mc ms d : Nat} {ret : Option FieldType} {rt : FieldType} {hh : List (Nat × Nat × Nat × Nat)} {mn : String} {post : Res → Hp → Prop} {V : VT} {X : XT} {pc : Nat} {lv : List (Option Value)} {st stk : List Value} {h : Hp} {kc ks : Nat}

theorem r_iret (M : MachR g l mc ms d own cc nL (some .int) hh mn post V X) {x : Int32} (hd : decode cc pc = .ok (.ireturn, 1)) (hp : post (.inl (some (.int x))) h) : V pc lv [.int x] h kc ks := by
  obtain ⟨p, e, s, m, args, below, meth, c, hret, hx, hb, hml, hown, hts, hgl, hlk, hnm, htab, hst, rfl, rfl⟩ := M
  intro hkc hks H locs ls hG hS hl
  refine W.widen (k := mc) (n := ms) hkc hks ?_
  exact vx_ret (W.iret (v := x) hx hb hret (fun t ht hW => ⟨⟨_, h, rfl, hp, by rw [ht]; exact hG⟩, hS.F ht⟩) hS.2.2 hd hlk)
theorem r_zret (M : MachR g l mc ms d own cc nL (some .boolean) hh mn post V X) {x : Int32} (hd : decode cc pc = .ok (.ireturn, 1)) (hn : narrow .boolean (.int x) = .int x) (hp : post (.inl (some (.int x))) h) : V pc lv [.int x] h kc ks := by
  obtain ⟨p, e, s, m, args, below, meth, c, hret, hx, hb, hml, hown, hts, hgl, hlk, hnm, htab, hst, rfl, rfl⟩ := M
  intro hkc hks H locs ls hG hS hl
  refine W.widen (k := mc) (n := ms) hkc hks ?_
  exact vx_ret (W.zret (v := x) hx hb hret hn (fun t ht hW => ⟨⟨_, h, rfl, hp, by rw [ht]; exact hG⟩, hS.F ht⟩) hS.2.2 hd hlk)
theorem r_vret (M : MachR g l mc ms d own cc nL none hh mn post V X) (hd : decode cc pc = .ok (.return_, 1)) (hp : post (.inl none) h) : V pc lv [] h kc ks := by
  obtain ⟨p, e, s, m, args, below, meth, c, hret, hx, hb, hml, hown, hts, hgl, hlk, hnm, htab, hst, rfl, rfl⟩ := M
  intro hkc hks H locs ls hG hS hl
  refine W.widen (k := mc) (n := ms) hkc hks ?_
  exact vx_ret (W.vret hx hb hret (fun t ht hW => ⟨⟨_, h, rfl, hp, by rw [ht]; exact hG⟩, hS.F ht⟩) hS.2.2 hd hlk)
theorem r_aret (M : MachR g l mc ms d own cc nL (some rt) hh mn post V X) {a : Nat} (hd : decode cc pc = .ok (.areturn, 1)) (hrt : (∃ n, rt = .object n) ∨ ∃ t, rt = .array t) (hp : post (.inl (some (.ref a))) h) : V pc lv [.ref a] h kc ks := by
  obtain ⟨p, e, s, m, args, below, meth, c, hret, hx, hb, hml, hown, hts, hgl, hlk, hnm, htab, hst, rfl, rfl⟩ := M
  intro hkc hks H locs ls hG hS hl
  refine W.widen (k := mc) (n := ms) hkc hks ?_
  exact vx_ret (W.aret (v := .ref a) hx hb hret hrt (Or.inr ⟨a, rfl⟩) (fun t ht hW => ⟨⟨_, h, rfl, hp, by rw [ht]; exact hG⟩, hS.F ht⟩) hS.2.2 hd hlk)
theorem x_out (M : MachR g l mc ms d own cc nL ret [] mn post V X) {E : String} (hp : post (.inr E) h) : X pc lv E h kc ks := by
  obtain ⟨p, e, s, m, args, below, meth, c, hret, hx, hb, hml, hown, hts, hgl, hlk, hnm, htab, hst, rfl, rfl⟩ := M
  intro hkc hks H locs ls q ce rest hG hS hl h1 h2 h3
  exact vx_out (fun z hz => by rw [htab] at hz; cases hz) hlk h1 h2 h3 (fun t ht hW => ⟨⟨h, hp, by rw [ht]; exact hG⟩, hS.F ht⟩) hS.2.2 hkc hks
def nmsX : List String := ["java/lang/RuntimeException", "java/lang/Exception"]
/-- what 'throw new cls("..")' asks of the tables -/
def TI (own : String) (ik is ic : Nat) (cls : String) : Prop := ∃ (k : Nat) (text : String), strs[k]? = some (own, is, text) ∧ Bundle.fit cls = true ∧ Cond.classLink own ik cls ∈ TB ∧ Cond.initialized cls ∈ TB ∧ (∀ w ∈ vx_atS own ic cls nmsX, w ∈ TB ∨ w ∈ NW) ∧ (∀ w ∈ Cond.classLink own ik cls :: Cond.initialized cls :: vx_atS own ic cls nmsX, vx_ot w = true)
theorem nmsX_fit : ∀ n ∈ nmsX, Bundle.fit n = true := by decide +kernel
theorem nw_tabs {w : Cond} (hw : w ∈ NW) : w.onTables = true := by
  have h := (List.mem_filter.mp hw).2
  cases w <;> first | rfl | exact absurd h (by simp [isNw])
theorem r_throw (M : MachR g l mc ms d own cc nL ret [] mn post V X) {cls : String} {ik is ic : Nat} (ht : TI own ik is ic cls) (d0 : decode cc pc = .ok (.new ik, 3)) (d3 : decode cc (pc + 3) = .ok (.dup, 1)) (d4 : decode cc (pc + 4) = .ok (.ldc is, 2)) (d6 : decode cc (pc + 6) = .ok (.invokespecial ic, 3)) (d9 : decode cc (pc + 9) = .ok (.athrow, 1)) (hd6 : 6 ≤ d) (hst0 : (st.map fun v => v.category).sum ≤ 200) (hbud : kc + 1 ≤ mc ∧ ks + 6 ≤ ms) (hp : post (.inr cls) h) : V pc lv st h kc ks := by
  obtain ⟨p, e, s, m, args, below, meth, c, hret, hx, hb, hml, hown, hts, hgl, hlk, hnm, htab, hst, rfl, rfl⟩ := M
  intro hkc hks H locs ls hG hS hl
  obtain ⟨k, text, t1, t2, t3, t4, t5, t6⟩ := ht
  have hstr := hgl.1.2.2.2.2.2.1 k _ t1
  refine vx_throwS (names := nmsX) (A := gA g) hx hb hst hown t2 nmsX_fit (hts _ t3) (hts _ t4) hstr (fun w hw => ?_) t6 hgl.2.2.2.2.2.2.1 hgl.2.2.2.2.2.2.2.1 hS (hl.1.trans hml.symm) d0 d3 d4 d6 d9 (fun z hz => by rw [htab] at hz; cases hz) (by show 2 + 3 < d; omega) (by show _ + (13 * (2 + 1) + 43) ≤ 50 * d; omega) hbud.1 hbud.2 hlk (fun t hW hz hq => ⟨⟨h, hp, hG.kept hq⟩, ⟨Nat.le_trans hS.1 hz, fun q h1 h2 => (hq q (Nat.lt_of_lt_of_le h1 hS.1)).trans (hS.2.1 q h1 h2)⟩⟩) hS.2.2 hbud.1 hbud.2
  rcases t5 w hw with z | z
  · exact hts _ z
  · exact va_Nw.use (nw_tabs z) (hgl.1.2.1 _ z)
end Ends
