/-! ===== what holds at every method's entry; a method's walk as V; its contract ===== -/
def TB : List Cond := lw_tbl.filter goodWord
def isNw : Cond → Bool
  | .castable _ _ => true
  | .methodLinkNest _ _ _ _ => true
  | .declares _ => true
  | _ => false
def NW : List Cond := lw_tbl.filter isNw
theorem TB_good {w : Cond} (h : w ∈ TB) : w ∈ TB ∧ ((w.onTables && w.keeps) = true ∨ ∃ ty, w = .arrayClass ty) := ⟨h, good_of_word (List.mem_filter.mp h).2⟩
theorem TB_in {ws : List Cond} (h : ∀ w ∈ ws, w ∈ TB) : GoodIn TB ws := fun w hw => TB_good (h w hw)
theorem TB_at {w : Cond} (i : Nat) (h : lw_tbl[i]? = some w) (hg : goodWord w = true) : w ∈ TB := List.mem_filter.mpr ⟨List.mem_of_getElem? h, hg⟩
theorem NW_at {w : Cond} (i : Nat) (h : lw_tbl[i]? = some w) (hg : isNw w = true) : w ∈ NW := List.mem_filter.mpr ⟨List.mem_of_getElem? h, hg⟩
def easeL : List Int32 := [0, 8, 16, 24, 32, 40, 48, 56, 0, 1, 4, 9, 16, 25, 36, 49, 0, 15, 28, 39, 48, 55, 60, 63, 0, 0, 0, 0, 0, 0, 0, 0]
def strs : List (String × Nat × String) := [("Puppetloom", 212, "a number is out of range"), ("Puppetloom", 43, "there are 8 puppets"), ("Puppetloom", 215, "there is no such puppet"), ("Puppetloom", 71, "the puppet has 12 keys"), ("Puppetloom", 84, "the puppet has no key at this frame"), ("Puppetloom", 93, "there is no such sound"), ("Puppetloom", 100, "there are 6 shows"), ("Puppetloom", 217, "there is no such show"), ("Puppetloom", 121, "the show is performed or has the puppet"), ("Puppetloom", 134, "the puppet is worn or does something else"), ("Puppetloom", 142, "the show is performed or has not the puppet"), ("Puppetloom", 150, "the show is performed or has not so many seats left"), ("Puppetloom", 155, "the show is performed or has no puppets"), ("Puppetloom", 167, "the puppet has no worn joints or was mended 10 times"), ("Puppetloom", 169, "the puppet does something else"), ("Puppetloom", 219, "the show has not the puppet")]
def ncs : List (String × String) := [("java/lang/IllegalStateException", "java/lang/IndexOutOfBoundsException"), ("java/util/NoSuchElementException", "java/lang/IndexOutOfBoundsException"), ("java/util/NoSuchElementException", "java/lang/IllegalStateException"), ("java/lang/IndexOutOfBoundsException", "java/lang/IllegalStateException"), ("java/lang/IllegalArgumentException", "java/lang/IndexOutOfBoundsException"), ("java/lang/IllegalArgumentException", "java/lang/IllegalStateException"), ("java/lang/IllegalArgumentException", "java/util/NoSuchElementException")]
def GlW (g : Gl) (U : State) : Prop := va_K (gD g) kcl (tys g) U ∧ (∀ w ∈ NW, va_Nw w U) ∧ va_Mi "[Ljava/lang/Object;" (gN g 3) U ∧ va_Dc U ∧ va_AO "java/lang/Object" U ∧ (∀ (k : Nat) (q : String × Nat × String), strs[k]? = some q → vk_R q.1 q.2.1 q.2.2 (gN g (10 + k)) U) ∧ ∀ q ∈ ncs, va_Nc q.1 q.2 U
def GlH (g : Gl) (U : State) : Prop := va_Z "Puppetloom" "EASING" "[I" (.ref (gN g 1)) (gA g) U U.heap ∧ va_T .int (gN g 1) 32 (fun j => .int (easeL.getD j 0)) (gA g) U U.heap ∧ va_Z "java/util/ArrayList" "DEFAULTCAPACITY_EMPTY_ELEMENTDATA" "[Ljava/lang/Object;" (.ref (gN g 2)) (gA g) U U.heap ∧ va_T (.object "java/lang/Object") (gN g 2) 0 (fun _ => .null) (gA g) U U.heap ∧ va_T .int (gN g 4) (gN g 5) (fun j => .int (gX g j)) (gA g) U U.heap ∧ vx_Zq Bundle.tN "UNASSIGNED_STACK" Bundle.steD (gA g) U U.heap ∧ vx_Zq Bundle.tN "SUPPRESSED_SENTINEL" Bundle.listD (gA g) U U.heap ∧ gN g 0 ≤ U.heap.size
def Glob (g : Gl) (U : State) : Prop := GlW g U ∧ GlH g U
theorem nw_moved {w : Cond} (hw : w ∈ NW) {s U : State} (hW : s.WarmedH U.vm) (hZ : va_Nw w s) : va_Nw w U := by
  have h := (List.mem_filter.mp hw).2
  cases w <;> first | exact va_Nw.warmC hW hZ | exact va_Nw.warmM hW hZ | exact va_Nw.warmD hW hZ | exact absurd h (by simp [isNw])
theorem GlW.moved {g : Gl} {s U : State} (hW : s.WarmedH U.vm) (h : GlW g s) : GlW g U := by
  obtain ⟨h1, h2, h3, h4, h5, h6, h7⟩ := h
  have ha := hW.alike
  exact ⟨va_K.moved ha h1, fun w hw => nw_moved hw hW (h2 w hw), va_Mi.moved ha h3, va_Dc.moved ha h4, va_AO.moved ha h5, fun k q hk => vk_R.warm hW (h6 k q hk), fun q hq => va_Nc.moved ha (h7 q hq)⟩
theorem GlH.moved {g : Gl} {s U : State} (hW : s.WarmedH U.vm) (hz : s.heap.size ≤ U.heap.size) (hq : ∀ a : Nat, a < s.heap.size → ¬ gA g a → U.heap[a]? = s.heap[a]?) (h : GlH g s) : GlH g U := by
  obtain ⟨h1, h2, h3, h4, h5, h6, h7, h8⟩ := h
  have ha := hW.alike
  exact ⟨va_Z.moved ha (h1.kept hq), va_T.moved ha (h2.kept hq), va_Z.moved ha (h3.kept hq), va_T.moved ha (h4.kept hq), va_T.moved ha (h5.kept hq), vx_Zq.moved ha (h6.kept hq), vx_Zq.moved ha (h7.kept hq), Nat.le_trans h8 hz⟩
theorem Glob.at {g : Gl} {s U : State} {H : Heap} {locs : List Loc} (h : Glob g s) (hS : va_S (gA g) s.heap H locs) (hU : U.heap = H) (hW : s.WarmedH U.vm) : Glob g U :=
  ⟨h.1.moved hW, h.2.moved hW (by rw [hU]; exact hS.1) (fun a h1 h2 => by rw [hU]; exact hS.2.1 a h1 h2)⟩
abbrev Res : Type := Option Value ⊕ String
def QC (g : Gl) (post : Res → Hp → Prop) : Array Value → State → Outcome → State → Prop := fun _ st o t => (∃ (r : Option Value) (h' : Hp), o = .returned r ∧ post (.inl r) h' ∧ HG g h' t.heap) ∧ va_F (gA g) st t
def XQ (g : Gl) (post : Res → Hp → Prop) : String → State → State → Prop := fun E st t => (∃ h' : Hp, post (.inr E) h' ∧ HG g h' t.heap) ∧ va_F (gA g) st t
/-- a method: its name, its bytes, its locals, what it returns -/
abbrev MI : Type := MethodName × ByteArray × Nat × Option FieldType
abbrev cwOf (mi : MI) : Cond := .code mi.1 mi.2.1 mi.2.2.1 mi.2.2.2
abbrev rmOf (d mc ms : Nat) : Room := { frames := d, cells := mc, slots := ms, locals := 50 * d }
abbrev PG (g : Gl) (av : List Value) (h : Hp) : Array Value → State → Prop := va_Pc av (fun U => Glob g U ∧ HG g h U.heap)
/-- the contract of a method, at one state: from args and the heap h it comes back by post; mc cells of ms slots at most -/
def CT (g : Gl) (l : Launch) (mi : MI) (d : Nat) (av : List Value) (h : Hp) (mc ms : Nat) (post : Res → Hp → Prop) : Prop := vx_Met l mi.1 (cwOf mi :: TB) (rmOf d mc ms) (PG g av h) (QC g post) (XQ g post) mc ms (gA g)
def CTW (g : Gl) (l : Launch) (mi : MI) (hh : List (Nat × Nat × Nat × Nat)) (d : Nat) (av : List Value) (h : Hp) (mc ms : Nat) (post : Res → Hp → Prop) : Prop := vx_Met l mi.1 (.codeWith mi.1 mi.2.1 mi.2.2.1 mi.2.2.2 hh :: TB) (rmOf d mc ms) (PG g av h) (QC g post) (XQ g post) mc ms (gA g)
theorem PG.blind {g : Gl} {av : List Value} {h : Hp} : FrameBlind (PG g av h) := by
  intro a U fr mk hp
  obtain ⟨h1, h2, h3⟩ := hp
  exact ⟨h1, h2.at (U := U.calling fr mk a) (H := U.heap) (locs := []) va_S.rf rfl (State.WarmedH.refl U), h3⟩
theorem ct_met {g : Gl} {l : Launch} {mi : MI} {d : Nat} {av : List Value} {h : Hp} {mc ms : Nat} {post : Res → Hp → Prop} (hM : CT g l mi d av h mc ms post) (hno : ∀ (E : String) (h' : Hp), ¬ post (.inr E) h') : Met l mi.1 (cwOf mi :: TB) (rmOf d mc ms) (PG g av h) (QC g post) mc ms (gA g) := by
  intro p e h1 h2 h3 s m args below h4 h5 h6 h7
  obtain ⟨n, o, a1, a2, a3, a4⟩ := hM p e h1 h2 h3 s m args below h4 h5 h6 h7
  refine ⟨n, o, a1, a2, a3, ?_⟩
  rcases a4 with b | ⟨q, -, E, ce, L, ⟨⟨h', b1, -⟩, -⟩, -⟩
  · exact b
  · exact absurd b1 (hno E h')
theorem ctw_met {g : Gl} {l : Launch} {mi : MI} {hh : List (Nat × Nat × Nat × Nat)} {d : Nat} {av : List Value} {h : Hp} {mc ms : Nat} {post : Res → Hp → Prop} (hM : CTW g l mi hh d av h mc ms post) (hno : ∀ (E : String) (h' : Hp), ¬ post (.inr E) h') : Met l mi.1 (.codeWith mi.1 mi.2.1 mi.2.2.1 mi.2.2.2 hh :: TB) (rmOf d mc ms) (PG g av h) (QC g post) mc ms (gA g) := by
  intro p e h1 h2 h3 s m args below h4 h5 h6 h7
  obtain ⟨n, o, a1, a2, a3, a4⟩ := hM p e h1 h2 h3 s m args below h4 h5 h6 h7
  refine ⟨n, o, a1, a2, a3, ?_⟩
  rcases a4 with b | ⟨q, -, E, ce, L, ⟨⟨h', b1, -⟩, -⟩, -⟩
  · exact b
  · exact absurd b1 (hno E h')
abbrev VT : Type := Nat → List (Option Value) → List Value → Hp → Nat → Nat → Prop
abbrev XT : Type := Nat → List (Option Value) → String → Hp → Nat → Nat → Prop
/-- the frame of a walk: V says that from there the method comes to Q; X the same where an object of that class has just been thrown -/
def MachQ (g : Gl) (l : Launch) (R : Room) (own : String) (cc : ByteArray) (nL : Nat) (hh : List (Nat × Nat × Nat × Nat)) (mn : String) (Qs : State → MethodId → Array Value → List Frame → Method → State → Prop) (V : VT) (X : XT) (p : Program) (e : Env) (s : State) (m : MethodId) (args : Array Value) (below : List Frame) (meth : Method) (c : Code) : Prop :=
  p.tables.exec = Jvm.exec ∧ c.code = cc ∧ c.maxLocals = nL ∧ s.vm.findClass own = some m.cls ∧ (∀ w ∈ TB, w.before args s = true) ∧ Glob g s ∧ meth.locks = false ∧ meth.name = mn ∧ c.exceptionTable.toList = tableOf hh ∧ l.stackTraces = false ∧
  (V = fun pc lv st h kc ks => kc ≤ R.cells → ks ≤ R.slots → ∀ (H : Heap) (locs : List Loc) (ls : Array Slot), HG g h H → va_S (gA g) s.heap H locs → LV ls nL lv → W p l e R s m args below meth c H locs kc ks (Qs s m args below meth) (F0 m pc ls st)) ∧
  (X = fun pc lv E h kc ks => kc ≤ R.cells → ks ≤ R.slots → ∀ (H : Heap) (locs : List Loc) (ls : Array Slot) (q : Nat) (ce : Cell) (rest : List Value), HG g h H → va_S (gA g) s.heap H locs → LV ls nL lv → H[q]? = some ce → ce.vm = .none → s.vm.findClass E = some ce.cls → vx_W p l e R s m args below meth c H locs kc ks (Qs s m args below meth) (F0 m pc ls rest) q)
def Mach (g : Gl) (l : Launch) (R : Room) (own : String) (cc : ByteArray) (nL : Nat) (hh : List (Nat × Nat × Nat × Nat)) (mn : String) (V : VT) (X : XT) : Prop := ∃ (Qs : State → MethodId → Array Value → List Frame → Method → State → Prop) (p : Program) (e : Env) (s : State) (m : MethodId) (args : Array Value) (below : List Frame) (meth : Method) (c : Code), MachQ g l R own cc nL hh mn Qs V X p e s m args below meth c
/-- .. of a method that is to end by post -/
def MachR (g : Gl) (l : Launch) (mc ms d : Nat) (own : String) (cc : ByteArray) (nL : Nat) (ret : Option FieldType) (hh : List (Nat × Nat × Nat × Nat)) (mn : String) (post : Res → Hp → Prop) (V : VT) (X : XT) : Prop := ∃ (p : Program) (e : Env) (s : State) (m : MethodId) (args : Array Value) (below : List Frame) (meth : Method) (c : Code), meth.sig.returnType = ret ∧ MachQ g l (rmOf d mc ms) own cc nL hh mn (fun s _ args below _ => vx_MQ below (QC g post) (XQ g post) args s mc ms (gA g)) V X p e s m args below meth c
theorem MachR.m {g : Gl} {l : Launch} {mc ms d : Nat} {own : String} {cc : ByteArray} {nL : Nat} {ret : Option FieldType} {hh : List (Nat × Nat × Nat × Nat)} {mn : String} {post : Res → Hp → Prop} {V : VT} {X : XT} (M : MachR g l mc ms d own cc nL ret hh mn post V X) : Mach g l (rmOf d mc ms) own cc nL hh mn V X := by
  obtain ⟨p, e, s, m, args, below, meth, c, -, h⟩ := M
  exact ⟨_, p, e, s, m, args, below, meth, c, h⟩
theorem ct_mk {g : Gl} {l : Launch} (hfl : l.stackTraces = false) {y : MethodName} {cc : ByteArray} {nL : Nat} {ret : Option FieldType} {d : Nat} {av : List Value} {h : Hp} {mc ms : Nat} {post : Res → Hp → Prop} (hy : plainName y.cls = true) (hn : av.length ≤ nL) (hc : ∀ v ∈ av, v.category = 1)
    (body : ∀ (V : VT) (X : XT), MachR g l mc ms d y.cls cc nL ret [] y.name post V X → V 0 (lv0 av nL) [] h 0 0) : CT g l (y, cc, nL, ret) d av h mc ms post := by
  refine vx_ofW (cc := cc) (maxL := nL) (ret := ret) hy rfl ?_
  intro p e s m args below meth c s₁ B hml htab hv
  obtain ⟨rfl, hgl, hhg⟩ := hv
  have hts : ∀ w ∈ TB, w.before av.toArray s = true := fun w hw => atoms_spec (ws := cwOf (y, cc, nL, ret) :: TB) B.pre w (List.mem_cons_of_mem _ hw)
  have hexc : c.exceptionTable.toList = tableOf [] := by
    have : c.exceptionTable.toList = [] := List.eq_nil_iff_forall_not_mem.mpr htab
    rw [this]; rfl
  have hV := body _ _ ⟨p, e, s, m, av.toArray, below, meth, c, B.returns, B.exec, B.bytes, hml, findClass_of_methodNamed B.named, hts, hgl, B.notSynchronized, (name_of_methodNamed B.named B.method).1, hexc, hfl, rfl, rfl⟩
  rw [lg_entry_eq]
  exact hV (Nat.zero_le _) (Nat.zero_le _) s.heap [] _ hhg va_S.rf (LV.entry av hn hc)
theorem ctw_mk {g : Gl} {l : Launch} (hfl : l.stackTraces = false) {y : MethodName} {cc : ByteArray} {nL : Nat} {ret : Option FieldType} {hh : List (Nat × Nat × Nat × Nat)} {d : Nat} {av : List Value} {h : Hp} {mc ms : Nat} {post : Res → Hp → Prop} (hy : plainName y.cls = true) (hn : av.length ≤ nL) (hc : ∀ v ∈ av, v.category = 1)
    (body : ∀ (V : VT) (X : XT), MachR g l mc ms d y.cls cc nL ret hh y.name post V X → V 0 (lv0 av nL) [] h 0 0) : CTW g l (y, cc, nL, ret) hh d av h mc ms post := by
  refine vx_ofWH (cc := cc) (maxL := nL) (ret := ret) (hh := hh) hy rfl ?_
  intro p e s m args below meth c s₁ B hml hv
  obtain ⟨rfl, hgl, hhg⟩ := hv
  have hts0 := atoms_spec (ws := .codeWith y cc nL ret hh :: TB) B.pre
  have hts : ∀ w ∈ TB, w.before av.toArray s = true := fun w hw => hts0 w (List.mem_cons_of_mem _ hw)
  have hexc : c.exceptionTable.toList = tableOf hh := vx_table (x := y) B (hts0 _ List.mem_cons_self)
  have hV := body _ _ ⟨p, e, s, m, av.toArray, below, meth, c, B.returns, B.exec, B.bytes, hml, findClass_of_methodNamed B.named, hts, hgl, B.notSynchronized, (name_of_methodNamed B.named B.method).1, hexc, hfl, rfl, rfl⟩
  rw [lg_entry_eq]
  exact hV (Nat.zero_le _) (Nat.zero_le _) s.heap [] _ hhg va_S.rf (LV.entry av hn hc)
section Rules
variable {g : Gl} {l : Launch} {R : Room} {own : String} {cc : ByteArray} {nL : Nat} {hh : List (Nat × Nat × Nat × Nat)} {mn : String} {V : VT} {X : XT} {pc : Nat} {lv : List (Option Value)} {st : List Value} {h : Hp} {kc ks : Nat}

theorem r_iconst (M : Mach g l R own cc nL hh mn V X) {n : Int} {v : Int32} (hd : decode cc pc = .ok (.iconst n, 1)) (hv : Int32.ofInt n = v) (kk : V (pc + 1) lv (.int v :: st) h kc ks) : V pc lv (st) h kc ks := by
  obtain ⟨Qs, p, e, s, m, args, below, meth, c, hx, hb, hml, hown, hts, hgl, hlk, hnm, htab, hst, rfl, rfl⟩ := M
  intro hkc hks H locs ls hG hS hl
  exact lv_iconst hx hb hd hv (kk hkc hks H locs ls hG hS hl)
theorem r_bipush (M : Mach g l R own cc nL hh mn V X) {n : Int} {v : Int32} (hd : decode cc pc = .ok (.bipush n, 2)) (hv : (Int8.ofInt n).toInt32 = v) (kk : V (pc + 2) lv (.int v :: st) h kc ks) : V pc lv (st) h kc ks := by
  obtain ⟨Qs, p, e, s, m, args, below, meth, c, hx, hb, hml, hown, hts, hgl, hlk, hnm, htab, hst, rfl, rfl⟩ := M
  intro hkc hks H locs ls hG hS hl
  exact lv_bipush hx hb hd hv (kk hkc hks H locs ls hG hS hl)
theorem r_sipush (M : Mach g l R own cc nL hh mn V X) {n : Int} {v : Int32} (hd : decode cc pc = .ok (.sipush n, 3)) (hv : (Int16.ofInt n).toInt32 = v) (kk : V (pc + 3) lv (.int v :: st) h kc ks) : V pc lv (st) h kc ks := by
  obtain ⟨Qs, p, e, s, m, args, below, meth, c, hx, hb, hml, hown, hts, hgl, hlk, hnm, htab, hst, rfl, rfl⟩ := M
  intro hkc hks H locs ls hG hS hl
  exact lv_sipush hx hb hd hv (kk hkc hks H locs ls hG hS hl)
theorem r_lconst (M : Mach g l R own cc nL hh mn V X) {n : Fin 2} {v : Int64} (hd : decode cc pc = .ok (.lconst n, 1)) (hv : Int64.ofNat (n : Nat) = v) (kk : V (pc + 1) lv (.long v :: st) h kc ks) : V pc lv (st) h kc ks := by
  obtain ⟨Qs, p, e, s, m, args, below, meth, c, hx, hb, hml, hown, hts, hgl, hlk, hnm, htab, hst, rfl, rfl⟩ := M
  intro hkc hks H locs ls hG hS hl
  exact lv_lconst hx hb hd hv (kk hkc hks H locs ls hG hS hl)
theorem r_null (M : Mach g l R own cc nL hh mn V X) (hd : decode cc pc = .ok (.aconst_null, 1)) (kk : V (pc + 1) lv (.null :: st) h kc ks) : V pc lv (st) h kc ks := by
  obtain ⟨Qs, p, e, s, m, args, below, meth, c, hx, hb, hml, hown, hts, hgl, hlk, hnm, htab, hst, rfl, rfl⟩ := M
  intro hkc hks H locs ls hG hS hl
  exact lv_null hx hb hd (kk hkc hks H locs ls hG hS hl)
theorem r_iload_n (M : Mach g l R own cc nL hh mn V X) {k : Fin 4} {x : Int32} (hd : decode cc pc = .ok (.iload_n k, 1)) (hi : lv[(k : Nat)]? = some (some (.int x))) (kk : V (pc + 1) lv (.int x :: st) h kc ks) : V pc lv (st) h kc ks := by
  obtain ⟨Qs, p, e, s, m, args, below, meth, c, hx, hb, hml, hown, hts, hgl, hlk, hnm, htab, hst, rfl, rfl⟩ := M
  intro hkc hks H locs ls hG hS hl
  exact lv_iload_n hx hb hd rfl (hl.at hi) (kk hkc hks H locs ls hG hS hl)
theorem r_iload (M : Mach g l R own cc nL hh mn V X) {i : Nat} {x : Int32} (hd : decode cc pc = .ok (.iload i, 2)) (hi : lv[i]? = some (some (.int x))) (kk : V (pc + 2) lv (.int x :: st) h kc ks) : V pc lv (st) h kc ks := by
  obtain ⟨Qs, p, e, s, m, args, below, meth, c, hx, hb, hml, hown, hts, hgl, hlk, hnm, htab, hst, rfl, rfl⟩ := M
  intro hkc hks H locs ls hG hS hl
  exact lv_iload hx hb hd (hl.at hi) (kk hkc hks H locs ls hG hS hl)
theorem r_aload_n (M : Mach g l R own cc nL hh mn V X) {k : Fin 4} {x : Nat} (hd : decode cc pc = .ok (.aload_n k, 1)) (hi : lv[(k : Nat)]? = some (some (.ref x))) (kk : V (pc + 1) lv (.ref x :: st) h kc ks) : V pc lv (st) h kc ks := by
  obtain ⟨Qs, p, e, s, m, args, below, meth, c, hx, hb, hml, hown, hts, hgl, hlk, hnm, htab, hst, rfl, rfl⟩ := M
  intro hkc hks H locs ls hG hS hl
  exact lv_aload_n hx hb hd rfl (hl.at hi) (kk hkc hks H locs ls hG hS hl)
theorem r_aload (M : Mach g l R own cc nL hh mn V X) {i : Nat} {x : Nat} (hd : decode cc pc = .ok (.aload i, 2)) (hi : lv[i]? = some (some (.ref x))) (kk : V (pc + 2) lv (.ref x :: st) h kc ks) : V pc lv (st) h kc ks := by
  obtain ⟨Qs, p, e, s, m, args, below, meth, c, hx, hb, hml, hown, hts, hgl, hlk, hnm, htab, hst, rfl, rfl⟩ := M
  intro hkc hks H locs ls hG hS hl
  exact lv_aload hx hb hd (hl.at hi) (kk hkc hks H locs ls hG hS hl)
theorem r_aload_nN (M : Mach g l R own cc nL hh mn V X) {k : Fin 4} (hd : decode cc pc = .ok (.aload_n k, 1)) (hi : lv[(k : Nat)]? = some (some .null)) (kk : V (pc + 1) lv (.null :: st) h kc ks) : V pc lv (st) h kc ks := by
  obtain ⟨Qs, p, e, s, m, args, below, meth, c, hx, hb, hml, hown, hts, hgl, hlk, hnm, htab, hst, rfl, rfl⟩ := M
  intro hkc hks H locs ls hG hS hl
  exact lv_aload_nN hx hb hd rfl (hl.at hi) (kk hkc hks H locs ls hG hS hl)
theorem r_istore_n (M : Mach g l R own cc nL hh mn V X) {k : Fin 4} {x : Int32} (hd : decode cc pc = .ok (.istore_n k, 1)) (hk : (k : Nat) < nL) (kk : V (pc + 1) (lv.set (k : Nat) (some (.int x))) st h kc ks) : V pc lv (.int x :: st) h kc ks := by
  obtain ⟨Qs, p, e, s, m, args, below, meth, c, hx, hb, hml, hown, hts, hgl, hlk, hnm, htab, hst, rfl, rfl⟩ := M
  intro hkc hks H locs ls hG hS hl
  exact lv_istore_n hx hb hd rfl hl.has hk rfl (fun ls1 h1 => kk hkc hks H locs ls1 hG hS (hl.stored rfl h1))
theorem r_istore (M : Mach g l R own cc nL hh mn V X) {i : Nat} {x : Int32} (hd : decode cc pc = .ok (.istore i, 2)) (hk : i < nL) (kk : V (pc + 2) (lv.set i (some (.int x))) st h kc ks) : V pc lv (.int x :: st) h kc ks := by
  obtain ⟨Qs, p, e, s, m, args, below, meth, c, hx, hb, hml, hown, hts, hgl, hlk, hnm, htab, hst, rfl, rfl⟩ := M
  intro hkc hks H locs ls hG hS hl
  exact lv_istore hx hb hd hl.has hk rfl (fun ls1 h1 => kk hkc hks H locs ls1 hG hS (hl.stored rfl h1))
theorem r_astore_n (M : Mach g l R own cc nL hh mn V X) {k : Fin 4} {x : Nat} (hd : decode cc pc = .ok (.astore_n k, 1)) (hk : (k : Nat) < nL) (kk : V (pc + 1) (lv.set (k : Nat) (some (.ref x))) st h kc ks) : V pc lv (.ref x :: st) h kc ks := by
  obtain ⟨Qs, p, e, s, m, args, below, meth, c, hx, hb, hml, hown, hts, hgl, hlk, hnm, htab, hst, rfl, rfl⟩ := M
  intro hkc hks H locs ls hG hS hl
  exact lv_astore_n hx hb hd rfl hl.has hk rfl (fun ls1 h1 => kk hkc hks H locs ls1 hG hS (hl.stored rfl h1))
theorem r_astore (M : Mach g l R own cc nL hh mn V X) {i : Nat} {x : Nat} (hd : decode cc pc = .ok (.astore i, 2)) (hk : i < nL) (kk : V (pc + 2) (lv.set i (some (.ref x))) st h kc ks) : V pc lv (.ref x :: st) h kc ks := by
  obtain ⟨Qs, p, e, s, m, args, below, meth, c, hx, hb, hml, hown, hts, hgl, hlk, hnm, htab, hst, rfl, rfl⟩ := M
  intro hkc hks H locs ls hG hS hl
  exact lv_astore hx hb hd hl.has hk rfl (fun ls1 h1 => kk hkc hks H locs ls1 hG hS (hl.stored rfl h1))
theorem r_iinc (M : Mach g l R own cc nL hh mn V X) {i : Nat} {n : Int} {x v : Int32} (hd : decode cc pc = .ok (.iinc i n, 3)) (hi : lv[i]? = some (some (.int x))) (hv : x + Int32.ofInt n = v) (hk : i < nL) (kk : V (pc + 3) (lv.set i (some (.int v))) st h kc ks) : V pc lv st h kc ks := by
  obtain ⟨Qs, p, e, s, m, args, below, meth, c, hx, hb, hml, hown, hts, hgl, hlk, hnm, htab, hst, rfl, rfl⟩ := M
  intro hkc hks H locs ls hG hS hl
  obtain ⟨k, hkk⟩ := List.getElem?_of_mem (mem_lvl.mpr hi)
  exact lv_iinc hx hb hd hl.has hkk hv hk rfl (fun ls1 h1 => kk hkc hks H locs ls1 hG hS (hl.stored rfl h1))
theorem r_iadd (M : Mach g l R own cc nL hh mn V X) {x y : Int32} (hd : decode cc pc = .ok (.iadd, 1)) (kk : V (pc + 1) lv (.int (x + y) :: st) h kc ks) : V pc lv (.int y :: .int x :: st) h kc ks := by
  obtain ⟨Qs, p, e, s, m, args, below, meth, c, hx, hb, hml, hown, hts, hgl, hlk, hnm, htab, hst, rfl, rfl⟩ := M
  intro hkc hks H locs ls hG hS hl
  exact lv_iadd hx hb hd (kk hkc hks H locs ls hG hS hl)
theorem r_isub (M : Mach g l R own cc nL hh mn V X) {x y : Int32} (hd : decode cc pc = .ok (.isub, 1)) (kk : V (pc + 1) lv (.int (x - y) :: st) h kc ks) : V pc lv (.int y :: .int x :: st) h kc ks := by
  obtain ⟨Qs, p, e, s, m, args, below, meth, c, hx, hb, hml, hown, hts, hgl, hlk, hnm, htab, hst, rfl, rfl⟩ := M
  intro hkc hks H locs ls hG hS hl
  exact lv_isub hx hb hd (kk hkc hks H locs ls hG hS hl)
theorem r_imul (M : Mach g l R own cc nL hh mn V X) {x y : Int32} (hd : decode cc pc = .ok (.imul, 1)) (kk : V (pc + 1) lv (.int (x * y) :: st) h kc ks) : V pc lv (.int y :: .int x :: st) h kc ks := by
  obtain ⟨Qs, p, e, s, m, args, below, meth, c, hx, hb, hml, hown, hts, hgl, hlk, hnm, htab, hst, rfl, rfl⟩ := M
  intro hkc hks H locs ls hG hS hl
  exact lv_imul hx hb hd (kk hkc hks H locs ls hG hS hl)
theorem r_iand (M : Mach g l R own cc nL hh mn V X) {x y : Int32} (hd : decode cc pc = .ok (.iand, 1)) (kk : V (pc + 1) lv (.int (x &&& y) :: st) h kc ks) : V pc lv (.int y :: .int x :: st) h kc ks := by
  obtain ⟨Qs, p, e, s, m, args, below, meth, c, hx, hb, hml, hown, hts, hgl, hlk, hnm, htab, hst, rfl, rfl⟩ := M
  intro hkc hks H locs ls hG hS hl
  exact lv_iand hx hb hd (kk hkc hks H locs ls hG hS hl)
theorem r_ishr (M : Mach g l R own cc nL hh mn V X) {x y : Int32} (hd : decode cc pc = .ok (.ishr, 1)) (kk : V (pc + 1) lv (.int (x >>> (y &&& 31)) :: st) h kc ks) : V pc lv (.int y :: .int x :: st) h kc ks := by
  obtain ⟨Qs, p, e, s, m, args, below, meth, c, hx, hb, hml, hown, hts, hgl, hlk, hnm, htab, hst, rfl, rfl⟩ := M
  intro hkc hks H locs ls hG hS hl
  exact lv_ishr hx hb hd (kk hkc hks H locs ls hG hS hl)
theorem r_idiv (M : Mach g l R own cc nL hh mn V X) {x y : Int32} (hd : decode cc pc = .ok (.idiv, 1)) (hne : ¬ y = 0) (kk : V (pc + 1) lv (.int (x / y) :: st) h kc ks) : V pc lv (.int y :: .int x :: st) h kc ks := by
  obtain ⟨Qs, p, e, s, m, args, below, meth, c, hx, hb, hml, hown, hts, hgl, hlk, hnm, htab, hst, rfl, rfl⟩ := M
  intro hkc hks H locs ls hG hS hl
  exact lv_idiv hx hb hd hne (kk hkc hks H locs ls hG hS hl)
theorem r_irem (M : Mach g l R own cc nL hh mn V X) {x y : Int32} (hd : decode cc pc = .ok (.irem, 1)) (hne : ¬ y = 0) (kk : V (pc + 1) lv (.int (x - x / y * y) :: st) h kc ks) : V pc lv (.int y :: .int x :: st) h kc ks := by
  obtain ⟨Qs, p, e, s, m, args, below, meth, c, hx, hb, hml, hown, hts, hgl, hlk, hnm, htab, hst, rfl, rfl⟩ := M
  intro hkc hks H locs ls hG hS hl
  exact lv_irem hx hb hd hne (kk hkc hks H locs ls hG hS hl)
theorem r_ineg (M : Mach g l R own cc nL hh mn V X) {x : Int32} (hd : decode cc pc = .ok (.ineg, 1)) (kk : V (pc + 1) lv (.int (-x) :: st) h kc ks) : V pc lv (.int x :: st) h kc ks := by
  obtain ⟨Qs, p, e, s, m, args, below, meth, c, hx, hb, hml, hown, hts, hgl, hlk, hnm, htab, hst, rfl, rfl⟩ := M
  intro hkc hks H locs ls hG hS hl
  exact lv_ineg hx hb hd (kk hkc hks H locs ls hG hS hl)
theorem r_i2l (M : Mach g l R own cc nL hh mn V X) {x : Int32} (hd : decode cc pc = .ok (.i2l, 1)) (kk : V (pc + 1) lv (.long x.toInt64 :: st) h kc ks) : V pc lv (.int x :: st) h kc ks := by
  obtain ⟨Qs, p, e, s, m, args, below, meth, c, hx, hb, hml, hown, hts, hgl, hlk, hnm, htab, hst, rfl, rfl⟩ := M
  intro hkc hks H locs ls hG hS hl
  exact lv_i2l hx hb hd rfl (kk hkc hks H locs ls hG hS hl)
theorem r_lcmp (M : Mach g l R own cc nL hh mn V X) {x y : Int64} (hd : decode cc pc = .ok (.lcmp, 1)) (kk : V (pc + 1) lv (.int (lg_cmp x y) :: st) h kc ks) : V pc lv (.long y :: .long x :: st) h kc ks := by
  obtain ⟨Qs, p, e, s, m, args, below, meth, c, hx, hb, hml, hown, hts, hgl, hlk, hnm, htab, hst, rfl, rfl⟩ := M
  intro hkc hks H locs ls hG hS hl
  exact W.lcmp hx hb hd (kk hkc hks H locs ls hG hS hl)
theorem r_dup (M : Mach g l R own cc nL hh mn V X) {a : Value} (hd : decode cc pc = .ok (.dup, 1)) (ha : a.category = 1) (kk : V (pc + 1) lv (a :: a :: st) h kc ks) : V pc lv (a :: st) h kc ks := by
  obtain ⟨Qs, p, e, s, m, args, below, meth, c, hx, hb, hml, hown, hts, hgl, hlk, hnm, htab, hst, rfl, rfl⟩ := M
  intro hkc hks H locs ls hG hS hl
  exact lv_dup hx hb hd ha (kk hkc hks H locs ls hG hS hl)
theorem r_pop (M : Mach g l R own cc nL hh mn V X) {a : Value} (hd : decode cc pc = .ok (.pop, 1)) (ha : a.category = 1) (kk : V (pc + 1) lv (st) h kc ks) : V pc lv (a :: st) h kc ks := by
  obtain ⟨Qs, p, e, s, m, args, below, meth, c, hx, hb, hml, hown, hts, hgl, hlk, hnm, htab, hst, rfl, rfl⟩ := M
  intro hkc hks H locs ls hG hS hl
  exact lv_pop hx hb hd ha (kk hkc hks H locs ls hG hS hl)
theorem r_dup_x1 (M : Mach g l R own cc nL hh mn V X) {a b : Value} (hd : decode cc pc = .ok (.dup_x1, 1)) (ha : a.category = 1) (hb1 : b.category = 1) (kk : V (pc + 1) lv (a :: b :: a :: st) h kc ks) : V pc lv (a :: b :: st) h kc ks := by
  obtain ⟨Qs, p, e, s, m, args, below, meth, c, hx, hb, hml, hown, hts, hgl, hlk, hnm, htab, hst, rfl, rfl⟩ := M
  intro hkc hks H locs ls hG hS hl
  exact lv_dup_x1 hx hb hd ha hb1 (kk hkc hks H locs ls hG hS hl)
theorem r_dup2 (M : Mach g l R own cc nL hh mn V X) {a b : Value} (hd : decode cc pc = .ok (.dup2, 1)) (ha : a.category = 1) (hb1 : b.category = 1) (kk : V (pc + 1) lv (a :: b :: a :: b :: st) h kc ks) : V pc lv (a :: b :: st) h kc ks := by
  obtain ⟨Qs, p, e, s, m, args, below, meth, c, hx, hb, hml, hown, hts, hgl, hlk, hnm, htab, hst, rfl, rfl⟩ := M
  intro hkc hks H locs ls hG hS hl
  exact lv_dup2_11 hx hb hd ha hb1 (kk hkc hks H locs ls hG hS hl)
theorem r_if_eq (M : Mach g l R own cc nL hh mn V X) {x : Int32} {off : Int} {tgt : Nat} (hd : decode cc pc = .ok (.ifCond .eq off, 3)) (ht : (pc : Int) + off = (tgt : Int)) (kt : x = 0 → V tgt lv st h kc ks) (kf : ¬ x = 0 → V (pc + 3) lv st h kc ks) : V pc lv (.int x :: st) h kc ks := by
  obtain ⟨Qs, p, e, s, m, args, below, meth, c, hx, hb, hml, hown, hts, hgl, hlk, hnm, htab, hst, rfl, rfl⟩ := M
  intro hkc hks H locs ls hG hS hl
  exact lv_if_eq hx hb hd ht (fun z => kt z hkc hks H locs ls hG hS hl) (fun z => kf z hkc hks H locs ls hG hS hl)
theorem r_icmp_eq (M : Mach g l R own cc nL hh mn V X) {x y : Int32} {off : Int} {tgt : Nat} (hd : decode cc pc = .ok (.if_icmp .eq off, 3)) (ht : (pc : Int) + off = (tgt : Int)) (kt : x = y → V tgt lv st h kc ks) (kf : ¬ x = y → V (pc + 3) lv st h kc ks) : V pc lv (.int y :: .int x :: st) h kc ks := by
  obtain ⟨Qs, p, e, s, m, args, below, meth, c, hx, hb, hml, hown, hts, hgl, hlk, hnm, htab, hst, rfl, rfl⟩ := M
  intro hkc hks H locs ls hG hS hl
  exact lv_icmp_eq hx hb hd ht (fun z => kt z hkc hks H locs ls hG hS hl) (fun z => kf z hkc hks H locs ls hG hS hl)
theorem r_if_ne (M : Mach g l R own cc nL hh mn V X) {x : Int32} {off : Int} {tgt : Nat} (hd : decode cc pc = .ok (.ifCond .ne off, 3)) (ht : (pc : Int) + off = (tgt : Int)) (kt : ¬ x = 0 → V tgt lv st h kc ks) (kf : x = 0 → V (pc + 3) lv st h kc ks) : V pc lv (.int x :: st) h kc ks := by
  obtain ⟨Qs, p, e, s, m, args, below, meth, c, hx, hb, hml, hown, hts, hgl, hlk, hnm, htab, hst, rfl, rfl⟩ := M
  intro hkc hks H locs ls hG hS hl
  exact lv_if_ne hx hb hd ht (fun z => kt z hkc hks H locs ls hG hS hl) (fun z => kf z hkc hks H locs ls hG hS hl)
theorem r_icmp_ne (M : Mach g l R own cc nL hh mn V X) {x y : Int32} {off : Int} {tgt : Nat} (hd : decode cc pc = .ok (.if_icmp .ne off, 3)) (ht : (pc : Int) + off = (tgt : Int)) (kt : ¬ x = y → V tgt lv st h kc ks) (kf : x = y → V (pc + 3) lv st h kc ks) : V pc lv (.int y :: .int x :: st) h kc ks := by
  obtain ⟨Qs, p, e, s, m, args, below, meth, c, hx, hb, hml, hown, hts, hgl, hlk, hnm, htab, hst, rfl, rfl⟩ := M
  intro hkc hks H locs ls hG hS hl
  exact lv_icmp_ne hx hb hd ht (fun z => kt z hkc hks H locs ls hG hS hl) (fun z => kf z hkc hks H locs ls hG hS hl)
theorem r_if_lt (M : Mach g l R own cc nL hh mn V X) {x : Int32} {off : Int} {tgt : Nat} (hd : decode cc pc = .ok (.ifCond .lt off, 3)) (ht : (pc : Int) + off = (tgt : Int)) (kt : x < 0 → V tgt lv st h kc ks) (kf : ¬ x < 0 → V (pc + 3) lv st h kc ks) : V pc lv (.int x :: st) h kc ks := by
  obtain ⟨Qs, p, e, s, m, args, below, meth, c, hx, hb, hml, hown, hts, hgl, hlk, hnm, htab, hst, rfl, rfl⟩ := M
  intro hkc hks H locs ls hG hS hl
  exact lv_if_lt hx hb hd ht (fun z => kt z hkc hks H locs ls hG hS hl) (fun z => kf z hkc hks H locs ls hG hS hl)
theorem r_icmp_lt (M : Mach g l R own cc nL hh mn V X) {x y : Int32} {off : Int} {tgt : Nat} (hd : decode cc pc = .ok (.if_icmp .lt off, 3)) (ht : (pc : Int) + off = (tgt : Int)) (kt : x < y → V tgt lv st h kc ks) (kf : ¬ x < y → V (pc + 3) lv st h kc ks) : V pc lv (.int y :: .int x :: st) h kc ks := by
  obtain ⟨Qs, p, e, s, m, args, below, meth, c, hx, hb, hml, hown, hts, hgl, hlk, hnm, htab, hst, rfl, rfl⟩ := M
  intro hkc hks H locs ls hG hS hl
  exact lv_icmp_lt hx hb hd ht (fun z => kt z hkc hks H locs ls hG hS hl) (fun z => kf z hkc hks H locs ls hG hS hl)
theorem r_if_ge (M : Mach g l R own cc nL hh mn V X) {x : Int32} {off : Int} {tgt : Nat} (hd : decode cc pc = .ok (.ifCond .ge off, 3)) (ht : (pc : Int) + off = (tgt : Int)) (kt : 0 ≤ x → V tgt lv st h kc ks) (kf : ¬ 0 ≤ x → V (pc + 3) lv st h kc ks) : V pc lv (.int x :: st) h kc ks := by
  obtain ⟨Qs, p, e, s, m, args, below, meth, c, hx, hb, hml, hown, hts, hgl, hlk, hnm, htab, hst, rfl, rfl⟩ := M
  intro hkc hks H locs ls hG hS hl
  exact lv_if_ge hx hb hd ht (fun z => kt z hkc hks H locs ls hG hS hl) (fun z => kf z hkc hks H locs ls hG hS hl)
theorem r_icmp_ge (M : Mach g l R own cc nL hh mn V X) {x y : Int32} {off : Int} {tgt : Nat} (hd : decode cc pc = .ok (.if_icmp .ge off, 3)) (ht : (pc : Int) + off = (tgt : Int)) (kt : y ≤ x → V tgt lv st h kc ks) (kf : ¬ y ≤ x → V (pc + 3) lv st h kc ks) : V pc lv (.int y :: .int x :: st) h kc ks := by
  obtain ⟨Qs, p, e, s, m, args, below, meth, c, hx, hb, hml, hown, hts, hgl, hlk, hnm, htab, hst, rfl, rfl⟩ := M
  intro hkc hks H locs ls hG hS hl
  exact lv_icmp_ge hx hb hd ht (fun z => kt z hkc hks H locs ls hG hS hl) (fun z => kf z hkc hks H locs ls hG hS hl)
theorem r_if_gt (M : Mach g l R own cc nL hh mn V X) {x : Int32} {off : Int} {tgt : Nat} (hd : decode cc pc = .ok (.ifCond .gt off, 3)) (ht : (pc : Int) + off = (tgt : Int)) (kt : 0 < x → V tgt lv st h kc ks) (kf : ¬ 0 < x → V (pc + 3) lv st h kc ks) : V pc lv (.int x :: st) h kc ks := by
  obtain ⟨Qs, p, e, s, m, args, below, meth, c, hx, hb, hml, hown, hts, hgl, hlk, hnm, htab, hst, rfl, rfl⟩ := M
  intro hkc hks H locs ls hG hS hl
  exact lv_if_gt hx hb hd ht (fun z => kt z hkc hks H locs ls hG hS hl) (fun z => kf z hkc hks H locs ls hG hS hl)
theorem r_icmp_gt (M : Mach g l R own cc nL hh mn V X) {x y : Int32} {off : Int} {tgt : Nat} (hd : decode cc pc = .ok (.if_icmp .gt off, 3)) (ht : (pc : Int) + off = (tgt : Int)) (kt : y < x → V tgt lv st h kc ks) (kf : ¬ y < x → V (pc + 3) lv st h kc ks) : V pc lv (.int y :: .int x :: st) h kc ks := by
  obtain ⟨Qs, p, e, s, m, args, below, meth, c, hx, hb, hml, hown, hts, hgl, hlk, hnm, htab, hst, rfl, rfl⟩ := M
  intro hkc hks H locs ls hG hS hl
  exact lv_icmp_gt hx hb hd ht (fun z => kt z hkc hks H locs ls hG hS hl) (fun z => kf z hkc hks H locs ls hG hS hl)
theorem r_if_le (M : Mach g l R own cc nL hh mn V X) {x : Int32} {off : Int} {tgt : Nat} (hd : decode cc pc = .ok (.ifCond .le off, 3)) (ht : (pc : Int) + off = (tgt : Int)) (kt : x ≤ 0 → V tgt lv st h kc ks) (kf : ¬ x ≤ 0 → V (pc + 3) lv st h kc ks) : V pc lv (.int x :: st) h kc ks := by
  obtain ⟨Qs, p, e, s, m, args, below, meth, c, hx, hb, hml, hown, hts, hgl, hlk, hnm, htab, hst, rfl, rfl⟩ := M
  intro hkc hks H locs ls hG hS hl
  exact lv_if_le hx hb hd ht (fun z => kt z hkc hks H locs ls hG hS hl) (fun z => kf z hkc hks H locs ls hG hS hl)
theorem r_icmp_le (M : Mach g l R own cc nL hh mn V X) {x y : Int32} {off : Int} {tgt : Nat} (hd : decode cc pc = .ok (.if_icmp .le off, 3)) (ht : (pc : Int) + off = (tgt : Int)) (kt : x ≤ y → V tgt lv st h kc ks) (kf : ¬ x ≤ y → V (pc + 3) lv st h kc ks) : V pc lv (.int y :: .int x :: st) h kc ks := by
  obtain ⟨Qs, p, e, s, m, args, below, meth, c, hx, hb, hml, hown, hts, hgl, hlk, hnm, htab, hst, rfl, rfl⟩ := M
  intro hkc hks H locs ls hG hS hl
  exact lv_icmp_le hx hb hd ht (fun z => kt z hkc hks H locs ls hG hS hl) (fun z => kf z hkc hks H locs ls hG hS hl)
theorem r_goto (M : Mach g l R own cc nL hh mn V X) {off : Int} {tgt : Nat} (hd : decode cc pc = .ok (.goto off, 3)) (ht : (pc : Int) + off = (tgt : Int)) (kk : V tgt lv st h kc ks) : V pc lv st h kc ks := by
  obtain ⟨Qs, p, e, s, m, args, below, meth, c, hx, hb, hml, hown, hts, hgl, hlk, hnm, htab, hst, rfl, rfl⟩ := M
  intro hkc hks H locs ls hG hS hl
  exact lv_goto hx hb hd ht (kk hkc hks H locs ls hG hS hl)
theorem r_acmp_eq (M : Mach g l R own cc nL hh mn V X) {x y : Nat} {off : Int} {tgt : Nat} (hd : decode cc pc = .ok (.if_acmp .eq off, 3)) (ht : (pc : Int) + off = (tgt : Int)) (kt : x = y → V tgt lv st h kc ks) (kf : ¬ x = y → V (pc + 3) lv st h kc ks) : V pc lv (.ref y :: .ref x :: st) h kc ks := by
  obtain ⟨Qs, p, e, s, m, args, below, meth, c, hx, hb, hml, hown, hts, hgl, hlk, hnm, htab, hst, rfl, rfl⟩ := M
  intro hkc hks H locs ls hG hS hl
  exact lv_acmp_eq (rx := some x) (ry := some y) hx hb hd ht (fun z => kt (by simpa using z) hkc hks H locs ls hG hS hl) (fun z => kf (by simpa using z) hkc hks H locs ls hG hS hl)
theorem r_acmp_ne (M : Mach g l R own cc nL hh mn V X) {x y : Nat} {off : Int} {tgt : Nat} (hd : decode cc pc = .ok (.if_acmp .ne off, 3)) (ht : (pc : Int) + off = (tgt : Int)) (kt : ¬ x = y → V tgt lv st h kc ks) (kf : x = y → V (pc + 3) lv st h kc ks) : V pc lv (.ref y :: .ref x :: st) h kc ks := by
  obtain ⟨Qs, p, e, s, m, args, below, meth, c, hx, hb, hml, hown, hts, hgl, hlk, hnm, htab, hst, rfl, rfl⟩ := M
  intro hkc hks H locs ls hG hS hl
  exact lv_acmp_ne (rx := some x) (ry := some y) hx hb hd ht (fun z => kt (by simpa using z) hkc hks H locs ls hG hS hl) (fun z => kf (by simpa using z) hkc hks H locs ls hG hS hl)
theorem r_tableIn (M : Mach g l R own cc nL hh mn V X) {dflt lo hi : Int} {offs : Array Int} {len : Nat} {x : Int32} {off : Int} {tgt : Nat} (hd : decode cc pc = .ok (.tableswitch dflt lo hi offs, len)) (h1 : ¬ x.toInt < lo) (h2 : ¬ hi < x.toInt) (ho : offs[(x.toInt - lo).toNat]? = some off) (ht : (pc : Int) + off = (tgt : Int)) (kk : V tgt lv st h kc ks) : V pc lv (.int x :: st) h kc ks := by
  obtain ⟨Qs, p, e, s, m, args, below, meth, c, hx, hb, hml, hown, hts, hgl, hlk, hnm, htab, hst, rfl, rfl⟩ := M
  intro hkc hks H locs ls hG hS hl
  exact lv_tableIn hx hb hd h1 h2 ho ht (kk hkc hks H locs ls hG hS hl)
theorem r_tableOut (M : Mach g l R own cc nL hh mn V X) {dflt lo hi : Int} {offs : Array Int} {len : Nat} {x : Int32} {tgt : Nat} (hd : decode cc pc = .ok (.tableswitch dflt lo hi offs, len)) (h1 : x.toInt < lo ∨ hi < x.toInt) (ht : (pc : Int) + dflt = (tgt : Int)) (kk : V tgt lv st h kc ks) : V pc lv (.int x :: st) h kc ks := by
  obtain ⟨Qs, p, e, s, m, args, below, meth, c, hx, hb, hml, hown, hts, hgl, hlk, hnm, htab, hst, rfl, rfl⟩ := M
  intro hkc hks H locs ls hG hS hl
  exact lv_tableOut hx hb hd h1 ht (kk hkc hks H locs ls hG hS hl)
theorem r_ldc (M : Mach g l R own cc nL hh mn V X) {idx : Nat} {v : Int32} (hd : decode cc pc = .ok (.ldc idx, 2)) (hw : Cond.constant own idx v ∈ TB) (kk : V (pc + 2) lv (.int v :: st) h kc ks) : V pc lv st h kc ks := by
  obtain ⟨Qs, p, e, s, m, args, below, meth, c, hx, hb, hml, hown, hts, hgl, hlk, hnm, htab, hst, rfl, rfl⟩ := M
  intro hkc hks H locs ls hG hS hl
  exact lv_ldc hx hb hown (hts _ hw) hd (kk hkc hks H locs ls hG hS hl)
end Rules
