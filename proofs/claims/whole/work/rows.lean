section
-- ===== PART A: goes FIRST, ahead of the names: the tables' words, and 'selects' of the private methods out of them =====
/-- a private method of a class that the tables say can be made, by its rows of tables_1 -/
def lw_okq (q : MethodName × Nat) : Prop := (q.1.cls ≠ "java/lang/invoke/MethodHandle" ∧ q.1.cls ≠ "java/lang/invoke/VarHandle") ∧ Cond.instantiable q.1.cls q.2 ∈ tables_1 ∧ Cond.privateMethod q.1 ∈ tables_1 ∧ Cond.instanceMethod q.1 ∈ tables_1
theorem lw_p0 : lw_okq (⟨"java/lang/Throwable", "fillInStackTrace", "(I)Ljava/lang/Throwable;"⟩, 6) := ⟨⟨by decide +kernel, by decide +kernel⟩, List.mem_of_getElem? (i := 138) (by decide +kernel), List.mem_of_getElem? (i := 136) (by decide +kernel), List.mem_of_getElem? (i := 137) (by decide +kernel)⟩
theorem lw_p1 : lw_okq (⟨"java/util/ArrayList", "add", "(Ljava/lang/Object;[Ljava/lang/Object;I)V"⟩, 3) := ⟨⟨by decide +kernel, by decide +kernel⟩, List.mem_of_getElem? (i := 40) (by decide +kernel), List.mem_of_getElem? (i := 249) (by decide +kernel), List.mem_of_getElem? (i := 250) (by decide +kernel)⟩
theorem lw_p2 : lw_okq (⟨"java/util/ArrayList", "grow", "()[Ljava/lang/Object;"⟩, 3) := ⟨⟨by decide +kernel, by decide +kernel⟩, List.mem_of_getElem? (i := 40) (by decide +kernel), List.mem_of_getElem? (i := 253) (by decide +kernel), List.mem_of_getElem? (i := 254) (by decide +kernel)⟩
theorem lw_p3 : lw_okq (⟨"java/util/ArrayList", "grow", "(I)[Ljava/lang/Object;"⟩, 3) := ⟨⟨by decide +kernel, by decide +kernel⟩, List.mem_of_getElem? (i := 40) (by decide +kernel), List.mem_of_getElem? (i := 257) (by decide +kernel), List.mem_of_getElem? (i := 258) (by decide +kernel)⟩
theorem lw_p4 : lw_okq (⟨"Puppetloom", "puppetNumbered", "(I)LPuppetloom$Puppet;"⟩, 4) := ⟨⟨by decide +kernel, by decide +kernel⟩, List.mem_of_getElem? (i := 32) (by decide +kernel), List.mem_of_getElem? (i := 314) (by decide +kernel), List.mem_of_getElem? (i := 315) (by decide +kernel)⟩
theorem lw_p5 : lw_okq (⟨"java/util/ArrayList", "rangeCheckForAdd", "(I)V"⟩, 3) := ⟨⟨by decide +kernel, by decide +kernel⟩, List.mem_of_getElem? (i := 40) (by decide +kernel), List.mem_of_getElem? (i := 403) (by decide +kernel), List.mem_of_getElem? (i := 404) (by decide +kernel)⟩
theorem lw_p6 : lw_okq (⟨"java/util/ArrayList", "outOfBoundsMsg", "(I)Ljava/lang/String;"⟩, 3) := ⟨⟨by decide +kernel, by decide +kernel⟩, List.mem_of_getElem? (i := 40) (by decide +kernel), List.mem_of_getElem? (i := 408) (by decide +kernel), List.mem_of_getElem? (i := 409) (by decide +kernel)⟩
theorem lw_p7 : lw_okq (⟨"java/util/ArrayList", "fastRemove", "([Ljava/lang/Object;I)V"⟩, 3) := ⟨⟨by decide +kernel, by decide +kernel⟩, List.mem_of_getElem? (i := 40) (by decide +kernel), List.mem_of_getElem? (i := 677) (by decide +kernel), List.mem_of_getElem? (i := 678) (by decide +kernel)⟩
theorem lw_p8 : lw_okq (⟨"Puppetloom", "showNumbered", "(I)LPuppetloom$Show;"⟩, 4) := ⟨⟨by decide +kernel, by decide +kernel⟩, List.mem_of_getElem? (i := 32) (by decide +kernel), List.mem_of_getElem? (i := 757) (by decide +kernel), List.mem_of_getElem? (i := 758) (by decide +kernel)⟩
theorem lw_p9 : lw_okq (⟨"Puppetloom", "isTaken", "(LPuppetloom$Puppet;ILPuppetloom$Span;)Z"⟩, 4) := ⟨⟨by decide +kernel, by decide +kernel⟩, List.mem_of_getElem? (i := 32) (by decide +kernel), List.mem_of_getElem? (i := 767) (by decide +kernel), List.mem_of_getElem? (i := 768) (by decide +kernel)⟩
theorem lw_p10 : lw_okq (⟨"Puppetloom", "showWith", "(II)LPuppetloom$Show;"⟩, 4) := ⟨⟨by decide +kernel, by decide +kernel⟩, List.mem_of_getElem? (i := 32) (by decide +kernel), List.mem_of_getElem? (i := 878) (by decide +kernel), List.mem_of_getElem? (i := 879) (by decide +kernel)⟩
theorem lw_p11 : lw_okq (⟨"Puppetloom", "settled", "(LPuppetloom$Show;II)LPuppetloom$Puppet;"⟩, 4) := ⟨⟨by decide +kernel, by decide +kernel⟩, List.mem_of_getElem? (i := 32) (by decide +kernel), List.mem_of_getElem? (i := 883) (by decide +kernel), List.mem_of_getElem? (i := 884) (by decide +kernel)⟩
theorem lw_p12 : lw_okq (⟨"Puppetloom", "ownFrame", "(LPuppetloom$Puppet;I)I"⟩, 4) := ⟨⟨by decide +kernel, by decide +kernel⟩, List.mem_of_getElem? (i := 32) (by decide +kernel), List.mem_of_getElem? (i := 887) (by decide +kernel), List.mem_of_getElem? (i := 888) (by decide +kernel)⟩
theorem lw_p13 : lw_okq (⟨"Puppetloom", "keepOffLower", "(LPuppetloom$Show;LPuppetloom$Puppet;I)V"⟩, 4) := ⟨⟨by decide +kernel, by decide +kernel⟩, List.mem_of_getElem? (i := 32) (by decide +kernel), List.mem_of_getElem? (i := 904) (by decide +kernel), List.mem_of_getElem? (i := 905) (by decide +kernel)⟩
theorem lw_p14 : lw_okq (⟨"PuppetloomModel", "isFine", "(I)Z"⟩, 29) := ⟨⟨by decide +kernel, by decide +kernel⟩, List.mem_of_getElem? (i := 956) (by decide +kernel), List.mem_of_getElem? (i := 1061) (by decide +kernel), List.mem_of_getElem? (i := 1062) (by decide +kernel)⟩
theorem lw_p15 : lw_okq (⟨"PuppetloomModel", "isPuppet", "(I)Z"⟩, 29) := ⟨⟨by decide +kernel, by decide +kernel⟩, List.mem_of_getElem? (i := 956) (by decide +kernel), List.mem_of_getElem? (i := 1069) (by decide +kernel), List.mem_of_getElem? (i := 1070) (by decide +kernel)⟩
def lw_privs_1 : List (MethodName × Nat) := [(⟨"java/lang/Throwable", "fillInStackTrace", "(I)Ljava/lang/Throwable;"⟩, 6), (⟨"java/util/ArrayList", "add", "(Ljava/lang/Object;[Ljava/lang/Object;I)V"⟩, 3), (⟨"java/util/ArrayList", "grow", "()[Ljava/lang/Object;"⟩, 3), (⟨"java/util/ArrayList", "grow", "(I)[Ljava/lang/Object;"⟩, 3), (⟨"Puppetloom", "puppetNumbered", "(I)LPuppetloom$Puppet;"⟩, 4), (⟨"java/util/ArrayList", "rangeCheckForAdd", "(I)V"⟩, 3), (⟨"java/util/ArrayList", "outOfBoundsMsg", "(I)Ljava/lang/String;"⟩, 3), (⟨"java/util/ArrayList", "fastRemove", "([Ljava/lang/Object;I)V"⟩, 3), (⟨"Puppetloom", "showNumbered", "(I)LPuppetloom$Show;"⟩, 4), (⟨"Puppetloom", "isTaken", "(LPuppetloom$Puppet;ILPuppetloom$Span;)Z"⟩, 4), (⟨"Puppetloom", "showWith", "(II)LPuppetloom$Show;"⟩, 4), (⟨"Puppetloom", "settled", "(LPuppetloom$Show;II)LPuppetloom$Puppet;"⟩, 4), (⟨"Puppetloom", "ownFrame", "(LPuppetloom$Puppet;I)I"⟩, 4), (⟨"Puppetloom", "keepOffLower", "(LPuppetloom$Show;LPuppetloom$Puppet;I)V"⟩, 4), (⟨"PuppetloomModel", "isFine", "(I)Z"⟩, 29), (⟨"PuppetloomModel", "isPuppet", "(I)Z"⟩, 29)]
theorem lw_r1 : ∀ q ∈ lw_privs_1, lw_okq q := List.forall_mem_cons.mpr ⟨lw_p0, List.forall_mem_cons.mpr ⟨lw_p1, List.forall_mem_cons.mpr ⟨lw_p2, List.forall_mem_cons.mpr ⟨lw_p3, List.forall_mem_cons.mpr ⟨lw_p4, List.forall_mem_cons.mpr ⟨lw_p5, List.forall_mem_cons.mpr ⟨lw_p6, List.forall_mem_cons.mpr ⟨lw_p7, List.forall_mem_cons.mpr ⟨lw_p8, List.forall_mem_cons.mpr ⟨lw_p9, List.forall_mem_cons.mpr ⟨lw_p10, List.forall_mem_cons.mpr ⟨lw_p11, List.forall_mem_cons.mpr ⟨lw_p12, List.forall_mem_cons.mpr ⟨lw_p13, List.forall_mem_cons.mpr ⟨lw_p14, List.forall_mem_cons.mpr ⟨lw_p15, fun _ h => absurd h List.not_mem_nil⟩⟩⟩⟩⟩⟩⟩⟩⟩⟩⟩⟩⟩⟩⟩⟩
theorem lw_p16 : lw_okq (⟨"PuppetloomModel", "hasKey", "(II)Z"⟩, 29) := ⟨⟨by decide +kernel, by decide +kernel⟩, List.mem_of_getElem? (i := 956) (by decide +kernel), List.mem_of_getElem? (i := 1077) (by decide +kernel), List.mem_of_getElem? (i := 1078) (by decide +kernel)⟩
theorem lw_p17 : lw_okq (⟨"PuppetloomModel", "placeOf", "(II)I"⟩, 29) := ⟨⟨by decide +kernel, by decide +kernel⟩, List.mem_of_getElem? (i := 956) (by decide +kernel), List.mem_of_getElem? (i := 1081) (by decide +kernel), List.mem_of_getElem? (i := 1082) (by decide +kernel)⟩
theorem lw_p18 : lw_okq (⟨"PuppetloomModel", "copies", "(II)V"⟩, 29) := ⟨⟨by decide +kernel, by decide +kernel⟩, List.mem_of_getElem? (i := 956) (by decide +kernel), List.mem_of_getElem? (i := 1085) (by decide +kernel), List.mem_of_getElem? (i := 1086) (by decide +kernel)⟩
theorem lw_p19 : lw_okq (⟨"PuppetloomModel", "isShow", "(I)Z"⟩, 29) := ⟨⟨by decide +kernel, by decide +kernel⟩, List.mem_of_getElem? (i := 956) (by decide +kernel), List.mem_of_getElem? (i := 1113) (by decide +kernel), List.mem_of_getElem? (i := 1114) (by decide +kernel)⟩
theorem lw_p20 : lw_okq (⟨"PuppetloomModel", "isBusyIn", "(III)Z"⟩, 29) := ⟨⟨by decide +kernel, by decide +kernel⟩, List.mem_of_getElem? (i := 956) (by decide +kernel), List.mem_of_getElem? (i := 1117) (by decide +kernel), List.mem_of_getElem? (i := 1118) (by decide +kernel)⟩
theorem lw_p21 : lw_okq (⟨"PuppetloomModel", "castOf", "(I)I"⟩, 29) := ⟨⟨by decide +kernel, by decide +kernel⟩, List.mem_of_getElem? (i := 956) (by decide +kernel), List.mem_of_getElem? (i := 1124) (by decide +kernel), List.mem_of_getElem? (i := 1125) (by decide +kernel)⟩
theorem lw_p22 : lw_okq (⟨"PuppetloomModel", "trackNow", "(II)I"⟩, 29) := ⟨⟨by decide +kernel, by decide +kernel⟩, List.mem_of_getElem? (i := 956) (by decide +kernel), List.mem_of_getElem? (i := 1148) (by decide +kernel), List.mem_of_getElem? (i := 1149) (by decide +kernel)⟩
theorem lw_p23 : lw_okq (⟨"PuppetloomModel", "finds", "(II)V"⟩, 29) := ⟨⟨by decide +kernel, by decide +kernel⟩, List.mem_of_getElem? (i := 956) (by decide +kernel), List.mem_of_getElem? (i := 1155) (by decide +kernel), List.mem_of_getElem? (i := 1156) (by decide +kernel)⟩
theorem lw_p24 : lw_okq (⟨"PuppetloomModel", "isOf", "(II)Z"⟩, 29) := ⟨⟨by decide +kernel, by decide +kernel⟩, List.mem_of_getElem? (i := 956) (by decide +kernel), List.mem_of_getElem? (i := 1167) (by decide +kernel), List.mem_of_getElem? (i := 1168) (by decide +kernel)⟩
theorem lw_p25 : lw_okq (⟨"PuppetloomModel", "goes", "(III)V"⟩, 29) := ⟨⟨by decide +kernel, by decide +kernel⟩, List.mem_of_getElem? (i := 956) (by decide +kernel), List.mem_of_getElem? (i := 1171) (by decide +kernel), List.mem_of_getElem? (i := 1172) (by decide +kernel)⟩
theorem lw_p26 : lw_okq (⟨"PuppetloomModel", "ownFrame", "(II)I"⟩, 29) := ⟨⟨by decide +kernel, by decide +kernel⟩, List.mem_of_getElem? (i := 956) (by decide +kernel), List.mem_of_getElem? (i := 1175) (by decide +kernel), List.mem_of_getElem? (i := 1176) (by decide +kernel)⟩
theorem lw_p27 : lw_okq (⟨"PuppetloomModel", "pulls", "(I)V"⟩, 29) := ⟨⟨by decide +kernel, by decide +kernel⟩, List.mem_of_getElem? (i := 956) (by decide +kernel), List.mem_of_getElem? (i := 1179) (by decide +kernel), List.mem_of_getElem? (i := 1180) (by decide +kernel)⟩
def lw_privs_2 : List (MethodName × Nat) := [(⟨"PuppetloomModel", "hasKey", "(II)Z"⟩, 29), (⟨"PuppetloomModel", "placeOf", "(II)I"⟩, 29), (⟨"PuppetloomModel", "copies", "(II)V"⟩, 29), (⟨"PuppetloomModel", "isShow", "(I)Z"⟩, 29), (⟨"PuppetloomModel", "isBusyIn", "(III)Z"⟩, 29), (⟨"PuppetloomModel", "castOf", "(I)I"⟩, 29), (⟨"PuppetloomModel", "trackNow", "(II)I"⟩, 29), (⟨"PuppetloomModel", "finds", "(II)V"⟩, 29), (⟨"PuppetloomModel", "isOf", "(II)Z"⟩, 29), (⟨"PuppetloomModel", "goes", "(III)V"⟩, 29), (⟨"PuppetloomModel", "ownFrame", "(II)I"⟩, 29), (⟨"PuppetloomModel", "pulls", "(I)V"⟩, 29)]
theorem lw_r2 : ∀ q ∈ lw_privs_2, lw_okq q := List.forall_mem_cons.mpr ⟨lw_p16, List.forall_mem_cons.mpr ⟨lw_p17, List.forall_mem_cons.mpr ⟨lw_p18, List.forall_mem_cons.mpr ⟨lw_p19, List.forall_mem_cons.mpr ⟨lw_p20, List.forall_mem_cons.mpr ⟨lw_p21, List.forall_mem_cons.mpr ⟨lw_p22, List.forall_mem_cons.mpr ⟨lw_p23, List.forall_mem_cons.mpr ⟨lw_p24, List.forall_mem_cons.mpr ⟨lw_p25, List.forall_mem_cons.mpr ⟨lw_p26, List.forall_mem_cons.mpr ⟨lw_p27, fun _ h => absurd h List.not_mem_nil⟩⟩⟩⟩⟩⟩⟩⟩⟩⟩⟩⟩
def lw_privs : List (MethodName × Nat) := lw_privs_1 ++ (lw_privs_2)
def lw_tbl : List Cond := k2_sels lw_privs ++ tables_1
theorem lw_privs_ok : ∀ q ∈ lw_privs, lw_okq q := by
  show ∀ q ∈ lw_privs_1 ++ (lw_privs_2), lw_okq q
  exact List.forall_mem_append.mpr ⟨lw_r1, lw_r2⟩
/-! ===== BEGIN words of one list among another's, by their places ===== -/
theorem goodIn_r {big : List Cond} (ws : List Cond) (ps : List Nat) (hp : ws = ps.filterMap (fun i => big[i]?)) (h : ws.all goodWord = true) : GoodIn big ws := by
  intro w hw
  have h1 := List.all_eq_true.mp h w hw
  rw [hp] at hw
  obtain ⟨i, -, hi⟩ := List.mem_filterMap.mp hw
  have hm : w ∈ big := by first | exact List.mem_of_getElem? hi | exact List.getElem?_mem hi
  exact ⟨hm, good_of_word h1⟩
theorem goodIn_app {big a b : List Cond} (ha : GoodIn big a) (hb : GoodIn big b) : GoodIn big (a ++ b) := fun w h => (List.mem_append.mp h).elim (ha w) (hb w)
theorem goodIn_ca {big a b : List Cond} {c : Cond} (ha : GoodIn big (c :: a)) (hb : GoodIn big b) : GoodIn big (c :: (a ++ b)) := fun w h => (List.mem_cons.mp h).elim (fun e => ha w (List.mem_cons.mpr (Or.inl e))) (fun h => (List.mem_append.mp h).elim (fun h => ha w (List.mem_cons.mpr (Or.inr h))) (hb w))
theorem goodIn_sub {big ws : List Cond} (hm : ∀ w ∈ ws, w ∈ big) (h : ws.all goodWord = true) : GoodIn big ws := fun w hw => ⟨hm w hw, good_of_word (List.all_eq_true.mp h w hw)⟩
/-! ===== END ===== -/

/-! ===== BEGIN exceptions that leave a method, and their catching by the caller (launches without stack traces) ===== -/
section VXA
/-! The laws vx_back, vx_callV, vx_callS, vx_callSW, vx_throw0, vx_throwS follow proofs of the library, with one case more: JvmDerived/Free/Laws.lean (Back.of_free), Shelf42/LK1.lean (callV, callS), Shelf/KitTraced.lean (throwNew0V, throwNewS). -/
/-- where a method has thrown q: the class by its name, the cell, what was written, the world -/
def vx_T (XC : String → State → State → Prop) (st : State) (q : Addr) (t : State) (mc ms : Nat) (free : Addr → Prop) : Prop :=
  ∃ (E : String) (ce : Cell) (L : List Loc), XC E st t ∧ t.heap[q]? = some ce ∧ ce.vm = .none ∧ st.vm.findClass E = some ce.cls ∧ st.WarmedH t.vm ∧ st.sameButNew ({ t with vm := st.vm } : State) L mc ms ∧ ∀ z ∈ L, free z.base
def vx_Q (Qc : Array Value → State → Outcome → State → Prop) (XC : String → State → State → Prop) (mc ms : Nat) (free : Addr → Prop) : Array Value → State → Outcome → State → Prop := fun a st o t =>
  (Qc a st o t ∧ ∃ L, FrameEnd st o t L mc ms ∧ ∀ q ∈ L, free q.base) ∨ ∃ q, o = .threw q ∧ vx_T XC st q t mc ms free
/-- a callee that returns or throws -/
def vx_Met (l : Launch) (y : MethodName) (ws : List Cond) (rm : Room) (Pc : Array Value → State → Prop) (Qc : Array Value → State → Outcome → State → Prop) (XC : String → State → State → Prop) (mc ms : Nat) (free : Addr → Prop) : Prop :=
  MetFree l y (headSpec ws rm) Pc (fun _ _ _ _ _ => True) (vx_Q Qc XC mc ms free)
def vx_Post (XC : String → State → State → Prop) (mc ms : Nat) (free : Addr → Prop) : Pt → Array Value → Addr → Pt → Prop := fun A a q B =>
  ∃ (g : JFrame) (mk : MethodId) (t : State) (L : List Loc) (E : String) (ce : Cell), B.U.heap = t.heap ∧ B.U.vm = t.vm ∧ XC E (A.U.calling g mk a) t ∧ t.heap[q]? = some ce ∧ ce.vm = .none ∧ A.U.vm.findClass E = some ce.cls ∧ B.locs = A.locs ++ L ∧ (∀ z ∈ L, free z.base) ∧ B.cells = A.cells + mc ∧ B.slots = A.slots + ms
def vx_Back (l : Launch) (R : Room) (p : Program) (e : Env) (below : List Frame) (s : State) (sargs : Array Value) (y : MethodName) (len W9 : Nat)
    (Pre : Pt → Array Value → Prop) (Post : Pt → Array Value → Option Value → Pt → Prop) (PostX : Pt → Array Value → Addr → Pt → Prop) : Prop :=
  ∀ (m : MethodId) (meth : Method) (c : Code) (A : Pt) (g : JFrame) (ig : Instr) (mk : MethodId) (a : Array Value),
    Stand p l e R s m sargs below meth c A.U A.locs A.cells A.slots → g.method = m → g.locals.size = c.maxLocals → decode c.code g.pc = .ok (ig, len) →
    2 * g.monitorRoom + (g.stack.map fun v => v.category).sum ≤ W9 → A.U.methodNamed? y = some mk → Pre A a →
    (∃ (v : Option Value) (B : Pt), Stand p l e R s m sargs below meth c B.U B.locs B.cells B.slots ∧ Post A a v B ∧
      Steps p.tables e below (doInvoke e (A.U.setTop g) [] mk a).1 (B.U.setTop { g with pc := g.pc + len, stack := v.toList ++ g.stack })) ∨
    (∃ (q : Addr) (B : Pt), Stand p l e R s m sargs below meth c B.U B.locs B.cells B.slots ∧ PostX A a q B ∧
      Steps p.tables e below (doInvoke e (A.U.setTop g) [] mk a).1 ((B.U.setTop g).pushFrame (.throwing q)))
section Payer
variable {l : Launch} {R : Room} {p : Program} {e : Env} {below : List Frame} {s : State} {sargs : Array Value} {y : MethodName} {len W9 : Nat}
theorem vx_back {ws : List Cond} {rm : Room} {Pc : Array Value → State → Prop} {Qc : Array Value → State → Outcome → State → Prop} {XC : String → State → State → Prop} {mc ms : Nat} {free : Addr → Prop} {bytes : ByteArray} {maxL : Nat} {ret : Option FieldType}
    (hM : vx_Met l y ws rm Pc Qc XC mc ms free) (hblind : FrameBlind Pc) (hrc : rm.cells = mc) (hrs : rm.slots = ms)
    (hframes : rm.frames + 1 ≤ R.frames) (hlocals : W9 + (maxL + 11) + rm.locals ≤ R.locals)
    (hws : ∀ w ∈ ws, ∀ a' U, s.WarmedH U.vm → w.before a' U = true) (hcode : Cond.code y bytes maxL ret ∈ ws) (hinit : ∀ a' U, s.WarmedH U.vm → (Cond.initialized y.cls).before a' U = true) :
    vx_Back l R p e below s sargs y len W9 (PreOf R mc ms Pc) (PostOf Qc mc ms free) (vx_Post XC mc ms free) := by
  intro m meth c A g ig mk a X hg hsize hdg hW hn hp
  have h1 : (headSpec ws rm).pre.before a A.U = true := atoms_intro fun w hw => hws w hw _ _ X.warmed
  have h2 : (Cond.code y bytes maxL ret).before a A.U = true := hws _ hcode _ _ X.warmed
  have h3 : (Cond.initialized y.cls).before a A.U = true := hinit _ _ X.warmed
  have h4 : A.cells + (headSpec ws rm).room.cells ≤ R.cells := by rw [show (headSpec ws rm).room.cells = mc from hrc]; exact hp.1
  have h5 : A.slots + (headSpec ws rm).room.slots ≤ R.slots := by rw [show (headSpec ws rm).room.slots = ms from hrs]; exact hp.2.1
  have hPc : Pc a (A.U.calling g mk a) := hblind _ _ _ _ hp.2.2
  obtain ⟨U, Ls, c0, s0⟩ := A
  dsimp only [Pt.U, Pt.locs, Pt.cells, Pt.slots] at h1 h2 h3 h4 h5 X hn hPc ⊢
  obtain ⟨methY, cY, hmY, hcY, -, hlY, -, -, -, -⟩ := Cond.code_spec hn h2
  obtain ⟨kY, hkY, -⟩ := className_of_methodNamed hn
  have hinitY : kY.init = .initialized := Cond.initialized_spec (findClass_of_methodNamed hn) hkY h3
  have h : At U g.method c below := by rw [hg]; exact X.here
  have hlocals9 : W9 + (maxL + 11) + (headSpec ws rm).room.locals ≤ R.locals := hlocals
  have happ : (headSpec ws rm).appliesLoose y e.platform (U.calling g mk a) = true :=
    Spec.appliesLoose_calling (g := g) h hdg hn hkY hinitY
      (X.room_calling (g := g) (R' := (headSpec ws rm).room) hsize hmY hcY hframes (by rw [hlY]; omega) h4 h5) h1
  obtain ⟨mid, hmid⟩ := h.above
  have hfr : (U.setTop g).frames = (.java g :: mid) ++ below := by rw [State.frames_setTop' g h.top, hmid]; rfl
  obtain ⟨o, s₂, hsteps, -, hend, hq⟩ := Steps.callFree hM p X.admits X.cas X.clock (acts := []) hfr happ hPc trivial
  have hq' : vx_Q Qc XC mc ms free a (U.calling g mk a) o s₂ := hq
  rw [State.frames_setTop' g h.top] at hend
  obtain ⟨g₀, hg0⟩ := Option.isSome_iff_exists.mp h.top
  obtain ⟨r, hr⟩ := State.topJava?_eq_some.mp hg0
  have hr' : (({ U with heap := s₂.heap, slotsUsed := s₂.slotsUsed } : State).setVm s₂.vm).frames = .java g₀ :: r := hr
  rcases hq' with ⟨hqc, L, hfe, hL⟩ | ⟨q, rfl, E, ce, L, hx, hce, hcv, hcl, hW₂, hsm, hL⟩
  · obtain ⟨⟨v, rfl⟩, hW₂, e2, q2, q3, q4, q5, q6⟩ := id hfe
    have e3 : s₂ = ({ (U.calling g mk a).setFrames s₂.frames with heap := s₂.heap, slotsUsed := s₂.slotsUsed } : State).setVm s₂.vm := by
      have : s₂ = ({ s₂ with vm := (U.calling g mk a).vm } : State).setVm s₂.vm := rfl
      rw [e2] at this
      exact this
    obtain ⟨c₂, i₂, len₂, hc₂, hd₂, hf₂⟩ := hend
    have hW' : U.WarmedH s₂.vm := hW₂
    have hcc : c₂ = c := by
      have h1 : s₂.code? g.method = U.code? g.method := by
        rw [State.code?_eq, State.code?_eq, hW'.alike.method?]
      exact Option.some.inj (hc₂.symm.trans (h1.trans h.code))
    subst hcc
    have hlen : len₂ = len := by rw [hdg] at hd₂; cases hd₂; rfl
    subst hlen
    have hs₂ : s₂ = (({ U with heap := s₂.heap, slotsUsed := s₂.slotsUsed } : State).setVm s₂.vm).setTop { g with pc := g.pc + len₂, stack := v.toList ++ g.stack } := by
      refine e3.trans ?_
      rw [hf₂, State.calling_eq h.top, State.setFrames_setFrames, State.setTop_of_frames _ hr', hr]
      rfl
    have hsame : U.sameButNew ({ U with heap := s₂.heap, slotsUsed := s₂.slotsUsed } : State) L mc ms := by
      refine ⟨?_, q2, q3, q4, q5, q6⟩
      obtain ⟨t, ht, -⟩ := State.frames_cons hr
      show ({ U with heap := s₂.heap, slotsUsed := s₂.slotsUsed } : State) = { U.setFrames U.frames with heap := s₂.heap, slotsUsed := s₂.slotsUsed }
      rw [State.setFrames_self ht]
    subst hg
    refine Or.inl ⟨v, ⟨(({ U with heap := s₂.heap, slotsUsed := s₂.slotsUsed } : State).setVm s₂.vm), Ls ++ L, c0 + mc, s0 + ms⟩,
      ⟨X.admits, X.cas, X.clock, X.frames, X.room, X.hears, X.method, X.code, (X.here.setHeapUsed s₂.heap s₂.slotsUsed).setVm hW'.alike, X.tail, State.WarmedH.trans X.warmed hW', X.limits, X.bytes, X.same.trans (hsame.setVm s.vm)⟩,
      ⟨g, mk, s₂, L, rfl, rfl, hqc, rfl, hL, rfl, rfl⟩, ?_⟩
    show Steps p.tables e below _ ((({ U with heap := s₂.heap, slotsUsed := s₂.slotsUsed } : State).setVm s₂.vm).setTop { g with pc := g.pc + len₂, stack := v.toList ++ g.stack })
    rw [← hs₂]
    exact hsteps
  · obtain ⟨e2, q2, q3, q4, q5, q6⟩ := id hsm
    have e3 : s₂ = ({ (U.calling g mk a).setFrames s₂.frames with heap := s₂.heap, slotsUsed := s₂.slotsUsed } : State).setVm s₂.vm := by
      have : s₂ = ({ s₂ with vm := (U.calling g mk a).vm } : State).setVm s₂.vm := rfl
      rw [e2] at this
      exact this
    have hf₂ : s₂.frames = .throwing q :: .java g :: U.frames.tail := hend
    have hW' : U.WarmedH s₂.vm := hW₂
    have hs₂ : s₂ = ((({ U with heap := s₂.heap, slotsUsed := s₂.slotsUsed } : State).setVm s₂.vm).setTop g).pushFrame (.throwing q) := by
      refine e3.trans ?_
      rw [hf₂, State.calling_eq h.top, State.setFrames_setFrames, State.pushFrame, State.frames_setTop _ hr', State.setTop_of_frames _ hr', State.setFrames_setFrames, hr]
      rfl
    have hsame : U.sameButNew ({ U with heap := s₂.heap, slotsUsed := s₂.slotsUsed } : State) L mc ms := by
      refine ⟨?_, q2, q3, q4, q5, q6⟩
      obtain ⟨t, ht, -⟩ := State.frames_cons hr
      show ({ U with heap := s₂.heap, slotsUsed := s₂.slotsUsed } : State) = { U.setFrames U.frames with heap := s₂.heap, slotsUsed := s₂.slotsUsed }
      rw [State.setFrames_self ht]
    subst hg
    refine Or.inr ⟨q, ⟨(({ U with heap := s₂.heap, slotsUsed := s₂.slotsUsed } : State).setVm s₂.vm), Ls ++ L, c0 + mc, s0 + ms⟩,
      ⟨X.admits, X.cas, X.clock, X.frames, X.room, X.hears, X.method, X.code, (X.here.setHeapUsed s₂.heap s₂.slotsUsed).setVm hW'.alike, X.tail, State.WarmedH.trans X.warmed hW', X.limits, X.bytes, X.same.trans (hsame.setVm s.vm)⟩,
      ⟨g, mk, s₂, L, E, ce, rfl, rfl, hx, hce, hcv, hcl, rfl, hL, rfl, rfl⟩, ?_⟩
    show Steps p.tables e below _ (((({ U with heap := s₂.heap, slotsUsed := s₂.slotsUsed } : State).setVm s₂.vm).setTop g).pushFrame (.throwing q))
    rw [← hs₂]
    exact hsteps
end Payer
section Calls
variable {p : Program} {l : Launch} {e : Env} {R : Room} {s : State} {m : MethodId} {args : Array Value} {below : List Frame} {meth : Method} {c : Code} {T : State} {locs : List Loc} {cells slots : Nat}
theorem vx_callV (X : Stand p l e R s m args below meth c T locs cells slots) (hexec : p.tables.exec = Jvm.exec) {own C : String} {index : Nat} {y : MethodName} {bytes : ByteArray} {maxL : Nat} {ret : Option FieldType}
    (hown : s.vm.findClass own = some m.cls) (hlink : (Cond.methodLink own index y).before args s = true) (hinst : (Cond.instanceMethod y).before args s = true) (hsel : (Cond.selects C y y).before args s = true)
    (hcode : (Cond.code y bytes maxL ret).before args s = true) (hy : y.cls ≠ "java/lang/invoke/MethodHandle" ∧ y.cls ≠ "java/lang/invoke/VarHandle")
    {W9 : Nat} {Pre : Pt → Array Value → Prop} {Post : Pt → Array Value → Option Value → Pt → Prop} {PostX : Pt → Array Value → Addr → Pt → Prop} (hK : vx_Back l R p e below s args y 3 W9 Pre Post PostX)
    {b : Addr} {cellB : Cell} (hcell : T.heap[b]? = some cellB) (hobj : cellB.vm.isStatics = false) (hcls : s.vm.findClass C = some cellB.cls)
    {g : JFrame} (hg : g.method = m) (hsize : g.locals.size = c.maxLocals) {argsL rest : List Value} (hlen : ∀ sig, parseMethodDescriptor y.desc = some sig → argsL.length = sig.parameters.length)
    (hstack : g.stack = argsL.reverse ++ .ref b :: rest) (hW : 2 * g.monitorRoom + (rest.map fun v => v.category).sum ≤ W9) (hdg : decode c.code g.pc = .ok (.invokevirtual index, 3))
    (hpre : ∀ vm₁, s.WarmedH vm₁ → Pre ⟨T.setVm vm₁, locs, cells, slots⟩ (Value.ref b :: argsL).toArray) :
    (∃ (v : Option Value) (vm₁ : Vm) (B : Pt), s.WarmedH vm₁ ∧ Stand p l e R s m args below meth c B.U B.locs B.cells B.slots ∧ Post ⟨T.setVm vm₁, locs, cells, slots⟩ (Value.ref b :: argsL).toArray v B ∧
      ∀ target, Steps p.tables e below (B.U.setTop { g with pc := g.pc + 3, stack := v.toList ++ rest }) target → Steps p.tables e below (T.setTop g) target) ∨
    (∃ (q : Addr) (vm₁ : Vm) (B : Pt), s.WarmedH vm₁ ∧ Stand p l e R s m args below meth c B.U B.locs B.cells B.slots ∧ PostX ⟨T.setVm vm₁, locs, cells, slots⟩ (Value.ref b :: argsL).toArray q B ∧
      Steps p.tables e below (T.setTop g) ((B.U.setTop { g with stack := rest }).pushFrame (.throwing q))) := by
  obtain ⟨mk, methM, hnamed, hmethM, hstM, habM⟩ := Cond.instanceMethod_spec hinst
  obtain ⟨methM', cM, hmethM', -, -, -, -, -, -, hsigM⟩ := Cond.code_spec hnamed hcode
  cases hmethM.symm.trans hmethM'
  obtain ⟨c2, r2, m2, q1, q2, q3, q4, kP, hkP, hkPi⟩ := Cond.selects_spec hsel
  cases hcls.symm.trans q1
  cases (State.methodFound?_of_named hnamed hy).symm.trans q2
  cases hnamed.symm.trans q3
  have hselP : selectMethod e.platform s.vm cellB.cls mk = .method mk := by rw [Launch.admits_selectMethod X.admits]; exact q4
  obtain ⟨vm₁, X₁, hstep₁⟩ := X.invokevirtual hexec hown hlink hnamed hmethM hstM hkP hkPi hy (a := b) (cell := cellB) hcell
    (fun z h => by rw [h] at hobj; cases hobj) hselP hmethM habM hkP hkPi (g := g) hg (argsL := argsL) (rest := rest) (hlen _ hsigM) hstack hdg
  rcases hK m meth c ⟨T.setVm vm₁, locs, cells, slots⟩ { g with stack := rest } (.invokevirtual index) mk (Value.ref b :: argsL).toArray X₁ hg hsize hdg hW (X₁.named hnamed) (hpre vm₁ X₁.warmed) with ⟨v, B, X', hpost, hsteps⟩ | ⟨q, B, X', hpost, hsteps⟩
  · exact Or.inl ⟨v, vm₁, B, X₁.warmed, X', hpost, fun target h => hstep₁ _ fun acts => by rw [doInvoke_state]; exact hsteps.trans h⟩
  · exact Or.inr ⟨q, vm₁, B, X₁.warmed, X', hpost, hstep₁ _ fun acts => by rw [doInvoke_state]; exact hsteps⟩
theorem vx_callS (X : Stand p l e R s m args below meth c T locs cells slots) (hexec : p.tables.exec = Jvm.exec) {own : String} {index : Nat} {y : MethodName} {bytes : ByteArray} {maxL : Nat} {ret : Option FieldType}
    (hown : s.vm.findClass own = some m.cls) (hlink : (Cond.methodLink own index y).before args s = true) (hstat : (Cond.static y).before args s = true) (hinit : (Cond.initialized y.cls).before args s = true)
    (hcode : (Cond.code y bytes maxL ret).before args s = true) (hy : y.cls ≠ "java/lang/invoke/MethodHandle" ∧ y.cls ≠ "java/lang/invoke/VarHandle")
    {W9 : Nat} {Pre : Pt → Array Value → Prop} {Post : Pt → Array Value → Option Value → Pt → Prop} {PostX : Pt → Array Value → Addr → Pt → Prop} (hK : vx_Back l R p e below s args y 3 W9 Pre Post PostX)
    {g : JFrame} (hg : g.method = m) (hsize : g.locals.size = c.maxLocals) {argsL rest : List Value} (hlen : ∀ sig, parseMethodDescriptor y.desc = some sig → argsL.length = sig.parameters.length)
    (hstack : g.stack = argsL.reverse ++ rest) (hW : 2 * g.monitorRoom + (rest.map fun v => v.category).sum ≤ W9) (hdg : decode c.code g.pc = .ok (.invokestatic index, 3))
    (hpre : ∀ vm₁, s.WarmedH vm₁ → Pre ⟨T.setVm vm₁, locs, cells, slots⟩ argsL.toArray) :
    (∃ (v : Option Value) (vm₁ : Vm) (B : Pt), s.WarmedH vm₁ ∧ Stand p l e R s m args below meth c B.U B.locs B.cells B.slots ∧ Post ⟨T.setVm vm₁, locs, cells, slots⟩ argsL.toArray v B ∧
      ∀ target, Steps p.tables e below (B.U.setTop { g with pc := g.pc + 3, stack := v.toList ++ rest }) target → Steps p.tables e below (T.setTop g) target) ∨
    (∃ (q : Addr) (vm₁ : Vm) (B : Pt), s.WarmedH vm₁ ∧ Stand p l e R s m args below meth c B.U B.locs B.cells B.slots ∧ PostX ⟨T.setVm vm₁, locs, cells, slots⟩ argsL.toArray q B ∧
      Steps p.tables e below (T.setTop g) ((B.U.setTop { g with stack := rest }).pushFrame (.throwing q))) := by
  obtain ⟨mk, hnamed⟩ := Cond.code_named hcode
  obtain ⟨methM, cM, hmethM, -, -, -, -, -, -, hsigM⟩ := Cond.code_spec hnamed hcode
  have hstatic : methM.isStatic = true := Cond.static_spec hnamed hmethM hstat
  obtain ⟨kP, hkP, -⟩ := className_of_methodNamed hnamed
  have hinitP : kP.init = .initialized := Cond.initialized_spec (findClass_of_methodNamed hnamed) hkP hinit
  obtain ⟨vm₁, X₁, hstep₁⟩ := X.invokestatic hexec hown hlink hnamed hmethM hstatic hkP hinitP hy (g := g) hg (argsL := argsL) (rest := rest) (hlen _ hsigM) hstack hdg
  rcases hK m meth c ⟨T.setVm vm₁, locs, cells, slots⟩ { g with stack := rest } (.invokestatic index) mk argsL.toArray X₁ hg hsize hdg hW (X₁.named hnamed) (hpre vm₁ X₁.warmed) with ⟨v, B, X', hpost, hsteps⟩ | ⟨q, B, X', hpost, hsteps⟩
  · exact Or.inl ⟨v, vm₁, B, X₁.warmed, X', hpost, fun target h => hstep₁ _ fun acts => by rw [doInvoke_state]; exact hsteps.trans h⟩
  · exact Or.inr ⟨q, vm₁, B, X₁.warmed, X', hpost, hstep₁ _ fun acts => by rw [doInvoke_state]; exact hsteps⟩
end Calls
theorem vx_cls {s : State} {T : State} {vm₁ : Vm} {E : String} {k : ClassId} (hW : s.WarmedH vm₁) (h : (T.setVm vm₁).vm.findClass E = some k) : s.vm.findClass E = some k := by
  have h1 : vm₁.findClass E = some k := h
  rw [hW.alike.findClass] at h1
  exact h1
/-- the method's frame g, with q thrown over it -/
def vx_W (p : Program) (l : Launch) (e : Env) (R : Room) (s : State) (m : MethodId) (args : Array Value) (below : List Frame) (meth : Method) (c : Code) (H : Heap) (locs : List Loc) (cells slots : Nat) (Q : State → Prop) (g : JFrame) (q : Addr) : Prop :=
  ∀ T : State, T.heap = H → Stand p l e R s m args below meth c T locs cells slots → ∃ t, Steps p.tables e below ((T.setTop g).pushFrame (.throwing q)) t ∧ Q t
def vx_Run (p : Program) (l : Launch) (e : Env) (R : Room) (s : State) (m : MethodId) (args : Array Value) (below : List Frame) (meth : Method) (c : Code) (H : Heap) (locs : List Loc) (cells slots mc ms : Nat) (g : JFrame) (rest : List Value) (Qa : State → Outcome → State → Prop) (XC : String → State → State → Prop) (free : Addr → Prop) : Prop :=
  ∀ T : State, T.heap = H → Stand p l e R s m args below meth c T locs cells slots →
    (∃ (v : Option Value) (st₀ t T' : State) (L : List Loc), st₀.heap = H ∧ Stand p l e R s m args below meth c T' (locs ++ L) (cells + mc) (slots + ms) ∧ (∀ q ∈ L, free q.base) ∧ T'.heap = t.heap ∧ T'.vm = t.vm ∧ Qa st₀ (.returned v) t ∧
      Goes p e below T g T' { g with pc := g.pc + 3, stack := v.toList ++ rest }) ∨
    (∃ (q : Addr) (st₀ t T' : State) (L : List Loc) (E : String) (ce : Cell), st₀.heap = H ∧ Stand p l e R s m args below meth c T' (locs ++ L) (cells + mc) (slots + ms) ∧ (∀ z ∈ L, free z.base) ∧ T'.heap = t.heap ∧ T'.vm = t.vm ∧ XC E st₀ t ∧ t.heap[q]? = some ce ∧ ce.vm = .none ∧ s.vm.findClass E = some ce.cls ∧
      Steps p.tables e below (T.setTop g) ((T'.setTop { g with stack := rest }).pushFrame (.throwing q)))
def vx_X {S : Type} (px : S → Prop) (B : String → S → State → Prop) (A : Nat → Prop) : String → State → State → Prop := fun E st t => ∃ u : S, px u ∧ B E u t ∧ va_F A st t
section Runs
variable {p : Program} {l : Launch} {e : Env} {R : Room} {s : State} {m : MethodId} {args : Array Value} {below : List Frame} {meth : Method} {c : Code} {H : Heap} {locs : List Loc} {cells slots : Nat}
variable {y : MethodName} {bytes cc : ByteArray} {maxL nL mc ms n index : Nat} {ret : Option FieldType} {ws : List Cond} {rm : Room} {Pc : Array Value → State → Prop} {Qc : Array Value → State → Outcome → State → Prop} {XC : String → State → State → Prop} {free : Addr → Prop} {Ts : List Cond} {own C : String} {b : Addr} {As rest : List Value} {g : JFrame}
theorem vx_callBack (cb : CallB R s args own index y bytes maxL ret ws rm mc ms n) (hM : vx_Met l y ws rm Pc Qc XC mc ms free) (hbl : FrameBlind Pc) : vx_Back l R p e below s args y 3 8 (PreOf R mc ms Pc) (PostOf Qc mc ms free) (vx_Post XC mc ms free) := by
  obtain ⟨hrc, hrs, hfr, hlo, hws, hcw, -, hini, -⟩ := cb
  exact vx_back (bytes := bytes) (maxL := maxL) (ret := ret) hM hbl hrc hrs hfr hlo hws hcw (fun a' U hW => word_at hW (Or.inl (by first | rfl | simp [Cond.onTables, Cond.keeps, Cond.steady])) hini)
theorem vx_runV (S : CallFix p m c cc nL s args Ts own) (hM : vx_Met l y ws rm Pc Qc XC mc ms free) (cw : CallW R s args own C index y bytes maxL ret ws rm mc ms n) (hp : PreV s H C b Pc As)
    (hg : g.method = m) (hn : As.length = n) (hsize : g.locals.size = nL) (hstack : g.stack = As.reverse ++ .ref b :: rest) (hW : 2 * g.monitorRoom + (rest.map fun v => v.category).sum ≤ 8) (hdg : decode cc g.pc = .ok (.invokevirtual index, 3)) (hf : cells + mc ≤ R.cells ∧ slots + ms ≤ R.slots) :
    vx_Run p l e R s m args below meth c H locs cells slots mc ms g rest (Qc (Value.ref b :: As).toArray) XC free := by
  have hK : vx_Back l R p e below s args y 3 8 (PreOf R mc ms Pc) (PostOf Qc mc ms free) (vx_Post XC mc ms free) := vx_callBack cw.1 hM hp.1
  obtain ⟨⟨-, -, -, -, -, -, hcode, -, hy, hlen, hl⟩, hin, hse⟩ := cw
  obtain ⟨hx, hb, hml, ho, -⟩ := S
  obtain ⟨-, ⟨cellB, hcB, hoB, hclB⟩, hPc⟩ := hp
  intro T hT X
  rcases vx_callV X hx (C := C) (bytes := bytes) (maxL := maxL) (ret := ret) ho hl hin hse hcode hy hK (by rw [hT]; exact hcB) hoB hclB hg (hsize.trans hml.symm) (argsL := As) (rest := rest) (fun sig h => hn.trans (hlen sig h)) hstack hW (by rw [hb]; exact hdg)
    (fun vm₁ hW₁ => ⟨hf.1, hf.2, hPc (T.setVm vm₁) hT hW₁⟩) with ⟨v, vm₁, ⟨U', l2, c2, s2⟩, hW₁, X', ⟨g', mk, t, L, e1, e2, hq, h1, hL, h2, h3⟩, st⟩ | ⟨q, vm₁, ⟨U', l2, c2, s2⟩, hW₁, X', ⟨g', mk, t, L, E, ce, e1, e2, hq, hce, hcv, hcl, h1, hL, h2, h3⟩, st⟩
  · dsimp only [Pt.U, Pt.locs, Pt.cells, Pt.slots] at X' e1 e2 h1 h2 h3 st
    subst h1; subst h2; subst h3
    exact Or.inl ⟨v, (T.setVm vm₁).calling g' mk (Value.ref b :: As).toArray, t, U', L, hT, X', hL, e1, e2, hq, st⟩
  · dsimp only [Pt.U, Pt.locs, Pt.cells, Pt.slots] at X' e1 e2 h1 h2 h3 st hcl
    subst h1; subst h2; subst h3
    exact Or.inr ⟨q, (T.setVm vm₁).calling g' mk (Value.ref b :: As).toArray, t, U', L, E, ce, hT, X', hL, e1, e2, hq, hce, hcv, vx_cls hW₁ hcl, st⟩
theorem vx_runS (S : CallFix p m c cc nL s args Ts own) (hM : vx_Met l y ws rm Pc Qc XC mc ms free) (cw : CallB R s args own index y bytes maxL ret ws rm mc ms n ∧ (Cond.static y).before args s = true) (hp : PreS s H Pc As)
    (hg : g.method = m) (hn : As.length = n) (hsize : g.locals.size = nL) (hstack : g.stack = As.reverse ++ rest) (hW : 2 * g.monitorRoom + (rest.map fun v => v.category).sum ≤ 8) (hdg : decode cc g.pc = .ok (.invokestatic index, 3)) (hf : cells + mc ≤ R.cells ∧ slots + ms ≤ R.slots) :
    vx_Run p l e R s m args below meth c H locs cells slots mc ms g rest (Qc As.toArray) XC free := by
  have hK : vx_Back l R p e below s args y 3 8 (PreOf R mc ms Pc) (PostOf Qc mc ms free) (vx_Post XC mc ms free) := vx_callBack cw.1 hM hp.1
  obtain ⟨⟨-, -, -, -, -, -, hcode, hini, hy, hlen, hl⟩, hstt⟩ := cw
  obtain ⟨hx, hb, hml, ho, -⟩ := S
  intro T hT X
  rcases vx_callS X hx (bytes := bytes) (maxL := maxL) (ret := ret) ho hl hstt hini hcode hy hK hg (hsize.trans hml.symm) (argsL := As) (rest := rest) (fun sig h => hn.trans (hlen sig h)) hstack hW (by rw [hb]; exact hdg)
    (fun vm₁ hW₁ => ⟨hf.1, hf.2, hp.2 (T.setVm vm₁) hT hW₁⟩) with ⟨v, vm₁, ⟨U', l2, c2, s2⟩, hW₁, X', ⟨g', mk, t, L, e1, e2, hq, h1, hL, h2, h3⟩, st⟩ | ⟨q, vm₁, ⟨U', l2, c2, s2⟩, hW₁, X', ⟨g', mk, t, L, E, ce, e1, e2, hq, hce, hcv, hcl, h1, hL, h2, h3⟩, st⟩
  · dsimp only [Pt.U, Pt.locs, Pt.cells, Pt.slots] at X' e1 e2 h1 h2 h3 st
    subst h1; subst h2; subst h3
    exact Or.inl ⟨v, (T.setVm vm₁).calling g' mk As.toArray, t, U', L, hT, X', hL, e1, e2, hq, st⟩
  · dsimp only [Pt.U, Pt.locs, Pt.cells, Pt.slots] at X' e1 e2 h1 h2 h3 st hcl
    subst h1; subst h2; subst h3
    exact Or.inr ⟨q, (T.setVm vm₁).calling g' mk As.toArray, t, U', L, E, ce, hT, X', hL, e1, e2, hq, hce, hcv, vx_cls hW₁ hcl, st⟩
end Runs
section Rows
variable {p : Program} {l : Launch} {e : Env} {R : Room} {s : State} {m : MethodId} {args : Array Value} {below : List Frame} {meth : Method} {c : Code} {H : Heap} {locs : List Loc} {cells slots : Nat} {Q : State → Prop}
variable {mc ms : Nat} {free : Addr → Prop} {A0 A1 : Nat → Prop} {H0 : Heap} {a : Array Value} {pc : Nat} {ls : Array Slot} {st0 rest : List Value}
theorem vx_keep {st₀ t T' : State} {L : List Loc} (h0 : st₀.heap = H) (e1 : T'.heap = t.heap) (hS : va_S A0 H0 H locs) (hA : ∀ q, q < H.size → A1 q → A0 q) (hf : ∀ q, free q → A0 q) (hL : ∀ q ∈ L, free q.base) (hF : va_F A1 st₀ t) :
    H.size ≤ T'.heap.size ∧ (∀ q : Nat, q < H.size → ¬ A1 q → T'.heap[q]? = H[q]?) ∧ va_S A0 H0 T'.heap (locs ++ L) := by
  obtain ⟨hz, hk⟩ := hF
  rw [h0] at hz hk
  exact ⟨by rw [e1]; exact hz, fun q h1 h2 => by rw [e1]; exact hk q h1 h2,
    ⟨Nat.le_trans hS.1 (by rw [e1]; exact hz), fun q h1 h2 => by rw [e1, hk q (Nat.lt_of_lt_of_le h1 hS.1) (fun z => h2 (hA q (Nat.lt_of_lt_of_le h1 hS.1) z))]; exact hS.2.1 q h1 h2, fun q hq => by
      rcases List.mem_append.mp hq with h | h
      · exact hS.2.2 q h
      · exact hf _ (hL q h)⟩⟩
theorem vx_calli {S SX : Type} {post : Int32 → S → Prop} {px : SX → Prop} {B : S → State → Prop} {BX : String → SX → State → Prop} {AX : Nat → Prop} (hr : vx_Run p l e R s m args below meth c H locs cells slots mc ms (F0 m pc ls st0) rest (va_Qi post B A1 a) (vx_X px BX AX) free) (hS : va_S A0 H0 H locs) (hA : ∀ q, q < H.size → A1 q → A0 q) (hf : ∀ q, free q → A0 q) (hAX : ∀ q, q < H.size → AX q → A0 q)
    (kx : ∀ (E : String) (ce : Cell) (q9 : Addr) (u : SX) (t : State) (H1 : Heap) (locs1 : List Loc), t.heap = H1 → s.vm.Alike t.vm → px u → BX E u t → H.size ≤ H1.size → (∀ q : Nat, q < H.size → ¬ AX q → H1[q]? = H[q]?) → va_S A0 H0 H1 locs1 → H1[q9]? = some ce → ce.vm = .none → s.vm.findClass E = some ce.cls → vx_W p l e R s m args below meth c H1 locs1 (cells + mc) (slots + ms) Q (F0 m pc ls rest) q9)
    (kk : ∀ (r : Int32) (u : S) (t : State) (H1 : Heap) (locs1 : List Loc), t.heap = H1 → s.vm.Alike t.vm → post r u → B u t → H.size ≤ H1.size → (∀ q : Nat, q < H.size → ¬ A1 q → H1[q]? = H[q]?) → va_S A0 H0 H1 locs1 → W p l e R s m args below meth c H1 locs1 (cells + mc) (slots + ms) Q (F0 m (pc + 3) ls (.int r :: rest))) : W p l e R s m args below meth c H locs cells slots Q (F0 m pc ls st0) := by
  intro T hT X
  rcases hr T hT X with ⟨v, st₀, t, T', L, h0, X', hL, e1, e2, ⟨⟨r, u, hv, hp, hb⟩, hF⟩, st⟩ | ⟨q, st₀, t, T', L, E, ce, h0, X', hL, e1, e2, ⟨u, hp, hb, hF⟩, hce, hcv, hcl, st⟩
  · cases hv
    obtain ⟨k1, k2, k3⟩ := vx_keep h0 e1 hS hA hf hL hF
    obtain ⟨t2, a1, b1⟩ := kk r u t T'.heap (locs ++ L) e1.symm (by rw [← e2]; exact X'.warmed.alike) hp hb k1 k2 k3 T' rfl X'
    exact ⟨t2, st t2 a1, b1⟩
  · obtain ⟨k1, k2, k3⟩ := vx_keep h0 e1 hS hAX hf hL hF
    obtain ⟨t2, a1, b1⟩ := kx E ce q u t T'.heap (locs ++ L) e1.symm (by rw [← e2]; exact X'.warmed.alike) hp hb k1 k2 k3 (by rw [e1]; exact hce) hcv hcl T' rfl X'
    exact ⟨t2, st.trans a1, b1⟩
theorem vx_calll {S SX : Type} {post : Int64 → S → Prop} {px : SX → Prop} {B : S → State → Prop} {BX : String → SX → State → Prop} {AX : Nat → Prop} (hr : vx_Run p l e R s m args below meth c H locs cells slots mc ms (F0 m pc ls st0) rest (va_Ql post B A1 a) (vx_X px BX AX) free) (hS : va_S A0 H0 H locs) (hA : ∀ q, q < H.size → A1 q → A0 q) (hf : ∀ q, free q → A0 q) (hAX : ∀ q, q < H.size → AX q → A0 q)
    (kx : ∀ (E : String) (ce : Cell) (q9 : Addr) (u : SX) (t : State) (H1 : Heap) (locs1 : List Loc), t.heap = H1 → s.vm.Alike t.vm → px u → BX E u t → H.size ≤ H1.size → (∀ q : Nat, q < H.size → ¬ AX q → H1[q]? = H[q]?) → va_S A0 H0 H1 locs1 → H1[q9]? = some ce → ce.vm = .none → s.vm.findClass E = some ce.cls → vx_W p l e R s m args below meth c H1 locs1 (cells + mc) (slots + ms) Q (F0 m pc ls rest) q9)
    (kk : ∀ (r : Int64) (u : S) (t : State) (H1 : Heap) (locs1 : List Loc), t.heap = H1 → s.vm.Alike t.vm → post r u → B u t → H.size ≤ H1.size → (∀ q : Nat, q < H.size → ¬ A1 q → H1[q]? = H[q]?) → va_S A0 H0 H1 locs1 → W p l e R s m args below meth c H1 locs1 (cells + mc) (slots + ms) Q (F0 m (pc + 3) ls (.long r :: rest))) : W p l e R s m args below meth c H locs cells slots Q (F0 m pc ls st0) := by
  intro T hT X
  rcases hr T hT X with ⟨v, st₀, t, T', L, h0, X', hL, e1, e2, ⟨⟨r, u, hv, hp, hb⟩, hF⟩, st⟩ | ⟨q, st₀, t, T', L, E, ce, h0, X', hL, e1, e2, ⟨u, hp, hb, hF⟩, hce, hcv, hcl, st⟩
  · cases hv
    obtain ⟨k1, k2, k3⟩ := vx_keep h0 e1 hS hA hf hL hF
    obtain ⟨t2, a1, b1⟩ := kk r u t T'.heap (locs ++ L) e1.symm (by rw [← e2]; exact X'.warmed.alike) hp hb k1 k2 k3 T' rfl X'
    exact ⟨t2, st t2 a1, b1⟩
  · obtain ⟨k1, k2, k3⟩ := vx_keep h0 e1 hS hAX hf hL hF
    obtain ⟨t2, a1, b1⟩ := kx E ce q u t T'.heap (locs ++ L) e1.symm (by rw [← e2]; exact X'.warmed.alike) hp hb k1 k2 k3 (by rw [e1]; exact hce) hcv hcl T' rfl X'
    exact ⟨t2, st.trans a1, b1⟩
theorem vx_callf {S SX : Type} {post : UInt32 → S → Prop} {px : SX → Prop} {B : S → State → Prop} {BX : String → SX → State → Prop} {AX : Nat → Prop} (hr : vx_Run p l e R s m args below meth c H locs cells slots mc ms (F0 m pc ls st0) rest (va_Qf post B A1 a) (vx_X px BX AX) free) (hS : va_S A0 H0 H locs) (hA : ∀ q, q < H.size → A1 q → A0 q) (hf : ∀ q, free q → A0 q) (hAX : ∀ q, q < H.size → AX q → A0 q)
    (kx : ∀ (E : String) (ce : Cell) (q9 : Addr) (u : SX) (t : State) (H1 : Heap) (locs1 : List Loc), t.heap = H1 → s.vm.Alike t.vm → px u → BX E u t → H.size ≤ H1.size → (∀ q : Nat, q < H.size → ¬ AX q → H1[q]? = H[q]?) → va_S A0 H0 H1 locs1 → H1[q9]? = some ce → ce.vm = .none → s.vm.findClass E = some ce.cls → vx_W p l e R s m args below meth c H1 locs1 (cells + mc) (slots + ms) Q (F0 m pc ls rest) q9)
    (kk : ∀ (r : UInt32) (u : S) (t : State) (H1 : Heap) (locs1 : List Loc), t.heap = H1 → s.vm.Alike t.vm → post r u → B u t → H.size ≤ H1.size → (∀ q : Nat, q < H.size → ¬ A1 q → H1[q]? = H[q]?) → va_S A0 H0 H1 locs1 → W p l e R s m args below meth c H1 locs1 (cells + mc) (slots + ms) Q (F0 m (pc + 3) ls (.float r :: rest))) : W p l e R s m args below meth c H locs cells slots Q (F0 m pc ls st0) := by
  intro T hT X
  rcases hr T hT X with ⟨v, st₀, t, T', L, h0, X', hL, e1, e2, ⟨⟨r, u, hv, hp, hb⟩, hF⟩, st⟩ | ⟨q, st₀, t, T', L, E, ce, h0, X', hL, e1, e2, ⟨u, hp, hb, hF⟩, hce, hcv, hcl, st⟩
  · cases hv
    obtain ⟨k1, k2, k3⟩ := vx_keep h0 e1 hS hA hf hL hF
    obtain ⟨t2, a1, b1⟩ := kk r u t T'.heap (locs ++ L) e1.symm (by rw [← e2]; exact X'.warmed.alike) hp hb k1 k2 k3 T' rfl X'
    exact ⟨t2, st t2 a1, b1⟩
  · obtain ⟨k1, k2, k3⟩ := vx_keep h0 e1 hS hAX hf hL hF
    obtain ⟨t2, a1, b1⟩ := kx E ce q u t T'.heap (locs ++ L) e1.symm (by rw [← e2]; exact X'.warmed.alike) hp hb k1 k2 k3 (by rw [e1]; exact hce) hcv hcl T' rfl X'
    exact ⟨t2, st.trans a1, b1⟩
theorem vx_calld {S SX : Type} {post : UInt64 → S → Prop} {px : SX → Prop} {B : S → State → Prop} {BX : String → SX → State → Prop} {AX : Nat → Prop} (hr : vx_Run p l e R s m args below meth c H locs cells slots mc ms (F0 m pc ls st0) rest (va_Qd post B A1 a) (vx_X px BX AX) free) (hS : va_S A0 H0 H locs) (hA : ∀ q, q < H.size → A1 q → A0 q) (hf : ∀ q, free q → A0 q) (hAX : ∀ q, q < H.size → AX q → A0 q)
    (kx : ∀ (E : String) (ce : Cell) (q9 : Addr) (u : SX) (t : State) (H1 : Heap) (locs1 : List Loc), t.heap = H1 → s.vm.Alike t.vm → px u → BX E u t → H.size ≤ H1.size → (∀ q : Nat, q < H.size → ¬ AX q → H1[q]? = H[q]?) → va_S A0 H0 H1 locs1 → H1[q9]? = some ce → ce.vm = .none → s.vm.findClass E = some ce.cls → vx_W p l e R s m args below meth c H1 locs1 (cells + mc) (slots + ms) Q (F0 m pc ls rest) q9)
    (kk : ∀ (r : UInt64) (u : S) (t : State) (H1 : Heap) (locs1 : List Loc), t.heap = H1 → s.vm.Alike t.vm → post r u → B u t → H.size ≤ H1.size → (∀ q : Nat, q < H.size → ¬ A1 q → H1[q]? = H[q]?) → va_S A0 H0 H1 locs1 → W p l e R s m args below meth c H1 locs1 (cells + mc) (slots + ms) Q (F0 m (pc + 3) ls (.double r :: rest))) : W p l e R s m args below meth c H locs cells slots Q (F0 m pc ls st0) := by
  intro T hT X
  rcases hr T hT X with ⟨v, st₀, t, T', L, h0, X', hL, e1, e2, ⟨⟨r, u, hv, hp, hb⟩, hF⟩, st⟩ | ⟨q, st₀, t, T', L, E, ce, h0, X', hL, e1, e2, ⟨u, hp, hb, hF⟩, hce, hcv, hcl, st⟩
  · cases hv
    obtain ⟨k1, k2, k3⟩ := vx_keep h0 e1 hS hA hf hL hF
    obtain ⟨t2, a1, b1⟩ := kk r u t T'.heap (locs ++ L) e1.symm (by rw [← e2]; exact X'.warmed.alike) hp hb k1 k2 k3 T' rfl X'
    exact ⟨t2, st t2 a1, b1⟩
  · obtain ⟨k1, k2, k3⟩ := vx_keep h0 e1 hS hAX hf hL hF
    obtain ⟨t2, a1, b1⟩ := kx E ce q u t T'.heap (locs ++ L) e1.symm (by rw [← e2]; exact X'.warmed.alike) hp hb k1 k2 k3 (by rw [e1]; exact hce) hcv hcl T' rfl X'
    exact ⟨t2, st.trans a1, b1⟩
theorem vx_callv {S SX : Type} {post : S → Prop} {px : SX → Prop} {B : S → State → Prop} {BX : String → SX → State → Prop} {AX : Nat → Prop} (hr : vx_Run p l e R s m args below meth c H locs cells slots mc ms (F0 m pc ls st0) rest (va_Qv post B A1 a) (vx_X px BX AX) free) (hS : va_S A0 H0 H locs) (hA : ∀ q, q < H.size → A1 q → A0 q) (hf : ∀ q, free q → A0 q) (hAX : ∀ q, q < H.size → AX q → A0 q)
    (kx : ∀ (E : String) (ce : Cell) (q9 : Addr) (u : SX) (t : State) (H1 : Heap) (locs1 : List Loc), t.heap = H1 → s.vm.Alike t.vm → px u → BX E u t → H.size ≤ H1.size → (∀ q : Nat, q < H.size → ¬ AX q → H1[q]? = H[q]?) → va_S A0 H0 H1 locs1 → H1[q9]? = some ce → ce.vm = .none → s.vm.findClass E = some ce.cls → vx_W p l e R s m args below meth c H1 locs1 (cells + mc) (slots + ms) Q (F0 m pc ls rest) q9)
    (kk : ∀ (u : S) (t : State) (H1 : Heap) (locs1 : List Loc), t.heap = H1 → s.vm.Alike t.vm → post u → B u t → H.size ≤ H1.size → (∀ q : Nat, q < H.size → ¬ A1 q → H1[q]? = H[q]?) → va_S A0 H0 H1 locs1 → W p l e R s m args below meth c H1 locs1 (cells + mc) (slots + ms) Q (F0 m (pc + 3) ls (rest))) : W p l e R s m args below meth c H locs cells slots Q (F0 m pc ls st0) := by
  intro T hT X
  rcases hr T hT X with ⟨v, st₀, t, T', L, h0, X', hL, e1, e2, ⟨⟨u, hv, hp, hb⟩, hF⟩, st⟩ | ⟨q, st₀, t, T', L, E, ce, h0, X', hL, e1, e2, ⟨u, hp, hb, hF⟩, hce, hcv, hcl, st⟩
  · cases hv
    obtain ⟨k1, k2, k3⟩ := vx_keep h0 e1 hS hA hf hL hF
    obtain ⟨t2, a1, b1⟩ := kk u t T'.heap (locs ++ L) e1.symm (by rw [← e2]; exact X'.warmed.alike) hp hb k1 k2 k3 T' rfl X'
    exact ⟨t2, st t2 a1, b1⟩
  · obtain ⟨k1, k2, k3⟩ := vx_keep h0 e1 hS hAX hf hL hF
    obtain ⟨t2, a1, b1⟩ := kx E ce q u t T'.heap (locs ++ L) e1.symm (by rw [← e2]; exact X'.warmed.alike) hp hb k1 k2 k3 (by rw [e1]; exact hce) hcv hcl T' rfl X'
    exact ⟨t2, st.trans a1, b1⟩
/-- caught by the row x of this method's table; the rows ahead don't take it -/
theorem vx_catch {own name : String} {E : String} {ce : Cell} {q : Addr} (hown : s.vm.findClass own = some m.cls) (pre : List ExceptionTableEntry) (x : ExceptionTableEntry) (suf : List ExceptionTableEntry) (hsplit : c.exceptionTable.toList = pre ++ x :: suf)
    (hpass : ∀ z ∈ pre, covers z pc = false ∨ (z.catchType ≠ 0 ∧ ∃ nm : String, (Cond.classLink own z.catchType nm).before args s = true ∧ va_Nc E nm s)) (hx : covers x pc = true) (h0 : x.catchType ≠ 0)
    (hlink : (Cond.classLink own x.catchType name).before args s = true) (hcast : (Cond.castable E name).before args s = true) (hcell : H[q]? = some ce) (hv : ce.vm = .none) (hcl : s.vm.findClass E = some ce.cls)
    (kk : W p l e R s m args below meth c H locs cells slots Q (F0 m x.handlerPc ls [.ref q])) : vx_W p l e R s m args below meth c H locs cells slots Q (F0 m pc ls rest) q := by
  intro T hT X
  have hpl : e.platform.magicAccessors = ({} : Platform).magicAccessors := by rw [X.admits.platform]
  obtain ⟨c3, c4, hc3, hc4, hasg⟩ := Cond.castable_spec hcast
  cases Option.some.inj (hc3.symm.trans hcl)
  obtain ⟨c5, hc5, hcl5⟩ := Cond.classLink_spec hown hlink e.platform hpl
  cases Option.some.inj (hc4.symm.trans hc5)
  obtain ⟨vm', X', st⟩ := X.thenCaughtThrough q (g := F0 m pc ls rest) rfl (Steps.refl _) (by rw [hT]; exact hcell) (by rw [hv]; rfl) (by obtain ⟨k9, h9, -⟩ := Vm.findClass_spec hcl; exact ⟨k9, h9⟩) pre x suf hsplit
    (fun z hz => by
      rcases hpass z hz with h | ⟨hz0, nm, hl1, hn1⟩
      · exact Or.inl h
      · obtain ⟨c6, hc6, hcl6⟩ := Cond.classLink_spec hown hl1 e.platform hpl
        obtain ⟨a8, b8, h1, h2, h3⟩ := hn1
        cases Option.some.inj (h1.symm.trans hcl)
        cases Option.some.inj (h2.symm.trans hc6)
        exact Or.inr ⟨hz0, _, hcl6, h3⟩) hx (Or.inr ⟨h0, c4, hcl5, hasg⟩)
  obtain ⟨t, a1, b1⟩ := kk (T.setVm vm') hT X'
  exact ⟨t, st.trans a1, b1⟩
end Rows
section Ends
variable {p : Program} {l : Launch} {e : Env} {R : Room} {s : State} {m : MethodId} {args : Array Value} {below : List Frame} {meth : Method} {c : Code} {H : Heap} {locs : List Loc} {cells slots : Nat} {Q : State → Prop}
variable {mc ms : Nat} {free : Addr → Prop} {A0 A1 : Nat → Prop} {H0 : Heap} {a : Array Value} {ls : Array Slot} {st0 rest : List Value}
variable {Qc : Array Value → State → Outcome → State → Prop} {XC : String → State → State → Prop}
/-- what a body that may throw owes at its end -/
def vx_MQ (below : List Frame) (Qc : Array Value → State → Outcome → State → Prop) (XC : String → State → State → Prop) (a : Array Value) (s : State) (mc ms : Nat) (free : Addr → Prop) : State → Prop := fun t =>
  ∃ o, t.status = .running ∧ Ended t below o ∧ vx_Q Qc XC mc ms free a s o t
theorem vx_ret {g : JFrame} {mc ms : Nat} (k : W p l e R s m args below meth c H locs cells slots (MQ below Qc args s mc ms free) g) : W p l e R s m args below meth c H locs cells slots (vx_MQ below Qc XC args s mc ms free) g := by
  intro T hT X
  obtain ⟨t, a1, o, b1, b2, b3, b4⟩ := k T hT X
  exact ⟨t, a1, o, b1, b2, Or.inl ⟨b3, b4⟩⟩
/-- not caught here: it goes on to the caller -/
theorem vx_widen {g : JFrame} {q : Addr} {k n : Nat} (h1 : cells ≤ k) (h2 : slots ≤ n) (kk : vx_W p l e R s m args below meth c H locs k n Q g q) : vx_W p l e R s m args below meth c H locs cells slots Q g q := fun T hT X => kk T hT (stand_widen X h1 h2)
theorem vx_out {pc : Nat} {E : String} {ce : Cell} {q : Addr} {mc ms : Nat} (hout : ∀ x ∈ c.exceptionTable.toList, covers x pc = false) (hlocks : meth.locks = false) (hcell : H[q]? = some ce) (hv : ce.vm = .none) (hcl : s.vm.findClass E = some ce.cls)
    (hx : ∀ t : State, t.heap = H → s.vm.Alike t.vm → XC E s t) (hf : ∀ z ∈ locs, free z.base) (hc : cells ≤ mc) (hs : slots ≤ ms) :
    vx_W p l e R s m args below meth c H locs cells slots (vx_MQ below Qc XC args s mc ms free) (F0 m pc ls rest) q := by
  intro T hT X
  obtain ⟨st1, hrun, hend, hW, hsm⟩ := X.leaveThrown q (g := F0 m pc ls rest) rfl rfl rfl hout hlocks
  have hcell9 : (T.setFrames (.throwing q :: below)).heap[q]? = some ce := by
    show T.heap[q]? = some ce
    rw [hT]; exact hcell
  exact ⟨_, st1, .threw q, hrun, hend, Or.inr ⟨q, rfl, E, ce, locs, hx _ hT hW.alike, hcell9, hv, hcl, hW, hsm.mono hc hs, hf⟩⟩
theorem vx_frame {U : State} {k n : Nat} (h : s.sameButNew ({ U with vm := s.vm } : State) locs k n) : s.heap.size ≤ U.heap.size ∧ ∀ q : Nat, q < s.heap.size → (∀ z ∈ locs, z.base ≠ q) → U.heap[q]? = s.heap[q]? := by
  obtain ⟨-, h2, -, -, -, h6⟩ := h
  refine ⟨h2, fun q hq hz => ?_⟩
  obtain ⟨c9, e1, e2, e3, e4⟩ := h6 q _ (Array.getElem?_eq_getElem hq)
  have hs : c9.slots = (s.heap[q]).slots := Array.ext_getElem? fun i => e4 i fun hm => hz _ hm rfl
  have h9 : c9 = s.heap[q] := by
    rw [hs] at e2
    exact e2
  have e5 : U.heap[q]? = some c9 := e1
  rw [e5, h9, Array.getElem?_eq_getElem hq]
/-- the words of a throw but the four that speak of the heap -/
def vx_no (w : Cond) : Bool := decide (w ≠ .isRef (.static Bundle.tN "UNASSIGNED_STACK" Bundle.steD)) && decide (w ≠ .isRef (.static Bundle.tN "SUPPRESSED_SENTINEL" Bundle.listD)) && decide (w ≠ .laysStatic Bundle.tN "UNASSIGNED_STACK" Bundle.steD) && decide (w ≠ .laysStatic Bundle.tN "SUPPRESSED_SENTINEL" Bundle.listD)
def vx_at0 (own : String) (ic : Nat) (X : String) (names : List String) : List Cond := (Bundle.ownAtoms0 own ic X names).filter vx_no
def vx_atS (own : String) (ic : Nat) (X : String) (names : List String) : List Cond := (Bundle.ownAtoms own ic X names).filter vx_no
/-- a word that the tables alone decide, or a good one -/
def vx_ot (w : Cond) : Bool := w.onTables || goodWord w
theorem vx_ot_at {args a' : Array Value} {s U : State} {w : Cond} (hW : s.WarmedH U.vm) (hvm : s.vm = U.vm) (hg : vx_ot w = true) (h : w.before args s = true) : w.before a' U = true := by
  simp only [vx_ot, Bool.or_eq_true] at hg
  rcases hg with hg | hg
  · exact va_tabs hg hvm h
  · exact word_at hW (good_of_word hg) h
/-- a list's words: the good ones out of the method's own list, the others by premises of their own -/
theorem vx_hat {args : Array Value} {s : State} {L B : List Cond} (h1 : ∀ w ∈ L.filter goodWord, w.before args s = true) (h2 : ∀ w ∈ L.filter (fun w => !goodWord w), w ∈ B) (h3 : ∀ w ∈ B, w.before args s = true) : ∀ w ∈ L, w.before args s = true := by
  intro w hw
  by_cases g : goodWord w = true
  · exact h1 w (List.mem_filter.mpr ⟨hw, g⟩)
  · refine h3 w (h2 w (List.mem_filter.mpr ⟨hw, ?_⟩))
    show (!goodWord w) = true
    cases hgw : goodWord w
    · rfl
    · exact absurd hgw g
theorem vx_c {args : Array Value} {s : State} {w : Cond} {B : List Cond} (h : w.before args s = true) (t : ∀ w ∈ B, w.before args s = true) : ∀ w' ∈ w :: B, w'.before args s = true := fun w' h' => (List.mem_cons.mp h').elim (fun e => by rw [e]; exact h) (t w')
theorem vx_n {args : Array Value} {s : State} : ∀ w ∈ ([] : List Cond), w.before args s = true := fun _ h => nomatch h
theorem vx_own {args : Array Value} {s : State} {L : List Cond} (h1 : ∀ w ∈ L.filter vx_no, w.before args s = true)
    (hU : (Cond.isRef (.static Bundle.tN "UNASSIGNED_STACK" Bundle.steD)).before args s = true) (hN : (Cond.isRef (.static Bundle.tN "SUPPRESSED_SENTINEL" Bundle.listD)).before args s = true)
    (lU : (Cond.laysStatic Bundle.tN "UNASSIGNED_STACK" Bundle.steD).before args s = true) (lN : (Cond.laysStatic Bundle.tN "SUPPRESSED_SENTINEL" Bundle.listD).before args s = true) : ∀ w ∈ L, w.before args s = true := by
  intro w hw
  by_cases e1 : w = .isRef (.static Bundle.tN "UNASSIGNED_STACK" Bundle.steD)
  · rw [e1]; exact hU
  · by_cases e2 : w = .isRef (.static Bundle.tN "SUPPRESSED_SENTINEL" Bundle.listD)
    · rw [e2]; exact hN
    · by_cases e3 : w = .laysStatic Bundle.tN "UNASSIGNED_STACK" Bundle.steD
      · rw [e3]; exact lU
      · by_cases e4 : w = .laysStatic Bundle.tN "SUPPRESSED_SENTINEL" Bundle.listD
        · rw [e4]; exact lN
        · exact h1 w (List.mem_filter.mpr ⟨hw, by unfold vx_no; rw [decide_eq_true e1, decide_eq_true e2, decide_eq_true e3, decide_eq_true e4]; rfl⟩)
/-- where a static field lies, its class's statics cell in H -/
def vx_L (C n d : String) (A : Nat → Prop) (U : State) (H : Heap) : Prop := ∃ (c : ClassId) (k : Class) (i : Nat) (f : Field) (a : Nat) (cell : Cell), U.vm.findClass C = some c ∧ U.fieldFound? C n d = some (c, k, i, f) ∧ f.isStatic = true ∧ k.statics = some a ∧ H[a]? = some cell ∧ cell.vm.isStatics = true ∧ cell.cls = c ∧ f.slot < cell.slots.size ∧ k.staticTypes[f.slot]? = some f.type ∧ ¬ A a
theorem vx_L.moved {C n d : String} {A : Nat → Prop} {u U : State} {H : Heap} (hvm : u.vm.Alike U.vm) (h : vx_L C n d A u H) : vx_L C n d A U H := by
  obtain ⟨c, k, i, f, a, cell, h1, h2, h3, h4, h5, h6, h7, h8, h9, h10⟩ := h
  obtain ⟨k', hi', he⟩ := State.fieldFound?_setVm hvm h2
  exact ⟨c, k', i, f, a, cell, by rw [hvm.findClass]; exact h1, hi', h3, by rw [he]; exact h4, h5, h6, h7, h8, by rw [he]; exact h9, h10⟩
theorem vx_L.kept {C n d : String} {A : Nat → Prop} {U : State} {H H1 : Heap} (h : vx_L C n d A U H) (hq : ∀ a : Nat, a < H.size → ¬ A a → H1[a]? = H[a]?) : vx_L C n d A U H1 := by
  obtain ⟨c, k, i, f, a, cell, h1, h2, h3, h4, h5, h6, h7, h8, h9, h10⟩ := h
  exact ⟨c, k, i, f, a, cell, h1, h2, h3, h4, by rw [hq a (Array.getElem?_eq_some_iff.mp h5).1 h10]; exact h5, h6, h7, h8, h9, h10⟩
theorem vx_L.narrow {C n d : String} {A B : Nat → Prop} {U : State} {H : Heap} (h : vx_L C n d A U H) (hAB : ∀ q, B q → A q) : vx_L C n d B U H := by
  obtain ⟨c, k, i, f, a, cell, h1, h2, h3, h4, h5, h6, h7, h8, h9, h10⟩ := h
  exact ⟨c, k, i, f, a, cell, h1, h2, h3, h4, h5, h6, h7, h8, h9, fun z => h10 (hAB _ z)⟩
theorem vx_L.word {C n d : String} {A : Nat → Prop} {s : State} {args : Array Value} (h : vx_L C n d A s s.heap) : (Cond.laysStatic C n d).before args s = true := by
  obtain ⟨c, k, i, f, a, cell, h1, h2, h3, h4, h5, h6, h7, h8, h9, -⟩ := h
  show (Cond.laysStatic C n d).holds args s none s [] = true
  exact Cond.laysStatic_of h1 h2 h3 h4 h5 h6 h7 h8 h9
/-- .. and what it holds: null or some reference -/
def vx_Zq (C n d : String) (A : Nat → Prop) (U : State) (H : Heap) : Prop := va_Zq C n d A U H ∧ vx_L C n d A U H
theorem vx_Zq.moved {C n d : String} {A : Nat → Prop} {u U : State} {H : Heap} (hvm : u.vm.Alike U.vm) (h : vx_Zq C n d A u H) : vx_Zq C n d A U H := ⟨va_Zq.moved hvm h.1, vx_L.moved hvm h.2⟩
theorem vx_Zq.kept {C n d : String} {A : Nat → Prop} {U : State} {H H1 : Heap} (h : vx_Zq C n d A U H) (hq : ∀ a : Nat, a < H.size → ¬ A a → H1[a]? = H[a]?) : vx_Zq C n d A U H1 := ⟨va_Zq.kept h.1 hq, vx_L.kept h.2 hq⟩
theorem vx_Zq.narrow {C n d : String} {A B : Nat → Prop} {U : State} {H : Heap} (h : vx_Zq C n d A U H) (hAB : ∀ q, B q → A q) : vx_Zq C n d B U H := ⟨va_Zq.narrow h.1 hAB, vx_L.narrow h.2 hAB⟩
theorem vx_Zqof {args : Array Value} {s : State} {C n d : String} {A : Nat → Prop} (hl : (Cond.laysStatic C n d).before args s = true) (hini : (Cond.initialized C).before args s = true) (h : (Cond.isRef (.static C n d)).before args s = true) (hA : ∀ a : Nat, a < s.heap.size → ¬ A a) : vx_Zq C n d A s s.heap := by
  refine ⟨va_Zqof hl hini h hA, ?_⟩
  obtain ⟨c, k, i, f, a, cell, h1, h2, h3, h4, h5, h6, h7, h8, h9⟩ := Cond.laysStatic_spec hl
  exact ⟨c, k, i, f, a, cell, h1, h2, h3, h4, h5, h6, h7, h8, h9, hA a (Array.getElem?_eq_some_iff.mp h5).1⟩
theorem vx_isRef {C n d : String} {v : Value} {A : Nat → Prop} {s : State} {args : Array Value} (h : va_Z C n d v A s s.heap) (hv : v.isRef = true) : (Cond.isRef (.static C n d)).before args s = true := by
  obtain ⟨cf, kf, fi, f, a, cell, h1, h2, h3, h4, h5, h6, h7, -⟩ := h
  have he : (Term.static C n d).eval args s none [] s = some v := by
    simp [Term.eval, State.fieldNamed?, h1, h2, h4, h5, h6, h7]
  simp only [Cond.before, Cond.holds, Cond.value, he]
  cases v <;> simp_all [Value.isRef]
theorem vx_isRefq {C n d : String} {A : Nat → Prop} {s : State} {args : Array Value} (h : va_Zq C n d A s s.heap) : (Cond.isRef (.static C n d)).before args s = true := by
  rcases h with h | ⟨t, h⟩
  · exact vx_isRef h rfl
  · exact vx_isRef h rfl
/-- the same frame, seen from here: as if the method were called anew in this heap -/
theorem vx_rebase {T : State} (X : Stand p l e R s m args below meth c T locs cells slots) {R' : Room} (hf : R'.frames ≤ R.frames) (hl : R'.locals ≤ R.locals) (hc : cells + R'.cells ≤ R.cells) (hs : slots + R'.slots ≤ R.slots) :
    Stand p l e R' ((T.setVm s.vm).setFrames (.invoking m args :: below)) m args below meth c T [] 0 0 := by
  have htop : (T.setVm s.vm).topJava?.isSome := X.here.top
  have hF : ((T.setVm s.vm).setFrames (.invoking m args :: below)).frames = .invoking m args :: below := State.frames_setFrames _ (State.cur_lt_of_top htop)
  obtain ⟨g₀, hg0⟩ := Option.isSome_iff_exists.mp htop
  obtain ⟨r, hr⟩ := State.topJava?_eq_some.mp hg0
  have hl9 : e.platform.stackLimits (T.setVm s.vm).me = e.platform.stackLimits s.me := X.limits
  have hb9 : (T.setVm s.vm).me.stackBytes = s.me.stackBytes := X.bytes
  refine ⟨X.admits, X.cas, X.clock, hF, ?_, X.hears, X.method, X.code, X.here, X.tail, X.warmed, ?_, ?_, ?_⟩
  · have h := X.room
    have hU : ((T.setVm s.vm).setFrames (.invoking m args :: below)).localsInUse = s.localsInUse := by
      rw [State.localsInUse_invoking hF (meth := meth) (c := c) X.method X.code, State.localsInUse_invoking X.frames X.method X.code]
    simp only [State.hasRoom, Bool.and_eq_true, decide_eq_true_eq] at h ⊢
    obtain ⟨⟨⟨⟨h1, h2, h3, h4, h5, h6⟩, h7⟩, h8⟩, h9⟩ := h
    rw [X.frames, List.length_cons] at h2 h3
    have q1 := X.heapSize
    have q2 := X.used
    simp only [hF, hU, List.length_cons, State.stackLimits_setFrames, State.stackBytes_setFrames, hl9, hb9]
    refine ⟨⟨⟨⟨by omega, by omega, by omega, by omega, by omega, h6⟩, ?_⟩, ?_⟩, X.book⟩
    · show T.heap.size + R'.cells ≤ e.platform.maxCells
      omega
    · show T.slotsUsed + R'.slots ≤ e.platform.maxSlots
      omega
  · rw [State.stackLimits_setFrames]; rfl
  · rw [State.stackBytes_setFrames]; rfl
  · refine ⟨?_, Nat.le_refl _, Nat.le_refl _, ?_, ?_, fun a c9 h9 => ⟨c9, h9, rfl, rfl, fun _ _ => rfl⟩⟩
    · obtain ⟨t, ht, -⟩ := State.frames_cons hr
      show T.setVm s.vm = { ((T.setVm s.vm).setFrames (.invoking m args :: below)).setFrames (T.setVm s.vm).frames with heap := T.heap, slotsUsed := T.slotsUsed }
      rw [State.setFrames_setFrames, State.setFrames_self ht]
      rfl
    · show T.slotsUsed = T.slotsUsed + ((T.heap.toList.drop T.heap.size).map (·.slots.size)).sum
      rw [List.drop_eq_nil_of_le (Nat.le_of_eq Array.length_toList)]
      rfl
    · show ((T.heap.toList.drop T.heap.size).map (·.slots.size)).sum ≤ 0
      rw [List.drop_eq_nil_of_le (Nat.le_of_eq Array.length_toList)]
      exact Nat.le_refl _
/-- 'throw new E()': new; dup; invokespecial; athrow -/
theorem vx_throw0 {cc : ByteArray} {pc : Nat} (hexec : p.tables.exec = Jvm.exec) (hb : c.code = cc) (hl : l.stackTraces = false) {own cls : String} {names : List String} {ik ic mc ms : Nat} {A : Nat → Prop}
    (hown : s.vm.findClass own = some m.cls) (hcls : Bundle.fit cls = true) (hnames : ∀ n ∈ names, Bundle.fit n = true)
    (hk : (Cond.classLink own ik cls).before args s = true) (hini : (Cond.initialized cls).before args s = true) (hat : ∀ w ∈ vx_at0 own ic cls names, w.before args s = true)
    (hgood : ∀ w ∈ Cond.classLink own ik cls :: Cond.initialized cls :: vx_at0 own ic cls names, vx_ot w = true)
    (hU : vx_Zq Bundle.tN "UNASSIGNED_STACK" Bundle.steD A s s.heap) (hN : vx_Zq Bundle.tN "SUPPRESSED_SENTINEL" Bundle.listD A s s.heap) (hS : va_S A s.heap H locs) (hsize : ls.size = c.maxLocals)
    (d0 : decode cc pc = .ok (.new ik, 3)) (d3 : decode cc (pc + 3) = .ok (.dup, 1)) (d4 : decode cc (pc + 4) = .ok (.invokespecial ic, 3)) (d7 : decode cc (pc + 7) = .ok (.athrow, 1))
    (hout : ∀ x ∈ c.exceptionTable.toList, covers x (pc + 7) = false)
    (hRframes : names.length + 3 < R.frames) (hRlocals : (rest.map fun v => v.category).sum + (13 * (names.length + 1) + 42) ≤ R.locals) (hRcells : cells + 1 ≤ R.cells) (hRslots : slots + 6 ≤ R.slots) (hlocks : meth.locks = false)
    (hx : ∀ t : State, s.vm.Alike t.vm → H.size ≤ t.heap.size → (∀ q : Nat, q < H.size → t.heap[q]? = H[q]?) → XC cls s t)
    (hf : ∀ z ∈ locs, free z.base) (hc : cells + 1 ≤ mc) (hs : slots + 6 ≤ ms) :
    W p l e R s m args below meth c H locs cells slots (vx_MQ below Qc XC args s mc ms free) (F0 m pc ls rest) := by
  intro T hT X
  have htr : e.platform.stackTraces = false := (show e.platform.stackTraces = l.stackTraces by rw [X.admits.platform]).trans hl
  have Y := vx_rebase X (R' := { frames := R.frames, locals := R.locals, cells := 1, slots := 6 }) (Nat.le_refl _) (Nat.le_refl _) hRcells hRslots
  obtain ⟨s', hA⟩ : ∃ z, z = (T.setVm s.vm).setFrames (.invoking m args :: below) := ⟨_, rfl⟩
  rw [← hA] at Y
  have hvm : s'.vm = s.vm := by rw [hA]; rfl
  have hhp : s'.heap = H := by rw [hA]; exact hT
  have hW0 : s.WarmedH s'.vm := by rw [hvm]; exact State.WarmedH.refl s
  have hat' : ∀ w ∈ vx_at0 own ic cls names, w.before args s' = true := fun w hw => vx_ot_at hW0 hvm.symm (hgood w (List.mem_cons_of_mem _ (List.mem_cons_of_mem _ hw))) (hat w hw)
  have hk' : (Cond.classLink own ik cls).before args s' = true := vx_ot_at hW0 hvm.symm (hgood _ List.mem_cons_self) hk
  have hini' : (Cond.initialized cls).before args s' = true := vx_ot_at hW0 hvm.symm (hgood _ (List.mem_cons_of_mem _ List.mem_cons_self)) hini
  have hU' : vx_Zq Bundle.tN "UNASSIGNED_STACK" Bundle.steD A s' s'.heap := by rw [hhp]; exact vx_Zq.moved hW0.alike (hU.kept hS.2.1)
  have hN' : vx_Zq Bundle.tN "SUPPRESSED_SENTINEL" Bundle.listD A s' s'.heap := by rw [hhp]; exact vx_Zq.moved hW0.alike (hN.kept hS.2.1)
  have h : ∀ w ∈ Bundle.ownAtoms0 own ic cls names, w.before args s' = true := vx_own hat' (vx_isRefq hU'.1) (vx_isRefq hN'.1) hU'.2.word hN'.2.word
  have hown' : s'.vm.findClass own = some m.cls := by rw [hvm]; exact hown
  have hins : (Cond.instantiable cls 6).before args s' = true := h _ (by simp [Bundle.ownAtoms0])
  obtain ⟨vm₁, cX, kX, hfX, hkX, -, -, X₁, st1⟩ := Y.newCold hexec (own := own) (C := cls) (index := ik) (n := 6) hown' hk' hins hini'
    (g := F0 m pc ls rest) rfl (by rw [hb]; exact d0) (Nat.le_refl _) (Nat.le_refl _)
  generalize hT1 : (T.setVm vm₁).pushCell { cls := cX, slots := kX.instanceTypes.map defaultValue, vm := .none } = T1 at X₁ st1
  have hcat : (Value.ref T.heap.size).category = 1 := rfl
  have hcellA : T1.heap[T.heap.size]? = some (freshCell cX kX) := by rw [← hT1]; exact State.heap_pushCell_size _ _
  have d3' : decode c.code (pc + 3) = .ok (.dup, 1) := by rw [hb]; exact d3
  obtain ⟨U, hsteps, hrun, hend, hW, hsame, ce, hce, hO⟩ := X₁.ctorThrow0 hexec htr (own := own) (cls := cls) (names := names) (ic := ic) hown' hcls hnames h (fun x hx => nomatch hx) hfX hkX hcellA (by rw [hhp, hT]; exact Nat.le_refl _)
    (g := { method := m, pc := pc + 4, locals := ls, stack := .ref T.heap.size :: .ref T.heap.size :: rest, locked := none }) rfl hsize rfl rfl (rest := rest) rfl
    (by rw [hb]; exact d4) (by rw [hb]; exact d7) hout hRframes (by simp only [List.map_cons, List.sum_cons, hcat]; omega) hlocks
  obtain ⟨f1, f2⟩ := vx_frame hsame
  rw [hhp] at f1 f2
  have hWs : s.WarmedH U.vm := State.WarmedH.trans hW0 hW
  have hcl : s.vm.findClass cls = some ce.cls := by
    have h9 := hO.cls
    rw [hvm] at h9
    exact h9
  have hall : s.sameButNew ({ U with vm := s.vm } : State) locs mc ms := by
    subst hA
    obtain ⟨e1, e2⟩ := hsame
    rw [State.setFrames_setFrames] at e1
    have h2 : (T.setVm s.vm).sameButNew ({ U with vm := s.vm } : State) [] (0 + 1) (0 + 6) := ⟨e1, e2⟩
    have h3 := X.same.trans h2
    rw [List.append_nil] at h3
    exact h3.mono hc hs
  refine ⟨U, ?_, .threw T.heap.size, hrun, hend, Or.inr ⟨T.heap.size, rfl, cls, ce, locs, hx U hWs.alike f1 (fun q hq => f2 q hq (fun z hz => nomatch hz)), hce, hO.vm, hcl, hWs, hall, hf⟩⟩
  refine st1 _ ?_
  show Steps p.tables e below (T1.setTop { method := m, pc := pc + 3, locals := ls, stack := .ref T.heap.size :: rest, locked := none }) _
  jvm_step X₁.here [X₁.here.top, hexec, d3', Value.category]
  exact hsteps
/-- 'throw new E("text")': new; dup; ldc; invokespecial; athrow -/
theorem vx_throwS {cc : ByteArray} {pc : Nat} (hexec : p.tables.exec = Jvm.exec) (hb : c.code = cc) (hl : l.stackTraces = false) {own cls text : String} {names : List String} {ik is ic mc ms sa : Nat} {A : Nat → Prop}
    (hown : s.vm.findClass own = some m.cls) (hcls : Bundle.fit cls = true) (hnames : ∀ n ∈ names, Bundle.fit n = true)
    (hk : (Cond.classLink own ik cls).before args s = true) (hini : (Cond.initialized cls).before args s = true) (hstr : vk_R own is text sa s) (hat : ∀ w ∈ vx_atS own ic cls names, w.before args s = true)
    (hgood : ∀ w ∈ Cond.classLink own ik cls :: Cond.initialized cls :: vx_atS own ic cls names, vx_ot w = true)
    (hU : vx_Zq Bundle.tN "UNASSIGNED_STACK" Bundle.steD A s s.heap) (hN : vx_Zq Bundle.tN "SUPPRESSED_SENTINEL" Bundle.listD A s s.heap) (hS : va_S A s.heap H locs) (hsize : ls.size = c.maxLocals)
    (d0 : decode cc pc = .ok (.new ik, 3)) (d3 : decode cc (pc + 3) = .ok (.dup, 1)) (d4 : decode cc (pc + 4) = .ok (.ldc is, 2)) (d6 : decode cc (pc + 6) = .ok (.invokespecial ic, 3)) (d9 : decode cc (pc + 9) = .ok (.athrow, 1))
    (hout : ∀ x ∈ c.exceptionTable.toList, covers x (pc + 9) = false)
    (hRframes : names.length + 3 < R.frames) (hRlocals : (rest.map fun v => v.category).sum + (13 * (names.length + 1) + 43) ≤ R.locals) (hRcells : cells + 1 ≤ R.cells) (hRslots : slots + 6 ≤ R.slots) (hlocks : meth.locks = false)
    (hx : ∀ t : State, s.vm.Alike t.vm → H.size ≤ t.heap.size → (∀ q : Nat, q < H.size → t.heap[q]? = H[q]?) → XC cls s t)
    (hf : ∀ z ∈ locs, free z.base) (hc : cells + 1 ≤ mc) (hs : slots + 6 ≤ ms) :
    W p l e R s m args below meth c H locs cells slots (vx_MQ below Qc XC args s mc ms free) (F0 m pc ls rest) := by
  intro T hT X
  have htr : e.platform.stackTraces = false := (show e.platform.stackTraces = l.stackTraces by rw [X.admits.platform]).trans hl
  have Y := vx_rebase X (R' := { frames := R.frames, locals := R.locals, cells := 1, slots := 6 }) (Nat.le_refl _) (Nat.le_refl _) hRcells hRslots
  obtain ⟨s', hA⟩ : ∃ z, z = (T.setVm s.vm).setFrames (.invoking m args :: below) := ⟨_, rfl⟩
  rw [← hA] at Y
  have hvm : s'.vm = s.vm := by rw [hA]; rfl
  have hhp : s'.heap = H := by rw [hA]; exact hT
  have hW0 : s.WarmedH s'.vm := by rw [hvm]; exact State.WarmedH.refl s
  have hat' : ∀ w ∈ vx_atS own ic cls names, w.before args s' = true := fun w hw => vx_ot_at hW0 hvm.symm (hgood w (List.mem_cons_of_mem _ (List.mem_cons_of_mem _ hw))) (hat w hw)
  have hk' : (Cond.classLink own ik cls).before args s' = true := vx_ot_at hW0 hvm.symm (hgood _ List.mem_cons_self) hk
  have hini' : (Cond.initialized cls).before args s' = true := vx_ot_at hW0 hvm.symm (hgood _ (List.mem_cons_of_mem _ List.mem_cons_self)) hini
  have hU' : vx_Zq Bundle.tN "UNASSIGNED_STACK" Bundle.steD A s' s'.heap := by rw [hhp]; exact vx_Zq.moved hW0.alike (hU.kept hS.2.1)
  have hN' : vx_Zq Bundle.tN "SUPPRESSED_SENTINEL" Bundle.listD A s' s'.heap := by rw [hhp]; exact vx_Zq.moved hW0.alike (hN.kept hS.2.1)
  have h : ∀ w ∈ Bundle.ownAtoms own ic cls names, w.before args s' = true := vx_own hat' (vx_isRefq hU'.1) (vx_isRefq hN'.1) hU'.2.word hN'.2.word
  have hown' : s'.vm.findClass own = some m.cls := by rw [hvm]; exact hown
  have hins : (Cond.instantiable cls 6).before args s' = true := h _ (by simp [Bundle.ownAtoms])
  obtain ⟨vm₁, cX, kX, hfX, hkX, -, -, X₁, st1⟩ := Y.newCold hexec (own := own) (C := cls) (index := ik) (n := 6) hown' hk' hins hini'
    (g := F0 m pc ls rest) rfl (by rw [hb]; exact d0) (Nat.le_refl _) (Nat.le_refl _)
  generalize hT1 : (T.setVm vm₁).pushCell { cls := cX, slots := kX.instanceTypes.map defaultValue, vm := .none } = T1 at X₁ st1
  have hcat : (Value.ref T.heap.size).category = 1 := rfl
  have hcellA : T1.heap[T.heap.size]? = some (freshCell cX kX) := by rw [← hT1]; exact State.heap_pushCell_size _ _
  have d3' : decode c.code (pc + 3) = .ok (.dup, 1) := by rw [hb]; exact d3
  have d4' : decode c.code (pc + 4) = .ok (.ldc is, 2) := by rw [hb]; exact d4
  have hstr' : vk_R own is text sa s' := vk_R.warm hW0 hstr
  obtain ⟨U, hsteps, hrun, hend, hW, hsame, ce, hce, hO⟩ := X₁.ctorThrowS hexec htr (own := own) (cls := cls) (names := names) (ic := ic) hown' hcls hnames h (fun x hx => nomatch hx) hfX hkX hcellA (by rw [hhp, hT]; exact Nat.le_refl _) (msg := .ref sa) rfl
    (g := { method := m, pc := pc + 6, locals := ls, stack := .ref sa :: .ref T.heap.size :: .ref T.heap.size :: rest, locked := none }) rfl hsize rfl rfl (rest := rest) rfl
    (by rw [hb]; exact d6) (by rw [hb]; exact d9) hout hRframes (by simp only [List.map_cons, List.sum_cons, hcat]; omega) hlocks
  obtain ⟨f1, f2⟩ := vx_frame hsame
  rw [hhp] at f1 f2
  have hWs : s.WarmedH U.vm := State.WarmedH.trans hW0 hW
  have hcl : s.vm.findClass cls = some ce.cls := by
    have h9 := hO.cls
    rw [hvm] at h9
    exact h9
  have hall : s.sameButNew ({ U with vm := s.vm } : State) locs mc ms := by
    subst hA
    obtain ⟨e1, e2⟩ := hsame
    rw [State.setFrames_setFrames] at e1
    have h2 : (T.setVm s.vm).sameButNew ({ U with vm := s.vm } : State) [] (0 + 1) (0 + 6) := ⟨e1, e2⟩
    have h3 := X.same.trans h2
    rw [List.append_nil] at h3
    exact h3.mono hc hs
  refine ⟨U, ?_, .threw T.heap.size, hrun, hend, Or.inr ⟨T.heap.size, rfl, cls, ce, locs, hx U hWs.alike f1 (fun q hq => f2 q hq (fun z hz => nomatch hz)), hce, hO.vm, hcl, hWs, hall, hf⟩⟩
  refine st1 _ ?_
  show Steps p.tables e below (T1.setTop { method := m, pc := pc + 3, locals := ls, stack := .ref T.heap.size :: rest, locked := none }) _
  jvm_step X₁.here [X₁.here.top, hexec, d3', Value.category]
  exact X₁.ldcString hexec (own := own) (text := text) (index := is) (a := sa) hown' hstr'.1 hstr'.2
    (g := { method := m, pc := pc + 4, locals := ls, stack := .ref T.heap.size :: .ref T.heap.size :: rest, locked := none }) rfl d4' _ hsteps
/-- 'throw new E("text")', the text by a wide index -/
theorem vx_throwSW {cc : ByteArray} {pc : Nat} (hexec : p.tables.exec = Jvm.exec) (hb : c.code = cc) (hl : l.stackTraces = false) {own cls text : String} {names : List String} {ik is ic mc ms sa : Nat} {A : Nat → Prop}
    (hown : s.vm.findClass own = some m.cls) (hcls : Bundle.fit cls = true) (hnames : ∀ n ∈ names, Bundle.fit n = true)
    (hk : (Cond.classLink own ik cls).before args s = true) (hini : (Cond.initialized cls).before args s = true) (hstr : vk_R own is text sa s) (hat : ∀ w ∈ vx_atS own ic cls names, w.before args s = true)
    (hgood : ∀ w ∈ Cond.classLink own ik cls :: Cond.initialized cls :: vx_atS own ic cls names, vx_ot w = true)
    (hU : vx_Zq Bundle.tN "UNASSIGNED_STACK" Bundle.steD A s s.heap) (hN : vx_Zq Bundle.tN "SUPPRESSED_SENTINEL" Bundle.listD A s s.heap) (hS : va_S A s.heap H locs) (hsize : ls.size = c.maxLocals)
    (d0 : decode cc pc = .ok (.new ik, 3)) (d3 : decode cc (pc + 3) = .ok (.dup, 1)) (d4 : decode cc (pc + 4) = .ok (.ldc_w is, 3)) (d7 : decode cc (pc + 7) = .ok (.invokespecial ic, 3)) (d10 : decode cc (pc + 10) = .ok (.athrow, 1))
    (hout : ∀ x ∈ c.exceptionTable.toList, covers x (pc + 10) = false)
    (hRframes : names.length + 3 < R.frames) (hRlocals : (rest.map fun v => v.category).sum + (13 * (names.length + 1) + 43) ≤ R.locals) (hRcells : cells + 1 ≤ R.cells) (hRslots : slots + 6 ≤ R.slots) (hlocks : meth.locks = false)
    (hx : ∀ t : State, s.vm.Alike t.vm → H.size ≤ t.heap.size → (∀ q : Nat, q < H.size → t.heap[q]? = H[q]?) → XC cls s t)
    (hf : ∀ z ∈ locs, free z.base) (hc : cells + 1 ≤ mc) (hs : slots + 6 ≤ ms) :
    W p l e R s m args below meth c H locs cells slots (vx_MQ below Qc XC args s mc ms free) (F0 m pc ls rest) := by
  intro T hT X
  have htr : e.platform.stackTraces = false := (show e.platform.stackTraces = l.stackTraces by rw [X.admits.platform]).trans hl
  have Y := vx_rebase X (R' := { frames := R.frames, locals := R.locals, cells := 1, slots := 6 }) (Nat.le_refl _) (Nat.le_refl _) hRcells hRslots
  obtain ⟨s', hA⟩ : ∃ z, z = (T.setVm s.vm).setFrames (.invoking m args :: below) := ⟨_, rfl⟩
  rw [← hA] at Y
  have hvm : s'.vm = s.vm := by rw [hA]; rfl
  have hhp : s'.heap = H := by rw [hA]; exact hT
  have hW0 : s.WarmedH s'.vm := by rw [hvm]; exact State.WarmedH.refl s
  have hat' : ∀ w ∈ vx_atS own ic cls names, w.before args s' = true := fun w hw => vx_ot_at hW0 hvm.symm (hgood w (List.mem_cons_of_mem _ (List.mem_cons_of_mem _ hw))) (hat w hw)
  have hk' : (Cond.classLink own ik cls).before args s' = true := vx_ot_at hW0 hvm.symm (hgood _ List.mem_cons_self) hk
  have hini' : (Cond.initialized cls).before args s' = true := vx_ot_at hW0 hvm.symm (hgood _ (List.mem_cons_of_mem _ List.mem_cons_self)) hini
  have hU' : vx_Zq Bundle.tN "UNASSIGNED_STACK" Bundle.steD A s' s'.heap := by rw [hhp]; exact vx_Zq.moved hW0.alike (hU.kept hS.2.1)
  have hN' : vx_Zq Bundle.tN "SUPPRESSED_SENTINEL" Bundle.listD A s' s'.heap := by rw [hhp]; exact vx_Zq.moved hW0.alike (hN.kept hS.2.1)
  have h : ∀ w ∈ Bundle.ownAtoms own ic cls names, w.before args s' = true := vx_own hat' (vx_isRefq hU'.1) (vx_isRefq hN'.1) hU'.2.word hN'.2.word
  have hown' : s'.vm.findClass own = some m.cls := by rw [hvm]; exact hown
  have hins : (Cond.instantiable cls 6).before args s' = true := h _ (by simp [Bundle.ownAtoms])
  obtain ⟨vm₁, cX, kX, hfX, hkX, -, -, X₁, st1⟩ := Y.newCold hexec (own := own) (C := cls) (index := ik) (n := 6) hown' hk' hins hini'
    (g := F0 m pc ls rest) rfl (by rw [hb]; exact d0) (Nat.le_refl _) (Nat.le_refl _)
  generalize hT1 : (T.setVm vm₁).pushCell { cls := cX, slots := kX.instanceTypes.map defaultValue, vm := .none } = T1 at X₁ st1
  have hcat : (Value.ref T.heap.size).category = 1 := rfl
  have hcellA : T1.heap[T.heap.size]? = some (freshCell cX kX) := by rw [← hT1]; exact State.heap_pushCell_size _ _
  have d3' : decode c.code (pc + 3) = .ok (.dup, 1) := by rw [hb]; exact d3
  have d4' : decode c.code (pc + 4) = .ok (.ldc_w is, 3) := by rw [hb]; exact d4
  have hstr' : vk_R own is text sa s' := vk_R.warm hW0 hstr
  obtain ⟨U, hsteps, hrun, hend, hW, hsame, ce, hce, hO⟩ := X₁.ctorThrowS hexec htr (own := own) (cls := cls) (names := names) (ic := ic) hown' hcls hnames h (fun x hx => nomatch hx) hfX hkX hcellA (by rw [hhp, hT]; exact Nat.le_refl _) (msg := .ref sa) rfl
    (g := { method := m, pc := pc + 7, locals := ls, stack := .ref sa :: .ref T.heap.size :: .ref T.heap.size :: rest, locked := none }) rfl hsize rfl rfl (rest := rest) rfl
    (by rw [hb]; exact d7) (by rw [hb]; exact d10) hout hRframes (by simp only [List.map_cons, List.sum_cons, hcat]; omega) hlocks
  obtain ⟨f1, f2⟩ := vx_frame hsame
  rw [hhp] at f1 f2
  have hWs : s.WarmedH U.vm := State.WarmedH.trans hW0 hW
  have hcl : s.vm.findClass cls = some ce.cls := by
    have h9 := hO.cls
    rw [hvm] at h9
    exact h9
  have hall : s.sameButNew ({ U with vm := s.vm } : State) locs mc ms := by
    subst hA
    obtain ⟨e1, e2⟩ := hsame
    rw [State.setFrames_setFrames] at e1
    have h2 : (T.setVm s.vm).sameButNew ({ U with vm := s.vm } : State) [] (0 + 1) (0 + 6) := ⟨e1, e2⟩
    have h3 := X.same.trans h2
    rw [List.append_nil] at h3
    exact h3.mono hc hs
  refine ⟨U, ?_, .threw T.heap.size, hrun, hend, Or.inr ⟨T.heap.size, rfl, cls, ce, locs, hx U hWs.alike f1 (fun q hq => f2 q hq (fun z hz => nomatch hz)), hce, hO.vm, hcl, hWs, hall, hf⟩⟩
  refine st1 _ ?_
  show Steps p.tables e below (T1.setTop { method := m, pc := pc + 3, locals := ls, stack := .ref T.heap.size :: rest, locked := none }) _
  jvm_step X₁.here [X₁.here.top, hexec, d3', Value.category]
  exact X₁.ldcStringW hexec (own := own) (text := text) (index := is) (a := sa) hown' hstr'.1 hstr'.2
    (g := { method := m, pc := pc + 4, locals := ls, stack := .ref T.heap.size :: .ref T.heap.size :: rest, locked := none }) rfl d4' _ hsteps
end Ends
section Bodies
variable {l : Launch}
theorem vx_ofW {y : MethodName} {ws ws' : List Cond} {rm : Room} {Pc : Array Value → State → Prop} {Qc : Array Value → State → Outcome → State → Prop} {XC : String → State → State → Prop} {mc ms : Nat} {free : Addr → Prop} {cc : ByteArray} {maxL : Nat} {ret : Option FieldType}
    (hy : plainName y.cls = true) (hw : ws = Cond.code y cc maxL ret :: ws')
    (body : ∀ p e s m args below meth c s₁, BodyLoose p l y (headSpec ws rm) cc maxL ret e s m args below meth c s₁ → c.maxLocals = maxL → (∀ x ∈ c.exceptionTable.toList, False) → Pc args s →
      W p l e (headSpec ws rm).room s m args below meth c s.heap [] 0 0 (vx_MQ below Qc XC args s mc ms free) (entryFrame m args maxL)) : vx_Met l y ws rm Pc Qc XC mc ms free := by
  refine MetFree.of_bodyS (code := cc) (maxLocals := maxL) (ret := ret) hy ?_ ?_
  · intro args s m h hn
    obtain ⟨meth, c, h1, h2, h3, h4, h5, h6, -, -⟩ := Cond.code_spec hn (atoms_spec (ws := ws) h _ (by rw [hw]; exact List.mem_cons_self))
    exact ⟨meth, c, h1, h2, h3, h4, h5, h6⟩
  · intro p e s m args below meth c s₁ B hml hP _
    have hh0 : s₁.heap = s.heap := by rw [B.state]; rfl
    have ht : ∀ x ∈ c.exceptionTable.toList, False := by
      obtain ⟨meth9, c9, h1, h2, -, -, -, -, h7, -⟩ := Cond.code_spec B.named (atoms_spec (ws := ws) B.pre _ (by rw [hw]; exact List.mem_cons_self))
      cases Option.some.inj (h1.symm.trans B.method)
      cases Option.some.inj (h2.symm.trans (Stand.of_body B).code)
      intro x hx
      rw [Array.isEmpty_iff.mp h7] at hx
      cases hx
    obtain ⟨t, a1, o, b1, b2, b3⟩ := body p e s m args below meth c s₁ B hml ht hP s₁ hh0 (Stand.of_body B)
    exact ⟨t, o, a1, b1, b2, b3⟩
/-- the table of a body with handlers -/
theorem vx_table {p : Program} {x y : MethodName} {S : Spec} {cc bytes : ByteArray} {maxL maxL' : Nat} {ret ret' : Option FieldType} {e : Env} {s s₁ : State} {m : MethodId} {args : Array Value} {below : List Frame} {meth : Method} {c : Code} {hh : List (Nat × Nat × Nat × Nat)}
    (B : BodyLoose p l y S cc maxL ret e s m args below meth c s₁) (h : (Cond.codeWith y bytes maxL' ret' hh).before args s = true) : c.exceptionTable.toList = tableOf hh := by
  obtain ⟨m9, meth9, c9, hn9, h1, h2, -, -, h6, -⟩ := Cond.codeWith_spec h
  cases Option.some.inj (hn9.symm.trans B.named)
  cases Option.some.inj (h1.symm.trans B.method)
  cases Option.some.inj (h2.symm.trans (Stand.of_body B).code)
  rw [← h6, table_eq]
end Bodies
end VXA
/-! ===== END ===== -/
/-! ===== BEGIN a static call of a method with an exception table ===== -/
section VXS
variable {p : Program} {l : Launch} {e : Env} {R : Room} {s : State} {m : MethodId} {args : Array Value} {below : List Frame} {meth : Method} {c : Code} {T : State} {H : Heap} {locs : List Loc} {cells slots : Nat}
abbrev vx_CSW (R : Room) (s : State) (args : Array Value) (own : String) (index : Nat) (y : MethodName) (bytes : ByteArray) (maxL : Nat) (ret : Option FieldType) (hh : List (Nat × Nat × Nat × Nat)) (ws : List Cond) (rm : Room) (mc ms n : Nat) : Prop :=
  (rm.cells = mc ∧ rm.slots = ms ∧ rm.frames + 1 ≤ R.frames ∧ 8 + (maxL + 11) + rm.locals ≤ R.locals ∧ (∀ w ∈ ws, ∀ (a' : Array Value) (U : State), s.WarmedH U.vm → w.before a' U = true) ∧ Cond.codeWith y bytes maxL ret hh ∈ ws) ∧
  (Cond.codeWith y bytes maxL ret hh).before args s = true ∧ (Cond.initialized y.cls).before args s = true ∧ (y.cls ≠ "java/lang/invoke/MethodHandle" ∧ y.cls ≠ "java/lang/invoke/VarHandle") ∧
  (∀ sig, parseMethodDescriptor y.desc = some sig → n = sig.parameters.length) ∧ (Cond.methodLink own index y).before args s = true ∧ (Cond.static y).before args s = true
theorem vx_cwSW {own : String} {index maxL mc ms : Nat} {y : MethodName} {bytes : ByteArray} {ret : Option FieldType} {hh : List (Nat × Nat × Nat × Nat)} {Ts ws ws' : List Cond} {rm : Room} (n : Nat) (ht : ∀ w ∈ Ts, w.before args s = true) (hT : GoodIn Ts (va_wsS own index y ws)) (hw : ws = Cond.codeWith y bytes maxL ret hh :: ws') (hrc : rm.cells = mc) (hrs : rm.slots = ms)
    (hd : y.cls ≠ "java/lang/invoke/MethodHandle" ∧ y.cls ≠ "java/lang/invoke/VarHandle" ∧ (parseMethodDescriptor y.desc).map (fun d => d.parameters.length) = some n) (hR : rm.frames + 1 ≤ R.frames ∧ 8 + (maxL + 11) + rm.locals ≤ R.locals) :
    vx_CSW R s args own index y bytes maxL ret hh ws rm mc ms n := by
  have ok : ∀ w ∈ va_wsS own index y ws, w.before args s = true := fun w h => ht w (hT w h).1
  have hG : GoodIn Ts ws := fun w h => hT w (by unfold va_wsS; exact List.mem_append_right _ h)
  have hc : Cond.codeWith y bytes maxL ret hh ∈ ws := by rw [hw]; exact List.mem_cons_self
  refine ⟨⟨hrc, hrs, hR.1, hR.2, pay_in ht hG, hc⟩, ht _ (hG _ hc).1, ok _ (by simp [va_wsS]), ⟨hd.1, hd.2.1⟩, fun sig h => ?_, ok _ (by simp [va_wsS]), ok _ (by simp [va_wsS])⟩
  have h2 := hd.2.2
  rw [h] at h2
  exact (Option.some.inj h2).symm
theorem vx_callSW (X : Stand p l e R s m args below meth c T locs cells slots) (hexec : p.tables.exec = Jvm.exec) {own : String} {index : Nat} {y : MethodName} {bytes : ByteArray} {maxL : Nat} {ret : Option FieldType} {hh : List (Nat × Nat × Nat × Nat)}
    (hown : s.vm.findClass own = some m.cls) (hlink : (Cond.methodLink own index y).before args s = true) (hstat : (Cond.static y).before args s = true) (hinit : (Cond.initialized y.cls).before args s = true)
    (hcode : (Cond.codeWith y bytes maxL ret hh).before args s = true) (hy : y.cls ≠ "java/lang/invoke/MethodHandle" ∧ y.cls ≠ "java/lang/invoke/VarHandle")
    {W9 : Nat} {Pre : Pt → Array Value → Prop} {Post : Pt → Array Value → Option Value → Pt → Prop} (hK : Back l R p e below s args y 3 W9 Pre Post)
    {g : JFrame} (hg : g.method = m) (hsize : g.locals.size = c.maxLocals) {argsL rest : List Value} (hlen : ∀ sig, parseMethodDescriptor y.desc = some sig → argsL.length = sig.parameters.length)
    (hstack : g.stack = argsL.reverse ++ rest) (hW : 2 * g.monitorRoom + (rest.map fun v => v.category).sum ≤ W9) (hdg : decode c.code g.pc = .ok (.invokestatic index, 3))
    (hpre : ∀ vm₁, s.WarmedH vm₁ → Pre ⟨T.setVm vm₁, locs, cells, slots⟩ argsL.toArray) :
    ∃ (v : Option Value) (vm₁ : Vm) (B : Pt), s.WarmedH vm₁ ∧ Stand p l e R s m args below meth c B.U B.locs B.cells B.slots ∧ Post ⟨T.setVm vm₁, locs, cells, slots⟩ argsL.toArray v B ∧
      ∀ target, Steps p.tables e below (B.U.setTop { g with pc := g.pc + 3, stack := v.toList ++ rest }) target → Steps p.tables e below (T.setTop g) target := by
  obtain ⟨mk, methM, cM, hnamed, hmethM, -, -, -, -, -, -, hsigM⟩ := Cond.codeWith_spec hcode
  have hstatic : methM.isStatic = true := Cond.static_spec hnamed hmethM hstat
  obtain ⟨kP, hkP, -⟩ := className_of_methodNamed hnamed
  have hinitP : kP.init = .initialized := Cond.initialized_spec (findClass_of_methodNamed hnamed) hkP hinit
  obtain ⟨vm₁, X₁, hstep₁⟩ := X.invokestatic hexec hown hlink hnamed hmethM hstatic hkP hinitP hy (g := g) hg (argsL := argsL) (rest := rest) (hlen _ hsigM) hstack hdg
  obtain ⟨v, B, X', hpost, hsteps⟩ := hK m meth c ⟨T.setVm vm₁, locs, cells, slots⟩ { g with stack := rest } (.invokestatic index) mk argsL.toArray X₁ hg hsize hdg hW (X₁.named hnamed) (hpre vm₁ X₁.warmed)
  exact ⟨v, vm₁, B, X₁.warmed, X', hpost, fun target h => hstep₁ _ fun acts => by rw [doInvoke_state]; exact hsteps.trans h⟩
theorem vx_runSW {y : MethodName} {bytes cc : ByteArray} {maxL nL mc ms n index : Nat} {ret : Option FieldType} {hh : List (Nat × Nat × Nat × Nat)} {ws : List Cond} {rm : Room} {Pc : Array Value → State → Prop} {Qc : Array Value → State → Outcome → State → Prop} {free : Addr → Prop} {Ts : List Cond} {own : String} {As rest : List Value} {g : JFrame}
    (S : CallFix p m c cc nL s args Ts own) (hM : Met l y ws rm Pc Qc mc ms free) (cw : vx_CSW R s args own index y bytes maxL ret hh ws rm mc ms n) (hp : PreS s H Pc As)
    (hg : g.method = m) (hn : As.length = n) (hsize : g.locals.size = nL) (hstack : g.stack = As.reverse ++ rest) (hW : 2 * g.monitorRoom + (rest.map fun v => v.category).sum ≤ 8) (hdg : decode cc g.pc = .ok (.invokestatic index, 3)) (hf : cells + mc ≤ R.cells ∧ slots + ms ≤ R.slots) :
    va_Run p l e R s m args below meth c H locs cells slots mc ms g rest (Qc As.toArray) (free) := by
  obtain ⟨⟨hrc, hrs, hfr, hlo, hws, hcw⟩, hcode, hini, hy, hlen, hl, hstt⟩ := cw
  have hK : Back l R p e below s args y 3 8 (PreOf R mc ms Pc) (PostOf Qc mc ms free) := va_backW (hh := hh) (bytes := bytes) (maxL := maxL) (ret := ret) hM hp.1 hrc hrs hfr hlo hws hcw (fun a' U hW => word_at hW (Or.inl (by first | rfl | simp [Cond.onTables, Cond.keeps, Cond.steady])) hini)
  obtain ⟨hx, hb, hml, ho, -⟩ := S
  intro T hT X
  obtain ⟨v, vm₁, ⟨U', l2, c2, s2⟩, hW₁, X', ⟨g', mk, t, L, e1, e2, hq, h1, hL, h2, h3⟩, st⟩ := vx_callSW X hx (hh := hh) (bytes := bytes) (maxL := maxL) (ret := ret) ho hl hstt hini hcode hy hK hg (hsize.trans hml.symm) (argsL := As) (rest := rest) (fun sig h => hn.trans (hlen sig h)) hstack hW (by rw [hb]; exact hdg)
    (fun vm₁ hW₁ => ⟨hf.1, hf.2, hp.2 (T.setVm vm₁) hT hW₁⟩)
  dsimp only [Pt.U, Pt.locs, Pt.cells, Pt.slots] at X' e1 e2 h1 h2 h3 st
  subst h1; subst h2; subst h3
  exact ⟨v, (T.setVm vm₁).calling g' mk As.toArray, t, U', L, hT, X', hL, e1, e2, hq, st⟩
/-- not caught here, past rows that name other classes: it goes on to the caller -/
theorem vx_outP {p : Program} {l : Launch} {e : Env} {R : Room} {s : State} {m : MethodId} {args : Array Value} {below : List Frame} {meth : Method} {c : Code} {H : Heap} {locs : List Loc} {cells slots : Nat} {free : Addr → Prop} {ls : Array Slot} {rest : List Value} {Qc : Array Value → State → Outcome → State → Prop} {XC : String → State → State → Prop}
    {pc : Nat} {own E : String} {ce : Cell} {q : Addr} {mc ms : Nat} (hown : s.vm.findClass own = some m.cls) (hlocks : meth.locks = false)
    (hpass : ∀ z ∈ c.exceptionTable.toList, covers z pc = false ∨ (z.catchType ≠ 0 ∧ ∃ nm : String, (Cond.classLink own z.catchType nm).before args s = true ∧ va_Nc E nm s)) (hcell : H[q]? = some ce) (hv : ce.vm = .none) (hcl : s.vm.findClass E = some ce.cls)
    (hx : ∀ t : State, t.heap = H → s.vm.Alike t.vm → XC E s t) (hf : ∀ z ∈ locs, free z.base) (hc : cells ≤ mc) (hs : slots ≤ ms) :
    vx_W p l e R s m args below meth c H locs cells slots (vx_MQ below Qc XC args s mc ms free) (F0 m pc ls rest) q := by
  intro T hT X
  have hpl : e.platform.magicAccessors = ({} : Platform).magicAccessors := by rw [X.admits.platform]
  obtain ⟨vm', hW', X', st⟩ := X.outThrough hlocks q (g := F0 m pc ls rest) rfl rfl rfl (cell := ce) (by rw [hT]; exact hcell) (by rw [hv]; rfl)
    (by obtain ⟨k9, h9, -⟩ := Vm.findClass_spec hcl; exact ⟨k9, h9⟩) (fun z hz => by
      rcases hpass z hz with h | ⟨hz0, nm, hl1, hn1⟩
      · exact Or.inl h
      · obtain ⟨c6, hc6, hcl6⟩ := Cond.classLink_spec hown hl1 e.platform hpl
        obtain ⟨a8, b8, h1, h2, h3⟩ := hn1
        cases Option.some.inj (h1.symm.trans hcl)
        cases Option.some.inj (h2.symm.trans hc6)
        exact Or.inr ⟨hz0, _, hcl6, h3⟩)
  obtain ⟨g₀, hfr⟩ := X'.frames_eq
  have hcell9 : ((T.setVm vm').setFrames (.throwing q :: below)).heap[q]? = some ce := by
    show T.heap[q]? = some ce
    rw [hT]; exact hcell
  have hend : Ended ((T.setVm vm').setFrames (.throwing q :: below)) below (.threw q) := State.frames_setFrames _ (State.cur_lt_of_frames hfr)
  refine ⟨(T.setVm vm').setFrames (.throwing q :: below), ?_, .threw q, X'.here.running, hend, Or.inr ⟨q, rfl, E, ce, locs, hx _ hT (X'.ends _).1.alike, hcell9, hv, hcl, (X'.ends _).1, (X'.ends _).2.mono hc hs, hf⟩⟩
  rw [X.pushThrowing_eq]
  exact st
/-- a thing of a world lies in the heap -/
theorem vx_lt {D : va_G} {cl : List vw_C} {ws : va_W} {H1 : Heap} (h : va_P D cl ws H1) {k : Nat} {q : Nat × va_E} (hk : ws[k]? = some q) : q.1 < H1.size := (h k q hk).lt
end VXS
/-! ===== END ===== -/
/-! ===== BEGIN methods with a table of their own: called by a name, returning or throwing ===== -/
section VXH
/-! vx_backW, vx_callVX, vx_callSX, vx_callVW, vx_runVW, vx_runVX, vx_runSX, vx_ofWH follow the same proofs as their sisters above (Free/Laws.lean, Shelf42/LK1.lean); vx_outP calls Shelf42/NT130.lean (outThrough). -/
section
variable {l : Launch} {R : Room} {p : Program} {e : Env} {below : List Frame} {s : State} {sargs : Array Value} {y : MethodName} {len W9 : Nat}
theorem vx_backW {ws : List Cond} {rm : Room} {Pc : Array Value → State → Prop} {Qc : Array Value → State → Outcome → State → Prop} {XC : String → State → State → Prop} {mc ms : Nat} {free : Addr → Prop} {bytes : ByteArray} {maxL : Nat} {ret : Option FieldType} {hh : List (Nat × Nat × Nat × Nat)}
    (hM : vx_Met l y ws rm Pc Qc XC mc ms free) (hblind : FrameBlind Pc) (hrc : rm.cells = mc) (hrs : rm.slots = ms)
    (hframes : rm.frames + 1 ≤ R.frames) (hlocals : W9 + (maxL + 11) + rm.locals ≤ R.locals)
    (hws : ∀ w ∈ ws, ∀ a' U, s.WarmedH U.vm → w.before a' U = true) (hcode : Cond.codeWith y bytes maxL ret hh ∈ ws) (hinit : ∀ a' U, s.WarmedH U.vm → (Cond.initialized y.cls).before a' U = true) :
    vx_Back l R p e below s sargs y len W9 (PreOf R mc ms Pc) (PostOf Qc mc ms free) (vx_Post XC mc ms free) := by
  intro m meth c A g ig mk a X hg hsize hdg hW hn hp
  have h1 : (headSpec ws rm).pre.before a A.U = true := atoms_intro fun w hw => hws w hw _ _ X.warmed
  have h2 : (Cond.codeWith y bytes maxL ret hh).before a A.U = true := hws _ hcode _ _ X.warmed
  have h3 : (Cond.initialized y.cls).before a A.U = true := hinit _ _ X.warmed
  have h4 : A.cells + (headSpec ws rm).room.cells ≤ R.cells := by rw [show (headSpec ws rm).room.cells = mc from hrc]; exact hp.1
  have h5 : A.slots + (headSpec ws rm).room.slots ≤ R.slots := by rw [show (headSpec ws rm).room.slots = ms from hrs]; exact hp.2.1
  have hPc : Pc a (A.U.calling g mk a) := hblind _ _ _ _ hp.2.2
  obtain ⟨U, Ls, c0, s0⟩ := A
  dsimp only [Pt.U, Pt.locs, Pt.cells, Pt.slots] at h1 h2 h3 h4 h5 X hn hPc ⊢
  obtain ⟨m9, methY, cY, hn9, hmY, hcY, -, hlY, -⟩ := Cond.codeWith_spec h2
  cases Option.some.inj (hn9.symm.trans hn)
  obtain ⟨kY, hkY, -⟩ := className_of_methodNamed hn
  have hinitY : kY.init = .initialized := Cond.initialized_spec (findClass_of_methodNamed hn) hkY h3
  have h : At U g.method c below := by rw [hg]; exact X.here
  have hlocals9 : W9 + (maxL + 11) + (headSpec ws rm).room.locals ≤ R.locals := hlocals
  have happ : (headSpec ws rm).appliesLoose y e.platform (U.calling g mk a) = true :=
    Spec.appliesLoose_calling (g := g) h hdg hn hkY hinitY
      (X.room_calling (g := g) (R' := (headSpec ws rm).room) hsize hmY hcY hframes (by rw [hlY]; omega) h4 h5) h1
  obtain ⟨mid, hmid⟩ := h.above
  have hfr : (U.setTop g).frames = (.java g :: mid) ++ below := by rw [State.frames_setTop' g h.top, hmid]; rfl
  obtain ⟨o, s₂, hsteps, -, hend, hq⟩ := Steps.callFree hM p X.admits X.cas X.clock (acts := []) hfr happ hPc trivial
  have hq' : vx_Q Qc XC mc ms free a (U.calling g mk a) o s₂ := hq
  rw [State.frames_setTop' g h.top] at hend
  obtain ⟨g₀, hg0⟩ := Option.isSome_iff_exists.mp h.top
  obtain ⟨r, hr⟩ := State.topJava?_eq_some.mp hg0
  have hr' : (({ U with heap := s₂.heap, slotsUsed := s₂.slotsUsed } : State).setVm s₂.vm).frames = .java g₀ :: r := hr
  rcases hq' with ⟨hqc, L, hfe, hL⟩ | ⟨q, rfl, E, ce, L, hx, hce, hcv, hcl, hW₂, hsm, hL⟩
  · obtain ⟨⟨v, rfl⟩, hW₂, e2, q2, q3, q4, q5, q6⟩ := id hfe
    have e3 : s₂ = ({ (U.calling g mk a).setFrames s₂.frames with heap := s₂.heap, slotsUsed := s₂.slotsUsed } : State).setVm s₂.vm := by
      have : s₂ = ({ s₂ with vm := (U.calling g mk a).vm } : State).setVm s₂.vm := rfl
      rw [e2] at this
      exact this
    obtain ⟨c₂, i₂, len₂, hc₂, hd₂, hf₂⟩ := hend
    have hW' : U.WarmedH s₂.vm := hW₂
    have hcc : c₂ = c := by
      have h1 : s₂.code? g.method = U.code? g.method := by
        rw [State.code?_eq, State.code?_eq, hW'.alike.method?]
      exact Option.some.inj (hc₂.symm.trans (h1.trans h.code))
    subst hcc
    have hlen : len₂ = len := by rw [hdg] at hd₂; cases hd₂; rfl
    subst hlen
    have hs₂ : s₂ = (({ U with heap := s₂.heap, slotsUsed := s₂.slotsUsed } : State).setVm s₂.vm).setTop { g with pc := g.pc + len₂, stack := v.toList ++ g.stack } := by
      refine e3.trans ?_
      rw [hf₂, State.calling_eq h.top, State.setFrames_setFrames, State.setTop_of_frames _ hr', hr]
      rfl
    have hsame : U.sameButNew ({ U with heap := s₂.heap, slotsUsed := s₂.slotsUsed } : State) L mc ms := by
      refine ⟨?_, q2, q3, q4, q5, q6⟩
      obtain ⟨t, ht, -⟩ := State.frames_cons hr
      show ({ U with heap := s₂.heap, slotsUsed := s₂.slotsUsed } : State) = { U.setFrames U.frames with heap := s₂.heap, slotsUsed := s₂.slotsUsed }
      rw [State.setFrames_self ht]
    subst hg
    refine Or.inl ⟨v, ⟨(({ U with heap := s₂.heap, slotsUsed := s₂.slotsUsed } : State).setVm s₂.vm), Ls ++ L, c0 + mc, s0 + ms⟩,
      ⟨X.admits, X.cas, X.clock, X.frames, X.room, X.hears, X.method, X.code, (X.here.setHeapUsed s₂.heap s₂.slotsUsed).setVm hW'.alike, X.tail, State.WarmedH.trans X.warmed hW', X.limits, X.bytes, X.same.trans (hsame.setVm s.vm)⟩,
      ⟨g, mk, s₂, L, rfl, rfl, hqc, rfl, hL, rfl, rfl⟩, ?_⟩
    show Steps p.tables e below _ ((({ U with heap := s₂.heap, slotsUsed := s₂.slotsUsed } : State).setVm s₂.vm).setTop { g with pc := g.pc + len₂, stack := v.toList ++ g.stack })
    rw [← hs₂]
    exact hsteps
  · obtain ⟨e2, q2, q3, q4, q5, q6⟩ := id hsm
    have e3 : s₂ = ({ (U.calling g mk a).setFrames s₂.frames with heap := s₂.heap, slotsUsed := s₂.slotsUsed } : State).setVm s₂.vm := by
      have : s₂ = ({ s₂ with vm := (U.calling g mk a).vm } : State).setVm s₂.vm := rfl
      rw [e2] at this
      exact this
    have hf₂ : s₂.frames = .throwing q :: .java g :: U.frames.tail := hend
    have hW' : U.WarmedH s₂.vm := hW₂
    have hs₂ : s₂ = ((({ U with heap := s₂.heap, slotsUsed := s₂.slotsUsed } : State).setVm s₂.vm).setTop g).pushFrame (.throwing q) := by
      refine e3.trans ?_
      rw [hf₂, State.calling_eq h.top, State.setFrames_setFrames, State.pushFrame, State.frames_setTop _ hr', State.setTop_of_frames _ hr', State.setFrames_setFrames, hr]
      rfl
    have hsame : U.sameButNew ({ U with heap := s₂.heap, slotsUsed := s₂.slotsUsed } : State) L mc ms := by
      refine ⟨?_, q2, q3, q4, q5, q6⟩
      obtain ⟨t, ht, -⟩ := State.frames_cons hr
      show ({ U with heap := s₂.heap, slotsUsed := s₂.slotsUsed } : State) = { U.setFrames U.frames with heap := s₂.heap, slotsUsed := s₂.slotsUsed }
      rw [State.setFrames_self ht]
    subst hg
    refine Or.inr ⟨q, ⟨(({ U with heap := s₂.heap, slotsUsed := s₂.slotsUsed } : State).setVm s₂.vm), Ls ++ L, c0 + mc, s0 + ms⟩,
      ⟨X.admits, X.cas, X.clock, X.frames, X.room, X.hears, X.method, X.code, (X.here.setHeapUsed s₂.heap s₂.slotsUsed).setVm hW'.alike, X.tail, State.WarmedH.trans X.warmed hW', X.limits, X.bytes, X.same.trans (hsame.setVm s.vm)⟩,
      ⟨g, mk, s₂, L, E, ce, rfl, rfl, hx, hce, hcv, hcl, rfl, hL, rfl, rfl⟩, ?_⟩
    show Steps p.tables e below _ (((({ U with heap := s₂.heap, slotsUsed := s₂.slotsUsed } : State).setVm s₂.vm).setTop g).pushFrame (.throwing q))
    rw [← hs₂]
    exact hsteps
end
variable {p : Program} {l : Launch} {e : Env} {R : Room} {s : State} {m : MethodId} {args : Array Value} {below : List Frame} {meth : Method} {c : Code} {T : State} {H : Heap} {locs : List Loc} {cells slots : Nat}
theorem vx_callVX (X : Stand p l e R s m args below meth c T locs cells slots) (hexec : p.tables.exec = Jvm.exec) {own C : String} {index : Nat} {y : MethodName} {bytes : ByteArray} {maxL : Nat} {ret : Option FieldType} {hh : List (Nat × Nat × Nat × Nat)}
    (hown : s.vm.findClass own = some m.cls) (hlink : (Cond.methodLink own index y).before args s = true) (hinst : (Cond.instanceMethod y).before args s = true) (hsel : (Cond.selects C y y).before args s = true)
    (hcode : (Cond.codeWith y bytes maxL ret hh).before args s = true) (hy : y.cls ≠ "java/lang/invoke/MethodHandle" ∧ y.cls ≠ "java/lang/invoke/VarHandle")
    {W9 : Nat} {Pre : Pt → Array Value → Prop} {Post : Pt → Array Value → Option Value → Pt → Prop} {PostX : Pt → Array Value → Addr → Pt → Prop} (hK : vx_Back l R p e below s args y 3 W9 Pre Post PostX)
    {b : Addr} {cellB : Cell} (hcell : T.heap[b]? = some cellB) (hobj : cellB.vm.isStatics = false) (hcls : s.vm.findClass C = some cellB.cls)
    {g : JFrame} (hg : g.method = m) (hsize : g.locals.size = c.maxLocals) {argsL rest : List Value} (hlen : ∀ sig, parseMethodDescriptor y.desc = some sig → argsL.length = sig.parameters.length)
    (hstack : g.stack = argsL.reverse ++ .ref b :: rest) (hW : 2 * g.monitorRoom + (rest.map fun v => v.category).sum ≤ W9) (hdg : decode c.code g.pc = .ok (.invokevirtual index, 3))
    (hpre : ∀ vm₁, s.WarmedH vm₁ → Pre ⟨T.setVm vm₁, locs, cells, slots⟩ (Value.ref b :: argsL).toArray) :
    (∃ (v : Option Value) (vm₁ : Vm) (B : Pt), s.WarmedH vm₁ ∧ Stand p l e R s m args below meth c B.U B.locs B.cells B.slots ∧ Post ⟨T.setVm vm₁, locs, cells, slots⟩ (Value.ref b :: argsL).toArray v B ∧
      ∀ target, Steps p.tables e below (B.U.setTop { g with pc := g.pc + 3, stack := v.toList ++ rest }) target → Steps p.tables e below (T.setTop g) target) ∨
    (∃ (q : Addr) (vm₁ : Vm) (B : Pt), s.WarmedH vm₁ ∧ Stand p l e R s m args below meth c B.U B.locs B.cells B.slots ∧ PostX ⟨T.setVm vm₁, locs, cells, slots⟩ (Value.ref b :: argsL).toArray q B ∧
      Steps p.tables e below (T.setTop g) ((B.U.setTop { g with stack := rest }).pushFrame (.throwing q))) := by
  obtain ⟨mk, methM, hnamed, hmethM, hstM, habM⟩ := Cond.instanceMethod_spec hinst
  obtain ⟨m8, methM', cM, hn8, hmethM', -, -, -, -, -, -, hsigM⟩ := Cond.codeWith_spec hcode
  cases Option.some.inj (hn8.symm.trans hnamed)
  cases hmethM.symm.trans hmethM'
  obtain ⟨c2, r2, m2, q1, q2, q3, q4, kP, hkP, hkPi⟩ := Cond.selects_spec hsel
  cases hcls.symm.trans q1
  cases (State.methodFound?_of_named hnamed hy).symm.trans q2
  cases hnamed.symm.trans q3
  have hselP : selectMethod e.platform s.vm cellB.cls mk = .method mk := by rw [Launch.admits_selectMethod X.admits]; exact q4
  obtain ⟨vm₁, X₁, hstep₁⟩ := X.invokevirtual hexec hown hlink hnamed hmethM hstM hkP hkPi hy (a := b) (cell := cellB) hcell
    (fun z h => by rw [h] at hobj; cases hobj) hselP hmethM habM hkP hkPi (g := g) hg (argsL := argsL) (rest := rest) (hlen _ hsigM) hstack hdg
  rcases hK m meth c ⟨T.setVm vm₁, locs, cells, slots⟩ { g with stack := rest } (.invokevirtual index) mk (Value.ref b :: argsL).toArray X₁ hg hsize hdg hW (X₁.named hnamed) (hpre vm₁ X₁.warmed) with ⟨v, B, X', hpost, hsteps⟩ | ⟨q, B, X', hpost, hsteps⟩
  · exact Or.inl ⟨v, vm₁, B, X₁.warmed, X', hpost, fun target h => hstep₁ _ fun acts => by rw [doInvoke_state]; exact hsteps.trans h⟩
  · exact Or.inr ⟨q, vm₁, B, X₁.warmed, X', hpost, hstep₁ _ fun acts => by rw [doInvoke_state]; exact hsteps⟩
theorem vx_callSX (X : Stand p l e R s m args below meth c T locs cells slots) (hexec : p.tables.exec = Jvm.exec) {own : String} {index : Nat} {y : MethodName} {bytes : ByteArray} {maxL : Nat} {ret : Option FieldType} {hh : List (Nat × Nat × Nat × Nat)}
    (hown : s.vm.findClass own = some m.cls) (hlink : (Cond.methodLink own index y).before args s = true) (hstat : (Cond.static y).before args s = true) (hinit : (Cond.initialized y.cls).before args s = true)
    (hcode : (Cond.codeWith y bytes maxL ret hh).before args s = true) (hy : y.cls ≠ "java/lang/invoke/MethodHandle" ∧ y.cls ≠ "java/lang/invoke/VarHandle")
    {W9 : Nat} {Pre : Pt → Array Value → Prop} {Post : Pt → Array Value → Option Value → Pt → Prop} {PostX : Pt → Array Value → Addr → Pt → Prop} (hK : vx_Back l R p e below s args y 3 W9 Pre Post PostX)
    {g : JFrame} (hg : g.method = m) (hsize : g.locals.size = c.maxLocals) {argsL rest : List Value} (hlen : ∀ sig, parseMethodDescriptor y.desc = some sig → argsL.length = sig.parameters.length)
    (hstack : g.stack = argsL.reverse ++ rest) (hW : 2 * g.monitorRoom + (rest.map fun v => v.category).sum ≤ W9) (hdg : decode c.code g.pc = .ok (.invokestatic index, 3))
    (hpre : ∀ vm₁, s.WarmedH vm₁ → Pre ⟨T.setVm vm₁, locs, cells, slots⟩ argsL.toArray) :
    (∃ (v : Option Value) (vm₁ : Vm) (B : Pt), s.WarmedH vm₁ ∧ Stand p l e R s m args below meth c B.U B.locs B.cells B.slots ∧ Post ⟨T.setVm vm₁, locs, cells, slots⟩ argsL.toArray v B ∧
      ∀ target, Steps p.tables e below (B.U.setTop { g with pc := g.pc + 3, stack := v.toList ++ rest }) target → Steps p.tables e below (T.setTop g) target) ∨
    (∃ (q : Addr) (vm₁ : Vm) (B : Pt), s.WarmedH vm₁ ∧ Stand p l e R s m args below meth c B.U B.locs B.cells B.slots ∧ PostX ⟨T.setVm vm₁, locs, cells, slots⟩ argsL.toArray q B ∧
      Steps p.tables e below (T.setTop g) ((B.U.setTop { g with stack := rest }).pushFrame (.throwing q))) := by
  obtain ⟨mk, methM, cM, hnamed, hmethM, -, -, -, -, -, -, hsigM⟩ := Cond.codeWith_spec hcode
  have hstatic : methM.isStatic = true := Cond.static_spec hnamed hmethM hstat
  obtain ⟨kP, hkP, -⟩ := className_of_methodNamed hnamed
  have hinitP : kP.init = .initialized := Cond.initialized_spec (findClass_of_methodNamed hnamed) hkP hinit
  obtain ⟨vm₁, X₁, hstep₁⟩ := X.invokestatic hexec hown hlink hnamed hmethM hstatic hkP hinitP hy (g := g) hg (argsL := argsL) (rest := rest) (hlen _ hsigM) hstack hdg
  rcases hK m meth c ⟨T.setVm vm₁, locs, cells, slots⟩ { g with stack := rest } (.invokestatic index) mk argsL.toArray X₁ hg hsize hdg hW (X₁.named hnamed) (hpre vm₁ X₁.warmed) with ⟨v, B, X', hpost, hsteps⟩ | ⟨q, B, X', hpost, hsteps⟩
  · exact Or.inl ⟨v, vm₁, B, X₁.warmed, X', hpost, fun target h => hstep₁ _ fun acts => by rw [doInvoke_state]; exact hsteps.trans h⟩
  · exact Or.inr ⟨q, vm₁, B, X₁.warmed, X', hpost, hstep₁ _ fun acts => by rw [doInvoke_state]; exact hsteps⟩
theorem vx_callVW (X : Stand p l e R s m args below meth c T locs cells slots) (hexec : p.tables.exec = Jvm.exec) {own C : String} {index : Nat} {y : MethodName} {bytes : ByteArray} {maxL : Nat} {ret : Option FieldType} {hh : List (Nat × Nat × Nat × Nat)}
    (hown : s.vm.findClass own = some m.cls) (hlink : (Cond.methodLink own index y).before args s = true) (hinst : (Cond.instanceMethod y).before args s = true) (hsel : (Cond.selects C y y).before args s = true)
    (hcode : (Cond.codeWith y bytes maxL ret hh).before args s = true) (hy : y.cls ≠ "java/lang/invoke/MethodHandle" ∧ y.cls ≠ "java/lang/invoke/VarHandle")
    {W9 : Nat} {Pre : Pt → Array Value → Prop} {Post : Pt → Array Value → Option Value → Pt → Prop} (hK : Back l R p e below s args y 3 W9 Pre Post)
    {b : Addr} {cellB : Cell} (hcell : T.heap[b]? = some cellB) (hobj : cellB.vm.isStatics = false) (hcls : s.vm.findClass C = some cellB.cls)
    {g : JFrame} (hg : g.method = m) (hsize : g.locals.size = c.maxLocals) {argsL rest : List Value} (hlen : ∀ sig, parseMethodDescriptor y.desc = some sig → argsL.length = sig.parameters.length)
    (hstack : g.stack = argsL.reverse ++ .ref b :: rest) (hW : 2 * g.monitorRoom + (rest.map fun v => v.category).sum ≤ W9) (hdg : decode c.code g.pc = .ok (.invokevirtual index, 3))
    (hpre : ∀ vm₁, s.WarmedH vm₁ → Pre ⟨T.setVm vm₁, locs, cells, slots⟩ (Value.ref b :: argsL).toArray) :
    ∃ (v : Option Value) (vm₁ : Vm) (B : Pt), s.WarmedH vm₁ ∧ Stand p l e R s m args below meth c B.U B.locs B.cells B.slots ∧ Post ⟨T.setVm vm₁, locs, cells, slots⟩ (Value.ref b :: argsL).toArray v B ∧
      ∀ target, Steps p.tables e below (B.U.setTop { g with pc := g.pc + 3, stack := v.toList ++ rest }) target → Steps p.tables e below (T.setTop g) target := by
  obtain ⟨mk, methM, hnamed, hmethM, hstM, habM⟩ := Cond.instanceMethod_spec hinst
  obtain ⟨m8, methM', cM, hn8, hmethM', -, -, -, -, -, -, hsigM⟩ := Cond.codeWith_spec hcode
  cases Option.some.inj (hn8.symm.trans hnamed)
  cases hmethM.symm.trans hmethM'
  obtain ⟨c2, r2, m2, q1, q2, q3, q4, kP, hkP, hkPi⟩ := Cond.selects_spec hsel
  cases hcls.symm.trans q1
  cases (State.methodFound?_of_named hnamed hy).symm.trans q2
  cases hnamed.symm.trans q3
  have hselP : selectMethod e.platform s.vm cellB.cls mk = .method mk := by rw [Launch.admits_selectMethod X.admits]; exact q4
  obtain ⟨vm₁, X₁, hstep₁⟩ := X.invokevirtual hexec hown hlink hnamed hmethM hstM hkP hkPi hy (a := b) (cell := cellB) hcell
    (fun z h => by rw [h] at hobj; cases hobj) hselP hmethM habM hkP hkPi (g := g) hg (argsL := argsL) (rest := rest) (hlen _ hsigM) hstack hdg
  obtain ⟨v, B, X', hpost, hsteps⟩ := hK m meth c ⟨T.setVm vm₁, locs, cells, slots⟩ { g with stack := rest } (.invokevirtual index) mk (Value.ref b :: argsL).toArray X₁ hg hsize hdg hW (X₁.named hnamed) (hpre vm₁ X₁.warmed)
  exact ⟨v, vm₁, B, X₁.warmed, X', hpost, fun target h => hstep₁ _ fun acts => by rw [doInvoke_state]; exact hsteps.trans h⟩
abbrev vx_CVW (R : Room) (s : State) (args : Array Value) (own C : String) (index : Nat) (y : MethodName) (bytes : ByteArray) (maxL : Nat) (ret : Option FieldType) (hh : List (Nat × Nat × Nat × Nat)) (ws : List Cond) (rm : Room) (mc ms n : Nat) : Prop :=
  (rm.cells = mc ∧ rm.slots = ms ∧ rm.frames + 1 ≤ R.frames ∧ 8 + (maxL + 11) + rm.locals ≤ R.locals ∧ (∀ w ∈ ws, ∀ (a' : Array Value) (U : State), s.WarmedH U.vm → w.before a' U = true) ∧ Cond.codeWith y bytes maxL ret hh ∈ ws) ∧
  (Cond.codeWith y bytes maxL ret hh).before args s = true ∧ (Cond.initialized y.cls).before args s = true ∧ (y.cls ≠ "java/lang/invoke/MethodHandle" ∧ y.cls ≠ "java/lang/invoke/VarHandle") ∧
  (∀ sig, parseMethodDescriptor y.desc = some sig → n = sig.parameters.length) ∧ (Cond.methodLink own index y).before args s = true ∧ (Cond.instanceMethod y).before args s = true ∧ (Cond.selects C y y).before args s = true
theorem vx_cwVW {own C : String} {index maxL mc ms : Nat} {y : MethodName} {bytes : ByteArray} {ret : Option FieldType} {hh : List (Nat × Nat × Nat × Nat)} {Ts ws ws' : List Cond} {rm : Room} (n : Nat) (ht : ∀ w ∈ Ts, w.before args s = true) (hT : GoodIn Ts (wsV own index C y ws)) (hw : ws = Cond.codeWith y bytes maxL ret hh :: ws') (hrc : rm.cells = mc) (hrs : rm.slots = ms)
    (hd : y.cls = C ∧ y.cls ≠ "java/lang/invoke/MethodHandle" ∧ y.cls ≠ "java/lang/invoke/VarHandle" ∧ (parseMethodDescriptor y.desc).map (fun d => d.parameters.length) = some n) (hR : rm.frames + 1 ≤ R.frames ∧ 8 + (maxL + 11) + rm.locals ≤ R.locals) :
    vx_CVW R s args own C index y bytes maxL ret hh ws rm mc ms n := by
  obtain ⟨hC, hd⟩ := hd
  subst hC
  have ok : ∀ w ∈ wsV own index y.cls y ws, w.before args s = true := fun w h => ht w (hT w h).1
  have hG : GoodIn Ts ws := fun w h => hT w (by unfold wsV; exact List.mem_append_right _ h)
  have hc : Cond.codeWith y bytes maxL ret hh ∈ ws := by rw [hw]; exact List.mem_cons_self
  refine ⟨⟨hrc, hrs, hR.1, hR.2, pay_in ht hG, hc⟩, ht _ (hG _ hc).1, ok _ (by simp [wsV]), ⟨hd.1, hd.2.1⟩, fun sig h => ?_, ok _ (by simp [wsV]), ok _ (by simp [wsV]), ok _ (by simp [wsV])⟩
  have h2 := hd.2.2
  rw [h] at h2
  exact (Option.some.inj h2).symm
theorem vx_runVW {y : MethodName} {bytes cc : ByteArray} {maxL nL mc ms n index : Nat} {ret : Option FieldType} {hh : List (Nat × Nat × Nat × Nat)} {ws : List Cond} {rm : Room} {Pc : Array Value → State → Prop} {Qc : Array Value → State → Outcome → State → Prop} {free : Addr → Prop} {Ts : List Cond} {own C : String} {b : Addr} {As rest : List Value} {g : JFrame}
    (S : CallFix p m c cc nL s args Ts own) (hM : Met l y ws rm Pc Qc mc ms free) (cw : vx_CVW R s args own C index y bytes maxL ret hh ws rm mc ms n) (hp : PreV s H C b Pc As)
    (hg : g.method = m) (hn : As.length = n) (hsize : g.locals.size = nL) (hstack : g.stack = As.reverse ++ .ref b :: rest) (hW : 2 * g.monitorRoom + (rest.map fun v => v.category).sum ≤ 8) (hdg : decode cc g.pc = .ok (.invokevirtual index, 3)) (hf : cells + mc ≤ R.cells ∧ slots + ms ≤ R.slots) :
    va_Run p l e R s m args below meth c H locs cells slots mc ms g rest (Qc (Value.ref b :: As).toArray) free := by
  obtain ⟨⟨hrc, hrs, hfr, hlo, hws, hcw⟩, hcode, hini, hy, hlen, hl, hin, hse⟩ := cw
  have hK : Back l R p e below s args y 3 8 (PreOf R mc ms Pc) (PostOf Qc mc ms free) := va_backW (hh := hh) (bytes := bytes) (maxL := maxL) (ret := ret) hM hp.1 hrc hrs hfr hlo hws hcw (fun a' U hW => word_at hW (Or.inl (by first | rfl | simp [Cond.onTables, Cond.keeps, Cond.steady])) hini)
  obtain ⟨hx, hb, hml, ho, -⟩ := S
  obtain ⟨-, ⟨cellB, hcB, hoB, hclB⟩, hPc⟩ := hp
  intro T hT X
  obtain ⟨v, vm₁, ⟨U', l2, c2, s2⟩, hW₁, X', ⟨g', mk, t, L, e1, e2, hq, h1, hL, h2, h3⟩, st⟩ := vx_callVW X hx (C := C) (hh := hh) (bytes := bytes) (maxL := maxL) (ret := ret) ho hl hin hse hcode hy hK (by rw [hT]; exact hcB) hoB hclB hg (hsize.trans hml.symm) (argsL := As) (rest := rest) (fun sig h => hn.trans (hlen sig h)) hstack hW (by rw [hb]; exact hdg)
    (fun vm₁ hW₁ => ⟨hf.1, hf.2, hPc (T.setVm vm₁) hT hW₁⟩)
  dsimp only [Pt.U, Pt.locs, Pt.cells, Pt.slots] at X' e1 e2 h1 h2 h3 st
  subst h1; subst h2; subst h3
  exact ⟨v, (T.setVm vm₁).calling g' mk (Value.ref b :: As).toArray, t, U', L, hT, X', hL, e1, e2, hq, st⟩
section
variable {y : MethodName} {bytes cc : ByteArray} {maxL nL mc ms n index : Nat} {ret : Option FieldType} {ws : List Cond} {rm : Room} {Pc : Array Value → State → Prop} {Qc : Array Value → State → Outcome → State → Prop} {XC : String → State → State → Prop} {free : Addr → Prop} {Ts : List Cond} {own C : String} {b : Addr} {As rest : List Value} {g : JFrame}
theorem vx_runVX {hh : List (Nat × Nat × Nat × Nat)} (S : CallFix p m c cc nL s args Ts own) (hM : vx_Met l y ws rm Pc Qc XC mc ms free) (cw : vx_CVW R s args own C index y bytes maxL ret hh ws rm mc ms n) (hp : PreV s H C b Pc As)
    (hg : g.method = m) (hn : As.length = n) (hsize : g.locals.size = nL) (hstack : g.stack = As.reverse ++ .ref b :: rest) (hW : 2 * g.monitorRoom + (rest.map fun v => v.category).sum ≤ 8) (hdg : decode cc g.pc = .ok (.invokevirtual index, 3)) (hf : cells + mc ≤ R.cells ∧ slots + ms ≤ R.slots) :
    vx_Run p l e R s m args below meth c H locs cells slots mc ms g rest (Qc (Value.ref b :: As).toArray) XC free := by
  obtain ⟨⟨hrc, hrs, hfr, hlo, hws, hcw⟩, hcode, hini, hy, hlen, hl, hin, hse⟩ := cw
  have hK : vx_Back l R p e below s args y 3 8 (PreOf R mc ms Pc) (PostOf Qc mc ms free) (vx_Post XC mc ms free) := vx_backW (hh := hh) (bytes := bytes) (maxL := maxL) (ret := ret) hM hp.1 hrc hrs hfr hlo hws hcw (fun a' U hW => word_at hW (Or.inl (by first | rfl | simp [Cond.onTables, Cond.keeps, Cond.steady])) hini)
  obtain ⟨hx, hb, hml, ho, -⟩ := S
  obtain ⟨-, ⟨cellB, hcB, hoB, hclB⟩, hPc⟩ := hp
  intro T hT X
  rcases vx_callVX X hx (C := C) (hh := hh) (bytes := bytes) (maxL := maxL) (ret := ret) ho hl hin hse hcode hy hK (by rw [hT]; exact hcB) hoB hclB hg (hsize.trans hml.symm) (argsL := As) (rest := rest) (fun sig h => hn.trans (hlen sig h)) hstack hW (by rw [hb]; exact hdg)
    (fun vm₁ hW₁ => ⟨hf.1, hf.2, hPc (T.setVm vm₁) hT hW₁⟩) with ⟨v, vm₁, ⟨U', l2, c2, s2⟩, hW₁, X', ⟨g', mk, t, L, e1, e2, hq, h1, hL, h2, h3⟩, st⟩ | ⟨q, vm₁, ⟨U', l2, c2, s2⟩, hW₁, X', ⟨g', mk, t, L, E, ce, e1, e2, hq, hce, hcv, hcl, h1, hL, h2, h3⟩, st⟩
  · dsimp only [Pt.U, Pt.locs, Pt.cells, Pt.slots] at X' e1 e2 h1 h2 h3 st
    subst h1; subst h2; subst h3
    exact Or.inl ⟨v, (T.setVm vm₁).calling g' mk (Value.ref b :: As).toArray, t, U', L, hT, X', hL, e1, e2, hq, st⟩
  · dsimp only [Pt.U, Pt.locs, Pt.cells, Pt.slots] at X' e1 e2 h1 h2 h3 st hcl
    subst h1; subst h2; subst h3
    exact Or.inr ⟨q, (T.setVm vm₁).calling g' mk (Value.ref b :: As).toArray, t, U', L, E, ce, hT, X', hL, e1, e2, hq, hce, hcv, vx_cls hW₁ hcl, st⟩
theorem vx_runSX {hh : List (Nat × Nat × Nat × Nat)} (S : CallFix p m c cc nL s args Ts own) (hM : vx_Met l y ws rm Pc Qc XC mc ms free) (cw : vx_CSW R s args own index y bytes maxL ret hh ws rm mc ms n) (hp : PreS s H Pc As)
    (hg : g.method = m) (hn : As.length = n) (hsize : g.locals.size = nL) (hstack : g.stack = As.reverse ++ rest) (hW : 2 * g.monitorRoom + (rest.map fun v => v.category).sum ≤ 8) (hdg : decode cc g.pc = .ok (.invokestatic index, 3)) (hf : cells + mc ≤ R.cells ∧ slots + ms ≤ R.slots) :
    vx_Run p l e R s m args below meth c H locs cells slots mc ms g rest (Qc As.toArray) XC free := by
  obtain ⟨⟨hrc, hrs, hfr, hlo, hws, hcw⟩, hcode, hini, hy, hlen, hl, hstt⟩ := cw
  have hK : vx_Back l R p e below s args y 3 8 (PreOf R mc ms Pc) (PostOf Qc mc ms free) (vx_Post XC mc ms free) := vx_backW (hh := hh) (bytes := bytes) (maxL := maxL) (ret := ret) hM hp.1 hrc hrs hfr hlo hws hcw (fun a' U hW => word_at hW (Or.inl (by first | rfl | simp [Cond.onTables, Cond.keeps, Cond.steady])) hini)
  obtain ⟨hx, hb, hml, ho, -⟩ := S
  intro T hT X
  rcases vx_callSX X hx (hh := hh) (bytes := bytes) (maxL := maxL) (ret := ret) ho hl hstt hini hcode hy hK hg (hsize.trans hml.symm) (argsL := As) (rest := rest) (fun sig h => hn.trans (hlen sig h)) hstack hW (by rw [hb]; exact hdg)
    (fun vm₁ hW₁ => ⟨hf.1, hf.2, hp.2 (T.setVm vm₁) hT hW₁⟩) with ⟨v, vm₁, ⟨U', l2, c2, s2⟩, hW₁, X', ⟨g', mk, t, L, e1, e2, hq, h1, hL, h2, h3⟩, st⟩ | ⟨q, vm₁, ⟨U', l2, c2, s2⟩, hW₁, X', ⟨g', mk, t, L, E, ce, e1, e2, hq, hce, hcv, hcl, h1, hL, h2, h3⟩, st⟩
  · dsimp only [Pt.U, Pt.locs, Pt.cells, Pt.slots] at X' e1 e2 h1 h2 h3 st
    subst h1; subst h2; subst h3
    exact Or.inl ⟨v, (T.setVm vm₁).calling g' mk As.toArray, t, U', L, hT, X', hL, e1, e2, hq, st⟩
  · dsimp only [Pt.U, Pt.locs, Pt.cells, Pt.slots] at X' e1 e2 h1 h2 h3 st hcl
    subst h1; subst h2; subst h3
    exact Or.inr ⟨q, (T.setVm vm₁).calling g' mk As.toArray, t, U', L, E, ce, hT, X', hL, e1, e2, hq, hce, hcv, vx_cls hW₁ hcl, st⟩
end
end VXH
theorem vx_ofWH {l : Launch} {y : MethodName} {ws ws' : List Cond} {rm : Room} {Pc : Array Value → State → Prop} {Qc : Array Value → State → Outcome → State → Prop} {XC : String → State → State → Prop} {mc ms : Nat} {free : Addr → Prop} {cc : ByteArray} {maxL : Nat} {ret : Option FieldType} {hh : List (Nat × Nat × Nat × Nat)}
    (hy : plainName y.cls = true) (hw : ws = Cond.codeWith y cc maxL ret hh :: ws')
    (body : ∀ p e s m args below meth c s₁, BodyLoose p l y (headSpec ws rm) cc maxL ret e s m args below meth c s₁ → c.maxLocals = maxL → Pc args s →
      W p l e (headSpec ws rm).room s m args below meth c s.heap [] 0 0 (vx_MQ below Qc XC args s mc ms free) (entryFrame m args maxL)) : vx_Met l y ws rm Pc Qc XC mc ms free := by
  refine MetFree.of_bodyS (code := cc) (maxLocals := maxL) (ret := ret) hy ?_ ?_
  · intro args s m h hn
    obtain ⟨m9, meth, c, hn9, h1, h2, h3, h4, -, h5, h6, -⟩ := Cond.codeWith_spec (atoms_spec (ws := ws) h _ (by rw [hw]; exact List.mem_cons_self))
    cases hn.symm.trans hn9
    exact ⟨meth, c, h1, h2, h3, h4, h5, h6⟩
  · intro p e s m args below meth c s₁ B hml hP _
    have hh0 : s₁.heap = s.heap := by rw [B.state]; rfl
    obtain ⟨t, a1, o, b1, b2, b3⟩ := body p e s m args below meth c s₁ B hml hP s₁ hh0 (Stand.of_body B)
    exact ⟨t, o, a1, b1, b2, b3⟩
/-! ===== END ===== -/

def RX0 : String := "Puppetloom$Key"
def TX0 : u_T := fun k => match k with
  | 0 => ("Puppetloom$Key", "frame", "I", true)
  | 1 => ("Puppetloom$Key", "x", "I", true)
  | 2 => ("Puppetloom$Key", "y", "I", true)
  | _ => ("Puppetloom$Key", "ease", "I", true)
def tyX0 : Nat → FieldType := fun k => match k with
  | 0 => .int
  | 1 => .int
  | 2 => .int
  | _ => .int
abbrev wsX00 : List Cond := u_ws RX0 TX0 4
theorem nmX0 : ∀ a, a < 4 → ∀ b, b < 4 → a ≠ b → (TX0 a).2.1 ≠ (TX0 b).2.1 := by decide +kernel
theorem tyX0_ok : ∀ k, k < 4 → parseFieldDescriptor (TX0 k).2.2.1 = some (tyX0 k) := by decide +kernel
abbrev cX0_init : ByteArray := prog_2_method_1_code
def yX0_init : MethodName := ⟨RX0, "<init>", "(IIII)V"⟩
def RX1 : String := "Puppetloom$Place"
def TX1 : u_T := fun k => match k with
  | 0 => ("Puppetloom$Place", "x", "I", false)
  | _ => ("Puppetloom$Place", "y", "I", false)
def tyX1 : Nat → FieldType := fun k => match k with
  | 0 => .int
  | _ => .int
abbrev wsX10 : List Cond := u_ws RX1 TX1 2
theorem nmX1 : ∀ a, a < 2 → ∀ b, b < 2 → a ≠ b → (TX1 a).2.1 ≠ (TX1 b).2.1 := by decide +kernel
theorem tyX1_ok : ∀ k, k < 2 → parseFieldDescriptor (TX1 k).2.2.1 = some (tyX1 k) := by decide +kernel
abbrev cX1_init : ByteArray := prog_3_method_1_code
def yX1_init : MethodName := ⟨RX1, "<init>", "()V"⟩
abbrev cX1_together : ByteArray := prog_3_method_2_code
def yX1_together : MethodName := ⟨RX1, "together", "()I"⟩
abbrev cX1_putAt : ByteArray := prog_3_method_3_code
def yX1_putAt : MethodName := ⟨RX1, "putAt", "(LPuppetloom$Key;)V"⟩
abbrev cX1_putBetween : ByteArray := prog_3_method_4_code
def yX1_putBetween : MethodName := ⟨RX1, "putBetween", "(LPuppetloom$Key;LPuppetloom$Key;I)V"⟩
def RX2 : String := "Puppetloom$Puppet"
def TX2 : u_T := fun k => match k with
  | 0 => ("Puppetloom$Puppet", "bar", "I", true)
  | 1 => ("Puppetloom$Puppet", "length", "I", false)
  | 2 => ("Puppetloom$Puppet", "keys", "Ljava/util/ArrayList;", true)
  | 3 => ("Puppetloom$Puppet", "cue", "I", false)
  | 4 => ("Puppetloom$Puppet", "wornJoints", "I", false)
  | 5 => ("Puppetloom$Puppet", "mendings", "Ljava/util/ArrayList;", true)
  | 6 => ("Puppetloom$Puppet", "place", "LPuppetloom$Place;", true)
  | _ => ("Puppetloom$Puppet", "isMoved", "Z", false)
def tyX2 : Nat → FieldType := fun k => match k with
  | 0 => .int
  | 1 => .int
  | 2 => .object "java/util/ArrayList"
  | 3 => .int
  | 4 => .int
  | 5 => .object "java/util/ArrayList"
  | 6 => .object "Puppetloom$Place"
  | _ => .boolean
abbrev wsX20 : List Cond := u_ws RX2 TX2 8
theorem nmX2 : ∀ a, a < 8 → ∀ b, b < 8 → a ≠ b → (TX2 a).2.1 ≠ (TX2 b).2.1 := by decide +kernel
theorem tyX2_ok : ∀ k, k < 8 → parseFieldDescriptor (TX2 k).2.2.1 = some (tyX2 k) := by decide +kernel
abbrev cX2_init : ByteArray := prog_4_method_1_code
def yX2_init : MethodName := ⟨RX2, "<init>", "(II)V"⟩
abbrev cX2_keysAhead : ByteArray := prog_4_method_2_code
def yX2_keysAhead : MethodName := ⟨RX2, "keysAhead", "(I)I"⟩
abbrev cX2_hasKeyAt : ByteArray := prog_4_method_3_code
def yX2_hasKeyAt : MethodName := ⟨RX2, "hasKeyAt", "(I)Z"⟩
abbrev cX2_putKey : ByteArray := prog_4_method_4_code
def yX2_putKey : MethodName := ⟨RX2, "putKey", "(LPuppetloom$Key;)V"⟩
abbrev cX2_removeKeyAt : ByteArray := prog_4_method_5_code
def yX2_removeKeyAt : MethodName := ⟨RX2, "removeKeyAt", "(I)V"⟩
abbrev cX2_standAt : ByteArray := prog_4_method_6_code
def yX2_standAt : MethodName := ⟨RX2, "standAt", "(I)V"⟩
abbrev cX2_walkTo : ByteArray := prog_4_method_7_code
def yX2_walkTo : MethodName := ⟨RX2, "walkTo", "(I)V"⟩
abbrev cX2_standBehind : ByteArray := prog_4_method_8_code
def yX2_standBehind : MethodName := ⟨RX2, "standBehind", "(II)V"⟩
abbrev cX2_squareFromBar : ByteArray := prog_4_method_9_code
def yX2_squareFromBar : MethodName := ⟨RX2, "squareFromBar", "()I"⟩
abbrev cX2_pull : ByteArray := prog_4_method_10_code
def yX2_pull : MethodName := ⟨RX2, "pull", "()V"⟩
abbrev cX2_keepOff : ByteArray := prog_4_method_11_code
def yX2_keepOff : MethodName := ⟨RX2, "keepOff", "(LPuppetloom$Place;)V"⟩
abbrev cX2_leastLength : ByteArray := prog_4_method_12_code
def yX2_leastLength : MethodName := ⟨RX2, "leastLength", "()I"⟩
abbrev cX2_wear : ByteArray := prog_4_method_13_code
def yX2_wear : MethodName := ⟨RX2, "wear", "()V"⟩
abbrev cX2_isMendedDuring : ByteArray := prog_4_method_14_code
def yX2_isMendedDuring : MethodName := ⟨RX2, "isMendedDuring", "(LPuppetloom$Span;)Z"⟩
def RX3 : String := "Puppetloom$Show"
def TX3 : u_T := fun k => match k with
  | 0 => ("Puppetloom$Show", "span", "LPuppetloom$Span;", true)
  | 1 => ("Puppetloom$Show", "hasPuppets", "[Z", true)
  | 2 => ("Puppetloom$Show", "puppetCount", "I", false)
  | 3 => ("Puppetloom$Show", "seatsLeft", "I", false)
  | 4 => ("Puppetloom$Show", "takings", "I", false)
  | _ => ("Puppetloom$Show", "isPerformed", "Z", false)
def tyX3 : Nat → FieldType := fun k => match k with
  | 0 => .object "Puppetloom$Span"
  | 1 => .array .boolean
  | 2 => .int
  | 3 => .int
  | 4 => .int
  | _ => .boolean
abbrev wsX30 : List Cond := u_ws RX3 TX3 6
theorem nmX3 : ∀ a, a < 6 → ∀ b, b < 6 → a ≠ b → (TX3 a).2.1 ≠ (TX3 b).2.1 := by decide +kernel
theorem tyX3_ok : ∀ k, k < 6 → parseFieldDescriptor (TX3 k).2.2.1 = some (tyX3 k) := by decide +kernel
abbrev cX3_init : ByteArray := prog_5_method_1_code
def yX3_init : MethodName := ⟨RX3, "<init>", "(LPuppetloom$Span;)V"⟩
abbrev cX3_hasPuppet : ByteArray := prog_5_method_2_code
def yX3_hasPuppet : MethodName := ⟨RX3, "hasPuppet", "(I)Z"⟩
abbrev cX3_take : ByteArray := prog_5_method_3_code
def yX3_take : MethodName := ⟨RX3, "take", "(I)V"⟩
abbrev cX3_release : ByteArray := prog_5_method_4_code
def yX3_release : MethodName := ⟨RX3, "release", "(I)V"⟩
def RX4 : String := "Puppetloom$Span"
def TX4 : u_T := fun k => match k with
  | 0 => ("Puppetloom$Span", "minute", "I", true)
  | _ => ("Puppetloom$Span", "minutes", "I", true)
def tyX4 : Nat → FieldType := fun k => match k with
  | 0 => .int
  | _ => .int
abbrev wsX40 : List Cond := u_ws RX4 TX4 2
theorem nmX4 : ∀ a, a < 2 → ∀ b, b < 2 → a ≠ b → (TX4 a).2.1 ≠ (TX4 b).2.1 := by decide +kernel
theorem tyX4_ok : ∀ k, k < 2 → parseFieldDescriptor (TX4 k).2.2.1 = some (tyX4 k) := by decide +kernel
abbrev cX4_init : ByteArray := prog_6_method_1_code
def yX4_init : MethodName := ⟨RX4, "<init>", "(II)V"⟩
abbrev cX4_meets : ByteArray := prog_6_method_2_code
def yX4_meets : MethodName := ⟨RX4, "meets", "(LPuppetloom$Span;)Z"⟩
def RX5 : String := "Puppetloom"
def TX5 : u_T := fun k => match k with
  | 0 => ("Puppetloom", "puppets", "Ljava/util/ArrayList;", true)
  | 1 => ("Puppetloom", "shows", "Ljava/util/ArrayList;", true)
  | 2 => ("Puppetloom", "heardAt", "[I", true)
  | _ => ("Puppetloom", "paid", "I", false)
def tyX5 : Nat → FieldType := fun k => match k with
  | 0 => .object "java/util/ArrayList"
  | 1 => .object "java/util/ArrayList"
  | 2 => .array .int
  | _ => .int
abbrev wsX50 : List Cond := u_ws RX5 TX5 4
theorem nmX5 : ∀ a, a < 4 → ∀ b, b < 4 → a ≠ b → (TX5 a).2.1 ≠ (TX5 b).2.1 := by decide +kernel
theorem tyX5_ok : ∀ k, k < 4 → parseFieldDescriptor (TX5 k).2.2.1 = some (tyX5 k) := by decide +kernel
abbrev cX5_init : ByteArray := prog_1_method_1_code
def yX5_init : MethodName := ⟨RX5, "<init>", "()V"⟩
abbrev cX5_puppet : ByteArray := prog_1_method_2_code
def yX5_puppet : MethodName := ⟨RX5, "puppet", "(II)I"⟩
abbrev cX5_setLength : ByteArray := prog_1_method_3_code
def yX5_setLength : MethodName := ⟨RX5, "setLength", "(II)I"⟩
abbrev cX5_key : ByteArray := prog_1_method_4_code
def yX5_key : MethodName := ⟨RX5, "key", "(IIIII)I"⟩
abbrev cX5_cutKey : ByteArray := prog_1_method_5_code
def yX5_cutKey : MethodName := ⟨RX5, "cutKey", "(II)I"⟩
abbrev cX5_hear : ByteArray := prog_1_method_6_code
def yX5_hear : MethodName := ⟨RX5, "hear", "(II)I"⟩
abbrev cX5_cue : ByteArray := prog_1_method_7_code
def yX5_cue : MethodName := ⟨RX5, "cue", "(II)I"⟩
abbrev cX5_show : ByteArray := prog_1_method_8_code
def yX5_show : MethodName := ⟨RX5, "show", "(II)I"⟩
abbrev cX5_cast : ByteArray := prog_1_method_9_code
def yX5_cast : MethodName := ⟨RX5, "cast", "(II)I"⟩
abbrev cX5_leave : ByteArray := prog_1_method_10_code
def yX5_leave : MethodName := ⟨RX5, "leave", "(II)I"⟩
abbrev cX5_sell : ByteArray := prog_1_method_11_code
def yX5_sell : MethodName := ⟨RX5, "sell", "(III)I"⟩
abbrev cX5_perform : ByteArray := prog_1_method_12_code
def yX5_perform : MethodName := ⟨RX5, "perform", "(I)I"⟩
abbrev cX5_mend : ByteArray := prog_1_method_13_code
def yX5_mend : MethodName := ⟨RX5, "mend", "(II)I"⟩
abbrev cX5_track : ByteArray := prog_1_method_14_code
def yX5_track : MethodName := ⟨RX5, "track", "(II)I"⟩
abbrev cX5_trackByFrames : ByteArray := prog_1_method_15_code
def yX5_trackByFrames : MethodName := ⟨RX5, "trackByFrames", "(II)I"⟩
abbrev cX5_x : ByteArray := prog_1_method_16_code
def yX5_x : MethodName := ⟨RX5, "x", "(III)I"⟩
abbrev cX5_y : ByteArray := prog_1_method_17_code
def yX5_y : MethodName := ⟨RX5, "y", "(III)I"⟩
abbrev cX5_bent : ByteArray := prog_1_method_18_code
def yX5_bent : MethodName := ⟨RX5, "bent", "(IIII)I"⟩
abbrev cX5_least : ByteArray := prog_1_method_19_code
def yX5_least : MethodName := ⟨RX5, "least", "(I)I"⟩
abbrev cX5_isBusy : ByteArray := prog_1_method_20_code
def yX5_isBusy : MethodName := ⟨RX5, "isBusy", "(II)Z"⟩
abbrev cX5_worn : ByteArray := prog_1_method_21_code
def yX5_worn : MethodName := ⟨RX5, "worn", "(I)I"⟩
abbrev cX5_income : ByteArray := prog_1_method_22_code
def yX5_income : MethodName := ⟨RX5, "income", "()I"⟩
abbrev cX5_needWithin : ByteArray := prog_1_method_23_code
def yX5_needWithin : MethodName := ⟨RX5, "needWithin", "(III)V"⟩
abbrev cX5_puppetNumbered : ByteArray := prog_1_method_24_code
def yX5_puppetNumbered : MethodName := ⟨RX5, "puppetNumbered", "(I)LPuppetloom$Puppet;"⟩
abbrev cX5_showNumbered : ByteArray := prog_1_method_25_code
def yX5_showNumbered : MethodName := ⟨RX5, "showNumbered", "(I)LPuppetloom$Show;"⟩
abbrev cX5_showWith : ByteArray := prog_1_method_26_code
def yX5_showWith : MethodName := ⟨RX5, "showWith", "(II)LPuppetloom$Show;"⟩
abbrev cX5_isTaken : ByteArray := prog_1_method_27_code
def yX5_isTaken : MethodName := ⟨RX5, "isTaken", "(LPuppetloom$Puppet;ILPuppetloom$Span;)Z"⟩
abbrev cX5_ownFrame : ByteArray := prog_1_method_28_code
def yX5_ownFrame : MethodName := ⟨RX5, "ownFrame", "(LPuppetloom$Puppet;I)I"⟩
abbrev cX5_settled : ByteArray := prog_1_method_29_code
def yX5_settled : MethodName := ⟨RX5, "settled", "(LPuppetloom$Show;II)LPuppetloom$Puppet;"⟩
abbrev cX5_keepOffLower : ByteArray := prog_1_method_30_code
def yX5_keepOffLower : MethodName := ⟨RX5, "keepOffLower", "(LPuppetloom$Show;LPuppetloom$Puppet;I)V"⟩
abbrev cX5_rootBelow : ByteArray := prog_1_method_31_code
def yX5_rootBelow : MethodName := ⟨RX5, "rootBelow", "(I)I"⟩
abbrev cX5_easing : ByteArray := prog_1_method_32_code
def yX5_easing : MethodName := ⟨RX5, "easing", "(II)I"⟩
def RX6 : String := "PuppetloomModel"
def TX6 : u_T := fun k => match k with
  | 0 => ("PuppetloomModel", "thrown", "I", false)
  | 1 => ("PuppetloomModel", "bar", "[I", true)
  | 2 => ("PuppetloomModel", "length", "[I", true)
  | 3 => ("PuppetloomModel", "keys", "[I", true)
  | 4 => ("PuppetloomModel", "cue", "[I", true)
  | 5 => ("PuppetloomModel", "worn", "[I", true)
  | 6 => ("PuppetloomModel", "puppets", "I", false)
  | 7 => ("PuppetloomModel", "frame", "[I", true)
  | 8 => ("PuppetloomModel", "keyX", "[I", true)
  | 9 => ("PuppetloomModel", "keyY", "[I", true)
  | 10 => ("PuppetloomModel", "ease", "[I", true)
  | 11 => ("PuppetloomModel", "mendFrom", "[I", true)
  | 12 => ("PuppetloomModel", "mendFor", "[I", true)
  | 13 => ("PuppetloomModel", "mends", "[I", true)
  | 14 => ("PuppetloomModel", "heard", "[I", true)
  | 15 => ("PuppetloomModel", "minute", "[I", true)
  | 16 => ("PuppetloomModel", "minutes", "[I", true)
  | 17 => ("PuppetloomModel", "isPerformed", "[Z", true)
  | 18 => ("PuppetloomModel", "sold", "[I", true)
  | 19 => ("PuppetloomModel", "paid", "[I", true)
  | 20 => ("PuppetloomModel", "isCast", "[Z", true)
  | 21 => ("PuppetloomModel", "shows", "I", false)
  | 22 => ("PuppetloomModel", "income", "I", false)
  | 23 => ("PuppetloomModel", "table", "[I", true)
  | 24 => ("PuppetloomModel", "foundX", "I", false)
  | 25 => ("PuppetloomModel", "foundY", "I", false)
  | 26 => ("PuppetloomModel", "atX", "[I", true)
  | 27 => ("PuppetloomModel", "atY", "[I", true)
  | _ => ("PuppetloomModel", "isBent", "[Z", true)
def tyX6 : Nat → FieldType := fun k => match k with
  | 0 => .int
  | 1 => .array .int
  | 2 => .array .int
  | 3 => .array .int
  | 4 => .array .int
  | 5 => .array .int
  | 6 => .int
  | 7 => .array .int
  | 8 => .array .int
  | 9 => .array .int
  | 10 => .array .int
  | 11 => .array .int
  | 12 => .array .int
  | 13 => .array .int
  | 14 => .array .int
  | 15 => .array .int
  | 16 => .array .int
  | 17 => .array .boolean
  | 18 => .array .int
  | 19 => .array .int
  | 20 => .array .boolean
  | 21 => .int
  | 22 => .int
  | 23 => .array .int
  | 24 => .int
  | 25 => .int
  | 26 => .array .int
  | 27 => .array .int
  | _ => .array .boolean
abbrev wsX60 : List Cond := u_ws RX6 TX6 29
theorem nmX6 : ∀ a, a < 29 → ∀ b, b < 29 → a ≠ b → (TX6 a).2.1 ≠ (TX6 b).2.1 := by decide +kernel
theorem tyX6_ok : ∀ k, k < 29 → parseFieldDescriptor (TX6 k).2.2.1 = some (tyX6 k) := by decide +kernel
abbrev cX6_init : ByteArray := prog_8_method_1_code
def yX6_init : MethodName := ⟨RX6, "<init>", "()V"⟩
abbrev cX6_thrown : ByteArray := prog_8_method_2_code
def yX6_thrown : MethodName := ⟨RX6, "thrown", "()I"⟩
abbrev cX6_isFine : ByteArray := prog_8_method_3_code
def yX6_isFine : MethodName := ⟨RX6, "isFine", "(I)Z"⟩
abbrev cX6_isIn : ByteArray := prog_8_method_4_code
def yX6_isIn : MethodName := ⟨RX6, "isIn", "(III)Z"⟩
abbrev cX6_isPuppet : ByteArray := prog_8_method_5_code
def yX6_isPuppet : MethodName := ⟨RX6, "isPuppet", "(I)Z"⟩
abbrev cX6_isShow : ByteArray := prog_8_method_6_code
def yX6_isShow : MethodName := ⟨RX6, "isShow", "(I)Z"⟩
abbrev cX6_isFrame : ByteArray := prog_8_method_7_code
def yX6_isFrame : MethodName := ⟨RX6, "isFrame", "(I)Z"⟩
abbrev cX6_puppet : ByteArray := prog_8_method_8_code
def yX6_puppet : MethodName := ⟨RX6, "puppet", "(II)I"⟩
abbrev cX6_setLength : ByteArray := prog_8_method_9_code
def yX6_setLength : MethodName := ⟨RX6, "setLength", "(II)I"⟩
abbrev cX6_placeOf : ByteArray := prog_8_method_10_code
def yX6_placeOf : MethodName := ⟨RX6, "placeOf", "(II)I"⟩
abbrev cX6_hasKey : ByteArray := prog_8_method_11_code
def yX6_hasKey : MethodName := ⟨RX6, "hasKey", "(II)Z"⟩
abbrev cX6_copies : ByteArray := prog_8_method_12_code
def yX6_copies : MethodName := ⟨RX6, "copies", "(II)V"⟩
abbrev cX6_key : ByteArray := prog_8_method_13_code
def yX6_key : MethodName := ⟨RX6, "key", "(IIIII)I"⟩
abbrev cX6_cutKey : ByteArray := prog_8_method_14_code
def yX6_cutKey : MethodName := ⟨RX6, "cutKey", "(II)I"⟩
abbrev cX6_isSound : ByteArray := prog_8_method_15_code
def yX6_isSound : MethodName := ⟨RX6, "isSound", "(I)Z"⟩
abbrev cX6_hear : ByteArray := prog_8_method_16_code
def yX6_hear : MethodName := ⟨RX6, "hear", "(II)I"⟩
abbrev cX6_cue : ByteArray := prog_8_method_17_code
def yX6_cue : MethodName := ⟨RX6, "cue", "(II)I"⟩
abbrev cX6_show : ByteArray := prog_8_method_18_code
def yX6_show : MethodName := ⟨RX6, "show", "(II)I"⟩
abbrev cX6_areOver : ByteArray := prog_8_method_19_code
def yX6_areOver : MethodName := ⟨RX6, "areOver", "(IIII)Z"⟩
abbrev cX6_isBusyIn : ByteArray := prog_8_method_20_code
def yX6_isBusyIn : MethodName := ⟨RX6, "isBusyIn", "(III)Z"⟩
abbrev cX6_castOf : ByteArray := prog_8_method_21_code
def yX6_castOf : MethodName := ⟨RX6, "castOf", "(I)I"⟩
abbrev cX6_cast : ByteArray := prog_8_method_22_code
def yX6_cast : MethodName := ⟨RX6, "cast", "(II)I"⟩
abbrev cX6_leave : ByteArray := prog_8_method_23_code
def yX6_leave : MethodName := ⟨RX6, "leave", "(II)I"⟩
abbrev cX6_sell : ByteArray := prog_8_method_24_code
def yX6_sell : MethodName := ⟨RX6, "sell", "(III)I"⟩
abbrev cX6_perform : ByteArray := prog_8_method_25_code
def yX6_perform : MethodName := ⟨RX6, "perform", "(I)I"⟩
abbrev cX6_mend : ByteArray := prog_8_method_26_code
def yX6_mend : MethodName := ⟨RX6, "mend", "(II)I"⟩
abbrev cX6_finds : ByteArray := prog_8_method_27_code
def yX6_finds : MethodName := ⟨RX6, "finds", "(II)V"⟩
abbrev cX6_trackNow : ByteArray := prog_8_method_28_code
def yX6_trackNow : MethodName := ⟨RX6, "trackNow", "(II)I"⟩
abbrev cX6_track : ByteArray := prog_8_method_29_code
def yX6_track : MethodName := ⟨RX6, "track", "(II)I"⟩
abbrev cX6_trackByFrames : ByteArray := prog_8_method_30_code
def yX6_trackByFrames : MethodName := ⟨RX6, "trackByFrames", "(II)I"⟩
abbrev cX6_far : ByteArray := prog_8_method_31_code
def yX6_far : MethodName := ⟨RX6, "far", "(II)I"⟩
abbrev cX6_pulls : ByteArray := prog_8_method_32_code
def yX6_pulls : MethodName := ⟨RX6, "pulls", "(I)V"⟩
abbrev cX6_areNear : ByteArray := prog_8_method_33_code
def yX6_areNear : MethodName := ⟨RX6, "areNear", "(II)Z"⟩
abbrev cX6_ownFrame : ByteArray := prog_8_method_34_code
def yX6_ownFrame : MethodName := ⟨RX6, "ownFrame", "(II)I"⟩
abbrev cX6_goes : ByteArray := prog_8_method_35_code
def yX6_goes : MethodName := ⟨RX6, "goes", "(III)V"⟩
abbrev cX6_isOf : ByteArray := prog_8_method_36_code
def yX6_isOf : MethodName := ⟨RX6, "isOf", "(II)Z"⟩
abbrev cX6_x : ByteArray := prog_8_method_37_code
def yX6_x : MethodName := ⟨RX6, "x", "(III)I"⟩
abbrev cX6_y : ByteArray := prog_8_method_38_code
def yX6_y : MethodName := ⟨RX6, "y", "(III)I"⟩
abbrev cX6_bent : ByteArray := prog_8_method_39_code
def yX6_bent : MethodName := ⟨RX6, "bent", "(IIII)I"⟩
abbrev cX6_least : ByteArray := prog_8_method_40_code
def yX6_least : MethodName := ⟨RX6, "least", "(I)I"⟩
abbrev cX6_isBusy : ByteArray := prog_8_method_41_code
def yX6_isBusy : MethodName := ⟨RX6, "isBusy", "(II)Z"⟩
abbrev cX6_worn : ByteArray := prog_8_method_42_code
def yX6_worn : MethodName := ⟨RX6, "worn", "(I)I"⟩
abbrev cX6_income : ByteArray := prog_8_method_43_code
def yX6_income : MethodName := ⟨RX6, "income", "()I"⟩
def RJx145de : String := "java/io/Serializable"
def TJx145de : u_T := fun k => match k with
  | _ => ("", "", "", false)
def tyJx145de : Nat → FieldType := fun k => match k with
  | _ => .int
abbrev wsJx145de0 : List Cond := u_ws RJx145de TJx145de 0
theorem nmJx145de : ∀ a, a < 0 → ∀ b, b < 0 → a ≠ b → (TJx145de a).2.1 ≠ (TJx145de b).2.1 := by decide +kernel
theorem tyJx145de_ok : ∀ k, k < 0 → parseFieldDescriptor (TJx145de k).2.2.1 = some (tyJx145de k) := by decide +kernel
def RJ5 : String := "java/lang/AbstractStringBuilder"
def TJ5 : u_T := fun k => match k with
  | _ => ("", "", "", false)
def tyJ5 : Nat → FieldType := fun k => match k with
  | _ => .int
abbrev wsJ50 : List Cond := u_ws RJ5 TJ5 0
theorem nmJ5 : ∀ a, a < 0 → ∀ b, b < 0 → a ≠ b → (TJ5 a).2.1 ≠ (TJ5 b).2.1 := by decide +kernel
theorem tyJ5_ok : ∀ k, k < 0 → parseFieldDescriptor (TJ5 k).2.2.1 = some (tyJ5 k) := by decide +kernel
abbrev cJ5_init_d00df : ByteArray := prog_10_method_2_code
def yJ5_init_d00df : MethodName := ⟨RJ5, "<init>", "(I)V"⟩
abbrev cJ5_length_8abf5 : ByteArray := prog_10_method_6_code
def yJ5_length_8abf5 : MethodName := ⟨RJ5, "length", "()I"⟩
abbrev cJ5_ensureCapacityInternal_d00df : ByteArray := prog_10_method_9_code
def yJ5_ensureCapacityInternal_d00df : MethodName := ⟨RJ5, "ensureCapacityInternal", "(I)V"⟩
abbrev cJ5_newCapacity_0f7a4 : ByteArray := prog_10_method_10_code
def yJ5_newCapacity_0f7a4 : MethodName := ⟨RJ5, "newCapacity", "(I)I"⟩
abbrev cJ5_inflate_da8c8 : ByteArray := prog_10_method_11_code
def yJ5_inflate_da8c8 : MethodName := ⟨RJ5, "inflate", "()V"⟩
abbrev cJ5_append_cf1ce : ByteArray := prog_10_method_22_code
def yJ5_append_cf1ce : MethodName := ⟨RJ5, "append", "(Ljava/lang/String;)Ljava/lang/AbstractStringBuilder;"⟩
abbrev cJ5_appendNull_278bc : ByteArray := prog_10_method_26_code
def yJ5_appendNull_278bc : MethodName := ⟨RJ5, "appendNull", "()Ljava/lang/AbstractStringBuilder;"⟩
abbrev cJ5_append_c97b9 : ByteArray := prog_10_method_32_code
def yJ5_append_c97b9 : MethodName := ⟨RJ5, "append", "(I)Ljava/lang/AbstractStringBuilder;"⟩
abbrev cJ5_getValue_6d5f1 : ByteArray := prog_10_method_64_code
def yJ5_getValue_6d5f1 : MethodName := ⟨RJ5, "getValue", "()[B"⟩
abbrev cJ5_isLatin1_aae02 : ByteArray := prog_10_method_68_code
def yJ5_isLatin1_aae02 : MethodName := ⟨RJ5, "isLatin1", "()Z"⟩
abbrev cJ5_inflateIfNeededFor_a7421 : ByteArray := prog_10_method_71_code
def yJ5_inflateIfNeededFor_a7421 : MethodName := ⟨RJ5, "inflateIfNeededFor", "(Ljava/lang/String;)V"⟩
abbrev cJ5_putStringAt_47b60 : ByteArray := prog_10_method_73_code
def yJ5_putStringAt_47b60 : MethodName := ⟨RJ5, "putStringAt", "(ILjava/lang/String;)V"⟩
def RJx2cfe8 : String := "java/lang/Appendable"
def TJx2cfe8 : u_T := fun k => match k with
  | _ => ("", "", "", false)
def tyJx2cfe8 : Nat → FieldType := fun k => match k with
  | _ => .int
abbrev wsJx2cfe80 : List Cond := u_ws RJx2cfe8 TJx2cfe8 0
theorem nmJx2cfe8 : ∀ a, a < 0 → ∀ b, b < 0 → a ≠ b → (TJx2cfe8 a).2.1 ≠ (TJx2cfe8 b).2.1 := by decide +kernel
theorem tyJx2cfe8_ok : ∀ k, k < 0 → parseFieldDescriptor (TJx2cfe8 k).2.2.1 = some (tyJx2cfe8 k) := by decide +kernel
def RJx9f9b0 : String := "java/lang/CharSequence"
def TJx9f9b0 : u_T := fun k => match k with
  | _ => ("", "", "", false)
def tyJx9f9b0 : Nat → FieldType := fun k => match k with
  | _ => .int
abbrev wsJx9f9b00 : List Cond := u_ws RJx9f9b0 TJx9f9b0 0
theorem nmJx9f9b0 : ∀ a, a < 0 → ∀ b, b < 0 → a ≠ b → (TJx9f9b0 a).2.1 ≠ (TJx9f9b0 b).2.1 := by decide +kernel
theorem tyJx9f9b0_ok : ∀ k, k < 0 → parseFieldDescriptor (TJx9f9b0 k).2.2.1 = some (tyJx9f9b0 k) := by decide +kernel
def RJx8e188 : String := "java/lang/Cloneable"
def TJx8e188 : u_T := fun k => match k with
  | _ => ("", "", "", false)
def tyJx8e188 : Nat → FieldType := fun k => match k with
  | _ => .int
abbrev wsJx8e1880 : List Cond := u_ws RJx8e188 TJx8e188 0
theorem nmJx8e188 : ∀ a, a < 0 → ∀ b, b < 0 → a ≠ b → (TJx8e188 a).2.1 ≠ (TJx8e188 b).2.1 := by decide +kernel
theorem tyJx8e188_ok : ∀ k, k < 0 → parseFieldDescriptor (TJx8e188 k).2.2.1 = some (tyJx8e188 k) := by decide +kernel
def RJxb160c : String := "java/lang/Comparable"
def TJxb160c : u_T := fun k => match k with
  | _ => ("", "", "", false)
def tyJxb160c : Nat → FieldType := fun k => match k with
  | _ => .int
abbrev wsJxb160c0 : List Cond := u_ws RJxb160c TJxb160c 0
theorem nmJxb160c : ∀ a, a < 0 → ∀ b, b < 0 → a ≠ b → (TJxb160c a).2.1 ≠ (TJxb160c b).2.1 := by decide +kernel
theorem tyJxb160c_ok : ∀ k, k < 0 → parseFieldDescriptor (TJxb160c k).2.2.1 = some (tyJxb160c k) := by decide +kernel
def RJ6 : String := "java/lang/Integer"
def TJ6 : u_T := fun k => match k with
  | _ => ("", "", "", false)
def tyJ6 : Nat → FieldType := fun k => match k with
  | _ => .int
abbrev wsJ60 : List Cond := u_ws RJ6 TJ6 0
theorem nmJ6 : ∀ a, a < 0 → ∀ b, b < 0 → a ≠ b → (TJ6 a).2.1 ≠ (TJ6 b).2.1 := by decide +kernel
theorem tyJ6_ok : ∀ k, k < 0 → parseFieldDescriptor (TJ6 k).2.2.1 = some (tyJ6 k) := by decide +kernel
abbrev cJ6_getChars_ba4f3 : ByteArray := prog_19_method_12_code
def yJ6_getChars_ba4f3 : MethodName := ⟨RJ6, "getChars", "(II[B)I"⟩
abbrev cJ6_stringSize_0f7a4 : ByteArray := prog_19_method_13_code
def yJ6_stringSize_0f7a4 : MethodName := ⟨RJ6, "stringSize", "(I)I"⟩
def RJxab1ab : String := "java/lang/Iterable"
def TJxab1ab : u_T := fun k => match k with
  | _ => ("", "", "", false)
def tyJxab1ab : Nat → FieldType := fun k => match k with
  | _ => .int
abbrev wsJxab1ab0 : List Cond := u_ws RJxab1ab TJxab1ab 0
theorem nmJxab1ab : ∀ a, a < 0 → ∀ b, b < 0 → a ≠ b → (TJxab1ab a).2.1 ≠ (TJxab1ab b).2.1 := by decide +kernel
theorem tyJxab1ab_ok : ∀ k, k < 0 → parseFieldDescriptor (TJxab1ab k).2.2.1 = some (tyJxab1ab k) := by decide +kernel
def RJ9 : String := "java/lang/Math"
def TJ9 : u_T := fun k => match k with
  | _ => ("", "", "", false)
def tyJ9 : Nat → FieldType := fun k => match k with
  | _ => .int
abbrev wsJ90 : List Cond := u_ws RJ9 TJ9 0
theorem nmJ9 : ∀ a, a < 0 → ∀ b, b < 0 → a ≠ b → (TJ9 a).2.1 ≠ (TJ9 b).2.1 := by decide +kernel
theorem tyJ9_ok : ∀ k, k < 0 → parseFieldDescriptor (TJ9 k).2.2.1 = some (tyJ9 k) := by decide +kernel
abbrev cJ9_abs_0f7a4 : ByteArray := prog_21_method_59_code
def yJ9_abs_0f7a4 : MethodName := ⟨RJ9, "abs", "(I)I"⟩
abbrev cJ9_max_7cf53 : ByteArray := prog_21_method_65_code
def yJ9_max_7cf53 : MethodName := ⟨RJ9, "max", "(II)I"⟩
abbrev cJ9_min_7cf53 : ByteArray := prog_21_method_69_code
def yJ9_min_7cf53 : MethodName := ⟨RJ9, "min", "(II)I"⟩
def RJxd2413 : String := "java/lang/Number"
def TJxd2413 : u_T := fun k => match k with
  | _ => ("", "", "", false)
def tyJxd2413 : Nat → FieldType := fun k => match k with
  | _ => .int
abbrev wsJxd24130 : List Cond := u_ws RJxd2413 TJxd2413 0
theorem nmJxd2413 : ∀ a, a < 0 → ∀ b, b < 0 → a ≠ b → (TJxd2413 a).2.1 ≠ (TJxd2413 b).2.1 := by decide +kernel
theorem tyJxd2413_ok : ∀ k, k < 0 → parseFieldDescriptor (TJxd2413 k).2.2.1 = some (tyJxd2413 k) := by decide +kernel
def RJ0 : String := "java/lang/String"
def TJ0 : u_T := fun k => match k with
  | 0 => ("java/lang/String", "value", "[B", true)
  | 1 => ("java/lang/String", "coder", "B", true)
  | 2 => ("java/lang/String", "hash", "I", false)
  | _ => ("java/lang/String", "hashIsZero", "Z", false)
def tyJ0 : Nat → FieldType := fun k => match k with
  | 0 => .array .byte
  | 1 => .byte
  | 2 => .int
  | _ => .boolean
abbrev wsJ00 : List Cond := u_ws RJ0 TJ0 4
theorem nmJ0 : ∀ a, a < 4 → ∀ b, b < 4 → a ≠ b → (TJ0 a).2.1 ≠ (TJ0 b).2.1 := by decide +kernel
theorem tyJ0_ok : ∀ k, k < 4 → parseFieldDescriptor (TJ0 k).2.2.1 = some (tyJ0 k) := by decide +kernel
abbrev cJ0_init_81219 : ByteArray := prog_24_method_53_code
def yJ0_init_81219 : MethodName := ⟨RJ0, "<init>", "(Ljava/lang/StringBuilder;)V"⟩
abbrev cJ0_length_8abf5 : ByteArray := prog_24_method_54_code
def yJ0_length_8abf5 : MethodName := ⟨RJ0, "length", "()I"⟩
abbrev cJ0_getBytes_840e7 : ByteArray := prog_24_method_147_code
def yJ0_getBytes_840e7 : MethodName := ⟨RJ0, "getBytes", "([BIB)V"⟩
abbrev cJ0_init_db425 : ByteArray := prog_24_method_150_code
def yJ0_init_db425 : MethodName := ⟨RJ0, "<init>", "(Ljava/lang/AbstractStringBuilder;Ljava/lang/Void;)V"⟩
abbrev cJ0_coder_7d493 : ByteArray := prog_24_method_152_code
def yJ0_coder_7d493 : MethodName := ⟨RJ0, "coder", "()B"⟩
abbrev cJ0_checkBoundsOffCount_cabcc : ByteArray := prog_24_method_157_code
def yJ0_checkBoundsOffCount_cabcc : MethodName := ⟨RJ0, "checkBoundsOffCount", "(III)I"⟩
abbrev cJ0_checkBoundsBeginEnd_23922 : ByteArray := prog_24_method_158_code
def yJ0_checkBoundsBeginEnd_23922 : MethodName := ⟨RJ0, "checkBoundsBeginEnd", "(III)V"⟩
def RJ4 : String := "java/lang/StringBuilder"
def TJ4 : u_T := fun k => match k with
  | 0 => ("java/lang/AbstractStringBuilder", "value", "[B", false)
  | 1 => ("java/lang/AbstractStringBuilder", "coder", "B", false)
  | 2 => ("java/lang/AbstractStringBuilder", "maybeLatin1", "Z", false)
  | _ => ("java/lang/AbstractStringBuilder", "count", "I", false)
def tyJ4 : Nat → FieldType := fun k => match k with
  | 0 => .array .byte
  | 1 => .byte
  | 2 => .boolean
  | _ => .int
abbrev wsJ40 : List Cond := u_ws RJ4 TJ4 4
theorem nmJ4 : ∀ a, a < 4 → ∀ b, b < 4 → a ≠ b → (TJ4 a).2.1 ≠ (TJ4 b).2.1 := by decide +kernel
theorem tyJ4_ok : ∀ k, k < 4 → parseFieldDescriptor (TJ4 k).2.2.1 = some (tyJ4 k) := by decide +kernel
abbrev cJ4_init_da8c8 : ByteArray := prog_25_method_1_code
def yJ4_init_da8c8 : MethodName := ⟨RJ4, "<init>", "()V"⟩
abbrev cJ4_append_15ec4 : ByteArray := prog_25_method_7_code
def yJ4_append_15ec4 : MethodName := ⟨RJ4, "append", "(Ljava/lang/String;)Ljava/lang/StringBuilder;"⟩
abbrev cJ4_append_bf812 : ByteArray := prog_25_method_15_code
def yJ4_append_bf812 : MethodName := ⟨RJ4, "append", "(I)Ljava/lang/StringBuilder;"⟩
abbrev cJ4_toString_0e30d : ByteArray := prog_25_method_42_code
def yJ4_toString_0e30d : MethodName := ⟨RJ4, "toString", "()Ljava/lang/String;"⟩
abbrev cJ4_length_8abf5 : ByteArray := prog_25_method_93_code
def yJ4_length_8abf5 : MethodName := ⟨RJ4, "length", "()I"⟩
def RJ1 : String := "java/lang/StringLatin1"
def TJ1 : u_T := fun k => match k with
  | _ => ("", "", "", false)
def tyJ1 : Nat → FieldType := fun k => match k with
  | _ => .int
abbrev wsJ10 : List Cond := u_ws RJ1 TJ1 0
theorem nmJ1 : ∀ a, a < 0 → ∀ b, b < 0 → a ≠ b → (TJ1 a).2.1 ≠ (TJ1 b).2.1 := by decide +kernel
theorem tyJ1_ok : ∀ k, k < 0 → parseFieldDescriptor (TJ1 k).2.2.1 = some (tyJ1 k) := by decide +kernel
abbrev cJ1_inflate_0e8fd : ByteArray := prog_26_method_50_code
def yJ1_inflate_0e8fd : MethodName := ⟨RJ1, "inflate", "([BI[BII)V"⟩
def RJ2 : String := "java/lang/StringUTF16"
def TJ2 : u_T := fun k => match k with
  | _ => ("", "", "", false)
def tyJ2 : Nat → FieldType := fun k => match k with
  | _ => .int
abbrev wsJ20 : List Cond := u_ws RJ2 TJ2 0
theorem nmJ2 : ∀ a, a < 0 → ∀ b, b < 0 → a ≠ b → (TJ2 a).2.1 ≠ (TJ2 b).2.1 := by decide +kernel
theorem tyJ2_ok : ∀ k, k < 0 → parseFieldDescriptor (TJ2 k).2.2.1 = some (tyJ2 k) := by decide +kernel
abbrev cJ2_newBytesFor_77867 : ByteArray := prog_27_method_2_code
def yJ2_newBytesFor_77867 : MethodName := ⟨RJ2, "newBytesFor", "(I)[B"⟩
abbrev cJ2_newBytesLength_0f7a4 : ByteArray := prog_27_method_3_code
def yJ2_newBytesLength_0f7a4 : MethodName := ⟨RJ2, "newBytesLength", "(I)I"⟩
abbrev cJ2_putChar_b72d1 : ByteArray := prog_27_method_4_code
def yJ2_putChar_b72d1 : MethodName := ⟨RJ2, "putChar", "([BII)V"⟩
abbrev cJ2_getChar_3b067 : ByteArray := prog_27_method_5_code
def yJ2_getChar_3b067 : MethodName := ⟨RJ2, "getChar", "([BI)C"⟩
abbrev cJ2_length_9d52b : ByteArray := prog_27_method_6_code
def yJ2_length_9d52b : MethodName := ⟨RJ2, "length", "([B)I"⟩
abbrev cJ2_coderFromArrayLen_85cad : ByteArray := prog_27_method_15_code
def yJ2_coderFromArrayLen_85cad : MethodName := ⟨RJ2, "coderFromArrayLen", "([BI)B"⟩
abbrev cJ2_compress_39247 : ByteArray := prog_27_method_17_code
def yJ2_compress_39247 : MethodName := ⟨RJ2, "compress", "([BII)[B"⟩
abbrev cJ2_compress_5af95 : ByteArray := prog_27_method_22_code
def yJ2_compress_5af95 : MethodName := ⟨RJ2, "compress", "([BI[BII)I"⟩
abbrev cJ2_getChars_46870 : ByteArray := prog_27_method_77_code
def yJ2_getChars_46870 : MethodName := ⟨RJ2, "getChars", "(III[B)I"⟩
abbrev cJ2_putCharsAt_cd4e5 : ByteArray := prog_27_method_81_code
def yJ2_putCharsAt_cd4e5 : MethodName := ⟨RJ2, "putCharsAt", "([BICCCC)I"⟩
abbrev cJ2_inflate_0e8fd : ByteArray := prog_27_method_86_code
def yJ2_inflate_0e8fd : MethodName := ⟨RJ2, "inflate", "([BI[BII)V"⟩
abbrev cJ2_getChars_ba4f3 : ByteArray := prog_27_method_89_code
def yJ2_getChars_ba4f3 : MethodName := ⟨RJ2, "getChars", "(II[B)I"⟩
abbrev cJ2_checkBoundsBeginEnd_d044e : ByteArray := prog_27_method_93_code
def yJ2_checkBoundsBeginEnd_d044e : MethodName := ⟨RJ2, "checkBoundsBeginEnd", "(II[B)V"⟩
abbrev cJ2_checkBoundsOffCount_d044e : ByteArray := prog_27_method_94_code
def yJ2_checkBoundsOffCount_d044e : MethodName := ⟨RJ2, "checkBoundsOffCount", "(II[B)V"⟩
def RJ10 : String := "java/lang/System"
def TJ10 : u_T := fun k => match k with
  | _ => ("", "", "", false)
def tyJ10 : Nat → FieldType := fun k => match k with
  | _ => .int
abbrev wsJ100 : List Cond := u_ws RJ10 TJ10 0
theorem nmJ10 : ∀ a, a < 0 → ∀ b, b < 0 → a ≠ b → (TJ10 a).2.1 ≠ (TJ10 b).2.1 := by decide +kernel
theorem tyJ10_ok : ∀ k, k < 0 → parseFieldDescriptor (TJ10 k).2.2.1 = some (tyJ10 k) := by decide +kernel
def RJxfd54e : String := "java/lang/constant/Constable"
def TJxfd54e : u_T := fun k => match k with
  | _ => ("", "", "", false)
def tyJxfd54e : Nat → FieldType := fun k => match k with
  | _ => .int
abbrev wsJxfd54e0 : List Cond := u_ws RJxfd54e TJxfd54e 0
theorem nmJxfd54e : ∀ a, a < 0 → ∀ b, b < 0 → a ≠ b → (TJxfd54e a).2.1 ≠ (TJxfd54e b).2.1 := by decide +kernel
theorem tyJxfd54e_ok : ∀ k, k < 0 → parseFieldDescriptor (TJxfd54e k).2.2.1 = some (tyJxfd54e k) := by decide +kernel
def RJx3cf43 : String := "java/lang/constant/ConstantDesc"
def TJx3cf43 : u_T := fun k => match k with
  | _ => ("", "", "", false)
def tyJx3cf43 : Nat → FieldType := fun k => match k with
  | _ => .int
abbrev wsJx3cf430 : List Cond := u_ws RJx3cf43 TJx3cf43 0
theorem nmJx3cf43 : ∀ a, a < 0 → ∀ b, b < 0 → a ≠ b → (TJx3cf43 a).2.1 ≠ (TJx3cf43 b).2.1 := by decide +kernel
theorem tyJx3cf43_ok : ∀ k, k < 0 → parseFieldDescriptor (TJx3cf43 k).2.2.1 = some (tyJx3cf43 k) := by decide +kernel
def RJxa1e45 : String := "java/util/AbstractCollection"
def TJxa1e45 : u_T := fun k => match k with
  | _ => ("", "", "", false)
def tyJxa1e45 : Nat → FieldType := fun k => match k with
  | _ => .int
abbrev wsJxa1e450 : List Cond := u_ws RJxa1e45 TJxa1e45 0
theorem nmJxa1e45 : ∀ a, a < 0 → ∀ b, b < 0 → a ≠ b → (TJxa1e45 a).2.1 ≠ (TJxa1e45 b).2.1 := by decide +kernel
theorem tyJxa1e45_ok : ∀ k, k < 0 → parseFieldDescriptor (TJxa1e45 k).2.2.1 = some (tyJxa1e45 k) := by decide +kernel
abbrev cJxa1e45_init_da8c8 : ByteArray := prog_32_method_1_code
def yJxa1e45_init_da8c8 : MethodName := ⟨RJxa1e45, "<init>", "()V"⟩
def RJxc12de : String := "java/util/AbstractList"
def TJxc12de : u_T := fun k => match k with
  | _ => ("", "", "", false)
def tyJxc12de : Nat → FieldType := fun k => match k with
  | _ => .int
abbrev wsJxc12de0 : List Cond := u_ws RJxc12de TJxc12de 0
theorem nmJxc12de : ∀ a, a < 0 → ∀ b, b < 0 → a ≠ b → (TJxc12de a).2.1 ≠ (TJxc12de b).2.1 := by decide +kernel
theorem tyJxc12de_ok : ∀ k, k < 0 → parseFieldDescriptor (TJxc12de k).2.2.1 = some (tyJxc12de k) := by decide +kernel
abbrev cJxc12de_init_da8c8 : ByteArray := prog_33_method_1_code
def yJxc12de_init_da8c8 : MethodName := ⟨RJxc12de, "<init>", "()V"⟩
def RJx4a65c : String := "java/util/ArrayList"
def TJx4a65c : u_T := fun k => match k with
  | 0 => ("java/util/AbstractList", "modCount", "I", false)
  | 1 => ("java/util/ArrayList", "elementData", "[Ljava/lang/Object;", false)
  | _ => ("java/util/ArrayList", "size", "I", false)
def tyJx4a65c : Nat → FieldType := fun k => match k with
  | 0 => .int
  | 1 => .array (.object "java/lang/Object")
  | _ => .int
abbrev wsJx4a65c0 : List Cond := u_ws RJx4a65c TJx4a65c 3
theorem nmJx4a65c : ∀ a, a < 3 → ∀ b, b < 3 → a ≠ b → (TJx4a65c a).2.1 ≠ (TJx4a65c b).2.1 := by decide +kernel
theorem tyJx4a65c_ok : ∀ k, k < 3 → parseFieldDescriptor (TJx4a65c k).2.2.1 = some (tyJx4a65c k) := by decide +kernel
abbrev cJx4a65c_init_da8c8 : ByteArray := prog_34_method_2_code
def yJx4a65c_init_da8c8 : MethodName := ⟨RJx4a65c, "<init>", "()V"⟩
abbrev cJx4a65c_grow_92f84 : ByteArray := prog_34_method_6_code
def yJx4a65c_grow_92f84 : MethodName := ⟨RJx4a65c, "grow", "(I)[Ljava/lang/Object;"⟩
abbrev cJx4a65c_grow_d5877 : ByteArray := prog_34_method_7_code
def yJx4a65c_grow_d5877 : MethodName := ⟨RJx4a65c, "grow", "()[Ljava/lang/Object;"⟩
abbrev cJx4a65c_size_8abf5 : ByteArray := prog_34_method_8_code
def yJx4a65c_size_8abf5 : MethodName := ⟨RJx4a65c, "size", "()I"⟩
abbrev cJx4a65c_elementData_915e3 : ByteArray := prog_34_method_18_code
def yJx4a65c_elementData_915e3 : MethodName := ⟨RJx4a65c, "elementData", "(I)Ljava/lang/Object;"⟩
abbrev cJx4a65c_get_915e3 : ByteArray := prog_34_method_20_code
def yJx4a65c_get_915e3 : MethodName := ⟨RJx4a65c, "get", "(I)Ljava/lang/Object;"⟩
abbrev cJx4a65c_set_bcc79 : ByteArray := prog_34_method_23_code
def yJx4a65c_set_bcc79 : MethodName := ⟨RJx4a65c, "set", "(ILjava/lang/Object;)Ljava/lang/Object;"⟩
abbrev cJx4a65c_add_72be8 : ByteArray := prog_34_method_24_code
def yJx4a65c_add_72be8 : MethodName := ⟨RJx4a65c, "add", "(Ljava/lang/Object;[Ljava/lang/Object;I)V"⟩
abbrev cJx4a65c_add_9ea2d : ByteArray := prog_34_method_25_code
def yJx4a65c_add_9ea2d : MethodName := ⟨RJx4a65c, "add", "(Ljava/lang/Object;)Z"⟩
abbrev cJx4a65c_add_7a177 : ByteArray := prog_34_method_26_code
def yJx4a65c_add_7a177 : MethodName := ⟨RJx4a65c, "add", "(ILjava/lang/Object;)V"⟩
abbrev cJx4a65c_remove_915e3 : ByteArray := prog_34_method_29_code
def yJx4a65c_remove_915e3 : MethodName := ⟨RJx4a65c, "remove", "(I)Ljava/lang/Object;"⟩
abbrev cJx4a65c_fastRemove_b59b0 : ByteArray := prog_34_method_39_code
def yJx4a65c_fastRemove_b59b0 : MethodName := ⟨RJx4a65c, "fastRemove", "([Ljava/lang/Object;I)V"⟩
abbrev cJx4a65c_rangeCheckForAdd_d00df : ByteArray := prog_34_method_45_code
def yJx4a65c_rangeCheckForAdd_d00df : MethodName := ⟨RJx4a65c, "rangeCheckForAdd", "(I)V"⟩
abbrev cJx4a65c_outOfBoundsMsg_b52d3 : ByteArray := prog_34_method_46_code
def yJx4a65c_outOfBoundsMsg_b52d3 : MethodName := ⟨RJx4a65c, "outOfBoundsMsg", "(I)Ljava/lang/String;"⟩
def RJ7 : String := "java/util/Arrays"
def TJ7 : u_T := fun k => match k with
  | _ => ("", "", "", false)
def tyJ7 : Nat → FieldType := fun k => match k with
  | _ => .int
abbrev wsJ70 : List Cond := u_ws RJ7 TJ7 0
theorem nmJ7 : ∀ a, a < 0 → ∀ b, b < 0 → a ≠ b → (TJ7 a).2.1 ≠ (TJ7 b).2.1 := by decide +kernel
theorem tyJ7_ok : ∀ k, k < 0 → parseFieldDescriptor (TJ7 k).2.2.1 = some (tyJ7 k) := by decide +kernel
abbrev cJ7_fill_53178 : ByteArray := prog_35_method_103_code
def yJ7_fill_53178 : MethodName := ⟨RJ7, "fill", "([II)V"⟩
abbrev cJ7_copyOf_1904c : ByteArray := prog_35_method_119_code
def yJ7_copyOf_1904c : MethodName := ⟨RJ7, "copyOf", "([Ljava/lang/Object;I)[Ljava/lang/Object;"⟩
abbrev cJ7_copyOf_6403c : ByteArray := prog_35_method_120_code
def yJ7_copyOf_6403c : MethodName := ⟨RJ7, "copyOf", "([Ljava/lang/Object;ILjava/lang/Class;)[Ljava/lang/Object;"⟩
abbrev cJ7_copyOf_9075b : ByteArray := prog_35_method_121_code
def yJ7_copyOf_9075b : MethodName := ⟨RJ7, "copyOf", "([BI)[B"⟩
abbrev cJ7_checkLength_df160 : ByteArray := prog_35_method_131_code
def yJ7_checkLength_df160 : MethodName := ⟨RJ7, "checkLength", "(II)V"⟩
abbrev cJ7_copyOfRange_39247 : ByteArray := prog_35_method_132_code
def yJ7_copyOfRange_39247 : MethodName := ⟨RJ7, "copyOfRange", "([BII)[B"⟩
abbrev cJ7_copyOfRangeByte_39247 : ByteArray := prog_35_method_133_code
def yJ7_copyOfRangeByte_39247 : MethodName := ⟨RJ7, "copyOfRangeByte", "([BII)[B"⟩
def RJx5ef63 : String := "java/util/Collection"
def TJx5ef63 : u_T := fun k => match k with
  | _ => ("", "", "", false)
def tyJx5ef63 : Nat → FieldType := fun k => match k with
  | _ => .int
abbrev wsJx5ef630 : List Cond := u_ws RJx5ef63 TJx5ef63 0
theorem nmJx5ef63 : ∀ a, a < 0 → ∀ b, b < 0 → a ≠ b → (TJx5ef63 a).2.1 ≠ (TJx5ef63 b).2.1 := by decide +kernel
theorem tyJx5ef63_ok : ∀ k, k < 0 → parseFieldDescriptor (TJx5ef63 k).2.2.1 = some (tyJx5ef63 k) := by decide +kernel
def RJxbd725 : String := "java/util/List"
def TJxbd725 : u_T := fun k => match k with
  | _ => ("", "", "", false)
def tyJxbd725 : Nat → FieldType := fun k => match k with
  | _ => .int
abbrev wsJxbd7250 : List Cond := u_ws RJxbd725 TJxbd725 0
theorem nmJxbd725 : ∀ a, a < 0 → ∀ b, b < 0 → a ≠ b → (TJxbd725 a).2.1 ≠ (TJxbd725 b).2.1 := by decide +kernel
theorem tyJxbd725_ok : ∀ k, k < 0 → parseFieldDescriptor (TJxbd725 k).2.2.1 = some (tyJxbd725 k) := by decide +kernel
def RJ15 : String := "java/util/Objects"
def TJ15 : u_T := fun k => match k with
  | _ => ("", "", "", false)
def tyJ15 : Nat → FieldType := fun k => match k with
  | _ => .int
abbrev wsJ150 : List Cond := u_ws RJ15 TJ15 0
theorem nmJ15 : ∀ a, a < 0 → ∀ b, b < 0 → a ≠ b → (TJ15 a).2.1 ≠ (TJ15 b).2.1 := by decide +kernel
theorem tyJ15_ok : ∀ k, k < 0 → parseFieldDescriptor (TJ15 k).2.2.1 = some (tyJ15 k) := by decide +kernel
abbrev cJ15_checkIndex_7cf53 : ByteArray := prog_39_method_17_code
def yJ15_checkIndex_7cf53 : MethodName := ⟨RJ15, "checkIndex", "(II)I"⟩
def RJxf0a74 : String := "java/util/RandomAccess"
def TJxf0a74 : u_T := fun k => match k with
  | _ => ("", "", "", false)
def tyJxf0a74 : Nat → FieldType := fun k => match k with
  | _ => .int
abbrev wsJxf0a740 : List Cond := u_ws RJxf0a74 TJxf0a74 0
theorem nmJxf0a74 : ∀ a, a < 0 → ∀ b, b < 0 → a ≠ b → (TJxf0a74 a).2.1 ≠ (TJxf0a74 b).2.1 := by decide +kernel
theorem tyJxf0a74_ok : ∀ k, k < 0 → parseFieldDescriptor (TJxf0a74 k).2.2.1 = some (tyJxf0a74 k) := by decide +kernel
def RJxa66e6 : String := "java/util/SequencedCollection"
def TJxa66e6 : u_T := fun k => match k with
  | _ => ("", "", "", false)
def tyJxa66e6 : Nat → FieldType := fun k => match k with
  | _ => .int
abbrev wsJxa66e60 : List Cond := u_ws RJxa66e6 TJxa66e6 0
theorem nmJxa66e6 : ∀ a, a < 0 → ∀ b, b < 0 → a ≠ b → (TJxa66e6 a).2.1 ≠ (TJxa66e6 b).2.1 := by decide +kernel
theorem tyJxa66e6_ok : ∀ k, k < 0 → parseFieldDescriptor (TJxa66e6 k).2.2.1 = some (tyJxa66e6 k) := by decide +kernel
def RJ8 : String := "jdk/internal/util/ArraysSupport"
def TJ8 : u_T := fun k => match k with
  | _ => ("", "", "", false)
def tyJ8 : Nat → FieldType := fun k => match k with
  | _ => .int
abbrev wsJ80 : List Cond := u_ws RJ8 TJ8 0
theorem nmJ8 : ∀ a, a < 0 → ∀ b, b < 0 → a ≠ b → (TJ8 a).2.1 ≠ (TJ8 b).2.1 := by decide +kernel
theorem tyJ8_ok : ∀ k, k < 0 → parseFieldDescriptor (TJ8 k).2.2.1 = some (tyJ8 k) := by decide +kernel
abbrev cJ8_newLength_cabcc : ByteArray := prog_42_method_27_code
def yJ8_newLength_cabcc : MethodName := ⟨RJ8, "newLength", "(III)I"⟩
abbrev cJ8_hugeLength_7cf53 : ByteArray := prog_42_method_28_code
def yJ8_hugeLength_7cf53 : MethodName := ⟨RJ8, "hugeLength", "(II)I"⟩
def RJ3 : String := "jdk/internal/util/Preconditions"
def TJ3 : u_T := fun k => match k with
  | _ => ("", "", "", false)
def tyJ3 : Nat → FieldType := fun k => match k with
  | _ => .int
abbrev wsJ30 : List Cond := u_ws RJ3 TJ3 0
theorem nmJ3 : ∀ a, a < 0 → ∀ b, b < 0 → a ≠ b → (TJ3 a).2.1 ≠ (TJ3 b).2.1 := by decide +kernel
theorem tyJ3_ok : ∀ k, k < 0 → parseFieldDescriptor (TJ3 k).2.2.1 = some (tyJ3 k) := by decide +kernel
abbrev cJ3_checkIndex_8e157 : ByteArray := prog_43_method_11_code
def yJ3_checkIndex_8e157 : MethodName := ⟨RJ3, "checkIndex", "(IILjava/util/function/BiFunction;)I"⟩
abbrev cJ3_checkFromToIndex_8c36e : ByteArray := prog_43_method_12_code
def yJ3_checkFromToIndex_8c36e : MethodName := ⟨RJ3, "checkFromToIndex", "(IIILjava/util/function/BiFunction;)I"⟩
abbrev cJ3_checkFromIndexSize_8c36e : ByteArray := prog_43_method_13_code
def yJ3_checkFromIndexSize_8c36e : MethodName := ⟨RJ3, "checkFromIndexSize", "(IIILjava/util/function/BiFunction;)I"⟩
def RL : String := "PuppetloomLaw"
abbrev cL_puppet : ByteArray := method_3_code
def yL_puppet : MethodName := ⟨RL, "puppet", "(LPuppetloom;II[J)I"⟩
abbrev cL_setLength : ByteArray := method_4_code
def yL_setLength : MethodName := ⟨RL, "setLength", "(LPuppetloom;II[J)I"⟩
abbrev cL_key : ByteArray := method_5_code
def yL_key : MethodName := ⟨RL, "key", "(LPuppetloom;IIIII[J)I"⟩
abbrev cL_cutKey : ByteArray := method_6_code
def yL_cutKey : MethodName := ⟨RL, "cutKey", "(LPuppetloom;II[J)I"⟩
abbrev cL_hear : ByteArray := method_7_code
def yL_hear : MethodName := ⟨RL, "hear", "(LPuppetloom;II[J)I"⟩
abbrev cL_cue : ByteArray := method_8_code
def yL_cue : MethodName := ⟨RL, "cue", "(LPuppetloom;II[J)I"⟩
abbrev cL_show : ByteArray := method_9_code
def yL_show : MethodName := ⟨RL, "show", "(LPuppetloom;II[J)I"⟩
abbrev cL_cast : ByteArray := method_10_code
def yL_cast : MethodName := ⟨RL, "cast", "(LPuppetloom;II[J)I"⟩
abbrev cL_leave : ByteArray := method_11_code
def yL_leave : MethodName := ⟨RL, "leave", "(LPuppetloom;II[J)I"⟩
abbrev cL_sell : ByteArray := method_12_code
def yL_sell : MethodName := ⟨RL, "sell", "(LPuppetloom;III[J)I"⟩
abbrev cL_perform : ByteArray := method_13_code
def yL_perform : MethodName := ⟨RL, "perform", "(LPuppetloom;I[J)I"⟩
abbrev cL_mend : ByteArray := method_14_code
def yL_mend : MethodName := ⟨RL, "mend", "(LPuppetloom;II[J)I"⟩
abbrev cL_track : ByteArray := method_15_code
def yL_track : MethodName := ⟨RL, "track", "(LPuppetloom;II[J)I"⟩
abbrev cL_trackByFrames : ByteArray := method_16_code
def yL_trackByFrames : MethodName := ⟨RL, "trackByFrames", "(LPuppetloom;II[J)I"⟩
abbrev cL_x : ByteArray := method_17_code
def yL_x : MethodName := ⟨RL, "x", "(LPuppetloom;III[J)I"⟩
abbrev cL_y : ByteArray := method_18_code
def yL_y : MethodName := ⟨RL, "y", "(LPuppetloom;III[J)I"⟩
abbrev cL_bent : ByteArray := method_19_code
def yL_bent : MethodName := ⟨RL, "bent", "(LPuppetloom;IIII[J)I"⟩
abbrev cL_least : ByteArray := method_20_code
def yL_least : MethodName := ⟨RL, "least", "(LPuppetloom;I[J)I"⟩
abbrev cL_isBusy : ByteArray := method_21_code
def yL_isBusy : MethodName := ⟨RL, "isBusy", "(LPuppetloom;II[J)I"⟩
abbrev cL_worn : ByteArray := method_22_code
def yL_worn : MethodName := ⟨RL, "worn", "(LPuppetloom;I[J)I"⟩
abbrev cL_law : ByteArray := code
def yL_law : MethodName := ⟨RL, "law", "([I)Z"⟩
end
section
/-! ===== the layer: a heap by fields, a walk as a small predicate V ===== -/
abbrev Hp : Type := (Nat → Option (Nat × Nat)) × (Nat → Nat → Int32) × (Nat → Nat → Option Nat) × (Nat → Nat → Int32) × (Nat → Nat → Option Nat) × (Nat → Nat → Int64)
def xS (h : Hp) : Nat → Option (Nat × Nat) := h.1
def xF (h : Hp) : Nat → Nat → Int32 := h.2.1
def xP (h : Hp) : Nat → Nat → Option Nat := h.2.2.1
def xA (h : Hp) : Nat → Nat → Int32 := h.2.2.2.1
def xB (h : Hp) : Nat → Nat → Option Nat := h.2.2.2.2.1
def xL (h : Hp) : Nat → Nat → Int64 := h.2.2.2.2.2
def u2 {α : Type} (f : Nat → Nat → α) (i a : Nat) (v : α) : Nat → Nat → α := fun j b => if j = i ∧ b = a then v else f j b
def u1 {α : Type} (f : Nat → Nat → α) (a : Nat) (v : Nat → α) : Nat → Nat → α := fun b => if b = a then v else f b
def yF (h : Hp) (i a : Nat) (v : Int32) : Hp := (xS h, u2 (xF h) i a v, xP h, xA h, xB h, xL h)
def yP (h : Hp) (i a : Nat) (v : Option Nat) : Hp := (xS h, xF h, u2 (xP h) i a v, xA h, xB h, xL h)
def yA (h : Hp) (a i : Nat) (v : Int32) : Hp := (xS h, xF h, xP h, u2 (xA h) a i v, xB h, xL h)
def yB (h : Hp) (a i : Nat) (v : Option Nat) : Hp := (xS h, xF h, xP h, xA h, u2 (xB h) a i v, xL h)
def yC (h : Hp) (a : Nat) (v : Nat → Option Nat) : Hp := (xS h, xF h, xP h, xA h, u1 (xB h) a v, xL h)
def yL (h : Hp) (a i : Nat) (v : Int64) : Hp := (xS h, xF h, xP h, xA h, xB h, u2 (xL h) a i v)
def yN (h : Hp) (q kd n : Nat) : Hp := (va_up (xS h) q (some (kd, n)), (fun f a => if a = q then 0 else xF h f a), (fun f a => if a = q then none else xP h f a), (fun a i => if a = q then 0 else xA h a i), (fun a i => if a = q then none else xB h a i), (fun a i => if a = q then 0 else xL h a i))
/-- which fields of the classes are references -/
def flg : Nat → List Bool
  | 0 => [false, false, false, false]
  | 1 => [false, false]
  | 2 => [false, false, true, false, false, true, true, false]
  | 3 => [true, true, false, false, false, false]
  | 4 => [false, false]
  | 5 => [true, true, true, false]
  | 6 => [false, true, true, true, true, true, false, true, true, true, true, true, true, true, true, true, true, true, true, true, true, false, false, true, false, false, true, true, true]
  | 7 => [false, true, false]
  | _ => []
abbrev kcl : List vw_C := [(RX0, TX0, 4), (RX1, TX1, 2), (RX2, TX2, 8), (RX3, TX3, 6), (RX4, TX4, 2), (RX5, TX5, 4), (RX6, TX6, 29), (RJx4a65c, TJx4a65c, 3)]
def fv (h : Hp) (a ci k : Nat) (b : Bool) : Value := if b = true then va_rf (xP h (100 * ci + k) a) else .int (xF h (100 * ci + k) a)
def fsOf (h : Hp) (a ci : Nat) : List Value := (flg ci).zipIdx.map (fun q => fv h a ci q.2 q.1)
theorem fsOf_get (h : Hp) (a ci k : Nat) : (fsOf h a ci)[k]? = ((flg ci)[k]?).map (fv h a ci k) := by
  simp only [fsOf, List.getElem?_map, List.getElem?_zipIdx, Option.map_map]
  cases (flg ci)[k]? <;> simp
theorem fsOf_len (h : Hp) (a ci : Nat) : (fsOf h a ci).length = (flg ci).length := by simp [fsOf]
/-- the constants of a run: classes, array classes (int, boolean, Object, long), numbers (0: where the law's own cells begin; 1: EASING; 2: the empty row; 3: the class object; 4: the script; 5: its length; 10 and on: texts), the script -/
abbrev Gl : Type := va_G × (Nat → ClassId) × (Nat → Nat) × (Nat → Int32)
def gD (g : Gl) : va_G := g.1
def gC (g : Gl) : Nat → ClassId := g.2.1
def gN (g : Gl) : Nat → Nat := g.2.2.1
def gX (g : Gl) : Nat → Int32 := g.2.2.2
def gA (g : Gl) : Nat → Prop := fun q => gN g 0 ≤ q
def ent (g : Gl) (h : Hp) (a kd n : Nat) : va_E := match kd with
  | 8 => .inl (gC g 0, n, .inl (xA h a))
  | 9 => .inl (gC g 1, n, .inl (xA h a))
  | 10 => .inl (gC g 2, n, .inr (.inr (.inr (.inr (xB h a)))))
  | 11 => .inl (gC g 3, n, .inr (.inl (xL h a)))
  | ci => .inr (ci, fsOf h a ci)
abbrev tys (g : Gl) : List (ClassId × FieldType) := [(gC g 0, .int), (gC g 1, .boolean), (gC g 2, .object "java/lang/Object"), (gC g 3, .long)]
def HG (g : Gl) (h : Hp) (H : Heap) : Prop := ∃ ws : va_W, va_P (gD g) kcl ws H ∧ va_D (gA g) ws ∧ (∀ a kd n : Nat, xS h a = some (kd, n) → ∃ k : Nat, ws[k]? = some (a, ent g h a kd n)) ∧ ∀ (k : Nat) (q : Nat × va_E), ws[k]? = some q → xS h q.1 ≠ none
theorem HG.kept {g : Gl} {h : Hp} {H H1 : Heap} (hG : HG g h H) (hk : ∀ q : Nat, q < H.size → H1[q]? = H[q]?) : HG g h H1 := by
  obtain ⟨ws, h1, h2, h3, h4⟩ := hG
  exact ⟨ws, h1.kept (fun k q hq => hk q.1 (h1 k q hq).lt), h2, h3, h4⟩
theorem HG.set {g : Gl} {h h' : Hp} {H1 : Heap} {ws : va_W} {q0 a kd n : Nat} (h2 : va_D (gA g) ws) (h3 : ∀ a kd n : Nat, xS h a = some (kd, n) → ∃ k : Nat, ws[k]? = some (a, ent g h a kd n)) (h4 : ∀ (k : Nat) (q : Nat × va_E), ws[k]? = some q → xS h q.1 ≠ none)
    (hs : xS h' = xS h) (ha : xS h a = some (kd, n)) (e0 : va_E) (he : ws[q0]? = some (a, e0)) (ho : ∀ b kd n : Nat, b ≠ a → ent g h' b kd n = ent g h b kd n) {e : va_E} (ee : e = ent g h' a kd n)
    (hP1 : va_P (gD g) kcl (ws.set q0 (a, e)) H1) (hD1 : va_D (gA g) (ws.set q0 (a, e))) : HG g h' H1 := by
  have hlt : q0 < ws.length := (List.getElem?_eq_some_iff.mp he).1
  refine ⟨_, hP1, hD1, fun b kd' n' hb => ?_, fun k q hq => ?_⟩
  · rw [hs] at hb
    by_cases hba : b = a
    · subst hba
      rw [ha] at hb
      cases hb
      exact ⟨q0, by rw [List.getElem?_set_self hlt, ee]⟩
    · obtain ⟨k, hk⟩ := h3 b kd' n' hb
      have hne : q0 ≠ k := fun e => by rw [← e, he] at hk; cases hk; exact hba rfl
      exact ⟨k, by rw [List.getElem?_set_ne hne, hk, ho b kd' n' hba]⟩
  · rw [hs]
    by_cases hk : q0 = k
    · subst hk
      rw [List.getElem?_set_self hlt] at hq
      cases hq
      rw [ha]
      exact fun z => nomatch z
    · rw [List.getElem?_set_ne hk] at hq
      exact h4 k q hq
theorem HG.push {g : Gl} {h h' : Hp} {H1 : Heap} {ws : va_W} {q kd n : Nat} {e : va_E} (h3 : ∀ a kd n : Nat, xS h a = some (kd, n) → ∃ k : Nat, ws[k]? = some (a, ent g h a kd n)) (h4 : ∀ (k : Nat) (q : Nat × va_E), ws[k]? = some q → xS h q.1 ≠ none)
    (hP1 : va_P (gD g) kcl (ws ++ [(q, e)]) H1) (hD1 : va_D (gA g) (ws ++ [(q, e)])) (hs : xS h' = va_up (xS h) q (some (kd, n))) (ho : ∀ b kd n : Nat, b ≠ q → ent g h' b kd n = ent g h b kd n) (ee : e = ent g h' q kd n) : HG g h' H1 ∧ xS h q = none := by
  have hlast : (ws ++ [(q, e)])[ws.length]? = some (q, e) := by simp
  have hfresh : xS h q = none := by
    cases hq : xS h q with
    | none => rfl
    | some z =>
      obtain ⟨k, hk⟩ := h3 q z.1 z.2 hq
      have hkl : k < ws.length := (List.getElem?_eq_some_iff.mp hk).1
      have := hD1.1 k ws.length (q, ent g h q z.1 z.2) (q, e) (by rw [List.getElem?_append_left hkl]; exact hk) hlast rfl
      omega
  refine ⟨⟨_, hP1, hD1, fun b kd' n' hb => ?_, fun k p hp => ?_⟩, hfresh⟩
  · rw [hs] at hb
    by_cases hba : b = q
    · subst hba
      rw [va_up_self] at hb
      cases hb
      exact ⟨ws.length, by rw [hlast, ee]⟩
    · rw [va_up_ne _ _ hba] at hb
      obtain ⟨k, hk⟩ := h3 b kd' n' hb
      have hkl : k < ws.length := (List.getElem?_eq_some_iff.mp hk).1
      exact ⟨k, by rw [List.getElem?_append_left hkl, hk, ho b kd' n' hba]⟩
  · rw [hs]
    by_cases hk : k < ws.length
    · rw [List.getElem?_append_left hk] at hp
      by_cases hpq : p.1 = q
      · rw [hpq, va_up_self]; exact fun z => nomatch z
      · rw [va_up_ne _ _ hpq]; exact h4 k p hp
    · have hl : k < (ws ++ [(q, e)]).length := (List.getElem?_eq_some_iff.mp hp).1
      have : k = ws.length := by simp at hl; omega
      subst this
      rw [hlast] at hp
      cases hp
      rw [va_up_self]; exact fun z => nomatch z
/-- locals: a list, a place each -/
def LV (ls : Array Slot) (nL : Nat) (lv : List (Option Value)) : Prop := ls.size = nL ∧ lv_wf ls ∧ ∀ (i : Nat) (v : Value), lv[i]? = some (some v) → ls[i]? = some (.val v) ∧ v.category = 1
theorem LV.at {ls : Array Slot} {nL : Nat} {lv : List (Option Value)} (h : LV ls nL lv) {i : Nat} {v : Value} (hi : lv[i]? = some (some v)) : ls[i]? = some (.val v) := (h.2.2 i v hi).1
def lvl (lv : List (Option Value)) : List (Nat × Value) := lv.zipIdx.filterMap (fun q => q.1.map (fun v => (q.2, v)))
theorem mem_lvl {lv : List (Option Value)} {j : Nat} {v : Value} : (j, v) ∈ lvl lv ↔ lv[j]? = some (some v) := by
  simp only [lvl, List.mem_filterMap, Option.map_eq_some_iff, Prod.mk.injEq]
  constructor
  · rintro ⟨⟨o, i⟩, hm, w, h1, h2, h3⟩
    have := List.mem_zipIdx_iff_getElem?.mp hm
    dsimp only at h1 h2 this
    subst h2; subst h3; subst h1
    exact this
  · intro h
    exact ⟨(some v, j), List.mem_zipIdx_iff_getElem?.mpr h, v, rfl, rfl, rfl⟩
theorem LV.has {ls : Array Slot} {nL : Nat} {lv : List (Option Value)} (h : LV ls nL lv) : lv_has ls nL (lvl lv) := ⟨h.1, h.2.1, fun q hq => (h.2.2 q.1 q.2 (mem_lvl.mp hq)).1⟩
theorem LV.stored {ls ls' : Array Slot} {nL i : Nat} {lv : List (Option Value)} {v : Value} (h : LV ls nL lv) (hc : v.category = 1) (h' : lv_has ls' nL ((i, v) :: (lvl lv).filter (fun q => !(q.1 == i) && !(q.1 + 1 == i && q.2.category == 2)))) : LV ls' nL (lv.set i (some v)) := by
  refine ⟨h'.1, h'.2.1, fun j w hj => ?_⟩
  by_cases hij : i = j
  · subst hij
    rw [List.getElem?_set] at hj
    simp only [if_true] at hj
    split at hj
    · cases hj
      exact ⟨h'.2.2 (i, v) List.mem_cons_self, hc⟩
    · cases hj
  · rw [List.getElem?_set_ne hij] at hj
    obtain ⟨h1, h2⟩ := h.2.2 j w hj
    refine ⟨h'.2.2 (j, w) (List.mem_cons_of_mem _ (List.mem_filter.mpr ⟨mem_lvl.mpr hj, ?_⟩)), h2⟩
    simp only [h2, Bool.and_eq_true, Bool.not_eq_true', beq_eq_false_iff_ne, ne_eq, Bool.and_eq_false_iff]
    exact ⟨fun e => hij e.symm, Or.inr (by decide)⟩
theorem lv_args1 (vs : List Value) (hc : ∀ v ∈ vs, v.category = 1) : ∀ k : Nat, ∀ (i : Nat) (v : Value), vs[i]? = some v → (k + i, v) ∈ lv_args k vs := by
  induction vs with
  | nil => intro k i v h; simp at h
  | cons a t ih =>
    intro k i v h
    have ha : ¬ a.category = 2 := by rw [hc a List.mem_cons_self]; decide
    rw [lv_args, if_neg ha]
    cases i with
    | zero => simp at h; subst h; exact List.mem_cons_self
    | succ j =>
      have := ih (fun v hv => hc v (List.mem_cons_of_mem _ hv)) (k + 1) j v (by simpa using h)
      rw [show k + (j + 1) = k + 1 + j by omega]
      exact List.mem_cons_of_mem _ this
theorem lg_sl1 (vs : List Value) (hc : ∀ v ∈ vs, v.category = 1) : lg_sl vs = vs.map Slot.val := by
  induction vs with
  | nil => rfl
  | cons a t ih =>
    have ha : ¬ a.category = 2 := by rw [hc a List.mem_cons_self]; decide
    have e : lg_sl (a :: t) = (if a.category = 2 then [Slot.val a, Slot.second] else [Slot.val a]) ++ lg_sl t := by simp [lg_sl]
    rw [e, if_neg ha, ih (fun v hv => hc v (List.mem_cons_of_mem _ hv))]
    rfl
def lv0 (vs : List Value) (nL : Nat) : List (Option Value) := vs.map some ++ List.replicate (nL - vs.length) none
theorem LV.entry (vs : List Value) {nL : Nat} (hn : vs.length ≤ nL) (hc : ∀ v ∈ vs, v.category = 1) : LV ((lg_sl vs ++ List.replicate (nL - (lg_sl vs).length) Slot.unset).toArray) nL (lv0 vs nL) := by
  have hl := lg_sl1 vs hc
  have hh := lv_entry vs (n := nL) (by rw [hl, List.length_map]; exact hn)
  refine ⟨hh.1, hh.2.1, fun i v hi => ?_⟩
  have hv : vs[i]? = some v := by
    unfold lv0 at hi
    by_cases hil : i < vs.length
    · rw [List.getElem?_append_left (by simpa using hil), List.getElem?_map] at hi
      cases hz : vs[i]? with
      | none => rw [hz] at hi; cases hi
      | some w => rw [hz] at hi; cases hi; rfl
    · rw [List.getElem?_append_right (by simpa using hil)] at hi
      have := List.eq_of_mem_replicate (List.mem_of_getElem? hi)
      cases this
  have := lv_args1 vs hc 0 i v hv
  rw [Nat.zero_add] at this
  exact ⟨hh.2.2 (i, v) this, hc v (List.mem_of_getElem? hv)⟩
end
section
/-! ===== what holds at every method's entry; a method's walk as V; its contract ===== -/
def TB : List Cond := lw_tbl.filter goodWord
def isNw : Cond → Bool
  | .castable _ _ => true
  | .methodLinkNest _ _ _ _ => true
  | .declares _ => true
  | _ => false
def NW : List Cond := lw_tbl.filter isNw
theorem TB_good {w : Cond} (h : w ∈ TB) : w ∈ TB ∧ ((w.onTables && w.keeps) = true ∨ ∃ ty, w = .arrayClass ty) := ⟨h, good_of_word (List.mem_filter.mp h).2⟩
theorem TB_in {ws : List Cond} (h : ∀ w ∈ ws, w ∈ TB) : GoodIn TB ws := fun w hw => TB_good (h w hw)
theorem TB_at {w : Cond} (i : Nat) (h : lw_tbl[i]? = some w) (hg : goodWord w = true) : w ∈ TB := List.mem_filter.mpr ⟨List.mem_of_getElem? h, hg⟩
theorem NW_at {w : Cond} (i : Nat) (h : lw_tbl[i]? = some w) (hg : isNw w = true) : w ∈ NW := List.mem_filter.mpr ⟨List.mem_of_getElem? h, hg⟩
def easeL : List Int32 := [0, 8, 16, 24, 32, 40, 48, 56, 0, 1, 4, 9, 16, 25, 36, 49, 0, 15, 28, 39, 48, 55, 60, 63, 0, 0, 0, 0, 0, 0, 0, 0]
def strs : List (String × Nat × String) := [("Puppetloom", 212, "a number is out of range"), ("Puppetloom", 43, "there are 8 puppets"), ("Puppetloom", 215, "there is no such puppet"), ("Puppetloom", 71, "the puppet has 12 keys"), ("Puppetloom", 84, "the puppet has no key at this frame"), ("Puppetloom", 93, "there is no such sound"), ("Puppetloom", 100, "there are 6 shows"), ("Puppetloom", 217, "there is no such show"), ("Puppetloom", 121, "the show is performed or has the puppet"), ("Puppetloom", 134, "the puppet is worn or does something else"), ("Puppetloom", 142, "the show is performed or has not the puppet"), ("Puppetloom", 150, "the show is performed or has not so many seats left"), ("Puppetloom", 155, "the show is performed or has no puppets"), ("Puppetloom", 167, "the puppet has no worn joints or was mended 10 times"), ("Puppetloom", 169, "the puppet does something else"), ("Puppetloom", 219, "the show has not the puppet")]
def ncs : List (String × String) := [("java/lang/IllegalArgumentException", "java/lang/IndexOutOfBoundsException"), ("java/lang/IllegalStateException", "java/lang/IndexOutOfBoundsException"), ("java/lang/IllegalStateException", "java/lang/IllegalArgumentException"), ("java/util/NoSuchElementException", "java/lang/IndexOutOfBoundsException")]
def GlW (g : Gl) (U : State) : Prop := va_K (gD g) kcl (tys g) U ∧ (∀ w ∈ NW, va_Nw w U) ∧ va_Mi "[Ljava/lang/Object;" (gN g 3) U ∧ va_Dc U ∧ va_AO "java/lang/Object" U ∧ (∀ (k : Nat) (q : String × Nat × String), strs[k]? = some q → vk_R q.1 q.2.1 q.2.2 (gN g (10 + k)) U) ∧ ∀ q ∈ ncs, va_Nc q.1 q.2 U
def GlH (g : Gl) (U : State) : Prop := va_Z "Puppetloom" "EASING" "[I" (.ref (gN g 1)) (gA g) U U.heap ∧ va_T .int (gN g 1) 32 (fun j => .int (easeL.getD j 0)) (gA g) U U.heap ∧ va_Z "java/util/ArrayList" "DEFAULTCAPACITY_EMPTY_ELEMENTDATA" "[Ljava/lang/Object;" (.ref (gN g 2)) (gA g) U U.heap ∧ va_T (.object "java/lang/Object") (gN g 2) 0 (fun _ => .null) (gA g) U U.heap ∧ va_T .int (gN g 4) (gN g 5) (fun j => .int (gX g j)) (gA g) U U.heap ∧ vx_Zq Bundle.tN "UNASSIGNED_STACK" Bundle.steD (gA g) U U.heap ∧ vx_Zq Bundle.tN "SUPPRESSED_SENTINEL" Bundle.listD (gA g) U U.heap ∧ gN g 0 ≤ U.heap.size
def Glob (g : Gl) (U : State) : Prop := GlW g U ∧ GlH g U
theorem nw_moved {w : Cond} (hw : w ∈ NW) {s U : State} (hW : s.WarmedH U.vm) (hZ : va_Nw w s) : va_Nw w U := by
  have h := (List.mem_filter.mp hw).2
  cases w <;> first | exact va_Nw.warmC hW hZ | exact va_Nw.warmM hW hZ | exact va_Nw.warmD hW hZ | exact absurd h (by simp [isNw])
theorem GlW.moved {g : Gl} {s U : State} (hW : s.WarmedH U.vm) (h : GlW g s) : GlW g U := by
  obtain ⟨h1, h2, h3, h4, h5, h6, h7⟩ := h
  have ha := hW.alike
  exact ⟨va_K.moved ha h1, fun w hw => nw_moved hw hW (h2 w hw), va_Mi.moved ha h3, va_Dc.moved ha h4, va_AO.moved ha h5, fun k q hk => vk_R.warm hW (h6 k q hk), fun q hq => va_Nc.moved ha (h7 q hq)⟩
theorem GlH.moved {g : Gl} {s U : State} (hW : s.WarmedH U.vm) (hz : s.heap.size ≤ U.heap.size) (hq : ∀ a : Nat, a < s.heap.size → ¬ gA g a → U.heap[a]? = s.heap[a]?) (h : GlH g s) : GlH g U := by
  obtain ⟨h1, h2, h3, h4, h5, h6, h7, h8⟩ := h
  have ha := hW.alike
  exact ⟨va_Z.moved ha (h1.kept hq), va_T.moved ha (h2.kept hq), va_Z.moved ha (h3.kept hq), va_T.moved ha (h4.kept hq), va_T.moved ha (h5.kept hq), vx_Zq.moved ha (h6.kept hq), vx_Zq.moved ha (h7.kept hq), Nat.le_trans h8 hz⟩
theorem Glob.at {g : Gl} {s U : State} {H : Heap} {locs : List Loc} (h : Glob g s) (hS : va_S (gA g) s.heap H locs) (hU : U.heap = H) (hW : s.WarmedH U.vm) : Glob g U :=
  ⟨h.1.moved hW, h.2.moved hW (by rw [hU]; exact hS.1) (fun a h1 h2 => by rw [hU]; exact hS.2.1 a h1 h2)⟩
abbrev Res : Type := Option Value ⊕ String
def QC (g : Gl) (post : Res → Hp → Prop) : Array Value → State → Outcome → State → Prop := fun _ st o t => (∃ (r : Option Value) (h' : Hp), o = .returned r ∧ post (.inl r) h' ∧ HG g h' t.heap) ∧ va_F (gA g) st t
def XQ (g : Gl) (post : Res → Hp → Prop) : String → State → State → Prop := fun E st t => (∃ h' : Hp, post (.inr E) h' ∧ HG g h' t.heap) ∧ va_F (gA g) st t
/-- a method: its name, its bytes, its locals, what it returns -/
abbrev MI : Type := MethodName × ByteArray × Nat × Option FieldType
abbrev cwOf (mi : MI) : Cond := .code mi.1 mi.2.1 mi.2.2.1 mi.2.2.2
abbrev rmOf (d mc ms : Nat) : Room := { frames := d, cells := mc, slots := ms, locals := 60 * d }
abbrev PG (g : Gl) (av : List Value) (h : Hp) : Array Value → State → Prop := va_Pc av (fun U => Glob g U ∧ HG g h U.heap)
/-- the contract of a method, at one state: from args and the heap h it comes back by post; mc cells of ms slots at most -/
def CT (g : Gl) (l : Launch) (mi : MI) (d : Nat) (av : List Value) (h : Hp) (mc ms : Nat) (post : Res → Hp → Prop) : Prop := vx_Met l mi.1 (cwOf mi :: TB) (rmOf d mc ms) (PG g av h) (QC g post) (XQ g post) mc ms (gA g)
def CTW (g : Gl) (l : Launch) (mi : MI) (hh : List (Nat × Nat × Nat × Nat)) (d : Nat) (av : List Value) (h : Hp) (mc ms : Nat) (post : Res → Hp → Prop) : Prop := vx_Met l mi.1 (.codeWith mi.1 mi.2.1 mi.2.2.1 mi.2.2.2 hh :: TB) (rmOf d mc ms) (PG g av h) (QC g post) (XQ g post) mc ms (gA g)
theorem PG.blind {g : Gl} {av : List Value} {h : Hp} : FrameBlind (PG g av h) := by
  intro a U fr mk hp
  obtain ⟨h1, h2, h3⟩ := hp
  exact ⟨h1, h2.at (U := U.calling fr mk a) (H := U.heap) (locs := []) va_S.rf rfl (State.WarmedH.refl U), h3⟩
theorem ct_met {g : Gl} {l : Launch} {mi : MI} {d : Nat} {av : List Value} {h : Hp} {mc ms : Nat} {post : Res → Hp → Prop} (hM : CT g l mi d av h mc ms post) (hno : ∀ (E : String) (h' : Hp), ¬ post (.inr E) h') : Met l mi.1 (cwOf mi :: TB) (rmOf d mc ms) (PG g av h) (QC g post) mc ms (gA g) := by
  intro p e h1 h2 h3 s m args below h4 h5 h6 h7
  obtain ⟨n, o, a1, a2, a3, a4⟩ := hM p e h1 h2 h3 s m args below h4 h5 h6 h7
  refine ⟨n, o, a1, a2, a3, ?_⟩
  rcases a4 with b | ⟨q, -, E, ce, L, ⟨⟨h', b1, -⟩, -⟩, -⟩
  · exact b
  · exact absurd b1 (hno E h')
theorem ctw_met {g : Gl} {l : Launch} {mi : MI} {hh : List (Nat × Nat × Nat × Nat)} {d : Nat} {av : List Value} {h : Hp} {mc ms : Nat} {post : Res → Hp → Prop} (hM : CTW g l mi hh d av h mc ms post) (hno : ∀ (E : String) (h' : Hp), ¬ post (.inr E) h') : Met l mi.1 (.codeWith mi.1 mi.2.1 mi.2.2.1 mi.2.2.2 hh :: TB) (rmOf d mc ms) (PG g av h) (QC g post) mc ms (gA g) := by
  intro p e h1 h2 h3 s m args below h4 h5 h6 h7
  obtain ⟨n, o, a1, a2, a3, a4⟩ := hM p e h1 h2 h3 s m args below h4 h5 h6 h7
  refine ⟨n, o, a1, a2, a3, ?_⟩
  rcases a4 with b | ⟨q, -, E, ce, L, ⟨⟨h', b1, -⟩, -⟩, -⟩
  · exact b
  · exact absurd b1 (hno E h')
abbrev VT : Type := Nat → List (Option Value) → List Value → Hp → Nat → Nat → Prop
abbrev XT : Type := Nat → List (Option Value) → String → Hp → Nat → Nat → Prop
/-- the frame of a walk: V says that from there the method comes to Q; X the same where an object of that class has just been thrown -/
def MachQ (g : Gl) (l : Launch) (R : Room) (own : String) (cc : ByteArray) (nL : Nat) (hh : List (Nat × Nat × Nat × Nat)) (mn : String) (Qs : State → MethodId → Array Value → List Frame → Method → State → Prop) (V : VT) (X : XT) (p : Program) (e : Env) (s : State) (m : MethodId) (args : Array Value) (below : List Frame) (meth : Method) (c : Code) : Prop :=
  p.tables.exec = Jvm.exec ∧ c.code = cc ∧ c.maxLocals = nL ∧ s.vm.findClass own = some m.cls ∧ (∀ w ∈ TB, w.before args s = true) ∧ Glob g s ∧ meth.locks = false ∧ meth.name = mn ∧ c.exceptionTable.toList = tableOf hh ∧ l.stackTraces = false ∧
  (V = fun pc lv st h kc ks => kc ≤ R.cells → ks ≤ R.slots → ∀ (H : Heap) (locs : List Loc) (ls : Array Slot), HG g h H → va_S (gA g) s.heap H locs → LV ls nL lv → W p l e R s m args below meth c H locs kc ks (Qs s m args below meth) (F0 m pc ls st)) ∧
  (X = fun pc lv E h kc ks => kc ≤ R.cells → ks ≤ R.slots → ∀ (H : Heap) (locs : List Loc) (ls : Array Slot) (q : Nat) (ce : Cell) (rest : List Value), HG g h H → va_S (gA g) s.heap H locs → LV ls nL lv → H[q]? = some ce → ce.vm = .none → s.vm.findClass E = some ce.cls → vx_W p l e R s m args below meth c H locs kc ks (Qs s m args below meth) (F0 m pc ls rest) q)
def Mach (g : Gl) (l : Launch) (R : Room) (own : String) (cc : ByteArray) (nL : Nat) (hh : List (Nat × Nat × Nat × Nat)) (mn : String) (V : VT) (X : XT) : Prop := ∃ (Qs : State → MethodId → Array Value → List Frame → Method → State → Prop) (p : Program) (e : Env) (s : State) (m : MethodId) (args : Array Value) (below : List Frame) (meth : Method) (c : Code), MachQ g l R own cc nL hh mn Qs V X p e s m args below meth c
/-- .. of a method that is to end by post -/
def MachR (g : Gl) (l : Launch) (mc ms d : Nat) (own : String) (cc : ByteArray) (nL : Nat) (ret : Option FieldType) (hh : List (Nat × Nat × Nat × Nat)) (mn : String) (post : Res → Hp → Prop) (V : VT) (X : XT) : Prop := ∃ (p : Program) (e : Env) (s : State) (m : MethodId) (args : Array Value) (below : List Frame) (meth : Method) (c : Code), meth.sig.returnType = ret ∧ MachQ g l (rmOf d mc ms) own cc nL hh mn (fun s _ args below _ => vx_MQ below (QC g post) (XQ g post) args s mc ms (gA g)) V X p e s m args below meth c
theorem MachR.m {g : Gl} {l : Launch} {mc ms d : Nat} {own : String} {cc : ByteArray} {nL : Nat} {ret : Option FieldType} {hh : List (Nat × Nat × Nat × Nat)} {mn : String} {post : Res → Hp → Prop} {V : VT} {X : XT} (M : MachR g l mc ms d own cc nL ret hh mn post V X) : Mach g l (rmOf d mc ms) own cc nL hh mn V X := by
  obtain ⟨p, e, s, m, args, below, meth, c, -, h⟩ := M
  exact ⟨_, p, e, s, m, args, below, meth, c, h⟩
theorem ct_mk {g : Gl} {l : Launch} (hfl : l.stackTraces = false) {y : MethodName} {cc : ByteArray} {nL : Nat} {ret : Option FieldType} {d : Nat} {av : List Value} {h : Hp} {mc ms : Nat} {post : Res → Hp → Prop} (hy : plainName y.cls = true) (hn : av.length ≤ nL) (hc : ∀ v ∈ av, v.category = 1)
    (body : ∀ (V : VT) (X : XT), MachR g l mc ms d y.cls cc nL ret [] y.name post V X → V 0 (lv0 av nL) [] h 0 0) : CT g l (y, cc, nL, ret) d av h mc ms post := by
  refine vx_ofW (cc := cc) (maxL := nL) (ret := ret) hy rfl ?_
  intro p e s m args below meth c s₁ B hml htab hv
  obtain ⟨rfl, hgl, hhg⟩ := hv
  have hts : ∀ w ∈ TB, w.before av.toArray s = true := fun w hw => atoms_spec (ws := cwOf (y, cc, nL, ret) :: TB) B.pre w (List.mem_cons_of_mem _ hw)
  have hexc : c.exceptionTable.toList = tableOf [] := by
    have : c.exceptionTable.toList = [] := List.eq_nil_iff_forall_not_mem.mpr htab
    rw [this]; rfl
  have hV := body _ _ ⟨p, e, s, m, av.toArray, below, meth, c, B.returns, B.exec, B.bytes, hml, findClass_of_methodNamed B.named, hts, hgl, B.notSynchronized, (name_of_methodNamed B.named B.method).1, hexc, hfl, rfl, rfl⟩
  rw [lg_entry_eq]
  exact hV (Nat.zero_le _) (Nat.zero_le _) s.heap [] _ hhg va_S.rf (LV.entry av hn hc)
theorem ctw_mk {g : Gl} {l : Launch} (hfl : l.stackTraces = false) {y : MethodName} {cc : ByteArray} {nL : Nat} {ret : Option FieldType} {hh : List (Nat × Nat × Nat × Nat)} {d : Nat} {av : List Value} {h : Hp} {mc ms : Nat} {post : Res → Hp → Prop} (hy : plainName y.cls = true) (hn : av.length ≤ nL) (hc : ∀ v ∈ av, v.category = 1)
    (body : ∀ (V : VT) (X : XT), MachR g l mc ms d y.cls cc nL ret hh y.name post V X → V 0 (lv0 av nL) [] h 0 0) : CTW g l (y, cc, nL, ret) hh d av h mc ms post := by
  refine vx_ofWH (cc := cc) (maxL := nL) (ret := ret) (hh := hh) hy rfl ?_
  intro p e s m args below meth c s₁ B hml hv
  obtain ⟨rfl, hgl, hhg⟩ := hv
  have hts0 := atoms_spec (ws := .codeWith y cc nL ret hh :: TB) B.pre
  have hts : ∀ w ∈ TB, w.before av.toArray s = true := fun w hw => hts0 w (List.mem_cons_of_mem _ hw)
  have hexc : c.exceptionTable.toList = tableOf hh := vx_table (x := y) B (hts0 _ List.mem_cons_self)
  have hV := body _ _ ⟨p, e, s, m, av.toArray, below, meth, c, B.returns, B.exec, B.bytes, hml, findClass_of_methodNamed B.named, hts, hgl, B.notSynchronized, (name_of_methodNamed B.named B.method).1, hexc, hfl, rfl, rfl⟩
  rw [lg_entry_eq]
  exact hV (Nat.zero_le _) (Nat.zero_le _) s.heap [] _ hhg va_S.rf (LV.entry av hn hc)
section Rules
variable {g : Gl} {l : Launch} {R : Room} {own : String} {cc : ByteArray} {nL : Nat} {hh : List (Nat × Nat × Nat × Nat)} {mn : String} {V : VT} {X : XT} {pc : Nat} {lv : List (Option Value)} {st : List Value} {h : Hp} {kc ks : Nat}

theorem r_iconst (M : Mach g l R own cc nL hh mn V X) {n : Int} {v : Int32} (hd : decode cc pc = .ok (.iconst n, 1)) (hv : Int32.ofInt n = v) (kk : V (pc + 1) lv (.int v :: st) h kc ks) : V pc lv (st) h kc ks := by
  obtain ⟨Qs, p, e, s, m, args, below, meth, c, hx, hb, hml, hown, hts, hgl, hlk, hnm, htab, hst, rfl, rfl⟩ := M
  intro hkc hks H locs ls hG hS hl
  exact lv_iconst hx hb hd hv (kk hkc hks H locs ls hG hS hl)
theorem r_bipush (M : Mach g l R own cc nL hh mn V X) {n : Int} {v : Int32} (hd : decode cc pc = .ok (.bipush n, 2)) (hv : (Int8.ofInt n).toInt32 = v) (kk : V (pc + 2) lv (.int v :: st) h kc ks) : V pc lv (st) h kc ks := by
  obtain ⟨Qs, p, e, s, m, args, below, meth, c, hx, hb, hml, hown, hts, hgl, hlk, hnm, htab, hst, rfl, rfl⟩ := M
  intro hkc hks H locs ls hG hS hl
  exact lv_bipush hx hb hd hv (kk hkc hks H locs ls hG hS hl)
theorem r_sipush (M : Mach g l R own cc nL hh mn V X) {n : Int} {v : Int32} (hd : decode cc pc = .ok (.sipush n, 3)) (hv : (Int16.ofInt n).toInt32 = v) (kk : V (pc + 3) lv (.int v :: st) h kc ks) : V pc lv (st) h kc ks := by
  obtain ⟨Qs, p, e, s, m, args, below, meth, c, hx, hb, hml, hown, hts, hgl, hlk, hnm, htab, hst, rfl, rfl⟩ := M
  intro hkc hks H locs ls hG hS hl
  exact lv_sipush hx hb hd hv (kk hkc hks H locs ls hG hS hl)
theorem r_lconst (M : Mach g l R own cc nL hh mn V X) {n : Fin 2} {v : Int64} (hd : decode cc pc = .ok (.lconst n, 1)) (hv : Int64.ofNat (n : Nat) = v) (kk : V (pc + 1) lv (.long v :: st) h kc ks) : V pc lv (st) h kc ks := by
  obtain ⟨Qs, p, e, s, m, args, below, meth, c, hx, hb, hml, hown, hts, hgl, hlk, hnm, htab, hst, rfl, rfl⟩ := M
  intro hkc hks H locs ls hG hS hl
  exact lv_lconst hx hb hd hv (kk hkc hks H locs ls hG hS hl)
theorem r_null (M : Mach g l R own cc nL hh mn V X) (hd : decode cc pc = .ok (.aconst_null, 1)) (kk : V (pc + 1) lv (.null :: st) h kc ks) : V pc lv (st) h kc ks := by
  obtain ⟨Qs, p, e, s, m, args, below, meth, c, hx, hb, hml, hown, hts, hgl, hlk, hnm, htab, hst, rfl, rfl⟩ := M
  intro hkc hks H locs ls hG hS hl
  exact lv_null hx hb hd (kk hkc hks H locs ls hG hS hl)
theorem r_iload_n (M : Mach g l R own cc nL hh mn V X) {k : Fin 4} {x : Int32} (hd : decode cc pc = .ok (.iload_n k, 1)) (hi : lv[(k : Nat)]? = some (some (.int x))) (kk : V (pc + 1) lv (.int x :: st) h kc ks) : V pc lv (st) h kc ks := by
  obtain ⟨Qs, p, e, s, m, args, below, meth, c, hx, hb, hml, hown, hts, hgl, hlk, hnm, htab, hst, rfl, rfl⟩ := M
  intro hkc hks H locs ls hG hS hl
  exact lv_iload_n hx hb hd rfl (hl.at hi) (kk hkc hks H locs ls hG hS hl)
theorem r_iload (M : Mach g l R own cc nL hh mn V X) {i : Nat} {x : Int32} (hd : decode cc pc = .ok (.iload i, 2)) (hi : lv[i]? = some (some (.int x))) (kk : V (pc + 2) lv (.int x :: st) h kc ks) : V pc lv (st) h kc ks := by
  obtain ⟨Qs, p, e, s, m, args, below, meth, c, hx, hb, hml, hown, hts, hgl, hlk, hnm, htab, hst, rfl, rfl⟩ := M
  intro hkc hks H locs ls hG hS hl
  exact lv_iload hx hb hd (hl.at hi) (kk hkc hks H locs ls hG hS hl)
theorem r_aload_n (M : Mach g l R own cc nL hh mn V X) {k : Fin 4} {x : Nat} (hd : decode cc pc = .ok (.aload_n k, 1)) (hi : lv[(k : Nat)]? = some (some (.ref x))) (kk : V (pc + 1) lv (.ref x :: st) h kc ks) : V pc lv (st) h kc ks := by
  obtain ⟨Qs, p, e, s, m, args, below, meth, c, hx, hb, hml, hown, hts, hgl, hlk, hnm, htab, hst, rfl, rfl⟩ := M
  intro hkc hks H locs ls hG hS hl
  exact lv_aload_n hx hb hd rfl (hl.at hi) (kk hkc hks H locs ls hG hS hl)
theorem r_aload (M : Mach g l R own cc nL hh mn V X) {i : Nat} {x : Nat} (hd : decode cc pc = .ok (.aload i, 2)) (hi : lv[i]? = some (some (.ref x))) (kk : V (pc + 2) lv (.ref x :: st) h kc ks) : V pc lv (st) h kc ks := by
  obtain ⟨Qs, p, e, s, m, args, below, meth, c, hx, hb, hml, hown, hts, hgl, hlk, hnm, htab, hst, rfl, rfl⟩ := M
  intro hkc hks H locs ls hG hS hl
  exact lv_aload hx hb hd (hl.at hi) (kk hkc hks H locs ls hG hS hl)
theorem r_aload_nN (M : Mach g l R own cc nL hh mn V X) {k : Fin 4} (hd : decode cc pc = .ok (.aload_n k, 1)) (hi : lv[(k : Nat)]? = some (some .null)) (kk : V (pc + 1) lv (.null :: st) h kc ks) : V pc lv (st) h kc ks := by
  obtain ⟨Qs, p, e, s, m, args, below, meth, c, hx, hb, hml, hown, hts, hgl, hlk, hnm, htab, hst, rfl, rfl⟩ := M
  intro hkc hks H locs ls hG hS hl
  exact lv_aload_nN hx hb hd rfl (hl.at hi) (kk hkc hks H locs ls hG hS hl)
theorem r_istore_n (M : Mach g l R own cc nL hh mn V X) {k : Fin 4} {x : Int32} (hd : decode cc pc = .ok (.istore_n k, 1)) (hk : (k : Nat) < nL) (kk : V (pc + 1) (lv.set (k : Nat) (some (.int x))) st h kc ks) : V pc lv (.int x :: st) h kc ks := by
  obtain ⟨Qs, p, e, s, m, args, below, meth, c, hx, hb, hml, hown, hts, hgl, hlk, hnm, htab, hst, rfl, rfl⟩ := M
  intro hkc hks H locs ls hG hS hl
  exact lv_istore_n hx hb hd rfl hl.has hk rfl (fun ls1 h1 => kk hkc hks H locs ls1 hG hS (hl.stored rfl h1))
theorem r_istore (M : Mach g l R own cc nL hh mn V X) {i : Nat} {x : Int32} (hd : decode cc pc = .ok (.istore i, 2)) (hk : i < nL) (kk : V (pc + 2) (lv.set i (some (.int x))) st h kc ks) : V pc lv (.int x :: st) h kc ks := by
  obtain ⟨Qs, p, e, s, m, args, below, meth, c, hx, hb, hml, hown, hts, hgl, hlk, hnm, htab, hst, rfl, rfl⟩ := M
  intro hkc hks H locs ls hG hS hl
  exact lv_istore hx hb hd hl.has hk rfl (fun ls1 h1 => kk hkc hks H locs ls1 hG hS (hl.stored rfl h1))
theorem r_astore_n (M : Mach g l R own cc nL hh mn V X) {k : Fin 4} {x : Nat} (hd : decode cc pc = .ok (.astore_n k, 1)) (hk : (k : Nat) < nL) (kk : V (pc + 1) (lv.set (k : Nat) (some (.ref x))) st h kc ks) : V pc lv (.ref x :: st) h kc ks := by
  obtain ⟨Qs, p, e, s, m, args, below, meth, c, hx, hb, hml, hown, hts, hgl, hlk, hnm, htab, hst, rfl, rfl⟩ := M
  intro hkc hks H locs ls hG hS hl
  exact lv_astore_n hx hb hd rfl hl.has hk rfl (fun ls1 h1 => kk hkc hks H locs ls1 hG hS (hl.stored rfl h1))
theorem r_astore (M : Mach g l R own cc nL hh mn V X) {i : Nat} {x : Nat} (hd : decode cc pc = .ok (.astore i, 2)) (hk : i < nL) (kk : V (pc + 2) (lv.set i (some (.ref x))) st h kc ks) : V pc lv (.ref x :: st) h kc ks := by
  obtain ⟨Qs, p, e, s, m, args, below, meth, c, hx, hb, hml, hown, hts, hgl, hlk, hnm, htab, hst, rfl, rfl⟩ := M
  intro hkc hks H locs ls hG hS hl
  exact lv_astore hx hb hd hl.has hk rfl (fun ls1 h1 => kk hkc hks H locs ls1 hG hS (hl.stored rfl h1))
theorem r_iinc (M : Mach g l R own cc nL hh mn V X) {i : Nat} {n : Int} {x v : Int32} (hd : decode cc pc = .ok (.iinc i n, 3)) (hi : lv[i]? = some (some (.int x))) (hv : x + Int32.ofInt n = v) (hk : i < nL) (kk : V (pc + 3) (lv.set i (some (.int v))) st h kc ks) : V pc lv st h kc ks := by
  obtain ⟨Qs, p, e, s, m, args, below, meth, c, hx, hb, hml, hown, hts, hgl, hlk, hnm, htab, hst, rfl, rfl⟩ := M
  intro hkc hks H locs ls hG hS hl
  obtain ⟨k, hkk⟩ := List.getElem?_of_mem (mem_lvl.mpr hi)
  exact lv_iinc hx hb hd hl.has hkk hv hk rfl (fun ls1 h1 => kk hkc hks H locs ls1 hG hS (hl.stored rfl h1))
theorem r_iadd (M : Mach g l R own cc nL hh mn V X) {x y : Int32} (hd : decode cc pc = .ok (.iadd, 1)) (kk : V (pc + 1) lv (.int (x + y) :: st) h kc ks) : V pc lv (.int y :: .int x :: st) h kc ks := by
  obtain ⟨Qs, p, e, s, m, args, below, meth, c, hx, hb, hml, hown, hts, hgl, hlk, hnm, htab, hst, rfl, rfl⟩ := M
  intro hkc hks H locs ls hG hS hl
  exact lv_iadd hx hb hd (kk hkc hks H locs ls hG hS hl)
theorem r_isub (M : Mach g l R own cc nL hh mn V X) {x y : Int32} (hd : decode cc pc = .ok (.isub, 1)) (kk : V (pc + 1) lv (.int (x - y) :: st) h kc ks) : V pc lv (.int y :: .int x :: st) h kc ks := by
  obtain ⟨Qs, p, e, s, m, args, below, meth, c, hx, hb, hml, hown, hts, hgl, hlk, hnm, htab, hst, rfl, rfl⟩ := M
  intro hkc hks H locs ls hG hS hl
  exact lv_isub hx hb hd (kk hkc hks H locs ls hG hS hl)
theorem r_imul (M : Mach g l R own cc nL hh mn V X) {x y : Int32} (hd : decode cc pc = .ok (.imul, 1)) (kk : V (pc + 1) lv (.int (x * y) :: st) h kc ks) : V pc lv (.int y :: .int x :: st) h kc ks := by
  obtain ⟨Qs, p, e, s, m, args, below, meth, c, hx, hb, hml, hown, hts, hgl, hlk, hnm, htab, hst, rfl, rfl⟩ := M
  intro hkc hks H locs ls hG hS hl
  exact lv_imul hx hb hd (kk hkc hks H locs ls hG hS hl)
theorem r_iand (M : Mach g l R own cc nL hh mn V X) {x y : Int32} (hd : decode cc pc = .ok (.iand, 1)) (kk : V (pc + 1) lv (.int (x &&& y) :: st) h kc ks) : V pc lv (.int y :: .int x :: st) h kc ks := by
  obtain ⟨Qs, p, e, s, m, args, below, meth, c, hx, hb, hml, hown, hts, hgl, hlk, hnm, htab, hst, rfl, rfl⟩ := M
  intro hkc hks H locs ls hG hS hl
  exact lv_iand hx hb hd (kk hkc hks H locs ls hG hS hl)
theorem r_ishr (M : Mach g l R own cc nL hh mn V X) {x y : Int32} (hd : decode cc pc = .ok (.ishr, 1)) (kk : V (pc + 1) lv (.int (x >>> (y &&& 31)) :: st) h kc ks) : V pc lv (.int y :: .int x :: st) h kc ks := by
  obtain ⟨Qs, p, e, s, m, args, below, meth, c, hx, hb, hml, hown, hts, hgl, hlk, hnm, htab, hst, rfl, rfl⟩ := M
  intro hkc hks H locs ls hG hS hl
  exact lv_ishr hx hb hd (kk hkc hks H locs ls hG hS hl)
theorem r_idiv (M : Mach g l R own cc nL hh mn V X) {x y : Int32} (hd : decode cc pc = .ok (.idiv, 1)) (hne : ¬ y = 0) (kk : V (pc + 1) lv (.int (x / y) :: st) h kc ks) : V pc lv (.int y :: .int x :: st) h kc ks := by
  obtain ⟨Qs, p, e, s, m, args, below, meth, c, hx, hb, hml, hown, hts, hgl, hlk, hnm, htab, hst, rfl, rfl⟩ := M
  intro hkc hks H locs ls hG hS hl
  exact lv_idiv hx hb hd hne (kk hkc hks H locs ls hG hS hl)
theorem r_ineg (M : Mach g l R own cc nL hh mn V X) {x : Int32} (hd : decode cc pc = .ok (.ineg, 1)) (kk : V (pc + 1) lv (.int (-x) :: st) h kc ks) : V pc lv (.int x :: st) h kc ks := by
  obtain ⟨Qs, p, e, s, m, args, below, meth, c, hx, hb, hml, hown, hts, hgl, hlk, hnm, htab, hst, rfl, rfl⟩ := M
  intro hkc hks H locs ls hG hS hl
  exact lv_ineg hx hb hd (kk hkc hks H locs ls hG hS hl)
theorem r_i2l (M : Mach g l R own cc nL hh mn V X) {x : Int32} (hd : decode cc pc = .ok (.i2l, 1)) (kk : V (pc + 1) lv (.long x.toInt64 :: st) h kc ks) : V pc lv (.int x :: st) h kc ks := by
  obtain ⟨Qs, p, e, s, m, args, below, meth, c, hx, hb, hml, hown, hts, hgl, hlk, hnm, htab, hst, rfl, rfl⟩ := M
  intro hkc hks H locs ls hG hS hl
  exact lv_i2l hx hb hd rfl (kk hkc hks H locs ls hG hS hl)
theorem r_lcmp (M : Mach g l R own cc nL hh mn V X) {x y : Int64} (hd : decode cc pc = .ok (.lcmp, 1)) (kk : V (pc + 1) lv (.int (lg_cmp x y) :: st) h kc ks) : V pc lv (.long y :: .long x :: st) h kc ks := by
  obtain ⟨Qs, p, e, s, m, args, below, meth, c, hx, hb, hml, hown, hts, hgl, hlk, hnm, htab, hst, rfl, rfl⟩ := M
  intro hkc hks H locs ls hG hS hl
  exact W.lcmp hx hb hd (kk hkc hks H locs ls hG hS hl)
theorem r_dup (M : Mach g l R own cc nL hh mn V X) {a : Value} (hd : decode cc pc = .ok (.dup, 1)) (ha : a.category = 1) (kk : V (pc + 1) lv (a :: a :: st) h kc ks) : V pc lv (a :: st) h kc ks := by
  obtain ⟨Qs, p, e, s, m, args, below, meth, c, hx, hb, hml, hown, hts, hgl, hlk, hnm, htab, hst, rfl, rfl⟩ := M
  intro hkc hks H locs ls hG hS hl
  exact lv_dup hx hb hd ha (kk hkc hks H locs ls hG hS hl)
theorem r_pop (M : Mach g l R own cc nL hh mn V X) {a : Value} (hd : decode cc pc = .ok (.pop, 1)) (ha : a.category = 1) (kk : V (pc + 1) lv (st) h kc ks) : V pc lv (a :: st) h kc ks := by
  obtain ⟨Qs, p, e, s, m, args, below, meth, c, hx, hb, hml, hown, hts, hgl, hlk, hnm, htab, hst, rfl, rfl⟩ := M
  intro hkc hks H locs ls hG hS hl
  exact lv_pop hx hb hd ha (kk hkc hks H locs ls hG hS hl)
theorem r_dup_x1 (M : Mach g l R own cc nL hh mn V X) {a b : Value} (hd : decode cc pc = .ok (.dup_x1, 1)) (ha : a.category = 1) (hb1 : b.category = 1) (kk : V (pc + 1) lv (a :: b :: a :: st) h kc ks) : V pc lv (a :: b :: st) h kc ks := by
  obtain ⟨Qs, p, e, s, m, args, below, meth, c, hx, hb, hml, hown, hts, hgl, hlk, hnm, htab, hst, rfl, rfl⟩ := M
  intro hkc hks H locs ls hG hS hl
  exact lv_dup_x1 hx hb hd ha hb1 (kk hkc hks H locs ls hG hS hl)
theorem r_dup2 (M : Mach g l R own cc nL hh mn V X) {a b : Value} (hd : decode cc pc = .ok (.dup2, 1)) (ha : a.category = 1) (hb1 : b.category = 1) (kk : V (pc + 1) lv (a :: b :: a :: b :: st) h kc ks) : V pc lv (a :: b :: st) h kc ks := by
  obtain ⟨Qs, p, e, s, m, args, below, meth, c, hx, hb, hml, hown, hts, hgl, hlk, hnm, htab, hst, rfl, rfl⟩ := M
  intro hkc hks H locs ls hG hS hl
  exact lv_dup2_11 hx hb hd ha hb1 (kk hkc hks H locs ls hG hS hl)
theorem r_if_eq (M : Mach g l R own cc nL hh mn V X) {x : Int32} {off : Int} {tgt : Nat} (hd : decode cc pc = .ok (.ifCond .eq off, 3)) (ht : (pc : Int) + off = (tgt : Int)) (kt : x = 0 → V tgt lv st h kc ks) (kf : ¬ x = 0 → V (pc + 3) lv st h kc ks) : V pc lv (.int x :: st) h kc ks := by
  obtain ⟨Qs, p, e, s, m, args, below, meth, c, hx, hb, hml, hown, hts, hgl, hlk, hnm, htab, hst, rfl, rfl⟩ := M
  intro hkc hks H locs ls hG hS hl
  exact lv_if_eq hx hb hd ht (fun z => kt z hkc hks H locs ls hG hS hl) (fun z => kf z hkc hks H locs ls hG hS hl)
theorem r_icmp_eq (M : Mach g l R own cc nL hh mn V X) {x y : Int32} {off : Int} {tgt : Nat} (hd : decode cc pc = .ok (.if_icmp .eq off, 3)) (ht : (pc : Int) + off = (tgt : Int)) (kt : x = y → V tgt lv st h kc ks) (kf : ¬ x = y → V (pc + 3) lv st h kc ks) : V pc lv (.int y :: .int x :: st) h kc ks := by
  obtain ⟨Qs, p, e, s, m, args, below, meth, c, hx, hb, hml, hown, hts, hgl, hlk, hnm, htab, hst, rfl, rfl⟩ := M
  intro hkc hks H locs ls hG hS hl
  exact lv_icmp_eq hx hb hd ht (fun z => kt z hkc hks H locs ls hG hS hl) (fun z => kf z hkc hks H locs ls hG hS hl)
theorem r_if_ne (M : Mach g l R own cc nL hh mn V X) {x : Int32} {off : Int} {tgt : Nat} (hd : decode cc pc = .ok (.ifCond .ne off, 3)) (ht : (pc : Int) + off = (tgt : Int)) (kt : ¬ x = 0 → V tgt lv st h kc ks) (kf : x = 0 → V (pc + 3) lv st h kc ks) : V pc lv (.int x :: st) h kc ks := by
  obtain ⟨Qs, p, e, s, m, args, below, meth, c, hx, hb, hml, hown, hts, hgl, hlk, hnm, htab, hst, rfl, rfl⟩ := M
  intro hkc hks H locs ls hG hS hl
  exact lv_if_ne hx hb hd ht (fun z => kt z hkc hks H locs ls hG hS hl) (fun z => kf z hkc hks H locs ls hG hS hl)
theorem r_icmp_ne (M : Mach g l R own cc nL hh mn V X) {x y : Int32} {off : Int} {tgt : Nat} (hd : decode cc pc = .ok (.if_icmp .ne off, 3)) (ht : (pc : Int) + off = (tgt : Int)) (kt : ¬ x = y → V tgt lv st h kc ks) (kf : x = y → V (pc + 3) lv st h kc ks) : V pc lv (.int y :: .int x :: st) h kc ks := by
  obtain ⟨Qs, p, e, s, m, args, below, meth, c, hx, hb, hml, hown, hts, hgl, hlk, hnm, htab, hst, rfl, rfl⟩ := M
  intro hkc hks H locs ls hG hS hl
  exact lv_icmp_ne hx hb hd ht (fun z => kt z hkc hks H locs ls hG hS hl) (fun z => kf z hkc hks H locs ls hG hS hl)
theorem r_if_lt (M : Mach g l R own cc nL hh mn V X) {x : Int32} {off : Int} {tgt : Nat} (hd : decode cc pc = .ok (.ifCond .lt off, 3)) (ht : (pc : Int) + off = (tgt : Int)) (kt : x < 0 → V tgt lv st h kc ks) (kf : ¬ x < 0 → V (pc + 3) lv st h kc ks) : V pc lv (.int x :: st) h kc ks := by
  obtain ⟨Qs, p, e, s, m, args, below, meth, c, hx, hb, hml, hown, hts, hgl, hlk, hnm, htab, hst, rfl, rfl⟩ := M
  intro hkc hks H locs ls hG hS hl
  exact lv_if_lt hx hb hd ht (fun z => kt z hkc hks H locs ls hG hS hl) (fun z => kf z hkc hks H locs ls hG hS hl)
theorem r_icmp_lt (M : Mach g l R own cc nL hh mn V X) {x y : Int32} {off : Int} {tgt : Nat} (hd : decode cc pc = .ok (.if_icmp .lt off, 3)) (ht : (pc : Int) + off = (tgt : Int)) (kt : x < y → V tgt lv st h kc ks) (kf : ¬ x < y → V (pc + 3) lv st h kc ks) : V pc lv (.int y :: .int x :: st) h kc ks := by
  obtain ⟨Qs, p, e, s, m, args, below, meth, c, hx, hb, hml, hown, hts, hgl, hlk, hnm, htab, hst, rfl, rfl⟩ := M
  intro hkc hks H locs ls hG hS hl
  exact lv_icmp_lt hx hb hd ht (fun z => kt z hkc hks H locs ls hG hS hl) (fun z => kf z hkc hks H locs ls hG hS hl)
theorem r_if_ge (M : Mach g l R own cc nL hh mn V X) {x : Int32} {off : Int} {tgt : Nat} (hd : decode cc pc = .ok (.ifCond .ge off, 3)) (ht : (pc : Int) + off = (tgt : Int)) (kt : 0 ≤ x → V tgt lv st h kc ks) (kf : ¬ 0 ≤ x → V (pc + 3) lv st h kc ks) : V pc lv (.int x :: st) h kc ks := by
  obtain ⟨Qs, p, e, s, m, args, below, meth, c, hx, hb, hml, hown, hts, hgl, hlk, hnm, htab, hst, rfl, rfl⟩ := M
  intro hkc hks H locs ls hG hS hl
  exact lv_if_ge hx hb hd ht (fun z => kt z hkc hks H locs ls hG hS hl) (fun z => kf z hkc hks H locs ls hG hS hl)
theorem r_icmp_ge (M : Mach g l R own cc nL hh mn V X) {x y : Int32} {off : Int} {tgt : Nat} (hd : decode cc pc = .ok (.if_icmp .ge off, 3)) (ht : (pc : Int) + off = (tgt : Int)) (kt : y ≤ x → V tgt lv st h kc ks) (kf : ¬ y ≤ x → V (pc + 3) lv st h kc ks) : V pc lv (.int y :: .int x :: st) h kc ks := by
  obtain ⟨Qs, p, e, s, m, args, below, meth, c, hx, hb, hml, hown, hts, hgl, hlk, hnm, htab, hst, rfl, rfl⟩ := M
  intro hkc hks H locs ls hG hS hl
  exact lv_icmp_ge hx hb hd ht (fun z => kt z hkc hks H locs ls hG hS hl) (fun z => kf z hkc hks H locs ls hG hS hl)
theorem r_if_gt (M : Mach g l R own cc nL hh mn V X) {x : Int32} {off : Int} {tgt : Nat} (hd : decode cc pc = .ok (.ifCond .gt off, 3)) (ht : (pc : Int) + off = (tgt : Int)) (kt : 0 < x → V tgt lv st h kc ks) (kf : ¬ 0 < x → V (pc + 3) lv st h kc ks) : V pc lv (.int x :: st) h kc ks := by
  obtain ⟨Qs, p, e, s, m, args, below, meth, c, hx, hb, hml, hown, hts, hgl, hlk, hnm, htab, hst, rfl, rfl⟩ := M
  intro hkc hks H locs ls hG hS hl
  exact lv_if_gt hx hb hd ht (fun z => kt z hkc hks H locs ls hG hS hl) (fun z => kf z hkc hks H locs ls hG hS hl)
theorem r_icmp_gt (M : Mach g l R own cc nL hh mn V X) {x y : Int32} {off : Int} {tgt : Nat} (hd : decode cc pc = .ok (.if_icmp .gt off, 3)) (ht : (pc : Int) + off = (tgt : Int)) (kt : y < x → V tgt lv st h kc ks) (kf : ¬ y < x → V (pc + 3) lv st h kc ks) : V pc lv (.int y :: .int x :: st) h kc ks := by
  obtain ⟨Qs, p, e, s, m, args, below, meth, c, hx, hb, hml, hown, hts, hgl, hlk, hnm, htab, hst, rfl, rfl⟩ := M
  intro hkc hks H locs ls hG hS hl
  exact lv_icmp_gt hx hb hd ht (fun z => kt z hkc hks H locs ls hG hS hl) (fun z => kf z hkc hks H locs ls hG hS hl)
theorem r_if_le (M : Mach g l R own cc nL hh mn V X) {x : Int32} {off : Int} {tgt : Nat} (hd : decode cc pc = .ok (.ifCond .le off, 3)) (ht : (pc : Int) + off = (tgt : Int)) (kt : x ≤ 0 → V tgt lv st h kc ks) (kf : ¬ x ≤ 0 → V (pc + 3) lv st h kc ks) : V pc lv (.int x :: st) h kc ks := by
  obtain ⟨Qs, p, e, s, m, args, below, meth, c, hx, hb, hml, hown, hts, hgl, hlk, hnm, htab, hst, rfl, rfl⟩ := M
  intro hkc hks H locs ls hG hS hl
  exact lv_if_le hx hb hd ht (fun z => kt z hkc hks H locs ls hG hS hl) (fun z => kf z hkc hks H locs ls hG hS hl)
theorem r_icmp_le (M : Mach g l R own cc nL hh mn V X) {x y : Int32} {off : Int} {tgt : Nat} (hd : decode cc pc = .ok (.if_icmp .le off, 3)) (ht : (pc : Int) + off = (tgt : Int)) (kt : x ≤ y → V tgt lv st h kc ks) (kf : ¬ x ≤ y → V (pc + 3) lv st h kc ks) : V pc lv (.int y :: .int x :: st) h kc ks := by
  obtain ⟨Qs, p, e, s, m, args, below, meth, c, hx, hb, hml, hown, hts, hgl, hlk, hnm, htab, hst, rfl, rfl⟩ := M
  intro hkc hks H locs ls hG hS hl
  exact lv_icmp_le hx hb hd ht (fun z => kt z hkc hks H locs ls hG hS hl) (fun z => kf z hkc hks H locs ls hG hS hl)
theorem r_goto (M : Mach g l R own cc nL hh mn V X) {off : Int} {tgt : Nat} (hd : decode cc pc = .ok (.goto off, 3)) (ht : (pc : Int) + off = (tgt : Int)) (kk : V tgt lv st h kc ks) : V pc lv st h kc ks := by
  obtain ⟨Qs, p, e, s, m, args, below, meth, c, hx, hb, hml, hown, hts, hgl, hlk, hnm, htab, hst, rfl, rfl⟩ := M
  intro hkc hks H locs ls hG hS hl
  exact lv_goto hx hb hd ht (kk hkc hks H locs ls hG hS hl)
theorem r_acmp_eq (M : Mach g l R own cc nL hh mn V X) {x y : Nat} {off : Int} {tgt : Nat} (hd : decode cc pc = .ok (.if_acmp .eq off, 3)) (ht : (pc : Int) + off = (tgt : Int)) (kt : x = y → V tgt lv st h kc ks) (kf : ¬ x = y → V (pc + 3) lv st h kc ks) : V pc lv (.ref y :: .ref x :: st) h kc ks := by
  obtain ⟨Qs, p, e, s, m, args, below, meth, c, hx, hb, hml, hown, hts, hgl, hlk, hnm, htab, hst, rfl, rfl⟩ := M
  intro hkc hks H locs ls hG hS hl
  exact lv_acmp_eq (rx := some x) (ry := some y) hx hb hd ht (fun z => kt (by simpa using z) hkc hks H locs ls hG hS hl) (fun z => kf (by simpa using z) hkc hks H locs ls hG hS hl)
theorem r_acmp_ne (M : Mach g l R own cc nL hh mn V X) {x y : Nat} {off : Int} {tgt : Nat} (hd : decode cc pc = .ok (.if_acmp .ne off, 3)) (ht : (pc : Int) + off = (tgt : Int)) (kt : ¬ x = y → V tgt lv st h kc ks) (kf : x = y → V (pc + 3) lv st h kc ks) : V pc lv (.ref y :: .ref x :: st) h kc ks := by
  obtain ⟨Qs, p, e, s, m, args, below, meth, c, hx, hb, hml, hown, hts, hgl, hlk, hnm, htab, hst, rfl, rfl⟩ := M
  intro hkc hks H locs ls hG hS hl
  exact lv_acmp_ne (rx := some x) (ry := some y) hx hb hd ht (fun z => kt (by simpa using z) hkc hks H locs ls hG hS hl) (fun z => kf (by simpa using z) hkc hks H locs ls hG hS hl)
theorem r_tableIn (M : Mach g l R own cc nL hh mn V X) {dflt lo hi : Int} {offs : Array Int} {len : Nat} {x : Int32} {off : Int} {tgt : Nat} (hd : decode cc pc = .ok (.tableswitch dflt lo hi offs, len)) (h1 : ¬ x.toInt < lo) (h2 : ¬ hi < x.toInt) (ho : offs[(x.toInt - lo).toNat]? = some off) (ht : (pc : Int) + off = (tgt : Int)) (kk : V tgt lv st h kc ks) : V pc lv (.int x :: st) h kc ks := by
  obtain ⟨Qs, p, e, s, m, args, below, meth, c, hx, hb, hml, hown, hts, hgl, hlk, hnm, htab, hst, rfl, rfl⟩ := M
  intro hkc hks H locs ls hG hS hl
  exact lv_tableIn hx hb hd h1 h2 ho ht (kk hkc hks H locs ls hG hS hl)
theorem r_tableOut (M : Mach g l R own cc nL hh mn V X) {dflt lo hi : Int} {offs : Array Int} {len : Nat} {x : Int32} {tgt : Nat} (hd : decode cc pc = .ok (.tableswitch dflt lo hi offs, len)) (h1 : x.toInt < lo ∨ hi < x.toInt) (ht : (pc : Int) + dflt = (tgt : Int)) (kk : V tgt lv st h kc ks) : V pc lv (.int x :: st) h kc ks := by
  obtain ⟨Qs, p, e, s, m, args, below, meth, c, hx, hb, hml, hown, hts, hgl, hlk, hnm, htab, hst, rfl, rfl⟩ := M
  intro hkc hks H locs ls hG hS hl
  exact lv_tableOut hx hb hd h1 ht (kk hkc hks H locs ls hG hS hl)
theorem r_ldc (M : Mach g l R own cc nL hh mn V X) {idx : Nat} {v : Int32} (hd : decode cc pc = .ok (.ldc idx, 2)) (hw : Cond.constant own idx v ∈ TB) (kk : V (pc + 2) lv (.int v :: st) h kc ks) : V pc lv st h kc ks := by
  obtain ⟨Qs, p, e, s, m, args, below, meth, c, hx, hb, hml, hown, hts, hgl, hlk, hnm, htab, hst, rfl, rfl⟩ := M
  intro hkc hks H locs ls hG hS hl
  exact lv_ldc hx hb hown (hts _ hw) hd (kk hkc hks H locs ls hG hS hl)
end Rules
end
section
/-! ===== the rules of V that touch the heap; calls; ends ===== -/
theorem u2_s {α : Type} (f : Nat → Nat → α) (i a : Nat) (v : α) : u2 f i a v i a = v := by simp [u2]
theorem u2_n {α : Type} (f : Nat → Nat → α) {i a j b : Nat} (v : α) (hn : ¬ (j = i ∧ b = a)) : u2 f i a v j b = f j b := by simp only [u2, if_neg hn]
/-- what an instruction that names a field needs: the class ci, its field k -/
def FI (own : String) (idx ci k : Nat) : Prop := ∃ (C : String) (T : u_T) (N : Nat) (ref : String), kcl[ci]? = some (C, T, N) ∧ k < N ∧ (∀ w ∈ u_ws C T N, w ∈ TB) ∧ Cond.fieldLink own idx ref (T k).2.1 (T k).2.2.1 ∈ TB ∧ ((T k).1 = ref ∨ Cond.sameField ref (T k).1 (T k).2.1 (T k).2.2.1 ∈ TB)
/-- what every class gives -/
def KI (ci : Nat) : Prop := ∃ (C : String) (T : u_T) (N : Nat) (ty : Nat → FieldType), kcl[ci]? = some (C, T, N) ∧ (∀ w ∈ u_ws C T N, w ∈ TB) ∧ (∀ k, k < N → parseFieldDescriptor (T k).2.2.1 = some (ty k)) ∧ (∀ a, a < N → ∀ b, b < N → a ≠ b → (T a).2.1 ≠ (T b).2.1) ∧ (∀ j, j < N → defaultValue (ty j) = if (flg ci).getD j false = true then .null else .int 0) ∧ (flg ci).length = N ∧ ci < 8
theorem ent_obj {g : Gl} {h : Hp} {a ci n : Nat} (hc : ci < 8) : ent g h a ci n = .inr (ci, fsOf h a ci) := by
  match ci, hc with
  | 0, _ => rfl
  | 1, _ => rfl
  | 2, _ => rfl
  | 3, _ => rfl
  | 4, _ => rfl
  | 5, _ => rfl
  | 6, _ => rfl
  | 7, _ => rfl
theorem kcl_lt {ci : Nat} {r : vw_C} (h : kcl[ci]? = some r) : ci < 8 := (List.getElem?_eq_some_iff.mp h).1
theorem ent_congr {g : Gl} {h h' : Hp} {b : Nat} (e1 : ∀ i, xF h' i b = xF h i b) (e2 : ∀ i, xP h' i b = xP h i b) (e3 : xA h' b = xA h b) (e4 : xB h' b = xB h b) (e5 : xL h' b = xL h b) (kd n : Nat) : ent g h' b kd n = ent g h b kd n := by
  have e : fsOf h' b = fsOf h b := by
    funext ci
    simp only [fsOf, fv, e1, e2]
  simp only [ent, e, e3, e4, e5]
theorem fs_setF {h : Hp} {a ci k : Nat} {v : Int32} (hf : (flg ci)[k]? = some false) : (fsOf h a ci).set k (.int v) = fsOf (yF h (100 * ci + k) a v) a ci := by
  apply List.ext_getElem?
  intro j
  rw [fsOf_get, List.getElem?_set]
  by_cases hj : k = j
  · subst hj
    have : k < (fsOf h a ci).length := by rw [fsOf_len]; exact (List.getElem?_eq_some_iff.mp hf).1
    simp [this, hf, fv, yF, xF, u2]
  · rw [if_neg hj, fsOf_get]
    congr 1
    funext b
    have : ¬ (100 * ci + j = 100 * ci + k ∧ a = a) := fun q => hj (by omega)
    simp only [fv]
    show (if b = true then va_rf (xP h (100 * ci + j) a) else Value.int (xF h (100 * ci + j) a)) = (if b = true then va_rf (xP h (100 * ci + j) a) else Value.int (u2 (xF h) (100 * ci + k) a v (100 * ci + j) a))
    rw [u2_n _ _ this]
theorem fs_setP {h : Hp} {a ci k : Nat} {v : Option Nat} (hf : (flg ci)[k]? = some true) : (fsOf h a ci).set k (va_rf v) = fsOf (yP h (100 * ci + k) a v) a ci := by
  apply List.ext_getElem?
  intro j
  rw [fsOf_get, List.getElem?_set]
  by_cases hj : k = j
  · subst hj
    have : k < (fsOf h a ci).length := by rw [fsOf_len]; exact (List.getElem?_eq_some_iff.mp hf).1
    simp [this, hf, fv, yP, xP, u2]
  · rw [if_neg hj, fsOf_get]
    congr 1
    funext b
    have : ¬ (100 * ci + j = 100 * ci + k ∧ a = a) := fun q => hj (by omega)
    simp only [fv]
    show (if b = true then va_rf (xP h (100 * ci + j) a) else Value.int (xF h (100 * ci + j) a)) = (if b = true then va_rf (u2 (xP h) (100 * ci + k) a v (100 * ci + j) a) else Value.int (xF h (100 * ci + j) a))
    rw [u2_n _ _ this]
theorem yF_ent {g : Gl} {h : Hp} {i a : Nat} {v : Int32} : ∀ b kd n : Nat, b ≠ a → ent g (yF h i a v) b kd n = ent g h b kd n := fun b kd n hb => ent_congr (h := h) (h' := yF h i a v) (b := b) (fun j => u2_n _ _ (fun q => hb q.2)) (fun _ => rfl) rfl rfl rfl kd n
theorem yP_ent {g : Gl} {h : Hp} {i a : Nat} {v : Option Nat} : ∀ b kd n : Nat, b ≠ a → ent g (yP h i a v) b kd n = ent g h b kd n := fun b kd n hb => ent_congr (h := h) (h' := yP h i a v) (b := b) (fun _ => rfl) (fun j => u2_n _ _ (fun q => hb q.2)) rfl rfl rfl kd n
theorem u2_row {α : Type} (f : Nat → Nat → α) {a b : Nat} (i : Nat) (v : α) (hb : b ≠ a) : u2 f a i v b = f b := funext fun j => u2_n _ _ (fun q => hb q.1)
theorem u2_own {α : Type} (f : Nat → Nat → α) (a i : Nat) (v : α) : u2 f a i v a = fun j => if j = i then v else f a j := by funext j; simp [u2]
theorem yA_ent {g : Gl} {h : Hp} {i a : Nat} {v : Int32} : ∀ b kd n : Nat, b ≠ a → ent g (yA h a i v) b kd n = ent g h b kd n := fun b kd n hb => ent_congr (h := h) (h' := yA h a i v) (b := b) (fun _ => rfl) (fun _ => rfl) (u2_row _ _ _ hb) rfl rfl kd n
theorem yB_ent {g : Gl} {h : Hp} {i a : Nat} {v : Option Nat} : ∀ b kd n : Nat, b ≠ a → ent g (yB h a i v) b kd n = ent g h b kd n := fun b kd n hb => ent_congr (h := h) (h' := yB h a i v) (b := b) (fun _ => rfl) (fun _ => rfl) rfl (u2_row _ _ _ hb) rfl kd n
theorem yC_ent {g : Gl} {h : Hp} {a : Nat} {v : Nat → Option Nat} : ∀ b kd n : Nat, b ≠ a → ent g (yC h a v) b kd n = ent g h b kd n := fun b kd n hb => ent_congr (h := h) (h' := yC h a v) (b := b) (fun _ => rfl) (fun _ => rfl) rfl (by show u1 _ _ _ b = _; simp [u1, hb]) rfl kd n
theorem yL_ent {g : Gl} {h : Hp} {i a : Nat} {v : Int64} : ∀ b kd n : Nat, b ≠ a → ent g (yL h a i v) b kd n = ent g h b kd n := fun b kd n hb => ent_congr (h := h) (h' := yL h a i v) (b := b) (fun _ => rfl) (fun _ => rfl) rfl rfl (u2_row _ _ _ hb) kd n
theorem yN_ent {g : Gl} {h : Hp} {q kd0 n0 : Nat} : ∀ b kd n : Nat, b ≠ q → ent g (yN h q kd0 n0) b kd n = ent g h b kd n := fun b kd n hb => by
  refine ent_congr (h := h) (h' := yN h q kd0 n0) (b := b) (fun i => ?_) (fun i => ?_) ?_ ?_ ?_ kd n
  · show (if b = q then 0 else xF h i b) = _; rw [if_neg hb]
  · show (if b = q then none else xP h i b) = _; rw [if_neg hb]
  · funext i; show (if b = q then 0 else xA h b i) = _; rw [if_neg hb]
  · funext i; show (if b = q then none else xB h b i) = _; rw [if_neg hb]
  · funext i; show (if b = q then 0 else xL h b i) = _; rw [if_neg hb]
section RulesH
variable {g : Gl} {l : Launch} {R : Room} {own : String} {cc : ByteArray} {nL : Nat} {hh : List (Nat × Nat × Nat × Nat)} {mn : String} {V : VT} {X : XT} {pc : Nat} {lv : List (Option Value)} {st : List Value} {h : Hp} {kc ks : Nat}

theorem r_getI (M : Mach g l R own cc nL hh mn V X) {idx ci k n a i : Nat} (hd : decode cc pc = .ok (.getfield idx, 3)) (hf : FI own idx ci k) (hs : xS h a = some (ci, n)) (hk : (flg ci)[k]? = some false) (hi : 100 * ci + k = i) (kk : V (pc + 3) lv (.int (xF h i a) :: st) h kc ks) : V pc lv (.ref a :: st) h kc ks := by
  obtain ⟨Qs, p, e, s, m, args, below, meth, c, hx, hb, hml, hown, hts, hgl, hlk, hnm, htab, hst, rfl, rfl⟩ := M
  intro hkc hks H locs ls hG hS hl
  obtain ⟨C, T, N, ref, f1, f2, f3, f4, f5⟩ := hf
  obtain ⟨ws, g1, g2, g3, g4⟩ := id hG
  obtain ⟨q0, hq0⟩ := g3 _ _ _ hs
  rw [ent_obj (kcl_lt f1)] at hq0
  have hsame : ∀ x, s.fieldFound? (T k).1 (T k).2.1 (T k).2.2.1 = some x → s.fieldFound? ref (T k).2.1 (T k).2.2.1 = some x := by
    rcases f5 with z | z
    · rw [z]; exact fun _ q => q
    · exact fun x9 h9 => u_same (hts _ z) x9 h9
  subst hi
  exact va_get hx hb hts f3 hown hgl.1.1 g1 q0 hq0 f1 k f2 (hts _ f4) hsame (by rw [fsOf_get, hk]; rfl) hd (kk hkc hks H locs ls hG hS hl)
theorem r_getR (M : Mach g l R own cc nL hh mn V X) {idx ci k n a i b : Nat} (hd : decode cc pc = .ok (.getfield idx, 3)) (hf : FI own idx ci k) (hs : xS h a = some (ci, n)) (hk : (flg ci)[k]? = some true) (hi : 100 * ci + k = i) (hv : xP h i a = some b) (kk : V (pc + 3) lv (.ref b :: st) h kc ks) : V pc lv (.ref a :: st) h kc ks := by
  obtain ⟨Qs, p, e, s, m, args, below, meth, c, hx, hb, hml, hown, hts, hgl, hlk, hnm, htab, hst, rfl, rfl⟩ := M
  intro hkc hks H locs ls hG hS hl
  obtain ⟨C, T, N, ref, f1, f2, f3, f4, f5⟩ := hf
  obtain ⟨ws, g1, g2, g3, g4⟩ := id hG
  obtain ⟨q0, hq0⟩ := g3 _ _ _ hs
  rw [ent_obj (kcl_lt f1)] at hq0
  have hsame : ∀ x, s.fieldFound? (T k).1 (T k).2.1 (T k).2.2.1 = some x → s.fieldFound? ref (T k).2.1 (T k).2.2.1 = some x := by
    rcases f5 with z | z
    · rw [z]; exact fun _ q => q
    · exact fun x9 h9 => u_same (hts _ z) x9 h9
  subst hi
  exact va_get hx hb hts f3 hown hgl.1.1 g1 q0 hq0 f1 k f2 (hts _ f4) hsame (v := .ref b) (by rw [fsOf_get, hk]; show some (va_rf _) = _; rw [hv]; rfl) hd (kk hkc hks H locs ls hG hS hl)
theorem r_putI (M : Mach g l R own cc nL hh mn V X) {idx ci k n a i : Nat} {v : Int32} {C1 : String} {T1 : u_T} {N1 : Nat} {ty : FieldType} (hd : decode cc pc = .ok (.putfield idx, 3)) (hf : FI own idx ci k) (hc : KI ci) (hcl : kcl[ci]? = some (C1, T1, N1)) (hs : xS h a = some (ci, n)) (hk : (flg ci)[k]? = some false) (hi : 100 * ci + k = i) (hfin : (T1 k).2.2.2 = false) (hty : parseFieldDescriptor (T1 k).2.2.1 = some ty) (hn : narrow ty (.int v) = .int v) (hft : fits ty (.int v) = true) (kk : V (pc + 3) lv st (yF h i a v) kc ks) : V pc lv (.int v :: .ref a :: st) h kc ks := by
  obtain ⟨Qs, p, e, s, m, args, below, meth, c, hx, hb, hml, hown, hts, hgl, hlk, hnm, htab, hst, rfl, rfl⟩ := M
  intro hkc hks H locs ls hG hS hl
  obtain ⟨C, T, N, ref, f1, f2, f3, f4, f5⟩ := hf
  obtain ⟨C', T', N', ty0, c1, c2, c3, c4, c5, c6, c7⟩ := hc
  cases c1.symm.trans f1
  obtain ⟨ws, g1, g2, g3, g4⟩ := id hG
  obtain ⟨q0, hq0⟩ := g3 _ _ _ hs
  rw [ent_obj (kcl_lt f1)] at hq0
  have hsame : ∀ x, s.fieldFound? (T k).1 (T k).2.1 (T k).2.2.1 = some x → s.fieldFound? ref (T k).2.1 (T k).2.2.1 = some x := by
    rcases f5 with z | z
    · rw [z]; exact fun _ q => q
    · exact fun x9 h9 => u_same (hts _ z) x9 h9
  have hkN : k < (fsOf h a ci).length := by rw [fsOf_len]; exact (List.getElem?_eq_some_iff.mp hk).1
  subst hi
  cases hcl.symm.trans f1
  exact va_put hx hb hts f3 ty0 c3 c4 hown hgl.1.1 g1 g2 hS q0 hq0 f1 k f2 (hts _ f4) hsame hfin hty hn hft hkN hd (fun H1 locs1 a1 a2 a3 => kk hkc hks H1 locs1 ls (HG.set g2 g3 g4 rfl hs _ hq0 yF_ent (by rw [ent_obj (kcl_lt f1), fs_setF hk]) a1 a2) a3 hl)
theorem r_putIF (M : Mach g l R own cc nL hh mn V X) {idx ci k n a i : Nat} {v : Int32} {C1 : String} {T1 : u_T} {N1 : Nat} {ty : FieldType} (hd : decode cc pc = .ok (.putfield idx, 3)) (hf : FI own idx ci k) (hc : KI ci) (hcl : kcl[ci]? = some (C1, T1, N1)) (hs : xS h a = some (ci, n)) (hk : (flg ci)[k]? = some false) (hi : 100 * ci + k = i) (hfin : (T1 k).2.2.2 = true) (hty : parseFieldDescriptor (T1 k).2.2.1 = some ty) (hn : narrow ty (.int v) = .int v) (hft : fits ty (.int v) = true) (hin : mn = "<init>") (hde : (T1 k).1 = own) (kk : V (pc + 3) lv st (yF h i a v) kc ks) : V pc lv (.int v :: .ref a :: st) h kc ks := by
  obtain ⟨Qs, p, e, s, m, args, below, meth, c, hx, hb, hml, hown, hts, hgl, hlk, hnm, htab, hst, rfl, rfl⟩ := M
  intro hkc hks H locs ls hG hS hl
  obtain ⟨C, T, N, ref, f1, f2, f3, f4, f5⟩ := hf
  obtain ⟨C', T', N', ty0, c1, c2, c3, c4, c5, c6, c7⟩ := hc
  cases c1.symm.trans f1
  obtain ⟨ws, g1, g2, g3, g4⟩ := id hG
  obtain ⟨q0, hq0⟩ := g3 _ _ _ hs
  rw [ent_obj (kcl_lt f1)] at hq0
  have hsame : ∀ x, s.fieldFound? (T k).1 (T k).2.1 (T k).2.2.1 = some x → s.fieldFound? ref (T k).2.1 (T k).2.2.1 = some x := by
    rcases f5 with z | z
    · rw [z]; exact fun _ q => q
    · exact fun x9 h9 => u_same (hts _ z) x9 h9
  have hkN : k < (fsOf h a ci).length := by rw [fsOf_len]; exact (List.getElem?_eq_some_iff.mp hk).1
  subst hi
  cases hcl.symm.trans f1
  exact va_putF hx hb hts f3 ty0 c3 c4 hown hgl.1.1 g1 g2 hS q0 hq0 f1 k f2 (hts _ f4) hsame hfin (hnm.trans hin) hde hty hn hft hkN hd (fun H1 locs1 a1 a2 a3 => kk hkc hks H1 locs1 ls (HG.set g2 g3 g4 rfl hs _ hq0 yF_ent (by rw [ent_obj (kcl_lt f1), fs_setF hk]) a1 a2) a3 hl)
theorem r_putR (M : Mach g l R own cc nL hh mn V X) {idx ci k n a i : Nat} {v : Option Nat} {C1 : String} {T1 : u_T} {N1 : Nat} {ty : FieldType} (hd : decode cc pc = .ok (.putfield idx, 3)) (hf : FI own idx ci k) (hc : KI ci) (hcl : kcl[ci]? = some (C1, T1, N1)) (hs : xS h a = some (ci, n)) (hk : (flg ci)[k]? = some true) (hi : 100 * ci + k = i) (hfin : (T1 k).2.2.2 = false) (hty : parseFieldDescriptor (T1 k).2.2.1 = some ty) (hn : narrow ty (va_rf v) = va_rf v) (hft : fits ty (va_rf v) = true) (kk : V (pc + 3) lv st (yP h i a v) kc ks) : V pc lv (va_rf v :: .ref a :: st) h kc ks := by
  obtain ⟨Qs, p, e, s, m, args, below, meth, c, hx, hb, hml, hown, hts, hgl, hlk, hnm, htab, hst, rfl, rfl⟩ := M
  intro hkc hks H locs ls hG hS hl
  obtain ⟨C, T, N, ref, f1, f2, f3, f4, f5⟩ := hf
  obtain ⟨C', T', N', ty0, c1, c2, c3, c4, c5, c6, c7⟩ := hc
  cases c1.symm.trans f1
  obtain ⟨ws, g1, g2, g3, g4⟩ := id hG
  obtain ⟨q0, hq0⟩ := g3 _ _ _ hs
  rw [ent_obj (kcl_lt f1)] at hq0
  have hsame : ∀ x, s.fieldFound? (T k).1 (T k).2.1 (T k).2.2.1 = some x → s.fieldFound? ref (T k).2.1 (T k).2.2.1 = some x := by
    rcases f5 with z | z
    · rw [z]; exact fun _ q => q
    · exact fun x9 h9 => u_same (hts _ z) x9 h9
  have hkN : k < (fsOf h a ci).length := by rw [fsOf_len]; exact (List.getElem?_eq_some_iff.mp hk).1
  subst hi
  cases hcl.symm.trans f1
  exact va_put hx hb hts f3 ty0 c3 c4 hown hgl.1.1 g1 g2 hS q0 hq0 f1 k f2 (hts _ f4) hsame hfin hty hn hft hkN hd (fun H1 locs1 a1 a2 a3 => kk hkc hks H1 locs1 ls (HG.set g2 g3 g4 rfl hs _ hq0 yP_ent (by rw [ent_obj (kcl_lt f1), fs_setP hk]) a1 a2) a3 hl)
theorem r_putRF (M : Mach g l R own cc nL hh mn V X) {idx ci k n a i : Nat} {v : Option Nat} {C1 : String} {T1 : u_T} {N1 : Nat} {ty : FieldType} (hd : decode cc pc = .ok (.putfield idx, 3)) (hf : FI own idx ci k) (hc : KI ci) (hcl : kcl[ci]? = some (C1, T1, N1)) (hs : xS h a = some (ci, n)) (hk : (flg ci)[k]? = some true) (hi : 100 * ci + k = i) (hfin : (T1 k).2.2.2 = true) (hty : parseFieldDescriptor (T1 k).2.2.1 = some ty) (hn : narrow ty (va_rf v) = va_rf v) (hft : fits ty (va_rf v) = true) (hin : mn = "<init>") (hde : (T1 k).1 = own) (kk : V (pc + 3) lv st (yP h i a v) kc ks) : V pc lv (va_rf v :: .ref a :: st) h kc ks := by
  obtain ⟨Qs, p, e, s, m, args, below, meth, c, hx, hb, hml, hown, hts, hgl, hlk, hnm, htab, hst, rfl, rfl⟩ := M
  intro hkc hks H locs ls hG hS hl
  obtain ⟨C, T, N, ref, f1, f2, f3, f4, f5⟩ := hf
  obtain ⟨C', T', N', ty0, c1, c2, c3, c4, c5, c6, c7⟩ := hc
  cases c1.symm.trans f1
  obtain ⟨ws, g1, g2, g3, g4⟩ := id hG
  obtain ⟨q0, hq0⟩ := g3 _ _ _ hs
  rw [ent_obj (kcl_lt f1)] at hq0
  have hsame : ∀ x, s.fieldFound? (T k).1 (T k).2.1 (T k).2.2.1 = some x → s.fieldFound? ref (T k).2.1 (T k).2.2.1 = some x := by
    rcases f5 with z | z
    · rw [z]; exact fun _ q => q
    · exact fun x9 h9 => u_same (hts _ z) x9 h9
  have hkN : k < (fsOf h a ci).length := by rw [fsOf_len]; exact (List.getElem?_eq_some_iff.mp hk).1
  subst hi
  cases hcl.symm.trans f1
  exact va_putF hx hb hts f3 ty0 c3 c4 hown hgl.1.1 g1 g2 hS q0 hq0 f1 k f2 (hts _ f4) hsame hfin (hnm.trans hin) hde hty hn hft hkN hd (fun H1 locs1 a1 a2 a3 => kk hkc hks H1 locs1 ls (HG.set g2 g3 g4 rfl hs _ hq0 yP_ent (by rw [ent_obj (kcl_lt f1), fs_setP hk]) a1 a2) a3 hl)
theorem r_new (M : Mach g l R own cc nL hh mn V X) {idx ci : Nat} {C1 : String} {T1 : u_T} {N1 : Nat} (hd : decode cc pc = .ok (.new idx, 3)) (hc : KI ci) (hcl : kcl[ci]? = some (C1, T1, N1)) (hw1 : Cond.classLink own idx C1 ∈ TB) (hw2 : Cond.instantiable C1 N1 ∈ TB) (hw3 : Cond.initialized C1 ∈ TB) (hr : kc + 1 ≤ R.cells ∧ ks + N1 ≤ R.slots) (kk : ∀ q : Nat, xS h q = none → V (pc + 3) lv (.ref q :: st) (yN h q ci 0) (kc + 1) (ks + N1)) : V pc lv st h kc ks := by
  obtain ⟨Qs, p, e, s, m, args, below, meth, c, hx, hb, hml, hown, hts, hgl, hlk, hnm, htab, hst, rfl, rfl⟩ := M
  intro hkc hks H locs ls hG hS hl
  obtain ⟨C', T', N', ty0, c1, c2, c3, c4, c5, c6, c7⟩ := hc
  cases c1.symm.trans hcl
  obtain ⟨ws, g1, g2, g3, g4⟩ := id hG
  have hA : ∀ q, s.heap.size ≤ q → gA g q := fun q hq => Nat.le_trans hgl.2.2.2.2.2.2.2.2 hq
  refine va_new (ci := ci) (fs := (flg ci).map (fun b => if b = true then Value.null else .int 0)) hx hb hts c2 ty0 c3 hown (hts _ hw1) (hts _ hw2) (hts _ hw3) hgl.1.1 g1 g2 hS hA c1 (fun j hj => ?_) hr.1 hr.2 hd (fun q H1 a1 a2 a3 => ?_)
  · rw [c5 j hj]
    have hjl : j < (flg ci).length := by omega
    simp [vp_V, List.getD_eq_getElem?_getD, hjl]
  · have hfs : (flg ci).map (fun b => if b = true then Value.null else .int 0) = fsOf (yN h q ci 0) q ci := by
      apply List.ext_getElem?
      intro j
      rw [fsOf_get, List.getElem?_map]
      congr 1
      funext b
      cases b <;> simp [fv, yN, xP, xF, va_rf]
    obtain ⟨b1, b2⟩ := HG.push (h' := yN h q ci 0) (n := 0) (kd := ci) g3 g4 a1 a2 rfl yN_ent (by rw [ent_obj c7, hfs])
    exact kk q b2 hr.1 hr.2 H1 locs ls b1 a3 hl
theorem r_newI (M : Mach g l R own cc nL hh mn V X) {x : Int32} {N : Nat} (hd : decode cc pc = .ok (.newarray .int, 2)) (hw : Cond.arrayClass .int ∈ TB) (hn : ¬ x < 0) (hN : x.toNatClampNeg = N) (hby : N * componentBytes .int ≤ 536870912) (hr : kc + 1 ≤ R.cells ∧ ks + N ≤ R.slots) (kk : ∀ q : Nat, xS h q = none → V (pc + 2) lv (.ref q :: st) (yN h q 8 N) (kc + 1) (ks + N)) : V pc lv (.int x :: st) h kc ks := by
  obtain ⟨Qs, p, e, s, m, args, below, meth, c, hx, hb, hml, hown, hts, hgl, hlk, hnm, htab, hst, rfl, rfl⟩ := M
  intro hkc hks H locs ls hG hS hl
  obtain ⟨ws, g1, g2, g3, g4⟩ := id hG
  have hA : ∀ q, s.heap.size ≤ q → gA g q := fun q hq => Nat.le_trans hgl.2.2.2.2.2.2.2.2 hq
  refine va_newa (atype := .int) (ty := .int) (a0 := (N, .inl (fun _ => 0))) hx hb (hts _ hw) rfl hgl.1.1 g1 g2 hS hA (fun cA => rfl) hn hN hby hr.1 hr.2 hd (fun q cA H1 hK1 a1 a2 a3 => ?_)
  have e1 := va_nm_int (hK1.2 4 (cA, .int) rfl).2
  have e2 := va_nm_int (hgl.1.1.2 0 (gC g 0, .int) rfl).2
  obtain rfl : cA = gC g 0 := Option.some.inj (e1.symm.trans e2)
  obtain ⟨b1, b2⟩ := HG.push (h' := yN h q 8 N) (n := N) (kd := 8) g3 g4 a1 a2 rfl yN_ent (by simp only [ent, yN, xA, xL]; simp)
  exact kk q b2 hr.1 hr.2 H1 locs ls b1 a3 hl
theorem r_newZ (M : Mach g l R own cc nL hh mn V X) {x : Int32} {N : Nat} (hd : decode cc pc = .ok (.newarray .boolean, 2)) (hw : Cond.arrayClass .boolean ∈ TB) (hn : ¬ x < 0) (hN : x.toNatClampNeg = N) (hby : N * componentBytes .boolean ≤ 536870912) (hr : kc + 1 ≤ R.cells ∧ ks + N ≤ R.slots) (kk : ∀ q : Nat, xS h q = none → V (pc + 2) lv (.ref q :: st) (yN h q 9 N) (kc + 1) (ks + N)) : V pc lv (.int x :: st) h kc ks := by
  obtain ⟨Qs, p, e, s, m, args, below, meth, c, hx, hb, hml, hown, hts, hgl, hlk, hnm, htab, hst, rfl, rfl⟩ := M
  intro hkc hks H locs ls hG hS hl
  obtain ⟨ws, g1, g2, g3, g4⟩ := id hG
  have hA : ∀ q, s.heap.size ≤ q → gA g q := fun q hq => Nat.le_trans hgl.2.2.2.2.2.2.2.2 hq
  refine va_newa (atype := .boolean) (ty := .boolean) (a0 := (N, .inl (fun _ => 0))) hx hb (hts _ hw) rfl hgl.1.1 g1 g2 hS hA (fun cA => rfl) hn hN hby hr.1 hr.2 hd (fun q cA H1 hK1 a1 a2 a3 => ?_)
  have e1 := va_nm_boolean (hK1.2 4 (cA, .boolean) rfl).2
  have e2 := va_nm_boolean (hgl.1.1.2 1 (gC g 1, .boolean) rfl).2
  obtain rfl : cA = gC g 1 := Option.some.inj (e1.symm.trans e2)
  obtain ⟨b1, b2⟩ := HG.push (h' := yN h q 9 N) (n := N) (kd := 9) g3 g4 a1 a2 rfl yN_ent (by simp only [ent, yN, xA, xL]; simp)
  exact kk q b2 hr.1 hr.2 H1 locs ls b1 a3 hl
theorem r_newJ (M : Mach g l R own cc nL hh mn V X) {x : Int32} {N : Nat} (hd : decode cc pc = .ok (.newarray .long, 2)) (hw : Cond.arrayClass .long ∈ TB) (hn : ¬ x < 0) (hN : x.toNatClampNeg = N) (hby : N * componentBytes .long ≤ 536870912) (hr : kc + 1 ≤ R.cells ∧ ks + N ≤ R.slots) (kk : ∀ q : Nat, xS h q = none → V (pc + 2) lv (.ref q :: st) (yN h q 11 N) (kc + 1) (ks + N)) : V pc lv (.int x :: st) h kc ks := by
  obtain ⟨Qs, p, e, s, m, args, below, meth, c, hx, hb, hml, hown, hts, hgl, hlk, hnm, htab, hst, rfl, rfl⟩ := M
  intro hkc hks H locs ls hG hS hl
  obtain ⟨ws, g1, g2, g3, g4⟩ := id hG
  have hA : ∀ q, s.heap.size ≤ q → gA g q := fun q hq => Nat.le_trans hgl.2.2.2.2.2.2.2.2 hq
  refine va_newa (atype := .long) (ty := .long) (a0 := (N, .inr (.inl (fun _ => 0)))) hx hb (hts _ hw) rfl hgl.1.1 g1 g2 hS hA (fun cA => rfl) hn hN hby hr.1 hr.2 hd (fun q cA H1 hK1 a1 a2 a3 => ?_)
  have e1 := va_nm_long (hK1.2 4 (cA, .long) rfl).2
  have e2 := va_nm_long (hgl.1.1.2 3 (gC g 3, .long) rfl).2
  obtain rfl : cA = gC g 3 := Option.some.inj (e1.symm.trans e2)
  obtain ⟨b1, b2⟩ := HG.push (h' := yN h q 11 N) (n := N) (kd := 11) g3 g4 a1 a2 rfl yN_ent (by simp only [ent, yN, xA, xL]; simp)
  exact kk q b2 hr.1 hr.2 H1 locs ls b1 a3 hl
theorem r_newO (M : Mach g l R own cc nL hh mn V X) {idx N : Nat} {x : Int32} (hd : decode cc pc = .ok (.anewarray idx, 3)) (hw : Cond.classLink own idx "java/lang/Object" ∈ TB) (hn : ¬ x < 0) (hN : x.toNatClampNeg = N) (hby : N * 4 ≤ 536870912) (hr : kc + 1 ≤ R.cells ∧ ks + N ≤ R.slots) (kk : ∀ q : Nat, xS h q = none → V (pc + 3) lv (.ref q :: st) (yN h q 10 N) (kc + 1) (ks + N)) : V pc lv (.int x :: st) h kc ks := by
  obtain ⟨Qs, p, e, s, m, args, below, meth, c, hx, hb, hml, hown, hts, hgl, hlk, hnm, htab, hst, rfl, rfl⟩ := M
  intro hkc hks H locs ls hG hS hl
  obtain ⟨ws, g1, g2, g3, g4⟩ := id hG
  have hA : ∀ q, s.heap.size ≤ q → gA g q := fun q hq => Nat.le_trans hgl.2.2.2.2.2.2.2.2 hq
  refine va_newq (N' := N) hx hb hown (hts _ hw) hgl.1.2.2.2.2.1 hgl.1.1 g1 g2 hS hA hn hN hby hr.1 hr.2 hd (fun q cA H1 hK1 a1 a2 a3 => ?_)
  obtain ⟨-, -, -, -, -, e1⟩ := (hK1.2 4 (cA, .object "java/lang/Object") rfl).2
  obtain ⟨-, -, -, -, -, e2⟩ := (hgl.1.1.2 2 (gC g 2, .object "java/lang/Object") rfl).2
  obtain rfl : cA = gC g 2 := Option.some.inj (e1.symm.trans e2)
  obtain ⟨b1, b2⟩ := HG.push (h' := yN h q 10 N) (n := N) (kd := 10) g3 g4 a1 a2 rfl yN_ent (by simp only [ent, yN, xB]; simp)
  exact kk q b2 hr.1 hr.2 H1 locs ls b1 a3 hl
theorem r_iald (M : Mach g l R own cc nL hh mn V X) {a n : Nat} {x : Int32} (hd : decode cc pc = .ok (.iaload, 1)) (hs : xS h a = some (8, n)) (hin : vp_in x n) (kk : V (pc + 1) lv (.int (xA h a x.toNatClampNeg) :: st) h kc ks) : V pc lv (.int x :: .ref a :: st) h kc ks := by
  obtain ⟨Qs, p, e, s, m, args, below, meth, c, hx, hb, hml, hown, hts, hgl, hlk, hnm, htab, hst, rfl, rfl⟩ := M
  intro hkc hks H locs ls hG hS hl
  obtain ⟨ws, g1, g2, g3, g4⟩ := id hG
  obtain ⟨q0, hq0⟩ := g3 _ _ _ hs
  exact va_iald hx hb hgl.1.1 g1 q0 0 hq0 rfl hin hd (kk hkc hks H locs ls hG hS hl)
theorem r_zald (M : Mach g l R own cc nL hh mn V X) {a n : Nat} {x : Int32} (hd : decode cc pc = .ok (.baload, 1)) (hs : xS h a = some (9, n)) (hin : vp_in x n) (kk : V (pc + 1) lv (.int (xA h a x.toNatClampNeg) :: st) h kc ks) : V pc lv (.int x :: .ref a :: st) h kc ks := by
  obtain ⟨Qs, p, e, s, m, args, below, meth, c, hx, hb, hml, hown, hts, hgl, hlk, hnm, htab, hst, rfl, rfl⟩ := M
  intro hkc hks H locs ls hG hS hl
  obtain ⟨ws, g1, g2, g3, g4⟩ := id hG
  obtain ⟨q0, hq0⟩ := g3 _ _ _ hs
  exact va_zald hx hb hgl.1.1 g1 q0 1 hq0 rfl hin hd (kk hkc hks H locs ls hG hS hl)
theorem r_lald (M : Mach g l R own cc nL hh mn V X) {a n : Nat} {x : Int32} (hd : decode cc pc = .ok (.laload, 1)) (hs : xS h a = some (11, n)) (hin : vp_in x n) (kk : V (pc + 1) lv (.long (xL h a x.toNatClampNeg) :: st) h kc ks) : V pc lv (.int x :: .ref a :: st) h kc ks := by
  obtain ⟨Qs, p, e, s, m, args, below, meth, c, hx, hb, hml, hown, hts, hgl, hlk, hnm, htab, hst, rfl, rfl⟩ := M
  intro hkc hks H locs ls hG hS hl
  obtain ⟨ws, g1, g2, g3, g4⟩ := id hG
  obtain ⟨q0, hq0⟩ := g3 _ _ _ hs
  exact va_lald hx hb hgl.1.1 g1 q0 3 hq0 rfl hin hd (kk hkc hks H locs ls hG hS hl)
theorem r_aald (M : Mach g l R own cc nL hh mn V X) {a n : Nat} {x : Int32} {b : Nat} (hd : decode cc pc = .ok (.aaload, 1)) (hs : xS h a = some (10, n)) (hin : vp_in x n) (hv : xB h a x.toNatClampNeg = some b) (kk : V (pc + 1) lv (.ref b :: st) h kc ks) : V pc lv (.int x :: .ref a :: st) h kc ks := by
  obtain ⟨Qs, p, e, s, m, args, below, meth, c, hx, hb, hml, hown, hts, hgl, hlk, hnm, htab, hst, rfl, rfl⟩ := M
  intro hkc hks H locs ls hG hS hl
  obtain ⟨ws, g1, g2, g3, g4⟩ := id hG
  obtain ⟨q0, hq0⟩ := g3 _ _ _ hs
  refine va_aldq hx hb hgl.1.1 g1 q0 2 hq0 rfl hin hd ?_
  rw [hv]
  exact kk hkc hks H locs ls hG hS hl
theorem r_iast (M : Mach g l R own cc nL hh mn V X) {a n : Nat} {x : Int32} {v : Int32} (hd : decode cc pc = .ok (.iastore, 1)) (hs : xS h a = some (8, n)) (hin : vp_in x n) (kk : V (pc + 1) lv st (yA h a x.toNatClampNeg v) kc ks) : V pc lv (.int v :: .int x :: .ref a :: st) h kc ks := by
  obtain ⟨Qs, p, e, s, m, args, below, meth, c, hx, hb, hml, hown, hts, hgl, hlk, hnm, htab, hst, rfl, rfl⟩ := M
  intro hkc hks H locs ls hG hS hl
  obtain ⟨ws, g1, g2, g3, g4⟩ := id hG
  obtain ⟨q0, hq0⟩ := g3 _ _ _ hs
  exact va_iast hx hb hgl.1.1 g1 g2 hS q0 0 hq0 rfl hin hd (fun H1 locs1 a1 a2 a3 => kk hkc hks H1 locs1 ls (HG.set g2 g3 g4 rfl hs _ hq0 yA_ent (by simp only [ent, yA, xA]; rw [u2_own]; rfl) a1 a2) a3 hl)
theorem r_zast (M : Mach g l R own cc nL hh mn V X) {a n : Nat} {x : Int32} {v : Int32} (hd : decode cc pc = .ok (.bastore, 1)) (hs : xS h a = some (9, n)) (hin : vp_in x n) (hnv : vp_nar .boolean v = v) (kk : V (pc + 1) lv st (yA h a x.toNatClampNeg v) kc ks) : V pc lv (.int v :: .int x :: .ref a :: st) h kc ks := by
  obtain ⟨Qs, p, e, s, m, args, below, meth, c, hx, hb, hml, hown, hts, hgl, hlk, hnm, htab, hst, rfl, rfl⟩ := M
  intro hkc hks H locs ls hG hS hl
  obtain ⟨ws, g1, g2, g3, g4⟩ := id hG
  obtain ⟨q0, hq0⟩ := g3 _ _ _ hs
  exact va_zast hx hb hgl.1.1 g1 g2 hS q0 1 hq0 rfl hin hd (fun H1 locs1 a1 a2 a3 => kk hkc hks H1 locs1 ls (HG.set g2 g3 g4 rfl hs _ hq0 yA_ent (by simp only [ent, yA, xA, hnv]; rw [u2_own]; rfl) a1 a2) a3 hl)
theorem r_last (M : Mach g l R own cc nL hh mn V X) {a n : Nat} {x : Int32} {v : Int64} (hd : decode cc pc = .ok (.lastore, 1)) (hs : xS h a = some (11, n)) (hin : vp_in x n) (kk : V (pc + 1) lv st (yL h a x.toNatClampNeg v) kc ks) : V pc lv (.long v :: .int x :: .ref a :: st) h kc ks := by
  obtain ⟨Qs, p, e, s, m, args, below, meth, c, hx, hb, hml, hown, hts, hgl, hlk, hnm, htab, hst, rfl, rfl⟩ := M
  intro hkc hks H locs ls hG hS hl
  obtain ⟨ws, g1, g2, g3, g4⟩ := id hG
  obtain ⟨q0, hq0⟩ := g3 _ _ _ hs
  exact va_last hx hb hgl.1.1 g1 g2 hS q0 3 hq0 rfl hin hd (fun H1 locs1 a1 a2 a3 => kk hkc hks H1 locs1 ls (HG.set g2 g3 g4 rfl hs _ hq0 yL_ent (by simp only [ent, yL, xL]; rw [u2_own]; rfl) a1 a2) a3 hl)
theorem r_aastN (M : Mach g l R own cc nL hh mn V X) {a n : Nat} {x : Int32} (hd : decode cc pc = .ok (.aastore, 1)) (hs : xS h a = some (10, n)) (hin : vp_in x n) (kk : V (pc + 1) lv st (yB h a x.toNatClampNeg none) kc ks) : V pc lv (.null :: .int x :: .ref a :: st) h kc ks := by
  obtain ⟨Qs, p, e, s, m, args, below, meth, c, hx, hb, hml, hown, hts, hgl, hlk, hnm, htab, hst, rfl, rfl⟩ := M
  intro hkc hks H locs ls hG hS hl
  obtain ⟨ws, g1, g2, g3, g4⟩ := id hG
  obtain ⟨q0, hq0⟩ := g3 _ _ _ hs
  exact va_astqN hx hb hgl.1.1 g1 g2 hS q0 2 hq0 rfl hin hd (fun H1 locs1 a1 a2 a3 => kk hkc hks H1 locs1 ls (HG.set g2 g3 g4 rfl hs _ hq0 yB_ent (by simp only [ent, yB, xB]; rw [u2_own]; rfl) a1 a2) a3 hl)
theorem r_aast (M : Mach g l R own cc nL hh mn V X) {a n v ci nv : Nat} {x : Int32} {C1 : String} {T1 : u_T} {N1 : Nat} (hd : decode cc pc = .ok (.aastore, 1)) (hs : xS h a = some (10, n)) (hin : vp_in x n) (hv : xS h v = some (ci, nv)) (hcl : kcl[ci]? = some (C1, T1, N1)) (hw : Cond.castable C1 "java/lang/Object" ∈ NW) (kk : V (pc + 1) lv st (yB h a x.toNatClampNeg (some v)) kc ks) : V pc lv (.ref v :: .int x :: .ref a :: st) h kc ks := by
  obtain ⟨Qs, p, e, s, m, args, below, meth, c, hx, hb, hml, hown, hts, hgl, hlk, hnm, htab, hst, rfl, rfl⟩ := M
  intro hkc hks H locs ls hG hS hl
  obtain ⟨ws, g1, g2, g3, g4⟩ := id hG
  obtain ⟨q0, hq0⟩ := g3 _ _ _ hs
  obtain ⟨qv, hqv⟩ := g3 _ _ _ hv
  rw [ent_obj (kcl_lt hcl)] at hqv
  have hany : va_Any "java/lang/Object" s H v := va_rAny hgl.1.1 g1 hqv hcl (fun comp c0 h1 h2 => by
    obtain ⟨c3, c4, z3, z4, z5⟩ := Cond.castable_spec (va_Nw.use (A := args) rfl (hgl.1.2.1 _ hw))
    cases Option.some.inj (z3.symm.trans h2)
    cases Option.some.inj (z4.symm.trans h1)
    exact z5)
  exact va_astqM hx hb hgl.1.1 g1 g2 hS q0 2 hq0 rfl hany hin hd (fun H1 locs1 a1 a2 a3 => kk hkc hks H1 locs1 ls (HG.set g2 g3 g4 rfl hs _ hq0 yB_ent (by simp only [ent, yB, xB]; rw [u2_own]; rfl) a1 a2) a3 hl)
theorem r_alenI (M : Mach g l R own cc nL hh mn V X) {a n : Nat} (hd : decode cc pc = .ok (.arraylength, 1)) (hs : xS h a = some (8, n)) (kk : V (pc + 1) lv (.int (nI n) :: st) h kc ks) : V pc lv (.ref a :: st) h kc ks := by
  obtain ⟨Qs, p, e, s, m, args, below, meth, c, hx, hb, hml, hown, hts, hgl, hlk, hnm, htab, hst, rfl, rfl⟩ := M
  intro hkc hks H locs ls hG hS hl
  obtain ⟨ws, g1, g2, g3, g4⟩ := id hG
  obtain ⟨q0, hq0⟩ := g3 _ _ _ hs
  exact va_alen (v := nI n) hx hb hgl.1.1 g1 q0 0 hq0 rfl rfl hd (kk hkc hks H locs ls hG hS hl)
theorem r_alenZ (M : Mach g l R own cc nL hh mn V X) {a n : Nat} (hd : decode cc pc = .ok (.arraylength, 1)) (hs : xS h a = some (9, n)) (kk : V (pc + 1) lv (.int (nI n) :: st) h kc ks) : V pc lv (.ref a :: st) h kc ks := by
  obtain ⟨Qs, p, e, s, m, args, below, meth, c, hx, hb, hml, hown, hts, hgl, hlk, hnm, htab, hst, rfl, rfl⟩ := M
  intro hkc hks H locs ls hG hS hl
  obtain ⟨ws, g1, g2, g3, g4⟩ := id hG
  obtain ⟨q0, hq0⟩ := g3 _ _ _ hs
  exact va_alen (v := nI n) hx hb hgl.1.1 g1 q0 1 hq0 rfl rfl hd (kk hkc hks H locs ls hG hS hl)
theorem r_alenO (M : Mach g l R own cc nL hh mn V X) {a n : Nat} (hd : decode cc pc = .ok (.arraylength, 1)) (hs : xS h a = some (10, n)) (kk : V (pc + 1) lv (.int (nI n) :: st) h kc ks) : V pc lv (.ref a :: st) h kc ks := by
  obtain ⟨Qs, p, e, s, m, args, below, meth, c, hx, hb, hml, hown, hts, hgl, hlk, hnm, htab, hst, rfl, rfl⟩ := M
  intro hkc hks H locs ls hG hS hl
  obtain ⟨ws, g1, g2, g3, g4⟩ := id hG
  obtain ⟨q0, hq0⟩ := g3 _ _ _ hs
  exact va_alen (v := nI n) hx hb hgl.1.1 g1 q0 2 hq0 rfl rfl hd (kk hkc hks H locs ls hG hS hl)
theorem r_getsE (M : Mach g l R own cc nL hh mn V X) {idx : Nat} (hd : decode cc pc = .ok (.getstatic idx, 3)) (hw : Cond.fieldLink own idx "Puppetloom" "EASING" "[I" ∈ TB) (kk : V (pc + 3) lv (.ref (gN g 1) :: st) h kc ks) : V pc lv st h kc ks := by
  obtain ⟨Qs, p, e, s, m, args, below, meth, c, hx, hb, hml, hown, hts, hgl, hlk, hnm, htab, hst, rfl, rfl⟩ := M
  intro hkc hks H locs ls hG hS hl
  exact va_gets hx hb hgl.2.1 hS hown (hts _ hw) (fun _ q => q) hd (kk hkc hks H locs ls hG hS hl)
theorem r_getsD (M : Mach g l R own cc nL hh mn V X) {idx : Nat} (hd : decode cc pc = .ok (.getstatic idx, 3)) (hw : Cond.fieldLink own idx "java/util/ArrayList" "DEFAULTCAPACITY_EMPTY_ELEMENTDATA" "[Ljava/lang/Object;" ∈ TB) (kk : V (pc + 3) lv (.ref (gN g 2) :: st) h kc ks) : V pc lv st h kc ks := by
  obtain ⟨Qs, p, e, s, m, args, below, meth, c, hx, hb, hml, hown, hts, hgl, hlk, hnm, htab, hst, rfl, rfl⟩ := M
  intro hkc hks H locs ls hG hS hl
  exact va_gets hx hb hgl.2.2.2.1 hS hown (hts _ hw) (fun _ q => q) hd (kk hkc hks H locs ls hG hS hl)
theorem r_ialdE (M : Mach g l R own cc nL hh mn V X) {x : Int32} (hd : decode cc pc = .ok (.iaload, 1)) (hin : vp_in x 32) (kk : V (pc + 1) lv (.int (easeL.getD x.toNatClampNeg 0) :: st) h kc ks) : V pc lv (.int x :: .ref (gN g 1) :: st) h kc ks := by
  obtain ⟨Qs, p, e, s, m, args, below, meth, c, hx, hb, hml, hown, hts, hgl, hlk, hnm, htab, hst, rfl, rfl⟩ := M
  intro hkc hks H locs ls hG hS hl
  exact va_ti hx hb hgl.2.2.1 hS hin rfl hd (kk hkc hks H locs ls hG hS hl)
theorem r_alenE (M : Mach g l R own cc nL hh mn V X) (hd : decode cc pc = .ok (.arraylength, 1)) (kk : V (pc + 1) lv (.int (nI 32) :: st) h kc ks) : V pc lv (.ref (gN g 1) :: st) h kc ks := by
  obtain ⟨Qs, p, e, s, m, args, below, meth, c, hx, hb, hml, hown, hts, hgl, hlk, hnm, htab, hst, rfl, rfl⟩ := M
  intro hkc hks H locs ls hG hS hl
  exact va_tlen (v := nI 32) hx hb hgl.2.2.1 hS rfl hd (kk hkc hks H locs ls hG hS hl)
theorem r_alenD (M : Mach g l R own cc nL hh mn V X) (hd : decode cc pc = .ok (.arraylength, 1)) (kk : V (pc + 1) lv (.int (nI 0) :: st) h kc ks) : V pc lv (.ref (gN g 2) :: st) h kc ks := by
  obtain ⟨Qs, p, e, s, m, args, below, meth, c, hx, hb, hml, hown, hts, hgl, hlk, hnm, htab, hst, rfl, rfl⟩ := M
  intro hkc hks H locs ls hG hS hl
  exact va_tlen (v := nI 0) hx hb hgl.2.2.2.2.1 hS rfl hd (kk hkc hks H locs ls hG hS hl)
theorem r_ialdX (M : Mach g l R own cc nL hh mn V X) {x : Int32} (hd : decode cc pc = .ok (.iaload, 1)) (hin : vp_in x (gN g 5)) (kk : V (pc + 1) lv (.int (gX g x.toNatClampNeg) :: st) h kc ks) : V pc lv (.int x :: .ref (gN g 4) :: st) h kc ks := by
  obtain ⟨Qs, p, e, s, m, args, below, meth, c, hx, hb, hml, hown, hts, hgl, hlk, hnm, htab, hst, rfl, rfl⟩ := M
  intro hkc hks H locs ls hG hS hl
  exact va_ti hx hb hgl.2.2.2.2.2.1 hS hin rfl hd (kk hkc hks H locs ls hG hS hl)
theorem r_alenX (M : Mach g l R own cc nL hh mn V X) (hd : decode cc pc = .ok (.arraylength, 1)) (kk : V (pc + 1) lv (.int (nI (gN g 5)) :: st) h kc ks) : V pc lv (.ref (gN g 4) :: st) h kc ks := by
  obtain ⟨Qs, p, e, s, m, args, below, meth, c, hx, hb, hml, hown, hts, hgl, hlk, hnm, htab, hst, rfl, rfl⟩ := M
  intro hkc hks H locs ls hG hS hl
  exact va_tlen (v := nI (gN g 5)) hx hb hgl.2.2.2.2.2.1 hS rfl hd (kk hkc hks H locs ls hG hS hl)
theorem r_cast (M : Mach g l R own cc nL hh mn V X) {idx ci n a : Nat} {C1 : String} {T1 : u_T} {N1 : Nat} (hd : decode cc pc = .ok (.checkcast idx, 3)) (hs : xS h a = some (ci, n)) (hcl : kcl[ci]? = some (C1, T1, N1)) (hw : Cond.classLink own idx C1 ∈ TB) (kk : V (pc + 3) lv (.ref a :: st) h kc ks) : V pc lv (.ref a :: st) h kc ks := by
  obtain ⟨Qs, p, e, s, m, args, below, meth, c, hx, hb, hml, hown, hts, hgl, hlk, hnm, htab, hst, rfl, rfl⟩ := M
  intro hkc hks H locs ls hG hS hl
  obtain ⟨ws, g1, g2, g3, g4⟩ := id hG
  obtain ⟨q0, hq0⟩ := g3 _ _ _ hs
  rw [ent_obj (kcl_lt hcl)] at hq0
  exact va_castS (cC := (gD g).1 ci) hx hb hown (hts _ hw) (hgl.1.1.1 ci _ hcl).2 (va_recv hgl.1.1 g1 hcl hq0) hd (kk hkc hks H locs ls hG hS hl)
theorem r_ldcM (M : Mach g l R own cc nL hh mn V X) {idx : Nat} (hd : decode cc pc = .ok (.ldc idx, 2)) (hw : Cond.classLink own idx "[Ljava/lang/Object;" ∈ TB) (kk : V (pc + 2) lv (.ref (gN g 3) :: st) h kc ks) : V pc lv st h kc ks := by
  obtain ⟨Qs, p, e, s, m, args, below, meth, c, hx, hb, hml, hown, hts, hgl, hlk, hnm, htab, hst, rfl, rfl⟩ := M
  intro hkc hks H locs ls hG hS hl
  exact va_ldcM hx hb hown (hts _ hw) hgl.1.2.2.1 hd (kk hkc hks H locs ls hG hS hl)
theorem r_getC (M : Mach g l R own cc nL hh mn V X) {idx a n : Nat} (hd : decode cc pc = .ok (.invokevirtual idx, 3)) (hs : xS h a = some (10, n)) (hw1 : Cond.methodLink own idx ⟨"java/lang/Object", "getClass", "()Ljava/lang/Class;"⟩ ∈ TB) (hw2 : Cond.selects "[Ljava/lang/Object;" ⟨"java/lang/Object", "getClass", "()Ljava/lang/Class;"⟩ ⟨"java/lang/Object", "getClass", "()Ljava/lang/Class;"⟩ ∈ TB) (hw3 : Cond.instanceMethod ⟨"java/lang/Object", "getClass", "()Ljava/lang/Class;"⟩ ∈ TB) (hw4 : Cond.native ⟨"java/lang/Object", "getClass", "()Ljava/lang/Class;"⟩ ∈ TB) (hr1 : 1 ≤ R.frames) (hr2 : (st.map fun v => v.category).sum + 14 ≤ R.locals) (kk : V (pc + 3) lv (.ref (gN g 3) :: st) h kc ks) : V pc lv (.ref a :: st) h kc ks := by
  obtain ⟨Qs, p, e, s, m, args, below, meth, c, hx, hb, hml, hown, hts, hgl, hlk, hnm, htab, hst, rfl, rfl⟩ := M
  intro hkc hks H locs ls hG hS hl
  obtain ⟨ws, g1, g2, g3, g4⟩ := id hG
  obtain ⟨q0, hq0⟩ := g3 _ _ _ hs
  have hnmO : s.vm.findClass "[Ljava/lang/Object;" = some (gC g 2) := va_nmO (hgl.1.1.2 2 (gC g 2, .object "java/lang/Object") rfl).2 (by decide)
  exact va_getC hx hb (hml.trans hl.1.symm) hown (hts _ hw1) (va_Dc.use hgl.1.2.2.2.1) (hts _ hw2) (hts _ hw3) (hts _ hw4) hgl.1.2.2.1 ⟨_, g1 q0 _ hq0, rfl, hnmO⟩ hr1 hr2 hd (kk hkc hks H locs ls hG hS hl)
theorem r_copy (M : Mach g l R own cc nL hh mn V X) {idx a b na nb : Nat} {sp dp n : Int32} (hd : decode cc pc = .ok (.invokestatic idx, 3)) (ha : xS h a = some (10, na)) (hbb : xS h b = some (10, nb)) (hw1 : Cond.methodLink own idx arraycopyName ∈ TB) (hw2 : Cond.native arraycopyName ∈ TB) (hw3 : Cond.static arraycopyName ∈ TB) (hw4 : Cond.initialized "java/lang/System" ∈ TB) (h1 : ¬ sp < 0) (h2 : ¬ dp < 0) (h3 : ¬ n < 0) (h4 : sp.toNatClampNeg + n.toNatClampNeg ≤ na) (h5 : dp.toNatClampNeg + n.toNatClampNeg ≤ nb) (hel : ∀ i : Nat, i < n.toNatClampNeg → ∀ y : Nat, xB h a (sp.toNatClampNeg + i) = some y → ∃ (ci ny : Nat) (r : vw_C), xS h y = some (ci, ny) ∧ kcl[ci]? = some r ∧ Cond.castable r.1 "java/lang/Object" ∈ NW) (hr1 : 1 ≤ R.frames) (hr2 : (st.map fun v => v.category).sum + (nativeFrameWords "java/lang/System" "arraycopy" 5 + 11) ≤ R.locals) (kk : V (pc + 3) lv st (yC h b (va_cpy (xB h a) (xB h b) sp.toNatClampNeg dp.toNatClampNeg n.toNatClampNeg)) kc ks) : V pc lv (.int n :: .int dp :: .ref b :: .int sp :: .ref a :: st) h kc ks := by
  obtain ⟨Qs, p, e, s, m, args, below, meth, c, hx, hb, hml, hown, hts, hgl, hlk, hnm, htab, hst, rfl, rfl⟩ := M
  intro hkc hks H locs ls hG hS hl
  obtain ⟨ws, g1, g2, g3, g4⟩ := id hG
  obtain ⟨q0, hq0⟩ := g3 _ _ _ ha
  obtain ⟨q1, hq1⟩ := g3 _ _ _ hbb
  refine va_copyM hx hb (hml.trans hl.1.symm) hown (hts _ hw1) (hts _ hw2) (hts _ hw3) (hts _ hw4) hgl.1.1 g1 g2 hS q0 q1 2 2 hq0 hq1 rfl rfl h1 h2 h3 h4 h5 (fun i hi y hy => ?_) hr1 hr2 hd (fun H1 locs1 a1 a2 a3 => kk hkc hks H1 locs1 ls (HG.set g2 g3 g4 rfl hbb _ hq1 yC_ent (by simp only [ent, yC, xB]; simp [u1]) a1 a2) a3 hl)
  obtain ⟨ci, ny, r, y1, y2, y3⟩ := hel i hi y hy
  obtain ⟨qv, hqv⟩ := g3 _ _ _ y1
  rw [ent_obj (kcl_lt y2)] at hqv
  exact va_rAny hgl.1.1 g1 hqv y2 (fun comp c0 h1 h2 => by
    obtain ⟨c3, c4, z3, z4, z5⟩ := Cond.castable_spec (va_Nw.use (A := args) rfl (hgl.1.2.1 _ y3))
    cases Option.some.inj (z3.symm.trans h2)
    cases Option.some.inj (z4.symm.trans h1)
    exact z5)
end RulesH
end
section
/-! ===== calls, throws, ends ===== -/
section Go
variable {p : Program} {l : Launch} {e : Env} {R : Room} {s : State} {m : MethodId} {args : Array Value} {below : List Frame} {meth : Method} {c : Code} {H : Heap} {locs : List Loc} {cells slots mc ms : Nat} {Q : State → Prop} {pc : Nat} {ls : Array Slot} {st0 rest : List Value} {g : Gl} {post : Res → Hp → Prop} {a : Array Value}
theorem va_to_vx {gf : JFrame} {Qa : State → Outcome → State → Prop} {XC : String → State → State → Prop} {free : Addr → Prop} (hr : va_Run p l e R s m args below meth c H locs cells slots mc ms gf rest Qa free) : vx_Run p l e R s m args below meth c H locs cells slots mc ms gf rest Qa XC free := fun T hT XS => Or.inl (hr T hT XS)
theorem vx_go (hr : vx_Run p l e R s m args below meth c H locs cells slots mc ms (F0 m pc ls st0) rest (QC g post a) (XQ g post) (gA g)) (hS : va_S (gA g) s.heap H locs)
    (kret : ∀ (r : Option Value) (h' : Hp) (H1 : Heap) (locs1 : List Loc), post (.inl r) h' → HG g h' H1 → va_S (gA g) s.heap H1 locs1 → W p l e R s m args below meth c H1 locs1 (cells + mc) (slots + ms) Q (F0 m (pc + 3) ls (r.toList ++ rest)))
    (kthr : ∀ (E : String) (h' : Hp) (H1 : Heap) (locs1 : List Loc) (q : Nat) (ce : Cell), post (.inr E) h' → HG g h' H1 → va_S (gA g) s.heap H1 locs1 → H1[q]? = some ce → ce.vm = .none → s.vm.findClass E = some ce.cls → vx_W p l e R s m args below meth c H1 locs1 (cells + mc) (slots + ms) Q (F0 m pc ls rest) q) : W p l e R s m args below meth c H locs cells slots Q (F0 m pc ls st0) := by
  intro T hT XS
  rcases hr T hT XS with ⟨v, st₀, t, T', L, h0, X', hL, e1, e2, ⟨⟨r, h', hv, hp, hb⟩, hF⟩, st⟩ | ⟨q, st₀, t, T', L, E, ce, h0, X', hL, e1, e2, ⟨⟨h', hp, hb⟩, hF⟩, hce, hcv, hcl, st⟩
  · cases hv
    obtain ⟨k1, k2, k3⟩ := vx_keep h0 e1 hS (fun _ _ z => z) (fun _ z => z) hL hF
    obtain ⟨t2, a1, b1⟩ := kret v h' T'.heap (locs ++ L) hp (by rw [e1]; exact hb) k3 T' rfl X'
    exact ⟨t2, st t2 a1, b1⟩
  · obtain ⟨k1, k2, k3⟩ := vx_keep h0 e1 hS (fun _ _ z => z) (fun _ z => z) hL hF
    obtain ⟨t2, a1, b1⟩ := kthr E h' T'.heap (locs ++ L) q ce hp (by rw [e1]; exact hb) k3 (by rw [e1]; exact hce) hcv hcl T' rfl X'
    exact ⟨t2, st.trans a1, b1⟩
end Go
theorem PG.at {g : Gl} {s U : State} {H : Heap} {locs : List Loc} {av : List Value} {h : Hp} (hgl : Glob g s) (hG : HG g h H) (hS : va_S (gA g) s.heap H locs) (hU : U.heap = H) (hW : s.WarmedH U.vm) : PG g av h av.toArray U := ⟨rfl, hgl.at hS hU hW, by rw [hU]; exact hG⟩
abbrev notMH (y : MethodName) (n : Nat) : Prop := y.cls ≠ "java/lang/invoke/MethodHandle" ∧ y.cls ≠ "java/lang/invoke/VarHandle" ∧ (parseMethodDescriptor y.desc).map (fun d => d.parameters.length) = some n
/-- what a call asks of the tables -/
def CWV (own : String) (idx : Nat) (C : String) (mi : MI) (n : Nat) : Prop := mi.1.cls = C ∧ notMH mi.1 n ∧ Cond.methodLink own idx mi.1 ∈ TB ∧ Cond.instanceMethod mi.1 ∈ TB ∧ Cond.selects C mi.1 mi.1 ∈ TB ∧ Cond.initialized C ∈ TB ∧ cwOf mi ∈ TB
def CWS (own : String) (idx : Nat) (mi : MI) (n : Nat) : Prop := notMH mi.1 n ∧ Cond.methodLink own idx mi.1 ∈ TB ∧ Cond.static mi.1 ∈ TB ∧ Cond.initialized mi.1.cls ∈ TB ∧ cwOf mi ∈ TB
def CWI (own : String) (idx : Nat) (mi : MI) (n : Nat) : Prop := mi.1.name = "<init>" ∧ mi.2.2.2 = none ∧ notMH mi.1 n ∧ Cond.methodLink own idx mi.1 ∈ TB ∧ Cond.instanceMethod mi.1 ∈ TB ∧ Cond.initialized mi.1.cls ∈ TB ∧ cwOf mi ∈ TB
def CWIN (own : String) (idx : Nat) (host : String) (mi : MI) (n : Nat) : Prop := mi.1.name = "<init>" ∧ mi.2.2.2 = none ∧ notMH mi.1 n ∧ Cond.methodLinkNest own idx mi.1 host ∈ NW ∧ Cond.instanceMethod mi.1 ∈ TB ∧ Cond.initialized mi.1.cls ∈ TB ∧ cwOf mi ∈ TB
def CWSN (own : String) (idx : Nat) (host : String) (mi : MI) (n : Nat) : Prop := notMH mi.1 n ∧ Cond.methodLinkNest own idx mi.1 host ∈ NW ∧ Cond.static mi.1 ∈ TB ∧ Cond.initialized mi.1.cls ∈ TB ∧ cwOf mi ∈ TB
def CWSW (own : String) (idx : Nat) (mi : MI) (hh : List (Nat × Nat × Nat × Nat)) (n : Nat) : Prop := notMH mi.1 n ∧ Cond.methodLink own idx mi.1 ∈ TB ∧ Cond.static mi.1 ∈ TB ∧ Cond.initialized mi.1.cls ∈ TB ∧ Cond.codeWith mi.1 mi.2.1 mi.2.2.1 mi.2.2.2 hh ∈ TB
/-- the room of a callee of depth d -/
abbrev RD (R : Room) (d : Nat) (mi : MI) : Prop := d + 1 ≤ R.frames ∧ 60 * d + 60 ≤ R.locals ∧ mi.2.2.1 ≤ 41
theorem RD.fit {R : Room} {d mc ms : Nat} {mi : MI} (h : RD R d mi) : (rmOf d mc ms).frames + 1 ≤ R.frames ∧ 8 + (mi.2.2.1 + 11) + (rmOf d mc ms).locals ≤ R.locals := ⟨h.1, by
  have h1 := h.2.1
  have h2 := h.2.2
  show 8 + (mi.2.2.1 + 11) + 60 * d ≤ R.locals
  omega⟩
theorem code_in {mi : MI} (h : cwOf mi ∈ TB) : ∀ w ∈ cwOf mi :: TB, w ∈ TB := fun w hw => (List.mem_cons.mp hw).elim (fun e => e ▸ h) id
section RulesC
variable {g : Gl} {l : Launch} {R : Room} {own : String} {cc : ByteArray} {nL : Nat} {hh : List (Nat × Nat × Nat × Nat)} {mn : String} {V : VT} {X : XT} {pc : Nat} {lv : List (Option Value)} {st stk : List Value} {h : Hp} {kc ks : Nat}

theorem r_callV (M : Mach g l R own cc nL hh mn V X) {idx d mc ms a ci n : Nat} {mi : MI} {As : List Value} {post : Res → Hp → Prop} {C1 : String} {T1 : u_T} {N1 : Nat} (hd : decode cc pc = .ok (.invokevirtual idx, 3)) (hstk : stk = As.reverse ++ .ref a :: st) (hct : CT g l mi d (.ref a :: As) h mc ms post) (hs : xS h a = some (ci, n)) (hcl : kcl[ci]? = some (C1, T1, N1)) (hcw : CWV own idx C1 mi As.length) (hR : RD R d mi) (hroom : (st.map fun v => v.category).sum ≤ 8) (hbud : kc + mc ≤ R.cells ∧ ks + ms ≤ R.slots) (kret : ∀ (r : Option Value) (h' : Hp), post (.inl r) h' → V (pc + 3) lv (r.toList ++ st) h' (kc + mc) (ks + ms)) (kthr : ∀ (E : String) (h' : Hp), post (.inr E) h' → X pc lv E h' (kc + mc) (ks + ms)) : V pc lv stk h kc ks := by
  obtain ⟨Qs, p, e, s, m, args, below, meth, c, hx, hb, hml, hown, hts, hgl, hlk, hnm, htab, hst, rfl, rfl⟩ := M
  intro hkc hks H locs ls hG hS hl
  obtain ⟨w1, ⟨w2, w3, w4⟩, w5, w6, w7, w8, w9⟩ := hcw
  obtain ⟨ws, g1, g2, g3, g4⟩ := id hG
  obtain ⟨q0, hq0⟩ := g3 _ _ _ hs
  rw [ent_obj (kcl_lt hcl)] at hq0
  refine vx_go (vx_runV (As := As) (rest := st) ⟨hx, hb, hml, hown, hts⟩ hct (cwV As.length hts (TB_in (fun w hw => ?_)) rfl rfl rfl ⟨w1, w2, w3, w4⟩ hR.fit) ⟨PG.blind, va_recv hgl.1.1 g1 hcl hq0, fun U hU hW => PG.at hgl hG hS hU hW⟩ rfl rfl hl.1 hstk (by show 2 * 0 + _ ≤ 8; omega) hd hbud) hS (fun r h' H1 locs1 a1 a2 a3 => kret r h' a1 hbud.1 hbud.2 H1 locs1 ls a2 a3 hl) (fun E h' H1 locs1 q ce a1 a2 a3 a4 a5 a6 => kthr E h' a1 hbud.1 hbud.2 H1 locs1 ls q ce st a2 a3 hl a4 a5 a6)
  rcases List.mem_append.mp hw with z | z
  · simp only [List.mem_cons, List.not_mem_nil, or_false] at z
    rcases z with rfl | rfl | rfl | rfl
    · exact w5
    · exact w6
    · exact w7
    · exact w8
  · exact code_in w9 w z
theorem r_callS (M : Mach g l R own cc nL hh mn V X) {idx d mc ms : Nat} {mi : MI} {As : List Value} {post : Res → Hp → Prop} (hd : decode cc pc = .ok (.invokestatic idx, 3)) (hstk : stk = As.reverse ++ st) (hct : CT g l mi d As h mc ms post) (hcw : CWS own idx mi As.length) (hR : RD R d mi) (hroom : (st.map fun v => v.category).sum ≤ 8) (hbud : kc + mc ≤ R.cells ∧ ks + ms ≤ R.slots) (kret : ∀ (r : Option Value) (h' : Hp), post (.inl r) h' → V (pc + 3) lv (r.toList ++ st) h' (kc + mc) (ks + ms)) (kthr : ∀ (E : String) (h' : Hp), post (.inr E) h' → X pc lv E h' (kc + mc) (ks + ms)) : V pc lv stk h kc ks := by
  obtain ⟨Qs, p, e, s, m, args, below, meth, c, hx, hb, hml, hown, hts, hgl, hlk, hnm, htab, hst, rfl, rfl⟩ := M
  intro hkc hks H locs ls hG hS hl
  obtain ⟨⟨w2, w3, w4⟩, w5, w6, w8, w9⟩ := hcw
  refine vx_go (vx_runS (As := As) (rest := st) ⟨hx, hb, hml, hown, hts⟩ hct (va_cwS As.length hts (TB_in (fun w hw => ?_)) rfl rfl rfl ⟨w2, w3, w4⟩ hR.fit) ⟨PG.blind, fun U hU hW => PG.at hgl hG hS hU hW⟩ rfl rfl hl.1 hstk (by show 2 * 0 + _ ≤ 8; omega) hd hbud) hS (fun r h' H1 locs1 a1 a2 a3 => kret r h' a1 hbud.1 hbud.2 H1 locs1 ls a2 a3 hl) (fun E h' H1 locs1 q ce a1 a2 a3 a4 a5 a6 => kthr E h' a1 hbud.1 hbud.2 H1 locs1 ls q ce st a2 a3 hl a4 a5 a6)
  rcases List.mem_append.mp hw with z | z
  · simp only [List.mem_cons, List.not_mem_nil, or_false] at z
    rcases z with rfl | rfl | rfl
    · exact w5
    · exact w6
    · exact w8
  · exact code_in w9 w z
theorem r_callSW (M : Mach g l R own cc nL hh mn V X) {idx d mc ms : Nat} {mi : MI} {hh1 : List (Nat × Nat × Nat × Nat)} {As : List Value} {post : Res → Hp → Prop} (hd : decode cc pc = .ok (.invokestatic idx, 3)) (hstk : stk = As.reverse ++ st) (hct : CTW g l mi hh1 d As h mc ms post) (hcw : CWSW own idx mi hh1 As.length) (hR : RD R d mi) (hroom : (st.map fun v => v.category).sum ≤ 8) (hbud : kc + mc ≤ R.cells ∧ ks + ms ≤ R.slots) (kret : ∀ (r : Option Value) (h' : Hp), post (.inl r) h' → V (pc + 3) lv (r.toList ++ st) h' (kc + mc) (ks + ms)) (hno : ∀ (E : String) (h' : Hp), ¬ post (.inr E) h') : V pc lv stk h kc ks := by
  obtain ⟨Qs, p, e, s, m, args, below, meth, c, hx, hb, hml, hown, hts, hgl, hlk, hnm, htab, hst, rfl, rfl⟩ := M
  intro hkc hks H locs ls hG hS hl
  obtain ⟨⟨w2, w3, w4⟩, w5, w6, w8, w9⟩ := hcw
  refine vx_go (vx_runSX (As := As) (rest := st) ⟨hx, hb, hml, hown, hts⟩ hct (vx_cwSW As.length hts (TB_in (fun w hw => ?_)) rfl rfl rfl ⟨w2, w3, w4⟩ hR.fit) ⟨PG.blind, fun U hU hW => PG.at hgl hG hS hU hW⟩ rfl rfl hl.1 hstk (by show 2 * 0 + _ ≤ 8; omega) hd hbud) hS (fun r h' H1 locs1 a1 a2 a3 => kret r h' a1 hbud.1 hbud.2 H1 locs1 ls a2 a3 hl) (fun E h' H1 locs1 q ce a1 a2 a3 a4 a5 a6 => absurd a1 (hno E h'))
  rcases List.mem_append.mp hw with z | z
  · simp only [List.mem_cons, List.not_mem_nil, or_false] at z
    rcases z with rfl | rfl | rfl
    · exact w5
    · exact w6
    · exact w8
  · exact (List.mem_cons.mp z).elim (fun e => e ▸ w9) id
theorem r_callI (M : Mach g l R own cc nL hh mn V X) {idx d mc ms a : Nat} {mi : MI} {As : List Value} {post : Res → Hp → Prop} (hd : decode cc pc = .ok (.invokespecial idx, 3)) (hstk : stk = As.reverse ++ .ref a :: st) (hct : CT g l mi d (.ref a :: As) h mc ms post) (hcw : CWI own idx mi As.length) (hR : RD R d mi) (hroom : (st.map fun v => v.category).sum ≤ 8) (hbud : kc + mc ≤ R.cells ∧ ks + ms ≤ R.slots) (kret : ∀ (r : Option Value) (h' : Hp), post (.inl r) h' → V (pc + 3) lv (r.toList ++ st) h' (kc + mc) (ks + ms)) (hno : ∀ (E : String) (h' : Hp), ¬ post (.inr E) h') : V pc lv stk h kc ks := by
  obtain ⟨Qs, p, e, s, m, args, below, meth, c, hx, hb, hml, hown, hts, hgl, hlk, hnm, htab, hst, rfl, rfl⟩ := M
  intro hkc hks H locs ls hG hS hl
  obtain ⟨w0, w1, ⟨w2, w3, w4⟩, w5, w6, w8, w9⟩ := hcw
  obtain ⟨y, bb, nn, rr⟩ := mi
  dsimp only at w1
  subst w1
  exact vx_go (va_to_vx (va_runI (As := As) (rest := st) ⟨hx, hb, hml, hown, hts⟩ (ct_met hct hno) (cwI As.length hts (TB_in (code_in w9)) rfl rfl rfl (hts _ w8) (hts _ w5) (hts _ w6) w0 ⟨w2, w3, w4⟩ hR.fit) ⟨PG.blind, fun U hU hW => PG.at hgl hG hS hU hW⟩ rfl rfl hl.1 hstk (by show 2 * 0 + _ ≤ 8; omega) hd hbud)) hS (fun r h' H1 locs1 a1 a2 a3 => kret r h' a1 hbud.1 hbud.2 H1 locs1 ls a2 a3 hl) (fun E h' H1 locs1 q ce a1 a2 a3 a4 a5 a6 => absurd a1 (hno E h'))
theorem r_callIN (M : Mach g l R own cc nL hh mn V X) {idx d mc ms a : Nat} {host : String} {mi : MI} {As : List Value} {post : Res → Hp → Prop} (hd : decode cc pc = .ok (.invokespecial idx, 3)) (hstk : stk = As.reverse ++ .ref a :: st) (hct : CT g l mi d (.ref a :: As) h mc ms post) (hcw : CWIN own idx host mi As.length) (hR : RD R d mi) (hroom : (st.map fun v => v.category).sum ≤ 8) (hbud : kc + mc ≤ R.cells ∧ ks + ms ≤ R.slots) (kret : ∀ (r : Option Value) (h' : Hp), post (.inl r) h' → V (pc + 3) lv (r.toList ++ st) h' (kc + mc) (ks + ms)) (hno : ∀ (E : String) (h' : Hp), ¬ post (.inr E) h') : V pc lv stk h kc ks := by
  obtain ⟨Qs, p, e, s, m, args, below, meth, c, hx, hb, hml, hown, hts, hgl, hlk, hnm, htab, hst, rfl, rfl⟩ := M
  intro hkc hks H locs ls hG hS hl
  obtain ⟨w0, w1, ⟨w2, w3, w4⟩, w5, w6, w8, w9⟩ := hcw
  obtain ⟨y, bb, nn, rr⟩ := mi
  dsimp only at w1
  subst w1
  exact vx_go (va_to_vx (va_runIN (As := As) (rest := st) ⟨hx, hb, hml, hown, hts⟩ (ct_met hct hno) ⟨va_cnB As.length hts (TB_in (code_in w9)) rfl rfl rfl (hgl.1.2.1 _ w5) (hts _ w8) ⟨w2, w3, w4⟩ hR.fit, w0, hts _ w6⟩ ⟨PG.blind, fun U hU hW => PG.at hgl hG hS hU hW⟩ rfl rfl hl.1 hstk (by show 2 * 0 + _ ≤ 8; omega) hd hbud)) hS (fun r h' H1 locs1 a1 a2 a3 => kret r h' a1 hbud.1 hbud.2 H1 locs1 ls a2 a3 hl) (fun E h' H1 locs1 q ce a1 a2 a3 a4 a5 a6 => absurd a1 (hno E h'))
theorem r_callSN (M : Mach g l R own cc nL hh mn V X) {idx d mc ms : Nat} {host : String} {mi : MI} {As : List Value} {post : Res → Hp → Prop} (hd : decode cc pc = .ok (.invokestatic idx, 3)) (hstk : stk = As.reverse ++ st) (hct : CT g l mi d As h mc ms post) (hcw : CWSN own idx host mi As.length) (hR : RD R d mi) (hroom : (st.map fun v => v.category).sum ≤ 8) (hbud : kc + mc ≤ R.cells ∧ ks + ms ≤ R.slots) (kret : ∀ (r : Option Value) (h' : Hp), post (.inl r) h' → V (pc + 3) lv (r.toList ++ st) h' (kc + mc) (ks + ms)) (hno : ∀ (E : String) (h' : Hp), ¬ post (.inr E) h') : V pc lv stk h kc ks := by
  obtain ⟨Qs, p, e, s, m, args, below, meth, c, hx, hb, hml, hown, hts, hgl, hlk, hnm, htab, hst, rfl, rfl⟩ := M
  intro hkc hks H locs ls hG hS hl
  obtain ⟨⟨w2, w3, w4⟩, w5, w6, w8, w9⟩ := hcw
  exact vx_go (va_to_vx (va_runSN (As := As) (rest := st) ⟨hx, hb, hml, hown, hts⟩ (ct_met hct hno) ⟨va_cnB As.length hts (TB_in (code_in w9)) rfl rfl rfl (hgl.1.2.1 _ w5) (hts _ w8) ⟨w2, w3, w4⟩ hR.fit, hts _ w6, trivial⟩ ⟨PG.blind, fun U hU hW => PG.at hgl hG hS hU hW⟩ rfl rfl hl.1 hstk (by show 2 * 0 + _ ≤ 8; omega) hd hbud)) hS (fun r h' H1 locs1 a1 a2 a3 => kret r h' a1 hbud.1 hbud.2 H1 locs1 ls a2 a3 hl) (fun E h' H1 locs1 q ce a1 a2 a3 a4 a5 a6 => absurd a1 (hno E h'))
theorem r_objInit (M : Mach g l R own cc nL hh mn V X) {idx a : Nat} (hd : decode cc pc = .ok (.invokespecial idx, 3)) (hw1 : Cond.methodLink own idx objectInit ∈ TB) (hw2 : Cond.instanceMethod objectInit ∈ TB) (hw3 : Cond.code objectInit ⟨#[0xb1]⟩ 1 none ∈ TB) (hr1 : 1 ≤ R.frames) (hr2 : (st.map fun v => v.category).sum + 12 ≤ R.locals) (kk : V (pc + 3) lv st h kc ks) : V pc lv (.ref a :: st) h kc ks := by
  obtain ⟨Qs, p, e, s, m, args, below, meth, c, hx, hb, hml, hown, hts, hgl, hlk, hnm, htab, hst, rfl, rfl⟩ := M
  intro hkc hks H locs ls hG hS hl
  exact W.objInit hx hb hown (hts _ hw1) (hts _ hw2) (hts _ hw3) rfl (hl.1.trans hml.symm) rfl hd hr1 (by show 2 * 0 + _ + 12 ≤ R.locals; omega) (kk hkc hks H locs ls hG hS hl)
theorem r_max (M : Mach g l R own cc nL hh mn V X) {idx : Nat} {x y : Int32} (hd : decode cc pc = .ok (.invokestatic idx, 3)) (hw1 : Cond.methodLink own idx Lib.Math.max.name ∈ TB) (hw2 : Cond.static Lib.Math.max.name ∈ TB) (hw3 : Cond.initialized "java/lang/Math" ∈ TB) (hw4 : Cond.code Lib.Math.max.name Lib.Math.max.code 2 (some .int) ∈ TB) (hr1 : 1 ≤ R.frames) (hr2 : (st.map fun v => v.category).sum + 13 ≤ R.locals) (kk : V (pc + 3) lv (.int (if x < y then y else x) :: st) h kc ks) : V pc lv (.int y :: .int x :: st) h kc ks := by
  obtain ⟨Qs, p, e, s, m, args, below, meth, c, hx, hb, hml, hown, hts, hgl, hlk, hnm, htab, hst, rfl, rfl⟩ := M
  intro hkc hks H locs ls hG hS hl
  exact va_mmax hx hb (hml.trans hl.1.symm) hown (hts _ hw1) (hts _ hw2) (hts _ hw3) (hts _ hw4) hr1 hr2 hkc hks hd (kk hkc hks H locs ls hG hS hl)
theorem r_min (M : Mach g l R own cc nL hh mn V X) {idx : Nat} {x y : Int32} (hd : decode cc pc = .ok (.invokestatic idx, 3)) (hw1 : Cond.methodLink own idx Lib.Math.min.name ∈ TB) (hw2 : Cond.static Lib.Math.min.name ∈ TB) (hw3 : Cond.initialized "java/lang/Math" ∈ TB) (hw4 : Cond.code Lib.Math.min.name Lib.Math.min.code 2 (some .int) ∈ TB) (hr1 : 1 ≤ R.frames) (hr2 : (st.map fun v => v.category).sum + 13 ≤ R.locals) (kk : V (pc + 3) lv (.int (if y < x then y else x) :: st) h kc ks) : V pc lv (.int y :: .int x :: st) h kc ks := by
  obtain ⟨Qs, p, e, s, m, args, below, meth, c, hx, hb, hml, hown, hts, hgl, hlk, hnm, htab, hst, rfl, rfl⟩ := M
  intro hkc hks H locs ls hG hS hl
  exact va_mmin hx hb (hml.trans hl.1.symm) hown (hts _ hw1) (hts _ hw2) (hts _ hw3) (hts _ hw4) hr1 hr2 hkc hks hd (kk hkc hks H locs ls hG hS hl)
theorem r_abs (M : Mach g l R own cc nL hh mn V X) {idx : Nat} {x : Int32} (hd : decode cc pc = .ok (.invokestatic idx, 3)) (hw1 : Cond.methodLink own idx Lib.Math.abs.name ∈ TB) (hw2 : Cond.static Lib.Math.abs.name ∈ TB) (hw3 : Cond.initialized "java/lang/Math" ∈ TB) (hw4 : Cond.code Lib.Math.abs.name Lib.Math.abs.code 1 (some .int) ∈ TB) (hr1 : 1 ≤ R.frames) (hr2 : (st.map fun v => v.category).sum + 13 ≤ R.locals) (kk : V (pc + 3) lv (.int (if 0 ≤ x then x else 0 - x) :: st) h kc ks) : V pc lv (.int x :: st) h kc ks := by
  obtain ⟨Qs, p, e, s, m, args, below, meth, c, hx, hb, hml, hown, hts, hgl, hlk, hnm, htab, hst, rfl, rfl⟩ := M
  intro hkc hks H locs ls hG hS hl
  exact va_mabs hx hb (hml.trans hl.1.symm) hown (hts _ hw1) (hts _ hw2) (hts _ hw3) (hts _ hw4) hr1 hr2 hkc hks hd (kk hkc hks H locs ls hG hS hl)
theorem x_catch (M : Mach g l R own cc nL hh mn V X) {E name : String} (pre : List ExceptionTableEntry) (x : ExceptionTableEntry) (suf : List ExceptionTableEntry) (hsp : tableOf hh = pre ++ x :: suf) (hpass : ∀ z ∈ pre, z.catchType ≠ 0 ∧ ∃ nm : String, Cond.classLink own z.catchType nm ∈ TB ∧ (E, nm) ∈ ncs) (hcov : covers x pc = true) (h0 : x.catchType ≠ 0) (hw : Cond.classLink own x.catchType name ∈ TB) (hc : Cond.castable E name ∈ NW) (kk : ∀ q : Nat, V x.handlerPc lv [.ref q] h kc ks) : X pc lv E h kc ks := by
  obtain ⟨Qs, p, e, s, m, args, below, meth, c, hx, hb, hml, hown, hts, hgl, hlk, hnm, htab, hst, rfl, rfl⟩ := M
  intro hkc hks H locs ls q ce rest hG hS hl h1 h2 h3
  exact vx_catch hown pre x suf (htab.trans hsp) (fun z hz => Or.inr ⟨(hpass z hz).1, (hpass z hz).2.choose, hts _ (hpass z hz).2.choose_spec.1, hgl.1.2.2.2.2.2.2 _ (hpass z hz).2.choose_spec.2⟩) hcov h0 (hts _ hw) (va_Nw.use rfl (hgl.1.2.1 _ hc)) h1 h2 h3 (kk q hkc hks H locs ls hG hS hl)
end RulesC
section Ends
variable {g : Gl} {l : Launch} {own : String} {cc : ByteArray} {nL mc ms d : Nat} {ret : Option FieldType} {rt : FieldType} {hh : List (Nat × Nat × Nat × Nat)} {mn : String} {post : Res → Hp → Prop} {V : VT} {X : XT} {pc : Nat} {lv : List (Option Value)} {st stk : List Value} {h : Hp} {kc ks : Nat}

theorem r_iret (M : MachR g l mc ms d own cc nL (some .int) hh mn post V X) {x : Int32} (hd : decode cc pc = .ok (.ireturn, 1)) (hp : post (.inl (some (.int x))) h) : V pc lv [.int x] h kc ks := by
  obtain ⟨p, e, s, m, args, below, meth, c, hret, hx, hb, hml, hown, hts, hgl, hlk, hnm, htab, hst, rfl, rfl⟩ := M
  intro hkc hks H locs ls hG hS hl
  refine W.widen (k := mc) (n := ms) hkc hks ?_
  exact vx_ret (W.iret (v := x) hx hb hret (fun t ht hW => ⟨⟨_, h, rfl, hp, by rw [ht]; exact hG⟩, hS.F ht⟩) hS.2.2 hd hlk)
theorem r_zret (M : MachR g l mc ms d own cc nL (some .boolean) hh mn post V X) {x : Int32} (hd : decode cc pc = .ok (.ireturn, 1)) (hn : narrow .boolean (.int x) = .int x) (hp : post (.inl (some (.int x))) h) : V pc lv [.int x] h kc ks := by
  obtain ⟨p, e, s, m, args, below, meth, c, hret, hx, hb, hml, hown, hts, hgl, hlk, hnm, htab, hst, rfl, rfl⟩ := M
  intro hkc hks H locs ls hG hS hl
  refine W.widen (k := mc) (n := ms) hkc hks ?_
  exact vx_ret (W.zret (v := x) hx hb hret hn (fun t ht hW => ⟨⟨_, h, rfl, hp, by rw [ht]; exact hG⟩, hS.F ht⟩) hS.2.2 hd hlk)
theorem r_vret (M : MachR g l mc ms d own cc nL none hh mn post V X) (hd : decode cc pc = .ok (.return_, 1)) (hp : post (.inl none) h) : V pc lv [] h kc ks := by
  obtain ⟨p, e, s, m, args, below, meth, c, hret, hx, hb, hml, hown, hts, hgl, hlk, hnm, htab, hst, rfl, rfl⟩ := M
  intro hkc hks H locs ls hG hS hl
  refine W.widen (k := mc) (n := ms) hkc hks ?_
  exact vx_ret (W.vret hx hb hret (fun t ht hW => ⟨⟨_, h, rfl, hp, by rw [ht]; exact hG⟩, hS.F ht⟩) hS.2.2 hd hlk)
theorem r_aret (M : MachR g l mc ms d own cc nL (some rt) hh mn post V X) {a : Nat} (hd : decode cc pc = .ok (.areturn, 1)) (hrt : (∃ n, rt = .object n) ∨ ∃ t, rt = .array t) (hp : post (.inl (some (.ref a))) h) : V pc lv [.ref a] h kc ks := by
  obtain ⟨p, e, s, m, args, below, meth, c, hret, hx, hb, hml, hown, hts, hgl, hlk, hnm, htab, hst, rfl, rfl⟩ := M
  intro hkc hks H locs ls hG hS hl
  refine W.widen (k := mc) (n := ms) hkc hks ?_
  exact vx_ret (W.aret (v := .ref a) hx hb hret hrt (Or.inr ⟨a, rfl⟩) (fun t ht hW => ⟨⟨_, h, rfl, hp, by rw [ht]; exact hG⟩, hS.F ht⟩) hS.2.2 hd hlk)
theorem x_out (M : MachR g l mc ms d own cc nL ret [] mn post V X) {E : String} (hp : post (.inr E) h) : X pc lv E h kc ks := by
  obtain ⟨p, e, s, m, args, below, meth, c, hret, hx, hb, hml, hown, hts, hgl, hlk, hnm, htab, hst, rfl, rfl⟩ := M
  intro hkc hks H locs ls q ce rest hG hS hl h1 h2 h3
  exact vx_out (fun z hz => by rw [htab] at hz; cases hz) hlk h1 h2 h3 (fun t ht hW => ⟨⟨h, hp, by rw [ht]; exact hG⟩, hS.F ht⟩) hS.2.2 hkc hks
def nmsX : List String := ["java/lang/RuntimeException", "java/lang/Exception"]
/-- what 'throw new cls("..")' asks of the tables -/
def TI (own : String) (ik is ic : Nat) (cls : String) : Prop := ∃ (k : Nat) (text : String), strs[k]? = some (own, is, text) ∧ Bundle.fit cls = true ∧ Cond.classLink own ik cls ∈ TB ∧ Cond.initialized cls ∈ TB ∧ (∀ w ∈ vx_atS own ic cls nmsX, w ∈ TB ∨ w ∈ NW) ∧ (∀ w ∈ Cond.classLink own ik cls :: Cond.initialized cls :: vx_atS own ic cls nmsX, vx_ot w = true)
theorem nmsX_fit : ∀ n ∈ nmsX, Bundle.fit n = true := by decide +kernel
theorem nw_tabs {w : Cond} (hw : w ∈ NW) : w.onTables = true := by
  have h := (List.mem_filter.mp hw).2
  cases w <;> first | rfl | exact absurd h (by simp [isNw])
theorem r_throw (M : MachR g l mc ms d own cc nL ret [] mn post V X) {cls : String} {ik is ic : Nat} (ht : TI own ik is ic cls) (d0 : decode cc pc = .ok (.new ik, 3)) (d3 : decode cc (pc + 3) = .ok (.dup, 1)) (d4 : decode cc (pc + 4) = .ok (.ldc is, 2)) (d6 : decode cc (pc + 6) = .ok (.invokespecial ic, 3)) (d9 : decode cc (pc + 9) = .ok (.athrow, 1)) (hd6 : 6 ≤ d) (hst0 : (st.map fun v => v.category).sum ≤ 200) (hbud : kc + 1 ≤ mc ∧ ks + 6 ≤ ms) (hp : post (.inr cls) h) : V pc lv st h kc ks := by
  obtain ⟨p, e, s, m, args, below, meth, c, hret, hx, hb, hml, hown, hts, hgl, hlk, hnm, htab, hst, rfl, rfl⟩ := M
  intro hkc hks H locs ls hG hS hl
  obtain ⟨k, text, t1, t2, t3, t4, t5, t6⟩ := ht
  have hstr := hgl.1.2.2.2.2.2.1 k _ t1
  refine vx_throwS (names := nmsX) (A := gA g) hx hb hst hown t2 nmsX_fit (hts _ t3) (hts _ t4) hstr (fun w hw => ?_) t6 hgl.2.2.2.2.2.2.1 hgl.2.2.2.2.2.2.2.1 hS (hl.1.trans hml.symm) d0 d3 d4 d6 d9 (fun z hz => by rw [htab] at hz; cases hz) (by show 2 + 3 < d; omega) (by show _ + (13 * (2 + 1) + 43) ≤ 60 * d; omega) hbud.1 hbud.2 hlk (fun t hW hz hq => ⟨⟨h, hp, hG.kept hq⟩, ⟨Nat.le_trans hS.1 hz, fun q h1 h2 => (hq q (Nat.lt_of_lt_of_le h1 hS.1)).trans (hS.2.1 q h1 h2)⟩⟩) hS.2.2 hbud.1 hbud.2
  rcases t5 w hw with z | z
  · exact hts _ z
  · exact va_Nw.use (nw_tabs z) (hgl.1.2.1 _ z)
end Ends
end
section
/-! ===== what each instruction asks of the tables ===== -/
abbrev iX5_init : MI := (yX5_init, cX5_init, 1, none)
abbrev iX5_income : MI := (yX5_income, cX5_income, 1, (some .int))
abbrev iX5_puppet : MI := (yX5_puppet, cX5_puppet, 3, (some .int))
abbrev iX5_needWithin : MI := (yX5_needWithin, cX5_needWithin, 3, none)
abbrev iX2_init : MI := (yX2_init, cX2_init, 3, none)
abbrev iX1_init : MI := (yX1_init, cX1_init, 1, none)
abbrev iX5_setLength : MI := (yX5_setLength, cX5_setLength, 5, (some .int))
abbrev iX5_puppetNumbered : MI := (yX5_puppetNumbered, cX5_puppetNumbered, 2, (some (.object "Puppetloom$Puppet")))
abbrev iX5_key : MI := (yX5_key, cX5_key, 7, (some .int))
abbrev iX2_hasKeyAt : MI := (yX2_hasKeyAt, cX2_hasKeyAt, 3, (some .boolean))
abbrev iX2_keysAhead : MI := (yX2_keysAhead, cX2_keysAhead, 3, (some .int))
abbrev iX0_init : MI := (yX0_init, cX0_init, 5, none)
abbrev iX2_putKey : MI := (yX2_putKey, cX2_putKey, 3, none)
abbrev iX5_cutKey : MI := (yX5_cutKey, cX5_cutKey, 4, (some .int))
abbrev iX2_removeKeyAt : MI := (yX2_removeKeyAt, cX2_removeKeyAt, 3, none)
abbrev iX5_hear : MI := (yX5_hear, cX5_hear, 4, (some .int))
abbrev iX5_cue : MI := (yX5_cue, cX5_cue, 5, (some .int))
abbrev iX5_show : MI := (yX5_show, cX5_show, 3, (some .int))
abbrev iX4_init : MI := (yX4_init, cX4_init, 3, none)
abbrev iX3_init : MI := (yX3_init, cX3_init, 2, none)
abbrev iX5_cast : MI := (yX5_cast, cX5_cast, 5, (some .int))
abbrev iX5_showNumbered : MI := (yX5_showNumbered, cX5_showNumbered, 2, (some (.object "Puppetloom$Show")))
abbrev iX3_hasPuppet : MI := (yX3_hasPuppet, cX3_hasPuppet, 2, (some .boolean))
abbrev iX5_isTaken : MI := (yX5_isTaken, cX5_isTaken, 6, (some .boolean))
abbrev iX4_meets : MI := (yX4_meets, cX4_meets, 2, (some .boolean))
abbrev iX2_isMendedDuring : MI := (yX2_isMendedDuring, cX2_isMendedDuring, 3, (some .boolean))
abbrev iX3_take : MI := (yX3_take, cX3_take, 2, none)
abbrev iX5_leave : MI := (yX5_leave, cX5_leave, 4, (some .int))
abbrev iX3_release : MI := (yX3_release, cX3_release, 2, none)
abbrev iX5_sell : MI := (yX5_sell, cX5_sell, 5, (some .int))
abbrev iX5_perform : MI := (yX5_perform, cX5_perform, 4, (some .int))
abbrev iX2_wear : MI := (yX2_wear, cX2_wear, 1, none)
abbrev iX5_mend : MI := (yX5_mend, cX5_mend, 5, (some .int))
abbrev iX5_track : MI := (yX5_track, cX5_track, 4, (some .int))
abbrev iX2_standAt : MI := (yX2_standAt, cX2_standAt, 2, none)
abbrev iX2_standBehind : MI := (yX2_standBehind, cX2_standBehind, 4, none)
abbrev iX1_putAt : MI := (yX1_putAt, cX1_putAt, 2, none)
abbrev iX1_putBetween : MI := (yX1_putBetween, cX1_putBetween, 7, none)
abbrev iX5_easing : MI := (yX5_easing, cX5_easing, 3, (some .int))
abbrev iX1_together : MI := (yX1_together, cX1_together, 1, (some .int))
abbrev iX5_trackByFrames : MI := (yX5_trackByFrames, cX5_trackByFrames, 4, (some .int))
abbrev iX2_walkTo : MI := (yX2_walkTo, cX2_walkTo, 4, none)
abbrev iX5_x : MI := (yX5_x, cX5_x, 5, (some .int))
abbrev iX5_showWith : MI := (yX5_showWith, cX5_showWith, 4, (some (.object "Puppetloom$Show")))
abbrev iX5_settled : MI := (yX5_settled, cX5_settled, 7, (some (.object "Puppetloom$Puppet")))
abbrev iX5_ownFrame : MI := (yX5_ownFrame, cX5_ownFrame, 4, (some .int))
abbrev iX2_pull : MI := (yX2_pull, cX2_pull, 3, none)
abbrev iX2_squareFromBar : MI := (yX2_squareFromBar, cX2_squareFromBar, 2, (some .int))
abbrev iX5_rootBelow : MI := (yX5_rootBelow, cX5_rootBelow, 4, (some .int))
abbrev iX5_keepOffLower : MI := (yX5_keepOffLower, cX5_keepOffLower, 5, none)
abbrev iX2_keepOff : MI := (yX2_keepOff, cX2_keepOff, 2, none)
abbrev iX5_y : MI := (yX5_y, cX5_y, 5, (some .int))
abbrev iX5_bent : MI := (yX5_bent, cX5_bent, 8, (some .int))
abbrev iX5_least : MI := (yX5_least, cX5_least, 2, (some .int))
abbrev iX2_leastLength : MI := (yX2_leastLength, cX2_leastLength, 3, (some .int))
abbrev iX5_isBusy : MI := (yX5_isBusy, cX5_isBusy, 4, (some .boolean))
abbrev iX5_worn : MI := (yX5_worn, cX5_worn, 2, (some .int))
abbrev iX6_init : MI := (yX6_init, cX6_init, 2, none)
abbrev iX6_thrown : MI := (yX6_thrown, cX6_thrown, 1, (some .int))
abbrev iX6_puppet : MI := (yX6_puppet, cX6_puppet, 4, (some .int))
abbrev iX6_isIn : MI := (yX6_isIn, cX6_isIn, 3, (some .boolean))
abbrev iX6_isFine : MI := (yX6_isFine, cX6_isFine, 2, (some .boolean))
abbrev iX6_setLength : MI := (yX6_setLength, cX6_setLength, 4, (some .int))
abbrev iX6_isPuppet : MI := (yX6_isPuppet, cX6_isPuppet, 2, (some .boolean))
abbrev iX6_key : MI := (yX6_key, cX6_key, 11, (some .int))
abbrev iX6_hasKey : MI := (yX6_hasKey, cX6_hasKey, 4, (some .boolean))
abbrev iX6_placeOf : MI := (yX6_placeOf, cX6_placeOf, 4, (some .int))
abbrev iX6_copies : MI := (yX6_copies, cX6_copies, 3, none)
abbrev iX6_cutKey : MI := (yX6_cutKey, cX6_cutKey, 5, (some .int))
abbrev iX6_hear : MI := (yX6_hear, cX6_hear, 4, (some .int))
abbrev iX6_isSound : MI := (yX6_isSound, cX6_isSound, 1, (some .boolean))
abbrev iX6_cue : MI := (yX6_cue, cX6_cue, 4, (some .int))
abbrev iX6_show : MI := (yX6_show, cX6_show, 4, (some .int))
abbrev iX6_cast : MI := (yX6_cast, cX6_cast, 5, (some .int))
abbrev iX6_isShow : MI := (yX6_isShow, cX6_isShow, 2, (some .boolean))
abbrev iX6_isBusyIn : MI := (yX6_isBusyIn, cX6_isBusyIn, 6, (some .boolean))
abbrev iX6_areOver : MI := (yX6_areOver, cX6_areOver, 4, (some .boolean))
abbrev iX6_castOf : MI := (yX6_castOf, cX6_castOf, 4, (some .int))
abbrev iX6_leave : MI := (yX6_leave, cX6_leave, 4, (some .int))
abbrev iX6_sell : MI := (yX6_sell, cX6_sell, 6, (some .int))
abbrev iX6_perform : MI := (yX6_perform, cX6_perform, 4, (some .int))
abbrev iX6_mend : MI := (yX6_mend, cX6_mend, 7, (some .int))
abbrev iX6_track : MI := (yX6_track, cX6_track, 3, (some .int))
abbrev iX6_trackNow : MI := (yX6_trackNow, cX6_trackNow, 3, (some .int))
abbrev iX6_isFrame : MI := (yX6_isFrame, cX6_isFrame, 1, (some .boolean))
abbrev iX6_finds : MI := (yX6_finds, cX6_finds, 7, none)
abbrev iX6_trackByFrames : MI := (yX6_trackByFrames, cX6_trackByFrames, 3, (some .int))
abbrev iX6_x : MI := (yX6_x, cX6_x, 5, (some .int))
abbrev iX6_isOf : MI := (yX6_isOf, cX6_isOf, 3, (some .boolean))
abbrev iX6_goes : MI := (yX6_goes, cX6_goes, 6, none)
abbrev iX6_ownFrame : MI := (yX6_ownFrame, cX6_ownFrame, 4, (some .int))
abbrev iX6_pulls : MI := (yX6_pulls, cX6_pulls, 7, none)
abbrev iX6_far : MI := (yX6_far, cX6_far, 2, (some .int))
abbrev iX6_areNear : MI := (yX6_areNear, cX6_areNear, 2, (some .boolean))
abbrev iX6_y : MI := (yX6_y, cX6_y, 5, (some .int))
abbrev iX6_bent : MI := (yX6_bent, cX6_bent, 8, (some .int))
abbrev iX6_least : MI := (yX6_least, cX6_least, 5, (some .int))
abbrev iX6_isBusy : MI := (yX6_isBusy, cX6_isBusy, 4, (some .boolean))
abbrev iX6_worn : MI := (yX6_worn, cX6_worn, 2, (some .int))
abbrev iX6_income : MI := (yX6_income, cX6_income, 1, (some .int))
abbrev iL_puppet : MI := (yL_puppet, cL_puppet, 5, (some .int))
abbrev iL_setLength : MI := (yL_setLength, cL_setLength, 5, (some .int))
abbrev iL_key : MI := (yL_key, cL_key, 8, (some .int))
abbrev iL_cutKey : MI := (yL_cutKey, cL_cutKey, 5, (some .int))
abbrev iL_hear : MI := (yL_hear, cL_hear, 5, (some .int))
abbrev iL_cue : MI := (yL_cue, cL_cue, 5, (some .int))
abbrev iL_show : MI := (yL_show, cL_show, 5, (some .int))
abbrev iL_cast : MI := (yL_cast, cL_cast, 5, (some .int))
abbrev iL_leave : MI := (yL_leave, cL_leave, 5, (some .int))
abbrev iL_sell : MI := (yL_sell, cL_sell, 6, (some .int))
abbrev iL_perform : MI := (yL_perform, cL_perform, 4, (some .int))
abbrev iL_mend : MI := (yL_mend, cL_mend, 5, (some .int))
abbrev iL_track : MI := (yL_track, cL_track, 5, (some .int))
abbrev iL_trackByFrames : MI := (yL_trackByFrames, cL_trackByFrames, 5, (some .int))
abbrev iL_x : MI := (yL_x, cL_x, 6, (some .int))
abbrev iL_y : MI := (yL_y, cL_y, 6, (some .int))
abbrev iL_bent : MI := (yL_bent, cL_bent, 7, (some .int))
abbrev iL_least : MI := (yL_least, cL_least, 4, (some .int))
abbrev iL_isBusy : MI := (yL_isBusy, cL_isBusy, 5, (some .int))
abbrev iL_worn : MI := (yL_worn, cL_worn, 4, (some .int))
abbrev iJx4a65c_init_da8c8 : MI := (yJx4a65c_init_da8c8, cJx4a65c_init_da8c8, 1, none)
abbrev iJxc12de_init_da8c8 : MI := (yJxc12de_init_da8c8, cJxc12de_init_da8c8, 1, none)
abbrev iJxa1e45_init_da8c8 : MI := (yJxa1e45_init_da8c8, cJxa1e45_init_da8c8, 1, none)
abbrev iJx4a65c_size_8abf5 : MI := (yJx4a65c_size_8abf5, cJx4a65c_size_8abf5, 1, (some .int))
abbrev iJx4a65c_get_915e3 : MI := (yJx4a65c_get_915e3, cJx4a65c_get_915e3, 2, (some (.object "java/lang/Object")))
abbrev iJx4a65c_elementData_915e3 : MI := (yJx4a65c_elementData_915e3, cJx4a65c_elementData_915e3, 2, (some (.object "java/lang/Object")))
abbrev iJx4a65c_set_bcc79 : MI := (yJx4a65c_set_bcc79, cJx4a65c_set_bcc79, 4, (some (.object "java/lang/Object")))
abbrev iJx4a65c_add_9ea2d : MI := (yJx4a65c_add_9ea2d, cJx4a65c_add_9ea2d, 2, (some .boolean))
abbrev iJx4a65c_add_72be8 : MI := (yJx4a65c_add_72be8, cJx4a65c_add_72be8, 4, none)
abbrev iJx4a65c_add_7a177 : MI := (yJx4a65c_add_7a177, cJx4a65c_add_7a177, 5, none)
abbrev iJx4a65c_remove_915e3 : MI := (yJx4a65c_remove_915e3, cJx4a65c_remove_915e3, 4, (some (.object "java/lang/Object")))
abbrev iJx4a65c_fastRemove_b59b0 : MI := (yJx4a65c_fastRemove_b59b0, cJx4a65c_fastRemove_b59b0, 4, none)
abbrev iJx4a65c_grow_d5877 : MI := (yJx4a65c_grow_d5877, cJx4a65c_grow_d5877, 1, (some (.array (.object "java/lang/Object"))))
abbrev iJx4a65c_grow_92f84 : MI := (yJx4a65c_grow_92f84, cJx4a65c_grow_92f84, 4, (some (.array (.object "java/lang/Object"))))
abbrev iJx4a65c_rangeCheckForAdd_d00df : MI := (yJx4a65c_rangeCheckForAdd_d00df, cJx4a65c_rangeCheckForAdd_d00df, 2, none)
abbrev iJ15_checkIndex_7cf53 : MI := (yJ15_checkIndex_7cf53, cJ15_checkIndex_7cf53, 2, (some .int))
abbrev iJ3_checkIndex_8e157 : MI := (yJ3_checkIndex_8e157, cJ3_checkIndex_8e157, 3, (some .int))
abbrev iJ7_fill_53178 : MI := (yJ7_fill_53178, cJ7_fill_53178, 4, none)
abbrev iJ7_copyOf_1904c : MI := (yJ7_copyOf_1904c, cJ7_copyOf_1904c, 2, (some (.array (.object "java/lang/Object"))))
abbrev iJ7_copyOf_6403c : MI := (yJ7_copyOf_6403c, cJ7_copyOf_6403c, 4, (some (.array (.object "java/lang/Object"))))
abbrev iJ8_newLength_cabcc : MI := (yJ8_newLength_cabcc, cJ8_newLength_cabcc, 4, (some .int))
theorem ws_X0 : ∀ w ∈ u_ws RX0 TX0 4, w ∈ TB := by
  have h1 : (u_ws RX0 TX0 4).all goodWord = true := by decide +kernel
  have h2 : ∀ w ∈ u_ws RX0 TX0 4, w ∈ lw_tbl := by decide +kernel
  exact fun w hw => List.mem_filter.mpr ⟨h2 w hw, List.all_eq_true.mp h1 w hw⟩
theorem ki_0 : KI 0 := ⟨RX0, TX0, 4, tyX0, rfl, ws_X0, tyX0_ok, nmX0, by decide +kernel, by decide +kernel, by decide⟩
theorem ws_X1 : ∀ w ∈ u_ws RX1 TX1 2, w ∈ TB := by
  have h1 : (u_ws RX1 TX1 2).all goodWord = true := by decide +kernel
  have h2 : ∀ w ∈ u_ws RX1 TX1 2, w ∈ lw_tbl := by decide +kernel
  exact fun w hw => List.mem_filter.mpr ⟨h2 w hw, List.all_eq_true.mp h1 w hw⟩
theorem ki_1 : KI 1 := ⟨RX1, TX1, 2, tyX1, rfl, ws_X1, tyX1_ok, nmX1, by decide +kernel, by decide +kernel, by decide⟩
theorem ws_X2 : ∀ w ∈ u_ws RX2 TX2 8, w ∈ TB := by
  have h1 : (u_ws RX2 TX2 8).all goodWord = true := by decide +kernel
  have h2 : ∀ w ∈ u_ws RX2 TX2 8, w ∈ lw_tbl := by decide +kernel
  exact fun w hw => List.mem_filter.mpr ⟨h2 w hw, List.all_eq_true.mp h1 w hw⟩
theorem ki_2 : KI 2 := ⟨RX2, TX2, 8, tyX2, rfl, ws_X2, tyX2_ok, nmX2, by decide +kernel, by decide +kernel, by decide⟩
theorem ws_X3 : ∀ w ∈ u_ws RX3 TX3 6, w ∈ TB := by
  have h1 : (u_ws RX3 TX3 6).all goodWord = true := by decide +kernel
  have h2 : ∀ w ∈ u_ws RX3 TX3 6, w ∈ lw_tbl := by decide +kernel
  exact fun w hw => List.mem_filter.mpr ⟨h2 w hw, List.all_eq_true.mp h1 w hw⟩
theorem ki_3 : KI 3 := ⟨RX3, TX3, 6, tyX3, rfl, ws_X3, tyX3_ok, nmX3, by decide +kernel, by decide +kernel, by decide⟩
theorem ws_X4 : ∀ w ∈ u_ws RX4 TX4 2, w ∈ TB := by
  have h1 : (u_ws RX4 TX4 2).all goodWord = true := by decide +kernel
  have h2 : ∀ w ∈ u_ws RX4 TX4 2, w ∈ lw_tbl := by decide +kernel
  exact fun w hw => List.mem_filter.mpr ⟨h2 w hw, List.all_eq_true.mp h1 w hw⟩
theorem ki_4 : KI 4 := ⟨RX4, TX4, 2, tyX4, rfl, ws_X4, tyX4_ok, nmX4, by decide +kernel, by decide +kernel, by decide⟩
theorem ws_X5 : ∀ w ∈ u_ws RX5 TX5 4, w ∈ TB := by
  have h1 : (u_ws RX5 TX5 4).all goodWord = true := by decide +kernel
  have h2 : ∀ w ∈ u_ws RX5 TX5 4, w ∈ lw_tbl := by decide +kernel
  exact fun w hw => List.mem_filter.mpr ⟨h2 w hw, List.all_eq_true.mp h1 w hw⟩
theorem ki_5 : KI 5 := ⟨RX5, TX5, 4, tyX5, rfl, ws_X5, tyX5_ok, nmX5, by decide +kernel, by decide +kernel, by decide⟩
theorem ws_X6 : ∀ w ∈ u_ws RX6 TX6 29, w ∈ TB := by
  have h1 : (u_ws RX6 TX6 29).all goodWord = true := by decide +kernel
  have h2 : ∀ w ∈ u_ws RX6 TX6 29, w ∈ lw_tbl := by decide +kernel
  exact fun w hw => List.mem_filter.mpr ⟨h2 w hw, List.all_eq_true.mp h1 w hw⟩
theorem ki_6 : KI 6 := ⟨RX6, TX6, 29, tyX6, rfl, ws_X6, tyX6_ok, nmX6, by decide +kernel, by decide +kernel, by decide⟩
theorem ws_Jx4a65c : ∀ w ∈ u_ws RJx4a65c TJx4a65c 3, w ∈ TB := by
  have h1 : (u_ws RJx4a65c TJx4a65c 3).all goodWord = true := by decide +kernel
  have h2 : ∀ w ∈ u_ws RJx4a65c TJx4a65c 3, w ∈ lw_tbl := by decide +kernel
  exact fun w hw => List.mem_filter.mpr ⟨h2 w hw, List.all_eq_true.mp h1 w hw⟩
theorem ki_7 : KI 7 := ⟨RJx4a65c, TJx4a65c, 3, tyJx4a65c, rfl, ws_Jx4a65c, tyJx4a65c_ok, nmJx4a65c, by decide +kernel, by decide +kernel, by decide⟩
theorem cl_X5_48 : Cond.classLink RX5 48 "Puppetloom$Puppet" ∈ TB := TB_at 215 (by decide +kernel) rfl
theorem cl_X5_102 : Cond.classLink RX5 102 "Puppetloom$Show" ∈ TB := TB_at 732 (by decide +kernel) rfl
theorem fi_X5_10 : FI RX5 10 5 0 := ⟨RX5, TX5, 4, "Puppetloom", rfl, by decide, ws_X5, TB_at 96 (by decide +kernel) rfl, Or.inl rfl⟩
theorem fi_X5_16 : FI RX5 16 5 1 := ⟨RX5, TX5, 4, "Puppetloom", rfl, by decide, ws_X5, TB_at 97 (by decide +kernel) rfl, Or.inl rfl⟩
theorem fi_X5_19 : FI RX5 19 5 2 := ⟨RX5, TX5, 4, "Puppetloom", rfl, by decide, ws_X5, TB_at 98 (by decide +kernel) rfl, Or.inl rfl⟩
theorem fi_X5_29 : FI RX5 29 5 3 := ⟨RX5, TX5, 4, "Puppetloom", rfl, by decide, ws_X5, TB_at 99 (by decide +kernel) rfl, Or.inl rfl⟩
theorem fi_X5_61 : FI RX5 61 2 1 := ⟨RX2, TX2, 8, "Puppetloom$Puppet", rfl, by decide, ws_X2, TB_at 242 (by decide +kernel) rfl, Or.inl rfl⟩
theorem fi_X5_68 : FI RX5 68 2 2 := ⟨RX2, TX2, 8, "Puppetloom$Puppet", rfl, by decide, ws_X2, TB_at 244 (by decide +kernel) rfl, Or.inl rfl⟩
theorem fi_X5_96 : FI RX5 96 2 3 := ⟨RX2, TX2, 8, "Puppetloom$Puppet", rfl, by decide, ws_X2, TB_at 246 (by decide +kernel) rfl, Or.inl rfl⟩
theorem fi_X5_114 : FI RX5 114 3 5 := ⟨RX3, TX3, 6, "Puppetloom$Show", rfl, by decide, ws_X3, TB_at 762 (by decide +kernel) rfl, Or.inl rfl⟩
theorem fi_X5_123 : FI RX5 123 2 4 := ⟨RX2, TX2, 8, "Puppetloom$Puppet", rfl, by decide, ws_X2, TB_at 248 (by decide +kernel) rfl, Or.inl rfl⟩
theorem fi_X5_126 : FI RX5 126 3 0 := ⟨RX3, TX3, 6, "Puppetloom$Show", rfl, by decide, ws_X3, TB_at 753 (by decide +kernel) rfl, Or.inl rfl⟩
theorem fi_X5_139 : FI RX5 139 3 2 := ⟨RX3, TX3, 6, "Puppetloom$Show", rfl, by decide, ws_X3, TB_at 756 (by decide +kernel) rfl, Or.inl rfl⟩
theorem fi_X5_147 : FI RX5 147 3 3 := ⟨RX3, TX3, 6, "Puppetloom$Show", rfl, by decide, ws_X3, TB_at 758 (by decide +kernel) rfl, Or.inl rfl⟩
theorem fi_X5_152 : FI RX5 152 3 4 := ⟨RX3, TX3, 6, "Puppetloom$Show", rfl, by decide, ws_X3, TB_at 760 (by decide +kernel) rfl, Or.inl rfl⟩
theorem fi_X5_164 : FI RX5 164 2 5 := ⟨RX2, TX2, 8, "Puppetloom$Puppet", rfl, by decide, ws_X2, TB_at 250 (by decide +kernel) rfl, Or.inl rfl⟩
theorem fi_X5_171 : FI RX5 171 4 1 := ⟨RX4, TX4, 2, "Puppetloom$Span", rfl, by decide, ws_X4, TB_at 742 (by decide +kernel) rfl, Or.inl rfl⟩
theorem fi_X5_177 : FI RX5 177 2 6 := ⟨RX2, TX2, 8, "Puppetloom$Puppet", rfl, by decide, ws_X2, TB_at 252 (by decide +kernel) rfl, Or.inl rfl⟩
theorem fi_X5_197 : FI RX5 197 1 0 := ⟨RX1, TX1, 2, "Puppetloom$Place", rfl, by decide, ws_X1, TB_at 231 (by decide +kernel) rfl, Or.inl rfl⟩
theorem fi_X5_200 : FI RX5 200 1 1 := ⟨RX1, TX1, 2, "Puppetloom$Place", rfl, by decide, ws_X1, TB_at 234 (by decide +kernel) rfl, Or.inl rfl⟩
theorem fi_X5_203 : FI RX5 203 2 7 := ⟨RX2, TX2, 8, "Puppetloom$Puppet", rfl, by decide, ws_X2, TB_at 254 (by decide +kernel) rfl, Or.inl rfl⟩
theorem fs_X5_249 : Cond.fieldLink RX5 249 "Puppetloom" "EASING" "[I" ∈ TB := TB_at 881 (by decide +kernel) rfl
theorem co_X5_1 : Cond.methodLink RX5 1 objectInit ∈ TB := TB_at 64 (by decide +kernel) rfl
theorem cw_X5_9 : CWI RX5 9 iJx4a65c_init_da8c8 0 := ⟨rfl, rfl, ⟨by decide, by decide, by decide +kernel⟩, TB_at 69 (by decide +kernel) rfl, TB_at 70 (by decide +kernel) rfl, TB_at 32 (by decide +kernel) rfl, TB_at 71 (by decide +kernel) rfl⟩
theorem cw_X5_50 : CWI RX5 50 iX2_init 2 := ⟨rfl, rfl, ⟨by decide, by decide, by decide +kernel⟩, TB_at 217 (by decide +kernel) rfl, TB_at 218 (by decide +kernel) rfl, TB_at 40 (by decide +kernel) rfl, TB_at 219 (by decide +kernel) rfl⟩
theorem cw_X5_75 : CWI RX5 75 iX0_init 4 := ⟨rfl, rfl, ⟨by decide, by decide, by decide +kernel⟩, TB_at 396 (by decide +kernel) rfl, TB_at 397 (by decide +kernel) rfl, TB_at 48 (by decide +kernel) rfl, TB_at 398 (by decide +kernel) rfl⟩
theorem cw_X5_106 : CWI RX5 106 iX4_init 2 := ⟨rfl, rfl, ⟨by decide, by decide, by decide +kernel⟩, TB_at 736 (by decide +kernel) rfl, TB_at 737 (by decide +kernel) rfl, TB_at 58 (by decide +kernel) rfl, TB_at 738 (by decide +kernel) rfl⟩
theorem cw_X5_107 : CWI RX5 107 iX3_init 1 := ⟨rfl, rfl, ⟨by decide, by decide, by decide +kernel⟩, TB_at 748 (by decide +kernel) rfl, TB_at 749 (by decide +kernel) rfl, TB_at 57 (by decide +kernel) rfl, TB_at 750 (by decide +kernel) rfl⟩
theorem cw_X5_23 : CWS RX5 23 iJ7_fill_53178 2 := ⟨⟨by decide, by decide, by decide +kernel⟩, TB_at 93 (by decide +kernel) rfl, TB_at 94 (by decide +kernel) rfl, TB_at 33 (by decide +kernel) rfl, TB_at 95 (by decide +kernel) rfl⟩
theorem cw_X5_33 : CWS RX5 33 iX5_needWithin 3 := ⟨⟨by decide, by decide, by decide +kernel⟩, TB_at 123 (by decide +kernel) rfl, TB_at 124 (by decide +kernel) rfl, TB_at 29 (by decide +kernel) rfl, TB_at 125 (by decide +kernel) rfl⟩
theorem cm_X5_228 : Cond.methodLink RX5 228 Lib.Math.max.name ∈ TB := TB_at 918 (by decide +kernel) rfl
theorem cms_max : Cond.static Lib.Math.max.name ∈ TB := TB_at 292 (by decide +kernel) rfl
theorem cmc_max : Cond.code Lib.Math.max.name Lib.Math.max.code 2 (some .int) ∈ TB := TB_at 293 (by decide +kernel) rfl
theorem cmi : Cond.initialized "java/lang/Math" ∈ TB := TB_at 43 (by decide +kernel) rfl
theorem cw_X5_37 : CWV RX5 37 RJx4a65c iJx4a65c_size_8abf5 0 := ⟨rfl, ⟨by decide, by decide, by decide +kernel⟩, TB_at 195 (by decide +kernel) rfl, TB_at 196 (by decide +kernel) rfl, TB_at 197 (by decide +kernel) rfl, TB_at 32 (by decide +kernel) rfl, TB_at 198 (by decide +kernel) rfl⟩
theorem cw_X5_53 : CWV RX5 53 RJx4a65c iJx4a65c_add_9ea2d 1 := ⟨rfl, ⟨by decide, by decide, by decide +kernel⟩, TB_at 272 (by decide +kernel) rfl, TB_at 273 (by decide +kernel) rfl, TB_at 274 (by decide +kernel) rfl, TB_at 32 (by decide +kernel) rfl, TB_at 275 (by decide +kernel) rfl⟩
theorem cw_X5_57 : CWV RX5 57 RX5 iX5_puppetNumbered 1 := ⟨rfl, ⟨by decide, by decide, by decide +kernel⟩, TB_at 341 (by decide +kernel) rfl, TB_at 343 (by decide +kernel) rfl, TB_at 4 (by decide +kernel) rfl, TB_at 29 (by decide +kernel) rfl, TB_at 344 (by decide +kernel) rfl⟩
theorem cw_X5_64 : CWV RX5 64 RX2 iX2_hasKeyAt 1 := ⟨rfl, ⟨by decide, by decide, by decide +kernel⟩, TB_at 382 (by decide +kernel) rfl, TB_at 383 (by decide +kernel) rfl, TB_at 384 (by decide +kernel) rfl, TB_at 40 (by decide +kernel) rfl, TB_at 385 (by decide +kernel) rfl⟩
theorem cw_X5_78 : CWV RX5 78 RX2 iX2_putKey 1 := ⟨rfl, ⟨by decide, by decide, by decide +kernel⟩, TB_at 418 (by decide +kernel) rfl, TB_at 419 (by decide +kernel) rfl, TB_at 420 (by decide +kernel) rfl, TB_at 40 (by decide +kernel) rfl, TB_at 421 (by decide +kernel) rfl⟩
theorem cw_X5_87 : CWV RX5 87 RX2 iX2_removeKeyAt 1 := ⟨rfl, ⟨by decide, by decide, by decide +kernel⟩, TB_at 696 (by decide +kernel) rfl, TB_at 697 (by decide +kernel) rfl, TB_at 698 (by decide +kernel) rfl, TB_at 40 (by decide +kernel) rfl, TB_at 699 (by decide +kernel) rfl⟩
theorem cw_X5_110 : CWV RX5 110 RX5 iX5_showNumbered 1 := ⟨rfl, ⟨by decide, by decide, by decide +kernel⟩, TB_at 784 (by decide +kernel) rfl, TB_at 786 (by decide +kernel) rfl, TB_at 8 (by decide +kernel) rfl, TB_at 29 (by decide +kernel) rfl, TB_at 787 (by decide +kernel) rfl⟩
theorem cw_X5_118 : CWV RX5 118 RX3 iX3_hasPuppet 1 := ⟨rfl, ⟨by decide, by decide, by decide +kernel⟩, TB_at 789 (by decide +kernel) rfl, TB_at 790 (by decide +kernel) rfl, TB_at 791 (by decide +kernel) rfl, TB_at 57 (by decide +kernel) rfl, TB_at 792 (by decide +kernel) rfl⟩
theorem cw_X5_130 : CWV RX5 130 RX5 iX5_isTaken 3 := ⟨rfl, ⟨by decide, by decide, by decide +kernel⟩, TB_at 794 (by decide +kernel) rfl, TB_at 796 (by decide +kernel) rfl, TB_at 9 (by decide +kernel) rfl, TB_at 29 (by decide +kernel) rfl, TB_at 797 (by decide +kernel) rfl⟩
theorem cw_X5_136 : CWV RX5 136 RX3 iX3_take 1 := ⟨rfl, ⟨by decide, by decide, by decide +kernel⟩, TB_at 809 (by decide +kernel) rfl, TB_at 810 (by decide +kernel) rfl, TB_at 811 (by decide +kernel) rfl, TB_at 57 (by decide +kernel) rfl, TB_at 812 (by decide +kernel) rfl⟩
theorem cw_X5_144 : CWV RX5 144 RX3 iX3_release 1 := ⟨rfl, ⟨by decide, by decide, by decide +kernel⟩, TB_at 821 (by decide +kernel) rfl, TB_at 822 (by decide +kernel) rfl, TB_at 823 (by decide +kernel) rfl, TB_at 57 (by decide +kernel) rfl, TB_at 824 (by decide +kernel) rfl⟩
theorem cw_X5_157 : CWV RX5 157 RJx4a65c iJx4a65c_get_915e3 1 := ⟨rfl, ⟨by decide, by decide, by decide +kernel⟩, TB_at 361 (by decide +kernel) rfl, TB_at 362 (by decide +kernel) rfl, TB_at 363 (by decide +kernel) rfl, TB_at 32 (by decide +kernel) rfl, TB_at 364 (by decide +kernel) rfl⟩
theorem cw_X5_161 : CWV RX5 161 RX2 iX2_wear 0 := ⟨rfl, ⟨by decide, by decide, by decide +kernel⟩, TB_at 841 (by decide +kernel) rfl, TB_at 842 (by decide +kernel) rfl, TB_at 843 (by decide +kernel) rfl, TB_at 40 (by decide +kernel) rfl, TB_at 844 (by decide +kernel) rfl⟩
theorem cw_X5_174 : CWV RX5 174 RX2 iX2_standAt 1 := ⟨rfl, ⟨by decide, by decide, by decide +kernel⟩, TB_at 862 (by decide +kernel) rfl, TB_at 863 (by decide +kernel) rfl, TB_at 864 (by decide +kernel) rfl, TB_at 40 (by decide +kernel) rfl, TB_at 865 (by decide +kernel) rfl⟩
theorem cw_X5_181 : CWV RX5 181 RX1 iX1_together 0 := ⟨rfl, ⟨by decide, by decide, by decide +kernel⟩, TB_at 883 (by decide +kernel) rfl, TB_at 884 (by decide +kernel) rfl, TB_at 885 (by decide +kernel) rfl, TB_at 41 (by decide +kernel) rfl, TB_at 886 (by decide +kernel) rfl⟩
theorem cw_X5_186 : CWV RX5 186 RX2 iX2_walkTo 1 := ⟨rfl, ⟨by decide, by decide, by decide +kernel⟩, TB_at 894 (by decide +kernel) rfl, TB_at 895 (by decide +kernel) rfl, TB_at 896 (by decide +kernel) rfl, TB_at 40 (by decide +kernel) rfl, TB_at 897 (by decide +kernel) rfl⟩
theorem cw_X5_189 : CWV RX5 189 RX5 iX5_showWith 2 := ⟨rfl, ⟨by decide, by decide, by decide +kernel⟩, TB_at 905 (by decide +kernel) rfl, TB_at 907 (by decide +kernel) rfl, TB_at 10 (by decide +kernel) rfl, TB_at 29 (by decide +kernel) rfl, TB_at 908 (by decide +kernel) rfl⟩
theorem cw_X5_193 : CWV RX5 193 RX5 iX5_settled 3 := ⟨rfl, ⟨by decide, by decide, by decide +kernel⟩, TB_at 910 (by decide +kernel) rfl, TB_at 912 (by decide +kernel) rfl, TB_at 11 (by decide +kernel) rfl, TB_at 29 (by decide +kernel) rfl, TB_at 913 (by decide +kernel) rfl⟩
theorem cw_X5_206 : CWV RX5 206 RX2 iX2_leastLength 0 := ⟨rfl, ⟨by decide, by decide, by decide +kernel⟩, TB_at 963 (by decide +kernel) rfl, TB_at 964 (by decide +kernel) rfl, TB_at 965 (by decide +kernel) rfl, TB_at 40 (by decide +kernel) rfl, TB_at 966 (by decide +kernel) rfl⟩
theorem cw_X5_221 : CWV RX5 221 RX4 iX4_meets 1 := ⟨rfl, ⟨by decide, by decide, by decide +kernel⟩, TB_at 798 (by decide +kernel) rfl, TB_at 799 (by decide +kernel) rfl, TB_at 800 (by decide +kernel) rfl, TB_at 58 (by decide +kernel) rfl, TB_at 801 (by decide +kernel) rfl⟩
theorem cw_X5_225 : CWV RX5 225 RX2 iX2_isMendedDuring 1 := ⟨rfl, ⟨by decide, by decide, by decide +kernel⟩, TB_at 802 (by decide +kernel) rfl, TB_at 803 (by decide +kernel) rfl, TB_at 804 (by decide +kernel) rfl, TB_at 40 (by decide +kernel) rfl, TB_at 805 (by decide +kernel) rfl⟩
theorem cw_X5_234 : CWV RX5 234 RX5 iX5_ownFrame 2 := ⟨rfl, ⟨by decide, by decide, by decide +kernel⟩, TB_at 914 (by decide +kernel) rfl, TB_at 916 (by decide +kernel) rfl, TB_at 12 (by decide +kernel) rfl, TB_at 29 (by decide +kernel) rfl, TB_at 917 (by decide +kernel) rfl⟩
theorem cw_X5_238 : CWV RX5 238 RX2 iX2_pull 0 := ⟨rfl, ⟨by decide, by decide, by decide +kernel⟩, TB_at 919 (by decide +kernel) rfl, TB_at 920 (by decide +kernel) rfl, TB_at 921 (by decide +kernel) rfl, TB_at 40 (by decide +kernel) rfl, TB_at 922 (by decide +kernel) rfl⟩
theorem cw_X5_241 : CWV RX5 241 RX5 iX5_keepOffLower 3 := ⟨rfl, ⟨by decide, by decide, by decide +kernel⟩, TB_at 931 (by decide +kernel) rfl, TB_at 933 (by decide +kernel) rfl, TB_at 13 (by decide +kernel) rfl, TB_at 29 (by decide +kernel) rfl, TB_at 934 (by decide +kernel) rfl⟩
theorem cw_X5_245 : CWV RX5 245 RX2 iX2_keepOff 1 := ⟨rfl, ⟨by decide, by decide, by decide +kernel⟩, TB_at 935 (by decide +kernel) rfl, TB_at 936 (by decide +kernel) rfl, TB_at 937 (by decide +kernel) rfl, TB_at 40 (by decide +kernel) rfl, TB_at 938 (by decide +kernel) rfl⟩
theorem cc_X5_99 : Cond.constant RX5 99 100000 ∈ TB := TB_at 730 (by decide +kernel) rfl
theorem cc_X5_209 : Cond.constant RX5 209 200000 ∈ TB := TB_at 975 (by decide +kernel) rfl
theorem cl_X5_7 : Cond.classLink RX5 7 "java/util/ArrayList" ∈ TB := TB_at 67 (by decide +kernel) rfl
theorem nw_7 : Cond.instantiable "java/util/ArrayList" 3 ∈ TB := TB_at 68 (by decide +kernel) rfl
theorem ni_7 : Cond.initialized "java/util/ArrayList" ∈ TB := TB_at 32 (by decide +kernel) rfl
theorem cl_X5_41 : Cond.classLink RX5 41 "java/lang/IllegalStateException" ∈ TB := TB_at 199 (by decide +kernel) rfl
theorem nw_2 : Cond.instantiable "Puppetloom$Puppet" 8 ∈ TB := TB_at 216 (by decide +kernel) rfl
theorem ni_2 : Cond.initialized "Puppetloom$Puppet" ∈ TB := TB_at 40 (by decide +kernel) rfl
theorem cl_X5_73 : Cond.classLink RX5 73 "Puppetloom$Key" ∈ TB := TB_at 394 (by decide +kernel) rfl
theorem nw_0 : Cond.instantiable "Puppetloom$Key" 4 ∈ TB := TB_at 395 (by decide +kernel) rfl
theorem ni_0 : Cond.initialized "Puppetloom$Key" ∈ TB := TB_at 48 (by decide +kernel) rfl
theorem cl_X5_82 : Cond.classLink RX5 82 "java/util/NoSuchElementException" ∈ TB := TB_at 680 (by decide +kernel) rfl
theorem cl_X5_91 : Cond.classLink RX5 91 "java/lang/IndexOutOfBoundsException" ∈ TB := TB_at 345 (by decide +kernel) rfl
theorem nw_3 : Cond.instantiable "Puppetloom$Show" 6 ∈ TB := TB_at 733 (by decide +kernel) rfl
theorem ni_3 : Cond.initialized "Puppetloom$Show" ∈ TB := TB_at 57 (by decide +kernel) rfl
theorem cl_X5_104 : Cond.classLink RX5 104 "Puppetloom$Span" ∈ TB := TB_at 734 (by decide +kernel) rfl
theorem nw_4 : Cond.instantiable "Puppetloom$Span" 2 ∈ TB := TB_at 735 (by decide +kernel) rfl
theorem ni_4 : Cond.initialized "Puppetloom$Span" ∈ TB := TB_at 58 (by decide +kernel) rfl
theorem cl_X5_210 : Cond.classLink RX5 210 "java/lang/IllegalArgumentException" ∈ TB := TB_at 126 (by decide +kernel) rfl
theorem co_X0_1 : Cond.methodLink RX0 1 objectInit ∈ TB := TB_at 399 (by decide +kernel) rfl
theorem fi_X0_7 : FI RX0 7 0 0 := ⟨RX0, TX0, 4, "Puppetloom$Key", rfl, by decide, ws_X0, TB_at 400 (by decide +kernel) rfl, Or.inl rfl⟩
theorem fi_X0_13 : FI RX0 13 0 1 := ⟨RX0, TX0, 4, "Puppetloom$Key", rfl, by decide, ws_X0, TB_at 403 (by decide +kernel) rfl, Or.inl rfl⟩
theorem fi_X0_16 : FI RX0 16 0 2 := ⟨RX0, TX0, 4, "Puppetloom$Key", rfl, by decide, ws_X0, TB_at 405 (by decide +kernel) rfl, Or.inl rfl⟩
theorem fi_X0_19 : FI RX0 19 0 3 := ⟨RX0, TX0, 4, "Puppetloom$Key", rfl, by decide, ws_X0, TB_at 407 (by decide +kernel) rfl, Or.inl rfl⟩
theorem fi_X1_9 : FI RX1 9 1 0 := ⟨RX1, TX1, 2, "Puppetloom$Place", rfl, by decide, ws_X1, TB_at 229 (by decide +kernel) rfl, Or.inl rfl⟩
theorem fi_X1_15 : FI RX1 15 1 1 := ⟨RX1, TX1, 2, "Puppetloom$Place", rfl, by decide, ws_X1, TB_at 232 (by decide +kernel) rfl, Or.inl rfl⟩
theorem fi_X1_18 : FI RX1 18 0 1 := ⟨RX0, TX0, 4, "Puppetloom$Key", rfl, by decide, ws_X0, TB_at 404 (by decide +kernel) rfl, Or.inl rfl⟩
theorem fi_X1_21 : FI RX1 21 0 2 := ⟨RX0, TX0, 4, "Puppetloom$Key", rfl, by decide, ws_X0, TB_at 406 (by decide +kernel) rfl, Or.inl rfl⟩
theorem fi_X1_22 : FI RX1 22 0 0 := ⟨RX0, TX0, 4, "Puppetloom$Key", rfl, by decide, ws_X0, TB_at 402 (by decide +kernel) rfl, Or.inl rfl⟩
theorem fi_X1_25 : FI RX1 25 0 3 := ⟨RX0, TX0, 4, "Puppetloom$Key", rfl, by decide, ws_X0, TB_at 408 (by decide +kernel) rfl, Or.inl rfl⟩
theorem co_X1_3 : Cond.methodLink RX1 3 objectInit ∈ TB := TB_at 228 (by decide +kernel) rfl
theorem cw_X1_28 : CWSN RX1 28 "Puppetloom" iX5_easing 2 := ⟨⟨by decide, by decide, by decide +kernel⟩, NW_at 878 (by decide +kernel) rfl, TB_at 879 (by decide +kernel) rfl, TB_at 29 (by decide +kernel) rfl, TB_at 880 (by decide +kernel) rfl⟩
theorem cl_X2_53 : Cond.classLink RX2 53 "Puppetloom$Key" ∈ TB := TB_at 392 (by decide +kernel) rfl
theorem cl_X2_113 : Cond.classLink RX2 113 "Puppetloom$Span" ∈ TB := TB_at 806 (by decide +kernel) rfl
theorem fi_X2_9 : FI RX2 9 2 0 := ⟨RX2, TX2, 8, "Puppetloom$Puppet", rfl, by decide, ws_X2, TB_at 240 (by decide +kernel) rfl, Or.inl rfl⟩
theorem fi_X2_15 : FI RX2 15 2 1 := ⟨RX2, TX2, 8, "Puppetloom$Puppet", rfl, by decide, ws_X2, TB_at 241 (by decide +kernel) rfl, Or.inl rfl⟩
theorem fi_X2_21 : FI RX2 21 2 2 := ⟨RX2, TX2, 8, "Puppetloom$Puppet", rfl, by decide, ws_X2, TB_at 243 (by decide +kernel) rfl, Or.inl rfl⟩
theorem fi_X2_28 : FI RX2 28 2 4 := ⟨RX2, TX2, 8, "Puppetloom$Puppet", rfl, by decide, ws_X2, TB_at 247 (by decide +kernel) rfl, Or.inl rfl⟩
theorem fi_X2_31 : FI RX2 31 2 5 := ⟨RX2, TX2, 8, "Puppetloom$Puppet", rfl, by decide, ws_X2, TB_at 249 (by decide +kernel) rfl, Or.inl rfl⟩
theorem fi_X2_37 : FI RX2 37 2 6 := ⟨RX2, TX2, 8, "Puppetloom$Puppet", rfl, by decide, ws_X2, TB_at 251 (by decide +kernel) rfl, Or.inl rfl⟩
theorem fi_X2_55 : FI RX2 55 0 0 := ⟨RX0, TX0, 4, "Puppetloom$Key", rfl, by decide, ws_X0, TB_at 401 (by decide +kernel) rfl, Or.inl rfl⟩
theorem fi_X2_77 : FI RX2 77 1 0 := ⟨RX1, TX1, 2, "Puppetloom$Place", rfl, by decide, ws_X1, TB_at 230 (by decide +kernel) rfl, Or.inl rfl⟩
theorem fi_X2_80 : FI RX2 80 1 1 := ⟨RX1, TX1, 2, "Puppetloom$Place", rfl, by decide, ws_X1, TB_at 233 (by decide +kernel) rfl, Or.inl rfl⟩
theorem co_X2_3 : Cond.methodLink RX2 3 objectInit ∈ TB := TB_at 220 (by decide +kernel) rfl
theorem cw_X2_20 : CWI RX2 20 iJx4a65c_init_da8c8 0 := ⟨rfl, rfl, ⟨by decide, by decide, by decide +kernel⟩, TB_at 222 (by decide +kernel) rfl, TB_at 70 (by decide +kernel) rfl, TB_at 32 (by decide +kernel) rfl, TB_at 71 (by decide +kernel) rfl⟩
theorem cw_X2_36 : CWIN RX2 36 "Puppetloom" iX1_init 0 := ⟨rfl, rfl, ⟨by decide, by decide, by decide +kernel⟩, NW_at 225 (by decide +kernel) rfl, TB_at 226 (by decide +kernel) rfl, TB_at 41 (by decide +kernel) rfl, TB_at 227 (by decide +kernel) rfl⟩
theorem cm_X2_94 : Cond.methodLink RX2 94 Lib.Math.min.name ∈ TB := TB_at 845 (by decide +kernel) rfl
theorem cms_min : Cond.static Lib.Math.min.name ∈ TB := TB_at 326 (by decide +kernel) rfl
theorem cmc_min : Cond.code Lib.Math.min.name Lib.Math.min.code 2 (some .int) ∈ TB := TB_at 327 (by decide +kernel) rfl
theorem cm_X2_100 : Cond.methodLink RX2 100 Lib.Math.max.name ∈ TB := TB_at 927 (by decide +kernel) rfl
theorem cw_X2_103 : CWSN RX2 103 "Puppetloom" iX5_rootBelow 1 := ⟨⟨by decide, by decide, by decide +kernel⟩, NW_at 928 (by decide +kernel) rfl, TB_at 929 (by decide +kernel) rfl, TB_at 29 (by decide +kernel) rfl, TB_at 930 (by decide +kernel) rfl⟩
theorem cm_X2_106 : Cond.methodLink RX2 106 Lib.Math.abs.name ∈ TB := TB_at 939 (by decide +kernel) rfl
theorem cms_abs : Cond.static Lib.Math.abs.name ∈ TB := TB_at 940 (by decide +kernel) rfl
theorem cmc_abs : Cond.code Lib.Math.abs.name Lib.Math.abs.code 1 (some .int) ∈ TB := TB_at 941 (by decide +kernel) rfl
theorem cw_X2_45 : CWV RX2 45 RJx4a65c iJx4a65c_size_8abf5 0 := ⟨rfl, ⟨by decide, by decide, by decide +kernel⟩, TB_at 390 (by decide +kernel) rfl, TB_at 196 (by decide +kernel) rfl, TB_at 197 (by decide +kernel) rfl, TB_at 32 (by decide +kernel) rfl, TB_at 198 (by decide +kernel) rfl⟩
theorem cw_X2_49 : CWV RX2 49 RJx4a65c iJx4a65c_get_915e3 1 := ⟨rfl, ⟨by decide, by decide, by decide +kernel⟩, TB_at 391 (by decide +kernel) rfl, TB_at 362 (by decide +kernel) rfl, TB_at 363 (by decide +kernel) rfl, TB_at 32 (by decide +kernel) rfl, TB_at 364 (by decide +kernel) rfl⟩
theorem cw_X2_58 : CWV RX2 58 RX2 iX2_keysAhead 1 := ⟨rfl, ⟨by decide, by decide, by decide +kernel⟩, TB_at 386 (by decide +kernel) rfl, TB_at 387 (by decide +kernel) rfl, TB_at 388 (by decide +kernel) rfl, TB_at 40 (by decide +kernel) rfl, TB_at 389 (by decide +kernel) rfl⟩
theorem cw_X2_62 : CWV RX2 62 RJx4a65c iJx4a65c_set_bcc79 2 := ⟨rfl, ⟨by decide, by decide, by decide +kernel⟩, TB_at 422 (by decide +kernel) rfl, TB_at 423 (by decide +kernel) rfl, TB_at 424 (by decide +kernel) rfl, TB_at 32 (by decide +kernel) rfl, TB_at 425 (by decide +kernel) rfl⟩
theorem cw_X2_66 : CWV RX2 66 RJx4a65c iJx4a65c_add_7a177 2 := ⟨rfl, ⟨by decide, by decide, by decide +kernel⟩, TB_at 426 (by decide +kernel) rfl, TB_at 427 (by decide +kernel) rfl, TB_at 428 (by decide +kernel) rfl, TB_at 32 (by decide +kernel) rfl, TB_at 429 (by decide +kernel) rfl⟩
theorem cw_X2_70 : CWV RX2 70 RJx4a65c iJx4a65c_remove_915e3 1 := ⟨rfl, ⟨by decide, by decide, by decide +kernel⟩, TB_at 700 (by decide +kernel) rfl, TB_at 701 (by decide +kernel) rfl, TB_at 702 (by decide +kernel) rfl, TB_at 32 (by decide +kernel) rfl, TB_at 703 (by decide +kernel) rfl⟩
theorem cw_X2_73 : CWV RX2 73 RX2 iX2_standBehind 2 := ⟨rfl, ⟨by decide, by decide, by decide +kernel⟩, TB_at 866 (by decide +kernel) rfl, TB_at 867 (by decide +kernel) rfl, TB_at 868 (by decide +kernel) rfl, TB_at 40 (by decide +kernel) rfl, TB_at 869 (by decide +kernel) rfl⟩
theorem cw_X2_83 : CWV RX2 83 RX1 iX1_putAt 1 := ⟨rfl, ⟨by decide, by decide, by decide +kernel⟩, TB_at 870 (by decide +kernel) rfl, TB_at 871 (by decide +kernel) rfl, TB_at 872 (by decide +kernel) rfl, TB_at 41 (by decide +kernel) rfl, TB_at 873 (by decide +kernel) rfl⟩
theorem cw_X2_87 : CWV RX2 87 RX1 iX1_putBetween 3 := ⟨rfl, ⟨by decide, by decide, by decide +kernel⟩, TB_at 874 (by decide +kernel) rfl, TB_at 875 (by decide +kernel) rfl, TB_at 876 (by decide +kernel) rfl, TB_at 41 (by decide +kernel) rfl, TB_at 877 (by decide +kernel) rfl⟩
theorem cw_X2_91 : CWV RX2 91 RX2 iX2_squareFromBar 0 := ⟨rfl, ⟨by decide, by decide, by decide +kernel⟩, TB_at 923 (by decide +kernel) rfl, TB_at 924 (by decide +kernel) rfl, TB_at 925 (by decide +kernel) rfl, TB_at 40 (by decide +kernel) rfl, TB_at 926 (by decide +kernel) rfl⟩
theorem cw_X2_109 : CWV RX2 109 RX2 iX2_standAt 1 := ⟨rfl, ⟨by decide, by decide, by decide +kernel⟩, TB_at 967 (by decide +kernel) rfl, TB_at 863 (by decide +kernel) rfl, TB_at 864 (by decide +kernel) rfl, TB_at 40 (by decide +kernel) rfl, TB_at 865 (by decide +kernel) rfl⟩
theorem cw_X2_115 : CWV RX2 115 RX4 iX4_meets 1 := ⟨rfl, ⟨by decide, by decide, by decide +kernel⟩, TB_at 807 (by decide +kernel) rfl, TB_at 799 (by decide +kernel) rfl, TB_at 800 (by decide +kernel) rfl, TB_at 58 (by decide +kernel) rfl, TB_at 801 (by decide +kernel) rfl⟩
theorem cl_X2_18 : Cond.classLink RX2 18 "java/util/ArrayList" ∈ TB := TB_at 221 (by decide +kernel) rfl
theorem cl_X2_34 : Cond.classLink RX2 34 "Puppetloom$Place" ∈ TB := TB_at 223 (by decide +kernel) rfl
theorem nw_1 : Cond.instantiable "Puppetloom$Place" 2 ∈ TB := TB_at 224 (by decide +kernel) rfl
theorem ni_1 : Cond.initialized "Puppetloom$Place" ∈ TB := TB_at 41 (by decide +kernel) rfl
theorem fi_X2_25 : FI RX2 25 2 3 := ⟨RX2, TX2, 8, "Puppetloom$Puppet", rfl, by decide, ws_X2, TB_at 245 (by decide +kernel) rfl, Or.inl rfl⟩
theorem fi_X2_41 : FI RX2 41 2 7 := ⟨RX2, TX2, 8, "Puppetloom$Puppet", rfl, by decide, ws_X2, TB_at 253 (by decide +kernel) rfl, Or.inl rfl⟩
theorem fi_X3_15 : FI RX3 15 3 1 := ⟨RX3, TX3, 6, "Puppetloom$Show", rfl, by decide, ws_X3, TB_at 754 (by decide +kernel) rfl, Or.inl rfl⟩
theorem fi_X3_19 : FI RX3 19 3 2 := ⟨RX3, TX3, 6, "Puppetloom$Show", rfl, by decide, ws_X3, TB_at 755 (by decide +kernel) rfl, Or.inl rfl⟩
theorem co_X3_3 : Cond.methodLink RX3 3 objectInit ∈ TB := TB_at 751 (by decide +kernel) rfl
theorem fi_X3_9 : FI RX3 9 3 0 := ⟨RX3, TX3, 6, "Puppetloom$Show", rfl, by decide, ws_X3, TB_at 752 (by decide +kernel) rfl, Or.inl rfl⟩
theorem fi_X3_23 : FI RX3 23 3 3 := ⟨RX3, TX3, 6, "Puppetloom$Show", rfl, by decide, ws_X3, TB_at 757 (by decide +kernel) rfl, Or.inl rfl⟩
theorem fi_X3_26 : FI RX3 26 3 4 := ⟨RX3, TX3, 6, "Puppetloom$Show", rfl, by decide, ws_X3, TB_at 759 (by decide +kernel) rfl, Or.inl rfl⟩
theorem fi_X3_29 : FI RX3 29 3 5 := ⟨RX3, TX3, 6, "Puppetloom$Show", rfl, by decide, ws_X3, TB_at 761 (by decide +kernel) rfl, Or.inl rfl⟩
theorem fi_X4_7 : FI RX4 7 4 0 := ⟨RX4, TX4, 2, "Puppetloom$Span", rfl, by decide, ws_X4, TB_at 740 (by decide +kernel) rfl, Or.inl rfl⟩
theorem fi_X4_13 : FI RX4 13 4 1 := ⟨RX4, TX4, 2, "Puppetloom$Span", rfl, by decide, ws_X4, TB_at 741 (by decide +kernel) rfl, Or.inl rfl⟩
theorem co_X4_1 : Cond.methodLink RX4 1 objectInit ∈ TB := TB_at 739 (by decide +kernel) rfl
theorem cw_L_7 : CWV RL 7 RX5 iX5_puppet 2 := ⟨rfl, ⟨by decide, by decide, by decide +kernel⟩, TB_at 119 (by decide +kernel) rfl, TB_at 120 (by decide +kernel) rfl, TB_at 121 (by decide +kernel) rfl, TB_at 29 (by decide +kernel) rfl, TB_at 122 (by decide +kernel) rfl⟩
theorem cw_L_17 : CWV RL 17 RX5 iX5_setLength 2 := ⟨rfl, ⟨by decide, by decide, by decide +kernel⟩, TB_at 337 (by decide +kernel) rfl, TB_at 338 (by decide +kernel) rfl, TB_at 339 (by decide +kernel) rfl, TB_at 29 (by decide +kernel) rfl, TB_at 340 (by decide +kernel) rfl⟩
theorem cw_L_22 : CWV RL 22 RX5 iX5_key 5 := ⟨rfl, ⟨by decide, by decide, by decide +kernel⟩, TB_at 378 (by decide +kernel) rfl, TB_at 379 (by decide +kernel) rfl, TB_at 380 (by decide +kernel) rfl, TB_at 29 (by decide +kernel) rfl, TB_at 381 (by decide +kernel) rfl⟩
theorem cw_L_26 : CWV RL 26 RX5 iX5_cutKey 2 := ⟨rfl, ⟨by decide, by decide, by decide +kernel⟩, TB_at 676 (by decide +kernel) rfl, TB_at 677 (by decide +kernel) rfl, TB_at 678 (by decide +kernel) rfl, TB_at 29 (by decide +kernel) rfl, TB_at 679 (by decide +kernel) rfl⟩
theorem cw_L_31 : CWV RL 31 RX5 iX5_hear 2 := ⟨rfl, ⟨by decide, by decide, by decide +kernel⟩, TB_at 711 (by decide +kernel) rfl, TB_at 712 (by decide +kernel) rfl, TB_at 713 (by decide +kernel) rfl, TB_at 29 (by decide +kernel) rfl, TB_at 714 (by decide +kernel) rfl⟩
theorem cw_L_34 : CWV RL 34 RX5 iX5_cue 2 := ⟨rfl, ⟨by decide, by decide, by decide +kernel⟩, TB_at 719 (by decide +kernel) rfl, TB_at 720 (by decide +kernel) rfl, TB_at 721 (by decide +kernel) rfl, TB_at 29 (by decide +kernel) rfl, TB_at 722 (by decide +kernel) rfl⟩
theorem cw_L_37 : CWV RL 37 RX5 iX5_show 2 := ⟨rfl, ⟨by decide, by decide, by decide +kernel⟩, TB_at 726 (by decide +kernel) rfl, TB_at 727 (by decide +kernel) rfl, TB_at 728 (by decide +kernel) rfl, TB_at 29 (by decide +kernel) rfl, TB_at 729 (by decide +kernel) rfl⟩
theorem cw_L_40 : CWV RL 40 RX5 iX5_cast 2 := ⟨rfl, ⟨by decide, by decide, by decide +kernel⟩, TB_at 780 (by decide +kernel) rfl, TB_at 781 (by decide +kernel) rfl, TB_at 782 (by decide +kernel) rfl, TB_at 29 (by decide +kernel) rfl, TB_at 783 (by decide +kernel) rfl⟩
theorem cw_L_43 : CWV RL 43 RX5 iX5_leave 2 := ⟨rfl, ⟨by decide, by decide, by decide +kernel⟩, TB_at 816 (by decide +kernel) rfl, TB_at 817 (by decide +kernel) rfl, TB_at 818 (by decide +kernel) rfl, TB_at 29 (by decide +kernel) rfl, TB_at 819 (by decide +kernel) rfl⟩
theorem cw_L_46 : CWV RL 46 RX5 iX5_sell 3 := ⟨rfl, ⟨by decide, by decide, by decide +kernel⟩, TB_at 828 (by decide +kernel) rfl, TB_at 829 (by decide +kernel) rfl, TB_at 830 (by decide +kernel) rfl, TB_at 29 (by decide +kernel) rfl, TB_at 831 (by decide +kernel) rfl⟩
theorem cw_L_50 : CWV RL 50 RX5 iX5_perform 1 := ⟨rfl, ⟨by decide, by decide, by decide +kernel⟩, TB_at 836 (by decide +kernel) rfl, TB_at 837 (by decide +kernel) rfl, TB_at 838 (by decide +kernel) rfl, TB_at 29 (by decide +kernel) rfl, TB_at 839 (by decide +kernel) rfl⟩
theorem cw_L_54 : CWV RL 54 RX5 iX5_mend 2 := ⟨rfl, ⟨by decide, by decide, by decide +kernel⟩, TB_at 849 (by decide +kernel) rfl, TB_at 850 (by decide +kernel) rfl, TB_at 851 (by decide +kernel) rfl, TB_at 29 (by decide +kernel) rfl, TB_at 852 (by decide +kernel) rfl⟩
theorem cw_L_57 : CWV RL 57 RX5 iX5_track 2 := ⟨rfl, ⟨by decide, by decide, by decide +kernel⟩, TB_at 858 (by decide +kernel) rfl, TB_at 859 (by decide +kernel) rfl, TB_at 860 (by decide +kernel) rfl, TB_at 29 (by decide +kernel) rfl, TB_at 861 (by decide +kernel) rfl⟩
theorem cw_L_60 : CWV RL 60 RX5 iX5_trackByFrames 2 := ⟨rfl, ⟨by decide, by decide, by decide +kernel⟩, TB_at 890 (by decide +kernel) rfl, TB_at 891 (by decide +kernel) rfl, TB_at 892 (by decide +kernel) rfl, TB_at 29 (by decide +kernel) rfl, TB_at 893 (by decide +kernel) rfl⟩
theorem cw_L_63 : CWV RL 63 RX5 iX5_x 3 := ⟨rfl, ⟨by decide, by decide, by decide +kernel⟩, TB_at 901 (by decide +kernel) rfl, TB_at 902 (by decide +kernel) rfl, TB_at 903 (by decide +kernel) rfl, TB_at 29 (by decide +kernel) rfl, TB_at 904 (by decide +kernel) rfl⟩
theorem cw_L_66 : CWV RL 66 RX5 iX5_y 3 := ⟨rfl, ⟨by decide, by decide, by decide +kernel⟩, TB_at 945 (by decide +kernel) rfl, TB_at 946 (by decide +kernel) rfl, TB_at 947 (by decide +kernel) rfl, TB_at 29 (by decide +kernel) rfl, TB_at 948 (by decide +kernel) rfl⟩
theorem cw_L_69 : CWV RL 69 RX5 iX5_bent 4 := ⟨rfl, ⟨by decide, by decide, by decide +kernel⟩, TB_at 952 (by decide +kernel) rfl, TB_at 953 (by decide +kernel) rfl, TB_at 954 (by decide +kernel) rfl, TB_at 29 (by decide +kernel) rfl, TB_at 955 (by decide +kernel) rfl⟩
theorem cw_L_73 : CWV RL 73 RX5 iX5_least 1 := ⟨rfl, ⟨by decide, by decide, by decide +kernel⟩, TB_at 959 (by decide +kernel) rfl, TB_at 960 (by decide +kernel) rfl, TB_at 961 (by decide +kernel) rfl, TB_at 29 (by decide +kernel) rfl, TB_at 962 (by decide +kernel) rfl⟩
theorem cw_L_76 : CWV RL 76 RX5 iX5_isBusy 2 := ⟨rfl, ⟨by decide, by decide, by decide +kernel⟩, TB_at 971 (by decide +kernel) rfl, TB_at 972 (by decide +kernel) rfl, TB_at 973 (by decide +kernel) rfl, TB_at 29 (by decide +kernel) rfl, TB_at 974 (by decide +kernel) rfl⟩
theorem cw_L_80 : CWV RL 80 RX5 iX5_worn 1 := ⟨rfl, ⟨by decide, by decide, by decide +kernel⟩, TB_at 979 (by decide +kernel) rfl, TB_at 980 (by decide +kernel) rfl, TB_at 981 (by decide +kernel) rfl, TB_at 29 (by decide +kernel) rfl, TB_at 982 (by decide +kernel) rfl⟩
theorem fi_X6_7 : FI RX6 7 6 1 := ⟨RX6, TX6, 29, "PuppetloomModel", rfl, by decide, ws_X6, TB_at 990 (by decide +kernel) rfl, Or.inl rfl⟩
theorem fi_X6_13 : FI RX6 13 6 2 := ⟨RX6, TX6, 29, "PuppetloomModel", rfl, by decide, ws_X6, TB_at 991 (by decide +kernel) rfl, Or.inl rfl⟩
theorem fi_X6_16 : FI RX6 16 6 3 := ⟨RX6, TX6, 29, "PuppetloomModel", rfl, by decide, ws_X6, TB_at 992 (by decide +kernel) rfl, Or.inl rfl⟩
theorem fi_X6_19 : FI RX6 19 6 4 := ⟨RX6, TX6, 29, "PuppetloomModel", rfl, by decide, ws_X6, TB_at 993 (by decide +kernel) rfl, Or.inl rfl⟩
theorem fi_X6_22 : FI RX6 22 6 5 := ⟨RX6, TX6, 29, "PuppetloomModel", rfl, by decide, ws_X6, TB_at 994 (by decide +kernel) rfl, Or.inl rfl⟩
theorem fi_X6_25 : FI RX6 25 6 7 := ⟨RX6, TX6, 29, "PuppetloomModel", rfl, by decide, ws_X6, TB_at 996 (by decide +kernel) rfl, Or.inl rfl⟩
theorem fi_X6_28 : FI RX6 28 6 8 := ⟨RX6, TX6, 29, "PuppetloomModel", rfl, by decide, ws_X6, TB_at 997 (by decide +kernel) rfl, Or.inl rfl⟩
theorem fi_X6_31 : FI RX6 31 6 9 := ⟨RX6, TX6, 29, "PuppetloomModel", rfl, by decide, ws_X6, TB_at 998 (by decide +kernel) rfl, Or.inl rfl⟩
theorem fi_X6_34 : FI RX6 34 6 10 := ⟨RX6, TX6, 29, "PuppetloomModel", rfl, by decide, ws_X6, TB_at 999 (by decide +kernel) rfl, Or.inl rfl⟩
theorem fi_X6_37 : FI RX6 37 6 11 := ⟨RX6, TX6, 29, "PuppetloomModel", rfl, by decide, ws_X6, TB_at 1000 (by decide +kernel) rfl, Or.inl rfl⟩
theorem fi_X6_40 : FI RX6 40 6 12 := ⟨RX6, TX6, 29, "PuppetloomModel", rfl, by decide, ws_X6, TB_at 1001 (by decide +kernel) rfl, Or.inl rfl⟩
theorem fi_X6_43 : FI RX6 43 6 13 := ⟨RX6, TX6, 29, "PuppetloomModel", rfl, by decide, ws_X6, TB_at 1002 (by decide +kernel) rfl, Or.inl rfl⟩
theorem fi_X6_46 : FI RX6 46 6 14 := ⟨RX6, TX6, 29, "PuppetloomModel", rfl, by decide, ws_X6, TB_at 1003 (by decide +kernel) rfl, Or.inl rfl⟩
theorem fi_X6_49 : FI RX6 49 6 15 := ⟨RX6, TX6, 29, "PuppetloomModel", rfl, by decide, ws_X6, TB_at 1004 (by decide +kernel) rfl, Or.inl rfl⟩
theorem fi_X6_52 : FI RX6 52 6 16 := ⟨RX6, TX6, 29, "PuppetloomModel", rfl, by decide, ws_X6, TB_at 1005 (by decide +kernel) rfl, Or.inl rfl⟩
theorem fi_X6_55 : FI RX6 55 6 17 := ⟨RX6, TX6, 29, "PuppetloomModel", rfl, by decide, ws_X6, TB_at 1006 (by decide +kernel) rfl, Or.inl rfl⟩
theorem fi_X6_59 : FI RX6 59 6 18 := ⟨RX6, TX6, 29, "PuppetloomModel", rfl, by decide, ws_X6, TB_at 1007 (by decide +kernel) rfl, Or.inl rfl⟩
theorem fi_X6_62 : FI RX6 62 6 19 := ⟨RX6, TX6, 29, "PuppetloomModel", rfl, by decide, ws_X6, TB_at 1008 (by decide +kernel) rfl, Or.inl rfl⟩
theorem fi_X6_65 : FI RX6 65 6 20 := ⟨RX6, TX6, 29, "PuppetloomModel", rfl, by decide, ws_X6, TB_at 1009 (by decide +kernel) rfl, Or.inl rfl⟩
theorem fi_X6_68 : FI RX6 68 6 23 := ⟨RX6, TX6, 29, "PuppetloomModel", rfl, by decide, ws_X6, TB_at 1012 (by decide +kernel) rfl, Or.inl rfl⟩
theorem fi_X6_71 : FI RX6 71 6 26 := ⟨RX6, TX6, 29, "PuppetloomModel", rfl, by decide, ws_X6, TB_at 1015 (by decide +kernel) rfl, Or.inl rfl⟩
theorem fi_X6_74 : FI RX6 74 6 27 := ⟨RX6, TX6, 29, "PuppetloomModel", rfl, by decide, ws_X6, TB_at 1016 (by decide +kernel) rfl, Or.inl rfl⟩
theorem fi_X6_77 : FI RX6 77 6 28 := ⟨RX6, TX6, 29, "PuppetloomModel", rfl, by decide, ws_X6, TB_at 1017 (by decide +kernel) rfl, Or.inl rfl⟩
theorem fi_X6_80 : FI RX6 80 6 0 := ⟨RX6, TX6, 29, "PuppetloomModel", rfl, by decide, ws_X6, TB_at 989 (by decide +kernel) rfl, Or.inl rfl⟩
theorem fi_X6_84 : FI RX6 84 6 6 := ⟨RX6, TX6, 29, "PuppetloomModel", rfl, by decide, ws_X6, TB_at 995 (by decide +kernel) rfl, Or.inl rfl⟩
theorem fi_X6_91 : FI RX6 91 6 21 := ⟨RX6, TX6, 29, "PuppetloomModel", rfl, by decide, ws_X6, TB_at 1010 (by decide +kernel) rfl, Or.inl rfl⟩
theorem fi_X6_131 : FI RX6 131 6 22 := ⟨RX6, TX6, 29, "PuppetloomModel", rfl, by decide, ws_X6, TB_at 1011 (by decide +kernel) rfl, Or.inl rfl⟩
theorem fi_X6_134 : FI RX6 134 6 24 := ⟨RX6, TX6, 29, "PuppetloomModel", rfl, by decide, ws_X6, TB_at 1013 (by decide +kernel) rfl, Or.inl rfl⟩
theorem fi_X6_137 : FI RX6 137 6 25 := ⟨RX6, TX6, 29, "PuppetloomModel", rfl, by decide, ws_X6, TB_at 1014 (by decide +kernel) rfl, Or.inl rfl⟩
theorem co_X6_1 : Cond.methodLink RX6 1 objectInit ∈ TB := TB_at 988 (by decide +kernel) rfl
theorem cw_X6_87 : CWS RX6 87 iX6_isIn 3 := ⟨⟨by decide, by decide, by decide +kernel⟩, TB_at 1085 (by decide +kernel) rfl, TB_at 1086 (by decide +kernel) rfl, TB_at 34 (by decide +kernel) rfl, TB_at 1087 (by decide +kernel) rfl⟩
theorem cw_X6_113 : CWS RX6 113 iX6_isSound 1 := ⟨⟨by decide, by decide, by decide +kernel⟩, TB_at 1124 (by decide +kernel) rfl, TB_at 1125 (by decide +kernel) rfl, TB_at 34 (by decide +kernel) rfl, TB_at 1126 (by decide +kernel) rfl⟩
theorem cw_X6_117 : CWS RX6 117 iX6_areOver 4 := ⟨⟨by decide, by decide, by decide +kernel⟩, TB_at 1148 (by decide +kernel) rfl, TB_at 1149 (by decide +kernel) rfl, TB_at 34 (by decide +kernel) rfl, TB_at 1150 (by decide +kernel) rfl⟩
theorem cw_X6_140 : CWS RX6 140 iX6_isFrame 1 := ⟨⟨by decide, by decide, by decide +kernel⟩, TB_at 1179 (by decide +kernel) rfl, TB_at 1180 (by decide +kernel) rfl, TB_at 34 (by decide +kernel) rfl, TB_at 1181 (by decide +kernel) rfl⟩
theorem cw_X6_149 : CWS RX6 149 iX6_far 2 := ⟨⟨by decide, by decide, by decide +kernel⟩, TB_at 1210 (by decide +kernel) rfl, TB_at 1211 (by decide +kernel) rfl, TB_at 34 (by decide +kernel) rfl, TB_at 1212 (by decide +kernel) rfl⟩
theorem cw_X6_159 : CWS RX6 159 iX6_areNear 2 := ⟨⟨by decide, by decide, by decide +kernel⟩, TB_at 1213 (by decide +kernel) rfl, TB_at 1214 (by decide +kernel) rfl, TB_at 34 (by decide +kernel) rfl, TB_at 1215 (by decide +kernel) rfl⟩
theorem cw_X6_94 : CWV RX6 94 RX6 iX6_isFine 1 := ⟨rfl, ⟨by decide, by decide, by decide +kernel⟩, TB_at 1088 (by decide +kernel) rfl, TB_at 1090 (by decide +kernel) rfl, TB_at 14 (by decide +kernel) rfl, TB_at 34 (by decide +kernel) rfl, TB_at 1091 (by decide +kernel) rfl⟩
theorem cw_X6_98 : CWV RX6 98 RX6 iX6_isPuppet 1 := ⟨rfl, ⟨by decide, by decide, by decide +kernel⟩, TB_at 1096 (by decide +kernel) rfl, TB_at 1098 (by decide +kernel) rfl, TB_at 15 (by decide +kernel) rfl, TB_at 34 (by decide +kernel) rfl, TB_at 1099 (by decide +kernel) rfl⟩
theorem cw_X6_101 : CWV RX6 101 RX6 iX6_placeOf 2 := ⟨rfl, ⟨by decide, by decide, by decide +kernel⟩, TB_at 1108 (by decide +kernel) rfl, TB_at 1110 (by decide +kernel) rfl, TB_at 17 (by decide +kernel) rfl, TB_at 34 (by decide +kernel) rfl, TB_at 1111 (by decide +kernel) rfl⟩
theorem cw_X6_105 : CWV RX6 105 RX6 iX6_hasKey 2 := ⟨rfl, ⟨by decide, by decide, by decide +kernel⟩, TB_at 1104 (by decide +kernel) rfl, TB_at 1106 (by decide +kernel) rfl, TB_at 16 (by decide +kernel) rfl, TB_at 34 (by decide +kernel) rfl, TB_at 1107 (by decide +kernel) rfl⟩
theorem cw_X6_109 : CWV RX6 109 RX6 iX6_copies 2 := ⟨rfl, ⟨by decide, by decide, by decide +kernel⟩, TB_at 1112 (by decide +kernel) rfl, TB_at 1114 (by decide +kernel) rfl, TB_at 18 (by decide +kernel) rfl, TB_at 34 (by decide +kernel) rfl, TB_at 1115 (by decide +kernel) rfl⟩
theorem cw_X6_121 : CWV RX6 121 RX6 iX6_isShow 1 := ⟨rfl, ⟨by decide, by decide, by decide +kernel⟩, TB_at 1140 (by decide +kernel) rfl, TB_at 1142 (by decide +kernel) rfl, TB_at 19 (by decide +kernel) rfl, TB_at 34 (by decide +kernel) rfl, TB_at 1143 (by decide +kernel) rfl⟩
theorem cw_X6_124 : CWV RX6 124 RX6 iX6_isBusyIn 3 := ⟨rfl, ⟨by decide, by decide, by decide +kernel⟩, TB_at 1144 (by decide +kernel) rfl, TB_at 1146 (by decide +kernel) rfl, TB_at 20 (by decide +kernel) rfl, TB_at 34 (by decide +kernel) rfl, TB_at 1147 (by decide +kernel) rfl⟩
theorem cw_X6_127 : CWV RX6 127 RX6 iX6_castOf 1 := ⟨rfl, ⟨by decide, by decide, by decide +kernel⟩, TB_at 1151 (by decide +kernel) rfl, TB_at 1153 (by decide +kernel) rfl, TB_at 21 (by decide +kernel) rfl, TB_at 34 (by decide +kernel) rfl, TB_at 1154 (by decide +kernel) rfl⟩
theorem cw_X6_143 : CWV RX6 143 RX6 iX6_finds 2 := ⟨rfl, ⟨by decide, by decide, by decide +kernel⟩, TB_at 1182 (by decide +kernel) rfl, TB_at 1184 (by decide +kernel) rfl, TB_at 23 (by decide +kernel) rfl, TB_at 34 (by decide +kernel) rfl, TB_at 1185 (by decide +kernel) rfl⟩
theorem cw_X6_146 : CWV RX6 146 RX6 iX6_trackNow 2 := ⟨rfl, ⟨by decide, by decide, by decide +kernel⟩, TB_at 1175 (by decide +kernel) rfl, TB_at 1177 (by decide +kernel) rfl, TB_at 22 (by decide +kernel) rfl, TB_at 34 (by decide +kernel) rfl, TB_at 1178 (by decide +kernel) rfl⟩
theorem cw_X6_152 : CWV RX6 152 RX6 iX6_ownFrame 2 := ⟨rfl, ⟨by decide, by decide, by decide +kernel⟩, TB_at 1202 (by decide +kernel) rfl, TB_at 1204 (by decide +kernel) rfl, TB_at 26 (by decide +kernel) rfl, TB_at 34 (by decide +kernel) rfl, TB_at 1205 (by decide +kernel) rfl⟩
theorem cw_X6_155 : CWV RX6 155 RX6 iX6_pulls 1 := ⟨rfl, ⟨by decide, by decide, by decide +kernel⟩, TB_at 1206 (by decide +kernel) rfl, TB_at 1208 (by decide +kernel) rfl, TB_at 27 (by decide +kernel) rfl, TB_at 34 (by decide +kernel) rfl, TB_at 1209 (by decide +kernel) rfl⟩
theorem cw_X6_162 : CWV RX6 162 RX6 iX6_isOf 2 := ⟨rfl, ⟨by decide, by decide, by decide +kernel⟩, TB_at 1194 (by decide +kernel) rfl, TB_at 1196 (by decide +kernel) rfl, TB_at 24 (by decide +kernel) rfl, TB_at 34 (by decide +kernel) rfl, TB_at 1197 (by decide +kernel) rfl⟩
theorem cw_X6_165 : CWV RX6 165 RX6 iX6_goes 3 := ⟨rfl, ⟨by decide, by decide, by decide +kernel⟩, TB_at 1198 (by decide +kernel) rfl, TB_at 1200 (by decide +kernel) rfl, TB_at 25 (by decide +kernel) rfl, TB_at 34 (by decide +kernel) rfl, TB_at 1201 (by decide +kernel) rfl⟩
theorem cc_X6_116 : Cond.constant RX6 116 100000 ∈ TB := TB_at 1135 (by decide +kernel) rfl
theorem cc_X6_169 : Cond.constant RX6 169 200000 ∈ TB := TB_at 1232 (by decide +kernel) rfl
theorem co_Jxa1e45_1 : Cond.methodLink RJxa1e45 1 objectInit ∈ TB := TB_at 78 (by decide +kernel) rfl
theorem cw_Jxc12de_1 : CWI RJxc12de 1 iJxa1e45_init_da8c8 0 := ⟨rfl, rfl, ⟨by decide, by decide, by decide +kernel⟩, TB_at 75 (by decide +kernel) rfl, TB_at 76 (by decide +kernel) rfl, TB_at 30 (by decide +kernel) rfl, TB_at 77 (by decide +kernel) rfl⟩
theorem fi_Jxc12de_7 : FI RJxc12de 7 7 0 := ⟨RJx4a65c, TJx4a65c, 3, "java/util/AbstractList", rfl, by decide, ws_Jx4a65c, TB_at 83 (by decide +kernel) rfl, Or.inl rfl⟩
theorem cl_Jx4a65c_7 : Cond.classLink RJx4a65c 7 "java/lang/Object" ∈ TB := TB_at 332 (by decide +kernel) rfl
theorem fi_Jx4a65c_9 : FI RJx4a65c 9 7 1 := ⟨RJx4a65c, TJx4a65c, 3, "java/util/ArrayList", rfl, by decide, ws_Jx4a65c, TB_at 81 (by decide +kernel) rfl, Or.inl rfl⟩
theorem fi_Jx4a65c_48 : FI RJx4a65c 48 7 2 := ⟨RJx4a65c, TJx4a65c, 3, "java/util/ArrayList", rfl, by decide, ws_Jx4a65c, TB_at 82 (by decide +kernel) rfl, Or.inl rfl⟩
theorem fi_Jx4a65c_63 : FI RJx4a65c 63 7 0 := ⟨RJx4a65c, TJx4a65c, 3, "java/util/ArrayList", rfl, by decide, ws_Jx4a65c, TB_at 84 (by decide +kernel) rfl, Or.inr (TB_at 85 (by decide +kernel) rfl)⟩
theorem fs_Jx4a65c_39 : Cond.fieldLink RJx4a65c 39 "java/util/ArrayList" "DEFAULTCAPACITY_EMPTY_ELEMENTDATA" "[Ljava/lang/Object;" ∈ TB := TB_at 79 (by decide +kernel) rfl
theorem cw_Jx4a65c_1 : CWI RJx4a65c 1 iJxc12de_init_da8c8 0 := ⟨rfl, rfl, ⟨by decide, by decide, by decide +kernel⟩, TB_at 72 (by decide +kernel) rfl, TB_at 73 (by decide +kernel) rfl, TB_at 31 (by decide +kernel) rfl, TB_at 74 (by decide +kernel) rfl⟩
theorem cw_Jx4a65c_66 : CWS RJx4a65c 66 iJ7_copyOf_1904c 2 := ⟨⟨by decide, by decide, by decide +kernel⟩, TB_at 298 (by decide +kernel) rfl, TB_at 299 (by decide +kernel) rfl, TB_at 33 (by decide +kernel) rfl, TB_at 300 (by decide +kernel) rfl⟩
theorem cw_Jx4a65c_73 : CWS RJx4a65c 73 iJ8_newLength_cabcc 3 := ⟨⟨by decide, by decide, by decide +kernel⟩, TB_at 288 (by decide +kernel) rfl, TB_at 289 (by decide +kernel) rfl, TB_at 42 (by decide +kernel) rfl, TB_at 290 (by decide +kernel) rfl⟩
theorem cm_Jx4a65c_79 : Cond.methodLink RJx4a65c 79 Lib.Math.max.name ∈ TB := TB_at 331 (by decide +kernel) rfl
theorem cy_Jx4a65c_112 : Cond.methodLink RJx4a65c 112 arraycopyName ∈ TB := TB_at 671 (by decide +kernel) rfl
theorem cyn : Cond.native arraycopyName ∈ TB := TB_at 330 (by decide +kernel) rfl
theorem cys : Cond.static arraycopyName ∈ TB := TB_at 329 (by decide +kernel) rfl
theorem cyi : Cond.initialized "java/lang/System" ∈ TB := TB_at 44 (by decide +kernel) rfl
theorem cw_Jx4a65c_118 : CWS RJx4a65c 118 iJ15_checkIndex_7cf53 2 := ⟨⟨by decide, by decide, by decide +kernel⟩, TB_at 365 (by decide +kernel) rfl, TB_at 366 (by decide +kernel) rfl, TB_at 46 (by decide +kernel) rfl, TB_at 367 (by decide +kernel) rfl⟩
theorem cw_Jx4a65c_69 : CWV RJx4a65c 69 RJx4a65c iJx4a65c_grow_92f84 1 := ⟨rfl, ⟨by decide, by decide, by decide +kernel⟩, TB_at 284 (by decide +kernel) rfl, TB_at 286 (by decide +kernel) rfl, TB_at 3 (by decide +kernel) rfl, TB_at 32 (by decide +kernel) rfl, TB_at 287 (by decide +kernel) rfl⟩
theorem cw_Jx4a65c_123 : CWV RJx4a65c 123 RJx4a65c iJx4a65c_elementData_915e3 1 := ⟨rfl, ⟨by decide, by decide, by decide +kernel⟩, TB_at 371 (by decide +kernel) rfl, TB_at 372 (by decide +kernel) rfl, TB_at 373 (by decide +kernel) rfl, TB_at 32 (by decide +kernel) rfl, TB_at 374 (by decide +kernel) rfl⟩
theorem cw_Jx4a65c_129 : CWV RJx4a65c 129 RJx4a65c iJx4a65c_grow_d5877 0 := ⟨rfl, ⟨by decide, by decide, by decide +kernel⟩, TB_at 280 (by decide +kernel) rfl, TB_at 282 (by decide +kernel) rfl, TB_at 2 (by decide +kernel) rfl, TB_at 32 (by decide +kernel) rfl, TB_at 283 (by decide +kernel) rfl⟩
theorem cw_Jx4a65c_131 : CWV RJx4a65c 131 RJx4a65c iJx4a65c_add_72be8 3 := ⟨rfl, ⟨by decide, by decide, by decide +kernel⟩, TB_at 276 (by decide +kernel) rfl, TB_at 278 (by decide +kernel) rfl, TB_at 1 (by decide +kernel) rfl, TB_at 32 (by decide +kernel) rfl, TB_at 279 (by decide +kernel) rfl⟩
theorem cw_Jx4a65c_135 : CWV RJx4a65c 135 RJx4a65c iJx4a65c_rangeCheckForAdd_d00df 1 := ⟨rfl, ⟨by decide, by decide, by decide +kernel⟩, TB_at 430 (by decide +kernel) rfl, TB_at 432 (by decide +kernel) rfl, TB_at 5 (by decide +kernel) rfl, TB_at 32 (by decide +kernel) rfl, TB_at 433 (by decide +kernel) rfl⟩
theorem cw_Jx4a65c_144 : CWV RJx4a65c 144 RJx4a65c iJx4a65c_fastRemove_b59b0 2 := ⟨rfl, ⟨by decide, by decide, by decide +kernel⟩, TB_at 704 (by decide +kernel) rfl, TB_at 706 (by decide +kernel) rfl, TB_at 7 (by decide +kernel) rfl, TB_at 32 (by decide +kernel) rfl, TB_at 707 (by decide +kernel) rfl⟩
theorem cl_Jx4a65c_187 : Cond.classLink RJx4a65c 187 "java/lang/IndexOutOfBoundsException" ∈ TB := TB_at 434 (by decide +kernel) rfl
theorem cl_J7_2 : Cond.classLink RJ7 2 "java/lang/Object" ∈ TB := TB_at 324 (by decide +kernel) rfl
theorem cl_J7_110 : Cond.classLink RJ7 110 "[Ljava/lang/Object;" ∈ TB := TB_at 322 (by decide +kernel) rfl
theorem cy_J7_150 : Cond.methodLink RJ7 150 arraycopyName ∈ TB := TB_at 328 (by decide +kernel) rfl
theorem cw_J7_300 : CWS RJ7 300 iJ7_copyOf_6403c 3 := ⟨⟨by decide, by decide, by decide +kernel⟩, TB_at 319 (by decide +kernel) rfl, TB_at 320 (by decide +kernel) rfl, TB_at 33 (by decide +kernel) rfl, TB_at 321 (by decide +kernel) rfl⟩
theorem cm_J7_304 : Cond.methodLink RJ7 304 Lib.Math.min.name ∈ TB := TB_at 325 (by decide +kernel) rfl
theorem cg_J7_86 : Cond.methodLink RJ7 86 ⟨"java/lang/Object", "getClass", "()Ljava/lang/Class;"⟩ ∈ TB := TB_at 301 (by decide +kernel) rfl
theorem cgs : Cond.selects "[Ljava/lang/Object;" ⟨"java/lang/Object", "getClass", "()Ljava/lang/Class;"⟩ ⟨"java/lang/Object", "getClass", "()Ljava/lang/Class;"⟩ ∈ TB := TB_at 1267 (by decide +kernel) rfl
theorem cgi : Cond.instanceMethod ⟨"java/lang/Object", "getClass", "()Ljava/lang/Class;"⟩ ∈ TB := TB_at 302 (by decide +kernel) rfl
theorem cgn : Cond.native ⟨"java/lang/Object", "getClass", "()Ljava/lang/Class;"⟩ ∈ TB := TB_at 318 (by decide +kernel) rfl
theorem cw_J15_105 : CWS RJ15 105 iJ3_checkIndex_8e157 3 := ⟨⟨by decide, by decide, by decide +kernel⟩, TB_at 368 (by decide +kernel) rfl, TB_at 369 (by decide +kernel) rfl, TB_at 47 (by decide +kernel) rfl, TB_at 370 (by decide +kernel) rfl⟩
theorem cm_J8_194 : Cond.methodLink RJ8 194 Lib.Math.max.name ∈ TB := TB_at 291 (by decide +kernel) rfl
theorem cc_J8_200 : Cond.constant RJ8 200 2147483639 ∈ TB := TB_at 294 (by decide +kernel) rfl
theorem coi : Cond.instanceMethod objectInit ∈ TB := TB_at 65 (by decide +kernel) rfl
theorem coc : Cond.code objectInit ⟨#[0xb1]⟩ 1 none ∈ TB := TB_at 66 (by decide +kernel) rfl
theorem ac_int : Cond.arrayClass .int ∈ TB := TB_at 109 (by decide +kernel) rfl
theorem ac_boolean : Cond.arrayClass .boolean ∈ TB := TB_at 776 (by decide +kernel) rfl
theorem ac_long : Cond.arrayClass .long ∈ TB := TB_at 1241 (by decide +kernel) rfl
theorem ca_0 : Cond.castable "Puppetloom$Key" "java/lang/Object" ∈ NW := NW_at 1259 (by decide +kernel) rfl
theorem ca_1 : Cond.castable "Puppetloom$Place" "java/lang/Object" ∈ NW := NW_at 1257 (by decide +kernel) rfl
theorem ca_2 : Cond.castable "Puppetloom$Puppet" "java/lang/Object" ∈ NW := NW_at 1256 (by decide +kernel) rfl
theorem ca_3 : Cond.castable "Puppetloom$Show" "java/lang/Object" ∈ NW := NW_at 1263 (by decide +kernel) rfl
theorem ca_4 : Cond.castable "Puppetloom$Span" "java/lang/Object" ∈ NW := NW_at 1264 (by decide +kernel) rfl
theorem ca_5 : Cond.castable "Puppetloom" "java/lang/Object" ∈ NW := NW_at 1251 (by decide +kernel) rfl
theorem ca_6 : Cond.castable "PuppetloomModel" "java/lang/Object" ∈ NW := NW_at 1253 (by decide +kernel) rfl
theorem ca_7 : Cond.castable "java/util/ArrayList" "java/lang/Object" ∈ NW := NW_at 1252 (by decide +kernel) rfl
theorem tg_IllegalStateException : (∀ w ∈ vx_atS RX5 45 "java/lang/IllegalStateException" nmsX, w ∈ TB ∨ w ∈ NW) ∧ (∀ w ∈ Cond.classLink RX5 41 "java/lang/IllegalStateException" :: Cond.initialized "java/lang/IllegalStateException" :: vx_atS RX5 45 "java/lang/IllegalStateException" nmsX, vx_ot w = true) ∧ Bundle.fit "java/lang/IllegalStateException" = true := ⟨by decide +kernel, by decide +kernel, by decide +kernel⟩
theorem tg_IndexOutOfBoundsException : (∀ w ∈ vx_atS RX5 95 "java/lang/IndexOutOfBoundsException" nmsX, w ∈ TB ∨ w ∈ NW) ∧ (∀ w ∈ Cond.classLink RX5 91 "java/lang/IndexOutOfBoundsException" :: Cond.initialized "java/lang/IndexOutOfBoundsException" :: vx_atS RX5 95 "java/lang/IndexOutOfBoundsException" nmsX, vx_ot w = true) ∧ Bundle.fit "java/lang/IndexOutOfBoundsException" = true := ⟨by decide +kernel, by decide +kernel, by decide +kernel⟩
theorem tg_IllegalArgumentException : (∀ w ∈ vx_atS RX5 214 "java/lang/IllegalArgumentException" nmsX, w ∈ TB ∨ w ∈ NW) ∧ (∀ w ∈ Cond.classLink RX5 210 "java/lang/IllegalArgumentException" :: Cond.initialized "java/lang/IllegalArgumentException" :: vx_atS RX5 214 "java/lang/IllegalArgumentException" nmsX, vx_ot w = true) ∧ Bundle.fit "java/lang/IllegalArgumentException" = true := ⟨by decide +kernel, by decide +kernel, by decide +kernel⟩
theorem ti_43 : TI RX5 41 43 45 "java/lang/IllegalStateException" := ⟨1, "there are 8 puppets", rfl, tg_IllegalStateException.2.2, TB_at 199 (by decide +kernel) rfl, TB_at 39 (by decide +kernel) rfl, tg_IllegalStateException.1, tg_IllegalStateException.2.1⟩
theorem ti_71 : TI RX5 41 71 45 "java/lang/IllegalStateException" := ⟨3, "the puppet has 12 keys", rfl, tg_IllegalStateException.2.2, TB_at 199 (by decide +kernel) rfl, TB_at 39 (by decide +kernel) rfl, tg_IllegalStateException.1, tg_IllegalStateException.2.1⟩
theorem ti_100 : TI RX5 41 100 45 "java/lang/IllegalStateException" := ⟨6, "there are 6 shows", rfl, tg_IllegalStateException.2.2, TB_at 199 (by decide +kernel) rfl, TB_at 39 (by decide +kernel) rfl, tg_IllegalStateException.1, tg_IllegalStateException.2.1⟩
theorem ti_121 : TI RX5 41 121 45 "java/lang/IllegalStateException" := ⟨8, "the show is performed or has the puppet", rfl, tg_IllegalStateException.2.2, TB_at 199 (by decide +kernel) rfl, TB_at 39 (by decide +kernel) rfl, tg_IllegalStateException.1, tg_IllegalStateException.2.1⟩
theorem ti_134 : TI RX5 41 134 45 "java/lang/IllegalStateException" := ⟨9, "the puppet is worn or does something else", rfl, tg_IllegalStateException.2.2, TB_at 199 (by decide +kernel) rfl, TB_at 39 (by decide +kernel) rfl, tg_IllegalStateException.1, tg_IllegalStateException.2.1⟩
theorem ti_142 : TI RX5 41 142 45 "java/lang/IllegalStateException" := ⟨10, "the show is performed or has not the puppet", rfl, tg_IllegalStateException.2.2, TB_at 199 (by decide +kernel) rfl, TB_at 39 (by decide +kernel) rfl, tg_IllegalStateException.1, tg_IllegalStateException.2.1⟩
theorem ti_150 : TI RX5 41 150 45 "java/lang/IllegalStateException" := ⟨11, "the show is performed or has not so many seats left", rfl, tg_IllegalStateException.2.2, TB_at 199 (by decide +kernel) rfl, TB_at 39 (by decide +kernel) rfl, tg_IllegalStateException.1, tg_IllegalStateException.2.1⟩
theorem ti_155 : TI RX5 41 155 45 "java/lang/IllegalStateException" := ⟨12, "the show is performed or has no puppets", rfl, tg_IllegalStateException.2.2, TB_at 199 (by decide +kernel) rfl, TB_at 39 (by decide +kernel) rfl, tg_IllegalStateException.1, tg_IllegalStateException.2.1⟩
theorem ti_167 : TI RX5 41 167 45 "java/lang/IllegalStateException" := ⟨13, "the puppet has no worn joints or was mended 10 times", rfl, tg_IllegalStateException.2.2, TB_at 199 (by decide +kernel) rfl, TB_at 39 (by decide +kernel) rfl, tg_IllegalStateException.1, tg_IllegalStateException.2.1⟩
theorem ti_169 : TI RX5 41 169 45 "java/lang/IllegalStateException" := ⟨14, "the puppet does something else", rfl, tg_IllegalStateException.2.2, TB_at 199 (by decide +kernel) rfl, TB_at 39 (by decide +kernel) rfl, tg_IllegalStateException.1, tg_IllegalStateException.2.1⟩
theorem ti_93 : TI RX5 91 93 95 "java/lang/IndexOutOfBoundsException" := ⟨5, "there is no such sound", rfl, tg_IndexOutOfBoundsException.2.2, TB_at 345 (by decide +kernel) rfl, TB_at 45 (by decide +kernel) rfl, tg_IndexOutOfBoundsException.1, tg_IndexOutOfBoundsException.2.1⟩
theorem ti_215 : TI RX5 91 215 95 "java/lang/IndexOutOfBoundsException" := ⟨2, "there is no such puppet", rfl, tg_IndexOutOfBoundsException.2.2, TB_at 345 (by decide +kernel) rfl, TB_at 45 (by decide +kernel) rfl, tg_IndexOutOfBoundsException.1, tg_IndexOutOfBoundsException.2.1⟩
theorem ti_217 : TI RX5 91 217 95 "java/lang/IndexOutOfBoundsException" := ⟨7, "there is no such show", rfl, tg_IndexOutOfBoundsException.2.2, TB_at 345 (by decide +kernel) rfl, TB_at 45 (by decide +kernel) rfl, tg_IndexOutOfBoundsException.1, tg_IndexOutOfBoundsException.2.1⟩
theorem ti_219 : TI RX5 91 219 95 "java/lang/IndexOutOfBoundsException" := ⟨15, "the show has not the puppet", rfl, tg_IndexOutOfBoundsException.2.2, TB_at 345 (by decide +kernel) rfl, TB_at 45 (by decide +kernel) rfl, tg_IndexOutOfBoundsException.1, tg_IndexOutOfBoundsException.2.1⟩
theorem ti_212 : TI RX5 210 212 214 "java/lang/IllegalArgumentException" := ⟨0, "a number is out of range", rfl, tg_IllegalArgumentException.2.2, TB_at 126 (by decide +kernel) rfl, TB_at 38 (by decide +kernel) rfl, tg_IllegalArgumentException.1, tg_IllegalArgumentException.2.1⟩
end
section
/-! ===== decode rows ===== -/
theorem dX5_init_0 : decode cX5_init 0 = .ok (.aload_n 0, 1) := by decide +kernel
theorem dX5_init_1 : decode cX5_init 1 = .ok (.invokespecial 1, 3) := by decide +kernel
theorem dX5_init_4 : decode cX5_init 4 = .ok (.aload_n 0, 1) := by decide +kernel
theorem dX5_init_5 : decode cX5_init 5 = .ok (.new 7, 3) := by decide +kernel
theorem dX5_init_8 : decode cX5_init 8 = .ok (.dup, 1) := by decide +kernel
theorem dX5_init_9 : decode cX5_init 9 = .ok (.invokespecial 9, 3) := by decide +kernel
theorem dX5_init_12 : decode cX5_init 12 = .ok (.putfield 10, 3) := by decide +kernel
theorem dX5_init_15 : decode cX5_init 15 = .ok (.aload_n 0, 1) := by decide +kernel
theorem dX5_init_16 : decode cX5_init 16 = .ok (.new 7, 3) := by decide +kernel
theorem dX5_init_19 : decode cX5_init 19 = .ok (.dup, 1) := by decide +kernel
theorem dX5_init_20 : decode cX5_init 20 = .ok (.invokespecial 9, 3) := by decide +kernel
theorem dX5_init_23 : decode cX5_init 23 = .ok (.putfield 16, 3) := by decide +kernel
theorem dX5_init_26 : decode cX5_init 26 = .ok (.aload_n 0, 1) := by decide +kernel
theorem dX5_init_27 : decode cX5_init 27 = .ok (.bipush 10, 2) := by decide +kernel
theorem dX5_init_29 : decode cX5_init 29 = .ok (.newarray .int, 2) := by decide +kernel
theorem dX5_init_31 : decode cX5_init 31 = .ok (.putfield 19, 3) := by decide +kernel
theorem dX5_init_34 : decode cX5_init 34 = .ok (.aload_n 0, 1) := by decide +kernel
theorem dX5_init_35 : decode cX5_init 35 = .ok (.getfield 19, 3) := by decide +kernel
theorem dX5_init_38 : decode cX5_init 38 = .ok (.iconst (-1), 1) := by decide +kernel
theorem dX5_init_39 : decode cX5_init 39 = .ok (.invokestatic 23, 3) := by decide +kernel
theorem dX5_init_42 : decode cX5_init 42 = .ok (.aload_n 0, 1) := by decide +kernel
theorem dX5_init_43 : decode cX5_init 43 = .ok (.iconst 0, 1) := by decide +kernel
theorem dX5_init_44 : decode cX5_init 44 = .ok (.putfield 29, 3) := by decide +kernel
theorem dX5_init_47 : decode cX5_init 47 = .ok (.return_, 1) := by decide +kernel
theorem dX5_income_0 : decode cX5_income 0 = .ok (.aload_n 0, 1) := by decide +kernel
theorem dX5_income_1 : decode cX5_income 1 = .ok (.getfield 29, 3) := by decide +kernel
theorem dX5_income_4 : decode cX5_income 4 = .ok (.ireturn, 1) := by decide +kernel
theorem dX5_puppet_0 : decode cX5_puppet 0 = .ok (.iload_n 1, 1) := by decide +kernel
theorem dX5_puppet_1 : decode cX5_puppet 1 = .ok (.iconst 0, 1) := by decide +kernel
theorem dX5_puppet_2 : decode cX5_puppet 2 = .ok (.sipush 999, 3) := by decide +kernel
theorem dX5_puppet_5 : decode cX5_puppet 5 = .ok (.invokestatic 33, 3) := by decide +kernel
theorem dX5_puppet_8 : decode cX5_puppet 8 = .ok (.iload_n 2, 1) := by decide +kernel
theorem dX5_puppet_9 : decode cX5_puppet 9 = .ok (.iconst 0, 1) := by decide +kernel
theorem dX5_puppet_10 : decode cX5_puppet 10 = .ok (.sipush 1500, 3) := by decide +kernel
theorem dX5_puppet_13 : decode cX5_puppet 13 = .ok (.invokestatic 33, 3) := by decide +kernel
theorem dX5_puppet_16 : decode cX5_puppet 16 = .ok (.aload_n 0, 1) := by decide +kernel
theorem dX5_puppet_17 : decode cX5_puppet 17 = .ok (.getfield 10, 3) := by decide +kernel
theorem dX5_puppet_20 : decode cX5_puppet 20 = .ok (.invokevirtual 37, 3) := by decide +kernel
theorem dX5_puppet_23 : decode cX5_puppet 23 = .ok (.bipush 8, 2) := by decide +kernel
theorem dX5_puppet_25 : decode cX5_puppet 25 = .ok (.if_icmp .lt 13, 3) := by decide +kernel
theorem dX5_puppet_28 : decode cX5_puppet 28 = .ok (.new 41, 3) := by decide +kernel
theorem dX5_puppet_31 : decode cX5_puppet 31 = .ok (.dup, 1) := by decide +kernel
theorem dX5_puppet_32 : decode cX5_puppet 32 = .ok (.ldc 43, 2) := by decide +kernel
theorem dX5_puppet_34 : decode cX5_puppet 34 = .ok (.invokespecial 45, 3) := by decide +kernel
theorem dX5_puppet_37 : decode cX5_puppet 37 = .ok (.athrow, 1) := by decide +kernel
theorem dX5_puppet_38 : decode cX5_puppet 38 = .ok (.aload_n 0, 1) := by decide +kernel
theorem dX5_puppet_39 : decode cX5_puppet 39 = .ok (.getfield 10, 3) := by decide +kernel
theorem dX5_puppet_42 : decode cX5_puppet 42 = .ok (.new 48, 3) := by decide +kernel
theorem dX5_puppet_45 : decode cX5_puppet 45 = .ok (.dup, 1) := by decide +kernel
theorem dX5_puppet_46 : decode cX5_puppet 46 = .ok (.iload_n 1, 1) := by decide +kernel
theorem dX5_puppet_47 : decode cX5_puppet 47 = .ok (.iload_n 2, 1) := by decide +kernel
theorem dX5_puppet_48 : decode cX5_puppet 48 = .ok (.invokespecial 50, 3) := by decide +kernel
theorem dX5_puppet_51 : decode cX5_puppet 51 = .ok (.invokevirtual 53, 3) := by decide +kernel
theorem dX5_puppet_54 : decode cX5_puppet 54 = .ok (.pop, 1) := by decide +kernel
theorem dX5_puppet_55 : decode cX5_puppet 55 = .ok (.aload_n 0, 1) := by decide +kernel
theorem dX5_puppet_56 : decode cX5_puppet 56 = .ok (.getfield 10, 3) := by decide +kernel
theorem dX5_puppet_59 : decode cX5_puppet 59 = .ok (.invokevirtual 37, 3) := by decide +kernel
theorem dX5_puppet_62 : decode cX5_puppet 62 = .ok (.iconst 1, 1) := by decide +kernel
theorem dX5_puppet_63 : decode cX5_puppet 63 = .ok (.isub, 1) := by decide +kernel
theorem dX5_puppet_64 : decode cX5_puppet 64 = .ok (.ireturn, 1) := by decide +kernel
theorem dX5_needWithin_0 : decode cX5_needWithin 0 = .ok (.iload_n 0, 1) := by decide +kernel
theorem dX5_needWithin_1 : decode cX5_needWithin 1 = .ok (.iload_n 1, 1) := by decide +kernel
theorem dX5_needWithin_2 : decode cX5_needWithin 2 = .ok (.if_icmp .lt 8, 3) := by decide +kernel
theorem dX5_needWithin_5 : decode cX5_needWithin 5 = .ok (.iload_n 0, 1) := by decide +kernel
theorem dX5_needWithin_6 : decode cX5_needWithin 6 = .ok (.iload_n 2, 1) := by decide +kernel
theorem dX5_needWithin_7 : decode cX5_needWithin 7 = .ok (.if_icmp .le 13, 3) := by decide +kernel
theorem dX5_needWithin_10 : decode cX5_needWithin 10 = .ok (.new 210, 3) := by decide +kernel
theorem dX5_needWithin_13 : decode cX5_needWithin 13 = .ok (.dup, 1) := by decide +kernel
theorem dX5_needWithin_14 : decode cX5_needWithin 14 = .ok (.ldc 212, 2) := by decide +kernel
theorem dX5_needWithin_16 : decode cX5_needWithin 16 = .ok (.invokespecial 214, 3) := by decide +kernel
theorem dX5_needWithin_19 : decode cX5_needWithin 19 = .ok (.athrow, 1) := by decide +kernel
theorem dX5_needWithin_20 : decode cX5_needWithin 20 = .ok (.return_, 1) := by decide +kernel
theorem dX2_init_0 : decode cX2_init 0 = .ok (.aload_n 0, 1) := by decide +kernel
theorem dX2_init_1 : decode cX2_init 1 = .ok (.invokespecial 3, 3) := by decide +kernel
theorem dX2_init_4 : decode cX2_init 4 = .ok (.aload_n 0, 1) := by decide +kernel
theorem dX2_init_5 : decode cX2_init 5 = .ok (.iload_n 1, 1) := by decide +kernel
theorem dX2_init_6 : decode cX2_init 6 = .ok (.putfield 9, 3) := by decide +kernel
theorem dX2_init_9 : decode cX2_init 9 = .ok (.aload_n 0, 1) := by decide +kernel
theorem dX2_init_10 : decode cX2_init 10 = .ok (.iload_n 2, 1) := by decide +kernel
theorem dX2_init_11 : decode cX2_init 11 = .ok (.putfield 15, 3) := by decide +kernel
theorem dX2_init_14 : decode cX2_init 14 = .ok (.aload_n 0, 1) := by decide +kernel
theorem dX2_init_15 : decode cX2_init 15 = .ok (.new 18, 3) := by decide +kernel
theorem dX2_init_18 : decode cX2_init 18 = .ok (.dup, 1) := by decide +kernel
theorem dX2_init_19 : decode cX2_init 19 = .ok (.invokespecial 20, 3) := by decide +kernel
theorem dX2_init_22 : decode cX2_init 22 = .ok (.putfield 21, 3) := by decide +kernel
theorem dX2_init_25 : decode cX2_init 25 = .ok (.aload_n 0, 1) := by decide +kernel
theorem dX2_init_26 : decode cX2_init 26 = .ok (.iconst (-1), 1) := by decide +kernel
theorem dX2_init_27 : decode cX2_init 27 = .ok (.putfield 25, 3) := by decide +kernel
theorem dX2_init_30 : decode cX2_init 30 = .ok (.aload_n 0, 1) := by decide +kernel
theorem dX2_init_31 : decode cX2_init 31 = .ok (.iconst 0, 1) := by decide +kernel
theorem dX2_init_32 : decode cX2_init 32 = .ok (.putfield 28, 3) := by decide +kernel
theorem dX2_init_35 : decode cX2_init 35 = .ok (.aload_n 0, 1) := by decide +kernel
theorem dX2_init_36 : decode cX2_init 36 = .ok (.new 18, 3) := by decide +kernel
theorem dX2_init_39 : decode cX2_init 39 = .ok (.dup, 1) := by decide +kernel
theorem dX2_init_40 : decode cX2_init 40 = .ok (.invokespecial 20, 3) := by decide +kernel
theorem dX2_init_43 : decode cX2_init 43 = .ok (.putfield 31, 3) := by decide +kernel
theorem dX2_init_46 : decode cX2_init 46 = .ok (.aload_n 0, 1) := by decide +kernel
theorem dX2_init_47 : decode cX2_init 47 = .ok (.new 34, 3) := by decide +kernel
theorem dX2_init_50 : decode cX2_init 50 = .ok (.dup, 1) := by decide +kernel
theorem dX2_init_51 : decode cX2_init 51 = .ok (.invokespecial 36, 3) := by decide +kernel
theorem dX2_init_54 : decode cX2_init 54 = .ok (.putfield 37, 3) := by decide +kernel
theorem dX2_init_57 : decode cX2_init 57 = .ok (.aload_n 0, 1) := by decide +kernel
theorem dX2_init_58 : decode cX2_init 58 = .ok (.iconst 0, 1) := by decide +kernel
theorem dX2_init_59 : decode cX2_init 59 = .ok (.putfield 41, 3) := by decide +kernel
theorem dX2_init_62 : decode cX2_init 62 = .ok (.return_, 1) := by decide +kernel
theorem dX1_init_0 : decode cX1_init 0 = .ok (.aload_n 0, 1) := by decide +kernel
theorem dX1_init_1 : decode cX1_init 1 = .ok (.invokespecial 3, 3) := by decide +kernel
theorem dX1_init_4 : decode cX1_init 4 = .ok (.return_, 1) := by decide +kernel
theorem dX5_setLength_0 : decode cX5_setLength 0 = .ok (.aload_n 0, 1) := by decide +kernel
theorem dX5_setLength_1 : decode cX5_setLength 1 = .ok (.iload_n 1, 1) := by decide +kernel
theorem dX5_setLength_2 : decode cX5_setLength 2 = .ok (.invokevirtual 57, 3) := by decide +kernel
theorem dX5_setLength_5 : decode cX5_setLength 5 = .ok (.astore_n 3, 1) := by decide +kernel
theorem dX5_setLength_6 : decode cX5_setLength 6 = .ok (.iload_n 2, 1) := by decide +kernel
theorem dX5_setLength_7 : decode cX5_setLength 7 = .ok (.iconst 0, 1) := by decide +kernel
theorem dX5_setLength_8 : decode cX5_setLength 8 = .ok (.sipush 1500, 3) := by decide +kernel
theorem dX5_setLength_11 : decode cX5_setLength 11 = .ok (.invokestatic 33, 3) := by decide +kernel
theorem dX5_setLength_14 : decode cX5_setLength 14 = .ok (.aload_n 3, 1) := by decide +kernel
theorem dX5_setLength_15 : decode cX5_setLength 15 = .ok (.getfield 61, 3) := by decide +kernel
theorem dX5_setLength_18 : decode cX5_setLength 18 = .ok (.istore 4, 2) := by decide +kernel
theorem dX5_setLength_20 : decode cX5_setLength 20 = .ok (.aload_n 3, 1) := by decide +kernel
theorem dX5_setLength_21 : decode cX5_setLength 21 = .ok (.iload_n 2, 1) := by decide +kernel
theorem dX5_setLength_22 : decode cX5_setLength 22 = .ok (.putfield 61, 3) := by decide +kernel
theorem dX5_setLength_25 : decode cX5_setLength 25 = .ok (.iload 4, 2) := by decide +kernel
theorem dX5_setLength_27 : decode cX5_setLength 27 = .ok (.ireturn, 1) := by decide +kernel
theorem dX5_puppetNumbered_0 : decode cX5_puppetNumbered 0 = .ok (.iload_n 1, 1) := by decide +kernel
theorem dX5_puppetNumbered_1 : decode cX5_puppetNumbered 1 = .ok (.ifCond .lt 14, 3) := by decide +kernel
theorem dX5_puppetNumbered_4 : decode cX5_puppetNumbered 4 = .ok (.iload_n 1, 1) := by decide +kernel
theorem dX5_puppetNumbered_5 : decode cX5_puppetNumbered 5 = .ok (.aload_n 0, 1) := by decide +kernel
theorem dX5_puppetNumbered_6 : decode cX5_puppetNumbered 6 = .ok (.getfield 10, 3) := by decide +kernel
theorem dX5_puppetNumbered_9 : decode cX5_puppetNumbered 9 = .ok (.invokevirtual 37, 3) := by decide +kernel
theorem dX5_puppetNumbered_12 : decode cX5_puppetNumbered 12 = .ok (.if_icmp .lt 13, 3) := by decide +kernel
theorem dX5_puppetNumbered_15 : decode cX5_puppetNumbered 15 = .ok (.new 91, 3) := by decide +kernel
theorem dX5_puppetNumbered_18 : decode cX5_puppetNumbered 18 = .ok (.dup, 1) := by decide +kernel
theorem dX5_puppetNumbered_19 : decode cX5_puppetNumbered 19 = .ok (.ldc 215, 2) := by decide +kernel
theorem dX5_puppetNumbered_21 : decode cX5_puppetNumbered 21 = .ok (.invokespecial 95, 3) := by decide +kernel
theorem dX5_puppetNumbered_24 : decode cX5_puppetNumbered 24 = .ok (.athrow, 1) := by decide +kernel
theorem dX5_puppetNumbered_25 : decode cX5_puppetNumbered 25 = .ok (.aload_n 0, 1) := by decide +kernel
theorem dX5_puppetNumbered_26 : decode cX5_puppetNumbered 26 = .ok (.getfield 10, 3) := by decide +kernel
theorem dX5_puppetNumbered_29 : decode cX5_puppetNumbered 29 = .ok (.iload_n 1, 1) := by decide +kernel
theorem dX5_puppetNumbered_30 : decode cX5_puppetNumbered 30 = .ok (.invokevirtual 157, 3) := by decide +kernel
theorem dX5_puppetNumbered_33 : decode cX5_puppetNumbered 33 = .ok (.checkcast 48, 3) := by decide +kernel
theorem dX5_puppetNumbered_36 : decode cX5_puppetNumbered 36 = .ok (.areturn, 1) := by decide +kernel
theorem dX5_key_0 : decode cX5_key 0 = .ok (.aload_n 0, 1) := by decide +kernel
theorem dX5_key_1 : decode cX5_key 1 = .ok (.iload_n 1, 1) := by decide +kernel
theorem dX5_key_2 : decode cX5_key 2 = .ok (.invokevirtual 57, 3) := by decide +kernel
theorem dX5_key_5 : decode cX5_key 5 = .ok (.astore 6, 2) := by decide +kernel
theorem dX5_key_7 : decode cX5_key 7 = .ok (.iload_n 2, 1) := by decide +kernel
theorem dX5_key_8 : decode cX5_key 8 = .ok (.iconst 0, 1) := by decide +kernel
theorem dX5_key_9 : decode cX5_key 9 = .ok (.sipush 999, 3) := by decide +kernel
theorem dX5_key_12 : decode cX5_key 12 = .ok (.invokestatic 33, 3) := by decide +kernel
theorem dX5_key_15 : decode cX5_key 15 = .ok (.iload_n 3, 1) := by decide +kernel
theorem dX5_key_16 : decode cX5_key 16 = .ok (.iconst 0, 1) := by decide +kernel
theorem dX5_key_17 : decode cX5_key 17 = .ok (.sipush 999, 3) := by decide +kernel
theorem dX5_key_20 : decode cX5_key 20 = .ok (.invokestatic 33, 3) := by decide +kernel
theorem dX5_key_23 : decode cX5_key 23 = .ok (.iload 4, 2) := by decide +kernel
theorem dX5_key_25 : decode cX5_key 25 = .ok (.iconst 0, 1) := by decide +kernel
theorem dX5_key_26 : decode cX5_key 26 = .ok (.sipush 999, 3) := by decide +kernel
theorem dX5_key_29 : decode cX5_key 29 = .ok (.invokestatic 33, 3) := by decide +kernel
theorem dX5_key_32 : decode cX5_key 32 = .ok (.iload 5, 2) := by decide +kernel
theorem dX5_key_34 : decode cX5_key 34 = .ok (.iconst 0, 1) := by decide +kernel
theorem dX5_key_35 : decode cX5_key 35 = .ok (.iconst 3, 1) := by decide +kernel
theorem dX5_key_36 : decode cX5_key 36 = .ok (.invokestatic 33, 3) := by decide +kernel
theorem dX5_key_39 : decode cX5_key 39 = .ok (.aload 6, 2) := by decide +kernel
theorem dX5_key_41 : decode cX5_key 41 = .ok (.iload_n 2, 1) := by decide +kernel
theorem dX5_key_42 : decode cX5_key 42 = .ok (.invokevirtual 64, 3) := by decide +kernel
theorem dX5_key_45 : decode cX5_key 45 = .ok (.ifCond .ne 26, 3) := by decide +kernel
theorem dX5_key_48 : decode cX5_key 48 = .ok (.aload 6, 2) := by decide +kernel
theorem dX5_key_50 : decode cX5_key 50 = .ok (.getfield 68, 3) := by decide +kernel
theorem dX5_key_53 : decode cX5_key 53 = .ok (.invokevirtual 37, 3) := by decide +kernel
theorem dX5_key_56 : decode cX5_key 56 = .ok (.bipush 12, 2) := by decide +kernel
theorem dX5_key_58 : decode cX5_key 58 = .ok (.if_icmp .lt 13, 3) := by decide +kernel
theorem dX5_key_61 : decode cX5_key 61 = .ok (.new 41, 3) := by decide +kernel
theorem dX5_key_64 : decode cX5_key 64 = .ok (.dup, 1) := by decide +kernel
theorem dX5_key_65 : decode cX5_key 65 = .ok (.ldc 71, 2) := by decide +kernel
theorem dX5_key_67 : decode cX5_key 67 = .ok (.invokespecial 45, 3) := by decide +kernel
theorem dX5_key_70 : decode cX5_key 70 = .ok (.athrow, 1) := by decide +kernel
theorem dX5_key_71 : decode cX5_key 71 = .ok (.aload 6, 2) := by decide +kernel
theorem dX5_key_73 : decode cX5_key 73 = .ok (.new 73, 3) := by decide +kernel
theorem dX5_key_76 : decode cX5_key 76 = .ok (.dup, 1) := by decide +kernel
theorem dX5_key_77 : decode cX5_key 77 = .ok (.iload_n 2, 1) := by decide +kernel
theorem dX5_key_78 : decode cX5_key 78 = .ok (.iload_n 3, 1) := by decide +kernel
theorem dX5_key_79 : decode cX5_key 79 = .ok (.iload 4, 2) := by decide +kernel
theorem dX5_key_81 : decode cX5_key 81 = .ok (.iload 5, 2) := by decide +kernel
theorem dX5_key_83 : decode cX5_key 83 = .ok (.invokespecial 75, 3) := by decide +kernel
theorem dX5_key_86 : decode cX5_key 86 = .ok (.invokevirtual 78, 3) := by decide +kernel
theorem dX5_key_89 : decode cX5_key 89 = .ok (.aload 6, 2) := by decide +kernel
theorem dX5_key_91 : decode cX5_key 91 = .ok (.getfield 68, 3) := by decide +kernel
theorem dX5_key_94 : decode cX5_key 94 = .ok (.invokevirtual 37, 3) := by decide +kernel
theorem dX5_key_97 : decode cX5_key 97 = .ok (.ireturn, 1) := by decide +kernel
theorem dX2_hasKeyAt_0 : decode cX2_hasKeyAt 0 = .ok (.aload_n 0, 1) := by decide +kernel
theorem dX2_hasKeyAt_1 : decode cX2_hasKeyAt 1 = .ok (.iload_n 1, 1) := by decide +kernel
theorem dX2_hasKeyAt_2 : decode cX2_hasKeyAt 2 = .ok (.invokevirtual 58, 3) := by decide +kernel
theorem dX2_hasKeyAt_5 : decode cX2_hasKeyAt 5 = .ok (.istore_n 2, 1) := by decide +kernel
theorem dX2_hasKeyAt_6 : decode cX2_hasKeyAt 6 = .ok (.iload_n 2, 1) := by decide +kernel
theorem dX2_hasKeyAt_7 : decode cX2_hasKeyAt 7 = .ok (.aload_n 0, 1) := by decide +kernel
theorem dX2_hasKeyAt_8 : decode cX2_hasKeyAt 8 = .ok (.getfield 21, 3) := by decide +kernel
theorem dX2_hasKeyAt_11 : decode cX2_hasKeyAt 11 = .ok (.invokevirtual 45, 3) := by decide +kernel
theorem dX2_hasKeyAt_14 : decode cX2_hasKeyAt 14 = .ok (.if_icmp .ge 25, 3) := by decide +kernel
theorem dX2_hasKeyAt_17 : decode cX2_hasKeyAt 17 = .ok (.aload_n 0, 1) := by decide +kernel
theorem dX2_hasKeyAt_18 : decode cX2_hasKeyAt 18 = .ok (.getfield 21, 3) := by decide +kernel
theorem dX2_hasKeyAt_21 : decode cX2_hasKeyAt 21 = .ok (.iload_n 2, 1) := by decide +kernel
theorem dX2_hasKeyAt_22 : decode cX2_hasKeyAt 22 = .ok (.invokevirtual 49, 3) := by decide +kernel
theorem dX2_hasKeyAt_25 : decode cX2_hasKeyAt 25 = .ok (.checkcast 53, 3) := by decide +kernel
theorem dX2_hasKeyAt_28 : decode cX2_hasKeyAt 28 = .ok (.getfield 55, 3) := by decide +kernel
theorem dX2_hasKeyAt_31 : decode cX2_hasKeyAt 31 = .ok (.iload_n 1, 1) := by decide +kernel
theorem dX2_hasKeyAt_32 : decode cX2_hasKeyAt 32 = .ok (.if_icmp .ne 7, 3) := by decide +kernel
theorem dX2_hasKeyAt_35 : decode cX2_hasKeyAt 35 = .ok (.iconst 1, 1) := by decide +kernel
theorem dX2_hasKeyAt_36 : decode cX2_hasKeyAt 36 = .ok (.goto 4, 3) := by decide +kernel
theorem dX2_hasKeyAt_39 : decode cX2_hasKeyAt 39 = .ok (.iconst 0, 1) := by decide +kernel
theorem dX2_hasKeyAt_40 : decode cX2_hasKeyAt 40 = .ok (.ireturn, 1) := by decide +kernel
theorem dX2_keysAhead_0 : decode cX2_keysAhead 0 = .ok (.iconst 0, 1) := by decide +kernel
theorem dX2_keysAhead_1 : decode cX2_keysAhead 1 = .ok (.istore_n 2, 1) := by decide +kernel
theorem dX2_keysAhead_2 : decode cX2_keysAhead 2 = .ok (.iload_n 2, 1) := by decide +kernel
theorem dX2_keysAhead_3 : decode cX2_keysAhead 3 = .ok (.aload_n 0, 1) := by decide +kernel
theorem dX2_keysAhead_4 : decode cX2_keysAhead 4 = .ok (.getfield 21, 3) := by decide +kernel
theorem dX2_keysAhead_7 : decode cX2_keysAhead 7 = .ok (.invokevirtual 45, 3) := by decide +kernel
theorem dX2_keysAhead_10 : decode cX2_keysAhead 10 = .ok (.if_icmp .ge 27, 3) := by decide +kernel
theorem dX2_keysAhead_13 : decode cX2_keysAhead 13 = .ok (.aload_n 0, 1) := by decide +kernel
theorem dX2_keysAhead_14 : decode cX2_keysAhead 14 = .ok (.getfield 21, 3) := by decide +kernel
theorem dX2_keysAhead_17 : decode cX2_keysAhead 17 = .ok (.iload_n 2, 1) := by decide +kernel
theorem dX2_keysAhead_18 : decode cX2_keysAhead 18 = .ok (.invokevirtual 49, 3) := by decide +kernel
theorem dX2_keysAhead_21 : decode cX2_keysAhead 21 = .ok (.checkcast 53, 3) := by decide +kernel
theorem dX2_keysAhead_24 : decode cX2_keysAhead 24 = .ok (.getfield 55, 3) := by decide +kernel
theorem dX2_keysAhead_27 : decode cX2_keysAhead 27 = .ok (.iload_n 1, 1) := by decide +kernel
theorem dX2_keysAhead_28 : decode cX2_keysAhead 28 = .ok (.if_icmp .ge 9, 3) := by decide +kernel
theorem dX2_keysAhead_31 : decode cX2_keysAhead 31 = .ok (.iinc 2 1, 3) := by decide +kernel
theorem dX2_keysAhead_34 : decode cX2_keysAhead 34 = .ok (.goto (-32), 3) := by decide +kernel
theorem dX2_keysAhead_37 : decode cX2_keysAhead 37 = .ok (.iload_n 2, 1) := by decide +kernel
theorem dX2_keysAhead_38 : decode cX2_keysAhead 38 = .ok (.ireturn, 1) := by decide +kernel
theorem dX0_init_0 : decode cX0_init 0 = .ok (.aload_n 0, 1) := by decide +kernel
theorem dX0_init_1 : decode cX0_init 1 = .ok (.invokespecial 1, 3) := by decide +kernel
theorem dX0_init_4 : decode cX0_init 4 = .ok (.aload_n 0, 1) := by decide +kernel
theorem dX0_init_5 : decode cX0_init 5 = .ok (.iload_n 1, 1) := by decide +kernel
theorem dX0_init_6 : decode cX0_init 6 = .ok (.putfield 7, 3) := by decide +kernel
theorem dX0_init_9 : decode cX0_init 9 = .ok (.aload_n 0, 1) := by decide +kernel
theorem dX0_init_10 : decode cX0_init 10 = .ok (.iload_n 2, 1) := by decide +kernel
theorem dX0_init_11 : decode cX0_init 11 = .ok (.putfield 13, 3) := by decide +kernel
theorem dX0_init_14 : decode cX0_init 14 = .ok (.aload_n 0, 1) := by decide +kernel
theorem dX0_init_15 : decode cX0_init 15 = .ok (.iload_n 3, 1) := by decide +kernel
theorem dX0_init_16 : decode cX0_init 16 = .ok (.putfield 16, 3) := by decide +kernel
theorem dX0_init_19 : decode cX0_init 19 = .ok (.aload_n 0, 1) := by decide +kernel
theorem dX0_init_20 : decode cX0_init 20 = .ok (.iload 4, 2) := by decide +kernel
theorem dX0_init_22 : decode cX0_init 22 = .ok (.putfield 19, 3) := by decide +kernel
theorem dX0_init_25 : decode cX0_init 25 = .ok (.return_, 1) := by decide +kernel
theorem dX2_putKey_0 : decode cX2_putKey 0 = .ok (.aload_n 0, 1) := by decide +kernel
theorem dX2_putKey_1 : decode cX2_putKey 1 = .ok (.aload_n 1, 1) := by decide +kernel
theorem dX2_putKey_2 : decode cX2_putKey 2 = .ok (.getfield 55, 3) := by decide +kernel
theorem dX2_putKey_5 : decode cX2_putKey 5 = .ok (.invokevirtual 58, 3) := by decide +kernel
theorem dX2_putKey_8 : decode cX2_putKey 8 = .ok (.istore_n 2, 1) := by decide +kernel
theorem dX2_putKey_9 : decode cX2_putKey 9 = .ok (.iload_n 2, 1) := by decide +kernel
theorem dX2_putKey_10 : decode cX2_putKey 10 = .ok (.aload_n 0, 1) := by decide +kernel
theorem dX2_putKey_11 : decode cX2_putKey 11 = .ok (.getfield 21, 3) := by decide +kernel
theorem dX2_putKey_14 : decode cX2_putKey 14 = .ok (.invokevirtual 45, 3) := by decide +kernel
theorem dX2_putKey_17 : decode cX2_putKey 17 = .ok (.if_icmp .ge 37, 3) := by decide +kernel
theorem dX2_putKey_20 : decode cX2_putKey 20 = .ok (.aload_n 0, 1) := by decide +kernel
theorem dX2_putKey_21 : decode cX2_putKey 21 = .ok (.getfield 21, 3) := by decide +kernel
theorem dX2_putKey_24 : decode cX2_putKey 24 = .ok (.iload_n 2, 1) := by decide +kernel
theorem dX2_putKey_25 : decode cX2_putKey 25 = .ok (.invokevirtual 49, 3) := by decide +kernel
theorem dX2_putKey_28 : decode cX2_putKey 28 = .ok (.checkcast 53, 3) := by decide +kernel
theorem dX2_putKey_31 : decode cX2_putKey 31 = .ok (.getfield 55, 3) := by decide +kernel
theorem dX2_putKey_34 : decode cX2_putKey 34 = .ok (.aload_n 1, 1) := by decide +kernel
theorem dX2_putKey_35 : decode cX2_putKey 35 = .ok (.getfield 55, 3) := by decide +kernel
theorem dX2_putKey_38 : decode cX2_putKey 38 = .ok (.if_icmp .ne 16, 3) := by decide +kernel
theorem dX2_putKey_41 : decode cX2_putKey 41 = .ok (.aload_n 0, 1) := by decide +kernel
theorem dX2_putKey_42 : decode cX2_putKey 42 = .ok (.getfield 21, 3) := by decide +kernel
theorem dX2_putKey_45 : decode cX2_putKey 45 = .ok (.iload_n 2, 1) := by decide +kernel
theorem dX2_putKey_46 : decode cX2_putKey 46 = .ok (.aload_n 1, 1) := by decide +kernel
theorem dX2_putKey_47 : decode cX2_putKey 47 = .ok (.invokevirtual 62, 3) := by decide +kernel
theorem dX2_putKey_50 : decode cX2_putKey 50 = .ok (.pop, 1) := by decide +kernel
theorem dX2_putKey_51 : decode cX2_putKey 51 = .ok (.goto 12, 3) := by decide +kernel
theorem dX2_putKey_54 : decode cX2_putKey 54 = .ok (.aload_n 0, 1) := by decide +kernel
theorem dX2_putKey_55 : decode cX2_putKey 55 = .ok (.getfield 21, 3) := by decide +kernel
theorem dX2_putKey_58 : decode cX2_putKey 58 = .ok (.iload_n 2, 1) := by decide +kernel
theorem dX2_putKey_59 : decode cX2_putKey 59 = .ok (.aload_n 1, 1) := by decide +kernel
theorem dX2_putKey_60 : decode cX2_putKey 60 = .ok (.invokevirtual 66, 3) := by decide +kernel
theorem dX2_putKey_63 : decode cX2_putKey 63 = .ok (.return_, 1) := by decide +kernel
theorem dX5_cutKey_0 : decode cX5_cutKey 0 = .ok (.aload_n 0, 1) := by decide +kernel
theorem dX5_cutKey_1 : decode cX5_cutKey 1 = .ok (.iload_n 1, 1) := by decide +kernel
theorem dX5_cutKey_2 : decode cX5_cutKey 2 = .ok (.invokevirtual 57, 3) := by decide +kernel
theorem dX5_cutKey_5 : decode cX5_cutKey 5 = .ok (.astore_n 3, 1) := by decide +kernel
theorem dX5_cutKey_6 : decode cX5_cutKey 6 = .ok (.aload_n 3, 1) := by decide +kernel
theorem dX5_cutKey_7 : decode cX5_cutKey 7 = .ok (.iload_n 2, 1) := by decide +kernel
theorem dX5_cutKey_8 : decode cX5_cutKey 8 = .ok (.invokevirtual 64, 3) := by decide +kernel
theorem dX5_cutKey_11 : decode cX5_cutKey 11 = .ok (.ifCond .ne 13, 3) := by decide +kernel
theorem dX5_cutKey_14 : decode cX5_cutKey 14 = .ok (.new 82, 3) := by decide +kernel
theorem dX5_cutKey_17 : decode cX5_cutKey 17 = .ok (.dup, 1) := by decide +kernel
theorem dX5_cutKey_18 : decode cX5_cutKey 18 = .ok (.ldc 84, 2) := by decide +kernel
theorem dX5_cutKey_20 : decode cX5_cutKey 20 = .ok (.invokespecial 86, 3) := by decide +kernel
theorem dX5_cutKey_23 : decode cX5_cutKey 23 = .ok (.athrow, 1) := by decide +kernel
theorem dX5_cutKey_24 : decode cX5_cutKey 24 = .ok (.aload_n 3, 1) := by decide +kernel
theorem dX5_cutKey_25 : decode cX5_cutKey 25 = .ok (.iload_n 2, 1) := by decide +kernel
theorem dX5_cutKey_26 : decode cX5_cutKey 26 = .ok (.invokevirtual 87, 3) := by decide +kernel
theorem dX5_cutKey_29 : decode cX5_cutKey 29 = .ok (.aload_n 3, 1) := by decide +kernel
theorem dX5_cutKey_30 : decode cX5_cutKey 30 = .ok (.getfield 68, 3) := by decide +kernel
theorem dX5_cutKey_33 : decode cX5_cutKey 33 = .ok (.invokevirtual 37, 3) := by decide +kernel
theorem dX5_cutKey_36 : decode cX5_cutKey 36 = .ok (.ireturn, 1) := by decide +kernel
theorem dX2_removeKeyAt_0 : decode cX2_removeKeyAt 0 = .ok (.aload_n 0, 1) := by decide +kernel
theorem dX2_removeKeyAt_1 : decode cX2_removeKeyAt 1 = .ok (.iload_n 1, 1) := by decide +kernel
theorem dX2_removeKeyAt_2 : decode cX2_removeKeyAt 2 = .ok (.invokevirtual 58, 3) := by decide +kernel
theorem dX2_removeKeyAt_5 : decode cX2_removeKeyAt 5 = .ok (.istore_n 2, 1) := by decide +kernel
theorem dX2_removeKeyAt_6 : decode cX2_removeKeyAt 6 = .ok (.iload_n 2, 1) := by decide +kernel
theorem dX2_removeKeyAt_7 : decode cX2_removeKeyAt 7 = .ok (.aload_n 0, 1) := by decide +kernel
theorem dX2_removeKeyAt_8 : decode cX2_removeKeyAt 8 = .ok (.getfield 21, 3) := by decide +kernel
theorem dX2_removeKeyAt_11 : decode cX2_removeKeyAt 11 = .ok (.invokevirtual 45, 3) := by decide +kernel
theorem dX2_removeKeyAt_14 : decode cX2_removeKeyAt 14 = .ok (.if_icmp .ge 30, 3) := by decide +kernel
theorem dX2_removeKeyAt_17 : decode cX2_removeKeyAt 17 = .ok (.aload_n 0, 1) := by decide +kernel
theorem dX2_removeKeyAt_18 : decode cX2_removeKeyAt 18 = .ok (.getfield 21, 3) := by decide +kernel
theorem dX2_removeKeyAt_21 : decode cX2_removeKeyAt 21 = .ok (.iload_n 2, 1) := by decide +kernel
theorem dX2_removeKeyAt_22 : decode cX2_removeKeyAt 22 = .ok (.invokevirtual 49, 3) := by decide +kernel
theorem dX2_removeKeyAt_25 : decode cX2_removeKeyAt 25 = .ok (.checkcast 53, 3) := by decide +kernel
theorem dX2_removeKeyAt_28 : decode cX2_removeKeyAt 28 = .ok (.getfield 55, 3) := by decide +kernel
theorem dX2_removeKeyAt_31 : decode cX2_removeKeyAt 31 = .ok (.iload_n 1, 1) := by decide +kernel
theorem dX2_removeKeyAt_32 : decode cX2_removeKeyAt 32 = .ok (.if_icmp .ne 12, 3) := by decide +kernel
theorem dX2_removeKeyAt_35 : decode cX2_removeKeyAt 35 = .ok (.aload_n 0, 1) := by decide +kernel
theorem dX2_removeKeyAt_36 : decode cX2_removeKeyAt 36 = .ok (.getfield 21, 3) := by decide +kernel
theorem dX2_removeKeyAt_39 : decode cX2_removeKeyAt 39 = .ok (.iload_n 2, 1) := by decide +kernel
theorem dX2_removeKeyAt_40 : decode cX2_removeKeyAt 40 = .ok (.invokevirtual 70, 3) := by decide +kernel
theorem dX2_removeKeyAt_43 : decode cX2_removeKeyAt 43 = .ok (.pop, 1) := by decide +kernel
theorem dX2_removeKeyAt_44 : decode cX2_removeKeyAt 44 = .ok (.return_, 1) := by decide +kernel
theorem dX5_hear_0 : decode cX5_hear 0 = .ok (.iload_n 1, 1) := by decide +kernel
theorem dX5_hear_1 : decode cX5_hear 1 = .ok (.ifCond .lt 12, 3) := by decide +kernel
theorem dX5_hear_4 : decode cX5_hear 4 = .ok (.iload_n 1, 1) := by decide +kernel
theorem dX5_hear_5 : decode cX5_hear 5 = .ok (.aload_n 0, 1) := by decide +kernel
theorem dX5_hear_6 : decode cX5_hear 6 = .ok (.getfield 19, 3) := by decide +kernel
theorem dX5_hear_9 : decode cX5_hear 9 = .ok (.arraylength, 1) := by decide +kernel
theorem dX5_hear_10 : decode cX5_hear 10 = .ok (.if_icmp .lt 13, 3) := by decide +kernel
theorem dX5_hear_13 : decode cX5_hear 13 = .ok (.new 91, 3) := by decide +kernel
theorem dX5_hear_16 : decode cX5_hear 16 = .ok (.dup, 1) := by decide +kernel
theorem dX5_hear_17 : decode cX5_hear 17 = .ok (.ldc 93, 2) := by decide +kernel
theorem dX5_hear_19 : decode cX5_hear 19 = .ok (.invokespecial 95, 3) := by decide +kernel
theorem dX5_hear_22 : decode cX5_hear 22 = .ok (.athrow, 1) := by decide +kernel
theorem dX5_hear_23 : decode cX5_hear 23 = .ok (.iload_n 2, 1) := by decide +kernel
theorem dX5_hear_24 : decode cX5_hear 24 = .ok (.iconst (-1), 1) := by decide +kernel
theorem dX5_hear_25 : decode cX5_hear 25 = .ok (.if_icmp .eq 11, 3) := by decide +kernel
theorem dX5_hear_28 : decode cX5_hear 28 = .ok (.iload_n 2, 1) := by decide +kernel
theorem dX5_hear_29 : decode cX5_hear 29 = .ok (.iconst 0, 1) := by decide +kernel
theorem dX5_hear_30 : decode cX5_hear 30 = .ok (.sipush 999, 3) := by decide +kernel
theorem dX5_hear_33 : decode cX5_hear 33 = .ok (.invokestatic 33, 3) := by decide +kernel
theorem dX5_hear_36 : decode cX5_hear 36 = .ok (.aload_n 0, 1) := by decide +kernel
theorem dX5_hear_37 : decode cX5_hear 37 = .ok (.getfield 19, 3) := by decide +kernel
theorem dX5_hear_40 : decode cX5_hear 40 = .ok (.iload_n 1, 1) := by decide +kernel
theorem dX5_hear_41 : decode cX5_hear 41 = .ok (.iaload, 1) := by decide +kernel
theorem dX5_hear_42 : decode cX5_hear 42 = .ok (.istore_n 3, 1) := by decide +kernel
theorem dX5_hear_43 : decode cX5_hear 43 = .ok (.aload_n 0, 1) := by decide +kernel
theorem dX5_hear_44 : decode cX5_hear 44 = .ok (.getfield 19, 3) := by decide +kernel
theorem dX5_hear_47 : decode cX5_hear 47 = .ok (.iload_n 1, 1) := by decide +kernel
theorem dX5_hear_48 : decode cX5_hear 48 = .ok (.iload_n 2, 1) := by decide +kernel
theorem dX5_hear_49 : decode cX5_hear 49 = .ok (.iastore, 1) := by decide +kernel
theorem dX5_hear_50 : decode cX5_hear 50 = .ok (.iload_n 3, 1) := by decide +kernel
theorem dX5_hear_51 : decode cX5_hear 51 = .ok (.ireturn, 1) := by decide +kernel
theorem dX5_cue_0 : decode cX5_cue 0 = .ok (.aload_n 0, 1) := by decide +kernel
theorem dX5_cue_1 : decode cX5_cue 1 = .ok (.iload_n 1, 1) := by decide +kernel
theorem dX5_cue_2 : decode cX5_cue 2 = .ok (.invokevirtual 57, 3) := by decide +kernel
theorem dX5_cue_5 : decode cX5_cue 5 = .ok (.astore_n 3, 1) := by decide +kernel
theorem dX5_cue_6 : decode cX5_cue 6 = .ok (.iload_n 2, 1) := by decide +kernel
theorem dX5_cue_7 : decode cX5_cue 7 = .ok (.iconst (-1), 1) := by decide +kernel
theorem dX5_cue_8 : decode cX5_cue 8 = .ok (.if_icmp .eq 23, 3) := by decide +kernel
theorem dX5_cue_11 : decode cX5_cue 11 = .ok (.iload_n 2, 1) := by decide +kernel
theorem dX5_cue_12 : decode cX5_cue 12 = .ok (.ifCond .lt 9, 3) := by decide +kernel
theorem dX5_cue_15 : decode cX5_cue 15 = .ok (.iload_n 2, 1) := by decide +kernel
theorem dX5_cue_16 : decode cX5_cue 16 = .ok (.bipush 10, 2) := by decide +kernel
theorem dX5_cue_18 : decode cX5_cue 18 = .ok (.if_icmp .lt 13, 3) := by decide +kernel
theorem dX5_cue_21 : decode cX5_cue 21 = .ok (.new 91, 3) := by decide +kernel
theorem dX5_cue_24 : decode cX5_cue 24 = .ok (.dup, 1) := by decide +kernel
theorem dX5_cue_25 : decode cX5_cue 25 = .ok (.ldc 93, 2) := by decide +kernel
theorem dX5_cue_27 : decode cX5_cue 27 = .ok (.invokespecial 95, 3) := by decide +kernel
theorem dX5_cue_30 : decode cX5_cue 30 = .ok (.athrow, 1) := by decide +kernel
theorem dX5_cue_31 : decode cX5_cue 31 = .ok (.aload_n 3, 1) := by decide +kernel
theorem dX5_cue_32 : decode cX5_cue 32 = .ok (.getfield 96, 3) := by decide +kernel
theorem dX5_cue_35 : decode cX5_cue 35 = .ok (.istore 4, 2) := by decide +kernel
theorem dX5_cue_37 : decode cX5_cue 37 = .ok (.aload_n 3, 1) := by decide +kernel
theorem dX5_cue_38 : decode cX5_cue 38 = .ok (.iload_n 2, 1) := by decide +kernel
theorem dX5_cue_39 : decode cX5_cue 39 = .ok (.putfield 96, 3) := by decide +kernel
theorem dX5_cue_42 : decode cX5_cue 42 = .ok (.iload 4, 2) := by decide +kernel
theorem dX5_cue_44 : decode cX5_cue 44 = .ok (.ireturn, 1) := by decide +kernel
theorem dX5_show_0 : decode cX5_show 0 = .ok (.iload_n 1, 1) := by decide +kernel
theorem dX5_show_1 : decode cX5_show 1 = .ok (.iconst 0, 1) := by decide +kernel
theorem dX5_show_2 : decode cX5_show 2 = .ok (.ldc 99, 2) := by decide +kernel
theorem dX5_show_4 : decode cX5_show 4 = .ok (.invokestatic 33, 3) := by decide +kernel
theorem dX5_show_7 : decode cX5_show 7 = .ok (.iload_n 2, 1) := by decide +kernel
theorem dX5_show_8 : decode cX5_show 8 = .ok (.iconst 1, 1) := by decide +kernel
theorem dX5_show_9 : decode cX5_show 9 = .ok (.sipush 600, 3) := by decide +kernel
theorem dX5_show_12 : decode cX5_show 12 = .ok (.invokestatic 33, 3) := by decide +kernel
theorem dX5_show_15 : decode cX5_show 15 = .ok (.aload_n 0, 1) := by decide +kernel
theorem dX5_show_16 : decode cX5_show 16 = .ok (.getfield 16, 3) := by decide +kernel
theorem dX5_show_19 : decode cX5_show 19 = .ok (.invokevirtual 37, 3) := by decide +kernel
theorem dX5_show_22 : decode cX5_show 22 = .ok (.bipush 6, 2) := by decide +kernel
theorem dX5_show_24 : decode cX5_show 24 = .ok (.if_icmp .lt 13, 3) := by decide +kernel
theorem dX5_show_27 : decode cX5_show 27 = .ok (.new 41, 3) := by decide +kernel
theorem dX5_show_30 : decode cX5_show 30 = .ok (.dup, 1) := by decide +kernel
theorem dX5_show_31 : decode cX5_show 31 = .ok (.ldc 100, 2) := by decide +kernel
theorem dX5_show_33 : decode cX5_show 33 = .ok (.invokespecial 45, 3) := by decide +kernel
theorem dX5_show_36 : decode cX5_show 36 = .ok (.athrow, 1) := by decide +kernel
theorem dX5_show_37 : decode cX5_show 37 = .ok (.aload_n 0, 1) := by decide +kernel
theorem dX5_show_38 : decode cX5_show 38 = .ok (.getfield 16, 3) := by decide +kernel
theorem dX5_show_41 : decode cX5_show 41 = .ok (.new 102, 3) := by decide +kernel
theorem dX5_show_44 : decode cX5_show 44 = .ok (.dup, 1) := by decide +kernel
theorem dX5_show_45 : decode cX5_show 45 = .ok (.new 104, 3) := by decide +kernel
theorem dX5_show_48 : decode cX5_show 48 = .ok (.dup, 1) := by decide +kernel
theorem dX5_show_49 : decode cX5_show 49 = .ok (.iload_n 1, 1) := by decide +kernel
theorem dX5_show_50 : decode cX5_show 50 = .ok (.iload_n 2, 1) := by decide +kernel
theorem dX5_show_51 : decode cX5_show 51 = .ok (.invokespecial 106, 3) := by decide +kernel
theorem dX5_show_54 : decode cX5_show 54 = .ok (.invokespecial 107, 3) := by decide +kernel
theorem dX5_show_57 : decode cX5_show 57 = .ok (.invokevirtual 53, 3) := by decide +kernel
theorem dX5_show_60 : decode cX5_show 60 = .ok (.pop, 1) := by decide +kernel
theorem dX5_show_61 : decode cX5_show 61 = .ok (.aload_n 0, 1) := by decide +kernel
theorem dX5_show_62 : decode cX5_show 62 = .ok (.getfield 16, 3) := by decide +kernel
theorem dX5_show_65 : decode cX5_show 65 = .ok (.invokevirtual 37, 3) := by decide +kernel
theorem dX5_show_68 : decode cX5_show 68 = .ok (.iconst 1, 1) := by decide +kernel
theorem dX5_show_69 : decode cX5_show 69 = .ok (.isub, 1) := by decide +kernel
theorem dX5_show_70 : decode cX5_show 70 = .ok (.ireturn, 1) := by decide +kernel
theorem dX4_init_0 : decode cX4_init 0 = .ok (.aload_n 0, 1) := by decide +kernel
theorem dX4_init_1 : decode cX4_init 1 = .ok (.invokespecial 1, 3) := by decide +kernel
theorem dX4_init_4 : decode cX4_init 4 = .ok (.aload_n 0, 1) := by decide +kernel
theorem dX4_init_5 : decode cX4_init 5 = .ok (.iload_n 1, 1) := by decide +kernel
theorem dX4_init_6 : decode cX4_init 6 = .ok (.putfield 7, 3) := by decide +kernel
theorem dX4_init_9 : decode cX4_init 9 = .ok (.aload_n 0, 1) := by decide +kernel
theorem dX4_init_10 : decode cX4_init 10 = .ok (.iload_n 2, 1) := by decide +kernel
theorem dX4_init_11 : decode cX4_init 11 = .ok (.putfield 13, 3) := by decide +kernel
theorem dX4_init_14 : decode cX4_init 14 = .ok (.return_, 1) := by decide +kernel
theorem dX3_init_0 : decode cX3_init 0 = .ok (.aload_n 0, 1) := by decide +kernel
theorem dX3_init_1 : decode cX3_init 1 = .ok (.invokespecial 3, 3) := by decide +kernel
theorem dX3_init_4 : decode cX3_init 4 = .ok (.aload_n 0, 1) := by decide +kernel
theorem dX3_init_5 : decode cX3_init 5 = .ok (.aload_n 1, 1) := by decide +kernel
theorem dX3_init_6 : decode cX3_init 6 = .ok (.putfield 9, 3) := by decide +kernel
theorem dX3_init_9 : decode cX3_init 9 = .ok (.aload_n 0, 1) := by decide +kernel
theorem dX3_init_10 : decode cX3_init 10 = .ok (.bipush 8, 2) := by decide +kernel
theorem dX3_init_12 : decode cX3_init 12 = .ok (.newarray .boolean, 2) := by decide +kernel
theorem dX3_init_14 : decode cX3_init 14 = .ok (.putfield 15, 3) := by decide +kernel
theorem dX3_init_17 : decode cX3_init 17 = .ok (.aload_n 0, 1) := by decide +kernel
theorem dX3_init_18 : decode cX3_init 18 = .ok (.iconst 0, 1) := by decide +kernel
theorem dX3_init_19 : decode cX3_init 19 = .ok (.putfield 19, 3) := by decide +kernel
theorem dX3_init_22 : decode cX3_init 22 = .ok (.aload_n 0, 1) := by decide +kernel
theorem dX3_init_23 : decode cX3_init 23 = .ok (.bipush 50, 2) := by decide +kernel
theorem dX3_init_25 : decode cX3_init 25 = .ok (.putfield 23, 3) := by decide +kernel
theorem dX3_init_28 : decode cX3_init 28 = .ok (.aload_n 0, 1) := by decide +kernel
theorem dX3_init_29 : decode cX3_init 29 = .ok (.iconst 0, 1) := by decide +kernel
theorem dX3_init_30 : decode cX3_init 30 = .ok (.putfield 26, 3) := by decide +kernel
theorem dX3_init_33 : decode cX3_init 33 = .ok (.aload_n 0, 1) := by decide +kernel
theorem dX3_init_34 : decode cX3_init 34 = .ok (.iconst 0, 1) := by decide +kernel
theorem dX3_init_35 : decode cX3_init 35 = .ok (.putfield 29, 3) := by decide +kernel
theorem dX3_init_38 : decode cX3_init 38 = .ok (.return_, 1) := by decide +kernel
theorem dX5_cast_0 : decode cX5_cast 0 = .ok (.aload_n 0, 1) := by decide +kernel
theorem dX5_cast_1 : decode cX5_cast 1 = .ok (.iload_n 1, 1) := by decide +kernel
theorem dX5_cast_2 : decode cX5_cast 2 = .ok (.invokevirtual 110, 3) := by decide +kernel
theorem dX5_cast_5 : decode cX5_cast 5 = .ok (.astore_n 3, 1) := by decide +kernel
theorem dX5_cast_6 : decode cX5_cast 6 = .ok (.aload_n 0, 1) := by decide +kernel
theorem dX5_cast_7 : decode cX5_cast 7 = .ok (.iload_n 2, 1) := by decide +kernel
theorem dX5_cast_8 : decode cX5_cast 8 = .ok (.invokevirtual 57, 3) := by decide +kernel
theorem dX5_cast_11 : decode cX5_cast 11 = .ok (.astore 4, 2) := by decide +kernel
theorem dX5_cast_13 : decode cX5_cast 13 = .ok (.aload_n 3, 1) := by decide +kernel
theorem dX5_cast_14 : decode cX5_cast 14 = .ok (.getfield 114, 3) := by decide +kernel
theorem dX5_cast_17 : decode cX5_cast 17 = .ok (.ifCond .ne 11, 3) := by decide +kernel
theorem dX5_cast_20 : decode cX5_cast 20 = .ok (.aload_n 3, 1) := by decide +kernel
theorem dX5_cast_21 : decode cX5_cast 21 = .ok (.iload_n 2, 1) := by decide +kernel
theorem dX5_cast_22 : decode cX5_cast 22 = .ok (.invokevirtual 118, 3) := by decide +kernel
theorem dX5_cast_25 : decode cX5_cast 25 = .ok (.ifCond .eq 13, 3) := by decide +kernel
theorem dX5_cast_28 : decode cX5_cast 28 = .ok (.new 41, 3) := by decide +kernel
theorem dX5_cast_31 : decode cX5_cast 31 = .ok (.dup, 1) := by decide +kernel
theorem dX5_cast_32 : decode cX5_cast 32 = .ok (.ldc 121, 2) := by decide +kernel
theorem dX5_cast_34 : decode cX5_cast 34 = .ok (.invokespecial 45, 3) := by decide +kernel
theorem dX5_cast_37 : decode cX5_cast 37 = .ok (.athrow, 1) := by decide +kernel
theorem dX5_cast_38 : decode cX5_cast 38 = .ok (.aload 4, 2) := by decide +kernel
theorem dX5_cast_40 : decode cX5_cast 40 = .ok (.getfield 123, 3) := by decide +kernel
theorem dX5_cast_43 : decode cX5_cast 43 = .ok (.bipush 50, 2) := by decide +kernel
theorem dX5_cast_45 : decode cX5_cast 45 = .ok (.if_icmp .ge 17, 3) := by decide +kernel
theorem dX5_cast_48 : decode cX5_cast 48 = .ok (.aload_n 0, 1) := by decide +kernel
theorem dX5_cast_49 : decode cX5_cast 49 = .ok (.aload 4, 2) := by decide +kernel
theorem dX5_cast_51 : decode cX5_cast 51 = .ok (.iload_n 2, 1) := by decide +kernel
theorem dX5_cast_52 : decode cX5_cast 52 = .ok (.aload_n 3, 1) := by decide +kernel
theorem dX5_cast_53 : decode cX5_cast 53 = .ok (.getfield 126, 3) := by decide +kernel
theorem dX5_cast_56 : decode cX5_cast 56 = .ok (.invokevirtual 130, 3) := by decide +kernel
theorem dX5_cast_59 : decode cX5_cast 59 = .ok (.ifCond .eq 13, 3) := by decide +kernel
theorem dX5_cast_62 : decode cX5_cast 62 = .ok (.new 41, 3) := by decide +kernel
theorem dX5_cast_65 : decode cX5_cast 65 = .ok (.dup, 1) := by decide +kernel
theorem dX5_cast_66 : decode cX5_cast 66 = .ok (.ldc 134, 2) := by decide +kernel
theorem dX5_cast_68 : decode cX5_cast 68 = .ok (.invokespecial 45, 3) := by decide +kernel
theorem dX5_cast_71 : decode cX5_cast 71 = .ok (.athrow, 1) := by decide +kernel
theorem dX5_cast_72 : decode cX5_cast 72 = .ok (.aload_n 3, 1) := by decide +kernel
theorem dX5_cast_73 : decode cX5_cast 73 = .ok (.iload_n 2, 1) := by decide +kernel
theorem dX5_cast_74 : decode cX5_cast 74 = .ok (.invokevirtual 136, 3) := by decide +kernel
theorem dX5_cast_77 : decode cX5_cast 77 = .ok (.aload_n 3, 1) := by decide +kernel
theorem dX5_cast_78 : decode cX5_cast 78 = .ok (.getfield 139, 3) := by decide +kernel
theorem dX5_cast_81 : decode cX5_cast 81 = .ok (.ireturn, 1) := by decide +kernel
theorem dX5_showNumbered_0 : decode cX5_showNumbered 0 = .ok (.iload_n 1, 1) := by decide +kernel
theorem dX5_showNumbered_1 : decode cX5_showNumbered 1 = .ok (.ifCond .lt 14, 3) := by decide +kernel
theorem dX5_showNumbered_4 : decode cX5_showNumbered 4 = .ok (.iload_n 1, 1) := by decide +kernel
theorem dX5_showNumbered_5 : decode cX5_showNumbered 5 = .ok (.aload_n 0, 1) := by decide +kernel
theorem dX5_showNumbered_6 : decode cX5_showNumbered 6 = .ok (.getfield 16, 3) := by decide +kernel
theorem dX5_showNumbered_9 : decode cX5_showNumbered 9 = .ok (.invokevirtual 37, 3) := by decide +kernel
theorem dX5_showNumbered_12 : decode cX5_showNumbered 12 = .ok (.if_icmp .lt 13, 3) := by decide +kernel
theorem dX5_showNumbered_15 : decode cX5_showNumbered 15 = .ok (.new 91, 3) := by decide +kernel
theorem dX5_showNumbered_18 : decode cX5_showNumbered 18 = .ok (.dup, 1) := by decide +kernel
theorem dX5_showNumbered_19 : decode cX5_showNumbered 19 = .ok (.ldc 217, 2) := by decide +kernel
theorem dX5_showNumbered_21 : decode cX5_showNumbered 21 = .ok (.invokespecial 95, 3) := by decide +kernel
theorem dX5_showNumbered_24 : decode cX5_showNumbered 24 = .ok (.athrow, 1) := by decide +kernel
theorem dX5_showNumbered_25 : decode cX5_showNumbered 25 = .ok (.aload_n 0, 1) := by decide +kernel
theorem dX5_showNumbered_26 : decode cX5_showNumbered 26 = .ok (.getfield 16, 3) := by decide +kernel
theorem dX5_showNumbered_29 : decode cX5_showNumbered 29 = .ok (.iload_n 1, 1) := by decide +kernel
theorem dX5_showNumbered_30 : decode cX5_showNumbered 30 = .ok (.invokevirtual 157, 3) := by decide +kernel
theorem dX5_showNumbered_33 : decode cX5_showNumbered 33 = .ok (.checkcast 102, 3) := by decide +kernel
theorem dX5_showNumbered_36 : decode cX5_showNumbered 36 = .ok (.areturn, 1) := by decide +kernel
theorem dX3_hasPuppet_0 : decode cX3_hasPuppet 0 = .ok (.iload_n 1, 1) := by decide +kernel
theorem dX3_hasPuppet_1 : decode cX3_hasPuppet 1 = .ok (.ifCond .lt 25, 3) := by decide +kernel
theorem dX3_hasPuppet_4 : decode cX3_hasPuppet 4 = .ok (.iload_n 1, 1) := by decide +kernel
theorem dX3_hasPuppet_5 : decode cX3_hasPuppet 5 = .ok (.aload_n 0, 1) := by decide +kernel
theorem dX3_hasPuppet_6 : decode cX3_hasPuppet 6 = .ok (.getfield 15, 3) := by decide +kernel
theorem dX3_hasPuppet_9 : decode cX3_hasPuppet 9 = .ok (.arraylength, 1) := by decide +kernel
theorem dX3_hasPuppet_10 : decode cX3_hasPuppet 10 = .ok (.if_icmp .ge 16, 3) := by decide +kernel
theorem dX3_hasPuppet_13 : decode cX3_hasPuppet 13 = .ok (.aload_n 0, 1) := by decide +kernel
theorem dX3_hasPuppet_14 : decode cX3_hasPuppet 14 = .ok (.getfield 15, 3) := by decide +kernel
theorem dX3_hasPuppet_17 : decode cX3_hasPuppet 17 = .ok (.iload_n 1, 1) := by decide +kernel
theorem dX3_hasPuppet_18 : decode cX3_hasPuppet 18 = .ok (.baload, 1) := by decide +kernel
theorem dX3_hasPuppet_19 : decode cX3_hasPuppet 19 = .ok (.ifCond .eq 7, 3) := by decide +kernel
theorem dX3_hasPuppet_22 : decode cX3_hasPuppet 22 = .ok (.iconst 1, 1) := by decide +kernel
theorem dX3_hasPuppet_23 : decode cX3_hasPuppet 23 = .ok (.goto 4, 3) := by decide +kernel
theorem dX3_hasPuppet_26 : decode cX3_hasPuppet 26 = .ok (.iconst 0, 1) := by decide +kernel
theorem dX3_hasPuppet_27 : decode cX3_hasPuppet 27 = .ok (.ireturn, 1) := by decide +kernel
theorem dX5_isTaken_0 : decode cX5_isTaken 0 = .ok (.iconst 0, 1) := by decide +kernel
theorem dX5_isTaken_1 : decode cX5_isTaken 1 = .ok (.istore 4, 2) := by decide +kernel
theorem dX5_isTaken_3 : decode cX5_isTaken 3 = .ok (.iload 4, 2) := by decide +kernel
theorem dX5_isTaken_5 : decode cX5_isTaken 5 = .ok (.aload_n 0, 1) := by decide +kernel
theorem dX5_isTaken_6 : decode cX5_isTaken 6 = .ok (.getfield 16, 3) := by decide +kernel
theorem dX5_isTaken_9 : decode cX5_isTaken 9 = .ok (.invokevirtual 37, 3) := by decide +kernel
theorem dX5_isTaken_12 : decode cX5_isTaken 12 = .ok (.if_icmp .ge 46, 3) := by decide +kernel
theorem dX5_isTaken_15 : decode cX5_isTaken 15 = .ok (.aload_n 0, 1) := by decide +kernel
theorem dX5_isTaken_16 : decode cX5_isTaken 16 = .ok (.getfield 16, 3) := by decide +kernel
theorem dX5_isTaken_19 : decode cX5_isTaken 19 = .ok (.iload 4, 2) := by decide +kernel
theorem dX5_isTaken_21 : decode cX5_isTaken 21 = .ok (.invokevirtual 157, 3) := by decide +kernel
theorem dX5_isTaken_24 : decode cX5_isTaken 24 = .ok (.checkcast 102, 3) := by decide +kernel
theorem dX5_isTaken_27 : decode cX5_isTaken 27 = .ok (.astore 5, 2) := by decide +kernel
theorem dX5_isTaken_29 : decode cX5_isTaken 29 = .ok (.aload 5, 2) := by decide +kernel
theorem dX5_isTaken_31 : decode cX5_isTaken 31 = .ok (.iload_n 2, 1) := by decide +kernel
theorem dX5_isTaken_32 : decode cX5_isTaken 32 = .ok (.invokevirtual 118, 3) := by decide +kernel
theorem dX5_isTaken_35 : decode cX5_isTaken 35 = .ok (.ifCond .eq 17, 3) := by decide +kernel
theorem dX5_isTaken_38 : decode cX5_isTaken 38 = .ok (.aload 5, 2) := by decide +kernel
theorem dX5_isTaken_40 : decode cX5_isTaken 40 = .ok (.getfield 126, 3) := by decide +kernel
theorem dX5_isTaken_43 : decode cX5_isTaken 43 = .ok (.aload_n 3, 1) := by decide +kernel
theorem dX5_isTaken_44 : decode cX5_isTaken 44 = .ok (.invokevirtual 221, 3) := by decide +kernel
theorem dX5_isTaken_47 : decode cX5_isTaken 47 = .ok (.ifCond .eq 5, 3) := by decide +kernel
theorem dX5_isTaken_50 : decode cX5_isTaken 50 = .ok (.iconst 1, 1) := by decide +kernel
theorem dX5_isTaken_51 : decode cX5_isTaken 51 = .ok (.ireturn, 1) := by decide +kernel
theorem dX5_isTaken_52 : decode cX5_isTaken 52 = .ok (.iinc 4 1, 3) := by decide +kernel
theorem dX5_isTaken_55 : decode cX5_isTaken 55 = .ok (.goto (-52), 3) := by decide +kernel
theorem dX5_isTaken_58 : decode cX5_isTaken 58 = .ok (.aload_n 1, 1) := by decide +kernel
theorem dX5_isTaken_59 : decode cX5_isTaken 59 = .ok (.aload_n 3, 1) := by decide +kernel
theorem dX5_isTaken_60 : decode cX5_isTaken 60 = .ok (.invokevirtual 225, 3) := by decide +kernel
theorem dX5_isTaken_63 : decode cX5_isTaken 63 = .ok (.ireturn, 1) := by decide +kernel
theorem dX4_meets_0 : decode cX4_meets 0 = .ok (.aload_n 0, 1) := by decide +kernel
theorem dX4_meets_1 : decode cX4_meets 1 = .ok (.getfield 7, 3) := by decide +kernel
theorem dX4_meets_4 : decode cX4_meets 4 = .ok (.aload_n 1, 1) := by decide +kernel
theorem dX4_meets_5 : decode cX4_meets 5 = .ok (.getfield 7, 3) := by decide +kernel
theorem dX4_meets_8 : decode cX4_meets 8 = .ok (.aload_n 1, 1) := by decide +kernel
theorem dX4_meets_9 : decode cX4_meets 9 = .ok (.getfield 13, 3) := by decide +kernel
theorem dX4_meets_12 : decode cX4_meets 12 = .ok (.iadd, 1) := by decide +kernel
theorem dX4_meets_13 : decode cX4_meets 13 = .ok (.if_icmp .ge 23, 3) := by decide +kernel
theorem dX4_meets_16 : decode cX4_meets 16 = .ok (.aload_n 1, 1) := by decide +kernel
theorem dX4_meets_17 : decode cX4_meets 17 = .ok (.getfield 7, 3) := by decide +kernel
theorem dX4_meets_20 : decode cX4_meets 20 = .ok (.aload_n 0, 1) := by decide +kernel
theorem dX4_meets_21 : decode cX4_meets 21 = .ok (.getfield 7, 3) := by decide +kernel
theorem dX4_meets_24 : decode cX4_meets 24 = .ok (.aload_n 0, 1) := by decide +kernel
theorem dX4_meets_25 : decode cX4_meets 25 = .ok (.getfield 13, 3) := by decide +kernel
theorem dX4_meets_28 : decode cX4_meets 28 = .ok (.iadd, 1) := by decide +kernel
theorem dX4_meets_29 : decode cX4_meets 29 = .ok (.if_icmp .ge 7, 3) := by decide +kernel
theorem dX4_meets_32 : decode cX4_meets 32 = .ok (.iconst 1, 1) := by decide +kernel
theorem dX4_meets_33 : decode cX4_meets 33 = .ok (.goto 4, 3) := by decide +kernel
theorem dX4_meets_36 : decode cX4_meets 36 = .ok (.iconst 0, 1) := by decide +kernel
theorem dX4_meets_37 : decode cX4_meets 37 = .ok (.ireturn, 1) := by decide +kernel
theorem dX2_isMendedDuring_0 : decode cX2_isMendedDuring 0 = .ok (.iconst 0, 1) := by decide +kernel
theorem dX2_isMendedDuring_1 : decode cX2_isMendedDuring 1 = .ok (.istore_n 2, 1) := by decide +kernel
theorem dX2_isMendedDuring_2 : decode cX2_isMendedDuring 2 = .ok (.iload_n 2, 1) := by decide +kernel
theorem dX2_isMendedDuring_3 : decode cX2_isMendedDuring 3 = .ok (.aload_n 0, 1) := by decide +kernel
theorem dX2_isMendedDuring_4 : decode cX2_isMendedDuring 4 = .ok (.getfield 31, 3) := by decide +kernel
theorem dX2_isMendedDuring_7 : decode cX2_isMendedDuring 7 = .ok (.invokevirtual 45, 3) := by decide +kernel
theorem dX2_isMendedDuring_10 : decode cX2_isMendedDuring 10 = .ok (.if_icmp .ge 29, 3) := by decide +kernel
theorem dX2_isMendedDuring_13 : decode cX2_isMendedDuring 13 = .ok (.aload_n 0, 1) := by decide +kernel
theorem dX2_isMendedDuring_14 : decode cX2_isMendedDuring 14 = .ok (.getfield 31, 3) := by decide +kernel
theorem dX2_isMendedDuring_17 : decode cX2_isMendedDuring 17 = .ok (.iload_n 2, 1) := by decide +kernel
theorem dX2_isMendedDuring_18 : decode cX2_isMendedDuring 18 = .ok (.invokevirtual 49, 3) := by decide +kernel
theorem dX2_isMendedDuring_21 : decode cX2_isMendedDuring 21 = .ok (.checkcast 113, 3) := by decide +kernel
theorem dX2_isMendedDuring_24 : decode cX2_isMendedDuring 24 = .ok (.aload_n 1, 1) := by decide +kernel
theorem dX2_isMendedDuring_25 : decode cX2_isMendedDuring 25 = .ok (.invokevirtual 115, 3) := by decide +kernel
theorem dX2_isMendedDuring_28 : decode cX2_isMendedDuring 28 = .ok (.ifCond .eq 5, 3) := by decide +kernel
theorem dX2_isMendedDuring_31 : decode cX2_isMendedDuring 31 = .ok (.iconst 1, 1) := by decide +kernel
theorem dX2_isMendedDuring_32 : decode cX2_isMendedDuring 32 = .ok (.ireturn, 1) := by decide +kernel
theorem dX2_isMendedDuring_33 : decode cX2_isMendedDuring 33 = .ok (.iinc 2 1, 3) := by decide +kernel
theorem dX2_isMendedDuring_36 : decode cX2_isMendedDuring 36 = .ok (.goto (-34), 3) := by decide +kernel
theorem dX2_isMendedDuring_39 : decode cX2_isMendedDuring 39 = .ok (.iconst 0, 1) := by decide +kernel
theorem dX2_isMendedDuring_40 : decode cX2_isMendedDuring 40 = .ok (.ireturn, 1) := by decide +kernel
theorem dX3_take_0 : decode cX3_take 0 = .ok (.iload_n 1, 1) := by decide +kernel
theorem dX3_take_1 : decode cX3_take 1 = .ok (.ifCond .lt 38, 3) := by decide +kernel
theorem dX3_take_4 : decode cX3_take 4 = .ok (.iload_n 1, 1) := by decide +kernel
theorem dX3_take_5 : decode cX3_take 5 = .ok (.aload_n 0, 1) := by decide +kernel
theorem dX3_take_6 : decode cX3_take 6 = .ok (.getfield 15, 3) := by decide +kernel
theorem dX3_take_9 : decode cX3_take 9 = .ok (.arraylength, 1) := by decide +kernel
theorem dX3_take_10 : decode cX3_take 10 = .ok (.if_icmp .ge 29, 3) := by decide +kernel
theorem dX3_take_13 : decode cX3_take 13 = .ok (.aload_n 0, 1) := by decide +kernel
theorem dX3_take_14 : decode cX3_take 14 = .ok (.getfield 15, 3) := by decide +kernel
theorem dX3_take_17 : decode cX3_take 17 = .ok (.iload_n 1, 1) := by decide +kernel
theorem dX3_take_18 : decode cX3_take 18 = .ok (.baload, 1) := by decide +kernel
theorem dX3_take_19 : decode cX3_take 19 = .ok (.ifCond .ne 20, 3) := by decide +kernel
theorem dX3_take_22 : decode cX3_take 22 = .ok (.aload_n 0, 1) := by decide +kernel
theorem dX3_take_23 : decode cX3_take 23 = .ok (.getfield 15, 3) := by decide +kernel
theorem dX3_take_26 : decode cX3_take 26 = .ok (.iload_n 1, 1) := by decide +kernel
theorem dX3_take_27 : decode cX3_take 27 = .ok (.iconst 1, 1) := by decide +kernel
theorem dX3_take_28 : decode cX3_take 28 = .ok (.bastore, 1) := by decide +kernel
theorem dX3_take_29 : decode cX3_take 29 = .ok (.aload_n 0, 1) := by decide +kernel
theorem dX3_take_30 : decode cX3_take 30 = .ok (.dup, 1) := by decide +kernel
theorem dX3_take_31 : decode cX3_take 31 = .ok (.getfield 19, 3) := by decide +kernel
theorem dX3_take_34 : decode cX3_take 34 = .ok (.iconst 1, 1) := by decide +kernel
theorem dX3_take_35 : decode cX3_take 35 = .ok (.iadd, 1) := by decide +kernel
theorem dX3_take_36 : decode cX3_take 36 = .ok (.putfield 19, 3) := by decide +kernel
theorem dX3_take_39 : decode cX3_take 39 = .ok (.return_, 1) := by decide +kernel
theorem dX5_leave_0 : decode cX5_leave 0 = .ok (.aload_n 0, 1) := by decide +kernel
theorem dX5_leave_1 : decode cX5_leave 1 = .ok (.iload_n 1, 1) := by decide +kernel
theorem dX5_leave_2 : decode cX5_leave 2 = .ok (.invokevirtual 110, 3) := by decide +kernel
theorem dX5_leave_5 : decode cX5_leave 5 = .ok (.astore_n 3, 1) := by decide +kernel
theorem dX5_leave_6 : decode cX5_leave 6 = .ok (.aload_n 0, 1) := by decide +kernel
theorem dX5_leave_7 : decode cX5_leave 7 = .ok (.iload_n 2, 1) := by decide +kernel
theorem dX5_leave_8 : decode cX5_leave 8 = .ok (.invokevirtual 57, 3) := by decide +kernel
theorem dX5_leave_11 : decode cX5_leave 11 = .ok (.pop, 1) := by decide +kernel
theorem dX5_leave_12 : decode cX5_leave 12 = .ok (.aload_n 3, 1) := by decide +kernel
theorem dX5_leave_13 : decode cX5_leave 13 = .ok (.getfield 114, 3) := by decide +kernel
theorem dX5_leave_16 : decode cX5_leave 16 = .ok (.ifCond .ne 11, 3) := by decide +kernel
theorem dX5_leave_19 : decode cX5_leave 19 = .ok (.aload_n 3, 1) := by decide +kernel
theorem dX5_leave_20 : decode cX5_leave 20 = .ok (.iload_n 2, 1) := by decide +kernel
theorem dX5_leave_21 : decode cX5_leave 21 = .ok (.invokevirtual 118, 3) := by decide +kernel
theorem dX5_leave_24 : decode cX5_leave 24 = .ok (.ifCond .ne 13, 3) := by decide +kernel
theorem dX5_leave_27 : decode cX5_leave 27 = .ok (.new 41, 3) := by decide +kernel
theorem dX5_leave_30 : decode cX5_leave 30 = .ok (.dup, 1) := by decide +kernel
theorem dX5_leave_31 : decode cX5_leave 31 = .ok (.ldc 142, 2) := by decide +kernel
theorem dX5_leave_33 : decode cX5_leave 33 = .ok (.invokespecial 45, 3) := by decide +kernel
theorem dX5_leave_36 : decode cX5_leave 36 = .ok (.athrow, 1) := by decide +kernel
theorem dX5_leave_37 : decode cX5_leave 37 = .ok (.aload_n 3, 1) := by decide +kernel
theorem dX5_leave_38 : decode cX5_leave 38 = .ok (.iload_n 2, 1) := by decide +kernel
theorem dX5_leave_39 : decode cX5_leave 39 = .ok (.invokevirtual 144, 3) := by decide +kernel
theorem dX5_leave_42 : decode cX5_leave 42 = .ok (.aload_n 3, 1) := by decide +kernel
theorem dX5_leave_43 : decode cX5_leave 43 = .ok (.getfield 139, 3) := by decide +kernel
theorem dX5_leave_46 : decode cX5_leave 46 = .ok (.ireturn, 1) := by decide +kernel
theorem dX3_release_0 : decode cX3_release 0 = .ok (.iload_n 1, 1) := by decide +kernel
theorem dX3_release_1 : decode cX3_release 1 = .ok (.ifCond .lt 38, 3) := by decide +kernel
theorem dX3_release_4 : decode cX3_release 4 = .ok (.iload_n 1, 1) := by decide +kernel
theorem dX3_release_5 : decode cX3_release 5 = .ok (.aload_n 0, 1) := by decide +kernel
theorem dX3_release_6 : decode cX3_release 6 = .ok (.getfield 15, 3) := by decide +kernel
theorem dX3_release_9 : decode cX3_release 9 = .ok (.arraylength, 1) := by decide +kernel
theorem dX3_release_10 : decode cX3_release 10 = .ok (.if_icmp .ge 29, 3) := by decide +kernel
theorem dX3_release_13 : decode cX3_release 13 = .ok (.aload_n 0, 1) := by decide +kernel
theorem dX3_release_14 : decode cX3_release 14 = .ok (.getfield 15, 3) := by decide +kernel
theorem dX3_release_17 : decode cX3_release 17 = .ok (.iload_n 1, 1) := by decide +kernel
theorem dX3_release_18 : decode cX3_release 18 = .ok (.baload, 1) := by decide +kernel
theorem dX3_release_19 : decode cX3_release 19 = .ok (.ifCond .eq 20, 3) := by decide +kernel
theorem dX3_release_22 : decode cX3_release 22 = .ok (.aload_n 0, 1) := by decide +kernel
theorem dX3_release_23 : decode cX3_release 23 = .ok (.getfield 15, 3) := by decide +kernel
theorem dX3_release_26 : decode cX3_release 26 = .ok (.iload_n 1, 1) := by decide +kernel
theorem dX3_release_27 : decode cX3_release 27 = .ok (.iconst 0, 1) := by decide +kernel
theorem dX3_release_28 : decode cX3_release 28 = .ok (.bastore, 1) := by decide +kernel
theorem dX3_release_29 : decode cX3_release 29 = .ok (.aload_n 0, 1) := by decide +kernel
theorem dX3_release_30 : decode cX3_release 30 = .ok (.dup, 1) := by decide +kernel
theorem dX3_release_31 : decode cX3_release 31 = .ok (.getfield 19, 3) := by decide +kernel
theorem dX3_release_34 : decode cX3_release 34 = .ok (.iconst 1, 1) := by decide +kernel
theorem dX3_release_35 : decode cX3_release 35 = .ok (.isub, 1) := by decide +kernel
theorem dX3_release_36 : decode cX3_release 36 = .ok (.putfield 19, 3) := by decide +kernel
theorem dX3_release_39 : decode cX3_release 39 = .ok (.return_, 1) := by decide +kernel
theorem dX5_sell_0 : decode cX5_sell 0 = .ok (.aload_n 0, 1) := by decide +kernel
theorem dX5_sell_1 : decode cX5_sell 1 = .ok (.iload_n 1, 1) := by decide +kernel
theorem dX5_sell_2 : decode cX5_sell 2 = .ok (.invokevirtual 110, 3) := by decide +kernel
theorem dX5_sell_5 : decode cX5_sell 5 = .ok (.astore 4, 2) := by decide +kernel
theorem dX5_sell_7 : decode cX5_sell 7 = .ok (.iload_n 2, 1) := by decide +kernel
theorem dX5_sell_8 : decode cX5_sell 8 = .ok (.iconst 1, 1) := by decide +kernel
theorem dX5_sell_9 : decode cX5_sell 9 = .ok (.bipush 50, 2) := by decide +kernel
theorem dX5_sell_11 : decode cX5_sell 11 = .ok (.invokestatic 33, 3) := by decide +kernel
theorem dX5_sell_14 : decode cX5_sell 14 = .ok (.iload_n 3, 1) := by decide +kernel
theorem dX5_sell_15 : decode cX5_sell 15 = .ok (.iconst 0, 1) := by decide +kernel
theorem dX5_sell_16 : decode cX5_sell 16 = .ok (.bipush 100, 2) := by decide +kernel
theorem dX5_sell_18 : decode cX5_sell 18 = .ok (.invokestatic 33, 3) := by decide +kernel
theorem dX5_sell_21 : decode cX5_sell 21 = .ok (.aload 4, 2) := by decide +kernel
theorem dX5_sell_23 : decode cX5_sell 23 = .ok (.getfield 114, 3) := by decide +kernel
theorem dX5_sell_26 : decode cX5_sell 26 = .ok (.ifCond .ne 12, 3) := by decide +kernel
theorem dX5_sell_29 : decode cX5_sell 29 = .ok (.iload_n 2, 1) := by decide +kernel
theorem dX5_sell_30 : decode cX5_sell 30 = .ok (.aload 4, 2) := by decide +kernel
theorem dX5_sell_32 : decode cX5_sell 32 = .ok (.getfield 147, 3) := by decide +kernel
theorem dX5_sell_35 : decode cX5_sell 35 = .ok (.if_icmp .le 13, 3) := by decide +kernel
theorem dX5_sell_38 : decode cX5_sell 38 = .ok (.new 41, 3) := by decide +kernel
theorem dX5_sell_41 : decode cX5_sell 41 = .ok (.dup, 1) := by decide +kernel
theorem dX5_sell_42 : decode cX5_sell 42 = .ok (.ldc 150, 2) := by decide +kernel
theorem dX5_sell_44 : decode cX5_sell 44 = .ok (.invokespecial 45, 3) := by decide +kernel
theorem dX5_sell_47 : decode cX5_sell 47 = .ok (.athrow, 1) := by decide +kernel
theorem dX5_sell_48 : decode cX5_sell 48 = .ok (.aload 4, 2) := by decide +kernel
theorem dX5_sell_50 : decode cX5_sell 50 = .ok (.dup, 1) := by decide +kernel
theorem dX5_sell_51 : decode cX5_sell 51 = .ok (.getfield 147, 3) := by decide +kernel
theorem dX5_sell_54 : decode cX5_sell 54 = .ok (.iload_n 2, 1) := by decide +kernel
theorem dX5_sell_55 : decode cX5_sell 55 = .ok (.isub, 1) := by decide +kernel
theorem dX5_sell_56 : decode cX5_sell 56 = .ok (.putfield 147, 3) := by decide +kernel
theorem dX5_sell_59 : decode cX5_sell 59 = .ok (.aload 4, 2) := by decide +kernel
theorem dX5_sell_61 : decode cX5_sell 61 = .ok (.dup, 1) := by decide +kernel
theorem dX5_sell_62 : decode cX5_sell 62 = .ok (.getfield 152, 3) := by decide +kernel
theorem dX5_sell_65 : decode cX5_sell 65 = .ok (.iload_n 2, 1) := by decide +kernel
theorem dX5_sell_66 : decode cX5_sell 66 = .ok (.iload_n 3, 1) := by decide +kernel
theorem dX5_sell_67 : decode cX5_sell 67 = .ok (.imul, 1) := by decide +kernel
theorem dX5_sell_68 : decode cX5_sell 68 = .ok (.iadd, 1) := by decide +kernel
theorem dX5_sell_69 : decode cX5_sell 69 = .ok (.putfield 152, 3) := by decide +kernel
theorem dX5_sell_72 : decode cX5_sell 72 = .ok (.aload 4, 2) := by decide +kernel
theorem dX5_sell_74 : decode cX5_sell 74 = .ok (.getfield 147, 3) := by decide +kernel
theorem dX5_sell_77 : decode cX5_sell 77 = .ok (.ireturn, 1) := by decide +kernel
theorem dX5_perform_0 : decode cX5_perform 0 = .ok (.aload_n 0, 1) := by decide +kernel
theorem dX5_perform_1 : decode cX5_perform 1 = .ok (.iload_n 1, 1) := by decide +kernel
theorem dX5_perform_2 : decode cX5_perform 2 = .ok (.invokevirtual 110, 3) := by decide +kernel
theorem dX5_perform_5 : decode cX5_perform 5 = .ok (.astore_n 2, 1) := by decide +kernel
theorem dX5_perform_6 : decode cX5_perform 6 = .ok (.aload_n 2, 1) := by decide +kernel
theorem dX5_perform_7 : decode cX5_perform 7 = .ok (.getfield 114, 3) := by decide +kernel
theorem dX5_perform_10 : decode cX5_perform 10 = .ok (.ifCond .ne 10, 3) := by decide +kernel
theorem dX5_perform_13 : decode cX5_perform 13 = .ok (.aload_n 2, 1) := by decide +kernel
theorem dX5_perform_14 : decode cX5_perform 14 = .ok (.getfield 139, 3) := by decide +kernel
theorem dX5_perform_17 : decode cX5_perform 17 = .ok (.ifCond .ne 13, 3) := by decide +kernel
theorem dX5_perform_20 : decode cX5_perform 20 = .ok (.new 41, 3) := by decide +kernel
theorem dX5_perform_23 : decode cX5_perform 23 = .ok (.dup, 1) := by decide +kernel
theorem dX5_perform_24 : decode cX5_perform 24 = .ok (.ldc 155, 2) := by decide +kernel
theorem dX5_perform_26 : decode cX5_perform 26 = .ok (.invokespecial 45, 3) := by decide +kernel
theorem dX5_perform_29 : decode cX5_perform 29 = .ok (.athrow, 1) := by decide +kernel
theorem dX5_perform_30 : decode cX5_perform 30 = .ok (.aload_n 2, 1) := by decide +kernel
theorem dX5_perform_31 : decode cX5_perform 31 = .ok (.iconst 1, 1) := by decide +kernel
theorem dX5_perform_32 : decode cX5_perform 32 = .ok (.putfield 114, 3) := by decide +kernel
theorem dX5_perform_35 : decode cX5_perform 35 = .ok (.iconst 0, 1) := by decide +kernel
theorem dX5_perform_36 : decode cX5_perform 36 = .ok (.istore_n 3, 1) := by decide +kernel
theorem dX5_perform_37 : decode cX5_perform 37 = .ok (.iload_n 3, 1) := by decide +kernel
theorem dX5_perform_38 : decode cX5_perform 38 = .ok (.aload_n 0, 1) := by decide +kernel
theorem dX5_perform_39 : decode cX5_perform 39 = .ok (.getfield 10, 3) := by decide +kernel
theorem dX5_perform_42 : decode cX5_perform 42 = .ok (.invokevirtual 37, 3) := by decide +kernel
theorem dX5_perform_45 : decode cX5_perform 45 = .ok (.if_icmp .ge 31, 3) := by decide +kernel
theorem dX5_perform_48 : decode cX5_perform 48 = .ok (.aload_n 2, 1) := by decide +kernel
theorem dX5_perform_49 : decode cX5_perform 49 = .ok (.iload_n 3, 1) := by decide +kernel
theorem dX5_perform_50 : decode cX5_perform 50 = .ok (.invokevirtual 118, 3) := by decide +kernel
theorem dX5_perform_53 : decode cX5_perform 53 = .ok (.ifCond .eq 17, 3) := by decide +kernel
theorem dX5_perform_56 : decode cX5_perform 56 = .ok (.aload_n 0, 1) := by decide +kernel
theorem dX5_perform_57 : decode cX5_perform 57 = .ok (.getfield 10, 3) := by decide +kernel
theorem dX5_perform_60 : decode cX5_perform 60 = .ok (.iload_n 3, 1) := by decide +kernel
theorem dX5_perform_61 : decode cX5_perform 61 = .ok (.invokevirtual 157, 3) := by decide +kernel
theorem dX5_perform_64 : decode cX5_perform 64 = .ok (.checkcast 48, 3) := by decide +kernel
theorem dX5_perform_67 : decode cX5_perform 67 = .ok (.invokevirtual 161, 3) := by decide +kernel
theorem dX5_perform_70 : decode cX5_perform 70 = .ok (.iinc 3 1, 3) := by decide +kernel
theorem dX5_perform_73 : decode cX5_perform 73 = .ok (.goto (-36), 3) := by decide +kernel
theorem dX5_perform_76 : decode cX5_perform 76 = .ok (.aload_n 0, 1) := by decide +kernel
theorem dX5_perform_77 : decode cX5_perform 77 = .ok (.dup, 1) := by decide +kernel
theorem dX5_perform_78 : decode cX5_perform 78 = .ok (.getfield 29, 3) := by decide +kernel
theorem dX5_perform_81 : decode cX5_perform 81 = .ok (.aload_n 2, 1) := by decide +kernel
theorem dX5_perform_82 : decode cX5_perform 82 = .ok (.getfield 152, 3) := by decide +kernel
theorem dX5_perform_85 : decode cX5_perform 85 = .ok (.iadd, 1) := by decide +kernel
theorem dX5_perform_86 : decode cX5_perform 86 = .ok (.putfield 29, 3) := by decide +kernel
theorem dX5_perform_89 : decode cX5_perform 89 = .ok (.aload_n 2, 1) := by decide +kernel
theorem dX5_perform_90 : decode cX5_perform 90 = .ok (.getfield 152, 3) := by decide +kernel
theorem dX5_perform_93 : decode cX5_perform 93 = .ok (.ireturn, 1) := by decide +kernel
theorem dX2_wear_0 : decode cX2_wear 0 = .ok (.aload_n 0, 1) := by decide +kernel
theorem dX2_wear_1 : decode cX2_wear 1 = .ok (.bipush 99, 2) := by decide +kernel
theorem dX2_wear_3 : decode cX2_wear 3 = .ok (.aload_n 0, 1) := by decide +kernel
theorem dX2_wear_4 : decode cX2_wear 4 = .ok (.getfield 28, 3) := by decide +kernel
theorem dX2_wear_7 : decode cX2_wear 7 = .ok (.aload_n 0, 1) := by decide +kernel
theorem dX2_wear_8 : decode cX2_wear 8 = .ok (.getfield 21, 3) := by decide +kernel
theorem dX2_wear_11 : decode cX2_wear 11 = .ok (.invokevirtual 45, 3) := by decide +kernel
theorem dX2_wear_14 : decode cX2_wear 14 = .ok (.iadd, 1) := by decide +kernel
theorem dX2_wear_15 : decode cX2_wear 15 = .ok (.invokestatic 94, 3) := by decide +kernel
theorem dX2_wear_18 : decode cX2_wear 18 = .ok (.putfield 28, 3) := by decide +kernel
theorem dX2_wear_21 : decode cX2_wear 21 = .ok (.return_, 1) := by decide +kernel
theorem dX5_mend_0 : decode cX5_mend 0 = .ok (.aload_n 0, 1) := by decide +kernel
theorem dX5_mend_1 : decode cX5_mend 1 = .ok (.iload_n 1, 1) := by decide +kernel
theorem dX5_mend_2 : decode cX5_mend 2 = .ok (.invokevirtual 57, 3) := by decide +kernel
theorem dX5_mend_5 : decode cX5_mend 5 = .ok (.astore_n 3, 1) := by decide +kernel
theorem dX5_mend_6 : decode cX5_mend 6 = .ok (.iload_n 2, 1) := by decide +kernel
theorem dX5_mend_7 : decode cX5_mend 7 = .ok (.iconst 0, 1) := by decide +kernel
theorem dX5_mend_8 : decode cX5_mend 8 = .ok (.ldc 99, 2) := by decide +kernel
theorem dX5_mend_10 : decode cX5_mend 10 = .ok (.invokestatic 33, 3) := by decide +kernel
theorem dX5_mend_13 : decode cX5_mend 13 = .ok (.aload_n 3, 1) := by decide +kernel
theorem dX5_mend_14 : decode cX5_mend 14 = .ok (.getfield 123, 3) := by decide +kernel
theorem dX5_mend_17 : decode cX5_mend 17 = .ok (.ifCond .eq 15, 3) := by decide +kernel
theorem dX5_mend_20 : decode cX5_mend 20 = .ok (.aload_n 3, 1) := by decide +kernel
theorem dX5_mend_21 : decode cX5_mend 21 = .ok (.getfield 164, 3) := by decide +kernel
theorem dX5_mend_24 : decode cX5_mend 24 = .ok (.invokevirtual 37, 3) := by decide +kernel
theorem dX5_mend_27 : decode cX5_mend 27 = .ok (.bipush 10, 2) := by decide +kernel
theorem dX5_mend_29 : decode cX5_mend 29 = .ok (.if_icmp .lt 13, 3) := by decide +kernel
theorem dX5_mend_32 : decode cX5_mend 32 = .ok (.new 41, 3) := by decide +kernel
theorem dX5_mend_35 : decode cX5_mend 35 = .ok (.dup, 1) := by decide +kernel
theorem dX5_mend_36 : decode cX5_mend 36 = .ok (.ldc 167, 2) := by decide +kernel
theorem dX5_mend_38 : decode cX5_mend 38 = .ok (.invokespecial 45, 3) := by decide +kernel
theorem dX5_mend_41 : decode cX5_mend 41 = .ok (.athrow, 1) := by decide +kernel
theorem dX5_mend_42 : decode cX5_mend 42 = .ok (.new 104, 3) := by decide +kernel
theorem dX5_mend_45 : decode cX5_mend 45 = .ok (.dup, 1) := by decide +kernel
theorem dX5_mend_46 : decode cX5_mend 46 = .ok (.iload_n 2, 1) := by decide +kernel
theorem dX5_mend_47 : decode cX5_mend 47 = .ok (.aload_n 3, 1) := by decide +kernel
theorem dX5_mend_48 : decode cX5_mend 48 = .ok (.getfield 123, 3) := by decide +kernel
theorem dX5_mend_51 : decode cX5_mend 51 = .ok (.invokespecial 106, 3) := by decide +kernel
theorem dX5_mend_54 : decode cX5_mend 54 = .ok (.astore 4, 2) := by decide +kernel
theorem dX5_mend_56 : decode cX5_mend 56 = .ok (.aload_n 0, 1) := by decide +kernel
theorem dX5_mend_57 : decode cX5_mend 57 = .ok (.aload_n 3, 1) := by decide +kernel
theorem dX5_mend_58 : decode cX5_mend 58 = .ok (.iload_n 1, 1) := by decide +kernel
theorem dX5_mend_59 : decode cX5_mend 59 = .ok (.aload 4, 2) := by decide +kernel
theorem dX5_mend_61 : decode cX5_mend 61 = .ok (.invokevirtual 130, 3) := by decide +kernel
theorem dX5_mend_64 : decode cX5_mend 64 = .ok (.ifCond .eq 13, 3) := by decide +kernel
theorem dX5_mend_67 : decode cX5_mend 67 = .ok (.new 41, 3) := by decide +kernel
theorem dX5_mend_70 : decode cX5_mend 70 = .ok (.dup, 1) := by decide +kernel
theorem dX5_mend_71 : decode cX5_mend 71 = .ok (.ldc 169, 2) := by decide +kernel
theorem dX5_mend_73 : decode cX5_mend 73 = .ok (.invokespecial 45, 3) := by decide +kernel
theorem dX5_mend_76 : decode cX5_mend 76 = .ok (.athrow, 1) := by decide +kernel
theorem dX5_mend_77 : decode cX5_mend 77 = .ok (.aload_n 3, 1) := by decide +kernel
theorem dX5_mend_78 : decode cX5_mend 78 = .ok (.getfield 164, 3) := by decide +kernel
theorem dX5_mend_81 : decode cX5_mend 81 = .ok (.aload 4, 2) := by decide +kernel
theorem dX5_mend_83 : decode cX5_mend 83 = .ok (.invokevirtual 53, 3) := by decide +kernel
theorem dX5_mend_86 : decode cX5_mend 86 = .ok (.pop, 1) := by decide +kernel
theorem dX5_mend_87 : decode cX5_mend 87 = .ok (.aload_n 3, 1) := by decide +kernel
theorem dX5_mend_88 : decode cX5_mend 88 = .ok (.iconst 0, 1) := by decide +kernel
theorem dX5_mend_89 : decode cX5_mend 89 = .ok (.putfield 123, 3) := by decide +kernel
theorem dX5_mend_92 : decode cX5_mend 92 = .ok (.aload 4, 2) := by decide +kernel
theorem dX5_mend_94 : decode cX5_mend 94 = .ok (.getfield 171, 3) := by decide +kernel
theorem dX5_mend_97 : decode cX5_mend 97 = .ok (.ireturn, 1) := by decide +kernel
theorem dX5_track_0 : decode cX5_track 0 = .ok (.aload_n 0, 1) := by decide +kernel
theorem dX5_track_1 : decode cX5_track 1 = .ok (.iload_n 1, 1) := by decide +kernel
theorem dX5_track_2 : decode cX5_track 2 = .ok (.invokevirtual 57, 3) := by decide +kernel
theorem dX5_track_5 : decode cX5_track 5 = .ok (.astore_n 3, 1) := by decide +kernel
theorem dX5_track_6 : decode cX5_track 6 = .ok (.iload_n 2, 1) := by decide +kernel
theorem dX5_track_7 : decode cX5_track 7 = .ok (.iconst 0, 1) := by decide +kernel
theorem dX5_track_8 : decode cX5_track 8 = .ok (.sipush 1999, 3) := by decide +kernel
theorem dX5_track_11 : decode cX5_track 11 = .ok (.invokestatic 33, 3) := by decide +kernel
theorem dX5_track_14 : decode cX5_track 14 = .ok (.aload_n 3, 1) := by decide +kernel
theorem dX5_track_15 : decode cX5_track 15 = .ok (.iload_n 2, 1) := by decide +kernel
theorem dX5_track_16 : decode cX5_track 16 = .ok (.invokevirtual 174, 3) := by decide +kernel
theorem dX5_track_19 : decode cX5_track 19 = .ok (.aload_n 3, 1) := by decide +kernel
theorem dX5_track_20 : decode cX5_track 20 = .ok (.getfield 177, 3) := by decide +kernel
theorem dX5_track_23 : decode cX5_track 23 = .ok (.invokevirtual 181, 3) := by decide +kernel
theorem dX5_track_26 : decode cX5_track 26 = .ok (.ireturn, 1) := by decide +kernel
theorem dX2_standAt_0 : decode cX2_standAt 0 = .ok (.aload_n 0, 1) := by decide +kernel
theorem dX2_standAt_1 : decode cX2_standAt 1 = .ok (.aload_n 0, 1) := by decide +kernel
theorem dX2_standAt_2 : decode cX2_standAt 2 = .ok (.iload_n 1, 1) := by decide +kernel
theorem dX2_standAt_3 : decode cX2_standAt 3 = .ok (.iconst 1, 1) := by decide +kernel
theorem dX2_standAt_4 : decode cX2_standAt 4 = .ok (.iadd, 1) := by decide +kernel
theorem dX2_standAt_5 : decode cX2_standAt 5 = .ok (.invokevirtual 58, 3) := by decide +kernel
theorem dX2_standAt_8 : decode cX2_standAt 8 = .ok (.iload_n 1, 1) := by decide +kernel
theorem dX2_standAt_9 : decode cX2_standAt 9 = .ok (.invokevirtual 73, 3) := by decide +kernel
theorem dX2_standAt_12 : decode cX2_standAt 12 = .ok (.return_, 1) := by decide +kernel
theorem dX2_standBehind_0 : decode cX2_standBehind 0 = .ok (.aload_n 0, 1) := by decide +kernel
theorem dX2_standBehind_1 : decode cX2_standBehind 1 = .ok (.getfield 21, 3) := by decide +kernel
theorem dX2_standBehind_4 : decode cX2_standBehind 4 = .ok (.invokevirtual 45, 3) := by decide +kernel
theorem dX2_standBehind_7 : decode cX2_standBehind 7 = .ok (.istore_n 3, 1) := by decide +kernel
theorem dX2_standBehind_8 : decode cX2_standBehind 8 = .ok (.iload_n 3, 1) := by decide +kernel
theorem dX2_standBehind_9 : decode cX2_standBehind 9 = .ok (.ifCond .ne 25, 3) := by decide +kernel
theorem dX2_standBehind_12 : decode cX2_standBehind 12 = .ok (.aload_n 0, 1) := by decide +kernel
theorem dX2_standBehind_13 : decode cX2_standBehind 13 = .ok (.getfield 37, 3) := by decide +kernel
theorem dX2_standBehind_16 : decode cX2_standBehind 16 = .ok (.aload_n 0, 1) := by decide +kernel
theorem dX2_standBehind_17 : decode cX2_standBehind 17 = .ok (.getfield 9, 3) := by decide +kernel
theorem dX2_standBehind_20 : decode cX2_standBehind 20 = .ok (.putfield 77, 3) := by decide +kernel
theorem dX2_standBehind_23 : decode cX2_standBehind 23 = .ok (.aload_n 0, 1) := by decide +kernel
theorem dX2_standBehind_24 : decode cX2_standBehind 24 = .ok (.getfield 37, 3) := by decide +kernel
theorem dX2_standBehind_27 : decode cX2_standBehind 27 = .ok (.iconst 0, 1) := by decide +kernel
theorem dX2_standBehind_28 : decode cX2_standBehind 28 = .ok (.putfield 80, 3) := by decide +kernel
theorem dX2_standBehind_31 : decode cX2_standBehind 31 = .ok (.goto 88, 3) := by decide +kernel
theorem dX2_standBehind_34 : decode cX2_standBehind 34 = .ok (.iload_n 1, 1) := by decide +kernel
theorem dX2_standBehind_35 : decode cX2_standBehind 35 = .ok (.ifCond .gt 24, 3) := by decide +kernel
theorem dX2_standBehind_38 : decode cX2_standBehind 38 = .ok (.aload_n 0, 1) := by decide +kernel
theorem dX2_standBehind_39 : decode cX2_standBehind 39 = .ok (.getfield 37, 3) := by decide +kernel
theorem dX2_standBehind_42 : decode cX2_standBehind 42 = .ok (.aload_n 0, 1) := by decide +kernel
theorem dX2_standBehind_43 : decode cX2_standBehind 43 = .ok (.getfield 21, 3) := by decide +kernel
theorem dX2_standBehind_46 : decode cX2_standBehind 46 = .ok (.iconst 0, 1) := by decide +kernel
theorem dX2_standBehind_47 : decode cX2_standBehind 47 = .ok (.invokevirtual 49, 3) := by decide +kernel
theorem dX2_standBehind_50 : decode cX2_standBehind 50 = .ok (.checkcast 53, 3) := by decide +kernel
theorem dX2_standBehind_53 : decode cX2_standBehind 53 = .ok (.invokevirtual 83, 3) := by decide +kernel
theorem dX2_standBehind_56 : decode cX2_standBehind 56 = .ok (.goto 63, 3) := by decide +kernel
theorem dX2_standBehind_59 : decode cX2_standBehind 59 = .ok (.iload_n 1, 1) := by decide +kernel
theorem dX2_standBehind_60 : decode cX2_standBehind 60 = .ok (.iload_n 3, 1) := by decide +kernel
theorem dX2_standBehind_61 : decode cX2_standBehind 61 = .ok (.if_icmp .lt 26, 3) := by decide +kernel
theorem dX2_standBehind_64 : decode cX2_standBehind 64 = .ok (.aload_n 0, 1) := by decide +kernel
theorem dX2_standBehind_65 : decode cX2_standBehind 65 = .ok (.getfield 37, 3) := by decide +kernel
theorem dX2_standBehind_68 : decode cX2_standBehind 68 = .ok (.aload_n 0, 1) := by decide +kernel
theorem dX2_standBehind_69 : decode cX2_standBehind 69 = .ok (.getfield 21, 3) := by decide +kernel
theorem dX2_standBehind_72 : decode cX2_standBehind 72 = .ok (.iload_n 3, 1) := by decide +kernel
theorem dX2_standBehind_73 : decode cX2_standBehind 73 = .ok (.iconst 1, 1) := by decide +kernel
theorem dX2_standBehind_74 : decode cX2_standBehind 74 = .ok (.isub, 1) := by decide +kernel
theorem dX2_standBehind_75 : decode cX2_standBehind 75 = .ok (.invokevirtual 49, 3) := by decide +kernel
theorem dX2_standBehind_78 : decode cX2_standBehind 78 = .ok (.checkcast 53, 3) := by decide +kernel
theorem dX2_standBehind_81 : decode cX2_standBehind 81 = .ok (.invokevirtual 83, 3) := by decide +kernel
theorem dX2_standBehind_84 : decode cX2_standBehind 84 = .ok (.goto 35, 3) := by decide +kernel
theorem dX2_standBehind_87 : decode cX2_standBehind 87 = .ok (.aload_n 0, 1) := by decide +kernel
theorem dX2_standBehind_88 : decode cX2_standBehind 88 = .ok (.getfield 37, 3) := by decide +kernel
theorem dX2_standBehind_91 : decode cX2_standBehind 91 = .ok (.aload_n 0, 1) := by decide +kernel
theorem dX2_standBehind_92 : decode cX2_standBehind 92 = .ok (.getfield 21, 3) := by decide +kernel
theorem dX2_standBehind_95 : decode cX2_standBehind 95 = .ok (.iload_n 1, 1) := by decide +kernel
theorem dX2_standBehind_96 : decode cX2_standBehind 96 = .ok (.iconst 1, 1) := by decide +kernel
theorem dX2_standBehind_97 : decode cX2_standBehind 97 = .ok (.isub, 1) := by decide +kernel
theorem dX2_standBehind_98 : decode cX2_standBehind 98 = .ok (.invokevirtual 49, 3) := by decide +kernel
theorem dX2_standBehind_101 : decode cX2_standBehind 101 = .ok (.checkcast 53, 3) := by decide +kernel
theorem dX2_standBehind_104 : decode cX2_standBehind 104 = .ok (.aload_n 0, 1) := by decide +kernel
theorem dX2_standBehind_105 : decode cX2_standBehind 105 = .ok (.getfield 21, 3) := by decide +kernel
theorem dX2_standBehind_108 : decode cX2_standBehind 108 = .ok (.iload_n 1, 1) := by decide +kernel
theorem dX2_standBehind_109 : decode cX2_standBehind 109 = .ok (.invokevirtual 49, 3) := by decide +kernel
theorem dX2_standBehind_112 : decode cX2_standBehind 112 = .ok (.checkcast 53, 3) := by decide +kernel
theorem dX2_standBehind_115 : decode cX2_standBehind 115 = .ok (.iload_n 2, 1) := by decide +kernel
theorem dX2_standBehind_116 : decode cX2_standBehind 116 = .ok (.invokevirtual 87, 3) := by decide +kernel
theorem dX2_standBehind_119 : decode cX2_standBehind 119 = .ok (.return_, 1) := by decide +kernel
theorem dX1_putAt_0 : decode cX1_putAt 0 = .ok (.aload_n 0, 1) := by decide +kernel
theorem dX1_putAt_1 : decode cX1_putAt 1 = .ok (.aload_n 1, 1) := by decide +kernel
theorem dX1_putAt_2 : decode cX1_putAt 2 = .ok (.getfield 18, 3) := by decide +kernel
theorem dX1_putAt_5 : decode cX1_putAt 5 = .ok (.putfield 9, 3) := by decide +kernel
theorem dX1_putAt_8 : decode cX1_putAt 8 = .ok (.aload_n 0, 1) := by decide +kernel
theorem dX1_putAt_9 : decode cX1_putAt 9 = .ok (.aload_n 1, 1) := by decide +kernel
theorem dX1_putAt_10 : decode cX1_putAt 10 = .ok (.getfield 21, 3) := by decide +kernel
theorem dX1_putAt_13 : decode cX1_putAt 13 = .ok (.putfield 15, 3) := by decide +kernel
theorem dX1_putAt_16 : decode cX1_putAt 16 = .ok (.return_, 1) := by decide +kernel
theorem dX1_putBetween_0 : decode cX1_putBetween 0 = .ok (.aload_n 2, 1) := by decide +kernel
theorem dX1_putBetween_1 : decode cX1_putBetween 1 = .ok (.getfield 22, 3) := by decide +kernel
theorem dX1_putBetween_4 : decode cX1_putBetween 4 = .ok (.aload_n 1, 1) := by decide +kernel
theorem dX1_putBetween_5 : decode cX1_putBetween 5 = .ok (.getfield 22, 3) := by decide +kernel
theorem dX1_putBetween_8 : decode cX1_putBetween 8 = .ok (.isub, 1) := by decide +kernel
theorem dX1_putBetween_9 : decode cX1_putBetween 9 = .ok (.istore 4, 2) := by decide +kernel
theorem dX1_putBetween_11 : decode cX1_putBetween 11 = .ok (.iload_n 3, 1) := by decide +kernel
theorem dX1_putBetween_12 : decode cX1_putBetween 12 = .ok (.aload_n 1, 1) := by decide +kernel
theorem dX1_putBetween_13 : decode cX1_putBetween 13 = .ok (.getfield 22, 3) := by decide +kernel
theorem dX1_putBetween_16 : decode cX1_putBetween 16 = .ok (.isub, 1) := by decide +kernel
theorem dX1_putBetween_17 : decode cX1_putBetween 17 = .ok (.istore 5, 2) := by decide +kernel
theorem dX1_putBetween_19 : decode cX1_putBetween 19 = .ok (.iload 4, 2) := by decide +kernel
theorem dX1_putBetween_21 : decode cX1_putBetween 21 = .ok (.ifCond .le 21, 3) := by decide +kernel
theorem dX1_putBetween_24 : decode cX1_putBetween 24 = .ok (.aload_n 1, 1) := by decide +kernel
theorem dX1_putBetween_25 : decode cX1_putBetween 25 = .ok (.getfield 25, 3) := by decide +kernel
theorem dX1_putBetween_28 : decode cX1_putBetween 28 = .ok (.iload 5, 2) := by decide +kernel
theorem dX1_putBetween_30 : decode cX1_putBetween 30 = .ok (.bipush 8, 2) := by decide +kernel
theorem dX1_putBetween_32 : decode cX1_putBetween 32 = .ok (.imul, 1) := by decide +kernel
theorem dX1_putBetween_33 : decode cX1_putBetween 33 = .ok (.iload 4, 2) := by decide +kernel
theorem dX1_putBetween_35 : decode cX1_putBetween 35 = .ok (.idiv, 1) := by decide +kernel
theorem dX1_putBetween_36 : decode cX1_putBetween 36 = .ok (.invokestatic 28, 3) := by decide +kernel
theorem dX1_putBetween_39 : decode cX1_putBetween 39 = .ok (.goto 4, 3) := by decide +kernel
theorem dX1_putBetween_42 : decode cX1_putBetween 42 = .ok (.iconst 0, 1) := by decide +kernel
theorem dX1_putBetween_43 : decode cX1_putBetween 43 = .ok (.istore 6, 2) := by decide +kernel
theorem dX1_putBetween_45 : decode cX1_putBetween 45 = .ok (.aload_n 0, 1) := by decide +kernel
theorem dX1_putBetween_46 : decode cX1_putBetween 46 = .ok (.aload_n 1, 1) := by decide +kernel
theorem dX1_putBetween_47 : decode cX1_putBetween 47 = .ok (.getfield 18, 3) := by decide +kernel
theorem dX1_putBetween_50 : decode cX1_putBetween 50 = .ok (.aload_n 2, 1) := by decide +kernel
theorem dX1_putBetween_51 : decode cX1_putBetween 51 = .ok (.getfield 18, 3) := by decide +kernel
theorem dX1_putBetween_54 : decode cX1_putBetween 54 = .ok (.aload_n 1, 1) := by decide +kernel
theorem dX1_putBetween_55 : decode cX1_putBetween 55 = .ok (.getfield 18, 3) := by decide +kernel
theorem dX1_putBetween_58 : decode cX1_putBetween 58 = .ok (.isub, 1) := by decide +kernel
theorem dX1_putBetween_59 : decode cX1_putBetween 59 = .ok (.iload 6, 2) := by decide +kernel
theorem dX1_putBetween_61 : decode cX1_putBetween 61 = .ok (.imul, 1) := by decide +kernel
theorem dX1_putBetween_62 : decode cX1_putBetween 62 = .ok (.bipush 64, 2) := by decide +kernel
theorem dX1_putBetween_64 : decode cX1_putBetween 64 = .ok (.idiv, 1) := by decide +kernel
theorem dX1_putBetween_65 : decode cX1_putBetween 65 = .ok (.iadd, 1) := by decide +kernel
theorem dX1_putBetween_66 : decode cX1_putBetween 66 = .ok (.putfield 9, 3) := by decide +kernel
theorem dX1_putBetween_69 : decode cX1_putBetween 69 = .ok (.aload_n 0, 1) := by decide +kernel
theorem dX1_putBetween_70 : decode cX1_putBetween 70 = .ok (.aload_n 1, 1) := by decide +kernel
theorem dX1_putBetween_71 : decode cX1_putBetween 71 = .ok (.getfield 21, 3) := by decide +kernel
theorem dX1_putBetween_74 : decode cX1_putBetween 74 = .ok (.aload_n 2, 1) := by decide +kernel
theorem dX1_putBetween_75 : decode cX1_putBetween 75 = .ok (.getfield 21, 3) := by decide +kernel
theorem dX1_putBetween_78 : decode cX1_putBetween 78 = .ok (.aload_n 1, 1) := by decide +kernel
theorem dX1_putBetween_79 : decode cX1_putBetween 79 = .ok (.getfield 21, 3) := by decide +kernel
theorem dX1_putBetween_82 : decode cX1_putBetween 82 = .ok (.isub, 1) := by decide +kernel
theorem dX1_putBetween_83 : decode cX1_putBetween 83 = .ok (.iload 6, 2) := by decide +kernel
theorem dX1_putBetween_85 : decode cX1_putBetween 85 = .ok (.imul, 1) := by decide +kernel
theorem dX1_putBetween_86 : decode cX1_putBetween 86 = .ok (.bipush 64, 2) := by decide +kernel
theorem dX1_putBetween_88 : decode cX1_putBetween 88 = .ok (.idiv, 1) := by decide +kernel
theorem dX1_putBetween_89 : decode cX1_putBetween 89 = .ok (.iadd, 1) := by decide +kernel
theorem dX1_putBetween_90 : decode cX1_putBetween 90 = .ok (.putfield 15, 3) := by decide +kernel
theorem dX1_putBetween_93 : decode cX1_putBetween 93 = .ok (.return_, 1) := by decide +kernel
theorem dX5_easing_0 : decode cX5_easing 0 = .ok (.iload_n 0, 1) := by decide +kernel
theorem dX5_easing_1 : decode cX5_easing 1 = .ok (.bipush 8, 2) := by decide +kernel
theorem dX5_easing_3 : decode cX5_easing 3 = .ok (.imul, 1) := by decide +kernel
theorem dX5_easing_4 : decode cX5_easing 4 = .ok (.iload_n 1, 1) := by decide +kernel
theorem dX5_easing_5 : decode cX5_easing 5 = .ok (.iadd, 1) := by decide +kernel
theorem dX5_easing_6 : decode cX5_easing 6 = .ok (.istore_n 2, 1) := by decide +kernel
theorem dX5_easing_7 : decode cX5_easing 7 = .ok (.iload_n 2, 1) := by decide +kernel
theorem dX5_easing_8 : decode cX5_easing 8 = .ok (.ifCond .lt 11, 3) := by decide +kernel
theorem dX5_easing_11 : decode cX5_easing 11 = .ok (.iload_n 2, 1) := by decide +kernel
theorem dX5_easing_12 : decode cX5_easing 12 = .ok (.getstatic 249, 3) := by decide +kernel
theorem dX5_easing_15 : decode cX5_easing 15 = .ok (.arraylength, 1) := by decide +kernel
theorem dX5_easing_16 : decode cX5_easing 16 = .ok (.if_icmp .lt 7, 3) := by decide +kernel
theorem dX5_easing_19 : decode cX5_easing 19 = .ok (.iconst 0, 1) := by decide +kernel
theorem dX5_easing_20 : decode cX5_easing 20 = .ok (.goto 8, 3) := by decide +kernel
theorem dX5_easing_23 : decode cX5_easing 23 = .ok (.getstatic 249, 3) := by decide +kernel
theorem dX5_easing_26 : decode cX5_easing 26 = .ok (.iload_n 2, 1) := by decide +kernel
theorem dX5_easing_27 : decode cX5_easing 27 = .ok (.iaload, 1) := by decide +kernel
theorem dX5_easing_28 : decode cX5_easing 28 = .ok (.ireturn, 1) := by decide +kernel
theorem dX1_together_0 : decode cX1_together 0 = .ok (.sipush 1000, 3) := by decide +kernel
theorem dX1_together_3 : decode cX1_together 3 = .ok (.aload_n 0, 1) := by decide +kernel
theorem dX1_together_4 : decode cX1_together 4 = .ok (.getfield 9, 3) := by decide +kernel
theorem dX1_together_7 : decode cX1_together 7 = .ok (.imul, 1) := by decide +kernel
theorem dX1_together_8 : decode cX1_together 8 = .ok (.aload_n 0, 1) := by decide +kernel
theorem dX1_together_9 : decode cX1_together 9 = .ok (.getfield 15, 3) := by decide +kernel
theorem dX1_together_12 : decode cX1_together 12 = .ok (.iadd, 1) := by decide +kernel
theorem dX1_together_13 : decode cX1_together 13 = .ok (.ireturn, 1) := by decide +kernel
theorem dX5_trackByFrames_0 : decode cX5_trackByFrames 0 = .ok (.aload_n 0, 1) := by decide +kernel
theorem dX5_trackByFrames_1 : decode cX5_trackByFrames 1 = .ok (.iload_n 1, 1) := by decide +kernel
theorem dX5_trackByFrames_2 : decode cX5_trackByFrames 2 = .ok (.invokevirtual 57, 3) := by decide +kernel
theorem dX5_trackByFrames_5 : decode cX5_trackByFrames 5 = .ok (.astore_n 3, 1) := by decide +kernel
theorem dX5_trackByFrames_6 : decode cX5_trackByFrames 6 = .ok (.iload_n 2, 1) := by decide +kernel
theorem dX5_trackByFrames_7 : decode cX5_trackByFrames 7 = .ok (.iconst 0, 1) := by decide +kernel
theorem dX5_trackByFrames_8 : decode cX5_trackByFrames 8 = .ok (.sipush 1999, 3) := by decide +kernel
theorem dX5_trackByFrames_11 : decode cX5_trackByFrames 11 = .ok (.invokestatic 33, 3) := by decide +kernel
theorem dX5_trackByFrames_14 : decode cX5_trackByFrames 14 = .ok (.aload_n 3, 1) := by decide +kernel
theorem dX5_trackByFrames_15 : decode cX5_trackByFrames 15 = .ok (.iload_n 2, 1) := by decide +kernel
theorem dX5_trackByFrames_16 : decode cX5_trackByFrames 16 = .ok (.invokevirtual 186, 3) := by decide +kernel
theorem dX5_trackByFrames_19 : decode cX5_trackByFrames 19 = .ok (.aload_n 3, 1) := by decide +kernel
theorem dX5_trackByFrames_20 : decode cX5_trackByFrames 20 = .ok (.getfield 177, 3) := by decide +kernel
theorem dX5_trackByFrames_23 : decode cX5_trackByFrames 23 = .ok (.invokevirtual 181, 3) := by decide +kernel
theorem dX5_trackByFrames_26 : decode cX5_trackByFrames 26 = .ok (.ireturn, 1) := by decide +kernel
theorem dX2_walkTo_0 : decode cX2_walkTo 0 = .ok (.iconst 0, 1) := by decide +kernel
theorem dX2_walkTo_1 : decode cX2_walkTo 1 = .ok (.istore_n 2, 1) := by decide +kernel
theorem dX2_walkTo_2 : decode cX2_walkTo 2 = .ok (.iconst 0, 1) := by decide +kernel
theorem dX2_walkTo_3 : decode cX2_walkTo 3 = .ok (.istore_n 3, 1) := by decide +kernel
theorem dX2_walkTo_4 : decode cX2_walkTo 4 = .ok (.iload_n 3, 1) := by decide +kernel
theorem dX2_walkTo_5 : decode cX2_walkTo 5 = .ok (.iload_n 1, 1) := by decide +kernel
theorem dX2_walkTo_6 : decode cX2_walkTo 6 = .ok (.if_icmp .gt 47, 3) := by decide +kernel
theorem dX2_walkTo_9 : decode cX2_walkTo 9 = .ok (.iload_n 2, 1) := by decide +kernel
theorem dX2_walkTo_10 : decode cX2_walkTo 10 = .ok (.aload_n 0, 1) := by decide +kernel
theorem dX2_walkTo_11 : decode cX2_walkTo 11 = .ok (.getfield 21, 3) := by decide +kernel
theorem dX2_walkTo_14 : decode cX2_walkTo 14 = .ok (.invokevirtual 45, 3) := by decide +kernel
theorem dX2_walkTo_17 : decode cX2_walkTo 17 = .ok (.if_icmp .ge 24, 3) := by decide +kernel
theorem dX2_walkTo_20 : decode cX2_walkTo 20 = .ok (.aload_n 0, 1) := by decide +kernel
theorem dX2_walkTo_21 : decode cX2_walkTo 21 = .ok (.getfield 21, 3) := by decide +kernel
theorem dX2_walkTo_24 : decode cX2_walkTo 24 = .ok (.iload_n 2, 1) := by decide +kernel
theorem dX2_walkTo_25 : decode cX2_walkTo 25 = .ok (.invokevirtual 49, 3) := by decide +kernel
theorem dX2_walkTo_28 : decode cX2_walkTo 28 = .ok (.checkcast 53, 3) := by decide +kernel
theorem dX2_walkTo_31 : decode cX2_walkTo 31 = .ok (.getfield 55, 3) := by decide +kernel
theorem dX2_walkTo_34 : decode cX2_walkTo 34 = .ok (.iload_n 3, 1) := by decide +kernel
theorem dX2_walkTo_35 : decode cX2_walkTo 35 = .ok (.if_icmp .ne 6, 3) := by decide +kernel
theorem dX2_walkTo_38 : decode cX2_walkTo 38 = .ok (.iinc 2 1, 3) := by decide +kernel
theorem dX2_walkTo_41 : decode cX2_walkTo 41 = .ok (.aload_n 0, 1) := by decide +kernel
theorem dX2_walkTo_42 : decode cX2_walkTo 42 = .ok (.iload_n 2, 1) := by decide +kernel
theorem dX2_walkTo_43 : decode cX2_walkTo 43 = .ok (.iload_n 3, 1) := by decide +kernel
theorem dX2_walkTo_44 : decode cX2_walkTo 44 = .ok (.invokevirtual 73, 3) := by decide +kernel
theorem dX2_walkTo_47 : decode cX2_walkTo 47 = .ok (.iinc 3 1, 3) := by decide +kernel
theorem dX2_walkTo_50 : decode cX2_walkTo 50 = .ok (.goto (-46), 3) := by decide +kernel
theorem dX2_walkTo_53 : decode cX2_walkTo 53 = .ok (.return_, 1) := by decide +kernel
theorem dX5_x_0 : decode cX5_x 0 = .ok (.aload_n 0, 1) := by decide +kernel
theorem dX5_x_1 : decode cX5_x 1 = .ok (.iload_n 1, 1) := by decide +kernel
theorem dX5_x_2 : decode cX5_x 2 = .ok (.iload_n 2, 1) := by decide +kernel
theorem dX5_x_3 : decode cX5_x 3 = .ok (.invokevirtual 189, 3) := by decide +kernel
theorem dX5_x_6 : decode cX5_x 6 = .ok (.astore 4, 2) := by decide +kernel
theorem dX5_x_8 : decode cX5_x 8 = .ok (.iload_n 3, 1) := by decide +kernel
theorem dX5_x_9 : decode cX5_x 9 = .ok (.iconst 0, 1) := by decide +kernel
theorem dX5_x_10 : decode cX5_x 10 = .ok (.sipush 1999, 3) := by decide +kernel
theorem dX5_x_13 : decode cX5_x 13 = .ok (.invokestatic 33, 3) := by decide +kernel
theorem dX5_x_16 : decode cX5_x 16 = .ok (.aload_n 0, 1) := by decide +kernel
theorem dX5_x_17 : decode cX5_x 17 = .ok (.aload 4, 2) := by decide +kernel
theorem dX5_x_19 : decode cX5_x 19 = .ok (.iload_n 2, 1) := by decide +kernel
theorem dX5_x_20 : decode cX5_x 20 = .ok (.iload_n 3, 1) := by decide +kernel
theorem dX5_x_21 : decode cX5_x 21 = .ok (.invokevirtual 193, 3) := by decide +kernel
theorem dX5_x_24 : decode cX5_x 24 = .ok (.getfield 177, 3) := by decide +kernel
theorem dX5_x_27 : decode cX5_x 27 = .ok (.getfield 197, 3) := by decide +kernel
theorem dX5_x_30 : decode cX5_x 30 = .ok (.ireturn, 1) := by decide +kernel
theorem dX5_showWith_0 : decode cX5_showWith 0 = .ok (.aload_n 0, 1) := by decide +kernel
theorem dX5_showWith_1 : decode cX5_showWith 1 = .ok (.iload_n 1, 1) := by decide +kernel
theorem dX5_showWith_2 : decode cX5_showWith 2 = .ok (.invokevirtual 110, 3) := by decide +kernel
theorem dX5_showWith_5 : decode cX5_showWith 5 = .ok (.astore_n 3, 1) := by decide +kernel
theorem dX5_showWith_6 : decode cX5_showWith 6 = .ok (.aload_n 3, 1) := by decide +kernel
theorem dX5_showWith_7 : decode cX5_showWith 7 = .ok (.iload_n 2, 1) := by decide +kernel
theorem dX5_showWith_8 : decode cX5_showWith 8 = .ok (.invokevirtual 118, 3) := by decide +kernel
theorem dX5_showWith_11 : decode cX5_showWith 11 = .ok (.ifCond .ne 13, 3) := by decide +kernel
theorem dX5_showWith_14 : decode cX5_showWith 14 = .ok (.new 91, 3) := by decide +kernel
theorem dX5_showWith_17 : decode cX5_showWith 17 = .ok (.dup, 1) := by decide +kernel
theorem dX5_showWith_18 : decode cX5_showWith 18 = .ok (.ldc 219, 2) := by decide +kernel
theorem dX5_showWith_20 : decode cX5_showWith 20 = .ok (.invokespecial 95, 3) := by decide +kernel
theorem dX5_showWith_23 : decode cX5_showWith 23 = .ok (.athrow, 1) := by decide +kernel
theorem dX5_showWith_24 : decode cX5_showWith 24 = .ok (.aload_n 3, 1) := by decide +kernel
theorem dX5_showWith_25 : decode cX5_showWith 25 = .ok (.areturn, 1) := by decide +kernel
theorem dX5_settled_0 : decode cX5_settled 0 = .ok (.aload_n 0, 1) := by decide +kernel
theorem dX5_settled_1 : decode cX5_settled 1 = .ok (.iload_n 2, 1) := by decide +kernel
theorem dX5_settled_2 : decode cX5_settled 2 = .ok (.invokevirtual 57, 3) := by decide +kernel
theorem dX5_settled_5 : decode cX5_settled 5 = .ok (.astore 4, 2) := by decide +kernel
theorem dX5_settled_7 : decode cX5_settled 7 = .ok (.iconst 0, 1) := by decide +kernel
theorem dX5_settled_8 : decode cX5_settled 8 = .ok (.istore 5, 2) := by decide +kernel
theorem dX5_settled_10 : decode cX5_settled 10 = .ok (.iload 5, 2) := by decide +kernel
theorem dX5_settled_12 : decode cX5_settled 12 = .ok (.iload_n 2, 1) := by decide +kernel
theorem dX5_settled_13 : decode cX5_settled 13 = .ok (.if_icmp .gt 70, 3) := by decide +kernel
theorem dX5_settled_16 : decode cX5_settled 16 = .ok (.iload 5, 2) := by decide +kernel
theorem dX5_settled_18 : decode cX5_settled 18 = .ok (.aload_n 0, 1) := by decide +kernel
theorem dX5_settled_19 : decode cX5_settled 19 = .ok (.getfield 10, 3) := by decide +kernel
theorem dX5_settled_22 : decode cX5_settled 22 = .ok (.invokevirtual 37, 3) := by decide +kernel
theorem dX5_settled_25 : decode cX5_settled 25 = .ok (.if_icmp .ge 58, 3) := by decide +kernel
theorem dX5_settled_28 : decode cX5_settled 28 = .ok (.aload_n 1, 1) := by decide +kernel
theorem dX5_settled_29 : decode cX5_settled 29 = .ok (.iload 5, 2) := by decide +kernel
theorem dX5_settled_31 : decode cX5_settled 31 = .ok (.invokevirtual 118, 3) := by decide +kernel
theorem dX5_settled_34 : decode cX5_settled 34 = .ok (.ifCond .eq 43, 3) := by decide +kernel
theorem dX5_settled_37 : decode cX5_settled 37 = .ok (.aload_n 0, 1) := by decide +kernel
theorem dX5_settled_38 : decode cX5_settled 38 = .ok (.getfield 10, 3) := by decide +kernel
theorem dX5_settled_41 : decode cX5_settled 41 = .ok (.iload 5, 2) := by decide +kernel
theorem dX5_settled_43 : decode cX5_settled 43 = .ok (.invokevirtual 157, 3) := by decide +kernel
theorem dX5_settled_46 : decode cX5_settled 46 = .ok (.checkcast 48, 3) := by decide +kernel
theorem dX5_settled_49 : decode cX5_settled 49 = .ok (.astore 6, 2) := by decide +kernel
theorem dX5_settled_51 : decode cX5_settled 51 = .ok (.aload 6, 2) := by decide +kernel
theorem dX5_settled_53 : decode cX5_settled 53 = .ok (.aload_n 0, 1) := by decide +kernel
theorem dX5_settled_54 : decode cX5_settled 54 = .ok (.aload 6, 2) := by decide +kernel
theorem dX5_settled_56 : decode cX5_settled 56 = .ok (.iload_n 3, 1) := by decide +kernel
theorem dX5_settled_57 : decode cX5_settled 57 = .ok (.invokevirtual 234, 3) := by decide +kernel
theorem dX5_settled_60 : decode cX5_settled 60 = .ok (.invokevirtual 174, 3) := by decide +kernel
theorem dX5_settled_63 : decode cX5_settled 63 = .ok (.aload 6, 2) := by decide +kernel
theorem dX5_settled_65 : decode cX5_settled 65 = .ok (.invokevirtual 238, 3) := by decide +kernel
theorem dX5_settled_68 : decode cX5_settled 68 = .ok (.aload_n 0, 1) := by decide +kernel
theorem dX5_settled_69 : decode cX5_settled 69 = .ok (.aload_n 1, 1) := by decide +kernel
theorem dX5_settled_70 : decode cX5_settled 70 = .ok (.aload 6, 2) := by decide +kernel
theorem dX5_settled_72 : decode cX5_settled 72 = .ok (.iload 5, 2) := by decide +kernel
theorem dX5_settled_74 : decode cX5_settled 74 = .ok (.invokevirtual 241, 3) := by decide +kernel
theorem dX5_settled_77 : decode cX5_settled 77 = .ok (.iinc 5 1, 3) := by decide +kernel
theorem dX5_settled_80 : decode cX5_settled 80 = .ok (.goto (-70), 3) := by decide +kernel
theorem dX5_settled_83 : decode cX5_settled 83 = .ok (.aload 4, 2) := by decide +kernel
theorem dX5_settled_85 : decode cX5_settled 85 = .ok (.areturn, 1) := by decide +kernel
theorem dX5_ownFrame_0 : decode cX5_ownFrame 0 = .ok (.aload_n 1, 1) := by decide +kernel
theorem dX5_ownFrame_1 : decode cX5_ownFrame 1 = .ok (.getfield 96, 3) := by decide +kernel
theorem dX5_ownFrame_4 : decode cX5_ownFrame 4 = .ok (.ifCond .lt 15, 3) := by decide +kernel
theorem dX5_ownFrame_7 : decode cX5_ownFrame 7 = .ok (.aload_n 1, 1) := by decide +kernel
theorem dX5_ownFrame_8 : decode cX5_ownFrame 8 = .ok (.getfield 96, 3) := by decide +kernel
theorem dX5_ownFrame_11 : decode cX5_ownFrame 11 = .ok (.aload_n 0, 1) := by decide +kernel
theorem dX5_ownFrame_12 : decode cX5_ownFrame 12 = .ok (.getfield 19, 3) := by decide +kernel
theorem dX5_ownFrame_15 : decode cX5_ownFrame 15 = .ok (.arraylength, 1) := by decide +kernel
theorem dX5_ownFrame_16 : decode cX5_ownFrame 16 = .ok (.if_icmp .lt 5, 3) := by decide +kernel
theorem dX5_ownFrame_19 : decode cX5_ownFrame 19 = .ok (.iload_n 2, 1) := by decide +kernel
theorem dX5_ownFrame_20 : decode cX5_ownFrame 20 = .ok (.ireturn, 1) := by decide +kernel
theorem dX5_ownFrame_21 : decode cX5_ownFrame 21 = .ok (.aload_n 0, 1) := by decide +kernel
theorem dX5_ownFrame_22 : decode cX5_ownFrame 22 = .ok (.getfield 19, 3) := by decide +kernel
theorem dX5_ownFrame_25 : decode cX5_ownFrame 25 = .ok (.aload_n 1, 1) := by decide +kernel
theorem dX5_ownFrame_26 : decode cX5_ownFrame 26 = .ok (.getfield 96, 3) := by decide +kernel
theorem dX5_ownFrame_29 : decode cX5_ownFrame 29 = .ok (.iaload, 1) := by decide +kernel
theorem dX5_ownFrame_30 : decode cX5_ownFrame 30 = .ok (.istore_n 3, 1) := by decide +kernel
theorem dX5_ownFrame_31 : decode cX5_ownFrame 31 = .ok (.iload_n 3, 1) := by decide +kernel
theorem dX5_ownFrame_32 : decode cX5_ownFrame 32 = .ok (.iconst (-1), 1) := by decide +kernel
theorem dX5_ownFrame_33 : decode cX5_ownFrame 33 = .ok (.if_icmp .ne 7, 3) := by decide +kernel
theorem dX5_ownFrame_36 : decode cX5_ownFrame 36 = .ok (.iconst 0, 1) := by decide +kernel
theorem dX5_ownFrame_37 : decode cX5_ownFrame 37 = .ok (.goto 10, 3) := by decide +kernel
theorem dX5_ownFrame_40 : decode cX5_ownFrame 40 = .ok (.iconst 0, 1) := by decide +kernel
theorem dX5_ownFrame_41 : decode cX5_ownFrame 41 = .ok (.iload_n 2, 1) := by decide +kernel
theorem dX5_ownFrame_42 : decode cX5_ownFrame 42 = .ok (.iload_n 3, 1) := by decide +kernel
theorem dX5_ownFrame_43 : decode cX5_ownFrame 43 = .ok (.isub, 1) := by decide +kernel
theorem dX5_ownFrame_44 : decode cX5_ownFrame 44 = .ok (.invokestatic 228, 3) := by decide +kernel
theorem dX5_ownFrame_47 : decode cX5_ownFrame 47 = .ok (.ireturn, 1) := by decide +kernel
theorem dX2_pull_0 : decode cX2_pull 0 = .ok (.aload_n 0, 1) := by decide +kernel
theorem dX2_pull_1 : decode cX2_pull 1 = .ok (.getfield 15, 3) := by decide +kernel
theorem dX2_pull_4 : decode cX2_pull 4 = .ok (.aload_n 0, 1) := by decide +kernel
theorem dX2_pull_5 : decode cX2_pull 5 = .ok (.getfield 15, 3) := by decide +kernel
theorem dX2_pull_8 : decode cX2_pull 8 = .ok (.imul, 1) := by decide +kernel
theorem dX2_pull_9 : decode cX2_pull 9 = .ok (.istore_n 1, 1) := by decide +kernel
theorem dX2_pull_10 : decode cX2_pull 10 = .ok (.aload_n 0, 1) := by decide +kernel
theorem dX2_pull_11 : decode cX2_pull 11 = .ok (.invokevirtual 91, 3) := by decide +kernel
theorem dX2_pull_14 : decode cX2_pull 14 = .ok (.iload_n 1, 1) := by decide +kernel
theorem dX2_pull_15 : decode cX2_pull 15 = .ok (.if_icmp .gt 4, 3) := by decide +kernel
theorem dX2_pull_18 : decode cX2_pull 18 = .ok (.return_, 1) := by decide +kernel
theorem dX2_pull_19 : decode cX2_pull 19 = .ok (.aload_n 0, 1) := by decide +kernel
theorem dX2_pull_20 : decode cX2_pull 20 = .ok (.getfield 15, 3) := by decide +kernel
theorem dX2_pull_23 : decode cX2_pull 23 = .ok (.ineg, 1) := by decide +kernel
theorem dX2_pull_24 : decode cX2_pull 24 = .ok (.aload_n 0, 1) := by decide +kernel
theorem dX2_pull_25 : decode cX2_pull 25 = .ok (.getfield 15, 3) := by decide +kernel
theorem dX2_pull_28 : decode cX2_pull 28 = .ok (.aload_n 0, 1) := by decide +kernel
theorem dX2_pull_29 : decode cX2_pull 29 = .ok (.getfield 37, 3) := by decide +kernel
theorem dX2_pull_32 : decode cX2_pull 32 = .ok (.getfield 77, 3) := by decide +kernel
theorem dX2_pull_35 : decode cX2_pull 35 = .ok (.aload_n 0, 1) := by decide +kernel
theorem dX2_pull_36 : decode cX2_pull 36 = .ok (.getfield 9, 3) := by decide +kernel
theorem dX2_pull_39 : decode cX2_pull 39 = .ok (.isub, 1) := by decide +kernel
theorem dX2_pull_40 : decode cX2_pull 40 = .ok (.invokestatic 94, 3) := by decide +kernel
theorem dX2_pull_43 : decode cX2_pull 43 = .ok (.invokestatic 100, 3) := by decide +kernel
theorem dX2_pull_46 : decode cX2_pull 46 = .ok (.istore_n 2, 1) := by decide +kernel
theorem dX2_pull_47 : decode cX2_pull 47 = .ok (.aload_n 0, 1) := by decide +kernel
theorem dX2_pull_48 : decode cX2_pull 48 = .ok (.getfield 37, 3) := by decide +kernel
theorem dX2_pull_51 : decode cX2_pull 51 = .ok (.aload_n 0, 1) := by decide +kernel
theorem dX2_pull_52 : decode cX2_pull 52 = .ok (.getfield 9, 3) := by decide +kernel
theorem dX2_pull_55 : decode cX2_pull 55 = .ok (.iload_n 2, 1) := by decide +kernel
theorem dX2_pull_56 : decode cX2_pull 56 = .ok (.iadd, 1) := by decide +kernel
theorem dX2_pull_57 : decode cX2_pull 57 = .ok (.putfield 77, 3) := by decide +kernel
theorem dX2_pull_60 : decode cX2_pull 60 = .ok (.aload_n 0, 1) := by decide +kernel
theorem dX2_pull_61 : decode cX2_pull 61 = .ok (.getfield 37, 3) := by decide +kernel
theorem dX2_pull_64 : decode cX2_pull 64 = .ok (.iload_n 1, 1) := by decide +kernel
theorem dX2_pull_65 : decode cX2_pull 65 = .ok (.iload_n 2, 1) := by decide +kernel
theorem dX2_pull_66 : decode cX2_pull 66 = .ok (.iload_n 2, 1) := by decide +kernel
theorem dX2_pull_67 : decode cX2_pull 67 = .ok (.imul, 1) := by decide +kernel
theorem dX2_pull_68 : decode cX2_pull 68 = .ok (.isub, 1) := by decide +kernel
theorem dX2_pull_69 : decode cX2_pull 69 = .ok (.invokestatic 103, 3) := by decide +kernel
theorem dX2_pull_72 : decode cX2_pull 72 = .ok (.putfield 80, 3) := by decide +kernel
theorem dX2_pull_75 : decode cX2_pull 75 = .ok (.return_, 1) := by decide +kernel
theorem dX2_squareFromBar_0 : decode cX2_squareFromBar 0 = .ok (.aload_n 0, 1) := by decide +kernel
theorem dX2_squareFromBar_1 : decode cX2_squareFromBar 1 = .ok (.getfield 37, 3) := by decide +kernel
theorem dX2_squareFromBar_4 : decode cX2_squareFromBar 4 = .ok (.getfield 77, 3) := by decide +kernel
theorem dX2_squareFromBar_7 : decode cX2_squareFromBar 7 = .ok (.aload_n 0, 1) := by decide +kernel
theorem dX2_squareFromBar_8 : decode cX2_squareFromBar 8 = .ok (.getfield 9, 3) := by decide +kernel
theorem dX2_squareFromBar_11 : decode cX2_squareFromBar 11 = .ok (.isub, 1) := by decide +kernel
theorem dX2_squareFromBar_12 : decode cX2_squareFromBar 12 = .ok (.istore_n 1, 1) := by decide +kernel
theorem dX2_squareFromBar_13 : decode cX2_squareFromBar 13 = .ok (.iload_n 1, 1) := by decide +kernel
theorem dX2_squareFromBar_14 : decode cX2_squareFromBar 14 = .ok (.iload_n 1, 1) := by decide +kernel
theorem dX2_squareFromBar_15 : decode cX2_squareFromBar 15 = .ok (.imul, 1) := by decide +kernel
theorem dX2_squareFromBar_16 : decode cX2_squareFromBar 16 = .ok (.aload_n 0, 1) := by decide +kernel
theorem dX2_squareFromBar_17 : decode cX2_squareFromBar 17 = .ok (.getfield 37, 3) := by decide +kernel
theorem dX2_squareFromBar_20 : decode cX2_squareFromBar 20 = .ok (.getfield 80, 3) := by decide +kernel
theorem dX2_squareFromBar_23 : decode cX2_squareFromBar 23 = .ok (.aload_n 0, 1) := by decide +kernel
theorem dX2_squareFromBar_24 : decode cX2_squareFromBar 24 = .ok (.getfield 37, 3) := by decide +kernel
theorem dX2_squareFromBar_27 : decode cX2_squareFromBar 27 = .ok (.getfield 80, 3) := by decide +kernel
theorem dX2_squareFromBar_30 : decode cX2_squareFromBar 30 = .ok (.imul, 1) := by decide +kernel
theorem dX2_squareFromBar_31 : decode cX2_squareFromBar 31 = .ok (.iadd, 1) := by decide +kernel
theorem dX2_squareFromBar_32 : decode cX2_squareFromBar 32 = .ok (.ireturn, 1) := by decide +kernel
theorem dX5_rootBelow_0 : decode cX5_rootBelow 0 = .ok (.iconst 0, 1) := by decide +kernel
theorem dX5_rootBelow_1 : decode cX5_rootBelow 1 = .ok (.istore_n 1, 1) := by decide +kernel
theorem dX5_rootBelow_2 : decode cX5_rootBelow 2 = .ok (.sipush 1024, 3) := by decide +kernel
theorem dX5_rootBelow_5 : decode cX5_rootBelow 5 = .ok (.istore_n 2, 1) := by decide +kernel
theorem dX5_rootBelow_6 : decode cX5_rootBelow 6 = .ok (.iload_n 2, 1) := by decide +kernel
theorem dX5_rootBelow_7 : decode cX5_rootBelow 7 = .ok (.ifCond .le 23, 3) := by decide +kernel
theorem dX5_rootBelow_10 : decode cX5_rootBelow 10 = .ok (.iload_n 1, 1) := by decide +kernel
theorem dX5_rootBelow_11 : decode cX5_rootBelow 11 = .ok (.iload_n 2, 1) := by decide +kernel
theorem dX5_rootBelow_12 : decode cX5_rootBelow 12 = .ok (.iadd, 1) := by decide +kernel
theorem dX5_rootBelow_13 : decode cX5_rootBelow 13 = .ok (.istore_n 3, 1) := by decide +kernel
theorem dX5_rootBelow_14 : decode cX5_rootBelow 14 = .ok (.iload_n 3, 1) := by decide +kernel
theorem dX5_rootBelow_15 : decode cX5_rootBelow 15 = .ok (.iload_n 3, 1) := by decide +kernel
theorem dX5_rootBelow_16 : decode cX5_rootBelow 16 = .ok (.imul, 1) := by decide +kernel
theorem dX5_rootBelow_17 : decode cX5_rootBelow 17 = .ok (.iload_n 0, 1) := by decide +kernel
theorem dX5_rootBelow_18 : decode cX5_rootBelow 18 = .ok (.if_icmp .gt 5, 3) := by decide +kernel
theorem dX5_rootBelow_21 : decode cX5_rootBelow 21 = .ok (.iload_n 3, 1) := by decide +kernel
theorem dX5_rootBelow_22 : decode cX5_rootBelow 22 = .ok (.istore_n 1, 1) := by decide +kernel
theorem dX5_rootBelow_23 : decode cX5_rootBelow 23 = .ok (.iload_n 2, 1) := by decide +kernel
theorem dX5_rootBelow_24 : decode cX5_rootBelow 24 = .ok (.iconst 2, 1) := by decide +kernel
theorem dX5_rootBelow_25 : decode cX5_rootBelow 25 = .ok (.idiv, 1) := by decide +kernel
theorem dX5_rootBelow_26 : decode cX5_rootBelow 26 = .ok (.istore_n 2, 1) := by decide +kernel
theorem dX5_rootBelow_27 : decode cX5_rootBelow 27 = .ok (.goto (-21), 3) := by decide +kernel
theorem dX5_rootBelow_30 : decode cX5_rootBelow 30 = .ok (.iload_n 1, 1) := by decide +kernel
theorem dX5_rootBelow_31 : decode cX5_rootBelow 31 = .ok (.ireturn, 1) := by decide +kernel
theorem dX5_keepOffLower_0 : decode cX5_keepOffLower 0 = .ok (.aload_n 2, 1) := by decide +kernel
theorem dX5_keepOffLower_1 : decode cX5_keepOffLower 1 = .ok (.iconst 0, 1) := by decide +kernel
theorem dX5_keepOffLower_2 : decode cX5_keepOffLower 2 = .ok (.putfield 203, 3) := by decide +kernel
theorem dX5_keepOffLower_5 : decode cX5_keepOffLower 5 = .ok (.iconst 0, 1) := by decide +kernel
theorem dX5_keepOffLower_6 : decode cX5_keepOffLower 6 = .ok (.istore 4, 2) := by decide +kernel
theorem dX5_keepOffLower_8 : decode cX5_keepOffLower 8 = .ok (.iload 4, 2) := by decide +kernel
theorem dX5_keepOffLower_10 : decode cX5_keepOffLower 10 = .ok (.iload_n 3, 1) := by decide +kernel
theorem dX5_keepOffLower_11 : decode cX5_keepOffLower 11 = .ok (.if_icmp .ge 49, 3) := by decide +kernel
theorem dX5_keepOffLower_14 : decode cX5_keepOffLower 14 = .ok (.iload 4, 2) := by decide +kernel
theorem dX5_keepOffLower_16 : decode cX5_keepOffLower 16 = .ok (.aload_n 0, 1) := by decide +kernel
theorem dX5_keepOffLower_17 : decode cX5_keepOffLower 17 = .ok (.getfield 10, 3) := by decide +kernel
theorem dX5_keepOffLower_20 : decode cX5_keepOffLower 20 = .ok (.invokevirtual 37, 3) := by decide +kernel
theorem dX5_keepOffLower_23 : decode cX5_keepOffLower 23 = .ok (.if_icmp .ge 37, 3) := by decide +kernel
theorem dX5_keepOffLower_26 : decode cX5_keepOffLower 26 = .ok (.aload_n 1, 1) := by decide +kernel
theorem dX5_keepOffLower_27 : decode cX5_keepOffLower 27 = .ok (.iload 4, 2) := by decide +kernel
theorem dX5_keepOffLower_29 : decode cX5_keepOffLower 29 = .ok (.invokevirtual 118, 3) := by decide +kernel
theorem dX5_keepOffLower_32 : decode cX5_keepOffLower 32 = .ok (.ifCond .eq 22, 3) := by decide +kernel
theorem dX5_keepOffLower_35 : decode cX5_keepOffLower 35 = .ok (.aload_n 2, 1) := by decide +kernel
theorem dX5_keepOffLower_36 : decode cX5_keepOffLower 36 = .ok (.aload_n 0, 1) := by decide +kernel
theorem dX5_keepOffLower_37 : decode cX5_keepOffLower 37 = .ok (.getfield 10, 3) := by decide +kernel
theorem dX5_keepOffLower_40 : decode cX5_keepOffLower 40 = .ok (.iload 4, 2) := by decide +kernel
theorem dX5_keepOffLower_42 : decode cX5_keepOffLower 42 = .ok (.invokevirtual 157, 3) := by decide +kernel
theorem dX5_keepOffLower_45 : decode cX5_keepOffLower 45 = .ok (.checkcast 48, 3) := by decide +kernel
theorem dX5_keepOffLower_48 : decode cX5_keepOffLower 48 = .ok (.getfield 177, 3) := by decide +kernel
theorem dX5_keepOffLower_51 : decode cX5_keepOffLower 51 = .ok (.invokevirtual 245, 3) := by decide +kernel
theorem dX5_keepOffLower_54 : decode cX5_keepOffLower 54 = .ok (.iinc 4 1, 3) := by decide +kernel
theorem dX5_keepOffLower_57 : decode cX5_keepOffLower 57 = .ok (.goto (-49), 3) := by decide +kernel
theorem dX5_keepOffLower_60 : decode cX5_keepOffLower 60 = .ok (.aload_n 2, 1) := by decide +kernel
theorem dX5_keepOffLower_61 : decode cX5_keepOffLower 61 = .ok (.getfield 203, 3) := by decide +kernel
theorem dX5_keepOffLower_64 : decode cX5_keepOffLower 64 = .ok (.ifCond .eq 7, 3) := by decide +kernel
theorem dX5_keepOffLower_67 : decode cX5_keepOffLower 67 = .ok (.aload_n 2, 1) := by decide +kernel
theorem dX5_keepOffLower_68 : decode cX5_keepOffLower 68 = .ok (.invokevirtual 238, 3) := by decide +kernel
theorem dX5_keepOffLower_71 : decode cX5_keepOffLower 71 = .ok (.return_, 1) := by decide +kernel
theorem dX2_keepOff_0 : decode cX2_keepOff 0 = .ok (.aload_n 0, 1) := by decide +kernel
theorem dX2_keepOff_1 : decode cX2_keepOff 1 = .ok (.getfield 37, 3) := by decide +kernel
theorem dX2_keepOff_4 : decode cX2_keepOff 4 = .ok (.getfield 77, 3) := by decide +kernel
theorem dX2_keepOff_7 : decode cX2_keepOff 7 = .ok (.aload_n 1, 1) := by decide +kernel
theorem dX2_keepOff_8 : decode cX2_keepOff 8 = .ok (.getfield 77, 3) := by decide +kernel
theorem dX2_keepOff_11 : decode cX2_keepOff 11 = .ok (.isub, 1) := by decide +kernel
theorem dX2_keepOff_12 : decode cX2_keepOff 12 = .ok (.invokestatic 106, 3) := by decide +kernel
theorem dX2_keepOff_15 : decode cX2_keepOff 15 = .ok (.bipush 10, 2) := by decide +kernel
theorem dX2_keepOff_17 : decode cX2_keepOff 17 = .ok (.if_icmp .ge 23, 3) := by decide +kernel
theorem dX2_keepOff_20 : decode cX2_keepOff 20 = .ok (.aload_n 0, 1) := by decide +kernel
theorem dX2_keepOff_21 : decode cX2_keepOff 21 = .ok (.getfield 37, 3) := by decide +kernel
theorem dX2_keepOff_24 : decode cX2_keepOff 24 = .ok (.getfield 80, 3) := by decide +kernel
theorem dX2_keepOff_27 : decode cX2_keepOff 27 = .ok (.aload_n 1, 1) := by decide +kernel
theorem dX2_keepOff_28 : decode cX2_keepOff 28 = .ok (.getfield 80, 3) := by decide +kernel
theorem dX2_keepOff_31 : decode cX2_keepOff 31 = .ok (.isub, 1) := by decide +kernel
theorem dX2_keepOff_32 : decode cX2_keepOff 32 = .ok (.invokestatic 106, 3) := by decide +kernel
theorem dX2_keepOff_35 : decode cX2_keepOff 35 = .ok (.bipush 10, 2) := by decide +kernel
theorem dX2_keepOff_37 : decode cX2_keepOff 37 = .ok (.if_icmp .lt 4, 3) := by decide +kernel
theorem dX2_keepOff_40 : decode cX2_keepOff 40 = .ok (.return_, 1) := by decide +kernel
theorem dX2_keepOff_41 : decode cX2_keepOff 41 = .ok (.aload_n 0, 1) := by decide +kernel
theorem dX2_keepOff_42 : decode cX2_keepOff 42 = .ok (.getfield 37, 3) := by decide +kernel
theorem dX2_keepOff_45 : decode cX2_keepOff 45 = .ok (.aload_n 0, 1) := by decide +kernel
theorem dX2_keepOff_46 : decode cX2_keepOff 46 = .ok (.getfield 37, 3) := by decide +kernel
theorem dX2_keepOff_49 : decode cX2_keepOff 49 = .ok (.getfield 77, 3) := by decide +kernel
theorem dX2_keepOff_52 : decode cX2_keepOff 52 = .ok (.aload_n 1, 1) := by decide +kernel
theorem dX2_keepOff_53 : decode cX2_keepOff 53 = .ok (.getfield 77, 3) := by decide +kernel
theorem dX2_keepOff_56 : decode cX2_keepOff 56 = .ok (.if_icmp .ge 13, 3) := by decide +kernel
theorem dX2_keepOff_59 : decode cX2_keepOff 59 = .ok (.aload_n 1, 1) := by decide +kernel
theorem dX2_keepOff_60 : decode cX2_keepOff 60 = .ok (.getfield 77, 3) := by decide +kernel
theorem dX2_keepOff_63 : decode cX2_keepOff 63 = .ok (.bipush 10, 2) := by decide +kernel
theorem dX2_keepOff_65 : decode cX2_keepOff 65 = .ok (.isub, 1) := by decide +kernel
theorem dX2_keepOff_66 : decode cX2_keepOff 66 = .ok (.goto 10, 3) := by decide +kernel
theorem dX2_keepOff_69 : decode cX2_keepOff 69 = .ok (.aload_n 1, 1) := by decide +kernel
theorem dX2_keepOff_70 : decode cX2_keepOff 70 = .ok (.getfield 77, 3) := by decide +kernel
theorem dX2_keepOff_73 : decode cX2_keepOff 73 = .ok (.bipush 10, 2) := by decide +kernel
theorem dX2_keepOff_75 : decode cX2_keepOff 75 = .ok (.iadd, 1) := by decide +kernel
theorem dX2_keepOff_76 : decode cX2_keepOff 76 = .ok (.putfield 77, 3) := by decide +kernel
theorem dX2_keepOff_79 : decode cX2_keepOff 79 = .ok (.aload_n 0, 1) := by decide +kernel
theorem dX2_keepOff_80 : decode cX2_keepOff 80 = .ok (.iconst 1, 1) := by decide +kernel
theorem dX2_keepOff_81 : decode cX2_keepOff 81 = .ok (.putfield 41, 3) := by decide +kernel
theorem dX2_keepOff_84 : decode cX2_keepOff 84 = .ok (.return_, 1) := by decide +kernel
theorem dX5_y_0 : decode cX5_y 0 = .ok (.aload_n 0, 1) := by decide +kernel
theorem dX5_y_1 : decode cX5_y 1 = .ok (.iload_n 1, 1) := by decide +kernel
theorem dX5_y_2 : decode cX5_y 2 = .ok (.iload_n 2, 1) := by decide +kernel
theorem dX5_y_3 : decode cX5_y 3 = .ok (.invokevirtual 189, 3) := by decide +kernel
theorem dX5_y_6 : decode cX5_y 6 = .ok (.astore 4, 2) := by decide +kernel
theorem dX5_y_8 : decode cX5_y 8 = .ok (.iload_n 3, 1) := by decide +kernel
theorem dX5_y_9 : decode cX5_y 9 = .ok (.iconst 0, 1) := by decide +kernel
theorem dX5_y_10 : decode cX5_y 10 = .ok (.sipush 1999, 3) := by decide +kernel
theorem dX5_y_13 : decode cX5_y 13 = .ok (.invokestatic 33, 3) := by decide +kernel
theorem dX5_y_16 : decode cX5_y 16 = .ok (.aload_n 0, 1) := by decide +kernel
theorem dX5_y_17 : decode cX5_y 17 = .ok (.aload 4, 2) := by decide +kernel
theorem dX5_y_19 : decode cX5_y 19 = .ok (.iload_n 2, 1) := by decide +kernel
theorem dX5_y_20 : decode cX5_y 20 = .ok (.iload_n 3, 1) := by decide +kernel
theorem dX5_y_21 : decode cX5_y 21 = .ok (.invokevirtual 193, 3) := by decide +kernel
theorem dX5_y_24 : decode cX5_y 24 = .ok (.getfield 177, 3) := by decide +kernel
theorem dX5_y_27 : decode cX5_y 27 = .ok (.getfield 200, 3) := by decide +kernel
theorem dX5_y_30 : decode cX5_y 30 = .ok (.ireturn, 1) := by decide +kernel
theorem dX5_bent_0 : decode cX5_bent 0 = .ok (.aload_n 0, 1) := by decide +kernel
theorem dX5_bent_1 : decode cX5_bent 1 = .ok (.iload_n 1, 1) := by decide +kernel
theorem dX5_bent_2 : decode cX5_bent 2 = .ok (.iload_n 2, 1) := by decide +kernel
theorem dX5_bent_3 : decode cX5_bent 3 = .ok (.invokevirtual 189, 3) := by decide +kernel
theorem dX5_bent_6 : decode cX5_bent 6 = .ok (.astore 5, 2) := by decide +kernel
theorem dX5_bent_8 : decode cX5_bent 8 = .ok (.iload_n 3, 1) := by decide +kernel
theorem dX5_bent_9 : decode cX5_bent 9 = .ok (.iconst 0, 1) := by decide +kernel
theorem dX5_bent_10 : decode cX5_bent 10 = .ok (.sipush 1999, 3) := by decide +kernel
theorem dX5_bent_13 : decode cX5_bent 13 = .ok (.invokestatic 33, 3) := by decide +kernel
theorem dX5_bent_16 : decode cX5_bent 16 = .ok (.iload 4, 2) := by decide +kernel
theorem dX5_bent_18 : decode cX5_bent 18 = .ok (.iconst 0, 1) := by decide +kernel
theorem dX5_bent_19 : decode cX5_bent 19 = .ok (.sipush 1999, 3) := by decide +kernel
theorem dX5_bent_22 : decode cX5_bent 22 = .ok (.invokestatic 33, 3) := by decide +kernel
theorem dX5_bent_25 : decode cX5_bent 25 = .ok (.iconst 0, 1) := by decide +kernel
theorem dX5_bent_26 : decode cX5_bent 26 = .ok (.istore 6, 2) := by decide +kernel
theorem dX5_bent_28 : decode cX5_bent 28 = .ok (.iload_n 3, 1) := by decide +kernel
theorem dX5_bent_29 : decode cX5_bent 29 = .ok (.istore 7, 2) := by decide +kernel
theorem dX5_bent_31 : decode cX5_bent 31 = .ok (.iload 7, 2) := by decide +kernel
theorem dX5_bent_33 : decode cX5_bent 33 = .ok (.iload 4, 2) := by decide +kernel
theorem dX5_bent_35 : decode cX5_bent 35 = .ok (.if_icmp .gt 27, 3) := by decide +kernel
theorem dX5_bent_38 : decode cX5_bent 38 = .ok (.aload_n 0, 1) := by decide +kernel
theorem dX5_bent_39 : decode cX5_bent 39 = .ok (.aload 5, 2) := by decide +kernel
theorem dX5_bent_41 : decode cX5_bent 41 = .ok (.iload_n 2, 1) := by decide +kernel
theorem dX5_bent_42 : decode cX5_bent 42 = .ok (.iload 7, 2) := by decide +kernel
theorem dX5_bent_44 : decode cX5_bent 44 = .ok (.invokevirtual 193, 3) := by decide +kernel
theorem dX5_bent_47 : decode cX5_bent 47 = .ok (.getfield 203, 3) := by decide +kernel
theorem dX5_bent_50 : decode cX5_bent 50 = .ok (.ifCond .eq 6, 3) := by decide +kernel
theorem dX5_bent_53 : decode cX5_bent 53 = .ok (.iinc 6 1, 3) := by decide +kernel
theorem dX5_bent_56 : decode cX5_bent 56 = .ok (.iinc 7 1, 3) := by decide +kernel
theorem dX5_bent_59 : decode cX5_bent 59 = .ok (.goto (-28), 3) := by decide +kernel
theorem dX5_bent_62 : decode cX5_bent 62 = .ok (.iload 6, 2) := by decide +kernel
theorem dX5_bent_64 : decode cX5_bent 64 = .ok (.ireturn, 1) := by decide +kernel
theorem dX5_least_0 : decode cX5_least 0 = .ok (.aload_n 0, 1) := by decide +kernel
theorem dX5_least_1 : decode cX5_least 1 = .ok (.iload_n 1, 1) := by decide +kernel
theorem dX5_least_2 : decode cX5_least 2 = .ok (.invokevirtual 57, 3) := by decide +kernel
theorem dX5_least_5 : decode cX5_least 5 = .ok (.invokevirtual 206, 3) := by decide +kernel
theorem dX5_least_8 : decode cX5_least 8 = .ok (.ireturn, 1) := by decide +kernel
theorem dX2_leastLength_0 : decode cX2_leastLength 0 = .ok (.iconst 0, 1) := by decide +kernel
theorem dX2_leastLength_1 : decode cX2_leastLength 1 = .ok (.istore_n 1, 1) := by decide +kernel
theorem dX2_leastLength_2 : decode cX2_leastLength 2 = .ok (.iconst 0, 1) := by decide +kernel
theorem dX2_leastLength_3 : decode cX2_leastLength 3 = .ok (.istore_n 2, 1) := by decide +kernel
theorem dX2_leastLength_4 : decode cX2_leastLength 4 = .ok (.iload_n 2, 1) := by decide +kernel
theorem dX2_leastLength_5 : decode cX2_leastLength 5 = .ok (.sipush 999, 3) := by decide +kernel
theorem dX2_leastLength_8 : decode cX2_leastLength 8 = .ok (.if_icmp .gt 23, 3) := by decide +kernel
theorem dX2_leastLength_11 : decode cX2_leastLength 11 = .ok (.aload_n 0, 1) := by decide +kernel
theorem dX2_leastLength_12 : decode cX2_leastLength 12 = .ok (.iload_n 2, 1) := by decide +kernel
theorem dX2_leastLength_13 : decode cX2_leastLength 13 = .ok (.invokevirtual 109, 3) := by decide +kernel
theorem dX2_leastLength_16 : decode cX2_leastLength 16 = .ok (.iload_n 1, 1) := by decide +kernel
theorem dX2_leastLength_17 : decode cX2_leastLength 17 = .ok (.aload_n 0, 1) := by decide +kernel
theorem dX2_leastLength_18 : decode cX2_leastLength 18 = .ok (.invokevirtual 91, 3) := by decide +kernel
theorem dX2_leastLength_21 : decode cX2_leastLength 21 = .ok (.invokestatic 100, 3) := by decide +kernel
theorem dX2_leastLength_24 : decode cX2_leastLength 24 = .ok (.istore_n 1, 1) := by decide +kernel
theorem dX2_leastLength_25 : decode cX2_leastLength 25 = .ok (.iinc 2 1, 3) := by decide +kernel
theorem dX2_leastLength_28 : decode cX2_leastLength 28 = .ok (.goto (-24), 3) := by decide +kernel
theorem dX2_leastLength_31 : decode cX2_leastLength 31 = .ok (.iload_n 1, 1) := by decide +kernel
theorem dX2_leastLength_32 : decode cX2_leastLength 32 = .ok (.invokestatic 103, 3) := by decide +kernel
theorem dX2_leastLength_35 : decode cX2_leastLength 35 = .ok (.istore_n 2, 1) := by decide +kernel
theorem dX2_leastLength_36 : decode cX2_leastLength 36 = .ok (.iload_n 2, 1) := by decide +kernel
theorem dX2_leastLength_37 : decode cX2_leastLength 37 = .ok (.iload_n 2, 1) := by decide +kernel
theorem dX2_leastLength_38 : decode cX2_leastLength 38 = .ok (.imul, 1) := by decide +kernel
theorem dX2_leastLength_39 : decode cX2_leastLength 39 = .ok (.iload_n 1, 1) := by decide +kernel
theorem dX2_leastLength_40 : decode cX2_leastLength 40 = .ok (.if_icmp .ge 9, 3) := by decide +kernel
theorem dX2_leastLength_43 : decode cX2_leastLength 43 = .ok (.iload_n 2, 1) := by decide +kernel
theorem dX2_leastLength_44 : decode cX2_leastLength 44 = .ok (.iconst 1, 1) := by decide +kernel
theorem dX2_leastLength_45 : decode cX2_leastLength 45 = .ok (.iadd, 1) := by decide +kernel
theorem dX2_leastLength_46 : decode cX2_leastLength 46 = .ok (.goto 4, 3) := by decide +kernel
theorem dX2_leastLength_49 : decode cX2_leastLength 49 = .ok (.iload_n 2, 1) := by decide +kernel
theorem dX2_leastLength_50 : decode cX2_leastLength 50 = .ok (.ireturn, 1) := by decide +kernel
theorem dX5_isBusy_0 : decode cX5_isBusy 0 = .ok (.aload_n 0, 1) := by decide +kernel
theorem dX5_isBusy_1 : decode cX5_isBusy 1 = .ok (.iload_n 1, 1) := by decide +kernel
theorem dX5_isBusy_2 : decode cX5_isBusy 2 = .ok (.invokevirtual 57, 3) := by decide +kernel
theorem dX5_isBusy_5 : decode cX5_isBusy 5 = .ok (.astore_n 3, 1) := by decide +kernel
theorem dX5_isBusy_6 : decode cX5_isBusy 6 = .ok (.iload_n 2, 1) := by decide +kernel
theorem dX5_isBusy_7 : decode cX5_isBusy 7 = .ok (.iconst 0, 1) := by decide +kernel
theorem dX5_isBusy_8 : decode cX5_isBusy 8 = .ok (.ldc 209, 2) := by decide +kernel
theorem dX5_isBusy_10 : decode cX5_isBusy 10 = .ok (.invokestatic 33, 3) := by decide +kernel
theorem dX5_isBusy_13 : decode cX5_isBusy 13 = .ok (.aload_n 0, 1) := by decide +kernel
theorem dX5_isBusy_14 : decode cX5_isBusy 14 = .ok (.aload_n 3, 1) := by decide +kernel
theorem dX5_isBusy_15 : decode cX5_isBusy 15 = .ok (.iload_n 1, 1) := by decide +kernel
theorem dX5_isBusy_16 : decode cX5_isBusy 16 = .ok (.new 104, 3) := by decide +kernel
theorem dX5_isBusy_19 : decode cX5_isBusy 19 = .ok (.dup, 1) := by decide +kernel
theorem dX5_isBusy_20 : decode cX5_isBusy 20 = .ok (.iload_n 2, 1) := by decide +kernel
theorem dX5_isBusy_21 : decode cX5_isBusy 21 = .ok (.iconst 1, 1) := by decide +kernel
theorem dX5_isBusy_22 : decode cX5_isBusy 22 = .ok (.invokespecial 106, 3) := by decide +kernel
theorem dX5_isBusy_25 : decode cX5_isBusy 25 = .ok (.invokevirtual 130, 3) := by decide +kernel
theorem dX5_isBusy_28 : decode cX5_isBusy 28 = .ok (.ireturn, 1) := by decide +kernel
theorem dX5_worn_0 : decode cX5_worn 0 = .ok (.aload_n 0, 1) := by decide +kernel
theorem dX5_worn_1 : decode cX5_worn 1 = .ok (.iload_n 1, 1) := by decide +kernel
theorem dX5_worn_2 : decode cX5_worn 2 = .ok (.invokevirtual 57, 3) := by decide +kernel
theorem dX5_worn_5 : decode cX5_worn 5 = .ok (.getfield 123, 3) := by decide +kernel
theorem dX5_worn_8 : decode cX5_worn 8 = .ok (.ireturn, 1) := by decide +kernel
theorem dX6_init_0 : decode cX6_init 0 = .ok (.aload_n 0, 1) := by decide +kernel
theorem dX6_init_1 : decode cX6_init 1 = .ok (.invokespecial 1, 3) := by decide +kernel
theorem dX6_init_4 : decode cX6_init 4 = .ok (.aload_n 0, 1) := by decide +kernel
theorem dX6_init_5 : decode cX6_init 5 = .ok (.bipush 8, 2) := by decide +kernel
theorem dX6_init_7 : decode cX6_init 7 = .ok (.newarray .int, 2) := by decide +kernel
theorem dX6_init_9 : decode cX6_init 9 = .ok (.putfield 7, 3) := by decide +kernel
theorem dX6_init_12 : decode cX6_init 12 = .ok (.aload_n 0, 1) := by decide +kernel
theorem dX6_init_13 : decode cX6_init 13 = .ok (.bipush 8, 2) := by decide +kernel
theorem dX6_init_15 : decode cX6_init 15 = .ok (.newarray .int, 2) := by decide +kernel
theorem dX6_init_17 : decode cX6_init 17 = .ok (.putfield 13, 3) := by decide +kernel
theorem dX6_init_20 : decode cX6_init 20 = .ok (.aload_n 0, 1) := by decide +kernel
theorem dX6_init_21 : decode cX6_init 21 = .ok (.bipush 8, 2) := by decide +kernel
theorem dX6_init_23 : decode cX6_init 23 = .ok (.newarray .int, 2) := by decide +kernel
theorem dX6_init_25 : decode cX6_init 25 = .ok (.putfield 16, 3) := by decide +kernel
theorem dX6_init_28 : decode cX6_init 28 = .ok (.aload_n 0, 1) := by decide +kernel
theorem dX6_init_29 : decode cX6_init 29 = .ok (.bipush 8, 2) := by decide +kernel
theorem dX6_init_31 : decode cX6_init 31 = .ok (.newarray .int, 2) := by decide +kernel
theorem dX6_init_33 : decode cX6_init 33 = .ok (.putfield 19, 3) := by decide +kernel
theorem dX6_init_36 : decode cX6_init 36 = .ok (.aload_n 0, 1) := by decide +kernel
theorem dX6_init_37 : decode cX6_init 37 = .ok (.bipush 8, 2) := by decide +kernel
theorem dX6_init_39 : decode cX6_init 39 = .ok (.newarray .int, 2) := by decide +kernel
theorem dX6_init_41 : decode cX6_init 41 = .ok (.putfield 22, 3) := by decide +kernel
theorem dX6_init_44 : decode cX6_init 44 = .ok (.aload_n 0, 1) := by decide +kernel
theorem dX6_init_45 : decode cX6_init 45 = .ok (.bipush 96, 2) := by decide +kernel
theorem dX6_init_47 : decode cX6_init 47 = .ok (.newarray .int, 2) := by decide +kernel
theorem dX6_init_49 : decode cX6_init 49 = .ok (.putfield 25, 3) := by decide +kernel
theorem dX6_init_52 : decode cX6_init 52 = .ok (.aload_n 0, 1) := by decide +kernel
theorem dX6_init_53 : decode cX6_init 53 = .ok (.bipush 96, 2) := by decide +kernel
theorem dX6_init_55 : decode cX6_init 55 = .ok (.newarray .int, 2) := by decide +kernel
theorem dX6_init_57 : decode cX6_init 57 = .ok (.putfield 28, 3) := by decide +kernel
theorem dX6_init_60 : decode cX6_init 60 = .ok (.aload_n 0, 1) := by decide +kernel
theorem dX6_init_61 : decode cX6_init 61 = .ok (.bipush 96, 2) := by decide +kernel
theorem dX6_init_63 : decode cX6_init 63 = .ok (.newarray .int, 2) := by decide +kernel
theorem dX6_init_65 : decode cX6_init 65 = .ok (.putfield 31, 3) := by decide +kernel
theorem dX6_init_68 : decode cX6_init 68 = .ok (.aload_n 0, 1) := by decide +kernel
theorem dX6_init_69 : decode cX6_init 69 = .ok (.bipush 96, 2) := by decide +kernel
theorem dX6_init_71 : decode cX6_init 71 = .ok (.newarray .int, 2) := by decide +kernel
theorem dX6_init_73 : decode cX6_init 73 = .ok (.putfield 34, 3) := by decide +kernel
theorem dX6_init_76 : decode cX6_init 76 = .ok (.aload_n 0, 1) := by decide +kernel
theorem dX6_init_77 : decode cX6_init 77 = .ok (.bipush 80, 2) := by decide +kernel
theorem dX6_init_79 : decode cX6_init 79 = .ok (.newarray .int, 2) := by decide +kernel
theorem dX6_init_81 : decode cX6_init 81 = .ok (.putfield 37, 3) := by decide +kernel
theorem dX6_init_84 : decode cX6_init 84 = .ok (.aload_n 0, 1) := by decide +kernel
theorem dX6_init_85 : decode cX6_init 85 = .ok (.bipush 80, 2) := by decide +kernel
theorem dX6_init_87 : decode cX6_init 87 = .ok (.newarray .int, 2) := by decide +kernel
theorem dX6_init_89 : decode cX6_init 89 = .ok (.putfield 40, 3) := by decide +kernel
theorem dX6_init_92 : decode cX6_init 92 = .ok (.aload_n 0, 1) := by decide +kernel
theorem dX6_init_93 : decode cX6_init 93 = .ok (.bipush 8, 2) := by decide +kernel
theorem dX6_init_95 : decode cX6_init 95 = .ok (.newarray .int, 2) := by decide +kernel
theorem dX6_init_97 : decode cX6_init 97 = .ok (.putfield 43, 3) := by decide +kernel
theorem dX6_init_100 : decode cX6_init 100 = .ok (.aload_n 0, 1) := by decide +kernel
theorem dX6_init_101 : decode cX6_init 101 = .ok (.bipush 10, 2) := by decide +kernel
theorem dX6_init_103 : decode cX6_init 103 = .ok (.newarray .int, 2) := by decide +kernel
theorem dX6_init_105 : decode cX6_init 105 = .ok (.putfield 46, 3) := by decide +kernel
theorem dX6_init_108 : decode cX6_init 108 = .ok (.aload_n 0, 1) := by decide +kernel
theorem dX6_init_109 : decode cX6_init 109 = .ok (.bipush 6, 2) := by decide +kernel
theorem dX6_init_111 : decode cX6_init 111 = .ok (.newarray .int, 2) := by decide +kernel
theorem dX6_init_113 : decode cX6_init 113 = .ok (.putfield 49, 3) := by decide +kernel
theorem dX6_init_116 : decode cX6_init 116 = .ok (.aload_n 0, 1) := by decide +kernel
theorem dX6_init_117 : decode cX6_init 117 = .ok (.bipush 6, 2) := by decide +kernel
theorem dX6_init_119 : decode cX6_init 119 = .ok (.newarray .int, 2) := by decide +kernel
theorem dX6_init_121 : decode cX6_init 121 = .ok (.putfield 52, 3) := by decide +kernel
theorem dX6_init_124 : decode cX6_init 124 = .ok (.aload_n 0, 1) := by decide +kernel
theorem dX6_init_125 : decode cX6_init 125 = .ok (.bipush 6, 2) := by decide +kernel
theorem dX6_init_127 : decode cX6_init 127 = .ok (.newarray .boolean, 2) := by decide +kernel
theorem dX6_init_129 : decode cX6_init 129 = .ok (.putfield 55, 3) := by decide +kernel
theorem dX6_init_132 : decode cX6_init 132 = .ok (.aload_n 0, 1) := by decide +kernel
theorem dX6_init_133 : decode cX6_init 133 = .ok (.bipush 6, 2) := by decide +kernel
theorem dX6_init_135 : decode cX6_init 135 = .ok (.newarray .int, 2) := by decide +kernel
theorem dX6_init_137 : decode cX6_init 137 = .ok (.putfield 59, 3) := by decide +kernel
theorem dX6_init_140 : decode cX6_init 140 = .ok (.aload_n 0, 1) := by decide +kernel
theorem dX6_init_141 : decode cX6_init 141 = .ok (.bipush 6, 2) := by decide +kernel
theorem dX6_init_143 : decode cX6_init 143 = .ok (.newarray .int, 2) := by decide +kernel
theorem dX6_init_145 : decode cX6_init 145 = .ok (.putfield 62, 3) := by decide +kernel
theorem dX6_init_148 : decode cX6_init 148 = .ok (.aload_n 0, 1) := by decide +kernel
theorem dX6_init_149 : decode cX6_init 149 = .ok (.bipush 48, 2) := by decide +kernel
theorem dX6_init_151 : decode cX6_init 151 = .ok (.newarray .boolean, 2) := by decide +kernel
theorem dX6_init_153 : decode cX6_init 153 = .ok (.putfield 65, 3) := by decide +kernel
theorem dX6_init_156 : decode cX6_init 156 = .ok (.aload_n 0, 1) := by decide +kernel
theorem dX6_init_157 : decode cX6_init 157 = .ok (.bipush 32, 2) := by decide +kernel
theorem dX6_init_159 : decode cX6_init 159 = .ok (.newarray .int, 2) := by decide +kernel
theorem dX6_init_161 : decode cX6_init 161 = .ok (.putfield 68, 3) := by decide +kernel
theorem dX6_init_164 : decode cX6_init 164 = .ok (.aload_n 0, 1) := by decide +kernel
theorem dX6_init_165 : decode cX6_init 165 = .ok (.bipush 8, 2) := by decide +kernel
theorem dX6_init_167 : decode cX6_init 167 = .ok (.newarray .int, 2) := by decide +kernel
theorem dX6_init_169 : decode cX6_init 169 = .ok (.putfield 71, 3) := by decide +kernel
theorem dX6_init_172 : decode cX6_init 172 = .ok (.aload_n 0, 1) := by decide +kernel
theorem dX6_init_173 : decode cX6_init 173 = .ok (.bipush 8, 2) := by decide +kernel
theorem dX6_init_175 : decode cX6_init 175 = .ok (.newarray .int, 2) := by decide +kernel
theorem dX6_init_177 : decode cX6_init 177 = .ok (.putfield 74, 3) := by decide +kernel
theorem dX6_init_180 : decode cX6_init 180 = .ok (.aload_n 0, 1) := by decide +kernel
theorem dX6_init_181 : decode cX6_init 181 = .ok (.bipush 8, 2) := by decide +kernel
theorem dX6_init_183 : decode cX6_init 183 = .ok (.newarray .boolean, 2) := by decide +kernel
theorem dX6_init_185 : decode cX6_init 185 = .ok (.putfield 77, 3) := by decide +kernel
theorem dX6_init_188 : decode cX6_init 188 = .ok (.iconst 0, 1) := by decide +kernel
theorem dX6_init_189 : decode cX6_init 189 = .ok (.istore_n 1, 1) := by decide +kernel
theorem dX6_init_190 : decode cX6_init 190 = .ok (.iload_n 1, 1) := by decide +kernel
theorem dX6_init_191 : decode cX6_init 191 = .ok (.bipush 10, 2) := by decide +kernel
theorem dX6_init_193 : decode cX6_init 193 = .ok (.if_icmp .ge 16, 3) := by decide +kernel
theorem dX6_init_196 : decode cX6_init 196 = .ok (.aload_n 0, 1) := by decide +kernel
theorem dX6_init_197 : decode cX6_init 197 = .ok (.getfield 46, 3) := by decide +kernel
theorem dX6_init_200 : decode cX6_init 200 = .ok (.iload_n 1, 1) := by decide +kernel
theorem dX6_init_201 : decode cX6_init 201 = .ok (.iconst (-1), 1) := by decide +kernel
theorem dX6_init_202 : decode cX6_init 202 = .ok (.iastore, 1) := by decide +kernel
theorem dX6_init_203 : decode cX6_init 203 = .ok (.iinc 1 1, 3) := by decide +kernel
theorem dX6_init_206 : decode cX6_init 206 = .ok (.goto (-16), 3) := by decide +kernel
theorem dX6_init_209 : decode cX6_init 209 = .ok (.iconst 0, 1) := by decide +kernel
theorem dX6_init_210 : decode cX6_init 210 = .ok (.istore_n 1, 1) := by decide +kernel
theorem dX6_init_211 : decode cX6_init 211 = .ok (.iload_n 1, 1) := by decide +kernel
theorem dX6_init_212 : decode cX6_init 212 = .ok (.bipush 8, 2) := by decide +kernel
theorem dX6_init_214 : decode cX6_init 214 = .ok (.if_icmp .ge 52, 3) := by decide +kernel
theorem dX6_init_217 : decode cX6_init 217 = .ok (.aload_n 0, 1) := by decide +kernel
theorem dX6_init_218 : decode cX6_init 218 = .ok (.getfield 68, 3) := by decide +kernel
theorem dX6_init_221 : decode cX6_init 221 = .ok (.iload_n 1, 1) := by decide +kernel
theorem dX6_init_222 : decode cX6_init 222 = .ok (.bipush 8, 2) := by decide +kernel
theorem dX6_init_224 : decode cX6_init 224 = .ok (.iload_n 1, 1) := by decide +kernel
theorem dX6_init_225 : decode cX6_init 225 = .ok (.imul, 1) := by decide +kernel
theorem dX6_init_226 : decode cX6_init 226 = .ok (.iastore, 1) := by decide +kernel
theorem dX6_init_227 : decode cX6_init 227 = .ok (.aload_n 0, 1) := by decide +kernel
theorem dX6_init_228 : decode cX6_init 228 = .ok (.getfield 68, 3) := by decide +kernel
theorem dX6_init_231 : decode cX6_init 231 = .ok (.bipush 8, 2) := by decide +kernel
theorem dX6_init_233 : decode cX6_init 233 = .ok (.iload_n 1, 1) := by decide +kernel
theorem dX6_init_234 : decode cX6_init 234 = .ok (.iadd, 1) := by decide +kernel
theorem dX6_init_235 : decode cX6_init 235 = .ok (.iload_n 1, 1) := by decide +kernel
theorem dX6_init_236 : decode cX6_init 236 = .ok (.iload_n 1, 1) := by decide +kernel
theorem dX6_init_237 : decode cX6_init 237 = .ok (.imul, 1) := by decide +kernel
theorem dX6_init_238 : decode cX6_init 238 = .ok (.iastore, 1) := by decide +kernel
theorem dX6_init_239 : decode cX6_init 239 = .ok (.aload_n 0, 1) := by decide +kernel
theorem dX6_init_240 : decode cX6_init 240 = .ok (.getfield 68, 3) := by decide +kernel
theorem dX6_init_243 : decode cX6_init 243 = .ok (.bipush 16, 2) := by decide +kernel
theorem dX6_init_245 : decode cX6_init 245 = .ok (.iload_n 1, 1) := by decide +kernel
theorem dX6_init_246 : decode cX6_init 246 = .ok (.iadd, 1) := by decide +kernel
theorem dX6_init_247 : decode cX6_init 247 = .ok (.bipush 64, 2) := by decide +kernel
theorem dX6_init_249 : decode cX6_init 249 = .ok (.bipush 8, 2) := by decide +kernel
theorem dX6_init_251 : decode cX6_init 251 = .ok (.iload_n 1, 1) := by decide +kernel
theorem dX6_init_252 : decode cX6_init 252 = .ok (.isub, 1) := by decide +kernel
theorem dX6_init_253 : decode cX6_init 253 = .ok (.bipush 8, 2) := by decide +kernel
theorem dX6_init_255 : decode cX6_init 255 = .ok (.iload_n 1, 1) := by decide +kernel
theorem dX6_init_256 : decode cX6_init 256 = .ok (.isub, 1) := by decide +kernel
theorem dX6_init_257 : decode cX6_init 257 = .ok (.imul, 1) := by decide +kernel
theorem dX6_init_258 : decode cX6_init 258 = .ok (.isub, 1) := by decide +kernel
theorem dX6_init_259 : decode cX6_init 259 = .ok (.iastore, 1) := by decide +kernel
theorem dX6_init_260 : decode cX6_init 260 = .ok (.iinc 1 1, 3) := by decide +kernel
theorem dX6_init_263 : decode cX6_init 263 = .ok (.goto (-52), 3) := by decide +kernel
theorem dX6_init_266 : decode cX6_init 266 = .ok (.return_, 1) := by decide +kernel
theorem dX6_thrown_0 : decode cX6_thrown 0 = .ok (.aload_n 0, 1) := by decide +kernel
theorem dX6_thrown_1 : decode cX6_thrown 1 = .ok (.getfield 80, 3) := by decide +kernel
theorem dX6_thrown_4 : decode cX6_thrown 4 = .ok (.ireturn, 1) := by decide +kernel
theorem dX6_puppet_0 : decode cX6_puppet 0 = .ok (.iload_n 1, 1) := by decide +kernel
theorem dX6_puppet_1 : decode cX6_puppet 1 = .ok (.iconst 0, 1) := by decide +kernel
theorem dX6_puppet_2 : decode cX6_puppet 2 = .ok (.sipush 999, 3) := by decide +kernel
theorem dX6_puppet_5 : decode cX6_puppet 5 = .ok (.invokestatic 87, 3) := by decide +kernel
theorem dX6_puppet_8 : decode cX6_puppet 8 = .ok (.ifCond .eq 18, 3) := by decide +kernel
theorem dX6_puppet_11 : decode cX6_puppet 11 = .ok (.iload_n 2, 1) := by decide +kernel
theorem dX6_puppet_12 : decode cX6_puppet 12 = .ok (.iconst 0, 1) := by decide +kernel
theorem dX6_puppet_13 : decode cX6_puppet 13 = .ok (.sipush 1500, 3) := by decide +kernel
theorem dX6_puppet_16 : decode cX6_puppet 16 = .ok (.invokestatic 87, 3) := by decide +kernel
theorem dX6_puppet_19 : decode cX6_puppet 19 = .ok (.ifCond .eq 7, 3) := by decide +kernel
theorem dX6_puppet_22 : decode cX6_puppet 22 = .ok (.iconst 1, 1) := by decide +kernel
theorem dX6_puppet_23 : decode cX6_puppet 23 = .ok (.goto 4, 3) := by decide +kernel
theorem dX6_puppet_26 : decode cX6_puppet 26 = .ok (.iconst 0, 1) := by decide +kernel
theorem dX6_puppet_27 : decode cX6_puppet 27 = .ok (.istore_n 3, 1) := by decide +kernel
theorem dX6_puppet_28 : decode cX6_puppet 28 = .ok (.aload_n 0, 1) := by decide +kernel
theorem dX6_puppet_29 : decode cX6_puppet 29 = .ok (.iload_n 3, 1) := by decide +kernel
theorem dX6_puppet_30 : decode cX6_puppet 30 = .ok (.ifCond .ne 7, 3) := by decide +kernel
theorem dX6_puppet_33 : decode cX6_puppet 33 = .ok (.iconst 1, 1) := by decide +kernel
theorem dX6_puppet_34 : decode cX6_puppet 34 = .ok (.goto 17, 3) := by decide +kernel
theorem dX6_puppet_37 : decode cX6_puppet 37 = .ok (.aload_n 0, 1) := by decide +kernel
theorem dX6_puppet_38 : decode cX6_puppet 38 = .ok (.getfield 84, 3) := by decide +kernel
theorem dX6_puppet_41 : decode cX6_puppet 41 = .ok (.bipush 8, 2) := by decide +kernel
theorem dX6_puppet_43 : decode cX6_puppet 43 = .ok (.if_icmp .ne 7, 3) := by decide +kernel
theorem dX6_puppet_46 : decode cX6_puppet 46 = .ok (.iconst 2, 1) := by decide +kernel
theorem dX6_puppet_47 : decode cX6_puppet 47 = .ok (.goto 4, 3) := by decide +kernel
theorem dX6_puppet_50 : decode cX6_puppet 50 = .ok (.iconst 0, 1) := by decide +kernel
theorem dX6_puppet_51 : decode cX6_puppet 51 = .ok (.invokevirtual 94, 3) := by decide +kernel
theorem dX6_puppet_54 : decode cX6_puppet 54 = .ok (.ifCond .ne 5, 3) := by decide +kernel
theorem dX6_puppet_57 : decode cX6_puppet 57 = .ok (.iconst 0, 1) := by decide +kernel
theorem dX6_puppet_58 : decode cX6_puppet 58 = .ok (.ireturn, 1) := by decide +kernel
theorem dX6_puppet_59 : decode cX6_puppet 59 = .ok (.aload_n 0, 1) := by decide +kernel
theorem dX6_puppet_60 : decode cX6_puppet 60 = .ok (.getfield 7, 3) := by decide +kernel
theorem dX6_puppet_63 : decode cX6_puppet 63 = .ok (.aload_n 0, 1) := by decide +kernel
theorem dX6_puppet_64 : decode cX6_puppet 64 = .ok (.getfield 84, 3) := by decide +kernel
theorem dX6_puppet_67 : decode cX6_puppet 67 = .ok (.iload_n 1, 1) := by decide +kernel
theorem dX6_puppet_68 : decode cX6_puppet 68 = .ok (.iastore, 1) := by decide +kernel
theorem dX6_puppet_69 : decode cX6_puppet 69 = .ok (.aload_n 0, 1) := by decide +kernel
theorem dX6_puppet_70 : decode cX6_puppet 70 = .ok (.getfield 13, 3) := by decide +kernel
theorem dX6_puppet_73 : decode cX6_puppet 73 = .ok (.aload_n 0, 1) := by decide +kernel
theorem dX6_puppet_74 : decode cX6_puppet 74 = .ok (.getfield 84, 3) := by decide +kernel
theorem dX6_puppet_77 : decode cX6_puppet 77 = .ok (.iload_n 2, 1) := by decide +kernel
theorem dX6_puppet_78 : decode cX6_puppet 78 = .ok (.iastore, 1) := by decide +kernel
theorem dX6_puppet_79 : decode cX6_puppet 79 = .ok (.aload_n 0, 1) := by decide +kernel
theorem dX6_puppet_80 : decode cX6_puppet 80 = .ok (.getfield 19, 3) := by decide +kernel
theorem dX6_puppet_83 : decode cX6_puppet 83 = .ok (.aload_n 0, 1) := by decide +kernel
theorem dX6_puppet_84 : decode cX6_puppet 84 = .ok (.getfield 84, 3) := by decide +kernel
theorem dX6_puppet_87 : decode cX6_puppet 87 = .ok (.iconst (-1), 1) := by decide +kernel
theorem dX6_puppet_88 : decode cX6_puppet 88 = .ok (.iastore, 1) := by decide +kernel
theorem dX6_puppet_89 : decode cX6_puppet 89 = .ok (.aload_n 0, 1) := by decide +kernel
theorem dX6_puppet_90 : decode cX6_puppet 90 = .ok (.dup, 1) := by decide +kernel
theorem dX6_puppet_91 : decode cX6_puppet 91 = .ok (.getfield 84, 3) := by decide +kernel
theorem dX6_puppet_94 : decode cX6_puppet 94 = .ok (.iconst 1, 1) := by decide +kernel
theorem dX6_puppet_95 : decode cX6_puppet 95 = .ok (.iadd, 1) := by decide +kernel
theorem dX6_puppet_96 : decode cX6_puppet 96 = .ok (.putfield 84, 3) := by decide +kernel
theorem dX6_puppet_99 : decode cX6_puppet 99 = .ok (.aload_n 0, 1) := by decide +kernel
theorem dX6_puppet_100 : decode cX6_puppet 100 = .ok (.getfield 84, 3) := by decide +kernel
theorem dX6_puppet_103 : decode cX6_puppet 103 = .ok (.iconst 1, 1) := by decide +kernel
theorem dX6_puppet_104 : decode cX6_puppet 104 = .ok (.isub, 1) := by decide +kernel
theorem dX6_puppet_105 : decode cX6_puppet 105 = .ok (.ireturn, 1) := by decide +kernel
theorem dX6_isIn_0 : decode cX6_isIn 0 = .ok (.iload_n 0, 1) := by decide +kernel
theorem dX6_isIn_1 : decode cX6_isIn 1 = .ok (.iload_n 1, 1) := by decide +kernel
theorem dX6_isIn_2 : decode cX6_isIn 2 = .ok (.if_icmp .lt 12, 3) := by decide +kernel
theorem dX6_isIn_5 : decode cX6_isIn 5 = .ok (.iload_n 0, 1) := by decide +kernel
theorem dX6_isIn_6 : decode cX6_isIn 6 = .ok (.iload_n 2, 1) := by decide +kernel
theorem dX6_isIn_7 : decode cX6_isIn 7 = .ok (.if_icmp .gt 7, 3) := by decide +kernel
theorem dX6_isIn_10 : decode cX6_isIn 10 = .ok (.iconst 1, 1) := by decide +kernel
theorem dX6_isIn_11 : decode cX6_isIn 11 = .ok (.goto 4, 3) := by decide +kernel
theorem dX6_isIn_14 : decode cX6_isIn 14 = .ok (.iconst 0, 1) := by decide +kernel
theorem dX6_isIn_15 : decode cX6_isIn 15 = .ok (.ireturn, 1) := by decide +kernel
theorem dX6_isFine_0 : decode cX6_isFine 0 = .ok (.aload_n 0, 1) := by decide +kernel
theorem dX6_isFine_1 : decode cX6_isFine 1 = .ok (.iload_n 1, 1) := by decide +kernel
theorem dX6_isFine_2 : decode cX6_isFine 2 = .ok (.putfield 80, 3) := by decide +kernel
theorem dX6_isFine_5 : decode cX6_isFine 5 = .ok (.iload_n 1, 1) := by decide +kernel
theorem dX6_isFine_6 : decode cX6_isFine 6 = .ok (.ifCond .ne 7, 3) := by decide +kernel
theorem dX6_isFine_9 : decode cX6_isFine 9 = .ok (.iconst 1, 1) := by decide +kernel
theorem dX6_isFine_10 : decode cX6_isFine 10 = .ok (.goto 4, 3) := by decide +kernel
theorem dX6_isFine_13 : decode cX6_isFine 13 = .ok (.iconst 0, 1) := by decide +kernel
theorem dX6_isFine_14 : decode cX6_isFine 14 = .ok (.ireturn, 1) := by decide +kernel
theorem dX6_setLength_0 : decode cX6_setLength 0 = .ok (.aload_n 0, 1) := by decide +kernel
theorem dX6_setLength_1 : decode cX6_setLength 1 = .ok (.aload_n 0, 1) := by decide +kernel
theorem dX6_setLength_2 : decode cX6_setLength 2 = .ok (.iload_n 1, 1) := by decide +kernel
theorem dX6_setLength_3 : decode cX6_setLength 3 = .ok (.invokevirtual 98, 3) := by decide +kernel
theorem dX6_setLength_6 : decode cX6_setLength 6 = .ok (.ifCond .ne 7, 3) := by decide +kernel
theorem dX6_setLength_9 : decode cX6_setLength 9 = .ok (.iconst 1, 1) := by decide +kernel
theorem dX6_setLength_10 : decode cX6_setLength 10 = .ok (.goto 19, 3) := by decide +kernel
theorem dX6_setLength_13 : decode cX6_setLength 13 = .ok (.iload_n 2, 1) := by decide +kernel
theorem dX6_setLength_14 : decode cX6_setLength 14 = .ok (.iconst 0, 1) := by decide +kernel
theorem dX6_setLength_15 : decode cX6_setLength 15 = .ok (.sipush 1500, 3) := by decide +kernel
theorem dX6_setLength_18 : decode cX6_setLength 18 = .ok (.invokestatic 87, 3) := by decide +kernel
theorem dX6_setLength_21 : decode cX6_setLength 21 = .ok (.ifCond .ne 7, 3) := by decide +kernel
theorem dX6_setLength_24 : decode cX6_setLength 24 = .ok (.iconst 2, 1) := by decide +kernel
theorem dX6_setLength_25 : decode cX6_setLength 25 = .ok (.goto 4, 3) := by decide +kernel
theorem dX6_setLength_28 : decode cX6_setLength 28 = .ok (.iconst 0, 1) := by decide +kernel
theorem dX6_setLength_29 : decode cX6_setLength 29 = .ok (.invokevirtual 94, 3) := by decide +kernel
theorem dX6_setLength_32 : decode cX6_setLength 32 = .ok (.ifCond .ne 5, 3) := by decide +kernel
theorem dX6_setLength_35 : decode cX6_setLength 35 = .ok (.iconst 0, 1) := by decide +kernel
theorem dX6_setLength_36 : decode cX6_setLength 36 = .ok (.ireturn, 1) := by decide +kernel
theorem dX6_setLength_37 : decode cX6_setLength 37 = .ok (.aload_n 0, 1) := by decide +kernel
theorem dX6_setLength_38 : decode cX6_setLength 38 = .ok (.getfield 13, 3) := by decide +kernel
theorem dX6_setLength_41 : decode cX6_setLength 41 = .ok (.iload_n 1, 1) := by decide +kernel
theorem dX6_setLength_42 : decode cX6_setLength 42 = .ok (.iaload, 1) := by decide +kernel
theorem dX6_setLength_43 : decode cX6_setLength 43 = .ok (.istore_n 3, 1) := by decide +kernel
theorem dX6_setLength_44 : decode cX6_setLength 44 = .ok (.aload_n 0, 1) := by decide +kernel
theorem dX6_setLength_45 : decode cX6_setLength 45 = .ok (.getfield 13, 3) := by decide +kernel
theorem dX6_setLength_48 : decode cX6_setLength 48 = .ok (.iload_n 1, 1) := by decide +kernel
theorem dX6_setLength_49 : decode cX6_setLength 49 = .ok (.iload_n 2, 1) := by decide +kernel
theorem dX6_setLength_50 : decode cX6_setLength 50 = .ok (.iastore, 1) := by decide +kernel
theorem dX6_setLength_51 : decode cX6_setLength 51 = .ok (.iload_n 3, 1) := by decide +kernel
theorem dX6_setLength_52 : decode cX6_setLength 52 = .ok (.ireturn, 1) := by decide +kernel
theorem dX6_isPuppet_0 : decode cX6_isPuppet 0 = .ok (.iload_n 1, 1) := by decide +kernel
theorem dX6_isPuppet_1 : decode cX6_isPuppet 1 = .ok (.iconst 0, 1) := by decide +kernel
theorem dX6_isPuppet_2 : decode cX6_isPuppet 2 = .ok (.aload_n 0, 1) := by decide +kernel
theorem dX6_isPuppet_3 : decode cX6_isPuppet 3 = .ok (.getfield 84, 3) := by decide +kernel
theorem dX6_isPuppet_6 : decode cX6_isPuppet 6 = .ok (.iconst 1, 1) := by decide +kernel
theorem dX6_isPuppet_7 : decode cX6_isPuppet 7 = .ok (.isub, 1) := by decide +kernel
theorem dX6_isPuppet_8 : decode cX6_isPuppet 8 = .ok (.invokestatic 87, 3) := by decide +kernel
theorem dX6_isPuppet_11 : decode cX6_isPuppet 11 = .ok (.ireturn, 1) := by decide +kernel
theorem dX6_key_0 : decode cX6_key 0 = .ok (.aload_n 0, 1) := by decide +kernel
theorem dX6_key_1 : decode cX6_key 1 = .ok (.iload_n 1, 1) := by decide +kernel
theorem dX6_key_2 : decode cX6_key 2 = .ok (.invokevirtual 98, 3) := by decide +kernel
theorem dX6_key_5 : decode cX6_key 5 = .ok (.istore 6, 2) := by decide +kernel
theorem dX6_key_7 : decode cX6_key 7 = .ok (.iload_n 2, 1) := by decide +kernel
theorem dX6_key_8 : decode cX6_key 8 = .ok (.iconst 0, 1) := by decide +kernel
theorem dX6_key_9 : decode cX6_key 9 = .ok (.sipush 999, 3) := by decide +kernel
theorem dX6_key_12 : decode cX6_key 12 = .ok (.invokestatic 87, 3) := by decide +kernel
theorem dX6_key_15 : decode cX6_key 15 = .ok (.ifCond .eq 40, 3) := by decide +kernel
theorem dX6_key_18 : decode cX6_key 18 = .ok (.iload_n 3, 1) := by decide +kernel
theorem dX6_key_19 : decode cX6_key 19 = .ok (.iconst 0, 1) := by decide +kernel
theorem dX6_key_20 : decode cX6_key 20 = .ok (.sipush 999, 3) := by decide +kernel
theorem dX6_key_23 : decode cX6_key 23 = .ok (.invokestatic 87, 3) := by decide +kernel
theorem dX6_key_26 : decode cX6_key 26 = .ok (.ifCond .eq 29, 3) := by decide +kernel
theorem dX6_key_29 : decode cX6_key 29 = .ok (.iload 4, 2) := by decide +kernel
theorem dX6_key_31 : decode cX6_key 31 = .ok (.iconst 0, 1) := by decide +kernel
theorem dX6_key_32 : decode cX6_key 32 = .ok (.sipush 999, 3) := by decide +kernel
theorem dX6_key_35 : decode cX6_key 35 = .ok (.invokestatic 87, 3) := by decide +kernel
theorem dX6_key_38 : decode cX6_key 38 = .ok (.ifCond .eq 17, 3) := by decide +kernel
theorem dX6_key_41 : decode cX6_key 41 = .ok (.iload 5, 2) := by decide +kernel
theorem dX6_key_43 : decode cX6_key 43 = .ok (.iconst 0, 1) := by decide +kernel
theorem dX6_key_44 : decode cX6_key 44 = .ok (.iconst 3, 1) := by decide +kernel
theorem dX6_key_45 : decode cX6_key 45 = .ok (.invokestatic 87, 3) := by decide +kernel
theorem dX6_key_48 : decode cX6_key 48 = .ok (.ifCond .eq 7, 3) := by decide +kernel
theorem dX6_key_51 : decode cX6_key 51 = .ok (.iconst 1, 1) := by decide +kernel
theorem dX6_key_52 : decode cX6_key 52 = .ok (.goto 4, 3) := by decide +kernel
theorem dX6_key_55 : decode cX6_key 55 = .ok (.iconst 0, 1) := by decide +kernel
theorem dX6_key_56 : decode cX6_key 56 = .ok (.istore 7, 2) := by decide +kernel
theorem dX6_key_58 : decode cX6_key 58 = .ok (.iload 6, 2) := by decide +kernel
theorem dX6_key_60 : decode cX6_key 60 = .ok (.ifCond .eq 21, 3) := by decide +kernel
theorem dX6_key_63 : decode cX6_key 63 = .ok (.iload 7, 2) := by decide +kernel
theorem dX6_key_65 : decode cX6_key 65 = .ok (.ifCond .eq 16, 3) := by decide +kernel
theorem dX6_key_68 : decode cX6_key 68 = .ok (.aload_n 0, 1) := by decide +kernel
theorem dX6_key_69 : decode cX6_key 69 = .ok (.iload_n 1, 1) := by decide +kernel
theorem dX6_key_70 : decode cX6_key 70 = .ok (.iload_n 2, 1) := by decide +kernel
theorem dX6_key_71 : decode cX6_key 71 = .ok (.invokevirtual 105, 3) := by decide +kernel
theorem dX6_key_74 : decode cX6_key 74 = .ok (.ifCond .ne 7, 3) := by decide +kernel
theorem dX6_key_77 : decode cX6_key 77 = .ok (.iconst 1, 1) := by decide +kernel
theorem dX6_key_78 : decode cX6_key 78 = .ok (.goto 4, 3) := by decide +kernel
theorem dX6_key_81 : decode cX6_key 81 = .ok (.iconst 0, 1) := by decide +kernel
theorem dX6_key_82 : decode cX6_key 82 = .ok (.istore 8, 2) := by decide +kernel
theorem dX6_key_84 : decode cX6_key 84 = .ok (.aload_n 0, 1) := by decide +kernel
theorem dX6_key_85 : decode cX6_key 85 = .ok (.iload 6, 2) := by decide +kernel
theorem dX6_key_87 : decode cX6_key 87 = .ok (.ifCond .ne 7, 3) := by decide +kernel
theorem dX6_key_90 : decode cX6_key 90 = .ok (.iconst 1, 1) := by decide +kernel
theorem dX6_key_91 : decode cX6_key 91 = .ok (.goto 33, 3) := by decide +kernel
theorem dX6_key_94 : decode cX6_key 94 = .ok (.iload 7, 2) := by decide +kernel
theorem dX6_key_96 : decode cX6_key 96 = .ok (.ifCond .ne 7, 3) := by decide +kernel
theorem dX6_key_99 : decode cX6_key 99 = .ok (.iconst 2, 1) := by decide +kernel
theorem dX6_key_100 : decode cX6_key 100 = .ok (.goto 24, 3) := by decide +kernel
theorem dX6_key_103 : decode cX6_key 103 = .ok (.iload 8, 2) := by decide +kernel
theorem dX6_key_105 : decode cX6_key 105 = .ok (.ifCond .eq 18, 3) := by decide +kernel
theorem dX6_key_108 : decode cX6_key 108 = .ok (.aload_n 0, 1) := by decide +kernel
theorem dX6_key_109 : decode cX6_key 109 = .ok (.getfield 16, 3) := by decide +kernel
theorem dX6_key_112 : decode cX6_key 112 = .ok (.iload_n 1, 1) := by decide +kernel
theorem dX6_key_113 : decode cX6_key 113 = .ok (.iaload, 1) := by decide +kernel
theorem dX6_key_114 : decode cX6_key 114 = .ok (.bipush 12, 2) := by decide +kernel
theorem dX6_key_116 : decode cX6_key 116 = .ok (.if_icmp .ne 7, 3) := by decide +kernel
theorem dX6_key_119 : decode cX6_key 119 = .ok (.iconst 3, 1) := by decide +kernel
theorem dX6_key_120 : decode cX6_key 120 = .ok (.goto 4, 3) := by decide +kernel
theorem dX6_key_123 : decode cX6_key 123 = .ok (.iconst 0, 1) := by decide +kernel
theorem dX6_key_124 : decode cX6_key 124 = .ok (.invokevirtual 94, 3) := by decide +kernel
theorem dX6_key_127 : decode cX6_key 127 = .ok (.ifCond .ne 5, 3) := by decide +kernel
theorem dX6_key_130 : decode cX6_key 130 = .ok (.iconst 0, 1) := by decide +kernel
theorem dX6_key_131 : decode cX6_key 131 = .ok (.ireturn, 1) := by decide +kernel
theorem dX6_key_132 : decode cX6_key 132 = .ok (.bipush 12, 2) := by decide +kernel
theorem dX6_key_134 : decode cX6_key 134 = .ok (.iload_n 1, 1) := by decide +kernel
theorem dX6_key_135 : decode cX6_key 135 = .ok (.imul, 1) := by decide +kernel
theorem dX6_key_136 : decode cX6_key 136 = .ok (.aload_n 0, 1) := by decide +kernel
theorem dX6_key_137 : decode cX6_key 137 = .ok (.iload_n 1, 1) := by decide +kernel
theorem dX6_key_138 : decode cX6_key 138 = .ok (.iload_n 2, 1) := by decide +kernel
theorem dX6_key_139 : decode cX6_key 139 = .ok (.invokevirtual 101, 3) := by decide +kernel
theorem dX6_key_142 : decode cX6_key 142 = .ok (.iadd, 1) := by decide +kernel
theorem dX6_key_143 : decode cX6_key 143 = .ok (.istore 9, 2) := by decide +kernel
theorem dX6_key_145 : decode cX6_key 145 = .ok (.iload 8, 2) := by decide +kernel
theorem dX6_key_147 : decode cX6_key 147 = .ok (.ifCond .eq 49, 3) := by decide +kernel
theorem dX6_key_150 : decode cX6_key 150 = .ok (.bipush 12, 2) := by decide +kernel
theorem dX6_key_152 : decode cX6_key 152 = .ok (.iload_n 1, 1) := by decide +kernel
theorem dX6_key_153 : decode cX6_key 153 = .ok (.imul, 1) := by decide +kernel
theorem dX6_key_154 : decode cX6_key 154 = .ok (.aload_n 0, 1) := by decide +kernel
theorem dX6_key_155 : decode cX6_key 155 = .ok (.getfield 16, 3) := by decide +kernel
theorem dX6_key_158 : decode cX6_key 158 = .ok (.iload_n 1, 1) := by decide +kernel
theorem dX6_key_159 : decode cX6_key 159 = .ok (.iaload, 1) := by decide +kernel
theorem dX6_key_160 : decode cX6_key 160 = .ok (.iadd, 1) := by decide +kernel
theorem dX6_key_161 : decode cX6_key 161 = .ok (.istore 10, 2) := by decide +kernel
theorem dX6_key_163 : decode cX6_key 163 = .ok (.iload 10, 2) := by decide +kernel
theorem dX6_key_165 : decode cX6_key 165 = .ok (.iload 9, 2) := by decide +kernel
theorem dX6_key_167 : decode cX6_key 167 = .ok (.if_icmp .le 19, 3) := by decide +kernel
theorem dX6_key_170 : decode cX6_key 170 = .ok (.aload_n 0, 1) := by decide +kernel
theorem dX6_key_171 : decode cX6_key 171 = .ok (.iload 10, 2) := by decide +kernel
theorem dX6_key_173 : decode cX6_key 173 = .ok (.iconst 1, 1) := by decide +kernel
theorem dX6_key_174 : decode cX6_key 174 = .ok (.isub, 1) := by decide +kernel
theorem dX6_key_175 : decode cX6_key 175 = .ok (.iload 10, 2) := by decide +kernel
theorem dX6_key_177 : decode cX6_key 177 = .ok (.invokevirtual 109, 3) := by decide +kernel
theorem dX6_key_180 : decode cX6_key 180 = .ok (.iinc 10 (-1), 3) := by decide +kernel
theorem dX6_key_183 : decode cX6_key 183 = .ok (.goto (-20), 3) := by decide +kernel
theorem dX6_key_186 : decode cX6_key 186 = .ok (.aload_n 0, 1) := by decide +kernel
theorem dX6_key_187 : decode cX6_key 187 = .ok (.getfield 16, 3) := by decide +kernel
theorem dX6_key_190 : decode cX6_key 190 = .ok (.iload_n 1, 1) := by decide +kernel
theorem dX6_key_191 : decode cX6_key 191 = .ok (.dup2, 1) := by decide +kernel
theorem dX6_key_192 : decode cX6_key 192 = .ok (.iaload, 1) := by decide +kernel
theorem dX6_key_193 : decode cX6_key 193 = .ok (.iconst 1, 1) := by decide +kernel
theorem dX6_key_194 : decode cX6_key 194 = .ok (.iadd, 1) := by decide +kernel
theorem dX6_key_195 : decode cX6_key 195 = .ok (.iastore, 1) := by decide +kernel
theorem dX6_key_196 : decode cX6_key 196 = .ok (.aload_n 0, 1) := by decide +kernel
theorem dX6_key_197 : decode cX6_key 197 = .ok (.getfield 25, 3) := by decide +kernel
theorem dX6_key_200 : decode cX6_key 200 = .ok (.iload 9, 2) := by decide +kernel
theorem dX6_key_202 : decode cX6_key 202 = .ok (.iload_n 2, 1) := by decide +kernel
theorem dX6_key_203 : decode cX6_key 203 = .ok (.iastore, 1) := by decide +kernel
theorem dX6_key_204 : decode cX6_key 204 = .ok (.aload_n 0, 1) := by decide +kernel
theorem dX6_key_205 : decode cX6_key 205 = .ok (.getfield 28, 3) := by decide +kernel
theorem dX6_key_208 : decode cX6_key 208 = .ok (.iload 9, 2) := by decide +kernel
theorem dX6_key_210 : decode cX6_key 210 = .ok (.iload_n 3, 1) := by decide +kernel
theorem dX6_key_211 : decode cX6_key 211 = .ok (.iastore, 1) := by decide +kernel
theorem dX6_key_212 : decode cX6_key 212 = .ok (.aload_n 0, 1) := by decide +kernel
theorem dX6_key_213 : decode cX6_key 213 = .ok (.getfield 31, 3) := by decide +kernel
theorem dX6_key_216 : decode cX6_key 216 = .ok (.iload 9, 2) := by decide +kernel
theorem dX6_key_218 : decode cX6_key 218 = .ok (.iload 4, 2) := by decide +kernel
theorem dX6_key_220 : decode cX6_key 220 = .ok (.iastore, 1) := by decide +kernel
theorem dX6_key_221 : decode cX6_key 221 = .ok (.aload_n 0, 1) := by decide +kernel
theorem dX6_key_222 : decode cX6_key 222 = .ok (.getfield 34, 3) := by decide +kernel
theorem dX6_key_225 : decode cX6_key 225 = .ok (.iload 9, 2) := by decide +kernel
theorem dX6_key_227 : decode cX6_key 227 = .ok (.iload 5, 2) := by decide +kernel
theorem dX6_key_229 : decode cX6_key 229 = .ok (.iastore, 1) := by decide +kernel
theorem dX6_key_230 : decode cX6_key 230 = .ok (.aload_n 0, 1) := by decide +kernel
theorem dX6_key_231 : decode cX6_key 231 = .ok (.getfield 16, 3) := by decide +kernel
theorem dX6_key_234 : decode cX6_key 234 = .ok (.iload_n 1, 1) := by decide +kernel
theorem dX6_key_235 : decode cX6_key 235 = .ok (.iaload, 1) := by decide +kernel
theorem dX6_key_236 : decode cX6_key 236 = .ok (.ireturn, 1) := by decide +kernel
theorem dX6_hasKey_0 : decode cX6_hasKey 0 = .ok (.aload_n 0, 1) := by decide +kernel
theorem dX6_hasKey_1 : decode cX6_hasKey 1 = .ok (.iload_n 1, 1) := by decide +kernel
theorem dX6_hasKey_2 : decode cX6_hasKey 2 = .ok (.iload_n 2, 1) := by decide +kernel
theorem dX6_hasKey_3 : decode cX6_hasKey 3 = .ok (.invokevirtual 101, 3) := by decide +kernel
theorem dX6_hasKey_6 : decode cX6_hasKey 6 = .ok (.istore_n 3, 1) := by decide +kernel
theorem dX6_hasKey_7 : decode cX6_hasKey 7 = .ok (.iload_n 3, 1) := by decide +kernel
theorem dX6_hasKey_8 : decode cX6_hasKey 8 = .ok (.aload_n 0, 1) := by decide +kernel
theorem dX6_hasKey_9 : decode cX6_hasKey 9 = .ok (.getfield 16, 3) := by decide +kernel
theorem dX6_hasKey_12 : decode cX6_hasKey 12 = .ok (.iload_n 1, 1) := by decide +kernel
theorem dX6_hasKey_13 : decode cX6_hasKey 13 = .ok (.iaload, 1) := by decide +kernel
theorem dX6_hasKey_14 : decode cX6_hasKey 14 = .ok (.if_icmp .ge 22, 3) := by decide +kernel
theorem dX6_hasKey_17 : decode cX6_hasKey 17 = .ok (.aload_n 0, 1) := by decide +kernel
theorem dX6_hasKey_18 : decode cX6_hasKey 18 = .ok (.getfield 25, 3) := by decide +kernel
theorem dX6_hasKey_21 : decode cX6_hasKey 21 = .ok (.bipush 12, 2) := by decide +kernel
theorem dX6_hasKey_23 : decode cX6_hasKey 23 = .ok (.iload_n 1, 1) := by decide +kernel
theorem dX6_hasKey_24 : decode cX6_hasKey 24 = .ok (.imul, 1) := by decide +kernel
theorem dX6_hasKey_25 : decode cX6_hasKey 25 = .ok (.iload_n 3, 1) := by decide +kernel
theorem dX6_hasKey_26 : decode cX6_hasKey 26 = .ok (.iadd, 1) := by decide +kernel
theorem dX6_hasKey_27 : decode cX6_hasKey 27 = .ok (.iaload, 1) := by decide +kernel
theorem dX6_hasKey_28 : decode cX6_hasKey 28 = .ok (.iload_n 2, 1) := by decide +kernel
theorem dX6_hasKey_29 : decode cX6_hasKey 29 = .ok (.if_icmp .ne 7, 3) := by decide +kernel
theorem dX6_hasKey_32 : decode cX6_hasKey 32 = .ok (.iconst 1, 1) := by decide +kernel
theorem dX6_hasKey_33 : decode cX6_hasKey 33 = .ok (.goto 4, 3) := by decide +kernel
theorem dX6_hasKey_36 : decode cX6_hasKey 36 = .ok (.iconst 0, 1) := by decide +kernel
theorem dX6_hasKey_37 : decode cX6_hasKey 37 = .ok (.ireturn, 1) := by decide +kernel
theorem dX6_placeOf_0 : decode cX6_placeOf 0 = .ok (.iconst 0, 1) := by decide +kernel
theorem dX6_placeOf_1 : decode cX6_placeOf 1 = .ok (.istore_n 3, 1) := by decide +kernel
theorem dX6_placeOf_2 : decode cX6_placeOf 2 = .ok (.iload_n 3, 1) := by decide +kernel
theorem dX6_placeOf_3 : decode cX6_placeOf 3 = .ok (.aload_n 0, 1) := by decide +kernel
theorem dX6_placeOf_4 : decode cX6_placeOf 4 = .ok (.getfield 16, 3) := by decide +kernel
theorem dX6_placeOf_7 : decode cX6_placeOf 7 = .ok (.iload_n 1, 1) := by decide +kernel
theorem dX6_placeOf_8 : decode cX6_placeOf 8 = .ok (.iaload, 1) := by decide +kernel
theorem dX6_placeOf_9 : decode cX6_placeOf 9 = .ok (.if_icmp .ge 24, 3) := by decide +kernel
theorem dX6_placeOf_12 : decode cX6_placeOf 12 = .ok (.aload_n 0, 1) := by decide +kernel
theorem dX6_placeOf_13 : decode cX6_placeOf 13 = .ok (.getfield 25, 3) := by decide +kernel
theorem dX6_placeOf_16 : decode cX6_placeOf 16 = .ok (.bipush 12, 2) := by decide +kernel
theorem dX6_placeOf_18 : decode cX6_placeOf 18 = .ok (.iload_n 1, 1) := by decide +kernel
theorem dX6_placeOf_19 : decode cX6_placeOf 19 = .ok (.imul, 1) := by decide +kernel
theorem dX6_placeOf_20 : decode cX6_placeOf 20 = .ok (.iload_n 3, 1) := by decide +kernel
theorem dX6_placeOf_21 : decode cX6_placeOf 21 = .ok (.iadd, 1) := by decide +kernel
theorem dX6_placeOf_22 : decode cX6_placeOf 22 = .ok (.iaload, 1) := by decide +kernel
theorem dX6_placeOf_23 : decode cX6_placeOf 23 = .ok (.iload_n 2, 1) := by decide +kernel
theorem dX6_placeOf_24 : decode cX6_placeOf 24 = .ok (.if_icmp .ge 9, 3) := by decide +kernel
theorem dX6_placeOf_27 : decode cX6_placeOf 27 = .ok (.iinc 3 1, 3) := by decide +kernel
theorem dX6_placeOf_30 : decode cX6_placeOf 30 = .ok (.goto (-28), 3) := by decide +kernel
theorem dX6_placeOf_33 : decode cX6_placeOf 33 = .ok (.iload_n 3, 1) := by decide +kernel
theorem dX6_placeOf_34 : decode cX6_placeOf 34 = .ok (.ireturn, 1) := by decide +kernel
theorem dX6_copies_0 : decode cX6_copies 0 = .ok (.aload_n 0, 1) := by decide +kernel
theorem dX6_copies_1 : decode cX6_copies 1 = .ok (.getfield 25, 3) := by decide +kernel
theorem dX6_copies_4 : decode cX6_copies 4 = .ok (.iload_n 2, 1) := by decide +kernel
theorem dX6_copies_5 : decode cX6_copies 5 = .ok (.aload_n 0, 1) := by decide +kernel
theorem dX6_copies_6 : decode cX6_copies 6 = .ok (.getfield 25, 3) := by decide +kernel
theorem dX6_copies_9 : decode cX6_copies 9 = .ok (.iload_n 1, 1) := by decide +kernel
theorem dX6_copies_10 : decode cX6_copies 10 = .ok (.iaload, 1) := by decide +kernel
theorem dX6_copies_11 : decode cX6_copies 11 = .ok (.iastore, 1) := by decide +kernel
theorem dX6_copies_12 : decode cX6_copies 12 = .ok (.aload_n 0, 1) := by decide +kernel
theorem dX6_copies_13 : decode cX6_copies 13 = .ok (.getfield 28, 3) := by decide +kernel
theorem dX6_copies_16 : decode cX6_copies 16 = .ok (.iload_n 2, 1) := by decide +kernel
theorem dX6_copies_17 : decode cX6_copies 17 = .ok (.aload_n 0, 1) := by decide +kernel
theorem dX6_copies_18 : decode cX6_copies 18 = .ok (.getfield 28, 3) := by decide +kernel
theorem dX6_copies_21 : decode cX6_copies 21 = .ok (.iload_n 1, 1) := by decide +kernel
theorem dX6_copies_22 : decode cX6_copies 22 = .ok (.iaload, 1) := by decide +kernel
theorem dX6_copies_23 : decode cX6_copies 23 = .ok (.iastore, 1) := by decide +kernel
theorem dX6_copies_24 : decode cX6_copies 24 = .ok (.aload_n 0, 1) := by decide +kernel
theorem dX6_copies_25 : decode cX6_copies 25 = .ok (.getfield 31, 3) := by decide +kernel
theorem dX6_copies_28 : decode cX6_copies 28 = .ok (.iload_n 2, 1) := by decide +kernel
theorem dX6_copies_29 : decode cX6_copies 29 = .ok (.aload_n 0, 1) := by decide +kernel
theorem dX6_copies_30 : decode cX6_copies 30 = .ok (.getfield 31, 3) := by decide +kernel
theorem dX6_copies_33 : decode cX6_copies 33 = .ok (.iload_n 1, 1) := by decide +kernel
theorem dX6_copies_34 : decode cX6_copies 34 = .ok (.iaload, 1) := by decide +kernel
theorem dX6_copies_35 : decode cX6_copies 35 = .ok (.iastore, 1) := by decide +kernel
theorem dX6_copies_36 : decode cX6_copies 36 = .ok (.aload_n 0, 1) := by decide +kernel
theorem dX6_copies_37 : decode cX6_copies 37 = .ok (.getfield 34, 3) := by decide +kernel
theorem dX6_copies_40 : decode cX6_copies 40 = .ok (.iload_n 2, 1) := by decide +kernel
theorem dX6_copies_41 : decode cX6_copies 41 = .ok (.aload_n 0, 1) := by decide +kernel
theorem dX6_copies_42 : decode cX6_copies 42 = .ok (.getfield 34, 3) := by decide +kernel
theorem dX6_copies_45 : decode cX6_copies 45 = .ok (.iload_n 1, 1) := by decide +kernel
theorem dX6_copies_46 : decode cX6_copies 46 = .ok (.iaload, 1) := by decide +kernel
theorem dX6_copies_47 : decode cX6_copies 47 = .ok (.iastore, 1) := by decide +kernel
theorem dX6_copies_48 : decode cX6_copies 48 = .ok (.return_, 1) := by decide +kernel
theorem dX6_cutKey_0 : decode cX6_cutKey 0 = .ok (.aload_n 0, 1) := by decide +kernel
theorem dX6_cutKey_1 : decode cX6_cutKey 1 = .ok (.iload_n 1, 1) := by decide +kernel
theorem dX6_cutKey_2 : decode cX6_cutKey 2 = .ok (.invokevirtual 98, 3) := by decide +kernel
theorem dX6_cutKey_5 : decode cX6_cutKey 5 = .ok (.istore_n 3, 1) := by decide +kernel
theorem dX6_cutKey_6 : decode cX6_cutKey 6 = .ok (.aload_n 0, 1) := by decide +kernel
theorem dX6_cutKey_7 : decode cX6_cutKey 7 = .ok (.iload_n 3, 1) := by decide +kernel
theorem dX6_cutKey_8 : decode cX6_cutKey 8 = .ok (.ifCond .ne 7, 3) := by decide +kernel
theorem dX6_cutKey_11 : decode cX6_cutKey 11 = .ok (.iconst 1, 1) := by decide +kernel
theorem dX6_cutKey_12 : decode cX6_cutKey 12 = .ok (.goto 17, 3) := by decide +kernel
theorem dX6_cutKey_15 : decode cX6_cutKey 15 = .ok (.aload_n 0, 1) := by decide +kernel
theorem dX6_cutKey_16 : decode cX6_cutKey 16 = .ok (.iload_n 1, 1) := by decide +kernel
theorem dX6_cutKey_17 : decode cX6_cutKey 17 = .ok (.iload_n 2, 1) := by decide +kernel
theorem dX6_cutKey_18 : decode cX6_cutKey 18 = .ok (.invokevirtual 105, 3) := by decide +kernel
theorem dX6_cutKey_21 : decode cX6_cutKey 21 = .ok (.ifCond .ne 7, 3) := by decide +kernel
theorem dX6_cutKey_24 : decode cX6_cutKey 24 = .ok (.iconst 2, 1) := by decide +kernel
theorem dX6_cutKey_25 : decode cX6_cutKey 25 = .ok (.goto 4, 3) := by decide +kernel
theorem dX6_cutKey_28 : decode cX6_cutKey 28 = .ok (.iconst 0, 1) := by decide +kernel
theorem dX6_cutKey_29 : decode cX6_cutKey 29 = .ok (.invokevirtual 94, 3) := by decide +kernel
theorem dX6_cutKey_32 : decode cX6_cutKey 32 = .ok (.ifCond .ne 5, 3) := by decide +kernel
theorem dX6_cutKey_35 : decode cX6_cutKey 35 = .ok (.iconst 0, 1) := by decide +kernel
theorem dX6_cutKey_36 : decode cX6_cutKey 36 = .ok (.ireturn, 1) := by decide +kernel
theorem dX6_cutKey_37 : decode cX6_cutKey 37 = .ok (.aload_n 0, 1) := by decide +kernel
theorem dX6_cutKey_38 : decode cX6_cutKey 38 = .ok (.getfield 16, 3) := by decide +kernel
theorem dX6_cutKey_41 : decode cX6_cutKey 41 = .ok (.iload_n 1, 1) := by decide +kernel
theorem dX6_cutKey_42 : decode cX6_cutKey 42 = .ok (.dup2, 1) := by decide +kernel
theorem dX6_cutKey_43 : decode cX6_cutKey 43 = .ok (.iaload, 1) := by decide +kernel
theorem dX6_cutKey_44 : decode cX6_cutKey 44 = .ok (.iconst 1, 1) := by decide +kernel
theorem dX6_cutKey_45 : decode cX6_cutKey 45 = .ok (.isub, 1) := by decide +kernel
theorem dX6_cutKey_46 : decode cX6_cutKey 46 = .ok (.iastore, 1) := by decide +kernel
theorem dX6_cutKey_47 : decode cX6_cutKey 47 = .ok (.bipush 12, 2) := by decide +kernel
theorem dX6_cutKey_49 : decode cX6_cutKey 49 = .ok (.iload_n 1, 1) := by decide +kernel
theorem dX6_cutKey_50 : decode cX6_cutKey 50 = .ok (.imul, 1) := by decide +kernel
theorem dX6_cutKey_51 : decode cX6_cutKey 51 = .ok (.aload_n 0, 1) := by decide +kernel
theorem dX6_cutKey_52 : decode cX6_cutKey 52 = .ok (.iload_n 1, 1) := by decide +kernel
theorem dX6_cutKey_53 : decode cX6_cutKey 53 = .ok (.iload_n 2, 1) := by decide +kernel
theorem dX6_cutKey_54 : decode cX6_cutKey 54 = .ok (.invokevirtual 101, 3) := by decide +kernel
theorem dX6_cutKey_57 : decode cX6_cutKey 57 = .ok (.iadd, 1) := by decide +kernel
theorem dX6_cutKey_58 : decode cX6_cutKey 58 = .ok (.istore 4, 2) := by decide +kernel
theorem dX6_cutKey_60 : decode cX6_cutKey 60 = .ok (.iload 4, 2) := by decide +kernel
theorem dX6_cutKey_62 : decode cX6_cutKey 62 = .ok (.bipush 12, 2) := by decide +kernel
theorem dX6_cutKey_64 : decode cX6_cutKey 64 = .ok (.iload_n 1, 1) := by decide +kernel
theorem dX6_cutKey_65 : decode cX6_cutKey 65 = .ok (.imul, 1) := by decide +kernel
theorem dX6_cutKey_66 : decode cX6_cutKey 66 = .ok (.aload_n 0, 1) := by decide +kernel
theorem dX6_cutKey_67 : decode cX6_cutKey 67 = .ok (.getfield 16, 3) := by decide +kernel
theorem dX6_cutKey_70 : decode cX6_cutKey 70 = .ok (.iload_n 1, 1) := by decide +kernel
theorem dX6_cutKey_71 : decode cX6_cutKey 71 = .ok (.iaload, 1) := by decide +kernel
theorem dX6_cutKey_72 : decode cX6_cutKey 72 = .ok (.iadd, 1) := by decide +kernel
theorem dX6_cutKey_73 : decode cX6_cutKey 73 = .ok (.if_icmp .ge 19, 3) := by decide +kernel
theorem dX6_cutKey_76 : decode cX6_cutKey 76 = .ok (.aload_n 0, 1) := by decide +kernel
theorem dX6_cutKey_77 : decode cX6_cutKey 77 = .ok (.iload 4, 2) := by decide +kernel
theorem dX6_cutKey_79 : decode cX6_cutKey 79 = .ok (.iconst 1, 1) := by decide +kernel
theorem dX6_cutKey_80 : decode cX6_cutKey 80 = .ok (.iadd, 1) := by decide +kernel
theorem dX6_cutKey_81 : decode cX6_cutKey 81 = .ok (.iload 4, 2) := by decide +kernel
theorem dX6_cutKey_83 : decode cX6_cutKey 83 = .ok (.invokevirtual 109, 3) := by decide +kernel
theorem dX6_cutKey_86 : decode cX6_cutKey 86 = .ok (.iinc 4 1, 3) := by decide +kernel
theorem dX6_cutKey_89 : decode cX6_cutKey 89 = .ok (.goto (-29), 3) := by decide +kernel
theorem dX6_cutKey_92 : decode cX6_cutKey 92 = .ok (.aload_n 0, 1) := by decide +kernel
theorem dX6_cutKey_93 : decode cX6_cutKey 93 = .ok (.getfield 16, 3) := by decide +kernel
theorem dX6_cutKey_96 : decode cX6_cutKey 96 = .ok (.iload_n 1, 1) := by decide +kernel
theorem dX6_cutKey_97 : decode cX6_cutKey 97 = .ok (.iaload, 1) := by decide +kernel
theorem dX6_cutKey_98 : decode cX6_cutKey 98 = .ok (.ireturn, 1) := by decide +kernel
theorem dX6_hear_0 : decode cX6_hear 0 = .ok (.aload_n 0, 1) := by decide +kernel
theorem dX6_hear_1 : decode cX6_hear 1 = .ok (.iload_n 1, 1) := by decide +kernel
theorem dX6_hear_2 : decode cX6_hear 2 = .ok (.invokestatic 113, 3) := by decide +kernel
theorem dX6_hear_5 : decode cX6_hear 5 = .ok (.ifCond .ne 7, 3) := by decide +kernel
theorem dX6_hear_8 : decode cX6_hear 8 = .ok (.iconst 1, 1) := by decide +kernel
theorem dX6_hear_9 : decode cX6_hear 9 = .ok (.goto 19, 3) := by decide +kernel
theorem dX6_hear_12 : decode cX6_hear 12 = .ok (.iload_n 2, 1) := by decide +kernel
theorem dX6_hear_13 : decode cX6_hear 13 = .ok (.iconst (-1), 1) := by decide +kernel
theorem dX6_hear_14 : decode cX6_hear 14 = .ok (.sipush 999, 3) := by decide +kernel
theorem dX6_hear_17 : decode cX6_hear 17 = .ok (.invokestatic 87, 3) := by decide +kernel
theorem dX6_hear_20 : decode cX6_hear 20 = .ok (.ifCond .ne 7, 3) := by decide +kernel
theorem dX6_hear_23 : decode cX6_hear 23 = .ok (.iconst 2, 1) := by decide +kernel
theorem dX6_hear_24 : decode cX6_hear 24 = .ok (.goto 4, 3) := by decide +kernel
theorem dX6_hear_27 : decode cX6_hear 27 = .ok (.iconst 0, 1) := by decide +kernel
theorem dX6_hear_28 : decode cX6_hear 28 = .ok (.invokevirtual 94, 3) := by decide +kernel
theorem dX6_hear_31 : decode cX6_hear 31 = .ok (.ifCond .ne 5, 3) := by decide +kernel
theorem dX6_hear_34 : decode cX6_hear 34 = .ok (.iconst 0, 1) := by decide +kernel
theorem dX6_hear_35 : decode cX6_hear 35 = .ok (.ireturn, 1) := by decide +kernel
theorem dX6_hear_36 : decode cX6_hear 36 = .ok (.aload_n 0, 1) := by decide +kernel
theorem dX6_hear_37 : decode cX6_hear 37 = .ok (.getfield 46, 3) := by decide +kernel
theorem dX6_hear_40 : decode cX6_hear 40 = .ok (.iload_n 1, 1) := by decide +kernel
theorem dX6_hear_41 : decode cX6_hear 41 = .ok (.iaload, 1) := by decide +kernel
theorem dX6_hear_42 : decode cX6_hear 42 = .ok (.istore_n 3, 1) := by decide +kernel
theorem dX6_hear_43 : decode cX6_hear 43 = .ok (.aload_n 0, 1) := by decide +kernel
theorem dX6_hear_44 : decode cX6_hear 44 = .ok (.getfield 46, 3) := by decide +kernel
theorem dX6_hear_47 : decode cX6_hear 47 = .ok (.iload_n 1, 1) := by decide +kernel
theorem dX6_hear_48 : decode cX6_hear 48 = .ok (.iload_n 2, 1) := by decide +kernel
theorem dX6_hear_49 : decode cX6_hear 49 = .ok (.iastore, 1) := by decide +kernel
theorem dX6_hear_50 : decode cX6_hear 50 = .ok (.iload_n 3, 1) := by decide +kernel
theorem dX6_hear_51 : decode cX6_hear 51 = .ok (.ireturn, 1) := by decide +kernel
theorem dX6_isSound_0 : decode cX6_isSound 0 = .ok (.iload_n 0, 1) := by decide +kernel
theorem dX6_isSound_1 : decode cX6_isSound 1 = .ok (.iconst 0, 1) := by decide +kernel
theorem dX6_isSound_2 : decode cX6_isSound 2 = .ok (.bipush 9, 2) := by decide +kernel
theorem dX6_isSound_4 : decode cX6_isSound 4 = .ok (.invokestatic 87, 3) := by decide +kernel
theorem dX6_isSound_7 : decode cX6_isSound 7 = .ok (.ireturn, 1) := by decide +kernel
theorem dX6_cue_0 : decode cX6_cue 0 = .ok (.aload_n 0, 1) := by decide +kernel
theorem dX6_cue_1 : decode cX6_cue 1 = .ok (.aload_n 0, 1) := by decide +kernel
theorem dX6_cue_2 : decode cX6_cue 2 = .ok (.iload_n 1, 1) := by decide +kernel
theorem dX6_cue_3 : decode cX6_cue 3 = .ok (.invokevirtual 98, 3) := by decide +kernel
theorem dX6_cue_6 : decode cX6_cue 6 = .ok (.ifCond .eq 19, 3) := by decide +kernel
theorem dX6_cue_9 : decode cX6_cue 9 = .ok (.iload_n 2, 1) := by decide +kernel
theorem dX6_cue_10 : decode cX6_cue 10 = .ok (.iconst (-1), 1) := by decide +kernel
theorem dX6_cue_11 : decode cX6_cue 11 = .ok (.if_icmp .eq 10, 3) := by decide +kernel
theorem dX6_cue_14 : decode cX6_cue 14 = .ok (.iload_n 2, 1) := by decide +kernel
theorem dX6_cue_15 : decode cX6_cue 15 = .ok (.invokestatic 113, 3) := by decide +kernel
theorem dX6_cue_18 : decode cX6_cue 18 = .ok (.ifCond .eq 7, 3) := by decide +kernel
theorem dX6_cue_21 : decode cX6_cue 21 = .ok (.iconst 0, 1) := by decide +kernel
theorem dX6_cue_22 : decode cX6_cue 22 = .ok (.goto 4, 3) := by decide +kernel
theorem dX6_cue_25 : decode cX6_cue 25 = .ok (.iconst 1, 1) := by decide +kernel
theorem dX6_cue_26 : decode cX6_cue 26 = .ok (.invokevirtual 94, 3) := by decide +kernel
theorem dX6_cue_29 : decode cX6_cue 29 = .ok (.ifCond .ne 5, 3) := by decide +kernel
theorem dX6_cue_32 : decode cX6_cue 32 = .ok (.iconst 0, 1) := by decide +kernel
theorem dX6_cue_33 : decode cX6_cue 33 = .ok (.ireturn, 1) := by decide +kernel
theorem dX6_cue_34 : decode cX6_cue 34 = .ok (.aload_n 0, 1) := by decide +kernel
theorem dX6_cue_35 : decode cX6_cue 35 = .ok (.getfield 19, 3) := by decide +kernel
theorem dX6_cue_38 : decode cX6_cue 38 = .ok (.iload_n 1, 1) := by decide +kernel
theorem dX6_cue_39 : decode cX6_cue 39 = .ok (.iaload, 1) := by decide +kernel
theorem dX6_cue_40 : decode cX6_cue 40 = .ok (.istore_n 3, 1) := by decide +kernel
theorem dX6_cue_41 : decode cX6_cue 41 = .ok (.aload_n 0, 1) := by decide +kernel
theorem dX6_cue_42 : decode cX6_cue 42 = .ok (.getfield 19, 3) := by decide +kernel
theorem dX6_cue_45 : decode cX6_cue 45 = .ok (.iload_n 1, 1) := by decide +kernel
theorem dX6_cue_46 : decode cX6_cue 46 = .ok (.iload_n 2, 1) := by decide +kernel
theorem dX6_cue_47 : decode cX6_cue 47 = .ok (.iastore, 1) := by decide +kernel
theorem dX6_cue_48 : decode cX6_cue 48 = .ok (.iload_n 3, 1) := by decide +kernel
theorem dX6_cue_49 : decode cX6_cue 49 = .ok (.ireturn, 1) := by decide +kernel
theorem dX6_show_0 : decode cX6_show 0 = .ok (.iload_n 1, 1) := by decide +kernel
theorem dX6_show_1 : decode cX6_show 1 = .ok (.iconst 0, 1) := by decide +kernel
theorem dX6_show_2 : decode cX6_show 2 = .ok (.ldc 116, 2) := by decide +kernel
theorem dX6_show_4 : decode cX6_show 4 = .ok (.invokestatic 87, 3) := by decide +kernel
theorem dX6_show_7 : decode cX6_show 7 = .ok (.ifCond .eq 18, 3) := by decide +kernel
theorem dX6_show_10 : decode cX6_show 10 = .ok (.iload_n 2, 1) := by decide +kernel
theorem dX6_show_11 : decode cX6_show 11 = .ok (.iconst 1, 1) := by decide +kernel
theorem dX6_show_12 : decode cX6_show 12 = .ok (.sipush 600, 3) := by decide +kernel
theorem dX6_show_15 : decode cX6_show 15 = .ok (.invokestatic 87, 3) := by decide +kernel
theorem dX6_show_18 : decode cX6_show 18 = .ok (.ifCond .eq 7, 3) := by decide +kernel
theorem dX6_show_21 : decode cX6_show 21 = .ok (.iconst 1, 1) := by decide +kernel
theorem dX6_show_22 : decode cX6_show 22 = .ok (.goto 4, 3) := by decide +kernel
theorem dX6_show_25 : decode cX6_show 25 = .ok (.iconst 0, 1) := by decide +kernel
theorem dX6_show_26 : decode cX6_show 26 = .ok (.istore_n 3, 1) := by decide +kernel
theorem dX6_show_27 : decode cX6_show 27 = .ok (.aload_n 0, 1) := by decide +kernel
theorem dX6_show_28 : decode cX6_show 28 = .ok (.iload_n 3, 1) := by decide +kernel
theorem dX6_show_29 : decode cX6_show 29 = .ok (.ifCond .ne 7, 3) := by decide +kernel
theorem dX6_show_32 : decode cX6_show 32 = .ok (.iconst 1, 1) := by decide +kernel
theorem dX6_show_33 : decode cX6_show 33 = .ok (.goto 17, 3) := by decide +kernel
theorem dX6_show_36 : decode cX6_show 36 = .ok (.aload_n 0, 1) := by decide +kernel
theorem dX6_show_37 : decode cX6_show 37 = .ok (.getfield 91, 3) := by decide +kernel
theorem dX6_show_40 : decode cX6_show 40 = .ok (.bipush 6, 2) := by decide +kernel
theorem dX6_show_42 : decode cX6_show 42 = .ok (.if_icmp .ne 7, 3) := by decide +kernel
theorem dX6_show_45 : decode cX6_show 45 = .ok (.iconst 2, 1) := by decide +kernel
theorem dX6_show_46 : decode cX6_show 46 = .ok (.goto 4, 3) := by decide +kernel
theorem dX6_show_49 : decode cX6_show 49 = .ok (.iconst 0, 1) := by decide +kernel
theorem dX6_show_50 : decode cX6_show 50 = .ok (.invokevirtual 94, 3) := by decide +kernel
theorem dX6_show_53 : decode cX6_show 53 = .ok (.ifCond .ne 5, 3) := by decide +kernel
theorem dX6_show_56 : decode cX6_show 56 = .ok (.iconst 0, 1) := by decide +kernel
theorem dX6_show_57 : decode cX6_show 57 = .ok (.ireturn, 1) := by decide +kernel
theorem dX6_show_58 : decode cX6_show 58 = .ok (.aload_n 0, 1) := by decide +kernel
theorem dX6_show_59 : decode cX6_show 59 = .ok (.getfield 49, 3) := by decide +kernel
theorem dX6_show_62 : decode cX6_show 62 = .ok (.aload_n 0, 1) := by decide +kernel
theorem dX6_show_63 : decode cX6_show 63 = .ok (.getfield 91, 3) := by decide +kernel
theorem dX6_show_66 : decode cX6_show 66 = .ok (.iload_n 1, 1) := by decide +kernel
theorem dX6_show_67 : decode cX6_show 67 = .ok (.iastore, 1) := by decide +kernel
theorem dX6_show_68 : decode cX6_show 68 = .ok (.aload_n 0, 1) := by decide +kernel
theorem dX6_show_69 : decode cX6_show 69 = .ok (.getfield 52, 3) := by decide +kernel
theorem dX6_show_72 : decode cX6_show 72 = .ok (.aload_n 0, 1) := by decide +kernel
theorem dX6_show_73 : decode cX6_show 73 = .ok (.getfield 91, 3) := by decide +kernel
theorem dX6_show_76 : decode cX6_show 76 = .ok (.iload_n 2, 1) := by decide +kernel
theorem dX6_show_77 : decode cX6_show 77 = .ok (.iastore, 1) := by decide +kernel
theorem dX6_show_78 : decode cX6_show 78 = .ok (.aload_n 0, 1) := by decide +kernel
theorem dX6_show_79 : decode cX6_show 79 = .ok (.dup, 1) := by decide +kernel
theorem dX6_show_80 : decode cX6_show 80 = .ok (.getfield 91, 3) := by decide +kernel
theorem dX6_show_83 : decode cX6_show 83 = .ok (.iconst 1, 1) := by decide +kernel
theorem dX6_show_84 : decode cX6_show 84 = .ok (.iadd, 1) := by decide +kernel
theorem dX6_show_85 : decode cX6_show 85 = .ok (.putfield 91, 3) := by decide +kernel
theorem dX6_show_88 : decode cX6_show 88 = .ok (.aload_n 0, 1) := by decide +kernel
theorem dX6_show_89 : decode cX6_show 89 = .ok (.getfield 91, 3) := by decide +kernel
theorem dX6_show_92 : decode cX6_show 92 = .ok (.iconst 1, 1) := by decide +kernel
theorem dX6_show_93 : decode cX6_show 93 = .ok (.isub, 1) := by decide +kernel
theorem dX6_show_94 : decode cX6_show 94 = .ok (.ireturn, 1) := by decide +kernel
theorem dX6_cast_0 : decode cX6_cast 0 = .ok (.aload_n 0, 1) := by decide +kernel
theorem dX6_cast_1 : decode cX6_cast 1 = .ok (.iload_n 1, 1) := by decide +kernel
theorem dX6_cast_2 : decode cX6_cast 2 = .ok (.invokevirtual 121, 3) := by decide +kernel
theorem dX6_cast_5 : decode cX6_cast 5 = .ok (.ifCond .eq 15, 3) := by decide +kernel
theorem dX6_cast_8 : decode cX6_cast 8 = .ok (.aload_n 0, 1) := by decide +kernel
theorem dX6_cast_9 : decode cX6_cast 9 = .ok (.iload_n 2, 1) := by decide +kernel
theorem dX6_cast_10 : decode cX6_cast 10 = .ok (.invokevirtual 98, 3) := by decide +kernel
theorem dX6_cast_13 : decode cX6_cast 13 = .ok (.ifCond .eq 7, 3) := by decide +kernel
theorem dX6_cast_16 : decode cX6_cast 16 = .ok (.iconst 1, 1) := by decide +kernel
theorem dX6_cast_17 : decode cX6_cast 17 = .ok (.goto 4, 3) := by decide +kernel
theorem dX6_cast_20 : decode cX6_cast 20 = .ok (.iconst 0, 1) := by decide +kernel
theorem dX6_cast_21 : decode cX6_cast 21 = .ok (.istore_n 3, 1) := by decide +kernel
theorem dX6_cast_22 : decode cX6_cast 22 = .ok (.iload_n 3, 1) := by decide +kernel
theorem dX6_cast_23 : decode cX6_cast 23 = .ok (.ifCond .eq 61, 3) := by decide +kernel
theorem dX6_cast_26 : decode cX6_cast 26 = .ok (.aload_n 0, 1) := by decide +kernel
theorem dX6_cast_27 : decode cX6_cast 27 = .ok (.getfield 55, 3) := by decide +kernel
theorem dX6_cast_30 : decode cX6_cast 30 = .ok (.iload_n 1, 1) := by decide +kernel
theorem dX6_cast_31 : decode cX6_cast 31 = .ok (.baload, 1) := by decide +kernel
theorem dX6_cast_32 : decode cX6_cast 32 = .ok (.ifCond .ne 52, 3) := by decide +kernel
theorem dX6_cast_35 : decode cX6_cast 35 = .ok (.aload_n 0, 1) := by decide +kernel
theorem dX6_cast_36 : decode cX6_cast 36 = .ok (.getfield 65, 3) := by decide +kernel
theorem dX6_cast_39 : decode cX6_cast 39 = .ok (.bipush 8, 2) := by decide +kernel
theorem dX6_cast_41 : decode cX6_cast 41 = .ok (.iload_n 1, 1) := by decide +kernel
theorem dX6_cast_42 : decode cX6_cast 42 = .ok (.imul, 1) := by decide +kernel
theorem dX6_cast_43 : decode cX6_cast 43 = .ok (.iload_n 2, 1) := by decide +kernel
theorem dX6_cast_44 : decode cX6_cast 44 = .ok (.iadd, 1) := by decide +kernel
theorem dX6_cast_45 : decode cX6_cast 45 = .ok (.baload, 1) := by decide +kernel
theorem dX6_cast_46 : decode cX6_cast 46 = .ok (.ifCond .ne 38, 3) := by decide +kernel
theorem dX6_cast_49 : decode cX6_cast 49 = .ok (.aload_n 0, 1) := by decide +kernel
theorem dX6_cast_50 : decode cX6_cast 50 = .ok (.getfield 22, 3) := by decide +kernel
theorem dX6_cast_53 : decode cX6_cast 53 = .ok (.iload_n 2, 1) := by decide +kernel
theorem dX6_cast_54 : decode cX6_cast 54 = .ok (.iaload, 1) := by decide +kernel
theorem dX6_cast_55 : decode cX6_cast 55 = .ok (.bipush 50, 2) := by decide +kernel
theorem dX6_cast_57 : decode cX6_cast 57 = .ok (.if_icmp .ge 27, 3) := by decide +kernel
theorem dX6_cast_60 : decode cX6_cast 60 = .ok (.aload_n 0, 1) := by decide +kernel
theorem dX6_cast_61 : decode cX6_cast 61 = .ok (.iload_n 2, 1) := by decide +kernel
theorem dX6_cast_62 : decode cX6_cast 62 = .ok (.aload_n 0, 1) := by decide +kernel
theorem dX6_cast_63 : decode cX6_cast 63 = .ok (.getfield 49, 3) := by decide +kernel
theorem dX6_cast_66 : decode cX6_cast 66 = .ok (.iload_n 1, 1) := by decide +kernel
theorem dX6_cast_67 : decode cX6_cast 67 = .ok (.iaload, 1) := by decide +kernel
theorem dX6_cast_68 : decode cX6_cast 68 = .ok (.aload_n 0, 1) := by decide +kernel
theorem dX6_cast_69 : decode cX6_cast 69 = .ok (.getfield 52, 3) := by decide +kernel
theorem dX6_cast_72 : decode cX6_cast 72 = .ok (.iload_n 1, 1) := by decide +kernel
theorem dX6_cast_73 : decode cX6_cast 73 = .ok (.iaload, 1) := by decide +kernel
theorem dX6_cast_74 : decode cX6_cast 74 = .ok (.invokevirtual 124, 3) := by decide +kernel
theorem dX6_cast_77 : decode cX6_cast 77 = .ok (.ifCond .ne 7, 3) := by decide +kernel
theorem dX6_cast_80 : decode cX6_cast 80 = .ok (.iconst 1, 1) := by decide +kernel
theorem dX6_cast_81 : decode cX6_cast 81 = .ok (.goto 4, 3) := by decide +kernel
theorem dX6_cast_84 : decode cX6_cast 84 = .ok (.iconst 0, 1) := by decide +kernel
theorem dX6_cast_85 : decode cX6_cast 85 = .ok (.istore 4, 2) := by decide +kernel
theorem dX6_cast_87 : decode cX6_cast 87 = .ok (.aload_n 0, 1) := by decide +kernel
theorem dX6_cast_88 : decode cX6_cast 88 = .ok (.iload_n 3, 1) := by decide +kernel
theorem dX6_cast_89 : decode cX6_cast 89 = .ok (.ifCond .ne 7, 3) := by decide +kernel
theorem dX6_cast_92 : decode cX6_cast 92 = .ok (.iconst 1, 1) := by decide +kernel
theorem dX6_cast_93 : decode cX6_cast 93 = .ok (.goto 13, 3) := by decide +kernel
theorem dX6_cast_96 : decode cX6_cast 96 = .ok (.iload 4, 2) := by decide +kernel
theorem dX6_cast_98 : decode cX6_cast 98 = .ok (.ifCond .ne 7, 3) := by decide +kernel
theorem dX6_cast_101 : decode cX6_cast 101 = .ok (.iconst 2, 1) := by decide +kernel
theorem dX6_cast_102 : decode cX6_cast 102 = .ok (.goto 4, 3) := by decide +kernel
theorem dX6_cast_105 : decode cX6_cast 105 = .ok (.iconst 0, 1) := by decide +kernel
theorem dX6_cast_106 : decode cX6_cast 106 = .ok (.invokevirtual 94, 3) := by decide +kernel
theorem dX6_cast_109 : decode cX6_cast 109 = .ok (.ifCond .ne 5, 3) := by decide +kernel
theorem dX6_cast_112 : decode cX6_cast 112 = .ok (.iconst 0, 1) := by decide +kernel
theorem dX6_cast_113 : decode cX6_cast 113 = .ok (.ireturn, 1) := by decide +kernel
theorem dX6_cast_114 : decode cX6_cast 114 = .ok (.aload_n 0, 1) := by decide +kernel
theorem dX6_cast_115 : decode cX6_cast 115 = .ok (.getfield 65, 3) := by decide +kernel
theorem dX6_cast_118 : decode cX6_cast 118 = .ok (.bipush 8, 2) := by decide +kernel
theorem dX6_cast_120 : decode cX6_cast 120 = .ok (.iload_n 1, 1) := by decide +kernel
theorem dX6_cast_121 : decode cX6_cast 121 = .ok (.imul, 1) := by decide +kernel
theorem dX6_cast_122 : decode cX6_cast 122 = .ok (.iload_n 2, 1) := by decide +kernel
theorem dX6_cast_123 : decode cX6_cast 123 = .ok (.iadd, 1) := by decide +kernel
theorem dX6_cast_124 : decode cX6_cast 124 = .ok (.iconst 1, 1) := by decide +kernel
theorem dX6_cast_125 : decode cX6_cast 125 = .ok (.bastore, 1) := by decide +kernel
theorem dX6_cast_126 : decode cX6_cast 126 = .ok (.aload_n 0, 1) := by decide +kernel
theorem dX6_cast_127 : decode cX6_cast 127 = .ok (.iload_n 1, 1) := by decide +kernel
theorem dX6_cast_128 : decode cX6_cast 128 = .ok (.invokevirtual 127, 3) := by decide +kernel
theorem dX6_cast_131 : decode cX6_cast 131 = .ok (.ireturn, 1) := by decide +kernel
theorem dX6_isShow_0 : decode cX6_isShow 0 = .ok (.iload_n 1, 1) := by decide +kernel
theorem dX6_isShow_1 : decode cX6_isShow 1 = .ok (.iconst 0, 1) := by decide +kernel
theorem dX6_isShow_2 : decode cX6_isShow 2 = .ok (.aload_n 0, 1) := by decide +kernel
theorem dX6_isShow_3 : decode cX6_isShow 3 = .ok (.getfield 91, 3) := by decide +kernel
theorem dX6_isShow_6 : decode cX6_isShow 6 = .ok (.iconst 1, 1) := by decide +kernel
theorem dX6_isShow_7 : decode cX6_isShow 7 = .ok (.isub, 1) := by decide +kernel
theorem dX6_isShow_8 : decode cX6_isShow 8 = .ok (.invokestatic 87, 3) := by decide +kernel
theorem dX6_isShow_11 : decode cX6_isShow 11 = .ok (.ireturn, 1) := by decide +kernel
theorem dX6_isBusyIn_0 : decode cX6_isBusyIn 0 = .ok (.iconst 0, 1) := by decide +kernel
theorem dX6_isBusyIn_1 : decode cX6_isBusyIn 1 = .ok (.istore 4, 2) := by decide +kernel
theorem dX6_isBusyIn_3 : decode cX6_isBusyIn 3 = .ok (.iconst 0, 1) := by decide +kernel
theorem dX6_isBusyIn_4 : decode cX6_isBusyIn 4 = .ok (.istore 5, 2) := by decide +kernel
theorem dX6_isBusyIn_6 : decode cX6_isBusyIn 6 = .ok (.iload 5, 2) := by decide +kernel
theorem dX6_isBusyIn_8 : decode cX6_isBusyIn 8 = .ok (.aload_n 0, 1) := by decide +kernel
theorem dX6_isBusyIn_9 : decode cX6_isBusyIn 9 = .ok (.getfield 91, 3) := by decide +kernel
theorem dX6_isBusyIn_12 : decode cX6_isBusyIn 12 = .ok (.if_icmp .ge 58, 3) := by decide +kernel
theorem dX6_isBusyIn_15 : decode cX6_isBusyIn 15 = .ok (.iload 4, 2) := by decide +kernel
theorem dX6_isBusyIn_17 : decode cX6_isBusyIn 17 = .ok (.ifCond .ne 40, 3) := by decide +kernel
theorem dX6_isBusyIn_20 : decode cX6_isBusyIn 20 = .ok (.aload_n 0, 1) := by decide +kernel
theorem dX6_isBusyIn_21 : decode cX6_isBusyIn 21 = .ok (.getfield 65, 3) := by decide +kernel
theorem dX6_isBusyIn_24 : decode cX6_isBusyIn 24 = .ok (.bipush 8, 2) := by decide +kernel
theorem dX6_isBusyIn_26 : decode cX6_isBusyIn 26 = .ok (.iload 5, 2) := by decide +kernel
theorem dX6_isBusyIn_28 : decode cX6_isBusyIn 28 = .ok (.imul, 1) := by decide +kernel
theorem dX6_isBusyIn_29 : decode cX6_isBusyIn 29 = .ok (.iload_n 1, 1) := by decide +kernel
theorem dX6_isBusyIn_30 : decode cX6_isBusyIn 30 = .ok (.iadd, 1) := by decide +kernel
theorem dX6_isBusyIn_31 : decode cX6_isBusyIn 31 = .ok (.baload, 1) := by decide +kernel
theorem dX6_isBusyIn_32 : decode cX6_isBusyIn 32 = .ok (.ifCond .eq 29, 3) := by decide +kernel
theorem dX6_isBusyIn_35 : decode cX6_isBusyIn 35 = .ok (.iload_n 2, 1) := by decide +kernel
theorem dX6_isBusyIn_36 : decode cX6_isBusyIn 36 = .ok (.iload_n 3, 1) := by decide +kernel
theorem dX6_isBusyIn_37 : decode cX6_isBusyIn 37 = .ok (.aload_n 0, 1) := by decide +kernel
theorem dX6_isBusyIn_38 : decode cX6_isBusyIn 38 = .ok (.getfield 49, 3) := by decide +kernel
theorem dX6_isBusyIn_41 : decode cX6_isBusyIn 41 = .ok (.iload 5, 2) := by decide +kernel
theorem dX6_isBusyIn_43 : decode cX6_isBusyIn 43 = .ok (.iaload, 1) := by decide +kernel
theorem dX6_isBusyIn_44 : decode cX6_isBusyIn 44 = .ok (.aload_n 0, 1) := by decide +kernel
theorem dX6_isBusyIn_45 : decode cX6_isBusyIn 45 = .ok (.getfield 52, 3) := by decide +kernel
theorem dX6_isBusyIn_48 : decode cX6_isBusyIn 48 = .ok (.iload 5, 2) := by decide +kernel
theorem dX6_isBusyIn_50 : decode cX6_isBusyIn 50 = .ok (.iaload, 1) := by decide +kernel
theorem dX6_isBusyIn_51 : decode cX6_isBusyIn 51 = .ok (.invokestatic 117, 3) := by decide +kernel
theorem dX6_isBusyIn_54 : decode cX6_isBusyIn 54 = .ok (.ifCond .eq 7, 3) := by decide +kernel
theorem dX6_isBusyIn_57 : decode cX6_isBusyIn 57 = .ok (.iconst 1, 1) := by decide +kernel
theorem dX6_isBusyIn_58 : decode cX6_isBusyIn 58 = .ok (.goto 4, 3) := by decide +kernel
theorem dX6_isBusyIn_61 : decode cX6_isBusyIn 61 = .ok (.iconst 0, 1) := by decide +kernel
theorem dX6_isBusyIn_62 : decode cX6_isBusyIn 62 = .ok (.istore 4, 2) := by decide +kernel
theorem dX6_isBusyIn_64 : decode cX6_isBusyIn 64 = .ok (.iinc 5 1, 3) := by decide +kernel
theorem dX6_isBusyIn_67 : decode cX6_isBusyIn 67 = .ok (.goto (-61), 3) := by decide +kernel
theorem dX6_isBusyIn_70 : decode cX6_isBusyIn 70 = .ok (.bipush 10, 2) := by decide +kernel
theorem dX6_isBusyIn_72 : decode cX6_isBusyIn 72 = .ok (.iload_n 1, 1) := by decide +kernel
theorem dX6_isBusyIn_73 : decode cX6_isBusyIn 73 = .ok (.imul, 1) := by decide +kernel
theorem dX6_isBusyIn_74 : decode cX6_isBusyIn 74 = .ok (.istore 5, 2) := by decide +kernel
theorem dX6_isBusyIn_76 : decode cX6_isBusyIn 76 = .ok (.iload 5, 2) := by decide +kernel
theorem dX6_isBusyIn_78 : decode cX6_isBusyIn 78 = .ok (.bipush 10, 2) := by decide +kernel
theorem dX6_isBusyIn_80 : decode cX6_isBusyIn 80 = .ok (.iload_n 1, 1) := by decide +kernel
theorem dX6_isBusyIn_81 : decode cX6_isBusyIn 81 = .ok (.imul, 1) := by decide +kernel
theorem dX6_isBusyIn_82 : decode cX6_isBusyIn 82 = .ok (.aload_n 0, 1) := by decide +kernel
theorem dX6_isBusyIn_83 : decode cX6_isBusyIn 83 = .ok (.getfield 43, 3) := by decide +kernel
theorem dX6_isBusyIn_86 : decode cX6_isBusyIn 86 = .ok (.iload_n 1, 1) := by decide +kernel
theorem dX6_isBusyIn_87 : decode cX6_isBusyIn 87 = .ok (.iaload, 1) := by decide +kernel
theorem dX6_isBusyIn_88 : decode cX6_isBusyIn 88 = .ok (.iadd, 1) := by decide +kernel
theorem dX6_isBusyIn_89 : decode cX6_isBusyIn 89 = .ok (.if_icmp .ge 43, 3) := by decide +kernel
theorem dX6_isBusyIn_92 : decode cX6_isBusyIn 92 = .ok (.iload 4, 2) := by decide +kernel
theorem dX6_isBusyIn_94 : decode cX6_isBusyIn 94 = .ok (.ifCond .ne 25, 3) := by decide +kernel
theorem dX6_isBusyIn_97 : decode cX6_isBusyIn 97 = .ok (.iload_n 2, 1) := by decide +kernel
theorem dX6_isBusyIn_98 : decode cX6_isBusyIn 98 = .ok (.iload_n 3, 1) := by decide +kernel
theorem dX6_isBusyIn_99 : decode cX6_isBusyIn 99 = .ok (.aload_n 0, 1) := by decide +kernel
theorem dX6_isBusyIn_100 : decode cX6_isBusyIn 100 = .ok (.getfield 37, 3) := by decide +kernel
theorem dX6_isBusyIn_103 : decode cX6_isBusyIn 103 = .ok (.iload 5, 2) := by decide +kernel
theorem dX6_isBusyIn_105 : decode cX6_isBusyIn 105 = .ok (.iaload, 1) := by decide +kernel
theorem dX6_isBusyIn_106 : decode cX6_isBusyIn 106 = .ok (.aload_n 0, 1) := by decide +kernel
theorem dX6_isBusyIn_107 : decode cX6_isBusyIn 107 = .ok (.getfield 40, 3) := by decide +kernel
theorem dX6_isBusyIn_110 : decode cX6_isBusyIn 110 = .ok (.iload 5, 2) := by decide +kernel
theorem dX6_isBusyIn_112 : decode cX6_isBusyIn 112 = .ok (.iaload, 1) := by decide +kernel
theorem dX6_isBusyIn_113 : decode cX6_isBusyIn 113 = .ok (.invokestatic 117, 3) := by decide +kernel
theorem dX6_isBusyIn_116 : decode cX6_isBusyIn 116 = .ok (.ifCond .eq 7, 3) := by decide +kernel
theorem dX6_isBusyIn_119 : decode cX6_isBusyIn 119 = .ok (.iconst 1, 1) := by decide +kernel
theorem dX6_isBusyIn_120 : decode cX6_isBusyIn 120 = .ok (.goto 4, 3) := by decide +kernel
theorem dX6_isBusyIn_123 : decode cX6_isBusyIn 123 = .ok (.iconst 0, 1) := by decide +kernel
theorem dX6_isBusyIn_124 : decode cX6_isBusyIn 124 = .ok (.istore 4, 2) := by decide +kernel
theorem dX6_isBusyIn_126 : decode cX6_isBusyIn 126 = .ok (.iinc 5 1, 3) := by decide +kernel
theorem dX6_isBusyIn_129 : decode cX6_isBusyIn 129 = .ok (.goto (-53), 3) := by decide +kernel
theorem dX6_isBusyIn_132 : decode cX6_isBusyIn 132 = .ok (.iload 4, 2) := by decide +kernel
theorem dX6_isBusyIn_134 : decode cX6_isBusyIn 134 = .ok (.ireturn, 1) := by decide +kernel
theorem dX6_areOver_0 : decode cX6_areOver 0 = .ok (.iload_n 0, 1) := by decide +kernel
theorem dX6_areOver_1 : decode cX6_areOver 1 = .ok (.iload_n 2, 1) := by decide +kernel
theorem dX6_areOver_2 : decode cX6_areOver 2 = .ok (.iload_n 3, 1) := by decide +kernel
theorem dX6_areOver_3 : decode cX6_areOver 3 = .ok (.iadd, 1) := by decide +kernel
theorem dX6_areOver_4 : decode cX6_areOver 4 = .ok (.if_icmp .ge 14, 3) := by decide +kernel
theorem dX6_areOver_7 : decode cX6_areOver 7 = .ok (.iload_n 2, 1) := by decide +kernel
theorem dX6_areOver_8 : decode cX6_areOver 8 = .ok (.iload_n 0, 1) := by decide +kernel
theorem dX6_areOver_9 : decode cX6_areOver 9 = .ok (.iload_n 1, 1) := by decide +kernel
theorem dX6_areOver_10 : decode cX6_areOver 10 = .ok (.iadd, 1) := by decide +kernel
theorem dX6_areOver_11 : decode cX6_areOver 11 = .ok (.if_icmp .ge 7, 3) := by decide +kernel
theorem dX6_areOver_14 : decode cX6_areOver 14 = .ok (.iconst 1, 1) := by decide +kernel
theorem dX6_areOver_15 : decode cX6_areOver 15 = .ok (.goto 4, 3) := by decide +kernel
theorem dX6_areOver_18 : decode cX6_areOver 18 = .ok (.iconst 0, 1) := by decide +kernel
theorem dX6_areOver_19 : decode cX6_areOver 19 = .ok (.ireturn, 1) := by decide +kernel
theorem dX6_castOf_0 : decode cX6_castOf 0 = .ok (.iconst 0, 1) := by decide +kernel
theorem dX6_castOf_1 : decode cX6_castOf 1 = .ok (.istore_n 2, 1) := by decide +kernel
theorem dX6_castOf_2 : decode cX6_castOf 2 = .ok (.iconst 0, 1) := by decide +kernel
theorem dX6_castOf_3 : decode cX6_castOf 3 = .ok (.istore_n 3, 1) := by decide +kernel
theorem dX6_castOf_4 : decode cX6_castOf 4 = .ok (.iload_n 3, 1) := by decide +kernel
theorem dX6_castOf_5 : decode cX6_castOf 5 = .ok (.aload_n 0, 1) := by decide +kernel
theorem dX6_castOf_6 : decode cX6_castOf 6 = .ok (.getfield 84, 3) := by decide +kernel
theorem dX6_castOf_9 : decode cX6_castOf 9 = .ok (.if_icmp .ge 31, 3) := by decide +kernel
theorem dX6_castOf_12 : decode cX6_castOf 12 = .ok (.iload_n 2, 1) := by decide +kernel
theorem dX6_castOf_13 : decode cX6_castOf 13 = .ok (.aload_n 0, 1) := by decide +kernel
theorem dX6_castOf_14 : decode cX6_castOf 14 = .ok (.getfield 65, 3) := by decide +kernel
theorem dX6_castOf_17 : decode cX6_castOf 17 = .ok (.bipush 8, 2) := by decide +kernel
theorem dX6_castOf_19 : decode cX6_castOf 19 = .ok (.iload_n 1, 1) := by decide +kernel
theorem dX6_castOf_20 : decode cX6_castOf 20 = .ok (.imul, 1) := by decide +kernel
theorem dX6_castOf_21 : decode cX6_castOf 21 = .ok (.iload_n 3, 1) := by decide +kernel
theorem dX6_castOf_22 : decode cX6_castOf 22 = .ok (.iadd, 1) := by decide +kernel
theorem dX6_castOf_23 : decode cX6_castOf 23 = .ok (.baload, 1) := by decide +kernel
theorem dX6_castOf_24 : decode cX6_castOf 24 = .ok (.ifCond .eq 7, 3) := by decide +kernel
theorem dX6_castOf_27 : decode cX6_castOf 27 = .ok (.iconst 1, 1) := by decide +kernel
theorem dX6_castOf_28 : decode cX6_castOf 28 = .ok (.goto 4, 3) := by decide +kernel
theorem dX6_castOf_31 : decode cX6_castOf 31 = .ok (.iconst 0, 1) := by decide +kernel
theorem dX6_castOf_32 : decode cX6_castOf 32 = .ok (.iadd, 1) := by decide +kernel
theorem dX6_castOf_33 : decode cX6_castOf 33 = .ok (.istore_n 2, 1) := by decide +kernel
theorem dX6_castOf_34 : decode cX6_castOf 34 = .ok (.iinc 3 1, 3) := by decide +kernel
theorem dX6_castOf_37 : decode cX6_castOf 37 = .ok (.goto (-33), 3) := by decide +kernel
theorem dX6_castOf_40 : decode cX6_castOf 40 = .ok (.iload_n 2, 1) := by decide +kernel
theorem dX6_castOf_41 : decode cX6_castOf 41 = .ok (.ireturn, 1) := by decide +kernel
theorem dX6_leave_0 : decode cX6_leave 0 = .ok (.aload_n 0, 1) := by decide +kernel
theorem dX6_leave_1 : decode cX6_leave 1 = .ok (.iload_n 1, 1) := by decide +kernel
theorem dX6_leave_2 : decode cX6_leave 2 = .ok (.invokevirtual 121, 3) := by decide +kernel
theorem dX6_leave_5 : decode cX6_leave 5 = .ok (.ifCond .eq 15, 3) := by decide +kernel
theorem dX6_leave_8 : decode cX6_leave 8 = .ok (.aload_n 0, 1) := by decide +kernel
theorem dX6_leave_9 : decode cX6_leave 9 = .ok (.iload_n 2, 1) := by decide +kernel
theorem dX6_leave_10 : decode cX6_leave 10 = .ok (.invokevirtual 98, 3) := by decide +kernel
theorem dX6_leave_13 : decode cX6_leave 13 = .ok (.ifCond .eq 7, 3) := by decide +kernel
theorem dX6_leave_16 : decode cX6_leave 16 = .ok (.iconst 1, 1) := by decide +kernel
theorem dX6_leave_17 : decode cX6_leave 17 = .ok (.goto 4, 3) := by decide +kernel
theorem dX6_leave_20 : decode cX6_leave 20 = .ok (.iconst 0, 1) := by decide +kernel
theorem dX6_leave_21 : decode cX6_leave 21 = .ok (.istore_n 3, 1) := by decide +kernel
theorem dX6_leave_22 : decode cX6_leave 22 = .ok (.aload_n 0, 1) := by decide +kernel
theorem dX6_leave_23 : decode cX6_leave 23 = .ok (.iload_n 3, 1) := by decide +kernel
theorem dX6_leave_24 : decode cX6_leave 24 = .ok (.ifCond .ne 7, 3) := by decide +kernel
theorem dX6_leave_27 : decode cX6_leave 27 = .ok (.iconst 1, 1) := by decide +kernel
theorem dX6_leave_28 : decode cX6_leave 28 = .ok (.goto 31, 3) := by decide +kernel
theorem dX6_leave_31 : decode cX6_leave 31 = .ok (.aload_n 0, 1) := by decide +kernel
theorem dX6_leave_32 : decode cX6_leave 32 = .ok (.getfield 55, 3) := by decide +kernel
theorem dX6_leave_35 : decode cX6_leave 35 = .ok (.iload_n 1, 1) := by decide +kernel
theorem dX6_leave_36 : decode cX6_leave 36 = .ok (.baload, 1) := by decide +kernel
theorem dX6_leave_37 : decode cX6_leave 37 = .ok (.ifCond .ne 17, 3) := by decide +kernel
theorem dX6_leave_40 : decode cX6_leave 40 = .ok (.aload_n 0, 1) := by decide +kernel
theorem dX6_leave_41 : decode cX6_leave 41 = .ok (.getfield 65, 3) := by decide +kernel
theorem dX6_leave_44 : decode cX6_leave 44 = .ok (.bipush 8, 2) := by decide +kernel
theorem dX6_leave_46 : decode cX6_leave 46 = .ok (.iload_n 1, 1) := by decide +kernel
theorem dX6_leave_47 : decode cX6_leave 47 = .ok (.imul, 1) := by decide +kernel
theorem dX6_leave_48 : decode cX6_leave 48 = .ok (.iload_n 2, 1) := by decide +kernel
theorem dX6_leave_49 : decode cX6_leave 49 = .ok (.iadd, 1) := by decide +kernel
theorem dX6_leave_50 : decode cX6_leave 50 = .ok (.baload, 1) := by decide +kernel
theorem dX6_leave_51 : decode cX6_leave 51 = .ok (.ifCond .ne 7, 3) := by decide +kernel
theorem dX6_leave_54 : decode cX6_leave 54 = .ok (.iconst 2, 1) := by decide +kernel
theorem dX6_leave_55 : decode cX6_leave 55 = .ok (.goto 4, 3) := by decide +kernel
theorem dX6_leave_58 : decode cX6_leave 58 = .ok (.iconst 0, 1) := by decide +kernel
theorem dX6_leave_59 : decode cX6_leave 59 = .ok (.invokevirtual 94, 3) := by decide +kernel
theorem dX6_leave_62 : decode cX6_leave 62 = .ok (.ifCond .ne 5, 3) := by decide +kernel
theorem dX6_leave_65 : decode cX6_leave 65 = .ok (.iconst 0, 1) := by decide +kernel
theorem dX6_leave_66 : decode cX6_leave 66 = .ok (.ireturn, 1) := by decide +kernel
theorem dX6_leave_67 : decode cX6_leave 67 = .ok (.aload_n 0, 1) := by decide +kernel
theorem dX6_leave_68 : decode cX6_leave 68 = .ok (.getfield 65, 3) := by decide +kernel
theorem dX6_leave_71 : decode cX6_leave 71 = .ok (.bipush 8, 2) := by decide +kernel
theorem dX6_leave_73 : decode cX6_leave 73 = .ok (.iload_n 1, 1) := by decide +kernel
theorem dX6_leave_74 : decode cX6_leave 74 = .ok (.imul, 1) := by decide +kernel
theorem dX6_leave_75 : decode cX6_leave 75 = .ok (.iload_n 2, 1) := by decide +kernel
theorem dX6_leave_76 : decode cX6_leave 76 = .ok (.iadd, 1) := by decide +kernel
theorem dX6_leave_77 : decode cX6_leave 77 = .ok (.iconst 0, 1) := by decide +kernel
theorem dX6_leave_78 : decode cX6_leave 78 = .ok (.bastore, 1) := by decide +kernel
theorem dX6_leave_79 : decode cX6_leave 79 = .ok (.aload_n 0, 1) := by decide +kernel
theorem dX6_leave_80 : decode cX6_leave 80 = .ok (.iload_n 1, 1) := by decide +kernel
theorem dX6_leave_81 : decode cX6_leave 81 = .ok (.invokevirtual 127, 3) := by decide +kernel
theorem dX6_leave_84 : decode cX6_leave 84 = .ok (.ireturn, 1) := by decide +kernel
theorem dX6_sell_0 : decode cX6_sell 0 = .ok (.aload_n 0, 1) := by decide +kernel
theorem dX6_sell_1 : decode cX6_sell 1 = .ok (.iload_n 1, 1) := by decide +kernel
theorem dX6_sell_2 : decode cX6_sell 2 = .ok (.invokevirtual 121, 3) := by decide +kernel
theorem dX6_sell_5 : decode cX6_sell 5 = .ok (.istore 4, 2) := by decide +kernel
theorem dX6_sell_7 : decode cX6_sell 7 = .ok (.iload_n 2, 1) := by decide +kernel
theorem dX6_sell_8 : decode cX6_sell 8 = .ok (.iconst 1, 1) := by decide +kernel
theorem dX6_sell_9 : decode cX6_sell 9 = .ok (.bipush 50, 2) := by decide +kernel
theorem dX6_sell_11 : decode cX6_sell 11 = .ok (.invokestatic 87, 3) := by decide +kernel
theorem dX6_sell_14 : decode cX6_sell 14 = .ok (.ifCond .eq 17, 3) := by decide +kernel
theorem dX6_sell_17 : decode cX6_sell 17 = .ok (.iload_n 3, 1) := by decide +kernel
theorem dX6_sell_18 : decode cX6_sell 18 = .ok (.iconst 0, 1) := by decide +kernel
theorem dX6_sell_19 : decode cX6_sell 19 = .ok (.bipush 100, 2) := by decide +kernel
theorem dX6_sell_21 : decode cX6_sell 21 = .ok (.invokestatic 87, 3) := by decide +kernel
theorem dX6_sell_24 : decode cX6_sell 24 = .ok (.ifCond .eq 7, 3) := by decide +kernel
theorem dX6_sell_27 : decode cX6_sell 27 = .ok (.iconst 1, 1) := by decide +kernel
theorem dX6_sell_28 : decode cX6_sell 28 = .ok (.goto 4, 3) := by decide +kernel
theorem dX6_sell_31 : decode cX6_sell 31 = .ok (.iconst 0, 1) := by decide +kernel
theorem dX6_sell_32 : decode cX6_sell 32 = .ok (.istore 5, 2) := by decide +kernel
theorem dX6_sell_34 : decode cX6_sell 34 = .ok (.aload_n 0, 1) := by decide +kernel
theorem dX6_sell_35 : decode cX6_sell 35 = .ok (.iload 4, 2) := by decide +kernel
theorem dX6_sell_37 : decode cX6_sell 37 = .ok (.ifCond .ne 7, 3) := by decide +kernel
theorem dX6_sell_40 : decode cX6_sell 40 = .ok (.iconst 1, 1) := by decide +kernel
theorem dX6_sell_41 : decode cX6_sell 41 = .ok (.goto 39, 3) := by decide +kernel
theorem dX6_sell_44 : decode cX6_sell 44 = .ok (.iload 5, 2) := by decide +kernel
theorem dX6_sell_46 : decode cX6_sell 46 = .ok (.ifCond .ne 7, 3) := by decide +kernel
theorem dX6_sell_49 : decode cX6_sell 49 = .ok (.iconst 2, 1) := by decide +kernel
theorem dX6_sell_50 : decode cX6_sell 50 = .ok (.goto 30, 3) := by decide +kernel
theorem dX6_sell_53 : decode cX6_sell 53 = .ok (.aload_n 0, 1) := by decide +kernel
theorem dX6_sell_54 : decode cX6_sell 54 = .ok (.getfield 55, 3) := by decide +kernel
theorem dX6_sell_57 : decode cX6_sell 57 = .ok (.iload_n 1, 1) := by decide +kernel
theorem dX6_sell_58 : decode cX6_sell 58 = .ok (.baload, 1) := by decide +kernel
theorem dX6_sell_59 : decode cX6_sell 59 = .ok (.ifCond .ne 16, 3) := by decide +kernel
theorem dX6_sell_62 : decode cX6_sell 62 = .ok (.aload_n 0, 1) := by decide +kernel
theorem dX6_sell_63 : decode cX6_sell 63 = .ok (.getfield 59, 3) := by decide +kernel
theorem dX6_sell_66 : decode cX6_sell 66 = .ok (.iload_n 1, 1) := by decide +kernel
theorem dX6_sell_67 : decode cX6_sell 67 = .ok (.iaload, 1) := by decide +kernel
theorem dX6_sell_68 : decode cX6_sell 68 = .ok (.iload_n 2, 1) := by decide +kernel
theorem dX6_sell_69 : decode cX6_sell 69 = .ok (.iadd, 1) := by decide +kernel
theorem dX6_sell_70 : decode cX6_sell 70 = .ok (.bipush 50, 2) := by decide +kernel
theorem dX6_sell_72 : decode cX6_sell 72 = .ok (.if_icmp .le 7, 3) := by decide +kernel
theorem dX6_sell_75 : decode cX6_sell 75 = .ok (.iconst 3, 1) := by decide +kernel
theorem dX6_sell_76 : decode cX6_sell 76 = .ok (.goto 4, 3) := by decide +kernel
theorem dX6_sell_79 : decode cX6_sell 79 = .ok (.iconst 0, 1) := by decide +kernel
theorem dX6_sell_80 : decode cX6_sell 80 = .ok (.invokevirtual 94, 3) := by decide +kernel
theorem dX6_sell_83 : decode cX6_sell 83 = .ok (.ifCond .ne 5, 3) := by decide +kernel
theorem dX6_sell_86 : decode cX6_sell 86 = .ok (.iconst 0, 1) := by decide +kernel
theorem dX6_sell_87 : decode cX6_sell 87 = .ok (.ireturn, 1) := by decide +kernel
theorem dX6_sell_88 : decode cX6_sell 88 = .ok (.aload_n 0, 1) := by decide +kernel
theorem dX6_sell_89 : decode cX6_sell 89 = .ok (.getfield 59, 3) := by decide +kernel
theorem dX6_sell_92 : decode cX6_sell 92 = .ok (.iload_n 1, 1) := by decide +kernel
theorem dX6_sell_93 : decode cX6_sell 93 = .ok (.dup2, 1) := by decide +kernel
theorem dX6_sell_94 : decode cX6_sell 94 = .ok (.iaload, 1) := by decide +kernel
theorem dX6_sell_95 : decode cX6_sell 95 = .ok (.iload_n 2, 1) := by decide +kernel
theorem dX6_sell_96 : decode cX6_sell 96 = .ok (.iadd, 1) := by decide +kernel
theorem dX6_sell_97 : decode cX6_sell 97 = .ok (.iastore, 1) := by decide +kernel
theorem dX6_sell_98 : decode cX6_sell 98 = .ok (.aload_n 0, 1) := by decide +kernel
theorem dX6_sell_99 : decode cX6_sell 99 = .ok (.getfield 62, 3) := by decide +kernel
theorem dX6_sell_102 : decode cX6_sell 102 = .ok (.iload_n 1, 1) := by decide +kernel
theorem dX6_sell_103 : decode cX6_sell 103 = .ok (.dup2, 1) := by decide +kernel
theorem dX6_sell_104 : decode cX6_sell 104 = .ok (.iaload, 1) := by decide +kernel
theorem dX6_sell_105 : decode cX6_sell 105 = .ok (.iload_n 2, 1) := by decide +kernel
theorem dX6_sell_106 : decode cX6_sell 106 = .ok (.iload_n 3, 1) := by decide +kernel
theorem dX6_sell_107 : decode cX6_sell 107 = .ok (.imul, 1) := by decide +kernel
theorem dX6_sell_108 : decode cX6_sell 108 = .ok (.iadd, 1) := by decide +kernel
theorem dX6_sell_109 : decode cX6_sell 109 = .ok (.iastore, 1) := by decide +kernel
theorem dX6_sell_110 : decode cX6_sell 110 = .ok (.bipush 50, 2) := by decide +kernel
theorem dX6_sell_112 : decode cX6_sell 112 = .ok (.aload_n 0, 1) := by decide +kernel
theorem dX6_sell_113 : decode cX6_sell 113 = .ok (.getfield 59, 3) := by decide +kernel
theorem dX6_sell_116 : decode cX6_sell 116 = .ok (.iload_n 1, 1) := by decide +kernel
theorem dX6_sell_117 : decode cX6_sell 117 = .ok (.iaload, 1) := by decide +kernel
theorem dX6_sell_118 : decode cX6_sell 118 = .ok (.isub, 1) := by decide +kernel
theorem dX6_sell_119 : decode cX6_sell 119 = .ok (.ireturn, 1) := by decide +kernel
theorem dX6_perform_0 : decode cX6_perform 0 = .ok (.aload_n 0, 1) := by decide +kernel
theorem dX6_perform_1 : decode cX6_perform 1 = .ok (.iload_n 1, 1) := by decide +kernel
theorem dX6_perform_2 : decode cX6_perform 2 = .ok (.invokevirtual 121, 3) := by decide +kernel
theorem dX6_perform_5 : decode cX6_perform 5 = .ok (.istore_n 2, 1) := by decide +kernel
theorem dX6_perform_6 : decode cX6_perform 6 = .ok (.aload_n 0, 1) := by decide +kernel
theorem dX6_perform_7 : decode cX6_perform 7 = .ok (.iload_n 2, 1) := by decide +kernel
theorem dX6_perform_8 : decode cX6_perform 8 = .ok (.ifCond .ne 7, 3) := by decide +kernel
theorem dX6_perform_11 : decode cX6_perform 11 = .ok (.iconst 1, 1) := by decide +kernel
theorem dX6_perform_12 : decode cX6_perform 12 = .ok (.goto 25, 3) := by decide +kernel
theorem dX6_perform_15 : decode cX6_perform 15 = .ok (.aload_n 0, 1) := by decide +kernel
theorem dX6_perform_16 : decode cX6_perform 16 = .ok (.getfield 55, 3) := by decide +kernel
theorem dX6_perform_19 : decode cX6_perform 19 = .ok (.iload_n 1, 1) := by decide +kernel
theorem dX6_perform_20 : decode cX6_perform 20 = .ok (.baload, 1) := by decide +kernel
theorem dX6_perform_21 : decode cX6_perform 21 = .ok (.ifCond .ne 11, 3) := by decide +kernel
theorem dX6_perform_24 : decode cX6_perform 24 = .ok (.aload_n 0, 1) := by decide +kernel
theorem dX6_perform_25 : decode cX6_perform 25 = .ok (.iload_n 1, 1) := by decide +kernel
theorem dX6_perform_26 : decode cX6_perform 26 = .ok (.invokevirtual 127, 3) := by decide +kernel
theorem dX6_perform_29 : decode cX6_perform 29 = .ok (.ifCond .ne 7, 3) := by decide +kernel
theorem dX6_perform_32 : decode cX6_perform 32 = .ok (.iconst 2, 1) := by decide +kernel
theorem dX6_perform_33 : decode cX6_perform 33 = .ok (.goto 4, 3) := by decide +kernel
theorem dX6_perform_36 : decode cX6_perform 36 = .ok (.iconst 0, 1) := by decide +kernel
theorem dX6_perform_37 : decode cX6_perform 37 = .ok (.invokevirtual 94, 3) := by decide +kernel
theorem dX6_perform_40 : decode cX6_perform 40 = .ok (.ifCond .ne 5, 3) := by decide +kernel
theorem dX6_perform_43 : decode cX6_perform 43 = .ok (.iconst 0, 1) := by decide +kernel
theorem dX6_perform_44 : decode cX6_perform 44 = .ok (.ireturn, 1) := by decide +kernel
theorem dX6_perform_45 : decode cX6_perform 45 = .ok (.aload_n 0, 1) := by decide +kernel
theorem dX6_perform_46 : decode cX6_perform 46 = .ok (.getfield 55, 3) := by decide +kernel
theorem dX6_perform_49 : decode cX6_perform 49 = .ok (.iload_n 1, 1) := by decide +kernel
theorem dX6_perform_50 : decode cX6_perform 50 = .ok (.iconst 1, 1) := by decide +kernel
theorem dX6_perform_51 : decode cX6_perform 51 = .ok (.bastore, 1) := by decide +kernel
theorem dX6_perform_52 : decode cX6_perform 52 = .ok (.iconst 0, 1) := by decide +kernel
theorem dX6_perform_53 : decode cX6_perform 53 = .ok (.istore_n 3, 1) := by decide +kernel
theorem dX6_perform_54 : decode cX6_perform 54 = .ok (.iload_n 3, 1) := by decide +kernel
theorem dX6_perform_55 : decode cX6_perform 55 = .ok (.aload_n 0, 1) := by decide +kernel
theorem dX6_perform_56 : decode cX6_perform 56 = .ok (.getfield 84, 3) := by decide +kernel
theorem dX6_perform_59 : decode cX6_perform 59 = .ok (.if_icmp .ge 70, 3) := by decide +kernel
theorem dX6_perform_62 : decode cX6_perform 62 = .ok (.aload_n 0, 1) := by decide +kernel
theorem dX6_perform_63 : decode cX6_perform 63 = .ok (.getfield 22, 3) := by decide +kernel
theorem dX6_perform_66 : decode cX6_perform 66 = .ok (.iload_n 3, 1) := by decide +kernel
theorem dX6_perform_67 : decode cX6_perform 67 = .ok (.dup2, 1) := by decide +kernel
theorem dX6_perform_68 : decode cX6_perform 68 = .ok (.iaload, 1) := by decide +kernel
theorem dX6_perform_69 : decode cX6_perform 69 = .ok (.aload_n 0, 1) := by decide +kernel
theorem dX6_perform_70 : decode cX6_perform 70 = .ok (.getfield 65, 3) := by decide +kernel
theorem dX6_perform_73 : decode cX6_perform 73 = .ok (.bipush 8, 2) := by decide +kernel
theorem dX6_perform_75 : decode cX6_perform 75 = .ok (.iload_n 1, 1) := by decide +kernel
theorem dX6_perform_76 : decode cX6_perform 76 = .ok (.imul, 1) := by decide +kernel
theorem dX6_perform_77 : decode cX6_perform 77 = .ok (.iload_n 3, 1) := by decide +kernel
theorem dX6_perform_78 : decode cX6_perform 78 = .ok (.iadd, 1) := by decide +kernel
theorem dX6_perform_79 : decode cX6_perform 79 = .ok (.baload, 1) := by decide +kernel
theorem dX6_perform_80 : decode cX6_perform 80 = .ok (.ifCond .eq 12, 3) := by decide +kernel
theorem dX6_perform_83 : decode cX6_perform 83 = .ok (.aload_n 0, 1) := by decide +kernel
theorem dX6_perform_84 : decode cX6_perform 84 = .ok (.getfield 16, 3) := by decide +kernel
theorem dX6_perform_87 : decode cX6_perform 87 = .ok (.iload_n 3, 1) := by decide +kernel
theorem dX6_perform_88 : decode cX6_perform 88 = .ok (.iaload, 1) := by decide +kernel
theorem dX6_perform_89 : decode cX6_perform 89 = .ok (.goto 4, 3) := by decide +kernel
theorem dX6_perform_92 : decode cX6_perform 92 = .ok (.iconst 0, 1) := by decide +kernel
theorem dX6_perform_93 : decode cX6_perform 93 = .ok (.iadd, 1) := by decide +kernel
theorem dX6_perform_94 : decode cX6_perform 94 = .ok (.iastore, 1) := by decide +kernel
theorem dX6_perform_95 : decode cX6_perform 95 = .ok (.aload_n 0, 1) := by decide +kernel
theorem dX6_perform_96 : decode cX6_perform 96 = .ok (.getfield 22, 3) := by decide +kernel
theorem dX6_perform_99 : decode cX6_perform 99 = .ok (.iload_n 3, 1) := by decide +kernel
theorem dX6_perform_100 : decode cX6_perform 100 = .ok (.aload_n 0, 1) := by decide +kernel
theorem dX6_perform_101 : decode cX6_perform 101 = .ok (.getfield 22, 3) := by decide +kernel
theorem dX6_perform_104 : decode cX6_perform 104 = .ok (.iload_n 3, 1) := by decide +kernel
theorem dX6_perform_105 : decode cX6_perform 105 = .ok (.iaload, 1) := by decide +kernel
theorem dX6_perform_106 : decode cX6_perform 106 = .ok (.bipush 99, 2) := by decide +kernel
theorem dX6_perform_108 : decode cX6_perform 108 = .ok (.if_icmp .le 8, 3) := by decide +kernel
theorem dX6_perform_111 : decode cX6_perform 111 = .ok (.bipush 99, 2) := by decide +kernel
theorem dX6_perform_113 : decode cX6_perform 113 = .ok (.goto 9, 3) := by decide +kernel
theorem dX6_perform_116 : decode cX6_perform 116 = .ok (.aload_n 0, 1) := by decide +kernel
theorem dX6_perform_117 : decode cX6_perform 117 = .ok (.getfield 22, 3) := by decide +kernel
theorem dX6_perform_120 : decode cX6_perform 120 = .ok (.iload_n 3, 1) := by decide +kernel
theorem dX6_perform_121 : decode cX6_perform 121 = .ok (.iaload, 1) := by decide +kernel
theorem dX6_perform_122 : decode cX6_perform 122 = .ok (.iastore, 1) := by decide +kernel
theorem dX6_perform_123 : decode cX6_perform 123 = .ok (.iinc 3 1, 3) := by decide +kernel
theorem dX6_perform_126 : decode cX6_perform 126 = .ok (.goto (-72), 3) := by decide +kernel
theorem dX6_perform_129 : decode cX6_perform 129 = .ok (.aload_n 0, 1) := by decide +kernel
theorem dX6_perform_130 : decode cX6_perform 130 = .ok (.dup, 1) := by decide +kernel
theorem dX6_perform_131 : decode cX6_perform 131 = .ok (.getfield 131, 3) := by decide +kernel
theorem dX6_perform_134 : decode cX6_perform 134 = .ok (.aload_n 0, 1) := by decide +kernel
theorem dX6_perform_135 : decode cX6_perform 135 = .ok (.getfield 62, 3) := by decide +kernel
theorem dX6_perform_138 : decode cX6_perform 138 = .ok (.iload_n 1, 1) := by decide +kernel
theorem dX6_perform_139 : decode cX6_perform 139 = .ok (.iaload, 1) := by decide +kernel
theorem dX6_perform_140 : decode cX6_perform 140 = .ok (.iadd, 1) := by decide +kernel
theorem dX6_perform_141 : decode cX6_perform 141 = .ok (.putfield 131, 3) := by decide +kernel
theorem dX6_perform_144 : decode cX6_perform 144 = .ok (.aload_n 0, 1) := by decide +kernel
theorem dX6_perform_145 : decode cX6_perform 145 = .ok (.getfield 62, 3) := by decide +kernel
theorem dX6_perform_148 : decode cX6_perform 148 = .ok (.iload_n 1, 1) := by decide +kernel
theorem dX6_perform_149 : decode cX6_perform 149 = .ok (.iaload, 1) := by decide +kernel
theorem dX6_perform_150 : decode cX6_perform 150 = .ok (.ireturn, 1) := by decide +kernel
theorem dX6_mend_0 : decode cX6_mend 0 = .ok (.aload_n 0, 1) := by decide +kernel
theorem dX6_mend_1 : decode cX6_mend 1 = .ok (.iload_n 1, 1) := by decide +kernel
theorem dX6_mend_2 : decode cX6_mend 2 = .ok (.invokevirtual 98, 3) := by decide +kernel
theorem dX6_mend_5 : decode cX6_mend 5 = .ok (.istore_n 3, 1) := by decide +kernel
theorem dX6_mend_6 : decode cX6_mend 6 = .ok (.iload_n 3, 1) := by decide +kernel
theorem dX6_mend_7 : decode cX6_mend 7 = .ok (.ifCond .eq 17, 3) := by decide +kernel
theorem dX6_mend_10 : decode cX6_mend 10 = .ok (.iload_n 2, 1) := by decide +kernel
theorem dX6_mend_11 : decode cX6_mend 11 = .ok (.iconst 0, 1) := by decide +kernel
theorem dX6_mend_12 : decode cX6_mend 12 = .ok (.ldc 116, 2) := by decide +kernel
theorem dX6_mend_14 : decode cX6_mend 14 = .ok (.invokestatic 87, 3) := by decide +kernel
theorem dX6_mend_17 : decode cX6_mend 17 = .ok (.ifCond .eq 7, 3) := by decide +kernel
theorem dX6_mend_20 : decode cX6_mend 20 = .ok (.iconst 1, 1) := by decide +kernel
theorem dX6_mend_21 : decode cX6_mend 21 = .ok (.goto 4, 3) := by decide +kernel
theorem dX6_mend_24 : decode cX6_mend 24 = .ok (.iconst 0, 1) := by decide +kernel
theorem dX6_mend_25 : decode cX6_mend 25 = .ok (.istore 4, 2) := by decide +kernel
theorem dX6_mend_27 : decode cX6_mend 27 = .ok (.iload 4, 2) := by decide +kernel
theorem dX6_mend_29 : decode cX6_mend 29 = .ok (.ifCond .eq 42, 3) := by decide +kernel
theorem dX6_mend_32 : decode cX6_mend 32 = .ok (.aload_n 0, 1) := by decide +kernel
theorem dX6_mend_33 : decode cX6_mend 33 = .ok (.getfield 22, 3) := by decide +kernel
theorem dX6_mend_36 : decode cX6_mend 36 = .ok (.iload_n 1, 1) := by decide +kernel
theorem dX6_mend_37 : decode cX6_mend 37 = .ok (.iaload, 1) := by decide +kernel
theorem dX6_mend_38 : decode cX6_mend 38 = .ok (.ifCond .le 33, 3) := by decide +kernel
theorem dX6_mend_41 : decode cX6_mend 41 = .ok (.aload_n 0, 1) := by decide +kernel
theorem dX6_mend_42 : decode cX6_mend 42 = .ok (.getfield 43, 3) := by decide +kernel
theorem dX6_mend_45 : decode cX6_mend 45 = .ok (.iload_n 1, 1) := by decide +kernel
theorem dX6_mend_46 : decode cX6_mend 46 = .ok (.iaload, 1) := by decide +kernel
theorem dX6_mend_47 : decode cX6_mend 47 = .ok (.bipush 10, 2) := by decide +kernel
theorem dX6_mend_49 : decode cX6_mend 49 = .ok (.if_icmp .ge 22, 3) := by decide +kernel
theorem dX6_mend_52 : decode cX6_mend 52 = .ok (.aload_n 0, 1) := by decide +kernel
theorem dX6_mend_53 : decode cX6_mend 53 = .ok (.iload_n 1, 1) := by decide +kernel
theorem dX6_mend_54 : decode cX6_mend 54 = .ok (.iload_n 2, 1) := by decide +kernel
theorem dX6_mend_55 : decode cX6_mend 55 = .ok (.aload_n 0, 1) := by decide +kernel
theorem dX6_mend_56 : decode cX6_mend 56 = .ok (.getfield 22, 3) := by decide +kernel
theorem dX6_mend_59 : decode cX6_mend 59 = .ok (.iload_n 1, 1) := by decide +kernel
theorem dX6_mend_60 : decode cX6_mend 60 = .ok (.iaload, 1) := by decide +kernel
theorem dX6_mend_61 : decode cX6_mend 61 = .ok (.invokevirtual 124, 3) := by decide +kernel
theorem dX6_mend_64 : decode cX6_mend 64 = .ok (.ifCond .ne 7, 3) := by decide +kernel
theorem dX6_mend_67 : decode cX6_mend 67 = .ok (.iconst 1, 1) := by decide +kernel
theorem dX6_mend_68 : decode cX6_mend 68 = .ok (.goto 4, 3) := by decide +kernel
theorem dX6_mend_71 : decode cX6_mend 71 = .ok (.iconst 0, 1) := by decide +kernel
theorem dX6_mend_72 : decode cX6_mend 72 = .ok (.istore 5, 2) := by decide +kernel
theorem dX6_mend_74 : decode cX6_mend 74 = .ok (.aload_n 0, 1) := by decide +kernel
theorem dX6_mend_75 : decode cX6_mend 75 = .ok (.iload_n 3, 1) := by decide +kernel
theorem dX6_mend_76 : decode cX6_mend 76 = .ok (.ifCond .ne 7, 3) := by decide +kernel
theorem dX6_mend_79 : decode cX6_mend 79 = .ok (.iconst 1, 1) := by decide +kernel
theorem dX6_mend_80 : decode cX6_mend 80 = .ok (.goto 22, 3) := by decide +kernel
theorem dX6_mend_83 : decode cX6_mend 83 = .ok (.iload 4, 2) := by decide +kernel
theorem dX6_mend_85 : decode cX6_mend 85 = .ok (.ifCond .ne 7, 3) := by decide +kernel
theorem dX6_mend_88 : decode cX6_mend 88 = .ok (.iconst 2, 1) := by decide +kernel
theorem dX6_mend_89 : decode cX6_mend 89 = .ok (.goto 13, 3) := by decide +kernel
theorem dX6_mend_92 : decode cX6_mend 92 = .ok (.iload 5, 2) := by decide +kernel
theorem dX6_mend_94 : decode cX6_mend 94 = .ok (.ifCond .ne 7, 3) := by decide +kernel
theorem dX6_mend_97 : decode cX6_mend 97 = .ok (.iconst 3, 1) := by decide +kernel
theorem dX6_mend_98 : decode cX6_mend 98 = .ok (.goto 4, 3) := by decide +kernel
theorem dX6_mend_101 : decode cX6_mend 101 = .ok (.iconst 0, 1) := by decide +kernel
theorem dX6_mend_102 : decode cX6_mend 102 = .ok (.invokevirtual 94, 3) := by decide +kernel
theorem dX6_mend_105 : decode cX6_mend 105 = .ok (.ifCond .ne 5, 3) := by decide +kernel
theorem dX6_mend_108 : decode cX6_mend 108 = .ok (.iconst 0, 1) := by decide +kernel
theorem dX6_mend_109 : decode cX6_mend 109 = .ok (.ireturn, 1) := by decide +kernel
theorem dX6_mend_110 : decode cX6_mend 110 = .ok (.aload_n 0, 1) := by decide +kernel
theorem dX6_mend_111 : decode cX6_mend 111 = .ok (.getfield 22, 3) := by decide +kernel
theorem dX6_mend_114 : decode cX6_mend 114 = .ok (.iload_n 1, 1) := by decide +kernel
theorem dX6_mend_115 : decode cX6_mend 115 = .ok (.iaload, 1) := by decide +kernel
theorem dX6_mend_116 : decode cX6_mend 116 = .ok (.istore 6, 2) := by decide +kernel
theorem dX6_mend_118 : decode cX6_mend 118 = .ok (.aload_n 0, 1) := by decide +kernel
theorem dX6_mend_119 : decode cX6_mend 119 = .ok (.getfield 37, 3) := by decide +kernel
theorem dX6_mend_122 : decode cX6_mend 122 = .ok (.bipush 10, 2) := by decide +kernel
theorem dX6_mend_124 : decode cX6_mend 124 = .ok (.iload_n 1, 1) := by decide +kernel
theorem dX6_mend_125 : decode cX6_mend 125 = .ok (.imul, 1) := by decide +kernel
theorem dX6_mend_126 : decode cX6_mend 126 = .ok (.aload_n 0, 1) := by decide +kernel
theorem dX6_mend_127 : decode cX6_mend 127 = .ok (.getfield 43, 3) := by decide +kernel
theorem dX6_mend_130 : decode cX6_mend 130 = .ok (.iload_n 1, 1) := by decide +kernel
theorem dX6_mend_131 : decode cX6_mend 131 = .ok (.iaload, 1) := by decide +kernel
theorem dX6_mend_132 : decode cX6_mend 132 = .ok (.iadd, 1) := by decide +kernel
theorem dX6_mend_133 : decode cX6_mend 133 = .ok (.iload_n 2, 1) := by decide +kernel
theorem dX6_mend_134 : decode cX6_mend 134 = .ok (.iastore, 1) := by decide +kernel
theorem dX6_mend_135 : decode cX6_mend 135 = .ok (.aload_n 0, 1) := by decide +kernel
theorem dX6_mend_136 : decode cX6_mend 136 = .ok (.getfield 40, 3) := by decide +kernel
theorem dX6_mend_139 : decode cX6_mend 139 = .ok (.bipush 10, 2) := by decide +kernel
theorem dX6_mend_141 : decode cX6_mend 141 = .ok (.iload_n 1, 1) := by decide +kernel
theorem dX6_mend_142 : decode cX6_mend 142 = .ok (.imul, 1) := by decide +kernel
theorem dX6_mend_143 : decode cX6_mend 143 = .ok (.aload_n 0, 1) := by decide +kernel
theorem dX6_mend_144 : decode cX6_mend 144 = .ok (.getfield 43, 3) := by decide +kernel
theorem dX6_mend_147 : decode cX6_mend 147 = .ok (.iload_n 1, 1) := by decide +kernel
theorem dX6_mend_148 : decode cX6_mend 148 = .ok (.iaload, 1) := by decide +kernel
theorem dX6_mend_149 : decode cX6_mend 149 = .ok (.iadd, 1) := by decide +kernel
theorem dX6_mend_150 : decode cX6_mend 150 = .ok (.iload 6, 2) := by decide +kernel
theorem dX6_mend_152 : decode cX6_mend 152 = .ok (.iastore, 1) := by decide +kernel
theorem dX6_mend_153 : decode cX6_mend 153 = .ok (.aload_n 0, 1) := by decide +kernel
theorem dX6_mend_154 : decode cX6_mend 154 = .ok (.getfield 43, 3) := by decide +kernel
theorem dX6_mend_157 : decode cX6_mend 157 = .ok (.iload_n 1, 1) := by decide +kernel
theorem dX6_mend_158 : decode cX6_mend 158 = .ok (.dup2, 1) := by decide +kernel
theorem dX6_mend_159 : decode cX6_mend 159 = .ok (.iaload, 1) := by decide +kernel
theorem dX6_mend_160 : decode cX6_mend 160 = .ok (.iconst 1, 1) := by decide +kernel
theorem dX6_mend_161 : decode cX6_mend 161 = .ok (.iadd, 1) := by decide +kernel
theorem dX6_mend_162 : decode cX6_mend 162 = .ok (.iastore, 1) := by decide +kernel
theorem dX6_mend_163 : decode cX6_mend 163 = .ok (.aload_n 0, 1) := by decide +kernel
theorem dX6_mend_164 : decode cX6_mend 164 = .ok (.getfield 22, 3) := by decide +kernel
theorem dX6_mend_167 : decode cX6_mend 167 = .ok (.iload_n 1, 1) := by decide +kernel
theorem dX6_mend_168 : decode cX6_mend 168 = .ok (.iconst 0, 1) := by decide +kernel
theorem dX6_mend_169 : decode cX6_mend 169 = .ok (.iastore, 1) := by decide +kernel
theorem dX6_mend_170 : decode cX6_mend 170 = .ok (.iload 6, 2) := by decide +kernel
theorem dX6_mend_172 : decode cX6_mend 172 = .ok (.ireturn, 1) := by decide +kernel
theorem dX6_track_0 : decode cX6_track 0 = .ok (.aload_n 0, 1) := by decide +kernel
theorem dX6_track_1 : decode cX6_track 1 = .ok (.iload_n 1, 1) := by decide +kernel
theorem dX6_track_2 : decode cX6_track 2 = .ok (.iload_n 2, 1) := by decide +kernel
theorem dX6_track_3 : decode cX6_track 3 = .ok (.invokevirtual 146, 3) := by decide +kernel
theorem dX6_track_6 : decode cX6_track 6 = .ok (.ireturn, 1) := by decide +kernel
theorem dX6_trackNow_0 : decode cX6_trackNow 0 = .ok (.aload_n 0, 1) := by decide +kernel
theorem dX6_trackNow_1 : decode cX6_trackNow 1 = .ok (.aload_n 0, 1) := by decide +kernel
theorem dX6_trackNow_2 : decode cX6_trackNow 2 = .ok (.iload_n 1, 1) := by decide +kernel
theorem dX6_trackNow_3 : decode cX6_trackNow 3 = .ok (.invokevirtual 98, 3) := by decide +kernel
theorem dX6_trackNow_6 : decode cX6_trackNow 6 = .ok (.ifCond .ne 7, 3) := by decide +kernel
theorem dX6_trackNow_9 : decode cX6_trackNow 9 = .ok (.iconst 1, 1) := by decide +kernel
theorem dX6_trackNow_10 : decode cX6_trackNow 10 = .ok (.goto 15, 3) := by decide +kernel
theorem dX6_trackNow_13 : decode cX6_trackNow 13 = .ok (.iload_n 2, 1) := by decide +kernel
theorem dX6_trackNow_14 : decode cX6_trackNow 14 = .ok (.invokestatic 140, 3) := by decide +kernel
theorem dX6_trackNow_17 : decode cX6_trackNow 17 = .ok (.ifCond .ne 7, 3) := by decide +kernel
theorem dX6_trackNow_20 : decode cX6_trackNow 20 = .ok (.iconst 2, 1) := by decide +kernel
theorem dX6_trackNow_21 : decode cX6_trackNow 21 = .ok (.goto 4, 3) := by decide +kernel
theorem dX6_trackNow_24 : decode cX6_trackNow 24 = .ok (.iconst 0, 1) := by decide +kernel
theorem dX6_trackNow_25 : decode cX6_trackNow 25 = .ok (.invokevirtual 94, 3) := by decide +kernel
theorem dX6_trackNow_28 : decode cX6_trackNow 28 = .ok (.ifCond .ne 5, 3) := by decide +kernel
theorem dX6_trackNow_31 : decode cX6_trackNow 31 = .ok (.iconst 0, 1) := by decide +kernel
theorem dX6_trackNow_32 : decode cX6_trackNow 32 = .ok (.ireturn, 1) := by decide +kernel
theorem dX6_trackNow_33 : decode cX6_trackNow 33 = .ok (.aload_n 0, 1) := by decide +kernel
theorem dX6_trackNow_34 : decode cX6_trackNow 34 = .ok (.iload_n 1, 1) := by decide +kernel
theorem dX6_trackNow_35 : decode cX6_trackNow 35 = .ok (.iload_n 2, 1) := by decide +kernel
theorem dX6_trackNow_36 : decode cX6_trackNow 36 = .ok (.invokevirtual 143, 3) := by decide +kernel
theorem dX6_trackNow_39 : decode cX6_trackNow 39 = .ok (.sipush 1000, 3) := by decide +kernel
theorem dX6_trackNow_42 : decode cX6_trackNow 42 = .ok (.aload_n 0, 1) := by decide +kernel
theorem dX6_trackNow_43 : decode cX6_trackNow 43 = .ok (.getfield 134, 3) := by decide +kernel
theorem dX6_trackNow_46 : decode cX6_trackNow 46 = .ok (.imul, 1) := by decide +kernel
theorem dX6_trackNow_47 : decode cX6_trackNow 47 = .ok (.aload_n 0, 1) := by decide +kernel
theorem dX6_trackNow_48 : decode cX6_trackNow 48 = .ok (.getfield 137, 3) := by decide +kernel
theorem dX6_trackNow_51 : decode cX6_trackNow 51 = .ok (.iadd, 1) := by decide +kernel
theorem dX6_trackNow_52 : decode cX6_trackNow 52 = .ok (.ireturn, 1) := by decide +kernel
theorem dX6_isFrame_0 : decode cX6_isFrame 0 = .ok (.iload_n 0, 1) := by decide +kernel
theorem dX6_isFrame_1 : decode cX6_isFrame 1 = .ok (.iconst 0, 1) := by decide +kernel
theorem dX6_isFrame_2 : decode cX6_isFrame 2 = .ok (.sipush 1999, 3) := by decide +kernel
theorem dX6_isFrame_5 : decode cX6_isFrame 5 = .ok (.invokestatic 87, 3) := by decide +kernel
theorem dX6_isFrame_8 : decode cX6_isFrame 8 = .ok (.ireturn, 1) := by decide +kernel
theorem dX6_finds_0 : decode cX6_finds 0 = .ok (.aload_n 0, 1) := by decide +kernel
theorem dX6_finds_1 : decode cX6_finds 1 = .ok (.aload_n 0, 1) := by decide +kernel
theorem dX6_finds_2 : decode cX6_finds 2 = .ok (.getfield 7, 3) := by decide +kernel
theorem dX6_finds_5 : decode cX6_finds 5 = .ok (.iload_n 1, 1) := by decide +kernel
theorem dX6_finds_6 : decode cX6_finds 6 = .ok (.iaload, 1) := by decide +kernel
theorem dX6_finds_7 : decode cX6_finds 7 = .ok (.putfield 134, 3) := by decide +kernel
theorem dX6_finds_10 : decode cX6_finds 10 = .ok (.aload_n 0, 1) := by decide +kernel
theorem dX6_finds_11 : decode cX6_finds 11 = .ok (.iconst 0, 1) := by decide +kernel
theorem dX6_finds_12 : decode cX6_finds 12 = .ok (.putfield 137, 3) := by decide +kernel
theorem dX6_finds_15 : decode cX6_finds 15 = .ok (.aload_n 0, 1) := by decide +kernel
theorem dX6_finds_16 : decode cX6_finds 16 = .ok (.getfield 16, 3) := by decide +kernel
theorem dX6_finds_19 : decode cX6_finds 19 = .ok (.iload_n 1, 1) := by decide +kernel
theorem dX6_finds_20 : decode cX6_finds 20 = .ok (.iaload, 1) := by decide +kernel
theorem dX6_finds_21 : decode cX6_finds 21 = .ok (.ifCond .ne 4, 3) := by decide +kernel
theorem dX6_finds_24 : decode cX6_finds 24 = .ok (.return_, 1) := by decide +kernel
theorem dX6_finds_25 : decode cX6_finds 25 = .ok (.aload_n 0, 1) := by decide +kernel
theorem dX6_finds_26 : decode cX6_finds 26 = .ok (.iload_n 1, 1) := by decide +kernel
theorem dX6_finds_27 : decode cX6_finds 27 = .ok (.iload_n 2, 1) := by decide +kernel
theorem dX6_finds_28 : decode cX6_finds 28 = .ok (.invokevirtual 101, 3) := by decide +kernel
theorem dX6_finds_31 : decode cX6_finds 31 = .ok (.istore_n 3, 1) := by decide +kernel
theorem dX6_finds_32 : decode cX6_finds 32 = .ok (.bipush 12, 2) := by decide +kernel
theorem dX6_finds_34 : decode cX6_finds 34 = .ok (.iload_n 1, 1) := by decide +kernel
theorem dX6_finds_35 : decode cX6_finds 35 = .ok (.imul, 1) := by decide +kernel
theorem dX6_finds_36 : decode cX6_finds 36 = .ok (.iload_n 3, 1) := by decide +kernel
theorem dX6_finds_37 : decode cX6_finds 37 = .ok (.aload_n 0, 1) := by decide +kernel
theorem dX6_finds_38 : decode cX6_finds 38 = .ok (.getfield 16, 3) := by decide +kernel
theorem dX6_finds_41 : decode cX6_finds 41 = .ok (.iload_n 1, 1) := by decide +kernel
theorem dX6_finds_42 : decode cX6_finds 42 = .ok (.iaload, 1) := by decide +kernel
theorem dX6_finds_43 : decode cX6_finds 43 = .ok (.if_icmp .ne 9, 3) := by decide +kernel
theorem dX6_finds_46 : decode cX6_finds 46 = .ok (.iload_n 3, 1) := by decide +kernel
theorem dX6_finds_47 : decode cX6_finds 47 = .ok (.iconst 1, 1) := by decide +kernel
theorem dX6_finds_48 : decode cX6_finds 48 = .ok (.isub, 1) := by decide +kernel
theorem dX6_finds_49 : decode cX6_finds 49 = .ok (.goto 4, 3) := by decide +kernel
theorem dX6_finds_52 : decode cX6_finds 52 = .ok (.iload_n 3, 1) := by decide +kernel
theorem dX6_finds_53 : decode cX6_finds 53 = .ok (.iadd, 1) := by decide +kernel
theorem dX6_finds_54 : decode cX6_finds 54 = .ok (.istore 4, 2) := by decide +kernel
theorem dX6_finds_56 : decode cX6_finds 56 = .ok (.aload_n 0, 1) := by decide +kernel
theorem dX6_finds_57 : decode cX6_finds 57 = .ok (.aload_n 0, 1) := by decide +kernel
theorem dX6_finds_58 : decode cX6_finds 58 = .ok (.getfield 28, 3) := by decide +kernel
theorem dX6_finds_61 : decode cX6_finds 61 = .ok (.iload 4, 2) := by decide +kernel
theorem dX6_finds_63 : decode cX6_finds 63 = .ok (.iaload, 1) := by decide +kernel
theorem dX6_finds_64 : decode cX6_finds 64 = .ok (.putfield 134, 3) := by decide +kernel
theorem dX6_finds_67 : decode cX6_finds 67 = .ok (.aload_n 0, 1) := by decide +kernel
theorem dX6_finds_68 : decode cX6_finds 68 = .ok (.aload_n 0, 1) := by decide +kernel
theorem dX6_finds_69 : decode cX6_finds 69 = .ok (.getfield 31, 3) := by decide +kernel
theorem dX6_finds_72 : decode cX6_finds 72 = .ok (.iload 4, 2) := by decide +kernel
theorem dX6_finds_74 : decode cX6_finds 74 = .ok (.iaload, 1) := by decide +kernel
theorem dX6_finds_75 : decode cX6_finds 75 = .ok (.putfield 137, 3) := by decide +kernel
theorem dX6_finds_78 : decode cX6_finds 78 = .ok (.iload_n 3, 1) := by decide +kernel
theorem dX6_finds_79 : decode cX6_finds 79 = .ok (.ifCond .eq 24, 3) := by decide +kernel
theorem dX6_finds_82 : decode cX6_finds 82 = .ok (.iload_n 3, 1) := by decide +kernel
theorem dX6_finds_83 : decode cX6_finds 83 = .ok (.aload_n 0, 1) := by decide +kernel
theorem dX6_finds_84 : decode cX6_finds 84 = .ok (.getfield 16, 3) := by decide +kernel
theorem dX6_finds_87 : decode cX6_finds 87 = .ok (.iload_n 1, 1) := by decide +kernel
theorem dX6_finds_88 : decode cX6_finds 88 = .ok (.iaload, 1) := by decide +kernel
theorem dX6_finds_89 : decode cX6_finds 89 = .ok (.if_icmp .eq 14, 3) := by decide +kernel
theorem dX6_finds_92 : decode cX6_finds 92 = .ok (.aload_n 0, 1) := by decide +kernel
theorem dX6_finds_93 : decode cX6_finds 93 = .ok (.getfield 25, 3) := by decide +kernel
theorem dX6_finds_96 : decode cX6_finds 96 = .ok (.iload 4, 2) := by decide +kernel
theorem dX6_finds_98 : decode cX6_finds 98 = .ok (.iaload, 1) := by decide +kernel
theorem dX6_finds_99 : decode cX6_finds 99 = .ok (.iload_n 2, 1) := by decide +kernel
theorem dX6_finds_100 : decode cX6_finds 100 = .ok (.if_icmp .ne 4, 3) := by decide +kernel
theorem dX6_finds_103 : decode cX6_finds 103 = .ok (.return_, 1) := by decide +kernel
theorem dX6_finds_104 : decode cX6_finds 104 = .ok (.iload 4, 2) := by decide +kernel
theorem dX6_finds_106 : decode cX6_finds 106 = .ok (.iconst 1, 1) := by decide +kernel
theorem dX6_finds_107 : decode cX6_finds 107 = .ok (.isub, 1) := by decide +kernel
theorem dX6_finds_108 : decode cX6_finds 108 = .ok (.istore 5, 2) := by decide +kernel
theorem dX6_finds_110 : decode cX6_finds 110 = .ok (.aload_n 0, 1) := by decide +kernel
theorem dX6_finds_111 : decode cX6_finds 111 = .ok (.getfield 68, 3) := by decide +kernel
theorem dX6_finds_114 : decode cX6_finds 114 = .ok (.bipush 8, 2) := by decide +kernel
theorem dX6_finds_116 : decode cX6_finds 116 = .ok (.aload_n 0, 1) := by decide +kernel
theorem dX6_finds_117 : decode cX6_finds 117 = .ok (.getfield 34, 3) := by decide +kernel
theorem dX6_finds_120 : decode cX6_finds 120 = .ok (.iload 5, 2) := by decide +kernel
theorem dX6_finds_122 : decode cX6_finds 122 = .ok (.iaload, 1) := by decide +kernel
theorem dX6_finds_123 : decode cX6_finds 123 = .ok (.imul, 1) := by decide +kernel
theorem dX6_finds_124 : decode cX6_finds 124 = .ok (.iload_n 2, 1) := by decide +kernel
theorem dX6_finds_125 : decode cX6_finds 125 = .ok (.aload_n 0, 1) := by decide +kernel
theorem dX6_finds_126 : decode cX6_finds 126 = .ok (.getfield 25, 3) := by decide +kernel
theorem dX6_finds_129 : decode cX6_finds 129 = .ok (.iload 5, 2) := by decide +kernel
theorem dX6_finds_131 : decode cX6_finds 131 = .ok (.iaload, 1) := by decide +kernel
theorem dX6_finds_132 : decode cX6_finds 132 = .ok (.isub, 1) := by decide +kernel
theorem dX6_finds_133 : decode cX6_finds 133 = .ok (.bipush 8, 2) := by decide +kernel
theorem dX6_finds_135 : decode cX6_finds 135 = .ok (.imul, 1) := by decide +kernel
theorem dX6_finds_136 : decode cX6_finds 136 = .ok (.aload_n 0, 1) := by decide +kernel
theorem dX6_finds_137 : decode cX6_finds 137 = .ok (.getfield 25, 3) := by decide +kernel
theorem dX6_finds_140 : decode cX6_finds 140 = .ok (.iload 4, 2) := by decide +kernel
theorem dX6_finds_142 : decode cX6_finds 142 = .ok (.iaload, 1) := by decide +kernel
theorem dX6_finds_143 : decode cX6_finds 143 = .ok (.aload_n 0, 1) := by decide +kernel
theorem dX6_finds_144 : decode cX6_finds 144 = .ok (.getfield 25, 3) := by decide +kernel
theorem dX6_finds_147 : decode cX6_finds 147 = .ok (.iload 5, 2) := by decide +kernel
theorem dX6_finds_149 : decode cX6_finds 149 = .ok (.iaload, 1) := by decide +kernel
theorem dX6_finds_150 : decode cX6_finds 150 = .ok (.isub, 1) := by decide +kernel
theorem dX6_finds_151 : decode cX6_finds 151 = .ok (.idiv, 1) := by decide +kernel
theorem dX6_finds_152 : decode cX6_finds 152 = .ok (.iadd, 1) := by decide +kernel
theorem dX6_finds_153 : decode cX6_finds 153 = .ok (.iaload, 1) := by decide +kernel
theorem dX6_finds_154 : decode cX6_finds 154 = .ok (.istore 6, 2) := by decide +kernel
theorem dX6_finds_156 : decode cX6_finds 156 = .ok (.aload_n 0, 1) := by decide +kernel
theorem dX6_finds_157 : decode cX6_finds 157 = .ok (.aload_n 0, 1) := by decide +kernel
theorem dX6_finds_158 : decode cX6_finds 158 = .ok (.getfield 28, 3) := by decide +kernel
theorem dX6_finds_161 : decode cX6_finds 161 = .ok (.iload 5, 2) := by decide +kernel
theorem dX6_finds_163 : decode cX6_finds 163 = .ok (.iaload, 1) := by decide +kernel
theorem dX6_finds_164 : decode cX6_finds 164 = .ok (.aload_n 0, 1) := by decide +kernel
theorem dX6_finds_165 : decode cX6_finds 165 = .ok (.getfield 28, 3) := by decide +kernel
theorem dX6_finds_168 : decode cX6_finds 168 = .ok (.iload 4, 2) := by decide +kernel
theorem dX6_finds_170 : decode cX6_finds 170 = .ok (.iaload, 1) := by decide +kernel
theorem dX6_finds_171 : decode cX6_finds 171 = .ok (.aload_n 0, 1) := by decide +kernel
theorem dX6_finds_172 : decode cX6_finds 172 = .ok (.getfield 28, 3) := by decide +kernel
theorem dX6_finds_175 : decode cX6_finds 175 = .ok (.iload 5, 2) := by decide +kernel
theorem dX6_finds_177 : decode cX6_finds 177 = .ok (.iaload, 1) := by decide +kernel
theorem dX6_finds_178 : decode cX6_finds 178 = .ok (.isub, 1) := by decide +kernel
theorem dX6_finds_179 : decode cX6_finds 179 = .ok (.iload 6, 2) := by decide +kernel
theorem dX6_finds_181 : decode cX6_finds 181 = .ok (.imul, 1) := by decide +kernel
theorem dX6_finds_182 : decode cX6_finds 182 = .ok (.bipush 64, 2) := by decide +kernel
theorem dX6_finds_184 : decode cX6_finds 184 = .ok (.idiv, 1) := by decide +kernel
theorem dX6_finds_185 : decode cX6_finds 185 = .ok (.iadd, 1) := by decide +kernel
theorem dX6_finds_186 : decode cX6_finds 186 = .ok (.putfield 134, 3) := by decide +kernel
theorem dX6_finds_189 : decode cX6_finds 189 = .ok (.aload_n 0, 1) := by decide +kernel
theorem dX6_finds_190 : decode cX6_finds 190 = .ok (.aload_n 0, 1) := by decide +kernel
theorem dX6_finds_191 : decode cX6_finds 191 = .ok (.getfield 31, 3) := by decide +kernel
theorem dX6_finds_194 : decode cX6_finds 194 = .ok (.iload 5, 2) := by decide +kernel
theorem dX6_finds_196 : decode cX6_finds 196 = .ok (.iaload, 1) := by decide +kernel
theorem dX6_finds_197 : decode cX6_finds 197 = .ok (.aload_n 0, 1) := by decide +kernel
theorem dX6_finds_198 : decode cX6_finds 198 = .ok (.getfield 31, 3) := by decide +kernel
theorem dX6_finds_201 : decode cX6_finds 201 = .ok (.iload 4, 2) := by decide +kernel
theorem dX6_finds_203 : decode cX6_finds 203 = .ok (.iaload, 1) := by decide +kernel
theorem dX6_finds_204 : decode cX6_finds 204 = .ok (.aload_n 0, 1) := by decide +kernel
theorem dX6_finds_205 : decode cX6_finds 205 = .ok (.getfield 31, 3) := by decide +kernel
theorem dX6_finds_208 : decode cX6_finds 208 = .ok (.iload 5, 2) := by decide +kernel
theorem dX6_finds_210 : decode cX6_finds 210 = .ok (.iaload, 1) := by decide +kernel
theorem dX6_finds_211 : decode cX6_finds 211 = .ok (.isub, 1) := by decide +kernel
theorem dX6_finds_212 : decode cX6_finds 212 = .ok (.iload 6, 2) := by decide +kernel
theorem dX6_finds_214 : decode cX6_finds 214 = .ok (.imul, 1) := by decide +kernel
theorem dX6_finds_215 : decode cX6_finds 215 = .ok (.bipush 64, 2) := by decide +kernel
theorem dX6_finds_217 : decode cX6_finds 217 = .ok (.idiv, 1) := by decide +kernel
theorem dX6_finds_218 : decode cX6_finds 218 = .ok (.iadd, 1) := by decide +kernel
theorem dX6_finds_219 : decode cX6_finds 219 = .ok (.putfield 137, 3) := by decide +kernel
theorem dX6_finds_222 : decode cX6_finds 222 = .ok (.return_, 1) := by decide +kernel
theorem dX6_trackByFrames_0 : decode cX6_trackByFrames 0 = .ok (.aload_n 0, 1) := by decide +kernel
theorem dX6_trackByFrames_1 : decode cX6_trackByFrames 1 = .ok (.iload_n 1, 1) := by decide +kernel
theorem dX6_trackByFrames_2 : decode cX6_trackByFrames 2 = .ok (.iload_n 2, 1) := by decide +kernel
theorem dX6_trackByFrames_3 : decode cX6_trackByFrames 3 = .ok (.invokevirtual 146, 3) := by decide +kernel
theorem dX6_trackByFrames_6 : decode cX6_trackByFrames 6 = .ok (.ireturn, 1) := by decide +kernel
theorem dX6_x_0 : decode cX6_x 0 = .ok (.aload_n 0, 1) := by decide +kernel
theorem dX6_x_1 : decode cX6_x 1 = .ok (.iload_n 1, 1) := by decide +kernel
theorem dX6_x_2 : decode cX6_x 2 = .ok (.iload_n 2, 1) := by decide +kernel
theorem dX6_x_3 : decode cX6_x 3 = .ok (.invokevirtual 162, 3) := by decide +kernel
theorem dX6_x_6 : decode cX6_x 6 = .ok (.istore 4, 2) := by decide +kernel
theorem dX6_x_8 : decode cX6_x 8 = .ok (.aload_n 0, 1) := by decide +kernel
theorem dX6_x_9 : decode cX6_x 9 = .ok (.iload 4, 2) := by decide +kernel
theorem dX6_x_11 : decode cX6_x 11 = .ok (.ifCond .ne 7, 3) := by decide +kernel
theorem dX6_x_14 : decode cX6_x 14 = .ok (.iconst 1, 1) := by decide +kernel
theorem dX6_x_15 : decode cX6_x 15 = .ok (.goto 15, 3) := by decide +kernel
theorem dX6_x_18 : decode cX6_x 18 = .ok (.iload_n 3, 1) := by decide +kernel
theorem dX6_x_19 : decode cX6_x 19 = .ok (.invokestatic 140, 3) := by decide +kernel
theorem dX6_x_22 : decode cX6_x 22 = .ok (.ifCond .ne 7, 3) := by decide +kernel
theorem dX6_x_25 : decode cX6_x 25 = .ok (.iconst 2, 1) := by decide +kernel
theorem dX6_x_26 : decode cX6_x 26 = .ok (.goto 4, 3) := by decide +kernel
theorem dX6_x_29 : decode cX6_x 29 = .ok (.iconst 0, 1) := by decide +kernel
theorem dX6_x_30 : decode cX6_x 30 = .ok (.invokevirtual 94, 3) := by decide +kernel
theorem dX6_x_33 : decode cX6_x 33 = .ok (.ifCond .ne 5, 3) := by decide +kernel
theorem dX6_x_36 : decode cX6_x 36 = .ok (.iconst 0, 1) := by decide +kernel
theorem dX6_x_37 : decode cX6_x 37 = .ok (.ireturn, 1) := by decide +kernel
theorem dX6_x_38 : decode cX6_x 38 = .ok (.aload_n 0, 1) := by decide +kernel
theorem dX6_x_39 : decode cX6_x 39 = .ok (.iload_n 1, 1) := by decide +kernel
theorem dX6_x_40 : decode cX6_x 40 = .ok (.iload_n 2, 1) := by decide +kernel
theorem dX6_x_41 : decode cX6_x 41 = .ok (.iload_n 3, 1) := by decide +kernel
theorem dX6_x_42 : decode cX6_x 42 = .ok (.invokevirtual 165, 3) := by decide +kernel
theorem dX6_x_45 : decode cX6_x 45 = .ok (.aload_n 0, 1) := by decide +kernel
theorem dX6_x_46 : decode cX6_x 46 = .ok (.getfield 71, 3) := by decide +kernel
theorem dX6_x_49 : decode cX6_x 49 = .ok (.iload_n 2, 1) := by decide +kernel
theorem dX6_x_50 : decode cX6_x 50 = .ok (.iaload, 1) := by decide +kernel
theorem dX6_x_51 : decode cX6_x 51 = .ok (.ireturn, 1) := by decide +kernel
theorem dX6_isOf_0 : decode cX6_isOf 0 = .ok (.aload_n 0, 1) := by decide +kernel
theorem dX6_isOf_1 : decode cX6_isOf 1 = .ok (.iload_n 1, 1) := by decide +kernel
theorem dX6_isOf_2 : decode cX6_isOf 2 = .ok (.invokevirtual 121, 3) := by decide +kernel
theorem dX6_isOf_5 : decode cX6_isOf 5 = .ok (.ifCond .eq 29, 3) := by decide +kernel
theorem dX6_isOf_8 : decode cX6_isOf 8 = .ok (.aload_n 0, 1) := by decide +kernel
theorem dX6_isOf_9 : decode cX6_isOf 9 = .ok (.iload_n 2, 1) := by decide +kernel
theorem dX6_isOf_10 : decode cX6_isOf 10 = .ok (.invokevirtual 98, 3) := by decide +kernel
theorem dX6_isOf_13 : decode cX6_isOf 13 = .ok (.ifCond .eq 21, 3) := by decide +kernel
theorem dX6_isOf_16 : decode cX6_isOf 16 = .ok (.aload_n 0, 1) := by decide +kernel
theorem dX6_isOf_17 : decode cX6_isOf 17 = .ok (.getfield 65, 3) := by decide +kernel
theorem dX6_isOf_20 : decode cX6_isOf 20 = .ok (.bipush 8, 2) := by decide +kernel
theorem dX6_isOf_22 : decode cX6_isOf 22 = .ok (.iload_n 1, 1) := by decide +kernel
theorem dX6_isOf_23 : decode cX6_isOf 23 = .ok (.imul, 1) := by decide +kernel
theorem dX6_isOf_24 : decode cX6_isOf 24 = .ok (.iload_n 2, 1) := by decide +kernel
theorem dX6_isOf_25 : decode cX6_isOf 25 = .ok (.iadd, 1) := by decide +kernel
theorem dX6_isOf_26 : decode cX6_isOf 26 = .ok (.baload, 1) := by decide +kernel
theorem dX6_isOf_27 : decode cX6_isOf 27 = .ok (.ifCond .eq 7, 3) := by decide +kernel
theorem dX6_isOf_30 : decode cX6_isOf 30 = .ok (.iconst 1, 1) := by decide +kernel
theorem dX6_isOf_31 : decode cX6_isOf 31 = .ok (.goto 4, 3) := by decide +kernel
theorem dX6_isOf_34 : decode cX6_isOf 34 = .ok (.iconst 0, 1) := by decide +kernel
theorem dX6_isOf_35 : decode cX6_isOf 35 = .ok (.ireturn, 1) := by decide +kernel
theorem dX6_goes_0 : decode cX6_goes 0 = .ok (.iconst 0, 1) := by decide +kernel
theorem dX6_goes_1 : decode cX6_goes 1 = .ok (.istore 4, 2) := by decide +kernel
theorem dX6_goes_3 : decode cX6_goes 3 = .ok (.iload 4, 2) := by decide +kernel
theorem dX6_goes_5 : decode cX6_goes 5 = .ok (.iload_n 2, 1) := by decide +kernel
theorem dX6_goes_6 : decode cX6_goes 6 = .ok (.if_icmp .gt 215, 3) := by decide +kernel
theorem dX6_goes_9 : decode cX6_goes 9 = .ok (.aload_n 0, 1) := by decide +kernel
theorem dX6_goes_10 : decode cX6_goes 10 = .ok (.getfield 65, 3) := by decide +kernel
theorem dX6_goes_13 : decode cX6_goes 13 = .ok (.bipush 8, 2) := by decide +kernel
theorem dX6_goes_15 : decode cX6_goes 15 = .ok (.iload_n 1, 1) := by decide +kernel
theorem dX6_goes_16 : decode cX6_goes 16 = .ok (.imul, 1) := by decide +kernel
theorem dX6_goes_17 : decode cX6_goes 17 = .ok (.iload 4, 2) := by decide +kernel
theorem dX6_goes_19 : decode cX6_goes 19 = .ok (.iadd, 1) := by decide +kernel
theorem dX6_goes_20 : decode cX6_goes 20 = .ok (.baload, 1) := by decide +kernel
theorem dX6_goes_21 : decode cX6_goes 21 = .ok (.ifCond .eq 194, 3) := by decide +kernel
theorem dX6_goes_24 : decode cX6_goes 24 = .ok (.aload_n 0, 1) := by decide +kernel
theorem dX6_goes_25 : decode cX6_goes 25 = .ok (.iload 4, 2) := by decide +kernel
theorem dX6_goes_27 : decode cX6_goes 27 = .ok (.aload_n 0, 1) := by decide +kernel
theorem dX6_goes_28 : decode cX6_goes 28 = .ok (.iload 4, 2) := by decide +kernel
theorem dX6_goes_30 : decode cX6_goes 30 = .ok (.iload_n 3, 1) := by decide +kernel
theorem dX6_goes_31 : decode cX6_goes 31 = .ok (.invokevirtual 152, 3) := by decide +kernel
theorem dX6_goes_34 : decode cX6_goes 34 = .ok (.invokevirtual 143, 3) := by decide +kernel
theorem dX6_goes_37 : decode cX6_goes 37 = .ok (.aload_n 0, 1) := by decide +kernel
theorem dX6_goes_38 : decode cX6_goes 38 = .ok (.getfield 71, 3) := by decide +kernel
theorem dX6_goes_41 : decode cX6_goes 41 = .ok (.iload 4, 2) := by decide +kernel
theorem dX6_goes_43 : decode cX6_goes 43 = .ok (.aload_n 0, 1) := by decide +kernel
theorem dX6_goes_44 : decode cX6_goes 44 = .ok (.getfield 134, 3) := by decide +kernel
theorem dX6_goes_47 : decode cX6_goes 47 = .ok (.iastore, 1) := by decide +kernel
theorem dX6_goes_48 : decode cX6_goes 48 = .ok (.aload_n 0, 1) := by decide +kernel
theorem dX6_goes_49 : decode cX6_goes 49 = .ok (.getfield 74, 3) := by decide +kernel
theorem dX6_goes_52 : decode cX6_goes 52 = .ok (.iload 4, 2) := by decide +kernel
theorem dX6_goes_54 : decode cX6_goes 54 = .ok (.aload_n 0, 1) := by decide +kernel
theorem dX6_goes_55 : decode cX6_goes 55 = .ok (.getfield 137, 3) := by decide +kernel
theorem dX6_goes_58 : decode cX6_goes 58 = .ok (.iastore, 1) := by decide +kernel
theorem dX6_goes_59 : decode cX6_goes 59 = .ok (.aload_n 0, 1) := by decide +kernel
theorem dX6_goes_60 : decode cX6_goes 60 = .ok (.iload 4, 2) := by decide +kernel
theorem dX6_goes_62 : decode cX6_goes 62 = .ok (.invokevirtual 155, 3) := by decide +kernel
theorem dX6_goes_65 : decode cX6_goes 65 = .ok (.aload_n 0, 1) := by decide +kernel
theorem dX6_goes_66 : decode cX6_goes 66 = .ok (.getfield 77, 3) := by decide +kernel
theorem dX6_goes_69 : decode cX6_goes 69 = .ok (.iload 4, 2) := by decide +kernel
theorem dX6_goes_71 : decode cX6_goes 71 = .ok (.iconst 0, 1) := by decide +kernel
theorem dX6_goes_72 : decode cX6_goes 72 = .ok (.bastore, 1) := by decide +kernel
theorem dX6_goes_73 : decode cX6_goes 73 = .ok (.iconst 0, 1) := by decide +kernel
theorem dX6_goes_74 : decode cX6_goes 74 = .ok (.istore 5, 2) := by decide +kernel
theorem dX6_goes_76 : decode cX6_goes 76 = .ok (.iload 5, 2) := by decide +kernel
theorem dX6_goes_78 : decode cX6_goes 78 = .ok (.iload 4, 2) := by decide +kernel
theorem dX6_goes_80 : decode cX6_goes 80 = .ok (.if_icmp .ge 119, 3) := by decide +kernel
theorem dX6_goes_83 : decode cX6_goes 83 = .ok (.aload_n 0, 1) := by decide +kernel
theorem dX6_goes_84 : decode cX6_goes 84 = .ok (.getfield 65, 3) := by decide +kernel
theorem dX6_goes_87 : decode cX6_goes 87 = .ok (.bipush 8, 2) := by decide +kernel
theorem dX6_goes_89 : decode cX6_goes 89 = .ok (.iload_n 1, 1) := by decide +kernel
theorem dX6_goes_90 : decode cX6_goes 90 = .ok (.imul, 1) := by decide +kernel
theorem dX6_goes_91 : decode cX6_goes 91 = .ok (.iload 5, 2) := by decide +kernel
theorem dX6_goes_93 : decode cX6_goes 93 = .ok (.iadd, 1) := by decide +kernel
theorem dX6_goes_94 : decode cX6_goes 94 = .ok (.baload, 1) := by decide +kernel
theorem dX6_goes_95 : decode cX6_goes 95 = .ok (.ifCond .eq 98, 3) := by decide +kernel
theorem dX6_goes_98 : decode cX6_goes 98 = .ok (.aload_n 0, 1) := by decide +kernel
theorem dX6_goes_99 : decode cX6_goes 99 = .ok (.getfield 71, 3) := by decide +kernel
theorem dX6_goes_102 : decode cX6_goes 102 = .ok (.iload 4, 2) := by decide +kernel
theorem dX6_goes_104 : decode cX6_goes 104 = .ok (.iaload, 1) := by decide +kernel
theorem dX6_goes_105 : decode cX6_goes 105 = .ok (.aload_n 0, 1) := by decide +kernel
theorem dX6_goes_106 : decode cX6_goes 106 = .ok (.getfield 71, 3) := by decide +kernel
theorem dX6_goes_109 : decode cX6_goes 109 = .ok (.iload 5, 2) := by decide +kernel
theorem dX6_goes_111 : decode cX6_goes 111 = .ok (.iaload, 1) := by decide +kernel
theorem dX6_goes_112 : decode cX6_goes 112 = .ok (.invokestatic 159, 3) := by decide +kernel
theorem dX6_goes_115 : decode cX6_goes 115 = .ok (.ifCond .eq 78, 3) := by decide +kernel
theorem dX6_goes_118 : decode cX6_goes 118 = .ok (.aload_n 0, 1) := by decide +kernel
theorem dX6_goes_119 : decode cX6_goes 119 = .ok (.getfield 74, 3) := by decide +kernel
theorem dX6_goes_122 : decode cX6_goes 122 = .ok (.iload 4, 2) := by decide +kernel
theorem dX6_goes_124 : decode cX6_goes 124 = .ok (.iaload, 1) := by decide +kernel
theorem dX6_goes_125 : decode cX6_goes 125 = .ok (.aload_n 0, 1) := by decide +kernel
theorem dX6_goes_126 : decode cX6_goes 126 = .ok (.getfield 74, 3) := by decide +kernel
theorem dX6_goes_129 : decode cX6_goes 129 = .ok (.iload 5, 2) := by decide +kernel
theorem dX6_goes_131 : decode cX6_goes 131 = .ok (.iaload, 1) := by decide +kernel
theorem dX6_goes_132 : decode cX6_goes 132 = .ok (.invokestatic 159, 3) := by decide +kernel
theorem dX6_goes_135 : decode cX6_goes 135 = .ok (.ifCond .eq 58, 3) := by decide +kernel
theorem dX6_goes_138 : decode cX6_goes 138 = .ok (.aload_n 0, 1) := by decide +kernel
theorem dX6_goes_139 : decode cX6_goes 139 = .ok (.getfield 71, 3) := by decide +kernel
theorem dX6_goes_142 : decode cX6_goes 142 = .ok (.iload 4, 2) := by decide +kernel
theorem dX6_goes_144 : decode cX6_goes 144 = .ok (.aload_n 0, 1) := by decide +kernel
theorem dX6_goes_145 : decode cX6_goes 145 = .ok (.getfield 71, 3) := by decide +kernel
theorem dX6_goes_148 : decode cX6_goes 148 = .ok (.iload 4, 2) := by decide +kernel
theorem dX6_goes_150 : decode cX6_goes 150 = .ok (.iaload, 1) := by decide +kernel
theorem dX6_goes_151 : decode cX6_goes 151 = .ok (.aload_n 0, 1) := by decide +kernel
theorem dX6_goes_152 : decode cX6_goes 152 = .ok (.getfield 71, 3) := by decide +kernel
theorem dX6_goes_155 : decode cX6_goes 155 = .ok (.iload 5, 2) := by decide +kernel
theorem dX6_goes_157 : decode cX6_goes 157 = .ok (.iaload, 1) := by decide +kernel
theorem dX6_goes_158 : decode cX6_goes 158 = .ok (.if_icmp .ge 16, 3) := by decide +kernel
theorem dX6_goes_161 : decode cX6_goes 161 = .ok (.aload_n 0, 1) := by decide +kernel
theorem dX6_goes_162 : decode cX6_goes 162 = .ok (.getfield 71, 3) := by decide +kernel
theorem dX6_goes_165 : decode cX6_goes 165 = .ok (.iload 5, 2) := by decide +kernel
theorem dX6_goes_167 : decode cX6_goes 167 = .ok (.iaload, 1) := by decide +kernel
theorem dX6_goes_168 : decode cX6_goes 168 = .ok (.bipush 10, 2) := by decide +kernel
theorem dX6_goes_170 : decode cX6_goes 170 = .ok (.isub, 1) := by decide +kernel
theorem dX6_goes_171 : decode cX6_goes 171 = .ok (.goto 13, 3) := by decide +kernel
theorem dX6_goes_174 : decode cX6_goes 174 = .ok (.aload_n 0, 1) := by decide +kernel
theorem dX6_goes_175 : decode cX6_goes 175 = .ok (.getfield 71, 3) := by decide +kernel
theorem dX6_goes_178 : decode cX6_goes 178 = .ok (.iload 5, 2) := by decide +kernel
theorem dX6_goes_180 : decode cX6_goes 180 = .ok (.iaload, 1) := by decide +kernel
theorem dX6_goes_181 : decode cX6_goes 181 = .ok (.bipush 10, 2) := by decide +kernel
theorem dX6_goes_183 : decode cX6_goes 183 = .ok (.iadd, 1) := by decide +kernel
theorem dX6_goes_184 : decode cX6_goes 184 = .ok (.iastore, 1) := by decide +kernel
theorem dX6_goes_185 : decode cX6_goes 185 = .ok (.aload_n 0, 1) := by decide +kernel
theorem dX6_goes_186 : decode cX6_goes 186 = .ok (.getfield 77, 3) := by decide +kernel
theorem dX6_goes_189 : decode cX6_goes 189 = .ok (.iload 4, 2) := by decide +kernel
theorem dX6_goes_191 : decode cX6_goes 191 = .ok (.iconst 1, 1) := by decide +kernel
theorem dX6_goes_192 : decode cX6_goes 192 = .ok (.bastore, 1) := by decide +kernel
theorem dX6_goes_193 : decode cX6_goes 193 = .ok (.iinc 5 1, 3) := by decide +kernel
theorem dX6_goes_196 : decode cX6_goes 196 = .ok (.goto (-120), 3) := by decide +kernel
theorem dX6_goes_199 : decode cX6_goes 199 = .ok (.aload_n 0, 1) := by decide +kernel
theorem dX6_goes_200 : decode cX6_goes 200 = .ok (.getfield 77, 3) := by decide +kernel
theorem dX6_goes_203 : decode cX6_goes 203 = .ok (.iload 4, 2) := by decide +kernel
theorem dX6_goes_205 : decode cX6_goes 205 = .ok (.baload, 1) := by decide +kernel
theorem dX6_goes_206 : decode cX6_goes 206 = .ok (.ifCond .eq 9, 3) := by decide +kernel
theorem dX6_goes_209 : decode cX6_goes 209 = .ok (.aload_n 0, 1) := by decide +kernel
theorem dX6_goes_210 : decode cX6_goes 210 = .ok (.iload 4, 2) := by decide +kernel
theorem dX6_goes_212 : decode cX6_goes 212 = .ok (.invokevirtual 155, 3) := by decide +kernel
theorem dX6_goes_215 : decode cX6_goes 215 = .ok (.iinc 4 1, 3) := by decide +kernel
theorem dX6_goes_218 : decode cX6_goes 218 = .ok (.goto (-215), 3) := by decide +kernel
theorem dX6_goes_221 : decode cX6_goes 221 = .ok (.return_, 1) := by decide +kernel
theorem dX6_ownFrame_0 : decode cX6_ownFrame 0 = .ok (.aload_n 0, 1) := by decide +kernel
theorem dX6_ownFrame_1 : decode cX6_ownFrame 1 = .ok (.getfield 19, 3) := by decide +kernel
theorem dX6_ownFrame_4 : decode cX6_ownFrame 4 = .ok (.iload_n 1, 1) := by decide +kernel
theorem dX6_ownFrame_5 : decode cX6_ownFrame 5 = .ok (.iaload, 1) := by decide +kernel
theorem dX6_ownFrame_6 : decode cX6_ownFrame 6 = .ok (.iconst (-1), 1) := by decide +kernel
theorem dX6_ownFrame_7 : decode cX6_ownFrame 7 = .ok (.if_icmp .ne 5, 3) := by decide +kernel
theorem dX6_ownFrame_10 : decode cX6_ownFrame 10 = .ok (.iload_n 2, 1) := by decide +kernel
theorem dX6_ownFrame_11 : decode cX6_ownFrame 11 = .ok (.ireturn, 1) := by decide +kernel
theorem dX6_ownFrame_12 : decode cX6_ownFrame 12 = .ok (.aload_n 0, 1) := by decide +kernel
theorem dX6_ownFrame_13 : decode cX6_ownFrame 13 = .ok (.getfield 46, 3) := by decide +kernel
theorem dX6_ownFrame_16 : decode cX6_ownFrame 16 = .ok (.aload_n 0, 1) := by decide +kernel
theorem dX6_ownFrame_17 : decode cX6_ownFrame 17 = .ok (.getfield 19, 3) := by decide +kernel
theorem dX6_ownFrame_20 : decode cX6_ownFrame 20 = .ok (.iload_n 1, 1) := by decide +kernel
theorem dX6_ownFrame_21 : decode cX6_ownFrame 21 = .ok (.iaload, 1) := by decide +kernel
theorem dX6_ownFrame_22 : decode cX6_ownFrame 22 = .ok (.iaload, 1) := by decide +kernel
theorem dX6_ownFrame_23 : decode cX6_ownFrame 23 = .ok (.istore_n 3, 1) := by decide +kernel
theorem dX6_ownFrame_24 : decode cX6_ownFrame 24 = .ok (.iload_n 3, 1) := by decide +kernel
theorem dX6_ownFrame_25 : decode cX6_ownFrame 25 = .ok (.iconst (-1), 1) := by decide +kernel
theorem dX6_ownFrame_26 : decode cX6_ownFrame 26 = .ok (.if_icmp .eq 8, 3) := by decide +kernel
theorem dX6_ownFrame_29 : decode cX6_ownFrame 29 = .ok (.iload_n 2, 1) := by decide +kernel
theorem dX6_ownFrame_30 : decode cX6_ownFrame 30 = .ok (.iload_n 3, 1) := by decide +kernel
theorem dX6_ownFrame_31 : decode cX6_ownFrame 31 = .ok (.if_icmp .ge 7, 3) := by decide +kernel
theorem dX6_ownFrame_34 : decode cX6_ownFrame 34 = .ok (.iconst 0, 1) := by decide +kernel
theorem dX6_ownFrame_35 : decode cX6_ownFrame 35 = .ok (.goto 6, 3) := by decide +kernel
theorem dX6_ownFrame_38 : decode cX6_ownFrame 38 = .ok (.iload_n 2, 1) := by decide +kernel
theorem dX6_ownFrame_39 : decode cX6_ownFrame 39 = .ok (.iload_n 3, 1) := by decide +kernel
theorem dX6_ownFrame_40 : decode cX6_ownFrame 40 = .ok (.isub, 1) := by decide +kernel
theorem dX6_ownFrame_41 : decode cX6_ownFrame 41 = .ok (.ireturn, 1) := by decide +kernel
theorem dX6_pulls_0 : decode cX6_pulls 0 = .ok (.aload_n 0, 1) := by decide +kernel
theorem dX6_pulls_1 : decode cX6_pulls 1 = .ok (.getfield 13, 3) := by decide +kernel
theorem dX6_pulls_4 : decode cX6_pulls 4 = .ok (.iload_n 1, 1) := by decide +kernel
theorem dX6_pulls_5 : decode cX6_pulls 5 = .ok (.iaload, 1) := by decide +kernel
theorem dX6_pulls_6 : decode cX6_pulls 6 = .ok (.aload_n 0, 1) := by decide +kernel
theorem dX6_pulls_7 : decode cX6_pulls 7 = .ok (.getfield 13, 3) := by decide +kernel
theorem dX6_pulls_10 : decode cX6_pulls 10 = .ok (.iload_n 1, 1) := by decide +kernel
theorem dX6_pulls_11 : decode cX6_pulls 11 = .ok (.iaload, 1) := by decide +kernel
theorem dX6_pulls_12 : decode cX6_pulls 12 = .ok (.imul, 1) := by decide +kernel
theorem dX6_pulls_13 : decode cX6_pulls 13 = .ok (.istore_n 2, 1) := by decide +kernel
theorem dX6_pulls_14 : decode cX6_pulls 14 = .ok (.aload_n 0, 1) := by decide +kernel
theorem dX6_pulls_15 : decode cX6_pulls 15 = .ok (.getfield 71, 3) := by decide +kernel
theorem dX6_pulls_18 : decode cX6_pulls 18 = .ok (.iload_n 1, 1) := by decide +kernel
theorem dX6_pulls_19 : decode cX6_pulls 19 = .ok (.iaload, 1) := by decide +kernel
theorem dX6_pulls_20 : decode cX6_pulls 20 = .ok (.aload_n 0, 1) := by decide +kernel
theorem dX6_pulls_21 : decode cX6_pulls 21 = .ok (.getfield 7, 3) := by decide +kernel
theorem dX6_pulls_24 : decode cX6_pulls 24 = .ok (.iload_n 1, 1) := by decide +kernel
theorem dX6_pulls_25 : decode cX6_pulls 25 = .ok (.iaload, 1) := by decide +kernel
theorem dX6_pulls_26 : decode cX6_pulls 26 = .ok (.isub, 1) := by decide +kernel
theorem dX6_pulls_27 : decode cX6_pulls 27 = .ok (.aload_n 0, 1) := by decide +kernel
theorem dX6_pulls_28 : decode cX6_pulls 28 = .ok (.getfield 74, 3) := by decide +kernel
theorem dX6_pulls_31 : decode cX6_pulls 31 = .ok (.iload_n 1, 1) := by decide +kernel
theorem dX6_pulls_32 : decode cX6_pulls 32 = .ok (.iaload, 1) := by decide +kernel
theorem dX6_pulls_33 : decode cX6_pulls 33 = .ok (.invokestatic 149, 3) := by decide +kernel
theorem dX6_pulls_36 : decode cX6_pulls 36 = .ok (.iload_n 2, 1) := by decide +kernel
theorem dX6_pulls_37 : decode cX6_pulls 37 = .ok (.if_icmp .gt 4, 3) := by decide +kernel
theorem dX6_pulls_40 : decode cX6_pulls 40 = .ok (.return_, 1) := by decide +kernel
theorem dX6_pulls_41 : decode cX6_pulls 41 = .ok (.aload_n 0, 1) := by decide +kernel
theorem dX6_pulls_42 : decode cX6_pulls 42 = .ok (.getfield 71, 3) := by decide +kernel
theorem dX6_pulls_45 : decode cX6_pulls 45 = .ok (.iload_n 1, 1) := by decide +kernel
theorem dX6_pulls_46 : decode cX6_pulls 46 = .ok (.aload_n 0, 1) := by decide +kernel
theorem dX6_pulls_47 : decode cX6_pulls 47 = .ok (.getfield 71, 3) := by decide +kernel
theorem dX6_pulls_50 : decode cX6_pulls 50 = .ok (.iload_n 1, 1) := by decide +kernel
theorem dX6_pulls_51 : decode cX6_pulls 51 = .ok (.iaload, 1) := by decide +kernel
theorem dX6_pulls_52 : decode cX6_pulls 52 = .ok (.aload_n 0, 1) := by decide +kernel
theorem dX6_pulls_53 : decode cX6_pulls 53 = .ok (.getfield 7, 3) := by decide +kernel
theorem dX6_pulls_56 : decode cX6_pulls 56 = .ok (.iload_n 1, 1) := by decide +kernel
theorem dX6_pulls_57 : decode cX6_pulls 57 = .ok (.iaload, 1) := by decide +kernel
theorem dX6_pulls_58 : decode cX6_pulls 58 = .ok (.aload_n 0, 1) := by decide +kernel
theorem dX6_pulls_59 : decode cX6_pulls 59 = .ok (.getfield 13, 3) := by decide +kernel
theorem dX6_pulls_62 : decode cX6_pulls 62 = .ok (.iload_n 1, 1) := by decide +kernel
theorem dX6_pulls_63 : decode cX6_pulls 63 = .ok (.iaload, 1) := by decide +kernel
theorem dX6_pulls_64 : decode cX6_pulls 64 = .ok (.iadd, 1) := by decide +kernel
theorem dX6_pulls_65 : decode cX6_pulls 65 = .ok (.if_icmp .le 19, 3) := by decide +kernel
theorem dX6_pulls_68 : decode cX6_pulls 68 = .ok (.aload_n 0, 1) := by decide +kernel
theorem dX6_pulls_69 : decode cX6_pulls 69 = .ok (.getfield 7, 3) := by decide +kernel
theorem dX6_pulls_72 : decode cX6_pulls 72 = .ok (.iload_n 1, 1) := by decide +kernel
theorem dX6_pulls_73 : decode cX6_pulls 73 = .ok (.iaload, 1) := by decide +kernel
theorem dX6_pulls_74 : decode cX6_pulls 74 = .ok (.aload_n 0, 1) := by decide +kernel
theorem dX6_pulls_75 : decode cX6_pulls 75 = .ok (.getfield 13, 3) := by decide +kernel
theorem dX6_pulls_78 : decode cX6_pulls 78 = .ok (.iload_n 1, 1) := by decide +kernel
theorem dX6_pulls_79 : decode cX6_pulls 79 = .ok (.iaload, 1) := by decide +kernel
theorem dX6_pulls_80 : decode cX6_pulls 80 = .ok (.iadd, 1) := by decide +kernel
theorem dX6_pulls_81 : decode cX6_pulls 81 = .ok (.goto 47, 3) := by decide +kernel
theorem dX6_pulls_84 : decode cX6_pulls 84 = .ok (.aload_n 0, 1) := by decide +kernel
theorem dX6_pulls_85 : decode cX6_pulls 85 = .ok (.getfield 71, 3) := by decide +kernel
theorem dX6_pulls_88 : decode cX6_pulls 88 = .ok (.iload_n 1, 1) := by decide +kernel
theorem dX6_pulls_89 : decode cX6_pulls 89 = .ok (.iaload, 1) := by decide +kernel
theorem dX6_pulls_90 : decode cX6_pulls 90 = .ok (.aload_n 0, 1) := by decide +kernel
theorem dX6_pulls_91 : decode cX6_pulls 91 = .ok (.getfield 7, 3) := by decide +kernel
theorem dX6_pulls_94 : decode cX6_pulls 94 = .ok (.iload_n 1, 1) := by decide +kernel
theorem dX6_pulls_95 : decode cX6_pulls 95 = .ok (.iaload, 1) := by decide +kernel
theorem dX6_pulls_96 : decode cX6_pulls 96 = .ok (.aload_n 0, 1) := by decide +kernel
theorem dX6_pulls_97 : decode cX6_pulls 97 = .ok (.getfield 13, 3) := by decide +kernel
theorem dX6_pulls_100 : decode cX6_pulls 100 = .ok (.iload_n 1, 1) := by decide +kernel
theorem dX6_pulls_101 : decode cX6_pulls 101 = .ok (.iaload, 1) := by decide +kernel
theorem dX6_pulls_102 : decode cX6_pulls 102 = .ok (.isub, 1) := by decide +kernel
theorem dX6_pulls_103 : decode cX6_pulls 103 = .ok (.if_icmp .ge 19, 3) := by decide +kernel
theorem dX6_pulls_106 : decode cX6_pulls 106 = .ok (.aload_n 0, 1) := by decide +kernel
theorem dX6_pulls_107 : decode cX6_pulls 107 = .ok (.getfield 7, 3) := by decide +kernel
theorem dX6_pulls_110 : decode cX6_pulls 110 = .ok (.iload_n 1, 1) := by decide +kernel
theorem dX6_pulls_111 : decode cX6_pulls 111 = .ok (.iaload, 1) := by decide +kernel
theorem dX6_pulls_112 : decode cX6_pulls 112 = .ok (.aload_n 0, 1) := by decide +kernel
theorem dX6_pulls_113 : decode cX6_pulls 113 = .ok (.getfield 13, 3) := by decide +kernel
theorem dX6_pulls_116 : decode cX6_pulls 116 = .ok (.iload_n 1, 1) := by decide +kernel
theorem dX6_pulls_117 : decode cX6_pulls 117 = .ok (.iaload, 1) := by decide +kernel
theorem dX6_pulls_118 : decode cX6_pulls 118 = .ok (.isub, 1) := by decide +kernel
theorem dX6_pulls_119 : decode cX6_pulls 119 = .ok (.goto 9, 3) := by decide +kernel
theorem dX6_pulls_122 : decode cX6_pulls 122 = .ok (.aload_n 0, 1) := by decide +kernel
theorem dX6_pulls_123 : decode cX6_pulls 123 = .ok (.getfield 71, 3) := by decide +kernel
theorem dX6_pulls_126 : decode cX6_pulls 126 = .ok (.iload_n 1, 1) := by decide +kernel
theorem dX6_pulls_127 : decode cX6_pulls 127 = .ok (.iaload, 1) := by decide +kernel
theorem dX6_pulls_128 : decode cX6_pulls 128 = .ok (.iastore, 1) := by decide +kernel
theorem dX6_pulls_129 : decode cX6_pulls 129 = .ok (.iconst 0, 1) := by decide +kernel
theorem dX6_pulls_130 : decode cX6_pulls 130 = .ok (.istore_n 3, 1) := by decide +kernel
theorem dX6_pulls_131 : decode cX6_pulls 131 = .ok (.aload_n 0, 1) := by decide +kernel
theorem dX6_pulls_132 : decode cX6_pulls 132 = .ok (.getfield 13, 3) := by decide +kernel
theorem dX6_pulls_135 : decode cX6_pulls 135 = .ok (.iload_n 1, 1) := by decide +kernel
theorem dX6_pulls_136 : decode cX6_pulls 136 = .ok (.iaload, 1) := by decide +kernel
theorem dX6_pulls_137 : decode cX6_pulls 137 = .ok (.istore 4, 2) := by decide +kernel
theorem dX6_pulls_139 : decode cX6_pulls 139 = .ok (.iload_n 3, 1) := by decide +kernel
theorem dX6_pulls_140 : decode cX6_pulls 140 = .ok (.iload 4, 2) := by decide +kernel
theorem dX6_pulls_142 : decode cX6_pulls 142 = .ok (.if_icmp .ge 73, 3) := by decide +kernel
theorem dX6_pulls_145 : decode cX6_pulls 145 = .ok (.iload_n 3, 1) := by decide +kernel
theorem dX6_pulls_146 : decode cX6_pulls 146 = .ok (.iload 4, 2) := by decide +kernel
theorem dX6_pulls_148 : decode cX6_pulls 148 = .ok (.iadd, 1) := by decide +kernel
theorem dX6_pulls_149 : decode cX6_pulls 149 = .ok (.iconst 1, 1) := by decide +kernel
theorem dX6_pulls_150 : decode cX6_pulls 150 = .ok (.iadd, 1) := by decide +kernel
theorem dX6_pulls_151 : decode cX6_pulls 151 = .ok (.iconst 2, 1) := by decide +kernel
theorem dX6_pulls_152 : decode cX6_pulls 152 = .ok (.idiv, 1) := by decide +kernel
theorem dX6_pulls_153 : decode cX6_pulls 153 = .ok (.istore 5, 2) := by decide +kernel
theorem dX6_pulls_155 : decode cX6_pulls 155 = .ok (.aload_n 0, 1) := by decide +kernel
theorem dX6_pulls_156 : decode cX6_pulls 156 = .ok (.getfield 71, 3) := by decide +kernel
theorem dX6_pulls_159 : decode cX6_pulls 159 = .ok (.iload_n 1, 1) := by decide +kernel
theorem dX6_pulls_160 : decode cX6_pulls 160 = .ok (.iaload, 1) := by decide +kernel
theorem dX6_pulls_161 : decode cX6_pulls 161 = .ok (.aload_n 0, 1) := by decide +kernel
theorem dX6_pulls_162 : decode cX6_pulls 162 = .ok (.getfield 7, 3) := by decide +kernel
theorem dX6_pulls_165 : decode cX6_pulls 165 = .ok (.iload_n 1, 1) := by decide +kernel
theorem dX6_pulls_166 : decode cX6_pulls 166 = .ok (.iaload, 1) := by decide +kernel
theorem dX6_pulls_167 : decode cX6_pulls 167 = .ok (.isub, 1) := by decide +kernel
theorem dX6_pulls_168 : decode cX6_pulls 168 = .ok (.iload 5, 2) := by decide +kernel
theorem dX6_pulls_170 : decode cX6_pulls 170 = .ok (.invokestatic 149, 3) := by decide +kernel
theorem dX6_pulls_173 : decode cX6_pulls 173 = .ok (.iload_n 2, 1) := by decide +kernel
theorem dX6_pulls_174 : decode cX6_pulls 174 = .ok (.if_icmp .gt 7, 3) := by decide +kernel
theorem dX6_pulls_177 : decode cX6_pulls 177 = .ok (.iconst 1, 1) := by decide +kernel
theorem dX6_pulls_178 : decode cX6_pulls 178 = .ok (.goto 4, 3) := by decide +kernel
theorem dX6_pulls_181 : decode cX6_pulls 181 = .ok (.iconst 0, 1) := by decide +kernel
theorem dX6_pulls_182 : decode cX6_pulls 182 = .ok (.istore 6, 2) := by decide +kernel
theorem dX6_pulls_184 : decode cX6_pulls 184 = .ok (.iload 6, 2) := by decide +kernel
theorem dX6_pulls_186 : decode cX6_pulls 186 = .ok (.ifCond .eq 8, 3) := by decide +kernel
theorem dX6_pulls_189 : decode cX6_pulls 189 = .ok (.iload 5, 2) := by decide +kernel
theorem dX6_pulls_191 : decode cX6_pulls 191 = .ok (.goto 4, 3) := by decide +kernel
theorem dX6_pulls_194 : decode cX6_pulls 194 = .ok (.iload_n 3, 1) := by decide +kernel
theorem dX6_pulls_195 : decode cX6_pulls 195 = .ok (.istore_n 3, 1) := by decide +kernel
theorem dX6_pulls_196 : decode cX6_pulls 196 = .ok (.iload 6, 2) := by decide +kernel
theorem dX6_pulls_198 : decode cX6_pulls 198 = .ok (.ifCond .eq 8, 3) := by decide +kernel
theorem dX6_pulls_201 : decode cX6_pulls 201 = .ok (.iload 4, 2) := by decide +kernel
theorem dX6_pulls_203 : decode cX6_pulls 203 = .ok (.goto 7, 3) := by decide +kernel
theorem dX6_pulls_206 : decode cX6_pulls 206 = .ok (.iload 5, 2) := by decide +kernel
theorem dX6_pulls_208 : decode cX6_pulls 208 = .ok (.iconst 1, 1) := by decide +kernel
theorem dX6_pulls_209 : decode cX6_pulls 209 = .ok (.isub, 1) := by decide +kernel
theorem dX6_pulls_210 : decode cX6_pulls 210 = .ok (.istore 4, 2) := by decide +kernel
theorem dX6_pulls_212 : decode cX6_pulls 212 = .ok (.goto (-73), 3) := by decide +kernel
theorem dX6_pulls_215 : decode cX6_pulls 215 = .ok (.aload_n 0, 1) := by decide +kernel
theorem dX6_pulls_216 : decode cX6_pulls 216 = .ok (.getfield 74, 3) := by decide +kernel
theorem dX6_pulls_219 : decode cX6_pulls 219 = .ok (.iload_n 1, 1) := by decide +kernel
theorem dX6_pulls_220 : decode cX6_pulls 220 = .ok (.iload_n 3, 1) := by decide +kernel
theorem dX6_pulls_221 : decode cX6_pulls 221 = .ok (.iastore, 1) := by decide +kernel
theorem dX6_pulls_222 : decode cX6_pulls 222 = .ok (.return_, 1) := by decide +kernel
theorem dX6_far_0 : decode cX6_far 0 = .ok (.iload_n 0, 1) := by decide +kernel
theorem dX6_far_1 : decode cX6_far 1 = .ok (.iload_n 0, 1) := by decide +kernel
theorem dX6_far_2 : decode cX6_far 2 = .ok (.imul, 1) := by decide +kernel
theorem dX6_far_3 : decode cX6_far 3 = .ok (.iload_n 1, 1) := by decide +kernel
theorem dX6_far_4 : decode cX6_far 4 = .ok (.iload_n 1, 1) := by decide +kernel
theorem dX6_far_5 : decode cX6_far 5 = .ok (.imul, 1) := by decide +kernel
theorem dX6_far_6 : decode cX6_far 6 = .ok (.iadd, 1) := by decide +kernel
theorem dX6_far_7 : decode cX6_far 7 = .ok (.ireturn, 1) := by decide +kernel
theorem dX6_areNear_0 : decode cX6_areNear 0 = .ok (.iload_n 0, 1) := by decide +kernel
theorem dX6_areNear_1 : decode cX6_areNear 1 = .ok (.iload_n 1, 1) := by decide +kernel
theorem dX6_areNear_2 : decode cX6_areNear 2 = .ok (.isub, 1) := by decide +kernel
theorem dX6_areNear_3 : decode cX6_areNear 3 = .ok (.bipush 10, 2) := by decide +kernel
theorem dX6_areNear_5 : decode cX6_areNear 5 = .ok (.if_icmp .ge 15, 3) := by decide +kernel
theorem dX6_areNear_8 : decode cX6_areNear 8 = .ok (.iload_n 1, 1) := by decide +kernel
theorem dX6_areNear_9 : decode cX6_areNear 9 = .ok (.iload_n 0, 1) := by decide +kernel
theorem dX6_areNear_10 : decode cX6_areNear 10 = .ok (.isub, 1) := by decide +kernel
theorem dX6_areNear_11 : decode cX6_areNear 11 = .ok (.bipush 10, 2) := by decide +kernel
theorem dX6_areNear_13 : decode cX6_areNear 13 = .ok (.if_icmp .ge 7, 3) := by decide +kernel
theorem dX6_areNear_16 : decode cX6_areNear 16 = .ok (.iconst 1, 1) := by decide +kernel
theorem dX6_areNear_17 : decode cX6_areNear 17 = .ok (.goto 4, 3) := by decide +kernel
theorem dX6_areNear_20 : decode cX6_areNear 20 = .ok (.iconst 0, 1) := by decide +kernel
theorem dX6_areNear_21 : decode cX6_areNear 21 = .ok (.ireturn, 1) := by decide +kernel
theorem dX6_y_0 : decode cX6_y 0 = .ok (.aload_n 0, 1) := by decide +kernel
theorem dX6_y_1 : decode cX6_y 1 = .ok (.iload_n 1, 1) := by decide +kernel
theorem dX6_y_2 : decode cX6_y 2 = .ok (.iload_n 2, 1) := by decide +kernel
theorem dX6_y_3 : decode cX6_y 3 = .ok (.invokevirtual 162, 3) := by decide +kernel
theorem dX6_y_6 : decode cX6_y 6 = .ok (.istore 4, 2) := by decide +kernel
theorem dX6_y_8 : decode cX6_y 8 = .ok (.aload_n 0, 1) := by decide +kernel
theorem dX6_y_9 : decode cX6_y 9 = .ok (.iload 4, 2) := by decide +kernel
theorem dX6_y_11 : decode cX6_y 11 = .ok (.ifCond .ne 7, 3) := by decide +kernel
theorem dX6_y_14 : decode cX6_y 14 = .ok (.iconst 1, 1) := by decide +kernel
theorem dX6_y_15 : decode cX6_y 15 = .ok (.goto 15, 3) := by decide +kernel
theorem dX6_y_18 : decode cX6_y 18 = .ok (.iload_n 3, 1) := by decide +kernel
theorem dX6_y_19 : decode cX6_y 19 = .ok (.invokestatic 140, 3) := by decide +kernel
theorem dX6_y_22 : decode cX6_y 22 = .ok (.ifCond .ne 7, 3) := by decide +kernel
theorem dX6_y_25 : decode cX6_y 25 = .ok (.iconst 2, 1) := by decide +kernel
theorem dX6_y_26 : decode cX6_y 26 = .ok (.goto 4, 3) := by decide +kernel
theorem dX6_y_29 : decode cX6_y 29 = .ok (.iconst 0, 1) := by decide +kernel
theorem dX6_y_30 : decode cX6_y 30 = .ok (.invokevirtual 94, 3) := by decide +kernel
theorem dX6_y_33 : decode cX6_y 33 = .ok (.ifCond .ne 5, 3) := by decide +kernel
theorem dX6_y_36 : decode cX6_y 36 = .ok (.iconst 0, 1) := by decide +kernel
theorem dX6_y_37 : decode cX6_y 37 = .ok (.ireturn, 1) := by decide +kernel
theorem dX6_y_38 : decode cX6_y 38 = .ok (.aload_n 0, 1) := by decide +kernel
theorem dX6_y_39 : decode cX6_y 39 = .ok (.iload_n 1, 1) := by decide +kernel
theorem dX6_y_40 : decode cX6_y 40 = .ok (.iload_n 2, 1) := by decide +kernel
theorem dX6_y_41 : decode cX6_y 41 = .ok (.iload_n 3, 1) := by decide +kernel
theorem dX6_y_42 : decode cX6_y 42 = .ok (.invokevirtual 165, 3) := by decide +kernel
theorem dX6_y_45 : decode cX6_y 45 = .ok (.aload_n 0, 1) := by decide +kernel
theorem dX6_y_46 : decode cX6_y 46 = .ok (.getfield 74, 3) := by decide +kernel
theorem dX6_y_49 : decode cX6_y 49 = .ok (.iload_n 2, 1) := by decide +kernel
theorem dX6_y_50 : decode cX6_y 50 = .ok (.iaload, 1) := by decide +kernel
theorem dX6_y_51 : decode cX6_y 51 = .ok (.ireturn, 1) := by decide +kernel
theorem dX6_bent_0 : decode cX6_bent 0 = .ok (.aload_n 0, 1) := by decide +kernel
theorem dX6_bent_1 : decode cX6_bent 1 = .ok (.iload_n 1, 1) := by decide +kernel
theorem dX6_bent_2 : decode cX6_bent 2 = .ok (.iload_n 2, 1) := by decide +kernel
theorem dX6_bent_3 : decode cX6_bent 3 = .ok (.invokevirtual 162, 3) := by decide +kernel
theorem dX6_bent_6 : decode cX6_bent 6 = .ok (.istore 5, 2) := by decide +kernel
theorem dX6_bent_8 : decode cX6_bent 8 = .ok (.aload_n 0, 1) := by decide +kernel
theorem dX6_bent_9 : decode cX6_bent 9 = .ok (.iload 5, 2) := by decide +kernel
theorem dX6_bent_11 : decode cX6_bent 11 = .ok (.ifCond .ne 7, 3) := by decide +kernel
theorem dX6_bent_14 : decode cX6_bent 14 = .ok (.iconst 1, 1) := by decide +kernel
theorem dX6_bent_15 : decode cX6_bent 15 = .ok (.goto 23, 3) := by decide +kernel
theorem dX6_bent_18 : decode cX6_bent 18 = .ok (.iload_n 3, 1) := by decide +kernel
theorem dX6_bent_19 : decode cX6_bent 19 = .ok (.invokestatic 140, 3) := by decide +kernel
theorem dX6_bent_22 : decode cX6_bent 22 = .ok (.ifCond .eq 11, 3) := by decide +kernel
theorem dX6_bent_25 : decode cX6_bent 25 = .ok (.iload 4, 2) := by decide +kernel
theorem dX6_bent_27 : decode cX6_bent 27 = .ok (.invokestatic 140, 3) := by decide +kernel
theorem dX6_bent_30 : decode cX6_bent 30 = .ok (.ifCond .ne 7, 3) := by decide +kernel
theorem dX6_bent_33 : decode cX6_bent 33 = .ok (.iconst 2, 1) := by decide +kernel
theorem dX6_bent_34 : decode cX6_bent 34 = .ok (.goto 4, 3) := by decide +kernel
theorem dX6_bent_37 : decode cX6_bent 37 = .ok (.iconst 0, 1) := by decide +kernel
theorem dX6_bent_38 : decode cX6_bent 38 = .ok (.invokevirtual 94, 3) := by decide +kernel
theorem dX6_bent_41 : decode cX6_bent 41 = .ok (.ifCond .ne 5, 3) := by decide +kernel
theorem dX6_bent_44 : decode cX6_bent 44 = .ok (.iconst 0, 1) := by decide +kernel
theorem dX6_bent_45 : decode cX6_bent 45 = .ok (.ireturn, 1) := by decide +kernel
theorem dX6_bent_46 : decode cX6_bent 46 = .ok (.iconst 0, 1) := by decide +kernel
theorem dX6_bent_47 : decode cX6_bent 47 = .ok (.istore 6, 2) := by decide +kernel
theorem dX6_bent_49 : decode cX6_bent 49 = .ok (.iload_n 3, 1) := by decide +kernel
theorem dX6_bent_50 : decode cX6_bent 50 = .ok (.istore 7, 2) := by decide +kernel
theorem dX6_bent_52 : decode cX6_bent 52 = .ok (.iload 7, 2) := by decide +kernel
theorem dX6_bent_54 : decode cX6_bent 54 = .ok (.iload 4, 2) := by decide +kernel
theorem dX6_bent_56 : decode cX6_bent 56 = .ok (.if_icmp .gt 36, 3) := by decide +kernel
theorem dX6_bent_59 : decode cX6_bent 59 = .ok (.aload_n 0, 1) := by decide +kernel
theorem dX6_bent_60 : decode cX6_bent 60 = .ok (.iload_n 1, 1) := by decide +kernel
theorem dX6_bent_61 : decode cX6_bent 61 = .ok (.iload_n 2, 1) := by decide +kernel
theorem dX6_bent_62 : decode cX6_bent 62 = .ok (.iload 7, 2) := by decide +kernel
theorem dX6_bent_64 : decode cX6_bent 64 = .ok (.invokevirtual 165, 3) := by decide +kernel
theorem dX6_bent_67 : decode cX6_bent 67 = .ok (.iload 6, 2) := by decide +kernel
theorem dX6_bent_69 : decode cX6_bent 69 = .ok (.aload_n 0, 1) := by decide +kernel
theorem dX6_bent_70 : decode cX6_bent 70 = .ok (.getfield 77, 3) := by decide +kernel
theorem dX6_bent_73 : decode cX6_bent 73 = .ok (.iload_n 2, 1) := by decide +kernel
theorem dX6_bent_74 : decode cX6_bent 74 = .ok (.baload, 1) := by decide +kernel
theorem dX6_bent_75 : decode cX6_bent 75 = .ok (.ifCond .eq 7, 3) := by decide +kernel
theorem dX6_bent_78 : decode cX6_bent 78 = .ok (.iconst 1, 1) := by decide +kernel
theorem dX6_bent_79 : decode cX6_bent 79 = .ok (.goto 4, 3) := by decide +kernel
theorem dX6_bent_82 : decode cX6_bent 82 = .ok (.iconst 0, 1) := by decide +kernel
theorem dX6_bent_83 : decode cX6_bent 83 = .ok (.iadd, 1) := by decide +kernel
theorem dX6_bent_84 : decode cX6_bent 84 = .ok (.istore 6, 2) := by decide +kernel
theorem dX6_bent_86 : decode cX6_bent 86 = .ok (.iinc 7 1, 3) := by decide +kernel
theorem dX6_bent_89 : decode cX6_bent 89 = .ok (.goto (-37), 3) := by decide +kernel
theorem dX6_bent_92 : decode cX6_bent 92 = .ok (.iload 6, 2) := by decide +kernel
theorem dX6_bent_94 : decode cX6_bent 94 = .ok (.ireturn, 1) := by decide +kernel
theorem dX6_least_0 : decode cX6_least 0 = .ok (.aload_n 0, 1) := by decide +kernel
theorem dX6_least_1 : decode cX6_least 1 = .ok (.aload_n 0, 1) := by decide +kernel
theorem dX6_least_2 : decode cX6_least 2 = .ok (.iload_n 1, 1) := by decide +kernel
theorem dX6_least_3 : decode cX6_least 3 = .ok (.invokevirtual 98, 3) := by decide +kernel
theorem dX6_least_6 : decode cX6_least 6 = .ok (.ifCond .eq 7, 3) := by decide +kernel
theorem dX6_least_9 : decode cX6_least 9 = .ok (.iconst 0, 1) := by decide +kernel
theorem dX6_least_10 : decode cX6_least 10 = .ok (.goto 4, 3) := by decide +kernel
theorem dX6_least_13 : decode cX6_least 13 = .ok (.iconst 1, 1) := by decide +kernel
theorem dX6_least_14 : decode cX6_least 14 = .ok (.invokevirtual 94, 3) := by decide +kernel
theorem dX6_least_17 : decode cX6_least 17 = .ok (.ifCond .ne 5, 3) := by decide +kernel
theorem dX6_least_20 : decode cX6_least 20 = .ok (.iconst 0, 1) := by decide +kernel
theorem dX6_least_21 : decode cX6_least 21 = .ok (.ireturn, 1) := by decide +kernel
theorem dX6_least_22 : decode cX6_least 22 = .ok (.iconst 0, 1) := by decide +kernel
theorem dX6_least_23 : decode cX6_least 23 = .ok (.istore_n 2, 1) := by decide +kernel
theorem dX6_least_24 : decode cX6_least 24 = .ok (.iconst 0, 1) := by decide +kernel
theorem dX6_least_25 : decode cX6_least 25 = .ok (.istore_n 3, 1) := by decide +kernel
theorem dX6_least_26 : decode cX6_least 26 = .ok (.iload_n 3, 1) := by decide +kernel
theorem dX6_least_27 : decode cX6_least 27 = .ok (.sipush 1000, 3) := by decide +kernel
theorem dX6_least_30 : decode cX6_least 30 = .ok (.if_icmp .ge 48, 3) := by decide +kernel
theorem dX6_least_33 : decode cX6_least 33 = .ok (.aload_n 0, 1) := by decide +kernel
theorem dX6_least_34 : decode cX6_least 34 = .ok (.iload_n 1, 1) := by decide +kernel
theorem dX6_least_35 : decode cX6_least 35 = .ok (.iload_n 3, 1) := by decide +kernel
theorem dX6_least_36 : decode cX6_least 36 = .ok (.invokevirtual 143, 3) := by decide +kernel
theorem dX6_least_39 : decode cX6_least 39 = .ok (.aload_n 0, 1) := by decide +kernel
theorem dX6_least_40 : decode cX6_least 40 = .ok (.getfield 134, 3) := by decide +kernel
theorem dX6_least_43 : decode cX6_least 43 = .ok (.aload_n 0, 1) := by decide +kernel
theorem dX6_least_44 : decode cX6_least 44 = .ok (.getfield 7, 3) := by decide +kernel
theorem dX6_least_47 : decode cX6_least 47 = .ok (.iload_n 1, 1) := by decide +kernel
theorem dX6_least_48 : decode cX6_least 48 = .ok (.iaload, 1) := by decide +kernel
theorem dX6_least_49 : decode cX6_least 49 = .ok (.isub, 1) := by decide +kernel
theorem dX6_least_50 : decode cX6_least 50 = .ok (.aload_n 0, 1) := by decide +kernel
theorem dX6_least_51 : decode cX6_least 51 = .ok (.getfield 137, 3) := by decide +kernel
theorem dX6_least_54 : decode cX6_least 54 = .ok (.invokestatic 149, 3) := by decide +kernel
theorem dX6_least_57 : decode cX6_least 57 = .ok (.istore 4, 2) := by decide +kernel
theorem dX6_least_59 : decode cX6_least 59 = .ok (.iload 4, 2) := by decide +kernel
theorem dX6_least_61 : decode cX6_least 61 = .ok (.iload_n 2, 1) := by decide +kernel
theorem dX6_least_62 : decode cX6_least 62 = .ok (.if_icmp .le 8, 3) := by decide +kernel
theorem dX6_least_65 : decode cX6_least 65 = .ok (.iload 4, 2) := by decide +kernel
theorem dX6_least_67 : decode cX6_least 67 = .ok (.goto 4, 3) := by decide +kernel
theorem dX6_least_70 : decode cX6_least 70 = .ok (.iload_n 2, 1) := by decide +kernel
theorem dX6_least_71 : decode cX6_least 71 = .ok (.istore_n 2, 1) := by decide +kernel
theorem dX6_least_72 : decode cX6_least 72 = .ok (.iinc 3 1, 3) := by decide +kernel
theorem dX6_least_75 : decode cX6_least 75 = .ok (.goto (-49), 3) := by decide +kernel
theorem dX6_least_78 : decode cX6_least 78 = .ok (.iconst 0, 1) := by decide +kernel
theorem dX6_least_79 : decode cX6_least 79 = .ok (.istore_n 3, 1) := by decide +kernel
theorem dX6_least_80 : decode cX6_least 80 = .ok (.iload_n 3, 1) := by decide +kernel
theorem dX6_least_81 : decode cX6_least 81 = .ok (.iload_n 3, 1) := by decide +kernel
theorem dX6_least_82 : decode cX6_least 82 = .ok (.imul, 1) := by decide +kernel
theorem dX6_least_83 : decode cX6_least 83 = .ok (.iload_n 2, 1) := by decide +kernel
theorem dX6_least_84 : decode cX6_least 84 = .ok (.if_icmp .ge 9, 3) := by decide +kernel
theorem dX6_least_87 : decode cX6_least 87 = .ok (.iinc 3 1, 3) := by decide +kernel
theorem dX6_least_90 : decode cX6_least 90 = .ok (.goto (-10), 3) := by decide +kernel
theorem dX6_least_93 : decode cX6_least 93 = .ok (.iload_n 3, 1) := by decide +kernel
theorem dX6_least_94 : decode cX6_least 94 = .ok (.ireturn, 1) := by decide +kernel
theorem dX6_isBusy_0 : decode cX6_isBusy 0 = .ok (.aload_n 0, 1) := by decide +kernel
theorem dX6_isBusy_1 : decode cX6_isBusy 1 = .ok (.iload_n 1, 1) := by decide +kernel
theorem dX6_isBusy_2 : decode cX6_isBusy 2 = .ok (.invokevirtual 98, 3) := by decide +kernel
theorem dX6_isBusy_5 : decode cX6_isBusy 5 = .ok (.istore_n 3, 1) := by decide +kernel
theorem dX6_isBusy_6 : decode cX6_isBusy 6 = .ok (.aload_n 0, 1) := by decide +kernel
theorem dX6_isBusy_7 : decode cX6_isBusy 7 = .ok (.iload_n 3, 1) := by decide +kernel
theorem dX6_isBusy_8 : decode cX6_isBusy 8 = .ok (.ifCond .ne 7, 3) := by decide +kernel
theorem dX6_isBusy_11 : decode cX6_isBusy 11 = .ok (.iconst 1, 1) := by decide +kernel
theorem dX6_isBusy_12 : decode cX6_isBusy 12 = .ok (.goto 18, 3) := by decide +kernel
theorem dX6_isBusy_15 : decode cX6_isBusy 15 = .ok (.iload_n 2, 1) := by decide +kernel
theorem dX6_isBusy_16 : decode cX6_isBusy 16 = .ok (.iconst 0, 1) := by decide +kernel
theorem dX6_isBusy_17 : decode cX6_isBusy 17 = .ok (.ldc 169, 2) := by decide +kernel
theorem dX6_isBusy_19 : decode cX6_isBusy 19 = .ok (.invokestatic 87, 3) := by decide +kernel
theorem dX6_isBusy_22 : decode cX6_isBusy 22 = .ok (.ifCond .ne 7, 3) := by decide +kernel
theorem dX6_isBusy_25 : decode cX6_isBusy 25 = .ok (.iconst 2, 1) := by decide +kernel
theorem dX6_isBusy_26 : decode cX6_isBusy 26 = .ok (.goto 4, 3) := by decide +kernel
theorem dX6_isBusy_29 : decode cX6_isBusy 29 = .ok (.iconst 0, 1) := by decide +kernel
theorem dX6_isBusy_30 : decode cX6_isBusy 30 = .ok (.invokevirtual 94, 3) := by decide +kernel
theorem dX6_isBusy_33 : decode cX6_isBusy 33 = .ok (.ifCond .eq 17, 3) := by decide +kernel
theorem dX6_isBusy_36 : decode cX6_isBusy 36 = .ok (.aload_n 0, 1) := by decide +kernel
theorem dX6_isBusy_37 : decode cX6_isBusy 37 = .ok (.iload_n 1, 1) := by decide +kernel
theorem dX6_isBusy_38 : decode cX6_isBusy 38 = .ok (.iload_n 2, 1) := by decide +kernel
theorem dX6_isBusy_39 : decode cX6_isBusy 39 = .ok (.iconst 1, 1) := by decide +kernel
theorem dX6_isBusy_40 : decode cX6_isBusy 40 = .ok (.invokevirtual 124, 3) := by decide +kernel
theorem dX6_isBusy_43 : decode cX6_isBusy 43 = .ok (.ifCond .eq 7, 3) := by decide +kernel
theorem dX6_isBusy_46 : decode cX6_isBusy 46 = .ok (.iconst 1, 1) := by decide +kernel
theorem dX6_isBusy_47 : decode cX6_isBusy 47 = .ok (.goto 4, 3) := by decide +kernel
theorem dX6_isBusy_50 : decode cX6_isBusy 50 = .ok (.iconst 0, 1) := by decide +kernel
theorem dX6_isBusy_51 : decode cX6_isBusy 51 = .ok (.ireturn, 1) := by decide +kernel
theorem dX6_worn_0 : decode cX6_worn 0 = .ok (.aload_n 0, 1) := by decide +kernel
theorem dX6_worn_1 : decode cX6_worn 1 = .ok (.aload_n 0, 1) := by decide +kernel
theorem dX6_worn_2 : decode cX6_worn 2 = .ok (.iload_n 1, 1) := by decide +kernel
theorem dX6_worn_3 : decode cX6_worn 3 = .ok (.invokevirtual 98, 3) := by decide +kernel
theorem dX6_worn_6 : decode cX6_worn 6 = .ok (.ifCond .eq 7, 3) := by decide +kernel
theorem dX6_worn_9 : decode cX6_worn 9 = .ok (.iconst 0, 1) := by decide +kernel
theorem dX6_worn_10 : decode cX6_worn 10 = .ok (.goto 4, 3) := by decide +kernel
theorem dX6_worn_13 : decode cX6_worn 13 = .ok (.iconst 1, 1) := by decide +kernel
theorem dX6_worn_14 : decode cX6_worn 14 = .ok (.invokevirtual 94, 3) := by decide +kernel
theorem dX6_worn_17 : decode cX6_worn 17 = .ok (.ifCond .eq 12, 3) := by decide +kernel
theorem dX6_worn_20 : decode cX6_worn 20 = .ok (.aload_n 0, 1) := by decide +kernel
theorem dX6_worn_21 : decode cX6_worn 21 = .ok (.getfield 22, 3) := by decide +kernel
theorem dX6_worn_24 : decode cX6_worn 24 = .ok (.iload_n 1, 1) := by decide +kernel
theorem dX6_worn_25 : decode cX6_worn 25 = .ok (.iaload, 1) := by decide +kernel
theorem dX6_worn_26 : decode cX6_worn 26 = .ok (.goto 4, 3) := by decide +kernel
theorem dX6_worn_29 : decode cX6_worn 29 = .ok (.iconst 0, 1) := by decide +kernel
theorem dX6_worn_30 : decode cX6_worn 30 = .ok (.ireturn, 1) := by decide +kernel
theorem dX6_income_0 : decode cX6_income 0 = .ok (.aload_n 0, 1) := by decide +kernel
theorem dX6_income_1 : decode cX6_income 1 = .ok (.iconst 0, 1) := by decide +kernel
theorem dX6_income_2 : decode cX6_income 2 = .ok (.putfield 80, 3) := by decide +kernel
theorem dX6_income_5 : decode cX6_income 5 = .ok (.aload_n 0, 1) := by decide +kernel
theorem dX6_income_6 : decode cX6_income 6 = .ok (.getfield 131, 3) := by decide +kernel
theorem dX6_income_9 : decode cX6_income 9 = .ok (.ireturn, 1) := by decide +kernel
theorem dL_puppet_0 : decode cL_puppet 0 = .ok (.aload_n 3, 1) := by decide +kernel
theorem dL_puppet_1 : decode cL_puppet 1 = .ok (.iconst 0, 1) := by decide +kernel
theorem dL_puppet_2 : decode cL_puppet 2 = .ok (.aload_n 0, 1) := by decide +kernel
theorem dL_puppet_3 : decode cL_puppet 3 = .ok (.iload_n 1, 1) := by decide +kernel
theorem dL_puppet_4 : decode cL_puppet 4 = .ok (.iload_n 2, 1) := by decide +kernel
theorem dL_puppet_5 : decode cL_puppet 5 = .ok (.invokevirtual 7, 3) := by decide +kernel
theorem dL_puppet_8 : decode cL_puppet 8 = .ok (.i2l, 1) := by decide +kernel
theorem dL_puppet_9 : decode cL_puppet 9 = .ok (.lastore, 1) := by decide +kernel
theorem dL_puppet_10 : decode cL_puppet 10 = .ok (.goto 11, 3) := by decide +kernel
theorem dL_puppet_13 : decode cL_puppet 13 = .ok (.astore 4, 2) := by decide +kernel
theorem dL_puppet_15 : decode cL_puppet 15 = .ok (.iconst 1, 1) := by decide +kernel
theorem dL_puppet_16 : decode cL_puppet 16 = .ok (.ireturn, 1) := by decide +kernel
theorem dL_puppet_17 : decode cL_puppet 17 = .ok (.astore 4, 2) := by decide +kernel
theorem dL_puppet_19 : decode cL_puppet 19 = .ok (.iconst 2, 1) := by decide +kernel
theorem dL_puppet_20 : decode cL_puppet 20 = .ok (.ireturn, 1) := by decide +kernel
theorem dL_puppet_21 : decode cL_puppet 21 = .ok (.iconst 0, 1) := by decide +kernel
theorem dL_puppet_22 : decode cL_puppet 22 = .ok (.ireturn, 1) := by decide +kernel
theorem dL_setLength_0 : decode cL_setLength 0 = .ok (.aload_n 3, 1) := by decide +kernel
theorem dL_setLength_1 : decode cL_setLength 1 = .ok (.iconst 0, 1) := by decide +kernel
theorem dL_setLength_2 : decode cL_setLength 2 = .ok (.aload_n 0, 1) := by decide +kernel
theorem dL_setLength_3 : decode cL_setLength 3 = .ok (.iload_n 1, 1) := by decide +kernel
theorem dL_setLength_4 : decode cL_setLength 4 = .ok (.iload_n 2, 1) := by decide +kernel
theorem dL_setLength_5 : decode cL_setLength 5 = .ok (.invokevirtual 17, 3) := by decide +kernel
theorem dL_setLength_8 : decode cL_setLength 8 = .ok (.i2l, 1) := by decide +kernel
theorem dL_setLength_9 : decode cL_setLength 9 = .ok (.lastore, 1) := by decide +kernel
theorem dL_setLength_10 : decode cL_setLength 10 = .ok (.goto 11, 3) := by decide +kernel
theorem dL_setLength_13 : decode cL_setLength 13 = .ok (.astore 4, 2) := by decide +kernel
theorem dL_setLength_15 : decode cL_setLength 15 = .ok (.iconst 1, 1) := by decide +kernel
theorem dL_setLength_16 : decode cL_setLength 16 = .ok (.ireturn, 1) := by decide +kernel
theorem dL_setLength_17 : decode cL_setLength 17 = .ok (.astore 4, 2) := by decide +kernel
theorem dL_setLength_19 : decode cL_setLength 19 = .ok (.iconst 2, 1) := by decide +kernel
theorem dL_setLength_20 : decode cL_setLength 20 = .ok (.ireturn, 1) := by decide +kernel
theorem dL_setLength_21 : decode cL_setLength 21 = .ok (.iconst 0, 1) := by decide +kernel
theorem dL_setLength_22 : decode cL_setLength 22 = .ok (.ireturn, 1) := by decide +kernel
theorem dL_key_0 : decode cL_key 0 = .ok (.aload 6, 2) := by decide +kernel
theorem dL_key_2 : decode cL_key 2 = .ok (.iconst 0, 1) := by decide +kernel
theorem dL_key_3 : decode cL_key 3 = .ok (.aload_n 0, 1) := by decide +kernel
theorem dL_key_4 : decode cL_key 4 = .ok (.iload_n 1, 1) := by decide +kernel
theorem dL_key_5 : decode cL_key 5 = .ok (.iload_n 2, 1) := by decide +kernel
theorem dL_key_6 : decode cL_key 6 = .ok (.iload_n 3, 1) := by decide +kernel
theorem dL_key_7 : decode cL_key 7 = .ok (.iload 4, 2) := by decide +kernel
theorem dL_key_9 : decode cL_key 9 = .ok (.iload 5, 2) := by decide +kernel
theorem dL_key_11 : decode cL_key 11 = .ok (.invokevirtual 22, 3) := by decide +kernel
theorem dL_key_14 : decode cL_key 14 = .ok (.i2l, 1) := by decide +kernel
theorem dL_key_15 : decode cL_key 15 = .ok (.lastore, 1) := by decide +kernel
theorem dL_key_16 : decode cL_key 16 = .ok (.goto 15, 3) := by decide +kernel
theorem dL_key_19 : decode cL_key 19 = .ok (.astore 7, 2) := by decide +kernel
theorem dL_key_21 : decode cL_key 21 = .ok (.iconst 1, 1) := by decide +kernel
theorem dL_key_22 : decode cL_key 22 = .ok (.ireturn, 1) := by decide +kernel
theorem dL_key_23 : decode cL_key 23 = .ok (.astore 7, 2) := by decide +kernel
theorem dL_key_25 : decode cL_key 25 = .ok (.iconst 2, 1) := by decide +kernel
theorem dL_key_26 : decode cL_key 26 = .ok (.ireturn, 1) := by decide +kernel
theorem dL_key_27 : decode cL_key 27 = .ok (.astore 7, 2) := by decide +kernel
theorem dL_key_29 : decode cL_key 29 = .ok (.iconst 3, 1) := by decide +kernel
theorem dL_key_30 : decode cL_key 30 = .ok (.ireturn, 1) := by decide +kernel
theorem dL_key_31 : decode cL_key 31 = .ok (.iconst 0, 1) := by decide +kernel
theorem dL_key_32 : decode cL_key 32 = .ok (.ireturn, 1) := by decide +kernel
theorem dL_cutKey_0 : decode cL_cutKey 0 = .ok (.aload_n 3, 1) := by decide +kernel
theorem dL_cutKey_1 : decode cL_cutKey 1 = .ok (.iconst 0, 1) := by decide +kernel
theorem dL_cutKey_2 : decode cL_cutKey 2 = .ok (.aload_n 0, 1) := by decide +kernel
theorem dL_cutKey_3 : decode cL_cutKey 3 = .ok (.iload_n 1, 1) := by decide +kernel
theorem dL_cutKey_4 : decode cL_cutKey 4 = .ok (.iload_n 2, 1) := by decide +kernel
theorem dL_cutKey_5 : decode cL_cutKey 5 = .ok (.invokevirtual 26, 3) := by decide +kernel
theorem dL_cutKey_8 : decode cL_cutKey 8 = .ok (.i2l, 1) := by decide +kernel
theorem dL_cutKey_9 : decode cL_cutKey 9 = .ok (.lastore, 1) := by decide +kernel
theorem dL_cutKey_10 : decode cL_cutKey 10 = .ok (.goto 11, 3) := by decide +kernel
theorem dL_cutKey_13 : decode cL_cutKey 13 = .ok (.astore 4, 2) := by decide +kernel
theorem dL_cutKey_15 : decode cL_cutKey 15 = .ok (.iconst 1, 1) := by decide +kernel
theorem dL_cutKey_16 : decode cL_cutKey 16 = .ok (.ireturn, 1) := by decide +kernel
theorem dL_cutKey_17 : decode cL_cutKey 17 = .ok (.astore 4, 2) := by decide +kernel
theorem dL_cutKey_19 : decode cL_cutKey 19 = .ok (.iconst 2, 1) := by decide +kernel
theorem dL_cutKey_20 : decode cL_cutKey 20 = .ok (.ireturn, 1) := by decide +kernel
theorem dL_cutKey_21 : decode cL_cutKey 21 = .ok (.iconst 0, 1) := by decide +kernel
theorem dL_cutKey_22 : decode cL_cutKey 22 = .ok (.ireturn, 1) := by decide +kernel
theorem dL_hear_0 : decode cL_hear 0 = .ok (.aload_n 3, 1) := by decide +kernel
theorem dL_hear_1 : decode cL_hear 1 = .ok (.iconst 0, 1) := by decide +kernel
theorem dL_hear_2 : decode cL_hear 2 = .ok (.aload_n 0, 1) := by decide +kernel
theorem dL_hear_3 : decode cL_hear 3 = .ok (.iload_n 1, 1) := by decide +kernel
theorem dL_hear_4 : decode cL_hear 4 = .ok (.iload_n 2, 1) := by decide +kernel
theorem dL_hear_5 : decode cL_hear 5 = .ok (.invokevirtual 31, 3) := by decide +kernel
theorem dL_hear_8 : decode cL_hear 8 = .ok (.i2l, 1) := by decide +kernel
theorem dL_hear_9 : decode cL_hear 9 = .ok (.lastore, 1) := by decide +kernel
theorem dL_hear_10 : decode cL_hear 10 = .ok (.goto 11, 3) := by decide +kernel
theorem dL_hear_13 : decode cL_hear 13 = .ok (.astore 4, 2) := by decide +kernel
theorem dL_hear_15 : decode cL_hear 15 = .ok (.iconst 1, 1) := by decide +kernel
theorem dL_hear_16 : decode cL_hear 16 = .ok (.ireturn, 1) := by decide +kernel
theorem dL_hear_17 : decode cL_hear 17 = .ok (.astore 4, 2) := by decide +kernel
theorem dL_hear_19 : decode cL_hear 19 = .ok (.iconst 2, 1) := by decide +kernel
theorem dL_hear_20 : decode cL_hear 20 = .ok (.ireturn, 1) := by decide +kernel
theorem dL_hear_21 : decode cL_hear 21 = .ok (.iconst 0, 1) := by decide +kernel
theorem dL_hear_22 : decode cL_hear 22 = .ok (.ireturn, 1) := by decide +kernel
theorem dL_cue_0 : decode cL_cue 0 = .ok (.aload_n 3, 1) := by decide +kernel
theorem dL_cue_1 : decode cL_cue 1 = .ok (.iconst 0, 1) := by decide +kernel
theorem dL_cue_2 : decode cL_cue 2 = .ok (.aload_n 0, 1) := by decide +kernel
theorem dL_cue_3 : decode cL_cue 3 = .ok (.iload_n 1, 1) := by decide +kernel
theorem dL_cue_4 : decode cL_cue 4 = .ok (.iload_n 2, 1) := by decide +kernel
theorem dL_cue_5 : decode cL_cue 5 = .ok (.invokevirtual 34, 3) := by decide +kernel
theorem dL_cue_8 : decode cL_cue 8 = .ok (.i2l, 1) := by decide +kernel
theorem dL_cue_9 : decode cL_cue 9 = .ok (.lastore, 1) := by decide +kernel
theorem dL_cue_10 : decode cL_cue 10 = .ok (.goto 7, 3) := by decide +kernel
theorem dL_cue_13 : decode cL_cue 13 = .ok (.astore 4, 2) := by decide +kernel
theorem dL_cue_15 : decode cL_cue 15 = .ok (.iconst 1, 1) := by decide +kernel
theorem dL_cue_16 : decode cL_cue 16 = .ok (.ireturn, 1) := by decide +kernel
theorem dL_cue_17 : decode cL_cue 17 = .ok (.iconst 0, 1) := by decide +kernel
theorem dL_cue_18 : decode cL_cue 18 = .ok (.ireturn, 1) := by decide +kernel
theorem dL_show_0 : decode cL_show 0 = .ok (.aload_n 3, 1) := by decide +kernel
theorem dL_show_1 : decode cL_show 1 = .ok (.iconst 0, 1) := by decide +kernel
theorem dL_show_2 : decode cL_show 2 = .ok (.aload_n 0, 1) := by decide +kernel
theorem dL_show_3 : decode cL_show 3 = .ok (.iload_n 1, 1) := by decide +kernel
theorem dL_show_4 : decode cL_show 4 = .ok (.iload_n 2, 1) := by decide +kernel
theorem dL_show_5 : decode cL_show 5 = .ok (.invokevirtual 37, 3) := by decide +kernel
theorem dL_show_8 : decode cL_show 8 = .ok (.i2l, 1) := by decide +kernel
theorem dL_show_9 : decode cL_show 9 = .ok (.lastore, 1) := by decide +kernel
theorem dL_show_10 : decode cL_show 10 = .ok (.goto 11, 3) := by decide +kernel
theorem dL_show_13 : decode cL_show 13 = .ok (.astore 4, 2) := by decide +kernel
theorem dL_show_15 : decode cL_show 15 = .ok (.iconst 1, 1) := by decide +kernel
theorem dL_show_16 : decode cL_show 16 = .ok (.ireturn, 1) := by decide +kernel
theorem dL_show_17 : decode cL_show 17 = .ok (.astore 4, 2) := by decide +kernel
theorem dL_show_19 : decode cL_show 19 = .ok (.iconst 2, 1) := by decide +kernel
theorem dL_show_20 : decode cL_show 20 = .ok (.ireturn, 1) := by decide +kernel
theorem dL_show_21 : decode cL_show 21 = .ok (.iconst 0, 1) := by decide +kernel
theorem dL_show_22 : decode cL_show 22 = .ok (.ireturn, 1) := by decide +kernel
theorem dL_cast_0 : decode cL_cast 0 = .ok (.aload_n 3, 1) := by decide +kernel
theorem dL_cast_1 : decode cL_cast 1 = .ok (.iconst 0, 1) := by decide +kernel
theorem dL_cast_2 : decode cL_cast 2 = .ok (.aload_n 0, 1) := by decide +kernel
theorem dL_cast_3 : decode cL_cast 3 = .ok (.iload_n 1, 1) := by decide +kernel
theorem dL_cast_4 : decode cL_cast 4 = .ok (.iload_n 2, 1) := by decide +kernel
theorem dL_cast_5 : decode cL_cast 5 = .ok (.invokevirtual 40, 3) := by decide +kernel
theorem dL_cast_8 : decode cL_cast 8 = .ok (.i2l, 1) := by decide +kernel
theorem dL_cast_9 : decode cL_cast 9 = .ok (.lastore, 1) := by decide +kernel
theorem dL_cast_10 : decode cL_cast 10 = .ok (.goto 11, 3) := by decide +kernel
theorem dL_cast_13 : decode cL_cast 13 = .ok (.astore 4, 2) := by decide +kernel
theorem dL_cast_15 : decode cL_cast 15 = .ok (.iconst 1, 1) := by decide +kernel
theorem dL_cast_16 : decode cL_cast 16 = .ok (.ireturn, 1) := by decide +kernel
theorem dL_cast_17 : decode cL_cast 17 = .ok (.astore 4, 2) := by decide +kernel
theorem dL_cast_19 : decode cL_cast 19 = .ok (.iconst 2, 1) := by decide +kernel
theorem dL_cast_20 : decode cL_cast 20 = .ok (.ireturn, 1) := by decide +kernel
theorem dL_cast_21 : decode cL_cast 21 = .ok (.iconst 0, 1) := by decide +kernel
theorem dL_cast_22 : decode cL_cast 22 = .ok (.ireturn, 1) := by decide +kernel
theorem dL_leave_0 : decode cL_leave 0 = .ok (.aload_n 3, 1) := by decide +kernel
theorem dL_leave_1 : decode cL_leave 1 = .ok (.iconst 0, 1) := by decide +kernel
theorem dL_leave_2 : decode cL_leave 2 = .ok (.aload_n 0, 1) := by decide +kernel
theorem dL_leave_3 : decode cL_leave 3 = .ok (.iload_n 1, 1) := by decide +kernel
theorem dL_leave_4 : decode cL_leave 4 = .ok (.iload_n 2, 1) := by decide +kernel
theorem dL_leave_5 : decode cL_leave 5 = .ok (.invokevirtual 43, 3) := by decide +kernel
theorem dL_leave_8 : decode cL_leave 8 = .ok (.i2l, 1) := by decide +kernel
theorem dL_leave_9 : decode cL_leave 9 = .ok (.lastore, 1) := by decide +kernel
theorem dL_leave_10 : decode cL_leave 10 = .ok (.goto 11, 3) := by decide +kernel
theorem dL_leave_13 : decode cL_leave 13 = .ok (.astore 4, 2) := by decide +kernel
theorem dL_leave_15 : decode cL_leave 15 = .ok (.iconst 1, 1) := by decide +kernel
theorem dL_leave_16 : decode cL_leave 16 = .ok (.ireturn, 1) := by decide +kernel
theorem dL_leave_17 : decode cL_leave 17 = .ok (.astore 4, 2) := by decide +kernel
theorem dL_leave_19 : decode cL_leave 19 = .ok (.iconst 2, 1) := by decide +kernel
theorem dL_leave_20 : decode cL_leave 20 = .ok (.ireturn, 1) := by decide +kernel
theorem dL_leave_21 : decode cL_leave 21 = .ok (.iconst 0, 1) := by decide +kernel
theorem dL_leave_22 : decode cL_leave 22 = .ok (.ireturn, 1) := by decide +kernel
theorem dL_sell_0 : decode cL_sell 0 = .ok (.aload 4, 2) := by decide +kernel
theorem dL_sell_2 : decode cL_sell 2 = .ok (.iconst 0, 1) := by decide +kernel
theorem dL_sell_3 : decode cL_sell 3 = .ok (.aload_n 0, 1) := by decide +kernel
theorem dL_sell_4 : decode cL_sell 4 = .ok (.iload_n 1, 1) := by decide +kernel
theorem dL_sell_5 : decode cL_sell 5 = .ok (.iload_n 2, 1) := by decide +kernel
theorem dL_sell_6 : decode cL_sell 6 = .ok (.iload_n 3, 1) := by decide +kernel
theorem dL_sell_7 : decode cL_sell 7 = .ok (.invokevirtual 46, 3) := by decide +kernel
theorem dL_sell_10 : decode cL_sell 10 = .ok (.i2l, 1) := by decide +kernel
theorem dL_sell_11 : decode cL_sell 11 = .ok (.lastore, 1) := by decide +kernel
theorem dL_sell_12 : decode cL_sell 12 = .ok (.goto 15, 3) := by decide +kernel
theorem dL_sell_15 : decode cL_sell 15 = .ok (.astore 5, 2) := by decide +kernel
theorem dL_sell_17 : decode cL_sell 17 = .ok (.iconst 1, 1) := by decide +kernel
theorem dL_sell_18 : decode cL_sell 18 = .ok (.ireturn, 1) := by decide +kernel
theorem dL_sell_19 : decode cL_sell 19 = .ok (.astore 5, 2) := by decide +kernel
theorem dL_sell_21 : decode cL_sell 21 = .ok (.iconst 2, 1) := by decide +kernel
theorem dL_sell_22 : decode cL_sell 22 = .ok (.ireturn, 1) := by decide +kernel
theorem dL_sell_23 : decode cL_sell 23 = .ok (.astore 5, 2) := by decide +kernel
theorem dL_sell_25 : decode cL_sell 25 = .ok (.iconst 3, 1) := by decide +kernel
theorem dL_sell_26 : decode cL_sell 26 = .ok (.ireturn, 1) := by decide +kernel
theorem dL_sell_27 : decode cL_sell 27 = .ok (.iconst 0, 1) := by decide +kernel
theorem dL_sell_28 : decode cL_sell 28 = .ok (.ireturn, 1) := by decide +kernel
theorem dL_perform_0 : decode cL_perform 0 = .ok (.aload_n 2, 1) := by decide +kernel
theorem dL_perform_1 : decode cL_perform 1 = .ok (.iconst 0, 1) := by decide +kernel
theorem dL_perform_2 : decode cL_perform 2 = .ok (.aload_n 0, 1) := by decide +kernel
theorem dL_perform_3 : decode cL_perform 3 = .ok (.iload_n 1, 1) := by decide +kernel
theorem dL_perform_4 : decode cL_perform 4 = .ok (.invokevirtual 50, 3) := by decide +kernel
theorem dL_perform_7 : decode cL_perform 7 = .ok (.i2l, 1) := by decide +kernel
theorem dL_perform_8 : decode cL_perform 8 = .ok (.lastore, 1) := by decide +kernel
theorem dL_perform_9 : decode cL_perform 9 = .ok (.goto 9, 3) := by decide +kernel
theorem dL_perform_12 : decode cL_perform 12 = .ok (.astore_n 3, 1) := by decide +kernel
theorem dL_perform_13 : decode cL_perform 13 = .ok (.iconst 1, 1) := by decide +kernel
theorem dL_perform_14 : decode cL_perform 14 = .ok (.ireturn, 1) := by decide +kernel
theorem dL_perform_15 : decode cL_perform 15 = .ok (.astore_n 3, 1) := by decide +kernel
theorem dL_perform_16 : decode cL_perform 16 = .ok (.iconst 2, 1) := by decide +kernel
theorem dL_perform_17 : decode cL_perform 17 = .ok (.ireturn, 1) := by decide +kernel
theorem dL_perform_18 : decode cL_perform 18 = .ok (.iconst 0, 1) := by decide +kernel
theorem dL_perform_19 : decode cL_perform 19 = .ok (.ireturn, 1) := by decide +kernel
theorem dL_mend_0 : decode cL_mend 0 = .ok (.aload_n 3, 1) := by decide +kernel
theorem dL_mend_1 : decode cL_mend 1 = .ok (.iconst 0, 1) := by decide +kernel
theorem dL_mend_2 : decode cL_mend 2 = .ok (.aload_n 0, 1) := by decide +kernel
theorem dL_mend_3 : decode cL_mend 3 = .ok (.iload_n 1, 1) := by decide +kernel
theorem dL_mend_4 : decode cL_mend 4 = .ok (.iload_n 2, 1) := by decide +kernel
theorem dL_mend_5 : decode cL_mend 5 = .ok (.invokevirtual 54, 3) := by decide +kernel
theorem dL_mend_8 : decode cL_mend 8 = .ok (.i2l, 1) := by decide +kernel
theorem dL_mend_9 : decode cL_mend 9 = .ok (.lastore, 1) := by decide +kernel
theorem dL_mend_10 : decode cL_mend 10 = .ok (.goto 15, 3) := by decide +kernel
theorem dL_mend_13 : decode cL_mend 13 = .ok (.astore 4, 2) := by decide +kernel
theorem dL_mend_15 : decode cL_mend 15 = .ok (.iconst 1, 1) := by decide +kernel
theorem dL_mend_16 : decode cL_mend 16 = .ok (.ireturn, 1) := by decide +kernel
theorem dL_mend_17 : decode cL_mend 17 = .ok (.astore 4, 2) := by decide +kernel
theorem dL_mend_19 : decode cL_mend 19 = .ok (.iconst 2, 1) := by decide +kernel
theorem dL_mend_20 : decode cL_mend 20 = .ok (.ireturn, 1) := by decide +kernel
theorem dL_mend_21 : decode cL_mend 21 = .ok (.astore 4, 2) := by decide +kernel
theorem dL_mend_23 : decode cL_mend 23 = .ok (.iconst 3, 1) := by decide +kernel
theorem dL_mend_24 : decode cL_mend 24 = .ok (.ireturn, 1) := by decide +kernel
theorem dL_mend_25 : decode cL_mend 25 = .ok (.iconst 0, 1) := by decide +kernel
theorem dL_mend_26 : decode cL_mend 26 = .ok (.ireturn, 1) := by decide +kernel
theorem dL_track_0 : decode cL_track 0 = .ok (.aload_n 3, 1) := by decide +kernel
theorem dL_track_1 : decode cL_track 1 = .ok (.iconst 0, 1) := by decide +kernel
theorem dL_track_2 : decode cL_track 2 = .ok (.aload_n 0, 1) := by decide +kernel
theorem dL_track_3 : decode cL_track 3 = .ok (.iload_n 1, 1) := by decide +kernel
theorem dL_track_4 : decode cL_track 4 = .ok (.iload_n 2, 1) := by decide +kernel
theorem dL_track_5 : decode cL_track 5 = .ok (.invokevirtual 57, 3) := by decide +kernel
theorem dL_track_8 : decode cL_track 8 = .ok (.i2l, 1) := by decide +kernel
theorem dL_track_9 : decode cL_track 9 = .ok (.lastore, 1) := by decide +kernel
theorem dL_track_10 : decode cL_track 10 = .ok (.goto 11, 3) := by decide +kernel
theorem dL_track_13 : decode cL_track 13 = .ok (.astore 4, 2) := by decide +kernel
theorem dL_track_15 : decode cL_track 15 = .ok (.iconst 1, 1) := by decide +kernel
theorem dL_track_16 : decode cL_track 16 = .ok (.ireturn, 1) := by decide +kernel
theorem dL_track_17 : decode cL_track 17 = .ok (.astore 4, 2) := by decide +kernel
theorem dL_track_19 : decode cL_track 19 = .ok (.iconst 2, 1) := by decide +kernel
theorem dL_track_20 : decode cL_track 20 = .ok (.ireturn, 1) := by decide +kernel
theorem dL_track_21 : decode cL_track 21 = .ok (.iconst 0, 1) := by decide +kernel
theorem dL_track_22 : decode cL_track 22 = .ok (.ireturn, 1) := by decide +kernel
theorem dL_trackByFrames_0 : decode cL_trackByFrames 0 = .ok (.aload_n 3, 1) := by decide +kernel
theorem dL_trackByFrames_1 : decode cL_trackByFrames 1 = .ok (.iconst 0, 1) := by decide +kernel
theorem dL_trackByFrames_2 : decode cL_trackByFrames 2 = .ok (.aload_n 0, 1) := by decide +kernel
theorem dL_trackByFrames_3 : decode cL_trackByFrames 3 = .ok (.iload_n 1, 1) := by decide +kernel
theorem dL_trackByFrames_4 : decode cL_trackByFrames 4 = .ok (.iload_n 2, 1) := by decide +kernel
theorem dL_trackByFrames_5 : decode cL_trackByFrames 5 = .ok (.invokevirtual 60, 3) := by decide +kernel
theorem dL_trackByFrames_8 : decode cL_trackByFrames 8 = .ok (.i2l, 1) := by decide +kernel
theorem dL_trackByFrames_9 : decode cL_trackByFrames 9 = .ok (.lastore, 1) := by decide +kernel
theorem dL_trackByFrames_10 : decode cL_trackByFrames 10 = .ok (.goto 11, 3) := by decide +kernel
theorem dL_trackByFrames_13 : decode cL_trackByFrames 13 = .ok (.astore 4, 2) := by decide +kernel
theorem dL_trackByFrames_15 : decode cL_trackByFrames 15 = .ok (.iconst 1, 1) := by decide +kernel
theorem dL_trackByFrames_16 : decode cL_trackByFrames 16 = .ok (.ireturn, 1) := by decide +kernel
theorem dL_trackByFrames_17 : decode cL_trackByFrames 17 = .ok (.astore 4, 2) := by decide +kernel
theorem dL_trackByFrames_19 : decode cL_trackByFrames 19 = .ok (.iconst 2, 1) := by decide +kernel
theorem dL_trackByFrames_20 : decode cL_trackByFrames 20 = .ok (.ireturn, 1) := by decide +kernel
theorem dL_trackByFrames_21 : decode cL_trackByFrames 21 = .ok (.iconst 0, 1) := by decide +kernel
theorem dL_trackByFrames_22 : decode cL_trackByFrames 22 = .ok (.ireturn, 1) := by decide +kernel
theorem dL_x_0 : decode cL_x 0 = .ok (.aload 4, 2) := by decide +kernel
theorem dL_x_2 : decode cL_x 2 = .ok (.iconst 0, 1) := by decide +kernel
theorem dL_x_3 : decode cL_x 3 = .ok (.aload_n 0, 1) := by decide +kernel
theorem dL_x_4 : decode cL_x 4 = .ok (.iload_n 1, 1) := by decide +kernel
theorem dL_x_5 : decode cL_x 5 = .ok (.iload_n 2, 1) := by decide +kernel
theorem dL_x_6 : decode cL_x 6 = .ok (.iload_n 3, 1) := by decide +kernel
theorem dL_x_7 : decode cL_x 7 = .ok (.invokevirtual 63, 3) := by decide +kernel
theorem dL_x_10 : decode cL_x 10 = .ok (.i2l, 1) := by decide +kernel
theorem dL_x_11 : decode cL_x 11 = .ok (.lastore, 1) := by decide +kernel
theorem dL_x_12 : decode cL_x 12 = .ok (.goto 11, 3) := by decide +kernel
theorem dL_x_15 : decode cL_x 15 = .ok (.astore 5, 2) := by decide +kernel
theorem dL_x_17 : decode cL_x 17 = .ok (.iconst 1, 1) := by decide +kernel
theorem dL_x_18 : decode cL_x 18 = .ok (.ireturn, 1) := by decide +kernel
theorem dL_x_19 : decode cL_x 19 = .ok (.astore 5, 2) := by decide +kernel
theorem dL_x_21 : decode cL_x 21 = .ok (.iconst 2, 1) := by decide +kernel
theorem dL_x_22 : decode cL_x 22 = .ok (.ireturn, 1) := by decide +kernel
theorem dL_x_23 : decode cL_x 23 = .ok (.iconst 0, 1) := by decide +kernel
theorem dL_x_24 : decode cL_x 24 = .ok (.ireturn, 1) := by decide +kernel
theorem dL_y_0 : decode cL_y 0 = .ok (.aload 4, 2) := by decide +kernel
theorem dL_y_2 : decode cL_y 2 = .ok (.iconst 0, 1) := by decide +kernel
theorem dL_y_3 : decode cL_y 3 = .ok (.aload_n 0, 1) := by decide +kernel
theorem dL_y_4 : decode cL_y 4 = .ok (.iload_n 1, 1) := by decide +kernel
theorem dL_y_5 : decode cL_y 5 = .ok (.iload_n 2, 1) := by decide +kernel
theorem dL_y_6 : decode cL_y 6 = .ok (.iload_n 3, 1) := by decide +kernel
theorem dL_y_7 : decode cL_y 7 = .ok (.invokevirtual 66, 3) := by decide +kernel
theorem dL_y_10 : decode cL_y 10 = .ok (.i2l, 1) := by decide +kernel
theorem dL_y_11 : decode cL_y 11 = .ok (.lastore, 1) := by decide +kernel
theorem dL_y_12 : decode cL_y 12 = .ok (.goto 11, 3) := by decide +kernel
theorem dL_y_15 : decode cL_y 15 = .ok (.astore 5, 2) := by decide +kernel
theorem dL_y_17 : decode cL_y 17 = .ok (.iconst 1, 1) := by decide +kernel
theorem dL_y_18 : decode cL_y 18 = .ok (.ireturn, 1) := by decide +kernel
theorem dL_y_19 : decode cL_y 19 = .ok (.astore 5, 2) := by decide +kernel
theorem dL_y_21 : decode cL_y 21 = .ok (.iconst 2, 1) := by decide +kernel
theorem dL_y_22 : decode cL_y 22 = .ok (.ireturn, 1) := by decide +kernel
theorem dL_y_23 : decode cL_y 23 = .ok (.iconst 0, 1) := by decide +kernel
theorem dL_y_24 : decode cL_y 24 = .ok (.ireturn, 1) := by decide +kernel
theorem dL_bent_0 : decode cL_bent 0 = .ok (.aload 5, 2) := by decide +kernel
theorem dL_bent_2 : decode cL_bent 2 = .ok (.iconst 0, 1) := by decide +kernel
theorem dL_bent_3 : decode cL_bent 3 = .ok (.aload_n 0, 1) := by decide +kernel
theorem dL_bent_4 : decode cL_bent 4 = .ok (.iload_n 1, 1) := by decide +kernel
theorem dL_bent_5 : decode cL_bent 5 = .ok (.iload_n 2, 1) := by decide +kernel
theorem dL_bent_6 : decode cL_bent 6 = .ok (.iload_n 3, 1) := by decide +kernel
theorem dL_bent_7 : decode cL_bent 7 = .ok (.iload 4, 2) := by decide +kernel
theorem dL_bent_9 : decode cL_bent 9 = .ok (.invokevirtual 69, 3) := by decide +kernel
theorem dL_bent_12 : decode cL_bent 12 = .ok (.i2l, 1) := by decide +kernel
theorem dL_bent_13 : decode cL_bent 13 = .ok (.lastore, 1) := by decide +kernel
theorem dL_bent_14 : decode cL_bent 14 = .ok (.goto 11, 3) := by decide +kernel
theorem dL_bent_17 : decode cL_bent 17 = .ok (.astore 6, 2) := by decide +kernel
theorem dL_bent_19 : decode cL_bent 19 = .ok (.iconst 1, 1) := by decide +kernel
theorem dL_bent_20 : decode cL_bent 20 = .ok (.ireturn, 1) := by decide +kernel
theorem dL_bent_21 : decode cL_bent 21 = .ok (.astore 6, 2) := by decide +kernel
theorem dL_bent_23 : decode cL_bent 23 = .ok (.iconst 2, 1) := by decide +kernel
theorem dL_bent_24 : decode cL_bent 24 = .ok (.ireturn, 1) := by decide +kernel
theorem dL_bent_25 : decode cL_bent 25 = .ok (.iconst 0, 1) := by decide +kernel
theorem dL_bent_26 : decode cL_bent 26 = .ok (.ireturn, 1) := by decide +kernel
theorem dL_least_0 : decode cL_least 0 = .ok (.aload_n 2, 1) := by decide +kernel
theorem dL_least_1 : decode cL_least 1 = .ok (.iconst 0, 1) := by decide +kernel
theorem dL_least_2 : decode cL_least 2 = .ok (.aload_n 0, 1) := by decide +kernel
theorem dL_least_3 : decode cL_least 3 = .ok (.iload_n 1, 1) := by decide +kernel
theorem dL_least_4 : decode cL_least 4 = .ok (.invokevirtual 73, 3) := by decide +kernel
theorem dL_least_7 : decode cL_least 7 = .ok (.i2l, 1) := by decide +kernel
theorem dL_least_8 : decode cL_least 8 = .ok (.lastore, 1) := by decide +kernel
theorem dL_least_9 : decode cL_least 9 = .ok (.goto 6, 3) := by decide +kernel
theorem dL_least_12 : decode cL_least 12 = .ok (.astore_n 3, 1) := by decide +kernel
theorem dL_least_13 : decode cL_least 13 = .ok (.iconst 1, 1) := by decide +kernel
theorem dL_least_14 : decode cL_least 14 = .ok (.ireturn, 1) := by decide +kernel
theorem dL_least_15 : decode cL_least 15 = .ok (.iconst 0, 1) := by decide +kernel
theorem dL_least_16 : decode cL_least 16 = .ok (.ireturn, 1) := by decide +kernel
theorem dL_isBusy_0 : decode cL_isBusy 0 = .ok (.aload_n 3, 1) := by decide +kernel
theorem dL_isBusy_1 : decode cL_isBusy 1 = .ok (.iconst 0, 1) := by decide +kernel
theorem dL_isBusy_2 : decode cL_isBusy 2 = .ok (.aload_n 0, 1) := by decide +kernel
theorem dL_isBusy_3 : decode cL_isBusy 3 = .ok (.iload_n 1, 1) := by decide +kernel
theorem dL_isBusy_4 : decode cL_isBusy 4 = .ok (.iload_n 2, 1) := by decide +kernel
theorem dL_isBusy_5 : decode cL_isBusy 5 = .ok (.invokevirtual 76, 3) := by decide +kernel
theorem dL_isBusy_8 : decode cL_isBusy 8 = .ok (.ifCond .eq 7, 3) := by decide +kernel
theorem dL_isBusy_11 : decode cL_isBusy 11 = .ok (.lconst 1, 1) := by decide +kernel
theorem dL_isBusy_12 : decode cL_isBusy 12 = .ok (.goto 4, 3) := by decide +kernel
theorem dL_isBusy_15 : decode cL_isBusy 15 = .ok (.lconst 0, 1) := by decide +kernel
theorem dL_isBusy_16 : decode cL_isBusy 16 = .ok (.lastore, 1) := by decide +kernel
theorem dL_isBusy_17 : decode cL_isBusy 17 = .ok (.goto 11, 3) := by decide +kernel
theorem dL_isBusy_20 : decode cL_isBusy 20 = .ok (.astore 4, 2) := by decide +kernel
theorem dL_isBusy_22 : decode cL_isBusy 22 = .ok (.iconst 1, 1) := by decide +kernel
theorem dL_isBusy_23 : decode cL_isBusy 23 = .ok (.ireturn, 1) := by decide +kernel
theorem dL_isBusy_24 : decode cL_isBusy 24 = .ok (.astore 4, 2) := by decide +kernel
theorem dL_isBusy_26 : decode cL_isBusy 26 = .ok (.iconst 2, 1) := by decide +kernel
theorem dL_isBusy_27 : decode cL_isBusy 27 = .ok (.ireturn, 1) := by decide +kernel
theorem dL_isBusy_28 : decode cL_isBusy 28 = .ok (.iconst 0, 1) := by decide +kernel
theorem dL_isBusy_29 : decode cL_isBusy 29 = .ok (.ireturn, 1) := by decide +kernel
theorem dL_worn_0 : decode cL_worn 0 = .ok (.aload_n 2, 1) := by decide +kernel
theorem dL_worn_1 : decode cL_worn 1 = .ok (.iconst 0, 1) := by decide +kernel
theorem dL_worn_2 : decode cL_worn 2 = .ok (.aload_n 0, 1) := by decide +kernel
theorem dL_worn_3 : decode cL_worn 3 = .ok (.iload_n 1, 1) := by decide +kernel
theorem dL_worn_4 : decode cL_worn 4 = .ok (.invokevirtual 80, 3) := by decide +kernel
theorem dL_worn_7 : decode cL_worn 7 = .ok (.i2l, 1) := by decide +kernel
theorem dL_worn_8 : decode cL_worn 8 = .ok (.lastore, 1) := by decide +kernel
theorem dL_worn_9 : decode cL_worn 9 = .ok (.goto 6, 3) := by decide +kernel
theorem dL_worn_12 : decode cL_worn 12 = .ok (.astore_n 3, 1) := by decide +kernel
theorem dL_worn_13 : decode cL_worn 13 = .ok (.iconst 1, 1) := by decide +kernel
theorem dL_worn_14 : decode cL_worn 14 = .ok (.ireturn, 1) := by decide +kernel
theorem dL_worn_15 : decode cL_worn 15 = .ok (.iconst 0, 1) := by decide +kernel
theorem dL_worn_16 : decode cL_worn 16 = .ok (.ireturn, 1) := by decide +kernel
theorem dJx4a65c_init_da8c8_0 : decode cJx4a65c_init_da8c8 0 = .ok (.aload_n 0, 1) := by decide +kernel
theorem dJx4a65c_init_da8c8_1 : decode cJx4a65c_init_da8c8 1 = .ok (.invokespecial 1, 3) := by decide +kernel
theorem dJx4a65c_init_da8c8_4 : decode cJx4a65c_init_da8c8 4 = .ok (.aload_n 0, 1) := by decide +kernel
theorem dJx4a65c_init_da8c8_5 : decode cJx4a65c_init_da8c8 5 = .ok (.getstatic 39, 3) := by decide +kernel
theorem dJx4a65c_init_da8c8_8 : decode cJx4a65c_init_da8c8 8 = .ok (.putfield 9, 3) := by decide +kernel
theorem dJx4a65c_init_da8c8_11 : decode cJx4a65c_init_da8c8 11 = .ok (.return_, 1) := by decide +kernel
theorem dJxc12de_init_da8c8_0 : decode cJxc12de_init_da8c8 0 = .ok (.aload_n 0, 1) := by decide +kernel
theorem dJxc12de_init_da8c8_1 : decode cJxc12de_init_da8c8 1 = .ok (.invokespecial 1, 3) := by decide +kernel
theorem dJxc12de_init_da8c8_4 : decode cJxc12de_init_da8c8 4 = .ok (.aload_n 0, 1) := by decide +kernel
theorem dJxc12de_init_da8c8_5 : decode cJxc12de_init_da8c8 5 = .ok (.iconst 0, 1) := by decide +kernel
theorem dJxc12de_init_da8c8_6 : decode cJxc12de_init_da8c8 6 = .ok (.putfield 7, 3) := by decide +kernel
theorem dJxc12de_init_da8c8_9 : decode cJxc12de_init_da8c8 9 = .ok (.return_, 1) := by decide +kernel
theorem dJxa1e45_init_da8c8_0 : decode cJxa1e45_init_da8c8 0 = .ok (.aload_n 0, 1) := by decide +kernel
theorem dJxa1e45_init_da8c8_1 : decode cJxa1e45_init_da8c8 1 = .ok (.invokespecial 1, 3) := by decide +kernel
theorem dJxa1e45_init_da8c8_4 : decode cJxa1e45_init_da8c8 4 = .ok (.return_, 1) := by decide +kernel
theorem dJx4a65c_size_8abf5_0 : decode cJx4a65c_size_8abf5 0 = .ok (.aload_n 0, 1) := by decide +kernel
theorem dJx4a65c_size_8abf5_1 : decode cJx4a65c_size_8abf5 1 = .ok (.getfield 48, 3) := by decide +kernel
theorem dJx4a65c_size_8abf5_4 : decode cJx4a65c_size_8abf5 4 = .ok (.ireturn, 1) := by decide +kernel
theorem dJx4a65c_get_915e3_0 : decode cJx4a65c_get_915e3 0 = .ok (.iload_n 1, 1) := by decide +kernel
theorem dJx4a65c_get_915e3_1 : decode cJx4a65c_get_915e3 1 = .ok (.aload_n 0, 1) := by decide +kernel
theorem dJx4a65c_get_915e3_2 : decode cJx4a65c_get_915e3 2 = .ok (.getfield 48, 3) := by decide +kernel
theorem dJx4a65c_get_915e3_5 : decode cJx4a65c_get_915e3 5 = .ok (.invokestatic 118, 3) := by decide +kernel
theorem dJx4a65c_get_915e3_8 : decode cJx4a65c_get_915e3 8 = .ok (.pop, 1) := by decide +kernel
theorem dJx4a65c_get_915e3_9 : decode cJx4a65c_get_915e3 9 = .ok (.aload_n 0, 1) := by decide +kernel
theorem dJx4a65c_get_915e3_10 : decode cJx4a65c_get_915e3 10 = .ok (.iload_n 1, 1) := by decide +kernel
theorem dJx4a65c_get_915e3_11 : decode cJx4a65c_get_915e3 11 = .ok (.invokevirtual 123, 3) := by decide +kernel
theorem dJx4a65c_get_915e3_14 : decode cJx4a65c_get_915e3 14 = .ok (.areturn, 1) := by decide +kernel
theorem dJx4a65c_elementData_915e3_0 : decode cJx4a65c_elementData_915e3 0 = .ok (.aload_n 0, 1) := by decide +kernel
theorem dJx4a65c_elementData_915e3_1 : decode cJx4a65c_elementData_915e3 1 = .ok (.getfield 9, 3) := by decide +kernel
theorem dJx4a65c_elementData_915e3_4 : decode cJx4a65c_elementData_915e3 4 = .ok (.iload_n 1, 1) := by decide +kernel
theorem dJx4a65c_elementData_915e3_5 : decode cJx4a65c_elementData_915e3 5 = .ok (.aaload, 1) := by decide +kernel
theorem dJx4a65c_elementData_915e3_6 : decode cJx4a65c_elementData_915e3 6 = .ok (.areturn, 1) := by decide +kernel
theorem dJx4a65c_set_bcc79_0 : decode cJx4a65c_set_bcc79 0 = .ok (.iload_n 1, 1) := by decide +kernel
theorem dJx4a65c_set_bcc79_1 : decode cJx4a65c_set_bcc79 1 = .ok (.aload_n 0, 1) := by decide +kernel
theorem dJx4a65c_set_bcc79_2 : decode cJx4a65c_set_bcc79 2 = .ok (.getfield 48, 3) := by decide +kernel
theorem dJx4a65c_set_bcc79_5 : decode cJx4a65c_set_bcc79 5 = .ok (.invokestatic 118, 3) := by decide +kernel
theorem dJx4a65c_set_bcc79_8 : decode cJx4a65c_set_bcc79 8 = .ok (.pop, 1) := by decide +kernel
theorem dJx4a65c_set_bcc79_9 : decode cJx4a65c_set_bcc79 9 = .ok (.aload_n 0, 1) := by decide +kernel
theorem dJx4a65c_set_bcc79_10 : decode cJx4a65c_set_bcc79 10 = .ok (.iload_n 1, 1) := by decide +kernel
theorem dJx4a65c_set_bcc79_11 : decode cJx4a65c_set_bcc79 11 = .ok (.invokevirtual 123, 3) := by decide +kernel
theorem dJx4a65c_set_bcc79_14 : decode cJx4a65c_set_bcc79 14 = .ok (.astore_n 3, 1) := by decide +kernel
theorem dJx4a65c_set_bcc79_15 : decode cJx4a65c_set_bcc79 15 = .ok (.aload_n 0, 1) := by decide +kernel
theorem dJx4a65c_set_bcc79_16 : decode cJx4a65c_set_bcc79 16 = .ok (.getfield 9, 3) := by decide +kernel
theorem dJx4a65c_set_bcc79_19 : decode cJx4a65c_set_bcc79 19 = .ok (.iload_n 1, 1) := by decide +kernel
theorem dJx4a65c_set_bcc79_20 : decode cJx4a65c_set_bcc79 20 = .ok (.aload_n 2, 1) := by decide +kernel
theorem dJx4a65c_set_bcc79_21 : decode cJx4a65c_set_bcc79 21 = .ok (.aastore, 1) := by decide +kernel
theorem dJx4a65c_set_bcc79_22 : decode cJx4a65c_set_bcc79 22 = .ok (.aload_n 3, 1) := by decide +kernel
theorem dJx4a65c_set_bcc79_23 : decode cJx4a65c_set_bcc79 23 = .ok (.areturn, 1) := by decide +kernel
theorem dJx4a65c_add_9ea2d_0 : decode cJx4a65c_add_9ea2d 0 = .ok (.aload_n 0, 1) := by decide +kernel
theorem dJx4a65c_add_9ea2d_1 : decode cJx4a65c_add_9ea2d 1 = .ok (.dup, 1) := by decide +kernel
theorem dJx4a65c_add_9ea2d_2 : decode cJx4a65c_add_9ea2d 2 = .ok (.getfield 63, 3) := by decide +kernel
theorem dJx4a65c_add_9ea2d_5 : decode cJx4a65c_add_9ea2d 5 = .ok (.iconst 1, 1) := by decide +kernel
theorem dJx4a65c_add_9ea2d_6 : decode cJx4a65c_add_9ea2d 6 = .ok (.iadd, 1) := by decide +kernel
theorem dJx4a65c_add_9ea2d_7 : decode cJx4a65c_add_9ea2d 7 = .ok (.putfield 63, 3) := by decide +kernel
theorem dJx4a65c_add_9ea2d_10 : decode cJx4a65c_add_9ea2d 10 = .ok (.aload_n 0, 1) := by decide +kernel
theorem dJx4a65c_add_9ea2d_11 : decode cJx4a65c_add_9ea2d 11 = .ok (.aload_n 1, 1) := by decide +kernel
theorem dJx4a65c_add_9ea2d_12 : decode cJx4a65c_add_9ea2d 12 = .ok (.aload_n 0, 1) := by decide +kernel
theorem dJx4a65c_add_9ea2d_13 : decode cJx4a65c_add_9ea2d 13 = .ok (.getfield 9, 3) := by decide +kernel
theorem dJx4a65c_add_9ea2d_16 : decode cJx4a65c_add_9ea2d 16 = .ok (.aload_n 0, 1) := by decide +kernel
theorem dJx4a65c_add_9ea2d_17 : decode cJx4a65c_add_9ea2d 17 = .ok (.getfield 48, 3) := by decide +kernel
theorem dJx4a65c_add_9ea2d_20 : decode cJx4a65c_add_9ea2d 20 = .ok (.invokevirtual 131, 3) := by decide +kernel
theorem dJx4a65c_add_9ea2d_23 : decode cJx4a65c_add_9ea2d 23 = .ok (.iconst 1, 1) := by decide +kernel
theorem dJx4a65c_add_9ea2d_24 : decode cJx4a65c_add_9ea2d 24 = .ok (.ireturn, 1) := by decide +kernel
theorem dJx4a65c_add_72be8_0 : decode cJx4a65c_add_72be8 0 = .ok (.iload_n 3, 1) := by decide +kernel
theorem dJx4a65c_add_72be8_1 : decode cJx4a65c_add_72be8 1 = .ok (.aload_n 2, 1) := by decide +kernel
theorem dJx4a65c_add_72be8_2 : decode cJx4a65c_add_72be8 2 = .ok (.arraylength, 1) := by decide +kernel
theorem dJx4a65c_add_72be8_3 : decode cJx4a65c_add_72be8 3 = .ok (.if_icmp .ne 8, 3) := by decide +kernel
theorem dJx4a65c_add_72be8_6 : decode cJx4a65c_add_72be8 6 = .ok (.aload_n 0, 1) := by decide +kernel
theorem dJx4a65c_add_72be8_7 : decode cJx4a65c_add_72be8 7 = .ok (.invokevirtual 129, 3) := by decide +kernel
theorem dJx4a65c_add_72be8_10 : decode cJx4a65c_add_72be8 10 = .ok (.astore_n 2, 1) := by decide +kernel
theorem dJx4a65c_add_72be8_11 : decode cJx4a65c_add_72be8 11 = .ok (.aload_n 2, 1) := by decide +kernel
theorem dJx4a65c_add_72be8_12 : decode cJx4a65c_add_72be8 12 = .ok (.iload_n 3, 1) := by decide +kernel
theorem dJx4a65c_add_72be8_13 : decode cJx4a65c_add_72be8 13 = .ok (.aload_n 1, 1) := by decide +kernel
theorem dJx4a65c_add_72be8_14 : decode cJx4a65c_add_72be8 14 = .ok (.aastore, 1) := by decide +kernel
theorem dJx4a65c_add_72be8_15 : decode cJx4a65c_add_72be8 15 = .ok (.aload_n 0, 1) := by decide +kernel
theorem dJx4a65c_add_72be8_16 : decode cJx4a65c_add_72be8 16 = .ok (.iload_n 3, 1) := by decide +kernel
theorem dJx4a65c_add_72be8_17 : decode cJx4a65c_add_72be8 17 = .ok (.iconst 1, 1) := by decide +kernel
theorem dJx4a65c_add_72be8_18 : decode cJx4a65c_add_72be8 18 = .ok (.iadd, 1) := by decide +kernel
theorem dJx4a65c_add_72be8_19 : decode cJx4a65c_add_72be8 19 = .ok (.putfield 48, 3) := by decide +kernel
theorem dJx4a65c_add_72be8_22 : decode cJx4a65c_add_72be8 22 = .ok (.return_, 1) := by decide +kernel
theorem dJx4a65c_add_7a177_0 : decode cJx4a65c_add_7a177 0 = .ok (.aload_n 0, 1) := by decide +kernel
theorem dJx4a65c_add_7a177_1 : decode cJx4a65c_add_7a177 1 = .ok (.iload_n 1, 1) := by decide +kernel
theorem dJx4a65c_add_7a177_2 : decode cJx4a65c_add_7a177 2 = .ok (.invokevirtual 135, 3) := by decide +kernel
theorem dJx4a65c_add_7a177_5 : decode cJx4a65c_add_7a177 5 = .ok (.aload_n 0, 1) := by decide +kernel
theorem dJx4a65c_add_7a177_6 : decode cJx4a65c_add_7a177 6 = .ok (.dup, 1) := by decide +kernel
theorem dJx4a65c_add_7a177_7 : decode cJx4a65c_add_7a177 7 = .ok (.getfield 63, 3) := by decide +kernel
theorem dJx4a65c_add_7a177_10 : decode cJx4a65c_add_7a177 10 = .ok (.iconst 1, 1) := by decide +kernel
theorem dJx4a65c_add_7a177_11 : decode cJx4a65c_add_7a177 11 = .ok (.iadd, 1) := by decide +kernel
theorem dJx4a65c_add_7a177_12 : decode cJx4a65c_add_7a177 12 = .ok (.putfield 63, 3) := by decide +kernel
theorem dJx4a65c_add_7a177_15 : decode cJx4a65c_add_7a177 15 = .ok (.aload_n 0, 1) := by decide +kernel
theorem dJx4a65c_add_7a177_16 : decode cJx4a65c_add_7a177 16 = .ok (.getfield 48, 3) := by decide +kernel
theorem dJx4a65c_add_7a177_19 : decode cJx4a65c_add_7a177 19 = .ok (.dup, 1) := by decide +kernel
theorem dJx4a65c_add_7a177_20 : decode cJx4a65c_add_7a177 20 = .ok (.istore_n 3, 1) := by decide +kernel
theorem dJx4a65c_add_7a177_21 : decode cJx4a65c_add_7a177 21 = .ok (.aload_n 0, 1) := by decide +kernel
theorem dJx4a65c_add_7a177_22 : decode cJx4a65c_add_7a177 22 = .ok (.getfield 9, 3) := by decide +kernel
theorem dJx4a65c_add_7a177_25 : decode cJx4a65c_add_7a177 25 = .ok (.dup, 1) := by decide +kernel
theorem dJx4a65c_add_7a177_26 : decode cJx4a65c_add_7a177 26 = .ok (.astore 4, 2) := by decide +kernel
theorem dJx4a65c_add_7a177_28 : decode cJx4a65c_add_7a177 28 = .ok (.arraylength, 1) := by decide +kernel
theorem dJx4a65c_add_7a177_29 : decode cJx4a65c_add_7a177 29 = .ok (.if_icmp .ne 9, 3) := by decide +kernel
theorem dJx4a65c_add_7a177_32 : decode cJx4a65c_add_7a177 32 = .ok (.aload_n 0, 1) := by decide +kernel
theorem dJx4a65c_add_7a177_33 : decode cJx4a65c_add_7a177 33 = .ok (.invokevirtual 129, 3) := by decide +kernel
theorem dJx4a65c_add_7a177_36 : decode cJx4a65c_add_7a177 36 = .ok (.astore 4, 2) := by decide +kernel
theorem dJx4a65c_add_7a177_38 : decode cJx4a65c_add_7a177 38 = .ok (.aload 4, 2) := by decide +kernel
theorem dJx4a65c_add_7a177_40 : decode cJx4a65c_add_7a177 40 = .ok (.iload_n 1, 1) := by decide +kernel
theorem dJx4a65c_add_7a177_41 : decode cJx4a65c_add_7a177 41 = .ok (.aload 4, 2) := by decide +kernel
theorem dJx4a65c_add_7a177_43 : decode cJx4a65c_add_7a177 43 = .ok (.iload_n 1, 1) := by decide +kernel
theorem dJx4a65c_add_7a177_44 : decode cJx4a65c_add_7a177 44 = .ok (.iconst 1, 1) := by decide +kernel
theorem dJx4a65c_add_7a177_45 : decode cJx4a65c_add_7a177 45 = .ok (.iadd, 1) := by decide +kernel
theorem dJx4a65c_add_7a177_46 : decode cJx4a65c_add_7a177 46 = .ok (.iload_n 3, 1) := by decide +kernel
theorem dJx4a65c_add_7a177_47 : decode cJx4a65c_add_7a177 47 = .ok (.iload_n 1, 1) := by decide +kernel
theorem dJx4a65c_add_7a177_48 : decode cJx4a65c_add_7a177 48 = .ok (.isub, 1) := by decide +kernel
theorem dJx4a65c_add_7a177_49 : decode cJx4a65c_add_7a177 49 = .ok (.invokestatic 112, 3) := by decide +kernel
theorem dJx4a65c_add_7a177_52 : decode cJx4a65c_add_7a177 52 = .ok (.aload 4, 2) := by decide +kernel
theorem dJx4a65c_add_7a177_54 : decode cJx4a65c_add_7a177 54 = .ok (.iload_n 1, 1) := by decide +kernel
theorem dJx4a65c_add_7a177_55 : decode cJx4a65c_add_7a177 55 = .ok (.aload_n 2, 1) := by decide +kernel
theorem dJx4a65c_add_7a177_56 : decode cJx4a65c_add_7a177 56 = .ok (.aastore, 1) := by decide +kernel
theorem dJx4a65c_add_7a177_57 : decode cJx4a65c_add_7a177 57 = .ok (.aload_n 0, 1) := by decide +kernel
theorem dJx4a65c_add_7a177_58 : decode cJx4a65c_add_7a177 58 = .ok (.iload_n 3, 1) := by decide +kernel
theorem dJx4a65c_add_7a177_59 : decode cJx4a65c_add_7a177 59 = .ok (.iconst 1, 1) := by decide +kernel
theorem dJx4a65c_add_7a177_60 : decode cJx4a65c_add_7a177 60 = .ok (.iadd, 1) := by decide +kernel
theorem dJx4a65c_add_7a177_61 : decode cJx4a65c_add_7a177 61 = .ok (.putfield 48, 3) := by decide +kernel
theorem dJx4a65c_add_7a177_64 : decode cJx4a65c_add_7a177 64 = .ok (.return_, 1) := by decide +kernel
theorem dJx4a65c_remove_915e3_0 : decode cJx4a65c_remove_915e3 0 = .ok (.iload_n 1, 1) := by decide +kernel
theorem dJx4a65c_remove_915e3_1 : decode cJx4a65c_remove_915e3 1 = .ok (.aload_n 0, 1) := by decide +kernel
theorem dJx4a65c_remove_915e3_2 : decode cJx4a65c_remove_915e3 2 = .ok (.getfield 48, 3) := by decide +kernel
theorem dJx4a65c_remove_915e3_5 : decode cJx4a65c_remove_915e3 5 = .ok (.invokestatic 118, 3) := by decide +kernel
theorem dJx4a65c_remove_915e3_8 : decode cJx4a65c_remove_915e3 8 = .ok (.pop, 1) := by decide +kernel
theorem dJx4a65c_remove_915e3_9 : decode cJx4a65c_remove_915e3 9 = .ok (.aload_n 0, 1) := by decide +kernel
theorem dJx4a65c_remove_915e3_10 : decode cJx4a65c_remove_915e3 10 = .ok (.getfield 9, 3) := by decide +kernel
theorem dJx4a65c_remove_915e3_13 : decode cJx4a65c_remove_915e3 13 = .ok (.astore_n 2, 1) := by decide +kernel
theorem dJx4a65c_remove_915e3_14 : decode cJx4a65c_remove_915e3 14 = .ok (.aload_n 2, 1) := by decide +kernel
theorem dJx4a65c_remove_915e3_15 : decode cJx4a65c_remove_915e3 15 = .ok (.iload_n 1, 1) := by decide +kernel
theorem dJx4a65c_remove_915e3_16 : decode cJx4a65c_remove_915e3 16 = .ok (.aaload, 1) := by decide +kernel
theorem dJx4a65c_remove_915e3_17 : decode cJx4a65c_remove_915e3 17 = .ok (.astore_n 3, 1) := by decide +kernel
theorem dJx4a65c_remove_915e3_18 : decode cJx4a65c_remove_915e3 18 = .ok (.aload_n 0, 1) := by decide +kernel
theorem dJx4a65c_remove_915e3_19 : decode cJx4a65c_remove_915e3 19 = .ok (.aload_n 2, 1) := by decide +kernel
theorem dJx4a65c_remove_915e3_20 : decode cJx4a65c_remove_915e3 20 = .ok (.iload_n 1, 1) := by decide +kernel
theorem dJx4a65c_remove_915e3_21 : decode cJx4a65c_remove_915e3 21 = .ok (.invokevirtual 144, 3) := by decide +kernel
theorem dJx4a65c_remove_915e3_24 : decode cJx4a65c_remove_915e3 24 = .ok (.aload_n 3, 1) := by decide +kernel
theorem dJx4a65c_remove_915e3_25 : decode cJx4a65c_remove_915e3 25 = .ok (.areturn, 1) := by decide +kernel
theorem dJx4a65c_fastRemove_b59b0_0 : decode cJx4a65c_fastRemove_b59b0 0 = .ok (.aload_n 0, 1) := by decide +kernel
theorem dJx4a65c_fastRemove_b59b0_1 : decode cJx4a65c_fastRemove_b59b0 1 = .ok (.dup, 1) := by decide +kernel
theorem dJx4a65c_fastRemove_b59b0_2 : decode cJx4a65c_fastRemove_b59b0 2 = .ok (.getfield 63, 3) := by decide +kernel
theorem dJx4a65c_fastRemove_b59b0_5 : decode cJx4a65c_fastRemove_b59b0 5 = .ok (.iconst 1, 1) := by decide +kernel
theorem dJx4a65c_fastRemove_b59b0_6 : decode cJx4a65c_fastRemove_b59b0 6 = .ok (.iadd, 1) := by decide +kernel
theorem dJx4a65c_fastRemove_b59b0_7 : decode cJx4a65c_fastRemove_b59b0 7 = .ok (.putfield 63, 3) := by decide +kernel
theorem dJx4a65c_fastRemove_b59b0_10 : decode cJx4a65c_fastRemove_b59b0 10 = .ok (.aload_n 0, 1) := by decide +kernel
theorem dJx4a65c_fastRemove_b59b0_11 : decode cJx4a65c_fastRemove_b59b0 11 = .ok (.getfield 48, 3) := by decide +kernel
theorem dJx4a65c_fastRemove_b59b0_14 : decode cJx4a65c_fastRemove_b59b0 14 = .ok (.iconst 1, 1) := by decide +kernel
theorem dJx4a65c_fastRemove_b59b0_15 : decode cJx4a65c_fastRemove_b59b0 15 = .ok (.isub, 1) := by decide +kernel
theorem dJx4a65c_fastRemove_b59b0_16 : decode cJx4a65c_fastRemove_b59b0 16 = .ok (.dup, 1) := by decide +kernel
theorem dJx4a65c_fastRemove_b59b0_17 : decode cJx4a65c_fastRemove_b59b0 17 = .ok (.istore_n 3, 1) := by decide +kernel
theorem dJx4a65c_fastRemove_b59b0_18 : decode cJx4a65c_fastRemove_b59b0 18 = .ok (.iload_n 2, 1) := by decide +kernel
theorem dJx4a65c_fastRemove_b59b0_19 : decode cJx4a65c_fastRemove_b59b0 19 = .ok (.if_icmp .le 15, 3) := by decide +kernel
theorem dJx4a65c_fastRemove_b59b0_22 : decode cJx4a65c_fastRemove_b59b0 22 = .ok (.aload_n 1, 1) := by decide +kernel
theorem dJx4a65c_fastRemove_b59b0_23 : decode cJx4a65c_fastRemove_b59b0 23 = .ok (.iload_n 2, 1) := by decide +kernel
theorem dJx4a65c_fastRemove_b59b0_24 : decode cJx4a65c_fastRemove_b59b0 24 = .ok (.iconst 1, 1) := by decide +kernel
theorem dJx4a65c_fastRemove_b59b0_25 : decode cJx4a65c_fastRemove_b59b0 25 = .ok (.iadd, 1) := by decide +kernel
theorem dJx4a65c_fastRemove_b59b0_26 : decode cJx4a65c_fastRemove_b59b0 26 = .ok (.aload_n 1, 1) := by decide +kernel
theorem dJx4a65c_fastRemove_b59b0_27 : decode cJx4a65c_fastRemove_b59b0 27 = .ok (.iload_n 2, 1) := by decide +kernel
theorem dJx4a65c_fastRemove_b59b0_28 : decode cJx4a65c_fastRemove_b59b0 28 = .ok (.iload_n 3, 1) := by decide +kernel
theorem dJx4a65c_fastRemove_b59b0_29 : decode cJx4a65c_fastRemove_b59b0 29 = .ok (.iload_n 2, 1) := by decide +kernel
theorem dJx4a65c_fastRemove_b59b0_30 : decode cJx4a65c_fastRemove_b59b0 30 = .ok (.isub, 1) := by decide +kernel
theorem dJx4a65c_fastRemove_b59b0_31 : decode cJx4a65c_fastRemove_b59b0 31 = .ok (.invokestatic 112, 3) := by decide +kernel
theorem dJx4a65c_fastRemove_b59b0_34 : decode cJx4a65c_fastRemove_b59b0 34 = .ok (.aload_n 1, 1) := by decide +kernel
theorem dJx4a65c_fastRemove_b59b0_35 : decode cJx4a65c_fastRemove_b59b0 35 = .ok (.aload_n 0, 1) := by decide +kernel
theorem dJx4a65c_fastRemove_b59b0_36 : decode cJx4a65c_fastRemove_b59b0 36 = .ok (.iload_n 3, 1) := by decide +kernel
theorem dJx4a65c_fastRemove_b59b0_37 : decode cJx4a65c_fastRemove_b59b0 37 = .ok (.dup_x1, 1) := by decide +kernel
theorem dJx4a65c_fastRemove_b59b0_38 : decode cJx4a65c_fastRemove_b59b0 38 = .ok (.putfield 48, 3) := by decide +kernel
theorem dJx4a65c_fastRemove_b59b0_41 : decode cJx4a65c_fastRemove_b59b0 41 = .ok (.aconst_null, 1) := by decide +kernel
theorem dJx4a65c_fastRemove_b59b0_42 : decode cJx4a65c_fastRemove_b59b0 42 = .ok (.aastore, 1) := by decide +kernel
theorem dJx4a65c_fastRemove_b59b0_43 : decode cJx4a65c_fastRemove_b59b0 43 = .ok (.return_, 1) := by decide +kernel
theorem dJx4a65c_grow_d5877_0 : decode cJx4a65c_grow_d5877 0 = .ok (.aload_n 0, 1) := by decide +kernel
theorem dJx4a65c_grow_d5877_1 : decode cJx4a65c_grow_d5877 1 = .ok (.aload_n 0, 1) := by decide +kernel
theorem dJx4a65c_grow_d5877_2 : decode cJx4a65c_grow_d5877 2 = .ok (.getfield 48, 3) := by decide +kernel
theorem dJx4a65c_grow_d5877_5 : decode cJx4a65c_grow_d5877 5 = .ok (.iconst 1, 1) := by decide +kernel
theorem dJx4a65c_grow_d5877_6 : decode cJx4a65c_grow_d5877 6 = .ok (.iadd, 1) := by decide +kernel
theorem dJx4a65c_grow_d5877_7 : decode cJx4a65c_grow_d5877 7 = .ok (.invokevirtual 69, 3) := by decide +kernel
theorem dJx4a65c_grow_d5877_10 : decode cJx4a65c_grow_d5877 10 = .ok (.areturn, 1) := by decide +kernel
theorem dJx4a65c_grow_92f84_0 : decode cJx4a65c_grow_92f84 0 = .ok (.aload_n 0, 1) := by decide +kernel
theorem dJx4a65c_grow_92f84_1 : decode cJx4a65c_grow_92f84 1 = .ok (.getfield 9, 3) := by decide +kernel
theorem dJx4a65c_grow_92f84_4 : decode cJx4a65c_grow_92f84 4 = .ok (.arraylength, 1) := by decide +kernel
theorem dJx4a65c_grow_92f84_5 : decode cJx4a65c_grow_92f84 5 = .ok (.istore_n 2, 1) := by decide +kernel
theorem dJx4a65c_grow_92f84_6 : decode cJx4a65c_grow_92f84 6 = .ok (.iload_n 2, 1) := by decide +kernel
theorem dJx4a65c_grow_92f84_7 : decode cJx4a65c_grow_92f84 7 = .ok (.ifCond .gt 13, 3) := by decide +kernel
theorem dJx4a65c_grow_92f84_10 : decode cJx4a65c_grow_92f84 10 = .ok (.aload_n 0, 1) := by decide +kernel
theorem dJx4a65c_grow_92f84_11 : decode cJx4a65c_grow_92f84 11 = .ok (.getfield 9, 3) := by decide +kernel
theorem dJx4a65c_grow_92f84_14 : decode cJx4a65c_grow_92f84 14 = .ok (.getstatic 39, 3) := by decide +kernel
theorem dJx4a65c_grow_92f84_17 : decode cJx4a65c_grow_92f84 17 = .ok (.if_acmp .eq 28, 3) := by decide +kernel
theorem dJx4a65c_grow_92f84_20 : decode cJx4a65c_grow_92f84 20 = .ok (.iload_n 2, 1) := by decide +kernel
theorem dJx4a65c_grow_92f84_21 : decode cJx4a65c_grow_92f84 21 = .ok (.iload_n 1, 1) := by decide +kernel
theorem dJx4a65c_grow_92f84_22 : decode cJx4a65c_grow_92f84 22 = .ok (.iload_n 2, 1) := by decide +kernel
theorem dJx4a65c_grow_92f84_23 : decode cJx4a65c_grow_92f84 23 = .ok (.isub, 1) := by decide +kernel
theorem dJx4a65c_grow_92f84_24 : decode cJx4a65c_grow_92f84 24 = .ok (.iload_n 2, 1) := by decide +kernel
theorem dJx4a65c_grow_92f84_25 : decode cJx4a65c_grow_92f84 25 = .ok (.iconst 1, 1) := by decide +kernel
theorem dJx4a65c_grow_92f84_26 : decode cJx4a65c_grow_92f84 26 = .ok (.ishr, 1) := by decide +kernel
theorem dJx4a65c_grow_92f84_27 : decode cJx4a65c_grow_92f84 27 = .ok (.invokestatic 73, 3) := by decide +kernel
theorem dJx4a65c_grow_92f84_30 : decode cJx4a65c_grow_92f84 30 = .ok (.istore_n 3, 1) := by decide +kernel
theorem dJx4a65c_grow_92f84_31 : decode cJx4a65c_grow_92f84 31 = .ok (.aload_n 0, 1) := by decide +kernel
theorem dJx4a65c_grow_92f84_32 : decode cJx4a65c_grow_92f84 32 = .ok (.aload_n 0, 1) := by decide +kernel
theorem dJx4a65c_grow_92f84_33 : decode cJx4a65c_grow_92f84 33 = .ok (.getfield 9, 3) := by decide +kernel
theorem dJx4a65c_grow_92f84_36 : decode cJx4a65c_grow_92f84 36 = .ok (.iload_n 3, 1) := by decide +kernel
theorem dJx4a65c_grow_92f84_37 : decode cJx4a65c_grow_92f84 37 = .ok (.invokestatic 66, 3) := by decide +kernel
theorem dJx4a65c_grow_92f84_40 : decode cJx4a65c_grow_92f84 40 = .ok (.dup_x1, 1) := by decide +kernel
theorem dJx4a65c_grow_92f84_41 : decode cJx4a65c_grow_92f84 41 = .ok (.putfield 9, 3) := by decide +kernel
theorem dJx4a65c_grow_92f84_44 : decode cJx4a65c_grow_92f84 44 = .ok (.areturn, 1) := by decide +kernel
theorem dJx4a65c_grow_92f84_45 : decode cJx4a65c_grow_92f84 45 = .ok (.aload_n 0, 1) := by decide +kernel
theorem dJx4a65c_grow_92f84_46 : decode cJx4a65c_grow_92f84 46 = .ok (.bipush 10, 2) := by decide +kernel
theorem dJx4a65c_grow_92f84_48 : decode cJx4a65c_grow_92f84 48 = .ok (.iload_n 1, 1) := by decide +kernel
theorem dJx4a65c_grow_92f84_49 : decode cJx4a65c_grow_92f84 49 = .ok (.invokestatic 79, 3) := by decide +kernel
theorem dJx4a65c_grow_92f84_52 : decode cJx4a65c_grow_92f84 52 = .ok (.anewarray 7, 3) := by decide +kernel
theorem dJx4a65c_grow_92f84_55 : decode cJx4a65c_grow_92f84 55 = .ok (.dup_x1, 1) := by decide +kernel
theorem dJx4a65c_grow_92f84_56 : decode cJx4a65c_grow_92f84 56 = .ok (.putfield 9, 3) := by decide +kernel
theorem dJx4a65c_grow_92f84_59 : decode cJx4a65c_grow_92f84 59 = .ok (.areturn, 1) := by decide +kernel
theorem dJx4a65c_rangeCheckForAdd_d00df_0 : decode cJx4a65c_rangeCheckForAdd_d00df 0 = .ok (.iload_n 1, 1) := by decide +kernel
theorem dJx4a65c_rangeCheckForAdd_d00df_1 : decode cJx4a65c_rangeCheckForAdd_d00df 1 = .ok (.aload_n 0, 1) := by decide +kernel
theorem dJx4a65c_rangeCheckForAdd_d00df_2 : decode cJx4a65c_rangeCheckForAdd_d00df 2 = .ok (.getfield 48, 3) := by decide +kernel
theorem dJx4a65c_rangeCheckForAdd_d00df_5 : decode cJx4a65c_rangeCheckForAdd_d00df 5 = .ok (.if_icmp .gt 7, 3) := by decide +kernel
theorem dJx4a65c_rangeCheckForAdd_d00df_8 : decode cJx4a65c_rangeCheckForAdd_d00df 8 = .ok (.iload_n 1, 1) := by decide +kernel
theorem dJx4a65c_rangeCheckForAdd_d00df_9 : decode cJx4a65c_rangeCheckForAdd_d00df 9 = .ok (.ifCond .ge 16, 3) := by decide +kernel
theorem dJx4a65c_rangeCheckForAdd_d00df_12 : decode cJx4a65c_rangeCheckForAdd_d00df 12 = .ok (.new 187, 3) := by decide +kernel
theorem dJx4a65c_rangeCheckForAdd_d00df_15 : decode cJx4a65c_rangeCheckForAdd_d00df 15 = .ok (.dup, 1) := by decide +kernel
theorem dJx4a65c_rangeCheckForAdd_d00df_16 : decode cJx4a65c_rangeCheckForAdd_d00df 16 = .ok (.aload_n 0, 1) := by decide +kernel
theorem dJx4a65c_rangeCheckForAdd_d00df_17 : decode cJx4a65c_rangeCheckForAdd_d00df 17 = .ok (.iload_n 1, 1) := by decide +kernel
theorem dJx4a65c_rangeCheckForAdd_d00df_18 : decode cJx4a65c_rangeCheckForAdd_d00df 18 = .ok (.invokevirtual 198, 3) := by decide +kernel
theorem dJx4a65c_rangeCheckForAdd_d00df_21 : decode cJx4a65c_rangeCheckForAdd_d00df 21 = .ok (.invokespecial 193, 3) := by decide +kernel
theorem dJx4a65c_rangeCheckForAdd_d00df_24 : decode cJx4a65c_rangeCheckForAdd_d00df 24 = .ok (.athrow, 1) := by decide +kernel
theorem dJx4a65c_rangeCheckForAdd_d00df_25 : decode cJx4a65c_rangeCheckForAdd_d00df 25 = .ok (.return_, 1) := by decide +kernel
theorem dJ15_checkIndex_7cf53_0 : decode cJ15_checkIndex_7cf53 0 = .ok (.iload_n 0, 1) := by decide +kernel
theorem dJ15_checkIndex_7cf53_1 : decode cJ15_checkIndex_7cf53 1 = .ok (.iload_n 1, 1) := by decide +kernel
theorem dJ15_checkIndex_7cf53_2 : decode cJ15_checkIndex_7cf53 2 = .ok (.aconst_null, 1) := by decide +kernel
theorem dJ15_checkIndex_7cf53_3 : decode cJ15_checkIndex_7cf53 3 = .ok (.invokestatic 105, 3) := by decide +kernel
theorem dJ15_checkIndex_7cf53_6 : decode cJ15_checkIndex_7cf53 6 = .ok (.ireturn, 1) := by decide +kernel
theorem dJ3_checkIndex_8e157_0 : decode cJ3_checkIndex_8e157 0 = .ok (.iload_n 0, 1) := by decide +kernel
theorem dJ3_checkIndex_8e157_1 : decode cJ3_checkIndex_8e157 1 = .ok (.ifCond .lt 8, 3) := by decide +kernel
theorem dJ3_checkIndex_8e157_4 : decode cJ3_checkIndex_8e157 4 = .ok (.iload_n 0, 1) := by decide +kernel
theorem dJ3_checkIndex_8e157_5 : decode cJ3_checkIndex_8e157 5 = .ok (.iload_n 1, 1) := by decide +kernel
theorem dJ3_checkIndex_8e157_6 : decode cJ3_checkIndex_8e157 6 = .ok (.if_icmp .lt 10, 3) := by decide +kernel
theorem dJ3_checkIndex_8e157_9 : decode cJ3_checkIndex_8e157 9 = .ok (.aload_n 2, 1) := by decide +kernel
theorem dJ3_checkIndex_8e157_10 : decode cJ3_checkIndex_8e157 10 = .ok (.iload_n 0, 1) := by decide +kernel
theorem dJ3_checkIndex_8e157_11 : decode cJ3_checkIndex_8e157 11 = .ok (.iload_n 1, 1) := by decide +kernel
theorem dJ3_checkIndex_8e157_12 : decode cJ3_checkIndex_8e157 12 = .ok (.invokestatic 95, 3) := by decide +kernel
theorem dJ3_checkIndex_8e157_15 : decode cJ3_checkIndex_8e157 15 = .ok (.athrow, 1) := by decide +kernel
theorem dJ3_checkIndex_8e157_16 : decode cJ3_checkIndex_8e157 16 = .ok (.iload_n 0, 1) := by decide +kernel
theorem dJ3_checkIndex_8e157_17 : decode cJ3_checkIndex_8e157 17 = .ok (.ireturn, 1) := by decide +kernel
theorem dJ7_fill_53178_0 : decode cJ7_fill_53178 0 = .ok (.iconst 0, 1) := by decide +kernel
theorem dJ7_fill_53178_1 : decode cJ7_fill_53178 1 = .ok (.istore_n 2, 1) := by decide +kernel
theorem dJ7_fill_53178_2 : decode cJ7_fill_53178 2 = .ok (.aload_n 0, 1) := by decide +kernel
theorem dJ7_fill_53178_3 : decode cJ7_fill_53178 3 = .ok (.arraylength, 1) := by decide +kernel
theorem dJ7_fill_53178_4 : decode cJ7_fill_53178 4 = .ok (.istore_n 3, 1) := by decide +kernel
theorem dJ7_fill_53178_5 : decode cJ7_fill_53178 5 = .ok (.iload_n 2, 1) := by decide +kernel
theorem dJ7_fill_53178_6 : decode cJ7_fill_53178 6 = .ok (.iload_n 3, 1) := by decide +kernel
theorem dJ7_fill_53178_7 : decode cJ7_fill_53178 7 = .ok (.if_icmp .ge 13, 3) := by decide +kernel
theorem dJ7_fill_53178_10 : decode cJ7_fill_53178 10 = .ok (.aload_n 0, 1) := by decide +kernel
theorem dJ7_fill_53178_11 : decode cJ7_fill_53178 11 = .ok (.iload_n 2, 1) := by decide +kernel
theorem dJ7_fill_53178_12 : decode cJ7_fill_53178 12 = .ok (.iload_n 1, 1) := by decide +kernel
theorem dJ7_fill_53178_13 : decode cJ7_fill_53178 13 = .ok (.iastore, 1) := by decide +kernel
theorem dJ7_fill_53178_14 : decode cJ7_fill_53178 14 = .ok (.iinc 2 1, 3) := by decide +kernel
theorem dJ7_fill_53178_17 : decode cJ7_fill_53178 17 = .ok (.goto (-12), 3) := by decide +kernel
theorem dJ7_fill_53178_20 : decode cJ7_fill_53178 20 = .ok (.return_, 1) := by decide +kernel
theorem dJ7_copyOf_1904c_0 : decode cJ7_copyOf_1904c 0 = .ok (.aload_n 0, 1) := by decide +kernel
theorem dJ7_copyOf_1904c_1 : decode cJ7_copyOf_1904c 1 = .ok (.iload_n 1, 1) := by decide +kernel
theorem dJ7_copyOf_1904c_2 : decode cJ7_copyOf_1904c 2 = .ok (.aload_n 0, 1) := by decide +kernel
theorem dJ7_copyOf_1904c_3 : decode cJ7_copyOf_1904c 3 = .ok (.invokevirtual 86, 3) := by decide +kernel
theorem dJ7_copyOf_1904c_6 : decode cJ7_copyOf_1904c 6 = .ok (.invokestatic 300, 3) := by decide +kernel
theorem dJ7_copyOf_1904c_9 : decode cJ7_copyOf_1904c 9 = .ok (.areturn, 1) := by decide +kernel
theorem dJ7_copyOf_6403c_0 : decode cJ7_copyOf_6403c 0 = .ok (.aload_n 2, 1) := by decide +kernel
theorem dJ7_copyOf_6403c_1 : decode cJ7_copyOf_6403c 1 = .ok (.ldc 110, 2) := by decide +kernel
theorem dJ7_copyOf_6403c_3 : decode cJ7_copyOf_6403c 3 = .ok (.if_acmp .ne 10, 3) := by decide +kernel
theorem dJ7_copyOf_6403c_6 : decode cJ7_copyOf_6403c 6 = .ok (.iload_n 1, 1) := by decide +kernel
theorem dJ7_copyOf_6403c_7 : decode cJ7_copyOf_6403c 7 = .ok (.anewarray 2, 3) := by decide +kernel
theorem dJ7_copyOf_6403c_10 : decode cJ7_copyOf_6403c 10 = .ok (.goto 14, 3) := by decide +kernel
theorem dJ7_copyOf_6403c_13 : decode cJ7_copyOf_6403c 13 = .ok (.aload_n 2, 1) := by decide +kernel
theorem dJ7_copyOf_6403c_14 : decode cJ7_copyOf_6403c 14 = .ok (.invokevirtual 90, 3) := by decide +kernel
theorem dJ7_copyOf_6403c_17 : decode cJ7_copyOf_6403c 17 = .ok (.iload_n 1, 1) := by decide +kernel
theorem dJ7_copyOf_6403c_18 : decode cJ7_copyOf_6403c 18 = .ok (.invokestatic 95, 3) := by decide +kernel
theorem dJ7_copyOf_6403c_21 : decode cJ7_copyOf_6403c 21 = .ok (.checkcast 110, 3) := by decide +kernel
theorem dJ7_copyOf_6403c_24 : decode cJ7_copyOf_6403c 24 = .ok (.astore_n 3, 1) := by decide +kernel
theorem dJ7_copyOf_6403c_25 : decode cJ7_copyOf_6403c 25 = .ok (.aload_n 0, 1) := by decide +kernel
theorem dJ7_copyOf_6403c_26 : decode cJ7_copyOf_6403c 26 = .ok (.iconst 0, 1) := by decide +kernel
theorem dJ7_copyOf_6403c_27 : decode cJ7_copyOf_6403c 27 = .ok (.aload_n 3, 1) := by decide +kernel
theorem dJ7_copyOf_6403c_28 : decode cJ7_copyOf_6403c 28 = .ok (.iconst 0, 1) := by decide +kernel
theorem dJ7_copyOf_6403c_29 : decode cJ7_copyOf_6403c 29 = .ok (.aload_n 0, 1) := by decide +kernel
theorem dJ7_copyOf_6403c_30 : decode cJ7_copyOf_6403c 30 = .ok (.arraylength, 1) := by decide +kernel
theorem dJ7_copyOf_6403c_31 : decode cJ7_copyOf_6403c 31 = .ok (.iload_n 1, 1) := by decide +kernel
theorem dJ7_copyOf_6403c_32 : decode cJ7_copyOf_6403c 32 = .ok (.invokestatic 304, 3) := by decide +kernel
theorem dJ7_copyOf_6403c_35 : decode cJ7_copyOf_6403c 35 = .ok (.invokestatic 150, 3) := by decide +kernel
theorem dJ7_copyOf_6403c_38 : decode cJ7_copyOf_6403c 38 = .ok (.aload_n 3, 1) := by decide +kernel
theorem dJ7_copyOf_6403c_39 : decode cJ7_copyOf_6403c 39 = .ok (.areturn, 1) := by decide +kernel
theorem dJ8_newLength_cabcc_0 : decode cJ8_newLength_cabcc 0 = .ok (.iload_n 0, 1) := by decide +kernel
theorem dJ8_newLength_cabcc_1 : decode cJ8_newLength_cabcc 1 = .ok (.iload_n 1, 1) := by decide +kernel
theorem dJ8_newLength_cabcc_2 : decode cJ8_newLength_cabcc 2 = .ok (.iload_n 2, 1) := by decide +kernel
theorem dJ8_newLength_cabcc_3 : decode cJ8_newLength_cabcc 3 = .ok (.invokestatic 194, 3) := by decide +kernel
theorem dJ8_newLength_cabcc_6 : decode cJ8_newLength_cabcc 6 = .ok (.iadd, 1) := by decide +kernel
theorem dJ8_newLength_cabcc_7 : decode cJ8_newLength_cabcc 7 = .ok (.istore_n 3, 1) := by decide +kernel
theorem dJ8_newLength_cabcc_8 : decode cJ8_newLength_cabcc 8 = .ok (.iconst 0, 1) := by decide +kernel
theorem dJ8_newLength_cabcc_9 : decode cJ8_newLength_cabcc 9 = .ok (.iload_n 3, 1) := by decide +kernel
theorem dJ8_newLength_cabcc_10 : decode cJ8_newLength_cabcc 10 = .ok (.if_icmp .ge 11, 3) := by decide +kernel
theorem dJ8_newLength_cabcc_13 : decode cJ8_newLength_cabcc 13 = .ok (.iload_n 3, 1) := by decide +kernel
theorem dJ8_newLength_cabcc_14 : decode cJ8_newLength_cabcc 14 = .ok (.ldc 200, 2) := by decide +kernel
theorem dJ8_newLength_cabcc_16 : decode cJ8_newLength_cabcc 16 = .ok (.if_icmp .gt 5, 3) := by decide +kernel
theorem dJ8_newLength_cabcc_19 : decode cJ8_newLength_cabcc 19 = .ok (.iload_n 3, 1) := by decide +kernel
theorem dJ8_newLength_cabcc_20 : decode cJ8_newLength_cabcc 20 = .ok (.ireturn, 1) := by decide +kernel
theorem dJ8_newLength_cabcc_21 : decode cJ8_newLength_cabcc 21 = .ok (.iload_n 0, 1) := by decide +kernel
theorem dJ8_newLength_cabcc_22 : decode cJ8_newLength_cabcc 22 = .ok (.iload_n 1, 1) := by decide +kernel
theorem dJ8_newLength_cabcc_23 : decode cJ8_newLength_cabcc 23 = .ok (.invokestatic 201, 3) := by decide +kernel
theorem dJ8_newLength_cabcc_26 : decode cJ8_newLength_cabcc 26 = .ok (.ireturn, 1) := by decide +kernel
end
section
/-! ===== rules over numbers; frames; forms of contracts ===== -/
section RulesN
variable {g : Gl} {l : Launch} {R : Room} {own : String} {cc : ByteArray} {nL : Nat} {hh : List (Nat × Nat × Nat × Nat)} {mn : String} {V : VT} {X : XT} {pc : Nat} {lv : List (Option Value)} {st : List Value} {h : Hp} {kc ks : Nat}
theorem vp_inN {j n : Nat} (hj : j < n) (hn : n < 2 ^ 31) : vp_in (nI j) n := vp_in_nI hj hn
theorem r_iaddN (M : Mach g l R own cc nL hh mn V X) {a b : Nat} (hd : decode cc pc = .ok (.iadd, 1)) (kk : V (pc + 1) lv (.int (nI (a + b)) :: st) h kc ks) : V pc lv (.int (nI b) :: .int (nI a) :: st) h kc ks := r_iadd M hd (by rw [nI_add]; exact kk)
theorem r_imulN (M : Mach g l R own cc nL hh mn V X) {a b : Nat} (hd : decode cc pc = .ok (.imul, 1)) (kk : V (pc + 1) lv (.int (nI (a * b)) :: st) h kc ks) : V pc lv (.int (nI b) :: .int (nI a) :: st) h kc ks := r_imul M hd (by rw [pk_mul]; exact kk)
theorem r_isubN (M : Mach g l R own cc nL hh mn V X) {a b : Nat} (hd : decode cc pc = .ok (.isub, 1)) (hle : b ≤ a) (kk : V (pc + 1) lv (.int (nI (a - b)) :: st) h kc ks) : V pc lv (.int (nI b) :: .int (nI a) :: st) h kc ks := r_isub M hd (by rw [pk_sub hle]; exact kk)
theorem r_iincN (M : Mach g l R own cc nL hh mn V X) {i x k : Nat} {n : Int} (hd : decode cc pc = .ok (.iinc i n, 3)) (hi : lv[i]? = some (some (.int (nI x)))) (hv : Int32.ofInt n = nI k) (hk : i < nL) (kk : V (pc + 3) (lv.set i (some (.int (nI (x + k))))) st h kc ks) : V pc lv st h kc ks := r_iinc M hd hi (by rw [hv, nI_add]) hk kk

theorem r_icmp_ltN (M : Mach g l R own cc nL hh mn V X) {a b : Nat} {off : Int} {tgt : Nat} (hd : decode cc pc = .ok (.if_icmp .lt off, 3)) (ht : (pc : Int) + off = (tgt : Int)) (ha : a < 2 ^ 31) (hb : b < 2 ^ 31) (kt : a < b → V tgt lv st h kc ks) (kf : b ≤ a → V (pc + 3) lv st h kc ks) : V pc lv (.int (nI b) :: .int (nI a) :: st) h kc ks := r_icmp_lt M hd ht (fun q => kt ((nI_ltI ha hb).mp q)) (fun q => kf (Nat.not_lt.mp (fun z => q ((nI_ltI ha hb).mpr z))))
theorem r_icmp_geN (M : Mach g l R own cc nL hh mn V X) {a b : Nat} {off : Int} {tgt : Nat} (hd : decode cc pc = .ok (.if_icmp .ge off, 3)) (ht : (pc : Int) + off = (tgt : Int)) (ha : a < 2 ^ 31) (hb : b < 2 ^ 31) (kt : b ≤ a → V tgt lv st h kc ks) (kf : a < b → V (pc + 3) lv st h kc ks) : V pc lv (.int (nI b) :: .int (nI a) :: st) h kc ks := r_icmp_ge M hd ht (fun q => kt ((nI_leI hb ha).mp q)) (fun q => kf (Nat.not_le.mp (fun z => q ((nI_leI hb ha).mpr z))))
theorem r_icmp_gtN (M : Mach g l R own cc nL hh mn V X) {a b : Nat} {off : Int} {tgt : Nat} (hd : decode cc pc = .ok (.if_icmp .gt off, 3)) (ht : (pc : Int) + off = (tgt : Int)) (ha : a < 2 ^ 31) (hb : b < 2 ^ 31) (kt : b < a → V tgt lv st h kc ks) (kf : a ≤ b → V (pc + 3) lv st h kc ks) : V pc lv (.int (nI b) :: .int (nI a) :: st) h kc ks := r_icmp_gt M hd ht (fun q => kt ((nI_ltI hb ha).mp q)) (fun q => kf (Nat.not_lt.mp (fun z => q ((nI_ltI hb ha).mpr z))))
theorem r_icmp_leN (M : Mach g l R own cc nL hh mn V X) {a b : Nat} {off : Int} {tgt : Nat} (hd : decode cc pc = .ok (.if_icmp .le off, 3)) (ht : (pc : Int) + off = (tgt : Int)) (ha : a < 2 ^ 31) (hb : b < 2 ^ 31) (kt : a ≤ b → V tgt lv st h kc ks) (kf : b < a → V (pc + 3) lv st h kc ks) : V pc lv (.int (nI b) :: .int (nI a) :: st) h kc ks := r_icmp_le M hd ht (fun q => kt ((nI_leI ha hb).mp q)) (fun q => kf (Nat.not_le.mp (fun z => q ((nI_leI ha hb).mpr z))))
theorem r_icmp_eqN (M : Mach g l R own cc nL hh mn V X) {a b : Nat} {off : Int} {tgt : Nat} (hd : decode cc pc = .ok (.if_icmp .eq off, 3)) (ht : (pc : Int) + off = (tgt : Int)) (ha : a < 2 ^ 31) (hb : b < 2 ^ 31) (kt : a = b → V tgt lv st h kc ks) (kf : ¬ a = b → V (pc + 3) lv st h kc ks) : V pc lv (.int (nI b) :: .int (nI a) :: st) h kc ks := r_icmp_eq M hd ht (fun q => kt ((nI_eq ha hb).mp q)) (fun q => kf (fun z => q ((nI_eq ha hb).mpr z)))
theorem r_icmp_neN (M : Mach g l R own cc nL hh mn V X) {a b : Nat} {off : Int} {tgt : Nat} (hd : decode cc pc = .ok (.if_icmp .ne off, 3)) (ht : (pc : Int) + off = (tgt : Int)) (ha : a < 2 ^ 31) (hb : b < 2 ^ 31) (kt : ¬ a = b → V tgt lv st h kc ks) (kf : a = b → V (pc + 3) lv st h kc ks) : V pc lv (.int (nI b) :: .int (nI a) :: st) h kc ks := r_icmp_ne M hd ht (fun q => kt (fun z => q ((nI_eq ha hb).mpr z))) (fun q => kf ((nI_eq ha hb).mp q))
theorem r_if_eqN (M : Mach g l R own cc nL hh mn V X) {a : Nat} {off : Int} {tgt : Nat} (hd : decode cc pc = .ok (.ifCond .eq off, 3)) (ht : (pc : Int) + off = (tgt : Int)) (ha : a < 2 ^ 31) (kt : a = 0 → V tgt lv st h kc ks) (kf : 0 < a → V (pc + 3) lv st h kc ks) : V pc lv (.int (nI a) :: st) h kc ks := r_if_eq M hd ht (fun q => kt ((nI_eq ha (by decide)).mp (q.trans nI_0.symm))) (fun q => kf (Nat.pos_of_ne_zero (fun z => q (by rw [z]; exact nI_0))))
theorem r_if_neN (M : Mach g l R own cc nL hh mn V X) {a : Nat} {off : Int} {tgt : Nat} (hd : decode cc pc = .ok (.ifCond .ne off, 3)) (ht : (pc : Int) + off = (tgt : Int)) (ha : a < 2 ^ 31) (kt : 0 < a → V tgt lv st h kc ks) (kf : a = 0 → V (pc + 3) lv st h kc ks) : V pc lv (.int (nI a) :: st) h kc ks := r_if_ne M hd ht (fun q => kt (Nat.pos_of_ne_zero (fun z => q (by rw [z]; exact nI_0)))) (fun q => kf ((nI_eq ha (by decide)).mp (q.trans nI_0.symm)))
theorem nI_le0 {a : Nat} (ha : a < 2 ^ 31) : nI a ≤ 0 ↔ a = 0 := by rw [← nI_0, nI_leI ha (by decide)]; omega
theorem nI_gt0 {a : Nat} (ha : a < 2 ^ 31) : 0 < nI a ↔ 0 < a := by rw [← nI_0, nI_ltI (by decide) ha]
theorem nI_ge0 {a : Nat} (ha : a < 2 ^ 31) : 0 ≤ nI a := nI_pos' ha
theorem r_if_gtN (M : Mach g l R own cc nL hh mn V X) {a : Nat} {off : Int} {tgt : Nat} (hd : decode cc pc = .ok (.ifCond .gt off, 3)) (ht : (pc : Int) + off = (tgt : Int)) (ha : a < 2 ^ 31) (kt : 0 < a → V tgt lv st h kc ks) (kf : a = 0 → V (pc + 3) lv st h kc ks) : V pc lv (.int (nI a) :: st) h kc ks := r_if_gt M hd ht (fun q => kt ((nI_gt0 ha).mp q)) (fun q => kf (Nat.eq_zero_of_not_pos (fun z => q ((nI_gt0 ha).mpr z))))
theorem r_if_leN (M : Mach g l R own cc nL hh mn V X) {a : Nat} {off : Int} {tgt : Nat} (hd : decode cc pc = .ok (.ifCond .le off, 3)) (ht : (pc : Int) + off = (tgt : Int)) (ha : a < 2 ^ 31) (kt : a = 0 → V tgt lv st h kc ks) (kf : 0 < a → V (pc + 3) lv st h kc ks) : V pc lv (.int (nI a) :: st) h kc ks := r_if_le M hd ht (fun q => kt ((nI_le0 ha).mp q)) (fun q => kf (Nat.pos_of_ne_zero (fun z => q ((nI_le0 ha).mpr z))))
theorem vp_of {x : Int32} {n : Nat} (h1 : ¬ x < 0) (h2 : x < nI n) (hn : n < 2 ^ 31) : vp_in x n := by
  obtain ⟨j, hj, rfl⟩ := nI_of h1
  exact vp_inN ((nI_ltI hj hn).mp h2) hn
/-- a truth as the machine has it -/
def bI (b : Bool) : Int32 := if b = true then 1 else 0
theorem r_if_eqB (M : Mach g l R own cc nL hh mn V X) {b : Bool} {off : Int} {tgt : Nat} (hd : decode cc pc = .ok (.ifCond .eq off, 3)) (ht : (pc : Int) + off = (tgt : Int)) (kt : b = false → V tgt lv st h kc ks) (kf : b = true → V (pc + 3) lv st h kc ks) : V pc lv (.int (bI b) :: st) h kc ks := r_if_eq M hd ht (fun q => kt (by cases b <;> first | rfl | exact absurd q (by decide))) (fun q => kf (by cases b <;> first | rfl | exact absurd rfl q))
theorem r_if_neB (M : Mach g l R own cc nL hh mn V X) {b : Bool} {off : Int} {tgt : Nat} (hd : decode cc pc = .ok (.ifCond .ne off, 3)) (ht : (pc : Int) + off = (tgt : Int)) (kt : b = true → V tgt lv st h kc ks) (kf : b = false → V (pc + 3) lv st h kc ks) : V pc lv (.int (bI b) :: st) h kc ks := r_if_ne M hd ht (fun q => kt (by cases b <;> first | rfl | exact absurd rfl q)) (fun q => kf (by cases b <;> first | rfl | exact absurd q (by decide)))
theorem bI_nar (b : Bool) : narrow .boolean (.int (bI b)) = .int (bI b) := by cases b <;> rfl
theorem r_ialdN (M : Mach g l R own cc nL hh mn V X) {a n j : Nat} (hd : decode cc pc = .ok (.iaload, 1)) (hs : xS h a = some (8, n)) (hj : j < n) (hn : n < 2 ^ 31) (kk : V (pc + 1) lv (.int (xA h a j) :: st) h kc ks) : V pc lv (.int (nI j) :: .ref a :: st) h kc ks := r_iald M hd hs (vp_inN hj hn) (by rw [nI_clamp (by omega)]; exact kk)
theorem r_zaldN (M : Mach g l R own cc nL hh mn V X) {a n j : Nat} (hd : decode cc pc = .ok (.baload, 1)) (hs : xS h a = some (9, n)) (hj : j < n) (hn : n < 2 ^ 31) (kk : V (pc + 1) lv (.int (xA h a j) :: st) h kc ks) : V pc lv (.int (nI j) :: .ref a :: st) h kc ks := r_zald M hd hs (vp_inN hj hn) (by rw [nI_clamp (by omega)]; exact kk)
theorem r_laldN (M : Mach g l R own cc nL hh mn V X) {a n j : Nat} (hd : decode cc pc = .ok (.laload, 1)) (hs : xS h a = some (11, n)) (hj : j < n) (hn : n < 2 ^ 31) (kk : V (pc + 1) lv (.long (xL h a j) :: st) h kc ks) : V pc lv (.int (nI j) :: .ref a :: st) h kc ks := r_lald M hd hs (vp_inN hj hn) (by rw [nI_clamp (by omega)]; exact kk)
theorem r_aaldN (M : Mach g l R own cc nL hh mn V X) {a n j b : Nat} (hd : decode cc pc = .ok (.aaload, 1)) (hs : xS h a = some (10, n)) (hj : j < n) (hn : n < 2 ^ 31) (hv : xB h a j = some b) (kk : V (pc + 1) lv (.ref b :: st) h kc ks) : V pc lv (.int (nI j) :: .ref a :: st) h kc ks := r_aald M hd hs (vp_inN hj hn) (by rw [nI_clamp (by omega)]; exact hv) kk
theorem r_iastN (M : Mach g l R own cc nL hh mn V X) {a n j : Nat} {v : Int32} (hd : decode cc pc = .ok (.iastore, 1)) (hs : xS h a = some (8, n)) (hj : j < n) (hn : n < 2 ^ 31) (kk : V (pc + 1) lv st (yA h a j v) kc ks) : V pc lv (.int v :: .int (nI j) :: .ref a :: st) h kc ks := r_iast M hd hs (vp_inN hj hn) (by rw [nI_clamp (by omega)]; exact kk)
theorem r_zastN (M : Mach g l R own cc nL hh mn V X) {a n j : Nat} {v : Int32} (hd : decode cc pc = .ok (.bastore, 1)) (hs : xS h a = some (9, n)) (hj : j < n) (hn : n < 2 ^ 31) (hnv : vp_nar .boolean v = v) (kk : V (pc + 1) lv st (yA h a j v) kc ks) : V pc lv (.int v :: .int (nI j) :: .ref a :: st) h kc ks := r_zast M hd hs (vp_inN hj hn) hnv (by rw [nI_clamp (by omega)]; exact kk)
theorem r_lastN (M : Mach g l R own cc nL hh mn V X) {a n j : Nat} {v : Int64} (hd : decode cc pc = .ok (.lastore, 1)) (hs : xS h a = some (11, n)) (hj : j < n) (hn : n < 2 ^ 31) (kk : V (pc + 1) lv st (yL h a j v) kc ks) : V pc lv (.long v :: .int (nI j) :: .ref a :: st) h kc ks := r_last M hd hs (vp_inN hj hn) (by rw [nI_clamp (by omega)]; exact kk)
theorem r_aastN0 (M : Mach g l R own cc nL hh mn V X) {a n j : Nat} (hd : decode cc pc = .ok (.aastore, 1)) (hs : xS h a = some (10, n)) (hj : j < n) (hn : n < 2 ^ 31) (kk : V (pc + 1) lv st (yB h a j none) kc ks) : V pc lv (.null :: .int (nI j) :: .ref a :: st) h kc ks := r_aastN M hd hs (vp_inN hj hn) (by rw [nI_clamp (by omega)]; exact kk)
/-- what an element of an object row is: an object of a known class -/
def isE (h : Hp) (v : Nat) : Prop := ∃ (ci nv : Nat) (r : vw_C), xS h v = some (ci, nv) ∧ kcl[ci]? = some r ∧ Cond.castable r.1 "java/lang/Object" ∈ NW
theorem r_aastE (M : Mach g l R own cc nL hh mn V X) {a n j v : Nat} (hd : decode cc pc = .ok (.aastore, 1)) (hs : xS h a = some (10, n)) (hj : j < n) (hn : n < 2 ^ 31) (hv : isE h v) (kk : V (pc + 1) lv st (yB h a j (some v)) kc ks) : V pc lv (.ref v :: .int (nI j) :: .ref a :: st) h kc ks := by
  obtain ⟨ci, nv, r, h1, h2, h3⟩ := hv
  exact r_aast M hd hs (vp_inN hj hn) h1 (C1 := r.1) (T1 := r.2.1) (N1 := r.2.2) h2 h3 (by rw [nI_clamp (by omega)]; exact kk)
theorem r_copyN (M : Mach g l R own cc nL hh mn V X) {idx a b na nb sp dp n : Nat} (hd : decode cc pc = .ok (.invokestatic idx, 3)) (ha : xS h a = some (10, na)) (hbb : xS h b = some (10, nb)) (hw1 : Cond.methodLink own idx arraycopyName ∈ TB) (hw2 : Cond.native arraycopyName ∈ TB) (hw3 : Cond.static arraycopyName ∈ TB) (hw4 : Cond.initialized "java/lang/System" ∈ TB) (hz : na < 2 ^ 31 ∧ nb < 2 ^ 31) (h4 : sp + n ≤ na) (h5 : dp + n ≤ nb) (hr1 : 1 ≤ R.frames) (hr2 : (st.map fun v => v.category).sum + (nativeFrameWords "java/lang/System" "arraycopy" 5 + 11) ≤ R.locals) (hel : ∀ i : Nat, i < n → ∀ y : Nat, xB h a (sp + i) = some y → isE h y) (kk : V (pc + 3) lv st (yC h b (va_cpy (xB h a) (xB h b) sp dp n)) kc ks) : V pc lv (.int (nI n) :: .int (nI dp) :: .ref b :: .int (nI sp) :: .ref a :: st) h kc ks := by
  have e1 : (nI sp).toNatClampNeg = sp := nI_clamp (by omega)
  have e2 : (nI dp).toNatClampNeg = dp := nI_clamp (by omega)
  have e3 : (nI n).toNatClampNeg = n := nI_clamp (by omega)
  refine r_copy M hd ha hbb hw1 hw2 hw3 hw4 (nI_pos (by omega)) (nI_pos (by omega)) (nI_pos (by omega)) (by rw [e1, e3]; exact h4) (by rw [e2, e3]; exact h5) (fun i hi y hy => ?_) hr1 hr2 (by rw [e1, e2, e3]; exact kk)
  rw [e3] at hi
  rw [e1] at hy
  exact hel i hi y hy
theorem r_top (x y : Int32) (e : x = y) (kk : V pc lv (.int y :: st) h kc ks) : V pc lv (.int x :: st) h kc ks := e ▸ kk
end RulesN
theorem maxN {a b : Nat} (ha : a < 2 ^ 31) (hb : b < 2 ^ 31) : (if nI a < nI b then nI b else nI a) = nI (max a b) := by
  rcases Nat.lt_or_ge a b with q | q
  · rw [if_pos (nI_lt q hb), Nat.max_eq_right (by omega)]
  · rw [if_neg (nI_nlt q ha), Nat.max_eq_left q]
theorem minN {a b : Nat} (ha : a < 2 ^ 31) (hb : b < 2 ^ 31) : (if nI b < nI a then nI b else nI a) = nI (min a b) := by
  rcases Nat.lt_or_ge b a with q | q
  · rw [if_pos (nI_lt q ha), Nat.min_eq_right (by omega)]
  · rw [if_neg (nI_nlt q hb), Nat.min_eq_left q]
/-- contracts that only return, only throw -/
def pRet (v : Option Value) (h0 : Hp) : Res → Hp → Prop
  | .inl r, h' => r = v ∧ h0 = h'
  | .inr _, _ => False
def pThr (E0 : String) (h0 : Hp) : Res → Hp → Prop
  | .inl _, _ => False
  | .inr E, h' => E = E0 ∧ h0 = h'
def pRel (P : Option Value → Hp → Prop) : Res → Hp → Prop
  | .inl r, h' => P r h'
  | .inr _, _ => False
theorem pRet_no {v : Option Value} {h0 : Hp} (E : String) (h' : Hp) : ¬ pRet v h0 (.inr E) h' := fun q => q
theorem pRel_no {P : Option Value → Hp → Prop} (E : String) (h' : Hp) : ¬ pRel P (.inr E) h' := fun q => q
theorem ct_weak {g : Gl} {l : Launch} {mi : MI} {d : Nat} {av : List Value} {h : Hp} {mc ms : Nat} {P Q : Res → Hp → Prop} (hM : CT g l mi d av h mc ms P) (hr : ∀ (r : Option Value) (h' : Hp), P (.inl r) h' → Q (.inl r) h') (he : ∀ (E : String) (h' : Hp), P (.inr E) h' → Q (.inr E) h') : CT g l mi d av h mc ms Q := by
  intro p e h1 h2 h3 s m args below h4 h5 h6 h7
  obtain ⟨n, o, a1, a2, a3, a4⟩ := hM p e h1 h2 h3 s m args below h4 h5 h6 h7
  refine ⟨n, o, a1, a2, a3, ?_⟩
  rcases a4 with ⟨⟨⟨r, h', b1, b2, b3⟩, b4⟩, b5⟩ | ⟨q, b1, E, ce, L, ⟨⟨h', b2, b3⟩, b4⟩, b5⟩
  · exact Or.inl ⟨⟨⟨r, h', b1, hr r h' b2, b3⟩, b4⟩, b5⟩
  · exact Or.inr ⟨q, b1, E, ce, L, ⟨⟨h', he E h' b2, b3⟩, b4⟩, b5⟩
/-- a heap grown out of another: old cells stay, but for those in Wr -/
def Fr (Wr : Nat → Prop) (h h' : Hp) : Prop := ∀ (b : Nat) (z : Nat × Nat), xS h b = some z → xS h' b = some z ∧ (¬ Wr b → (∀ i, xF h' i b = xF h i b) ∧ (∀ i, xP h' i b = xP h i b) ∧ xA h' b = xA h b ∧ xB h' b = xB h b ∧ xL h' b = xL h b)
theorem Fr.rf {Wr : Nat → Prop} {h : Hp} : Fr Wr h h := fun _ _ hz => ⟨hz, fun _ => ⟨fun _ => rfl, fun _ => rfl, rfl, rfl, rfl⟩⟩
theorem Fr.tr {Wr : Nat → Prop} {h1 h2 h3 : Hp} (a : Fr Wr h1 h2) (b : Fr Wr h2 h3) : Fr Wr h1 h3 := fun c z hz => by
  obtain ⟨p1, p2⟩ := a c z hz
  obtain ⟨q1, q2⟩ := b c z p1
  refine ⟨q1, fun hw => ?_⟩
  obtain ⟨a1, a2, a3, a4, a5⟩ := p2 hw
  obtain ⟨b1, b2, b3, b4, b5⟩ := q2 hw
  exact ⟨fun i => (b1 i).trans (a1 i), fun i => (b2 i).trans (a2 i), b3.trans a3, b4.trans a4, b5.trans a5⟩
theorem Fr.mono {Wr Wr' : Nat → Prop} {h h' : Hp} (a : Fr Wr h h') (hm : ∀ b, xS h b ≠ none → Wr b → Wr' b) : Fr Wr' h h' := fun c z hz => ⟨(a c z hz).1, fun hw => (a c z hz).2 (fun q => hw (hm c (by rw [hz]; exact fun z => nomatch z) q))⟩
theorem Fr.S {Wr : Nat → Prop} {h h' : Hp} (a : Fr Wr h h') {b : Nat} {z : Nat × Nat} (hz : xS h b = some z) : xS h' b = some z := (a b z hz).1
theorem Fr.F {Wr : Nat → Prop} {h h' : Hp} (a : Fr Wr h h') {b : Nat} {z : Nat × Nat} (hz : xS h b = some z) (hw : ¬ Wr b) (i : Nat) : xF h' i b = xF h i b := ((a b z hz).2 hw).1 i
theorem Fr.P {Wr : Nat → Prop} {h h' : Hp} (a : Fr Wr h h') {b : Nat} {z : Nat × Nat} (hz : xS h b = some z) (hw : ¬ Wr b) (i : Nat) : xP h' i b = xP h i b := ((a b z hz).2 hw).2.1 i
theorem Fr.A {Wr : Nat → Prop} {h h' : Hp} (a : Fr Wr h h') {b : Nat} {z : Nat × Nat} (hz : xS h b = some z) (hw : ¬ Wr b) : xA h' b = xA h b := ((a b z hz).2 hw).2.2.1
theorem Fr.B {Wr : Nat → Prop} {h h' : Hp} (a : Fr Wr h h') {b : Nat} {z : Nat × Nat} (hz : xS h b = some z) (hw : ¬ Wr b) : xB h' b = xB h b := ((a b z hz).2 hw).2.2.2.1
theorem Fr.L {Wr : Nat → Prop} {h h' : Hp} (a : Fr Wr h h') {b : Nat} {z : Nat × Nat} (hz : xS h b = some z) (hw : ¬ Wr b) : xL h' b = xL h b := ((a b z hz).2 hw).2.2.2.2
theorem Fr.yF {Wr : Nat → Prop} {h : Hp} {i a : Nat} {v : Int32} (ha : Wr a) : Fr Wr h (yF h i a v) := fun b z hz => ⟨hz, fun hw => ⟨fun j => u2_n _ _ (fun q => hw (q.2 ▸ ha)), fun _ => rfl, rfl, rfl, rfl⟩⟩
theorem Fr.yP {Wr : Nat → Prop} {h : Hp} {i a : Nat} {v : Option Nat} (ha : Wr a) : Fr Wr h (yP h i a v) := fun b z hz => ⟨hz, fun hw => ⟨fun _ => rfl, fun j => u2_n _ _ (fun q => hw (q.2 ▸ ha)), rfl, rfl, rfl⟩⟩
theorem Fr.yA {Wr : Nat → Prop} {h : Hp} {i a : Nat} {v : Int32} (ha : Wr a) : Fr Wr h (yA h a i v) := fun b z hz => ⟨hz, fun hw => ⟨fun _ => rfl, fun _ => rfl, u2_row _ _ _ (fun q => hw (q ▸ ha)), rfl, rfl⟩⟩
theorem Fr.yB {Wr : Nat → Prop} {h : Hp} {i a : Nat} {v : Option Nat} (ha : Wr a) : Fr Wr h (yB h a i v) := fun b z hz => ⟨hz, fun hw => ⟨fun _ => rfl, fun _ => rfl, rfl, u2_row _ _ _ (fun q => hw (q ▸ ha)), rfl⟩⟩
theorem Fr.yC {Wr : Nat → Prop} {h : Hp} {a : Nat} {v : Nat → Option Nat} (ha : Wr a) : Fr Wr h (yC h a v) := fun b z hz => ⟨hz, fun hw => ⟨fun _ => rfl, fun _ => rfl, rfl, by show u1 _ _ _ b = _; simp only [u1, if_neg (fun q : b = a => hw (q ▸ ha))], rfl⟩⟩
theorem Fr.yL {Wr : Nat → Prop} {h : Hp} {i a : Nat} {v : Int64} (ha : Wr a) : Fr Wr h (yL h a i v) := fun b z hz => ⟨hz, fun hw => ⟨fun _ => rfl, fun _ => rfl, rfl, rfl, u2_row _ _ _ (fun q => hw (q ▸ ha))⟩⟩
theorem yN_S {h : Hp} {q kd n b : Nat} {z : Nat × Nat} (hq : xS h q = none) (hz : xS h b = some z) : xS (yN h q kd n) b = some z := by
  have hb : b ≠ q := fun e => by rw [e, hq] at hz; cases hz
  show va_up _ _ _ b = _
  rw [va_up_ne _ _ hb, hz]
theorem yN_q {h : Hp} {q kd n : Nat} : xS (yN h q kd n) q = some (kd, n) := va_up_self _ _ _
theorem yN_P {h : Hp} {q kd n b i : Nat} {z : Nat × Nat} {v : Option Nat} (hq : xS h q = none) (hz : xS h b = some z) (hv : xP h i b = v) : xP (yN h q kd n) i b = v := by
  have hb : b ≠ q := fun e => by rw [e, hq] at hz; cases hz
  show (if b = q then none else xP h i b) = v
  rw [if_neg hb, hv]
theorem Fr.yN {Wr : Nat → Prop} {h : Hp} {q kd n : Nat} (hq : xS h q = none) : Fr Wr h (yN h q kd n) := fun b z hz => ⟨yN_S hq hz, fun _ => by
  have hb : b ≠ q := fun e => by rw [e, hq] at hz; cases hz
  refine ⟨fun i => ?_, fun i => ?_, ?_, ?_, ?_⟩
  · show (if b = q then 0 else xF h i b) = _; rw [if_neg hb]
  · show (if b = q then none else xP h i b) = _; rw [if_neg hb]
  · funext i; show (if b = q then 0 else xA h b i) = _; rw [if_neg hb]
  · funext i; show (if b = q then none else xB h b i) = _; rw [if_neg hb]
  · funext i; show (if b = q then 0 else xL h b i) = _; rw [if_neg hb]⟩
/-- reading through writes -/
theorem xF_yF (h : Hp) (i a : Nat) (v : Int32) (j b : Nat) : xF (yF h i a v) j b = if j = i ∧ b = a then v else xF h j b := rfl
theorem xP_yP (h : Hp) (i a : Nat) (v : Option Nat) (j b : Nat) : xP (yP h i a v) j b = if j = i ∧ b = a then v else xP h j b := rfl
theorem xA_yA (h : Hp) (a i : Nat) (v : Int32) (b j : Nat) : xA (yA h a i v) b j = if b = a ∧ j = i then v else xA h b j := rfl
theorem xB_yB (h : Hp) (a i : Nat) (v : Option Nat) (b j : Nat) : xB (yB h a i v) b j = if b = a ∧ j = i then v else xB h b j := rfl
theorem yF_self (h : Hp) (i a : Nat) : yF h i a (xF h i a) = h := by
  have : u2 (xF h) i a (xF h i a) = xF h := by
    funext j b
    by_cases q : j = i ∧ b = a
    · rw [q.1, q.2, u2_s]
    · rw [u2_n _ _ q]
  show (xS h, u2 (xF h) i a (xF h i a), xP h, xA h, xB h, xL h) = h
  rw [this]
  rfl
end
section
/-! ===== the lists of the library ===== -/
def IsL (E : Nat) (h : Hp) (L : Nat) (xs : List Nat) : Prop := xS h L = some (7, 0) ∧ xF h 702 L = nI xs.length ∧ xs.length < 1000 ∧ (∀ v ∈ xs, isE h v) ∧ ((xs = [] ∧ xP h 701 L = some E) ∨ ∃ D n : Nat, xP h 701 L = some D ∧ xS h D = some (10, n) ∧ xs.length ≤ n ∧ 2 ≤ n ∧ n < 1000 ∧ ∀ (i v : Nat), xs[i]? = some v → xB h D i = some v)
theorem nI_m1 {n : Nat} (h : 1 ≤ n) : nI n + (-1) = nI (n - 1) := by
  obtain ⟨k, rfl⟩ : ∃ k, n = k + 1 := ⟨n - 1, by omega⟩
  rw [pk_m1, Nat.add_sub_cancel]
theorem isE.fr {Wr : Nat → Prop} {h h' : Hp} {v : Nat} (hf : Fr Wr h h') (hv : isE h v) : isE h' v := by
  obtain ⟨a, b, c, h1, h2, h3⟩ := hv
  exact ⟨a, b, c, hf.S h1, h2, h3⟩
set_option maxRecDepth 100000 in
set_option maxHeartbeats 4000000 in
theorem ct_acInit {g : Gl} {l : Launch} (hfl : l.stackTraces = false) (h : Hp) (L : Nat) : CT g l iJxa1e45_init_da8c8 2 [.ref L] h 0 0 (pRet none h) := by
  refine ct_mk hfl (by decide) (Nat.le_of_ble_eq_true rfl) (by intro v hv; simp only [List.mem_cons, List.not_mem_nil, or_false] at hv; rcases hv with rfl <;> rfl) (fun V X M => ?_)
  have Mm := M.m
  show V 0 [some (.ref L)] [] _ 0 0
  refine r_aload_n Mm dJxa1e45_init_da8c8_0 rfl ?_
  refine r_objInit Mm dJxa1e45_init_da8c8_1 co_Jxa1e45_1 coi coc (Nat.le_of_ble_eq_true rfl) (Nat.le_of_ble_eq_true rfl) ?_
  refine r_vret M dJxa1e45_init_da8c8_4 ?_
  exact ⟨rfl, rfl⟩
set_option maxRecDepth 100000 in
set_option maxHeartbeats 4000000 in
theorem ct_alInit {g : Gl} {l : Launch} (hfl : l.stackTraces = false) (h : Hp) (L : Nat) (hs : xS h L = some (7, 0)) : CT g l iJxc12de_init_da8c8 3 [.ref L] h 0 0 (pRet none (yF h 700 L (nI 0))) := by
  refine ct_mk hfl (by decide) (Nat.le_of_ble_eq_true rfl) (by intro v hv; simp only [List.mem_cons, List.not_mem_nil, or_false] at hv; rcases hv with rfl <;> rfl) (fun V X M => ?_)
  have Mm := M.m
  show V 0 [some (.ref L)] [] _ 0 0
  refine r_aload_n Mm dJxc12de_init_da8c8_0 rfl ?_
  refine r_callI (As := []) Mm dJxc12de_init_da8c8_1 rfl (ct_acInit hfl h L) cw_Jxc12de_1 ⟨Nat.le_of_ble_eq_true rfl, Nat.le_of_ble_eq_true rfl, Nat.le_of_ble_eq_true rfl⟩ (Nat.le_of_ble_eq_true rfl) ⟨Nat.le_of_ble_eq_true rfl, Nat.le_of_ble_eq_true rfl⟩ (fun r1 h2 p3 => ?_) (fun _ _ z => z)
  obtain ⟨rfl, rfl⟩ := p3
  show V 4 _ [] _ _ _
  refine r_aload_n Mm dJxc12de_init_da8c8_4 rfl ?_
  refine r_iconst (v := nI 0) Mm dJxc12de_init_da8c8_5 (by decide) ?_
  refine r_putI (ty := .int) Mm dJxc12de_init_da8c8_6 fi_Jxc12de_7 ki_7 rfl (hs) rfl (i := 700) rfl rfl (by decide +kernel) rfl rfl ?_
  refine r_vret M dJxc12de_init_da8c8_9 ?_
  exact ⟨rfl, rfl⟩
set_option maxRecDepth 100000 in
set_option maxHeartbeats 4000000 in
theorem ct_listInit {g : Gl} {l : Launch} (hfl : l.stackTraces = false) (h : Hp) (L : Nat) (hs : xS h L = some (7, 0)) : CT g l iJx4a65c_init_da8c8 4 [.ref L] h 0 0 (pRet none (yP (yF h 700 L (nI 0)) 701 L (some (gN g 2)))) := by
  refine ct_mk hfl (by decide) (Nat.le_of_ble_eq_true rfl) (by intro v hv; simp only [List.mem_cons, List.not_mem_nil, or_false] at hv; rcases hv with rfl <;> rfl) (fun V X M => ?_)
  have Mm := M.m
  show V 0 [some (.ref L)] [] _ 0 0
  refine r_aload_n Mm dJx4a65c_init_da8c8_0 rfl ?_
  refine r_callI (As := []) Mm dJx4a65c_init_da8c8_1 rfl (ct_alInit hfl h L hs) cw_Jx4a65c_1 ⟨Nat.le_of_ble_eq_true rfl, Nat.le_of_ble_eq_true rfl, Nat.le_of_ble_eq_true rfl⟩ (Nat.le_of_ble_eq_true rfl) ⟨Nat.le_of_ble_eq_true rfl, Nat.le_of_ble_eq_true rfl⟩ (fun r1 h2 p3 => ?_) (fun _ _ z => z)
  obtain ⟨rfl, rfl⟩ := p3
  show V 4 _ [] _ _ _
  refine r_aload_n Mm dJx4a65c_init_da8c8_4 rfl ?_
  refine r_getsD Mm dJx4a65c_init_da8c8_5 fs_Jx4a65c_39 ?_
  refine r_putR (v := some (gN g 2)) (ty := .array (.object "java/lang/Object")) Mm dJx4a65c_init_da8c8_8 fi_Jx4a65c_9 ki_7 rfl (hs) rfl (i := 701) rfl rfl (by decide +kernel) rfl rfl ?_
  refine r_vret M dJx4a65c_init_da8c8_11 ?_
  exact ⟨rfl, rfl⟩
set_option maxRecDepth 100000 in
set_option maxHeartbeats 4000000 in
theorem ct_size {g : Gl} {l : Launch} (hfl : l.stackTraces = false) (h : Hp) (L n : Nat) (hs : xS h L = some (7, 0)) (hn : xF h 702 L = nI n) : CT g l iJx4a65c_size_8abf5 1 [.ref L] h 0 0 (pRet (some (.int (nI n))) h) := by
  refine ct_mk hfl (by decide) (Nat.le_of_ble_eq_true rfl) (by intro v hv; simp only [List.mem_cons, List.not_mem_nil, or_false] at hv; rcases hv with rfl <;> rfl) (fun V X M => ?_)
  have Mm := M.m
  show V 0 [some (.ref L)] [] _ 0 0
  refine r_aload_n Mm dJx4a65c_size_8abf5_0 rfl ?_
  refine r_getI Mm dJx4a65c_size_8abf5_1 fi_Jx4a65c_48 (hs) rfl (i := 702) rfl ?_
  refine r_top _ (nI n) (hn) ?_
  refine r_iret M dJx4a65c_size_8abf5_4 ?_
  exact ⟨rfl, rfl⟩
set_option maxRecDepth 100000 in
set_option maxHeartbeats 4000000 in
theorem ct_pci {g : Gl} {l : Launch} (hfl : l.stackTraces = false) (h : Hp) (i n : Nat) (hi : i < n) (hn : n < 2 ^ 31) : CT g l iJ3_checkIndex_8e157 1 [.int (nI i), .int (nI n), .null] h 0 0 (pRet (some (.int (nI i))) h) := by
  refine ct_mk hfl (by decide) (Nat.le_of_ble_eq_true rfl) (by intro v hv; simp only [List.mem_cons, List.not_mem_nil, or_false] at hv; rcases hv with rfl | rfl | rfl <;> rfl) (fun V X M => ?_)
  have Mm := M.m
  show V 0 [some (.int (nI i)), some (.int (nI n)), some (.null)] [] _ 0 0
  refine r_iload_n Mm dJ3_checkIndex_8e157_0 rfl ?_
  refine r_if_lt (tgt := 9) Mm dJ3_checkIndex_8e157_1 (by decide) (fun c1 => absurd c1 (nI_pos (by omega))) (fun _ => ?_)
  refine r_iload_n Mm dJ3_checkIndex_8e157_4 rfl ?_
  refine r_iload_n Mm dJ3_checkIndex_8e157_5 rfl ?_
  refine r_icmp_ltN (tgt := 16) Mm dJ3_checkIndex_8e157_6 (by decide) (by omega) (by omega) (fun c2 => ?_) (fun c2 => ?_)
  · refine r_iload_n Mm dJ3_checkIndex_8e157_16 rfl ?_
    refine r_iret M dJ3_checkIndex_8e157_17 ?_
    exact ⟨rfl, rfl⟩
  · exact absurd c2 (by omega)
set_option maxRecDepth 100000 in
set_option maxHeartbeats 4000000 in
theorem ct_oci {g : Gl} {l : Launch} (hfl : l.stackTraces = false) (h : Hp) (i n : Nat) (hi : i < n) (hn : n < 2 ^ 31) : CT g l iJ15_checkIndex_7cf53 2 [.int (nI i), .int (nI n)] h 0 0 (pRet (some (.int (nI i))) h) := by
  refine ct_mk hfl (by decide) (Nat.le_of_ble_eq_true rfl) (by intro v hv; simp only [List.mem_cons, List.not_mem_nil, or_false] at hv; rcases hv with rfl | rfl <;> rfl) (fun V X M => ?_)
  have Mm := M.m
  show V 0 [some (.int (nI i)), some (.int (nI n))] [] _ 0 0
  refine r_iload_n Mm dJ15_checkIndex_7cf53_0 rfl ?_
  refine r_iload_n Mm dJ15_checkIndex_7cf53_1 rfl ?_
  refine r_null Mm dJ15_checkIndex_7cf53_2 ?_
  refine r_callS (As := [(.int (nI i)), (.int (nI n)), .null]) Mm dJ15_checkIndex_7cf53_3 rfl (ct_pci hfl h i n hi hn) cw_J15_105 ⟨Nat.le_of_ble_eq_true rfl, Nat.le_of_ble_eq_true rfl, Nat.le_of_ble_eq_true rfl⟩ (Nat.le_of_ble_eq_true rfl) ⟨Nat.le_of_ble_eq_true rfl, Nat.le_of_ble_eq_true rfl⟩ (fun r1 h2 p3 => ?_) (fun Er1 h2 p3 => False.elim p3)
  obtain ⟨rfl, rfl⟩ := p3
  show V 6 _ [(.int (nI i))] _ _ _
  refine r_iret M dJ15_checkIndex_7cf53_6 ?_
  exact ⟨rfl, rfl⟩
set_option maxRecDepth 100000 in
set_option maxHeartbeats 4000000 in
theorem ct_elementData {g : Gl} {l : Launch} (hfl : l.stackTraces = false) (h : Hp) (L D n i v : Nat) (hs : xS h L = some (7, 0)) (hD : xP h 701 L = some D) (hd : xS h D = some (10, n)) (hi : i < n) (hn : n < 2 ^ 31) (hv : xB h D i = some v) : CT g l iJx4a65c_elementData_915e3 1 [.ref L, .int (nI i)] h 0 0 (pRet (some (.ref v)) h) := by
  refine ct_mk hfl (by decide) (Nat.le_of_ble_eq_true rfl) (by intro v hv; simp only [List.mem_cons, List.not_mem_nil, or_false] at hv; rcases hv with rfl | rfl <;> rfl) (fun V X M => ?_)
  have Mm := M.m
  show V 0 [some (.ref L), some (.int (nI i))] [] _ 0 0
  refine r_aload_n Mm dJx4a65c_elementData_915e3_0 rfl ?_
  refine r_getR Mm dJx4a65c_elementData_915e3_1 fi_Jx4a65c_9 (hs) rfl (i := 701) rfl (hD) ?_
  refine r_iload_n Mm dJx4a65c_elementData_915e3_4 rfl ?_
  refine r_aaldN Mm dJx4a65c_elementData_915e3_5 (hd) (by omega) (by omega) (hv) ?_
  refine r_aret M dJx4a65c_elementData_915e3_6 (Or.inl ⟨_, rfl⟩) ?_
  exact ⟨rfl, rfl⟩
set_option maxRecDepth 100000 in
set_option maxHeartbeats 4000000 in
theorem ct_get0 {g : Gl} {l : Launch} (hfl : l.stackTraces = false) (h : Hp) (L D n i v : Nat) (hs : xS h L = some (7, 0)) (hD : xP h 701 L = some D) (hd : xS h D = some (10, n)) (k : Nat) (hk : xF h 702 L = nI k) (hik : i < k) (hkn : k ≤ n) (hn : n < 2 ^ 31) (hv : xB h D i = some v) : CT g l iJx4a65c_get_915e3 3 [.ref L, .int (nI i)] h 0 0 (pRet (some (.ref v)) h) := by
  refine ct_mk hfl (by decide) (Nat.le_of_ble_eq_true rfl) (by intro v hv; simp only [List.mem_cons, List.not_mem_nil, or_false] at hv; rcases hv with rfl | rfl <;> rfl) (fun V X M => ?_)
  have Mm := M.m
  show V 0 [some (.ref L), some (.int (nI i))] [] _ 0 0
  refine r_iload_n Mm dJx4a65c_get_915e3_0 rfl ?_
  refine r_aload_n Mm dJx4a65c_get_915e3_1 rfl ?_
  refine r_getI Mm dJx4a65c_get_915e3_2 fi_Jx4a65c_48 (hs) rfl (i := 702) rfl ?_
  refine r_top _ (nI k) (hk) ?_
  refine r_callS (As := [(.int (nI i)), (.int (nI k))]) Mm dJx4a65c_get_915e3_5 rfl (ct_oci hfl h i k hik (by omega)) cw_Jx4a65c_118 ⟨Nat.le_of_ble_eq_true rfl, Nat.le_of_ble_eq_true rfl, Nat.le_of_ble_eq_true rfl⟩ (Nat.le_of_ble_eq_true rfl) ⟨Nat.le_of_ble_eq_true rfl, Nat.le_of_ble_eq_true rfl⟩ (fun r1 h2 p3 => ?_) (fun Er1 h2 p3 => False.elim p3)
  obtain ⟨rfl, rfl⟩ := p3
  show V 8 _ [(.int (nI i))] _ _ _
  refine r_pop Mm dJx4a65c_get_915e3_8 rfl ?_
  refine r_aload_n Mm dJx4a65c_get_915e3_9 rfl ?_
  refine r_iload_n Mm dJx4a65c_get_915e3_10 rfl ?_
  refine r_callV (As := [(.int (nI i))]) Mm dJx4a65c_get_915e3_11 rfl (ct_elementData hfl h L D n i v hs hD hd (by omega) hn hv) (hs) rfl cw_Jx4a65c_123 ⟨Nat.le_of_ble_eq_true rfl, Nat.le_of_ble_eq_true rfl, Nat.le_of_ble_eq_true rfl⟩ (Nat.le_of_ble_eq_true rfl) ⟨Nat.le_of_ble_eq_true rfl, Nat.le_of_ble_eq_true rfl⟩ (fun r4 h5 p6 => ?_) (fun Er4 h5 p6 => False.elim p6)
  obtain ⟨rfl, rfl⟩ := p6
  show V 14 _ [(.ref v)] _ _ _
  refine r_aret M dJx4a65c_get_915e3_14 (Or.inl ⟨_, rfl⟩) ?_
  exact ⟨rfl, rfl⟩
set_option maxRecDepth 100000 in
set_option maxHeartbeats 4000000 in
theorem ct_set0 {g : Gl} {l : Launch} (hfl : l.stackTraces = false) (h : Hp) (L D n i v : Nat) (hs : xS h L = some (7, 0)) (hD : xP h 701 L = some D) (hd : xS h D = some (10, n)) (k : Nat) (hk : xF h 702 L = nI k) (hik : i < k) (hkn : k ≤ n) (hn : n < 2 ^ 31) (hv : xB h D i = some v) (x : Nat) (hx : isE h x) : CT g l iJx4a65c_set_bcc79 3 [.ref L, .int (nI i), .ref x] h 0 0 (pRet (some (.ref v)) (yB h D i (some x))) := by
  refine ct_mk hfl (by decide) (Nat.le_of_ble_eq_true rfl) (by intro v hv; simp only [List.mem_cons, List.not_mem_nil, or_false] at hv; rcases hv with rfl | rfl | rfl <;> rfl) (fun V X M => ?_)
  have Mm := M.m
  show V 0 [some (.ref L), some (.int (nI i)), some (.ref x), none] [] _ 0 0
  refine r_iload_n Mm dJx4a65c_set_bcc79_0 rfl ?_
  refine r_aload_n Mm dJx4a65c_set_bcc79_1 rfl ?_
  refine r_getI Mm dJx4a65c_set_bcc79_2 fi_Jx4a65c_48 (hs) rfl (i := 702) rfl ?_
  refine r_top _ (nI k) (hk) ?_
  refine r_callS (As := [(.int (nI i)), (.int (nI k))]) Mm dJx4a65c_set_bcc79_5 rfl (ct_oci hfl h i k hik (by omega)) cw_Jx4a65c_118 ⟨Nat.le_of_ble_eq_true rfl, Nat.le_of_ble_eq_true rfl, Nat.le_of_ble_eq_true rfl⟩ (Nat.le_of_ble_eq_true rfl) ⟨Nat.le_of_ble_eq_true rfl, Nat.le_of_ble_eq_true rfl⟩ (fun r1 h2 p3 => ?_) (fun Er1 h2 p3 => False.elim p3)
  obtain ⟨rfl, rfl⟩ := p3
  show V 8 _ [(.int (nI i))] _ _ _
  refine r_pop Mm dJx4a65c_set_bcc79_8 rfl ?_
  refine r_aload_n Mm dJx4a65c_set_bcc79_9 rfl ?_
  refine r_iload_n Mm dJx4a65c_set_bcc79_10 rfl ?_
  refine r_callV (As := [(.int (nI i))]) Mm dJx4a65c_set_bcc79_11 rfl (ct_elementData hfl h L D n i v hs hD hd (by omega) hn hv) (hs) rfl cw_Jx4a65c_123 ⟨Nat.le_of_ble_eq_true rfl, Nat.le_of_ble_eq_true rfl, Nat.le_of_ble_eq_true rfl⟩ (Nat.le_of_ble_eq_true rfl) ⟨Nat.le_of_ble_eq_true rfl, Nat.le_of_ble_eq_true rfl⟩ (fun r4 h5 p6 => ?_) (fun Er4 h5 p6 => False.elim p6)
  obtain ⟨rfl, rfl⟩ := p6
  show V 14 _ [(.ref v)] _ _ _
  refine r_astore_n Mm dJx4a65c_set_bcc79_14 (by decide) ?_
  show V 15 [some (.ref L), some (.int (nI i)), some (.ref x), some (.ref v)] _ _ _ _
  refine r_aload_n Mm dJx4a65c_set_bcc79_15 rfl ?_
  refine r_getR Mm dJx4a65c_set_bcc79_16 fi_Jx4a65c_9 (hs) rfl (i := 701) rfl (hD) ?_
  refine r_iload_n Mm dJx4a65c_set_bcc79_19 rfl ?_
  refine r_aload_n Mm dJx4a65c_set_bcc79_20 rfl ?_
  refine r_aastE Mm dJx4a65c_set_bcc79_21 (hd) (by omega) (by omega) (hx) ?_
  refine r_aload_n Mm dJx4a65c_set_bcc79_22 rfl ?_
  refine r_aret M dJx4a65c_set_bcc79_23 (Or.inl ⟨_, rfl⟩) ?_
  exact ⟨rfl, rfl⟩
set_option maxRecDepth 100000 in
set_option maxHeartbeats 4000000 in
theorem ct_newLength {g : Gl} {l : Launch} (hfl : l.stackTraces = false) (h : Hp) (a b k : Nat) (ha : a < 2000) (hb : b < 2000) (hk : k < 2000) (hp : 0 < a + max b k) : CT g l iJ8_newLength_cabcc 2 [.int (nI a), .int (nI b), .int (nI k)] h 0 0 (pRet (some (.int (nI (a + max b k)))) h) := by
  refine ct_mk hfl (by decide) (Nat.le_of_ble_eq_true rfl) (by intro v hv; simp only [List.mem_cons, List.not_mem_nil, or_false] at hv; rcases hv with rfl | rfl | rfl <;> rfl) (fun V X M => ?_)
  have Mm := M.m
  show V 0 [some (.int (nI a)), some (.int (nI b)), some (.int (nI k)), none] [] _ 0 0
  refine r_iload_n Mm dJ8_newLength_cabcc_0 rfl ?_
  refine r_iload_n Mm dJ8_newLength_cabcc_1 rfl ?_
  refine r_iload_n Mm dJ8_newLength_cabcc_2 rfl ?_
  refine r_max Mm dJ8_newLength_cabcc_3 cm_J8_194 cms_max cmi cmc_max (Nat.le_of_ble_eq_true rfl) (Nat.le_of_ble_eq_true rfl) ?_
  refine r_top _ (nI (max b k)) (maxN (by omega) (by omega)) ?_
  refine r_iaddN Mm dJ8_newLength_cabcc_6 ?_
  refine r_istore_n Mm dJ8_newLength_cabcc_7 (by decide) ?_
  show V 8 [some (.int (nI a)), some (.int (nI b)), some (.int (nI k)), some (.int (nI (a + (max b k))))] _ _ _ _
  refine r_iconst (v := nI 0) Mm dJ8_newLength_cabcc_8 (by decide) ?_
  refine r_iload_n Mm dJ8_newLength_cabcc_9 rfl ?_
  refine r_icmp_geN (tgt := 21) Mm dJ8_newLength_cabcc_10 (by decide) (by omega) (by omega) (fun c1 => ?_) (fun c1 => ?_)
  · exact absurd c1 (by omega)
  · refine r_iload_n Mm dJ8_newLength_cabcc_13 rfl ?_
    refine r_ldc (v := nI 2147483639) Mm dJ8_newLength_cabcc_14 (by rw [show nI 2147483639 = 2147483639 from rfl]; exact cc_J8_200) ?_
    refine r_icmp_gtN (tgt := 21) Mm dJ8_newLength_cabcc_16 (by decide) (by omega) (by omega) (fun c2 => ?_) (fun c2 => ?_)
    · exact absurd c2 (by omega)
    · refine r_iload_n Mm dJ8_newLength_cabcc_19 rfl ?_
      refine r_iret M dJ8_newLength_cabcc_20 ?_
      exact ⟨rfl, rfl⟩
set_option maxRecDepth 100000 in
set_option maxHeartbeats 4000000 in
theorem ct_copyOf3 {g : Gl} {l : Launch} (hfl : l.stackTraces = false) (h : Hp) (D n m : Nat) (hd : xS h D = some (10, n)) (hnm : n ≤ m) (hm : m < 100000) (hel : ∀ i : Nat, i < n → ∀ y : Nat, xB h D i = some y → isE h y) : CT g l iJ7_copyOf_6403c 2 [.ref D, .int (nI m), .ref (gN g 3)] h 1 m (pRel (fun r h' => ∃ q : Nat, xS h q = none ∧ r = some (.ref q) ∧ h' = (yC (yN h q 10 m) q (va_cpy (xB (yN h q 10 m) D) (xB (yN h q 10 m) q) 0 0 n)))) := by
  refine ct_mk hfl (by decide) (Nat.le_of_ble_eq_true rfl) (by intro v hv; simp only [List.mem_cons, List.not_mem_nil, or_false] at hv; rcases hv with rfl | rfl | rfl <;> rfl) (fun V X M => ?_)
  have Mm := M.m
  show V 0 [some (.ref D), some (.int (nI m)), some (.ref (gN g 3)), none] [] _ 0 0
  refine r_aload_n Mm dJ7_copyOf_6403c_0 rfl ?_
  refine r_ldcM Mm dJ7_copyOf_6403c_1 cl_J7_110 ?_
  refine r_acmp_ne (tgt := 13) Mm dJ7_copyOf_6403c_3 (by decide) (fun c1 => ?_) (fun c1 => ?_)
  · exact absurd rfl c1
  · refine r_iload_n Mm dJ7_copyOf_6403c_6 rfl ?_
    refine r_newO (N := m) Mm dJ7_copyOf_6403c_7 cl_J7_2 (nI_pos (by omega)) (nI_clamp (by omega)) (by omega) ⟨(by first | exact Nat.le_of_ble_eq_true rfl | (show 0 + m ≤ m; omega)), (by first | exact Nat.le_of_ble_eq_true rfl | (show 0 + m ≤ m; omega))⟩ (fun q2 hq2 => ?_)
    refine r_goto (tgt := 24) Mm dJ7_copyOf_6403c_10 (by decide) ?_
    refine r_astore_n Mm dJ7_copyOf_6403c_24 (by decide) ?_
    show V 25 [some (.ref D), some (.int (nI m)), some (.ref (gN g 3)), some (.ref q2)] _ _ _ _
    refine r_aload_n Mm dJ7_copyOf_6403c_25 rfl ?_
    refine r_iconst (v := nI 0) Mm dJ7_copyOf_6403c_26 (by decide) ?_
    refine r_aload_n Mm dJ7_copyOf_6403c_27 rfl ?_
    refine r_iconst (v := nI 0) Mm dJ7_copyOf_6403c_28 (by decide) ?_
    refine r_aload_n Mm dJ7_copyOf_6403c_29 rfl ?_
    refine r_alenO Mm dJ7_copyOf_6403c_30 (yN_S hq2 (hd)) ?_
    refine r_iload_n Mm dJ7_copyOf_6403c_31 rfl ?_
    refine r_min Mm dJ7_copyOf_6403c_32 cm_J7_304 cms_min cmi cmc_min (Nat.le_of_ble_eq_true rfl) (Nat.le_of_ble_eq_true rfl) ?_
    refine r_top _ (nI n) (if_neg (nI_nlt hnm (by omega))) ?_
    refine r_copyN (sp := 0) (dp := 0) (n := n) Mm dJ7_copyOf_6403c_35 (yN_S hq2 (hd)) (yN_q) cy_J7_150 cyn cys cyi ⟨by omega, by omega⟩ (by omega) (by omega) (Nat.le_of_ble_eq_true rfl) (Nat.le_of_ble_eq_true rfl) ?_ ?_
    · intro i hi y hy
      rw [Nat.zero_add] at hy
      have hne : D ≠ q2 := fun e => by rw [e, hq2] at hd; cases hd
      have hy2 : xB h D i = some y := by rw [← hy]; show _ = (if D = q2 then none else xB h D i); rw [if_neg hne]
      exact isE.fr (Wr := fun _ => False) (Fr.yN hq2) (hel i hi y hy2)
    refine r_aload_n Mm dJ7_copyOf_6403c_38 rfl ?_
    refine r_aret M dJ7_copyOf_6403c_39 (Or.inr ⟨_, rfl⟩) ?_
    exact ⟨q2, hq2, rfl, rfl⟩
set_option maxRecDepth 100000 in
set_option maxHeartbeats 4000000 in
theorem ct_copyOf2 {g : Gl} {l : Launch} (hfl : l.stackTraces = false) (h : Hp) (D n m : Nat) (hd : xS h D = some (10, n)) (hnm : n ≤ m) (hm : m < 100000) (hel : ∀ i : Nat, i < n → ∀ y : Nat, xB h D i = some y → isE h y) : CT g l iJ7_copyOf_1904c 3 [.ref D, .int (nI m)] h 1 m (pRel (fun r h' => ∃ q : Nat, xS h q = none ∧ r = some (.ref q) ∧ h' = (yC (yN h q 10 m) q (va_cpy (xB (yN h q 10 m) D) (xB (yN h q 10 m) q) 0 0 n)))) := by
  refine ct_mk hfl (by decide) (Nat.le_of_ble_eq_true rfl) (by intro v hv; simp only [List.mem_cons, List.not_mem_nil, or_false] at hv; rcases hv with rfl | rfl <;> rfl) (fun V X M => ?_)
  have Mm := M.m
  show V 0 [some (.ref D), some (.int (nI m))] [] _ 0 0
  refine r_aload_n Mm dJ7_copyOf_1904c_0 rfl ?_
  refine r_iload_n Mm dJ7_copyOf_1904c_1 rfl ?_
  refine r_aload_n Mm dJ7_copyOf_1904c_2 rfl ?_
  refine r_getC Mm dJ7_copyOf_1904c_3 (hd) cg_J7_86 cgs cgi cgn (Nat.le_of_ble_eq_true rfl) (Nat.le_of_ble_eq_true rfl) ?_
  refine r_callS (As := [(.ref D), (.int (nI m)), (.ref (gN g 3))]) Mm dJ7_copyOf_1904c_6 rfl (ct_copyOf3 hfl h D n m hd hnm hm hel) cw_J7_300 ⟨Nat.le_of_ble_eq_true rfl, Nat.le_of_ble_eq_true rfl, Nat.le_of_ble_eq_true rfl⟩ (Nat.le_of_ble_eq_true rfl) ⟨(by first | exact Nat.le_of_ble_eq_true rfl | (show 0 + m ≤ m; omega)), (by first | exact Nat.le_of_ble_eq_true rfl | (show 0 + m ≤ m; omega))⟩ (fun r1 h2 p3 => ?_) (fun Er1 h2 p3 => False.elim p3)
  obtain ⟨q, hq, rfl, rfl⟩ := p3
  show V 9 _ [(.ref q)] _ _ _
  refine r_aret M dJ7_copyOf_1904c_9 (Or.inr ⟨_, rfl⟩) ?_
  exact ⟨q, hq, rfl, rfl⟩
set_option maxRecDepth 100000 in
set_option maxHeartbeats 4000000 in
theorem ct_growE {g : Gl} {l : Launch} (hfl : l.stackTraces = false) (h : Hp) (L k : Nat) (hs : xS h L = some (7, 0)) (hE : xP h 701 L = some (gN g 2)) (hk : k ≤ 10) : CT g l iJx4a65c_grow_92f84 4 [.ref L, .int (nI k)] h 1 10 (pRel (fun r h' => ∃ q : Nat, xS h q = none ∧ r = some (.ref q) ∧ h' = yP (yN h q 10 10) 701 L (some q))) := by
  refine ct_mk hfl (by decide) (Nat.le_of_ble_eq_true rfl) (by intro v hv; simp only [List.mem_cons, List.not_mem_nil, or_false] at hv; rcases hv with rfl | rfl <;> rfl) (fun V X M => ?_)
  have Mm := M.m
  show V 0 [some (.ref L), some (.int (nI k)), none, none] [] _ 0 0
  refine r_aload_n Mm dJx4a65c_grow_92f84_0 rfl ?_
  refine r_getR Mm dJx4a65c_grow_92f84_1 fi_Jx4a65c_9 (hs) rfl (i := 701) rfl (hE) ?_
  refine r_alenD Mm dJx4a65c_grow_92f84_4 ?_
  refine r_istore_n Mm dJx4a65c_grow_92f84_5 (by decide) ?_
  show V 6 [some (.ref L), some (.int (nI k)), some (.int (nI 0)), none] _ _ _ _
  refine r_iload_n Mm dJx4a65c_grow_92f84_6 rfl ?_
  refine r_if_gt (tgt := 20) Mm dJx4a65c_grow_92f84_7 (by decide) (fun c1 => absurd c1 (by decide)) (fun _ => ?_)
  refine r_aload_n Mm dJx4a65c_grow_92f84_10 rfl ?_
  refine r_getR Mm dJx4a65c_grow_92f84_11 fi_Jx4a65c_9 (hs) rfl (i := 701) rfl (hE) ?_
  refine r_getsD Mm dJx4a65c_grow_92f84_14 fs_Jx4a65c_39 ?_
  refine r_acmp_eq (tgt := 45) Mm dJx4a65c_grow_92f84_17 (by decide) (fun c2 => ?_) (fun c2 => ?_)
  · refine r_aload_n Mm dJx4a65c_grow_92f84_45 rfl ?_
    refine r_bipush (v := nI 10) Mm dJx4a65c_grow_92f84_46 (by decide) ?_
    refine r_iload_n Mm dJx4a65c_grow_92f84_48 rfl ?_
    refine r_max Mm dJx4a65c_grow_92f84_49 cm_Jx4a65c_79 cms_max cmi cmc_max (Nat.le_of_ble_eq_true rfl) (Nat.le_of_ble_eq_true rfl) ?_
    refine r_top _ (nI 10) (if_neg (nI_nlt hk (by decide))) ?_
    refine r_newO (N := 10) Mm dJx4a65c_grow_92f84_52 cl_Jx4a65c_7 (nI_pos (by omega)) (nI_clamp (by omega)) (by omega) ⟨Nat.le_of_ble_eq_true rfl, Nat.le_of_ble_eq_true rfl⟩ (fun q3 hq3 => ?_)
    refine r_dup_x1 Mm dJx4a65c_grow_92f84_55 rfl rfl ?_
    refine r_putR (v := some q3) (ty := .array (.object "java/lang/Object")) Mm dJx4a65c_grow_92f84_56 fi_Jx4a65c_9 ki_7 rfl (yN_S hq3 (hs)) rfl (i := 701) rfl rfl (by decide +kernel) rfl rfl ?_
    refine r_aret M dJx4a65c_grow_92f84_59 (Or.inr ⟨_, rfl⟩) ?_
    exact ⟨q3, hq3, rfl, rfl⟩
  · exact absurd rfl c2
set_option maxRecDepth 100000 in
set_option maxHeartbeats 4000000 in
theorem ct_growE0 {g : Gl} {l : Launch} (hfl : l.stackTraces = false) (h : Hp) (L k : Nat) (hkk : xF h 702 L = nI k) (hs : xS h L = some (7, 0)) (hE : xP h 701 L = some (gN g 2)) (hk : k + 1 ≤ 10) : CT g l iJx4a65c_grow_d5877 5 [.ref L] h 1 10 (pRel (fun r h' => ∃ q : Nat, xS h q = none ∧ r = some (.ref q) ∧ h' = yP (yN h q 10 10) 701 L (some q))) := by
  refine ct_mk hfl (by decide) (Nat.le_of_ble_eq_true rfl) (by intro v hv; simp only [List.mem_cons, List.not_mem_nil, or_false] at hv; rcases hv with rfl <;> rfl) (fun V X M => ?_)
  have Mm := M.m
  show V 0 [some (.ref L)] [] _ 0 0
  refine r_aload_n Mm dJx4a65c_grow_d5877_0 rfl ?_
  refine r_aload_n Mm dJx4a65c_grow_d5877_1 rfl ?_
  refine r_getI Mm dJx4a65c_grow_d5877_2 fi_Jx4a65c_48 (hs) rfl (i := 702) rfl ?_
  refine r_top _ (nI k) (hkk) ?_
  refine r_iconst (v := nI 1) Mm dJx4a65c_grow_d5877_5 (by decide) ?_
  refine r_iaddN Mm dJx4a65c_grow_d5877_6 ?_
  refine r_callV (As := [(.int (nI (k + 1)))]) Mm dJx4a65c_grow_d5877_7 rfl (ct_growE hfl h L (k + 1) hs hE hk) (hs) rfl cw_Jx4a65c_69 ⟨Nat.le_of_ble_eq_true rfl, Nat.le_of_ble_eq_true rfl, Nat.le_of_ble_eq_true rfl⟩ (Nat.le_of_ble_eq_true rfl) ⟨Nat.le_of_ble_eq_true rfl, Nat.le_of_ble_eq_true rfl⟩ (fun r1 h2 p3 => ?_) (fun Er1 h2 p3 => False.elim p3)
  obtain ⟨q, hq, rfl, rfl⟩ := p3
  show V 10 _ [(.ref q)] _ _ _
  refine r_aret M dJx4a65c_grow_d5877_10 (Or.inr ⟨_, rfl⟩) ?_
  exact ⟨q, hq, rfl, rfl⟩
set_option maxRecDepth 100000 in
set_option maxHeartbeats 4000000 in
theorem ct_growN {g : Gl} {l : Launch} (hfl : l.stackTraces = false) (h : Hp) (L D n : Nat) (hs : xS h L = some (7, 0)) (hD : xP h 701 L = some D) (hd : xS h D = some (10, n)) (h2 : 2 ≤ n) (hn : n < 1000) (hel : ∀ i : Nat, i < n → ∀ y : Nat, xB h D i = some y → isE h y) : CT g l iJx4a65c_grow_92f84 4 [.ref L, .int (nI (n + 1))] h 1 (n + n / 2) (pRel (fun r h' => ∃ q : Nat, xS h q = none ∧ r = some (.ref q) ∧ h' = yP (yC (yN h q 10 (n + n / 2)) q (va_cpy (xB (yN h q 10 (n + n / 2)) D) (xB (yN h q 10 (n + n / 2)) q) 0 0 n)) 701 L (some q))) := by
  refine ct_mk hfl (by decide) (Nat.le_of_ble_eq_true rfl) (by intro v hv; simp only [List.mem_cons, List.not_mem_nil, or_false] at hv; rcases hv with rfl | rfl <;> rfl) (fun V X M => ?_)
  have Mm := M.m
  show V 0 [some (.ref L), some (.int (nI (n + 1))), none, none] [] _ 0 0
  refine r_aload_n Mm dJx4a65c_grow_92f84_0 rfl ?_
  refine r_getR Mm dJx4a65c_grow_92f84_1 fi_Jx4a65c_9 (hs) rfl (i := 701) rfl (hD) ?_
  refine r_alenO Mm dJx4a65c_grow_92f84_4 (hd) ?_
  refine r_istore_n Mm dJx4a65c_grow_92f84_5 (by decide) ?_
  show V 6 [some (.ref L), some (.int (nI (n + 1))), some (.int (nI n)), none] _ _ _ _
  refine r_iload_n Mm dJx4a65c_grow_92f84_6 rfl ?_
  refine r_if_gtN (tgt := 20) Mm dJx4a65c_grow_92f84_7 (by decide) (by omega) (fun c1 => ?_) (fun c1 => ?_)
  · refine r_iload_n Mm dJx4a65c_grow_92f84_20 rfl ?_
    refine r_iload_n Mm dJx4a65c_grow_92f84_21 rfl ?_
    refine r_iload_n Mm dJx4a65c_grow_92f84_22 rfl ?_
    refine r_isubN Mm dJx4a65c_grow_92f84_23 (by omega) ?_
    refine r_top _ (nI 1) (by congr 1; omega) ?_
    refine r_iload_n Mm dJx4a65c_grow_92f84_24 rfl ?_
    refine r_iconst (v := nI 1) Mm dJx4a65c_grow_92f84_25 (by decide) ?_
    refine r_ishr Mm dJx4a65c_grow_92f84_26 ?_
    refine r_top _ (nI (n / 2)) (by have k := pk_shrN (n := n) (by omega) (nI 1 &&& 31) 1 (by decide); rw [Nat.pow_one] at k; exact k) ?_
    refine r_callS (As := [(.int (nI n)), (.int (nI 1)), (.int (nI (n / 2)))]) Mm dJx4a65c_grow_92f84_27 rfl (ct_newLength hfl h n 1 (n / 2) (by omega) (by omega) (by omega) (by omega)) cw_Jx4a65c_73 ⟨Nat.le_of_ble_eq_true rfl, Nat.le_of_ble_eq_true rfl, Nat.le_of_ble_eq_true rfl⟩ (Nat.le_of_ble_eq_true rfl) ⟨(by first | exact Nat.le_of_ble_eq_true rfl | (show 0 + (n + n / 2) ≤ (n + n / 2); omega) | (show 0 + 0 + (n + n / 2) ≤ (n + n / 2); omega) | (show 0 + 0 + 0 ≤ (n + n / 2); omega) | (show 0 + 0 ≤ (n + n / 2); omega)), (by first | exact Nat.le_of_ble_eq_true rfl | (show 0 + (n + n / 2) ≤ (n + n / 2); omega) | (show 0 + 0 + (n + n / 2) ≤ (n + n / 2); omega) | (show 0 + 0 + 0 ≤ (n + n / 2); omega) | (show 0 + 0 ≤ (n + n / 2); omega))⟩ (fun r2 h3 p4 => ?_) (fun Er2 h3 p4 => False.elim p4)
    obtain ⟨rfl, rfl⟩ := p4
    show V 30 _ [(.int (nI (n + max 1 (n / 2))))] _ _ _
    refine r_top _ (nI (n + n / 2)) (by congr 1; omega) ?_
    refine r_istore_n Mm dJx4a65c_grow_92f84_30 (by decide) ?_
    show V 31 [some (.ref L), some (.int (nI (n + 1))), some (.int (nI n)), some (.int (nI (n + n / 2)))] _ _ _ _
    refine r_aload_n Mm dJx4a65c_grow_92f84_31 rfl ?_
    refine r_aload_n Mm dJx4a65c_grow_92f84_32 rfl ?_
    refine r_getR Mm dJx4a65c_grow_92f84_33 fi_Jx4a65c_9 (hs) rfl (i := 701) rfl (hD) ?_
    refine r_iload_n Mm dJx4a65c_grow_92f84_36 rfl ?_
    refine r_callS (As := [(.ref D), (.int (nI (n + n / 2)))]) Mm dJx4a65c_grow_92f84_37 rfl (ct_copyOf2 hfl h D n (n + n / 2) hd (by omega) (by omega) hel) cw_Jx4a65c_66 ⟨Nat.le_of_ble_eq_true rfl, Nat.le_of_ble_eq_true rfl, Nat.le_of_ble_eq_true rfl⟩ (Nat.le_of_ble_eq_true rfl) ⟨(by first | exact Nat.le_of_ble_eq_true rfl | (show 0 + (n + n / 2) ≤ (n + n / 2); omega) | (show 0 + 0 + (n + n / 2) ≤ (n + n / 2); omega) | (show 0 + 0 + 0 ≤ (n + n / 2); omega) | (show 0 + 0 ≤ (n + n / 2); omega)), (by first | exact Nat.le_of_ble_eq_true rfl | (show 0 + (n + n / 2) ≤ (n + n / 2); omega) | (show 0 + 0 + (n + n / 2) ≤ (n + n / 2); omega) | (show 0 + 0 + 0 ≤ (n + n / 2); omega) | (show 0 + 0 ≤ (n + n / 2); omega))⟩ (fun r5 h6 p7 => ?_) (fun Er5 h6 p7 => False.elim p7)
    obtain ⟨q, hq, rfl, rfl⟩ := p7
    show V 40 _ [(.ref q), (.ref L)] _ _ _
    refine r_dup_x1 Mm dJx4a65c_grow_92f84_40 rfl rfl ?_
    refine r_putR (v := some q) (ty := .array (.object "java/lang/Object")) Mm dJx4a65c_grow_92f84_41 fi_Jx4a65c_9 ki_7 rfl ((Fr.tr (Fr.yN hq) (Fr.yC (Wr := fun b => b = q) rfl)).S hs) rfl (i := 701) rfl rfl (by decide +kernel) rfl rfl ?_
    refine r_aret M dJx4a65c_grow_92f84_44 (Or.inr ⟨_, rfl⟩) ?_
    exact ⟨q, hq, rfl, rfl⟩
  · exact absurd c1 (by omega)
set_option maxRecDepth 100000 in
set_option maxHeartbeats 4000000 in
theorem ct_growN0 {g : Gl} {l : Launch} (hfl : l.stackTraces = false) (h : Hp) (L D n : Nat) (hs : xS h L = some (7, 0)) (hD : xP h 701 L = some D) (hd : xS h D = some (10, n)) (h2 : 2 ≤ n) (hn : n < 1000) (hel : ∀ i : Nat, i < n → ∀ y : Nat, xB h D i = some y → isE h y) (hnn : xF h 702 L = nI n) : CT g l iJx4a65c_grow_d5877 5 [.ref L] h 1 (n + n / 2) (pRel (fun r h' => ∃ q : Nat, xS h q = none ∧ r = some (.ref q) ∧ h' = yP (yC (yN h q 10 (n + n / 2)) q (va_cpy (xB (yN h q 10 (n + n / 2)) D) (xB (yN h q 10 (n + n / 2)) q) 0 0 n)) 701 L (some q))) := by
  refine ct_mk hfl (by decide) (Nat.le_of_ble_eq_true rfl) (by intro v hv; simp only [List.mem_cons, List.not_mem_nil, or_false] at hv; rcases hv with rfl <;> rfl) (fun V X M => ?_)
  have Mm := M.m
  show V 0 [some (.ref L)] [] _ 0 0
  refine r_aload_n Mm dJx4a65c_grow_d5877_0 rfl ?_
  refine r_aload_n Mm dJx4a65c_grow_d5877_1 rfl ?_
  refine r_getI Mm dJx4a65c_grow_d5877_2 fi_Jx4a65c_48 (hs) rfl (i := 702) rfl ?_
  refine r_top _ (nI n) (hnn) ?_
  refine r_iconst (v := nI 1) Mm dJx4a65c_grow_d5877_5 (by decide) ?_
  refine r_iaddN Mm dJx4a65c_grow_d5877_6 ?_
  refine r_callV (As := [(.int (nI (n + 1)))]) Mm dJx4a65c_grow_d5877_7 rfl (ct_growN hfl h L D n hs hD hd h2 hn hel) (hs) rfl cw_Jx4a65c_69 ⟨Nat.le_of_ble_eq_true rfl, Nat.le_of_ble_eq_true rfl, Nat.le_of_ble_eq_true rfl⟩ (Nat.le_of_ble_eq_true rfl) ⟨(by first | exact Nat.le_of_ble_eq_true rfl | (show 0 + (n + n / 2) ≤ (n + n / 2); omega)), (by first | exact Nat.le_of_ble_eq_true rfl | (show 0 + (n + n / 2) ≤ (n + n / 2); omega))⟩ (fun r1 h2 p3 => ?_) (fun Er1 h2 p3 => False.elim p3)
  obtain ⟨q, hq, rfl, rfl⟩ := p3
  show V 10 _ [(.ref q)] _ _ _
  refine r_aret M dJx4a65c_grow_d5877_10 (Or.inr ⟨_, rfl⟩) ?_
  exact ⟨q, hq, rfl, rfl⟩
end
section
/-! ===== the lists of the library: what changes them ===== -/
def LiP (E : Nat) (h : Hp) (L : Nat) (h' : Hp) (xs : List Nat) : Prop := IsL E h' L xs ∧ Fr (fun b => b = L ∨ xP h 701 L = some b) h h' ∧ (xP h' 701 L = xP h 701 L ∨ ∃ q : Nat, xP h' 701 L = some q ∧ xS h q = none)
theorem ne_S {h : Hp} {a b : Nat} {y z : Nat × Nat} (ha : xS h a = some y) (hb : xS h b = some z) (hn : y ≠ z) : a ≠ b := fun e => hn (by rw [e, hb] at ha; exact (Option.some.inj ha).symm)
theorem va_cpy_in {f g : Nat → Option Nat} {sp dp n j : Nat} (h1 : dp ≤ j) (h2 : j < dp + n) : va_cpy f g sp dp n j = f (sp + (j - dp)) := pk_cpy_in h1 h2
theorem va_cpy_out {f g : Nat → Option Nat} {sp dp n j : Nat} (h1 : j < dp ∨ dp + n ≤ j) : va_cpy f g sp dp n j = g j := pk_cpy_out h1
theorem yC_s (h : Hp) (a : Nat) (f : Nat → Option Nat) : xB (yC h a f) a = f := by show u1 _ _ _ a = f; simp [u1]
theorem yN_B {h : Hp} {q kd n b : Nat} {z : Nat × Nat} (hq : xS h q = none) (hz : xS h b = some z) : xB (yN h q kd n) b = xB h b := by
  have hb : b ≠ q := fun e => by rw [e, hq] at hz; cases hz
  funext i
  show (if b = q then none else xB h b i) = _
  rw [if_neg hb]
theorem isE.at {E : Nat} {h : Hp} {L : Nat} {xs : List Nat} (hL : IsL E h L xs) {i v : Nat} (hi : xs[i]? = some v) : isE h v := hL.2.2.2.1 v (List.mem_of_getElem? hi)
/-- an append where room is -/
theorem lp_addB {E : Nat} {h : Hp} {L D n v : Nat} {xs : List Nat} {m : Int32} (hs : xS h L = some (7, 0)) (hxs : ∀ v ∈ xs, isE h v) (hD : xP h 701 L = some D) (hd : xS h D = some (10, n)) (hl : xs.length < n) (h2 : 2 ≤ n) (hn : n < 1000) (hB : ∀ (i v : Nat), xs[i]? = some v → xB h D i = some v) (hv : isE h v) :
    LiP E h L (yF (yB (yF h 700 L m) D xs.length (some v)) 702 L (nI (xs.length + 1))) (xs ++ [v]) := by
  have hf : Fr (fun b => b = L ∨ xP h 701 L = some b) h (yF (yB (yF h 700 L m) D xs.length (some v)) 702 L (nI (xs.length + 1))) := Fr.tr (Fr.tr (Fr.yF (Or.inl rfl)) (Fr.yB (Or.inr hD))) (Fr.yF (Or.inl rfl))
  refine ⟨⟨hs, ?_, by simp; omega, fun w hw => ?_, Or.inr ⟨D, n, hD, hd, by simp; omega, h2, hn, fun i w hi => ?_⟩⟩, hf, Or.inl rfl⟩
  · rw [xF_yF, if_pos ⟨rfl, rfl⟩, List.length_append]; rfl
  · rcases List.mem_append.mp hw with z | z
    · exact (hxs w z).fr hf
    · rw [List.mem_singleton] at z; subst z; exact hv.fr hf
  · show (if D = D ∧ i = xs.length then some v else xB h D i) = some w
    by_cases hi2 : i = xs.length
    · subst hi2; rw [if_pos ⟨rfl, rfl⟩]; simpa using hi
    · rw [if_neg (fun z => hi2 z.2)]
      have hlt : i < (xs ++ [v]).length := (List.getElem?_eq_some_iff.mp hi).1
      rw [List.getElem?_append_left (by simp at hlt; omega)] at hi
      exact hB i w hi
theorem insertIdx_len {xs : List Nat} {i v : Nat} (hi : i ≤ xs.length) : (xs.insertIdx i v).length = xs.length + 1 := by rw [List.length_insertIdx, if_pos hi]
theorem insertIdx_get {xs : List Nat} {i v j : Nat} (hi : i ≤ xs.length) : (xs.insertIdx i v)[j]? = if j < i then xs[j]? else if j = i then some v else xs[j - 1]? := by
  rw [List.getElem?_insertIdx]
  by_cases h1 : j < i
  · simp [h1]
  · rw [if_neg h1, if_neg h1]
    by_cases h2 : j = i
    · simp [h2, hi]
    · simp [h2]
/-- an insertion into a row that has room -/
theorem lp_insB {E : Nat} {h h1 : Hp} {L D n v i : Nat} {xs : List Nat} (W0 : Nat → Prop) (hW : ∀ b, xS h b ≠ none → W0 b → b = L ∨ xP h 701 L = some b) (hfr : Fr W0 h h1) (hs : xS h1 L = some (7, 0)) (hxs : ∀ v ∈ xs, isE h v) (hD : xP h1 701 L = some D) (hDD : xP h 701 L = some D ∨ xS h D = none) (hd : xS h1 D = some (10, n)) (hl : xs.length < n) (h2 : 2 ≤ n) (hn : n < 1000) (hB : ∀ (i v : Nat), xs[i]? = some v → xB h1 D i = some v) (hv : isE h v) (hi : i ≤ xs.length) (hWD : xS h D ≠ none → W0 D) (hWL : W0 L) :
    LiP E h L (yF (yB (yC h1 D (va_cpy (xB h1 D) (xB h1 D) i (i + 1) (xs.length - i))) D i (some v)) 702 L (nI (xs.length + 1))) (xs.insertIdx i v) := by
  have hf1 : Fr (fun b => b = L ∨ b = D) h1 (yF (yB (yC h1 D (va_cpy (xB h1 D) (xB h1 D) i (i + 1) (xs.length - i))) D i (some v)) 702 L (nI (xs.length + 1))) := Fr.tr (Fr.tr (Fr.yC (Or.inr rfl)) (Fr.yB (Or.inr rfl))) (Fr.yF (Or.inl rfl))
  have hf : Fr (fun b => b = L ∨ xP h 701 L = some b) h (yF (yB (yC h1 D (va_cpy (xB h1 D) (xB h1 D) i (i + 1) (xs.length - i))) D i (some v)) 702 L (nI (xs.length + 1))) := by
    intro b z hz
    have a := (hfr.mono hW) b z hz
    have c := hf1 b z a.1
    refine ⟨c.1, fun hw => ?_⟩
    have hb : ¬ (b = L ∨ b = D) := by
      rintro (q | q)
      · exact hw (Or.inl q)
      · subst q
        exact hw (hW b (by rw [hz]; exact fun y => nomatch y) (hWD (by rw [hz]; exact fun y => nomatch y)))
    obtain ⟨a1, a2, a3, a4, a5⟩ := a.2 hw
    obtain ⟨c1, c2, c3, c4, c5⟩ := c.2 hb
    exact ⟨fun i => (c1 i).trans (a1 i), fun i => (c2 i).trans (a2 i), c3.trans a3, c4.trans a4, c5.trans a5⟩
  refine ⟨⟨hs, ?_, by rw [insertIdx_len hi]; omega, fun w hw => ?_, Or.inr ⟨D, n, hD, hd, by rw [insertIdx_len hi]; omega, h2, hn, fun j w hj => ?_⟩⟩, hf, ?_⟩
  · rw [insertIdx_len hi, xF_yF, if_pos ⟨rfl, rfl⟩]
  · rcases (List.mem_insertIdx hi).mp hw with z | z
    · subst z; exact hv.fr hf
    · exact (hxs w z).fr hf
  · show (if D = D ∧ j = i then some v else xB (yC h1 D (va_cpy (xB h1 D) (xB h1 D) i (i + 1) (xs.length - i))) D j) = some w
    rw [insertIdx_get hi] at hj
    rw [yC_s]
    by_cases h3 : j = i
    · subst h3
      rw [if_pos ⟨rfl, rfl⟩]
      simpa using hj
    · rw [if_neg (fun z => h3 z.2)]
      by_cases h4 : j < i
      · rw [if_pos h4] at hj
        rw [va_cpy_out (Or.inl (by omega))]
        exact hB j w hj
      · rw [if_neg h4, if_neg h3] at hj
        have hjl : j - 1 < xs.length := (List.getElem?_eq_some_iff.mp hj).1
        rw [va_cpy_in (by omega) (by omega), show i + (j - (i + 1)) = j - 1 by omega]
        exact hB (j - 1) w hj
  · rcases hDD with z | z
    · exact Or.inl (hD.trans z.symm)
    · exact Or.inr ⟨D, hD, z⟩
/-- a removal -/
theorem lp_rem {E : Nat} {h : Hp} {L D n i : Nat} {xs : List Nat} {m : Int32} (hs : xS h L = some (7, 0)) (hxs : ∀ v ∈ xs, isE h v) (hD : xP h 701 L = some D) (hd : xS h D = some (10, n)) (hl : xs.length ≤ n) (h2 : 2 ≤ n) (hn : n < 1000) (hB : ∀ (i v : Nat), xs[i]? = some v → xB h D i = some v) (hi : i < xs.length) (h1 : Hp) (e1 : h1 = yF h 700 L m ∨ h1 = yC (yF h 700 L m) D (va_cpy (xB (yF h 700 L m) D) (xB (yF h 700 L m) D) (i + 1) i (xs.length - 1 - i))) (e2 : i < xs.length - 1 → h1 = yC (yF h 700 L m) D (va_cpy (xB (yF h 700 L m) D) (xB (yF h 700 L m) D) (i + 1) i (xs.length - 1 - i))) :
    LiP E h L (yB (yF h1 702 L (nI (xs.length - 1))) D (xs.length - 1) none) (xs.eraseIdx i) := by
  have hf0 : Fr (fun b => b = L ∨ xP h 701 L = some b) h h1 ∧ xP h1 701 L = some D := by
    rcases e1 with rfl | rfl
    · exact ⟨Fr.yF (Or.inl rfl), hD⟩
    · exact ⟨Fr.tr (Fr.yF (Or.inl rfl)) (Fr.yC (Or.inr hD)), hD⟩
  have hf : Fr (fun b => b = L ∨ xP h 701 L = some b) h (yB (yF h1 702 L (nI (xs.length - 1))) D (xs.length - 1) none) := Fr.tr hf0.1 (Fr.tr (Fr.yF (Or.inl rfl)) (Fr.yB (Or.inr hD)))
  have hlen : (xs.eraseIdx i).length = xs.length - 1 := List.length_eraseIdx_of_lt hi
  refine ⟨⟨hf.S hs, ?_, by omega, fun w hw => ?_, Or.inr ⟨D, n, hf0.2, hf.S hd, by omega, h2, hn, fun j w hj => ?_⟩⟩, hf, Or.inl (hf0.2.trans hD.symm)⟩
  · show xF (yF h1 702 L (nI (xs.length - 1))) 702 L = _
    rw [xF_yF, if_pos ⟨rfl, rfl⟩, hlen]
  · exact (hxs w (List.mem_of_mem_eraseIdx hw)).fr hf
  · have hj2 : j < xs.length - 1 := by rw [← hlen]; exact (List.getElem?_eq_some_iff.mp hj).1
    rw [List.getElem?_eraseIdx] at hj
    show (if D = D ∧ j = xs.length - 1 then none else xB h1 D j) = some w
    rw [if_neg (fun z => by omega)]
    by_cases h3 : j < i
    · rw [if_pos h3] at hj
      rcases e1 with rfl | rfl
      · exact hB j w hj
      · rw [yC_s, va_cpy_out (Or.inl h3)]; exact hB j w hj
    · rw [if_neg h3] at hj
      rw [e2 (by omega), yC_s, va_cpy_in (by omega) (by omega), show i + 1 + (j - i) = j + 1 by omega]
      exact hB (j + 1) w hj
/-- a new row under a list, the old elements copied -/
theorem grown {h : Hp} {L D n q m : Nat} {mo : Int32} (hs : xS h L = some (7, 0)) (hd : xS h D = some (10, n)) (hq : xS h q = none) (i : Nat) (hi : i < n) : xB (yP (yC (yN (yF h 700 L mo) q 10 m) q (va_cpy (xB (yN (yF h 700 L mo) q 10 m) D) (xB (yN (yF h 700 L mo) q 10 m) q) 0 0 n)) 701 L (some q)) q i = xB h D i := by
  show xB (yC (yN (yF h 700 L mo) q 10 m) q (va_cpy (xB (yN (yF h 700 L mo) q 10 m) D) (xB (yN (yF h 700 L mo) q 10 m) q) 0 0 n)) q i = _
  rw [yC_s, va_cpy_in (Nat.zero_le _) (by omega), yN_B (h := yF h 700 L mo) hq hd]
  show xB h D (0 + (i - 0)) = _
  rw [Nat.zero_add, Nat.sub_zero]
set_option maxRecDepth 100000 in
set_option maxHeartbeats 4000000 in
theorem ct_add3B {g : Gl} {l : Launch} (hfl : l.stackTraces = false) (h : Hp) (L D n k v : Nat) (hs : xS h L = some (7, 0)) (hd : xS h D = some (10, n)) (hk : k < n) (hn : n < 1000) (hv : isE h v) : CT g l iJx4a65c_add_72be8 6 [.ref L, .ref v, .ref D, .int (nI k)] h 0 0 (pRet none (yF (yB h D k (some v)) 702 L (nI (k + 1)))) := by
  refine ct_mk hfl (by decide) (Nat.le_of_ble_eq_true rfl) (by intro v hv; simp only [List.mem_cons, List.not_mem_nil, or_false] at hv; rcases hv with rfl | rfl | rfl | rfl <;> rfl) (fun V X M => ?_)
  have Mm := M.m
  show V 0 [some (.ref L), some (.ref v), some (.ref D), some (.int (nI k))] [] _ 0 0
  refine r_iload_n Mm dJx4a65c_add_72be8_0 rfl ?_
  refine r_aload_n Mm dJx4a65c_add_72be8_1 rfl ?_
  refine r_alenO Mm dJx4a65c_add_72be8_2 (hd) ?_
  refine r_icmp_neN (tgt := 11) Mm dJx4a65c_add_72be8_3 (by decide) (by omega) (by omega) (fun c1 => ?_) (fun c1 => ?_)
  · refine r_aload_n Mm dJx4a65c_add_72be8_11 rfl ?_
    refine r_iload_n Mm dJx4a65c_add_72be8_12 rfl ?_
    refine r_aload_n Mm dJx4a65c_add_72be8_13 rfl ?_
    refine r_aastE Mm dJx4a65c_add_72be8_14 (hd) (by omega) (by omega) (hv) ?_
    refine r_aload_n Mm dJx4a65c_add_72be8_15 rfl ?_
    refine r_iload_n Mm dJx4a65c_add_72be8_16 rfl ?_
    refine r_iconst (v := nI 1) Mm dJx4a65c_add_72be8_17 (by decide) ?_
    refine r_iaddN Mm dJx4a65c_add_72be8_18 ?_
    refine r_putI (ty := .int) Mm dJx4a65c_add_72be8_19 fi_Jx4a65c_48 ki_7 rfl (hs) rfl (i := 702) rfl rfl (by decide +kernel) rfl rfl ?_
    refine r_vret M dJx4a65c_add_72be8_22 ?_
    exact ⟨rfl, rfl⟩
  · exact absurd c1 (by omega)
set_option maxRecDepth 100000 in
set_option maxHeartbeats 4000000 in
theorem ct_add3A {g : Gl} {l : Launch} (hfl : l.stackTraces = false) (h : Hp) (L v : Nat) (hs : xS h L = some (7, 0)) (hE : xP h 701 L = some (gN g 2)) (h0 : xF h 702 L = nI 0) (hv : isE h v) : CT g l iJx4a65c_add_72be8 6 [.ref L, .ref v, .ref (gN g 2), .int (nI 0)] h 1 10 (pRel (fun r h' => ∃ q : Nat, xS h q = none ∧ r = none ∧ h' = yF (yB (yP (yN h q 10 10) 701 L (some q)) q 0 (some v)) 702 L (nI (0 + 1)))) := by
  refine ct_mk hfl (by decide) (Nat.le_of_ble_eq_true rfl) (by intro v hv; simp only [List.mem_cons, List.not_mem_nil, or_false] at hv; rcases hv with rfl | rfl | rfl | rfl <;> rfl) (fun V X M => ?_)
  have Mm := M.m
  show V 0 [some (.ref L), some (.ref v), some (.ref (gN g 2)), some (.int (nI 0))] [] _ 0 0
  refine r_iload_n Mm dJx4a65c_add_72be8_0 rfl ?_
  refine r_aload_n Mm dJx4a65c_add_72be8_1 rfl ?_
  refine r_alenD Mm dJx4a65c_add_72be8_2 ?_
  refine r_icmp_neN (tgt := 11) Mm dJx4a65c_add_72be8_3 (by decide) (by omega) (by omega) (fun c1 => ?_) (fun c1 => ?_)
  · exact absurd c1 (by omega)
  · refine r_aload_n Mm dJx4a65c_add_72be8_6 rfl ?_
    refine r_callV (As := []) Mm dJx4a65c_add_72be8_7 rfl (ct_growE0 hfl h L 0 h0 hs hE (by decide)) (hs) rfl cw_Jx4a65c_129 ⟨Nat.le_of_ble_eq_true rfl, Nat.le_of_ble_eq_true rfl, Nat.le_of_ble_eq_true rfl⟩ (Nat.le_of_ble_eq_true rfl) ⟨Nat.le_of_ble_eq_true rfl, Nat.le_of_ble_eq_true rfl⟩ (fun r2 h3 p4 => ?_) (fun Er2 h3 p4 => False.elim p4)
    obtain ⟨q, hq, rfl, rfl⟩ := p4
    show V 10 _ [(.ref q)] _ _ _
    refine r_astore_n Mm dJx4a65c_add_72be8_10 (by decide) ?_
    show V 11 [some (.ref L), some (.ref v), some (.ref q), some (.int (nI 0))] _ _ _ _
    refine r_aload_n Mm dJx4a65c_add_72be8_11 rfl ?_
    refine r_iload_n Mm dJx4a65c_add_72be8_12 rfl ?_
    refine r_aload_n Mm dJx4a65c_add_72be8_13 rfl ?_
    refine r_aastE Mm dJx4a65c_add_72be8_14 (yN_q) (by omega) (by omega) (isE.fr (Wr := fun _ => True) (Fr.tr (Fr.yN hq) (Fr.yP trivial)) hv) ?_
    refine r_aload_n Mm dJx4a65c_add_72be8_15 rfl ?_
    refine r_iload_n Mm dJx4a65c_add_72be8_16 rfl ?_
    refine r_iconst (v := nI 1) Mm dJx4a65c_add_72be8_17 (by decide) ?_
    refine r_iaddN Mm dJx4a65c_add_72be8_18 ?_
    refine r_putI (ty := .int) Mm dJx4a65c_add_72be8_19 fi_Jx4a65c_48 ki_7 rfl (yN_S hq hs) rfl (i := 702) rfl rfl (by decide +kernel) rfl rfl ?_
    refine r_vret M dJx4a65c_add_72be8_22 ?_
    exact ⟨q, hq, rfl, rfl⟩
set_option maxRecDepth 100000 in
set_option maxHeartbeats 4000000 in
theorem ct_add3C {g : Gl} {l : Launch} (hfl : l.stackTraces = false) (h : Hp) (L D n : Nat) (hs : xS h L = some (7, 0)) (hD : xP h 701 L = some D) (hd : xS h D = some (10, n)) (h2 : 2 ≤ n) (hn : n < 1000) (hel : ∀ i : Nat, i < n → ∀ y : Nat, xB h D i = some y → isE h y) (v : Nat) (hnn : xF h 702 L = nI n) (hv : isE h v) : CT g l iJx4a65c_add_72be8 6 [.ref L, .ref v, .ref D, .int (nI n)] h 1 1500 (pRel (fun r h' => ∃ q : Nat, xS h q = none ∧ r = none ∧ h' = yF (yB (yP (yC (yN h q 10 (n + n / 2)) q (va_cpy (xB (yN h q 10 (n + n / 2)) D) (xB (yN h q 10 (n + n / 2)) q) 0 0 n)) 701 L (some q)) q n (some v)) 702 L (nI (n + 1)))) := by
  refine ct_mk hfl (by decide) (Nat.le_of_ble_eq_true rfl) (by intro v hv; simp only [List.mem_cons, List.not_mem_nil, or_false] at hv; rcases hv with rfl | rfl | rfl | rfl <;> rfl) (fun V X M => ?_)
  have Mm := M.m
  show V 0 [some (.ref L), some (.ref v), some (.ref D), some (.int (nI n))] [] _ 0 0
  refine r_iload_n Mm dJx4a65c_add_72be8_0 rfl ?_
  refine r_aload_n Mm dJx4a65c_add_72be8_1 rfl ?_
  refine r_alenO Mm dJx4a65c_add_72be8_2 (hd) ?_
  refine r_icmp_neN (tgt := 11) Mm dJx4a65c_add_72be8_3 (by decide) (by omega) (by omega) (fun c1 => ?_) (fun c1 => ?_)
  · exact absurd rfl c1
  · refine r_aload_n Mm dJx4a65c_add_72be8_6 rfl ?_
    refine r_callV (As := []) Mm dJx4a65c_add_72be8_7 rfl (ct_growN0 hfl h L D n hs hD hd h2 hn hel hnn) (hs) rfl cw_Jx4a65c_129 ⟨Nat.le_of_ble_eq_true rfl, Nat.le_of_ble_eq_true rfl, Nat.le_of_ble_eq_true rfl⟩ (Nat.le_of_ble_eq_true rfl) ⟨(by first | exact Nat.le_of_ble_eq_true rfl | (show _ ≤ 1500; omega)), (by first | exact Nat.le_of_ble_eq_true rfl | (show _ ≤ 1500; omega))⟩ (fun r2 h3 p4 => ?_) (fun Er2 h3 p4 => False.elim p4)
    obtain ⟨q, hq, rfl, rfl⟩ := p4
    show V 10 _ [(.ref q)] _ _ _
    refine r_astore_n Mm dJx4a65c_add_72be8_10 (by decide) ?_
    show V 11 [some (.ref L), some (.ref v), some (.ref q), some (.int (nI n))] _ _ _ _
    refine r_aload_n Mm dJx4a65c_add_72be8_11 rfl ?_
    refine r_iload_n Mm dJx4a65c_add_72be8_12 rfl ?_
    refine r_aload_n Mm dJx4a65c_add_72be8_13 rfl ?_
    refine r_aastE Mm dJx4a65c_add_72be8_14 (yN_q) (by omega) (by omega) (isE.fr (Wr := fun _ => True) (Fr.tr (Fr.yN hq) (Fr.tr (Fr.yC trivial) (Fr.yP trivial))) hv) ?_
    refine r_aload_n Mm dJx4a65c_add_72be8_15 rfl ?_
    refine r_iload_n Mm dJx4a65c_add_72be8_16 rfl ?_
    refine r_iconst (v := nI 1) Mm dJx4a65c_add_72be8_17 (by decide) ?_
    refine r_iaddN Mm dJx4a65c_add_72be8_18 ?_
    refine r_putI (ty := .int) Mm dJx4a65c_add_72be8_19 fi_Jx4a65c_48 ki_7 rfl (yN_S hq hs) rfl (i := 702) rfl rfl (by decide +kernel) rfl rfl ?_
    refine r_vret M dJx4a65c_add_72be8_22 ?_
    exact ⟨q, hq, rfl, rfl⟩
set_option maxRecDepth 100000 in
set_option maxHeartbeats 4000000 in
theorem ct_addB {g : Gl} {l : Launch} (hfl : l.stackTraces = false) (h : Hp) (L v : Nat) (xs : List Nat) (hL : IsL (gN g 2) h L xs) (hv : isE h v) (D n : Nat) (hD : xP h 701 L = some D) (hd : xS h D = some (10, n)) (hl : xs.length < n) (h2 : 2 ≤ n) (hn : n < 1000) (hB : ∀ (i v : Nat), xs[i]? = some v → xB h D i = some v) : CT g l iJx4a65c_add_9ea2d 7 [.ref L, .ref v] h 1 1500 (pRel (fun r h' => r = some (.int (nI 1)) ∧ LiP (gN g 2) h L h' (xs ++ [v]))) := by
  refine ct_mk hfl (by decide) (Nat.le_of_ble_eq_true rfl) (by intro v hv; simp only [List.mem_cons, List.not_mem_nil, or_false] at hv; rcases hv with rfl | rfl <;> rfl) (fun V X M => ?_)
  have Mm := M.m
  show V 0 [some (.ref L), some (.ref v)] [] _ 0 0
  refine r_aload_n Mm dJx4a65c_add_9ea2d_0 rfl ?_
  refine r_dup Mm dJx4a65c_add_9ea2d_1 rfl ?_
  refine r_getI Mm dJx4a65c_add_9ea2d_2 fi_Jx4a65c_63 (hL.1) rfl (i := 700) rfl ?_
  refine r_iconst (v := nI 1) Mm dJx4a65c_add_9ea2d_5 (by decide) ?_
  refine r_iadd Mm dJx4a65c_add_9ea2d_6 ?_
  refine r_putI (ty := .int) Mm dJx4a65c_add_9ea2d_7 fi_Jx4a65c_63 ki_7 rfl (hL.1) rfl (i := 700) rfl rfl (by decide +kernel) rfl rfl ?_
  refine r_aload_n Mm dJx4a65c_add_9ea2d_10 rfl ?_
  refine r_aload_n Mm dJx4a65c_add_9ea2d_11 rfl ?_
  refine r_aload_n Mm dJx4a65c_add_9ea2d_12 rfl ?_
  refine r_getR Mm dJx4a65c_add_9ea2d_13 fi_Jx4a65c_9 (hL.1) rfl (i := 701) rfl (hD) ?_
  refine r_aload_n Mm dJx4a65c_add_9ea2d_16 rfl ?_
  refine r_getI Mm dJx4a65c_add_9ea2d_17 fi_Jx4a65c_48 (hL.1) rfl (i := 702) rfl ?_
  refine r_top _ (nI (xs.length)) (hL.2.1) ?_
  refine r_callV (As := [(.ref v), (.ref D), (.int (nI (xs.length)))]) Mm dJx4a65c_add_9ea2d_20 rfl (ct_add3B hfl (yF h 700 L (xF h 700 L + nI 1)) L D n xs.length v hL.1 hd hl hn hv) (hL.1) rfl cw_Jx4a65c_131 ⟨Nat.le_of_ble_eq_true rfl, Nat.le_of_ble_eq_true rfl, Nat.le_of_ble_eq_true rfl⟩ (Nat.le_of_ble_eq_true rfl) ⟨Nat.le_of_ble_eq_true rfl, Nat.le_of_ble_eq_true rfl⟩ (fun r1 h2 p3 => ?_) (fun Er1 h2 p3 => False.elim p3)
  obtain ⟨rfl, rfl⟩ := p3
  show V 23 _ [] _ _ _
  refine r_iconst (v := nI 1) Mm dJx4a65c_add_9ea2d_23 (by decide) ?_
  refine r_zret M dJx4a65c_add_9ea2d_24 (by decide) ?_
  exact ⟨rfl, lp_addB hL.1 hL.2.2.2.1 hD hd hl h2 hn hB hv⟩
theorem lp_addA {h : Hp} {L E q v : Nat} {mo : Int32} (hs : xS h L = some (7, 0)) (hq : xS h q = none) (hv : isE h v) : LiP E h L (yF (yB (yP (yN (yF h 700 L mo) q 10 10) 701 L (some q)) q 0 (some v)) 702 L (nI (0 + 1))) ([] ++ [v]) := by
  have hf : Fr (fun b => b = L ∨ xP h 701 L = some b) h (yF (yB (yP (yN (yF h 700 L mo) q 10 10) 701 L (some q)) q 0 (some v)) 702 L (nI (0 + 1))) := by
    have h1 : Fr (fun b => b = L) h (yP (yN (yF h 700 L mo) q 10 10) 701 L (some q)) := Fr.tr (Fr.tr (Fr.yF rfl) (Fr.yN (h := yF h 700 L mo) hq)) (Fr.yP rfl)
    intro b z hz
    have hb : b ≠ q := fun e => by rw [e, hq] at hz; cases hz
    obtain ⟨a1, a2⟩ := h1 b z hz
    refine ⟨a1, fun hw => ?_⟩
    obtain ⟨b1, b2, b3, b4, b5⟩ := a2 (fun e => hw (Or.inl e))
    have hbL : b ≠ L := fun e => hw (Or.inl e)
    refine ⟨fun i => ?_, b2, b3, ?_, b5⟩
    · rw [xF_yF, if_neg (fun z => hbL z.2)]; exact b1 i
    · show xB (yB _ q 0 (some v)) b = _
      rw [show xB (yB (yP (yN (yF h 700 L mo) q 10 10) 701 L (some q)) q 0 (some v)) b = xB (yP (yN (yF h 700 L mo) q 10 10) 701 L (some q)) b from u2_row _ _ _ hb]
      exact b4
  refine ⟨⟨hf.S hs, ?_, (by show 1 < 1000; decide), fun w hw => ?_, Or.inr ⟨q, 10, ?_, yN_q, (by show 1 ≤ 10; decide), by decide, by decide, fun i w hi => ?_⟩⟩, hf, Or.inr ⟨q, ?_, hq⟩⟩
  · rw [xF_yF, if_pos ⟨rfl, rfl⟩]; rfl
  · rw [List.nil_append, List.mem_singleton] at hw; subst hw; exact hv.fr hf
  · exact u2_s _ _ _ _
  · have : i = 0 := by
      have := (List.getElem?_eq_some_iff.mp hi).1
      simp at this; omega
    subst this
    show (if q = q ∧ 0 = 0 then some v else _) = _
    rw [if_pos ⟨rfl, rfl⟩]; simpa using hi
  · exact u2_s _ _ _ _
/-- a list whose row is full, with a new row: as before, but for the row -/
theorem lp_grow {h : Hp} {L D q n : Nat} {xs : List Nat} {mo : Int32} (hs : xS h L = some (7, 0)) (hD : xP h 701 L = some D) (hd : xS h D = some (10, n)) (hq : xS h q = none) :
    Fr (fun b => b = L) h (yP (yC (yN (yF h 700 L mo) q 10 (n + n / 2)) q (va_cpy (xB (yN (yF h 700 L mo) q 10 (n + n / 2)) D) (xB (yN (yF h 700 L mo) q 10 (n + n / 2)) q) 0 0 n)) 701 L (some q)) := by
  intro b z hz
  have hb : b ≠ q := fun e => by rw [e, hq] at hz; cases hz
  have h1 : Fr (fun b => b = L) h (yP (yN (yF h 700 L mo) q 10 (n + n / 2)) 701 L (some q)) := Fr.tr (Fr.tr (Fr.yF rfl) (Fr.yN (h := yF h 700 L mo) hq)) (Fr.yP rfl)
  obtain ⟨a1, a2⟩ := h1 b z hz
  refine ⟨a1, fun hw => ?_⟩
  obtain ⟨b1, b2, b3, b4, b5⟩ := a2 hw
  refine ⟨b1, b2, b3, ?_, b5⟩
  rw [← b4]
  show u1 _ q _ b = _
  simp only [u1, if_neg hb]
  rfl
theorem lp_addC {h : Hp} {L D q n v E : Nat} {xs : List Nat} {mo : Int32} (hs : xS h L = some (7, 0)) (hxs : ∀ v ∈ xs, isE h v) (hD : xP h 701 L = some D) (hd : xS h D = some (10, n)) (hq : xS h q = none) (hl : xs.length = n) (h2 : 2 ≤ n) (hn : n < 600) (hB : ∀ (i v : Nat), xs[i]? = some v → xB h D i = some v) (hv : isE h v) :
    LiP E h L (yF (yB (yP (yC (yN (yF h 700 L mo) q 10 (n + n / 2)) q (va_cpy (xB (yN (yF h 700 L mo) q 10 (n + n / 2)) D) (xB (yN (yF h 700 L mo) q 10 (n + n / 2)) q) 0 0 n)) 701 L (some q)) q n (some v)) 702 L (nI (n + 1))) (xs ++ [v]) := by
  have hg := lp_grow (xs := xs) (mo := mo) hs hD hd hq
  generalize hh1 : yP (yC (yN (yF h 700 L mo) q 10 (n + n / 2)) q (va_cpy (xB (yN (yF h 700 L mo) q 10 (n + n / 2)) D) (xB (yN (yF h 700 L mo) q 10 (n + n / 2)) q) 0 0 n)) 701 L (some q) = h1 at hg ⊢
  have hB1 : ∀ i, i < n → xB h1 q i = xB h D i := fun i hi => by rw [← hh1]; exact grown hs hd hq i hi
  have hP1 : xP h1 701 L = some q := by rw [← hh1]; exact u2_s _ _ _ _
  have hS1 : xS h1 q = some (10, n + n / 2) := by rw [← hh1]; exact yN_q
  have hf : Fr (fun b => b = L ∨ xP h 701 L = some b) h (yF (yB h1 q n (some v)) 702 L (nI (n + 1))) := by
    intro b z hz
    have hb : b ≠ q := fun e => by rw [e, hq] at hz; cases hz
    obtain ⟨a1, a2⟩ := hg b z hz
    refine ⟨a1, fun hw => ?_⟩
    obtain ⟨b1, b2, b3, b4, b5⟩ := a2 (fun e => hw (Or.inl e))
    refine ⟨fun i => ?_, b2, b3, ?_, b5⟩
    · rw [xF_yF, if_neg (fun z => hw (Or.inl z.2))]; exact b1 i
    · rw [← b4]; exact u2_row _ _ _ hb
  refine ⟨⟨hf.S hs, ?_, by rw [List.length_append]; show _ + 1 < _; omega, fun w hw => ?_, Or.inr ⟨q, n + n / 2, hP1, hS1, by rw [List.length_append]; show _ + 1 ≤ _; omega, by omega, by omega, fun i w hi => ?_⟩⟩, hf, Or.inr ⟨q, hP1, hq⟩⟩
  · rw [xF_yF, if_pos ⟨rfl, rfl⟩, List.length_append, hl]; rfl
  · rcases List.mem_append.mp hw with z | z
    · exact (hxs w z).fr hf
    · rw [List.mem_singleton] at z; subst z; exact hv.fr hf
  · show (if q = q ∧ i = n then some v else xB h1 q i) = some w
    have hlt : i < (xs ++ [v]).length := (List.getElem?_eq_some_iff.mp hi).1
    rw [List.length_append] at hlt
    have hlt : i < xs.length + 1 := hlt
    by_cases hi2 : i = n
    · subst hi2
      rw [if_pos ⟨rfl, rfl⟩]
      rw [List.getElem?_append_right (by omega), hl, Nat.sub_self] at hi
      simpa using hi
    · rw [if_neg (fun z => hi2 z.2), hB1 i (by omega)]
      rw [List.getElem?_append_left (by omega)] at hi
      exact hB i w hi
set_option maxRecDepth 100000 in
set_option maxHeartbeats 4000000 in
theorem ct_addA {g : Gl} {l : Launch} (hfl : l.stackTraces = false) (h : Hp) (L v : Nat) (hL : IsL (gN g 2) h L []) (hv : isE h v) (hD : xP h 701 L = some (gN g 2)) : CT g l iJx4a65c_add_9ea2d 7 [.ref L, .ref v] h 1 1500 (pRel (fun r h' => r = some (.int (nI 1)) ∧ LiP (gN g 2) h L h' ([] ++ [v]))) := by
  refine ct_mk hfl (by decide) (Nat.le_of_ble_eq_true rfl) (by intro v hv; simp only [List.mem_cons, List.not_mem_nil, or_false] at hv; rcases hv with rfl | rfl <;> rfl) (fun V X M => ?_)
  have Mm := M.m
  show V 0 [some (.ref L), some (.ref v)] [] _ 0 0
  refine r_aload_n Mm dJx4a65c_add_9ea2d_0 rfl ?_
  refine r_dup Mm dJx4a65c_add_9ea2d_1 rfl ?_
  refine r_getI Mm dJx4a65c_add_9ea2d_2 fi_Jx4a65c_63 (hL.1) rfl (i := 700) rfl ?_
  refine r_iconst (v := nI 1) Mm dJx4a65c_add_9ea2d_5 (by decide) ?_
  refine r_iadd Mm dJx4a65c_add_9ea2d_6 ?_
  refine r_putI (ty := .int) Mm dJx4a65c_add_9ea2d_7 fi_Jx4a65c_63 ki_7 rfl (hL.1) rfl (i := 700) rfl rfl (by decide +kernel) rfl rfl ?_
  refine r_aload_n Mm dJx4a65c_add_9ea2d_10 rfl ?_
  refine r_aload_n Mm dJx4a65c_add_9ea2d_11 rfl ?_
  refine r_aload_n Mm dJx4a65c_add_9ea2d_12 rfl ?_
  refine r_getR Mm dJx4a65c_add_9ea2d_13 fi_Jx4a65c_9 (hL.1) rfl (i := 701) rfl (hD) ?_
  refine r_aload_n Mm dJx4a65c_add_9ea2d_16 rfl ?_
  refine r_getI Mm dJx4a65c_add_9ea2d_17 fi_Jx4a65c_48 (hL.1) rfl (i := 702) rfl ?_
  refine r_top _ (nI 0) (hL.2.1) ?_
  refine r_callV (As := [(.ref v), (.ref (gN g 2)), (.int (nI 0))]) Mm dJx4a65c_add_9ea2d_20 rfl (ct_add3A hfl (yF h 700 L (xF h 700 L + nI 1)) L v hL.1 hD hL.2.1 hv) (hL.1) rfl cw_Jx4a65c_131 ⟨Nat.le_of_ble_eq_true rfl, Nat.le_of_ble_eq_true rfl, Nat.le_of_ble_eq_true rfl⟩ (Nat.le_of_ble_eq_true rfl) ⟨Nat.le_of_ble_eq_true rfl, Nat.le_of_ble_eq_true rfl⟩ (fun r1 h2 p3 => ?_) (fun Er1 h2 p3 => False.elim p3)
  obtain ⟨q, hq, rfl, rfl⟩ := p3
  show V 23 _ [] _ _ _
  refine r_iconst (v := nI 1) Mm dJx4a65c_add_9ea2d_23 (by decide) ?_
  refine r_zret M dJx4a65c_add_9ea2d_24 (by decide) ?_
  exact ⟨rfl, lp_addA hL.1 hq hv⟩
set_option maxRecDepth 100000 in
set_option maxHeartbeats 4000000 in
theorem ct_addC {g : Gl} {l : Launch} (hfl : l.stackTraces = false) (h : Hp) (L v : Nat) (xs : List Nat) (hL : IsL (gN g 2) h L xs) (hv : isE h v) (D : Nat) (hD : xP h 701 L = some D) (hd : xS h D = some (10, xs.length)) (h2 : 2 ≤ xs.length) (hn : xs.length < 600) (hB : ∀ (i v : Nat), xs[i]? = some v → xB h D i = some v) : CT g l iJx4a65c_add_9ea2d 7 [.ref L, .ref v] h 1 1500 (pRel (fun r h' => r = some (.int (nI 1)) ∧ LiP (gN g 2) h L h' (xs ++ [v]))) := by
  have hel : ∀ j : Nat, j < xs.length → ∀ y : Nat, xB h D j = some y → isE h y := fun j hj y hy => by
    have hb := hB j xs[j] (List.getElem?_eq_getElem hj)
    rw [hy] at hb
    cases hb
    exact hL.2.2.2.1 _ (List.getElem_mem hj)
  refine ct_mk hfl (by decide) (Nat.le_of_ble_eq_true rfl) (by intro v hv; simp only [List.mem_cons, List.not_mem_nil, or_false] at hv; rcases hv with rfl | rfl <;> rfl) (fun V X M => ?_)
  have Mm := M.m
  show V 0 [some (.ref L), some (.ref v)] [] _ 0 0
  refine r_aload_n Mm dJx4a65c_add_9ea2d_0 rfl ?_
  refine r_dup Mm dJx4a65c_add_9ea2d_1 rfl ?_
  refine r_getI Mm dJx4a65c_add_9ea2d_2 fi_Jx4a65c_63 (hL.1) rfl (i := 700) rfl ?_
  refine r_iconst (v := nI 1) Mm dJx4a65c_add_9ea2d_5 (by decide) ?_
  refine r_iadd Mm dJx4a65c_add_9ea2d_6 ?_
  refine r_putI (ty := .int) Mm dJx4a65c_add_9ea2d_7 fi_Jx4a65c_63 ki_7 rfl (hL.1) rfl (i := 700) rfl rfl (by decide +kernel) rfl rfl ?_
  refine r_aload_n Mm dJx4a65c_add_9ea2d_10 rfl ?_
  refine r_aload_n Mm dJx4a65c_add_9ea2d_11 rfl ?_
  refine r_aload_n Mm dJx4a65c_add_9ea2d_12 rfl ?_
  refine r_getR Mm dJx4a65c_add_9ea2d_13 fi_Jx4a65c_9 (hL.1) rfl (i := 701) rfl (hD) ?_
  refine r_aload_n Mm dJx4a65c_add_9ea2d_16 rfl ?_
  refine r_getI Mm dJx4a65c_add_9ea2d_17 fi_Jx4a65c_48 (hL.1) rfl (i := 702) rfl ?_
  refine r_top _ (nI (xs.length)) (hL.2.1) ?_
  refine r_callV (As := [(.ref v), (.ref D), (.int (nI (xs.length)))]) Mm dJx4a65c_add_9ea2d_20 rfl (ct_add3C hfl (yF h 700 L (xF h 700 L + nI 1)) L D xs.length hL.1 hD hd h2 (by omega) hel v hL.2.1 hv) (hL.1) rfl cw_Jx4a65c_131 ⟨Nat.le_of_ble_eq_true rfl, Nat.le_of_ble_eq_true rfl, Nat.le_of_ble_eq_true rfl⟩ (Nat.le_of_ble_eq_true rfl) ⟨Nat.le_of_ble_eq_true rfl, Nat.le_of_ble_eq_true rfl⟩ (fun r1 h2 p3 => ?_) (fun Er1 h2 p3 => False.elim p3)
  obtain ⟨q, hq, rfl, rfl⟩ := p3
  show V 23 _ [] _ _ _
  refine r_iconst (v := nI 1) Mm dJx4a65c_add_9ea2d_23 (by decide) ?_
  refine r_zret M dJx4a65c_add_9ea2d_24 (by decide) ?_
  exact ⟨rfl, lp_addC hL.1 hL.2.2.2.1 hD hd hq rfl h2 hn hB hv⟩
/-- add(E): an element at the end -/
theorem ct_add {g : Gl} {l : Launch} (hfl : l.stackTraces = false) (h : Hp) (L v : Nat) (xs : List Nat) (hL : IsL (gN g 2) h L xs) (hlen : xs.length < 600) (hv : isE h v) : CT g l iJx4a65c_add_9ea2d 7 [.ref L, .ref v] h 1 1500 (pRel (fun r h' => r = some (.int (nI 1)) ∧ LiP (gN g 2) h L h' (xs ++ [v]))) := by
  rcases id hL.2.2.2.2 with ⟨hx, hE⟩ | ⟨D, n, hD, hd, h1, h2, h3, hB⟩
  · subst hx; exact ct_addA hfl h L v hL hv hE
  · rcases Nat.lt_or_ge xs.length n with q | q
    · exact ct_addB hfl h L v xs hL hv D n hD hd q h2 h3 hB
    · obtain rfl : n = xs.length := by omega
      exact ct_addC hfl h L v xs hL hv D hD hd h2 (by omega) hB
/-- the list at L has xs: its methods in these words -/
theorem IsL.cell {E : Nat} {h : Hp} {L i v : Nat} {xs : List Nat} (hL : IsL E h L xs) (hi : xs[i]? = some v) : ∃ D n : Nat, xP h 701 L = some D ∧ xS h D = some (10, n) ∧ xs.length ≤ n ∧ 2 ≤ n ∧ n < 1000 ∧ i < xs.length ∧ xB h D i = some v ∧ ∀ (i v : Nat), xs[i]? = some v → xB h D i = some v := by
  have hlt := (List.getElem?_eq_some_iff.mp hi).1
  rcases hL.2.2.2.2 with ⟨hx, hE⟩ | ⟨D, n, hD, hd, h1, h2, h3, hB⟩
  · rw [hx] at hlt; exact absurd hlt (Nat.not_lt_zero _)
  · exact ⟨D, n, hD, hd, h1, h2, h3, hlt, hB i v hi, hB⟩
theorem ct_lsize {g : Gl} {l : Launch} (hfl : l.stackTraces = false) {E : Nat} (h : Hp) (L : Nat) (xs : List Nat) (hL : IsL E h L xs) : CT g l iJx4a65c_size_8abf5 1 [.ref L] h 0 0 (pRet (some (.int (nI xs.length))) h) := ct_size hfl h L xs.length hL.1 hL.2.1
theorem ct_lget {g : Gl} {l : Launch} (hfl : l.stackTraces = false) {E : Nat} (h : Hp) (L i v : Nat) (xs : List Nat) (hL : IsL E h L xs) (hi : xs[i]? = some v) : CT g l iJx4a65c_get_915e3 3 [.ref L, .int (nI i)] h 0 0 (pRet (some (.ref v)) h) := by
  obtain ⟨D, n, hD, hd, h1, h2, h3, h4, h5, -⟩ := hL.cell hi
  exact ct_get0 hfl h L D n i v hL.1 hD hd xs.length hL.2.1 h4 h1 (by omega) h5
theorem lp_set {E : Nat} {h : Hp} {L D n i x : Nat} {xs : List Nat} (hL : IsL E h L xs) (hD : xP h 701 L = some D) (hd : xS h D = some (10, n)) (h1 : xs.length ≤ n) (h2 : 2 ≤ n) (h3 : n < 1000) (hB : ∀ (i v : Nat), xs[i]? = some v → xB h D i = some v) (hx : isE h x) (hi : i < xs.length) : LiP E h L (yB h D i (some x)) (xs.set i x) := by
  have hf : Fr (fun b => b = L ∨ xP h 701 L = some b) h (yB h D i (some x)) := Fr.yB (Or.inr hD)
  refine ⟨⟨hL.1, by rw [List.length_set]; exact hL.2.1, by rw [List.length_set]; exact hL.2.2.1, fun w hw => ?_, Or.inr ⟨D, n, hD, hd, by rw [List.length_set]; exact h1, h2, h3, fun j w hj => ?_⟩⟩, hf, Or.inl rfl⟩
  · rcases List.mem_or_eq_of_mem_set hw with z | z
    · exact (hL.2.2.2.1 w z).fr hf
    · subst z; exact hx.fr hf
  · show (if D = D ∧ j = i then some x else xB h D j) = some w
    by_cases hj2 : j = i
    · subst hj2
      rw [if_pos ⟨rfl, rfl⟩]
      rw [List.getElem?_set_self hi] at hj
      exact hj
    · rw [if_neg (fun z => hj2 z.2)]
      rw [List.getElem?_set_ne (fun z => hj2 z.symm)] at hj
      exact hB j w hj
theorem ct_lset {g : Gl} {l : Launch} (hfl : l.stackTraces = false) {E : Nat} (h : Hp) (L i v x : Nat) (xs : List Nat) (hL : IsL E h L xs) (hi : xs[i]? = some v) (hx : isE h x) : CT g l iJx4a65c_set_bcc79 3 [.ref L, .int (nI i), .ref x] h 0 0 (pRel (fun r h' => r = some (.ref v) ∧ LiP E h L h' (xs.set i x))) := by
  obtain ⟨D, n, hD, hd, h1, h2, h3, h4, h5, hB⟩ := hL.cell hi
  exact ct_weak (ct_set0 hfl h L D n i v hL.1 hD hd xs.length hL.2.1 h4 h1 (by omega) h5 x hx) (fun r h' hp => ⟨hp.1, hp.2 ▸ lp_set hL hD hd h1 h2 h3 hB hx h4⟩) (fun E h' hp => hp)
set_option maxRecDepth 100000 in
set_option maxHeartbeats 4000000 in
theorem ct_fastRemove {g : Gl} {l : Launch} (hfl : l.stackTraces = false) (h : Hp) (L D n k i : Nat) (hs : xS h L = some (7, 0)) (hd : xS h D = some (10, n)) (hk : xF h 702 L = nI k) (hi : i < k) (hkn : k ≤ n) (hn : n < 1000) (hel : ∀ j : Nat, j < k → ∀ y : Nat, xB h D j = some y → isE h y) : CT g l iJx4a65c_fastRemove_b59b0 2 [.ref L, .ref D, .int (nI i)] h 0 0 (pRel (fun r h' => ∃ h1 : Hp, (h1 = (yF h 700 L (xF h 700 L + nI 1)) ∨ h1 = (yC (yF h 700 L (xF h 700 L + nI 1)) D (va_cpy (xB (yF h 700 L (xF h 700 L + nI 1)) D) (xB (yF h 700 L (xF h 700 L + nI 1)) D) (i + 1) i (k - 1 - i)))) ∧ (i < k - 1 → h1 = (yC (yF h 700 L (xF h 700 L + nI 1)) D (va_cpy (xB (yF h 700 L (xF h 700 L + nI 1)) D) (xB (yF h 700 L (xF h 700 L + nI 1)) D) (i + 1) i (k - 1 - i)))) ∧ r = none ∧ h' = yB (yF h1 702 L (nI (k - 1))) D (k - 1) none)) := by
  refine ct_mk hfl (by decide) (Nat.le_of_ble_eq_true rfl) (by intro v hv; simp only [List.mem_cons, List.not_mem_nil, or_false] at hv; rcases hv with rfl | rfl | rfl <;> rfl) (fun V X M => ?_)
  have Mm := M.m
  show V 0 [some (.ref L), some (.ref D), some (.int (nI i)), none] [] _ 0 0
  refine r_aload_n Mm dJx4a65c_fastRemove_b59b0_0 rfl ?_
  refine r_dup Mm dJx4a65c_fastRemove_b59b0_1 rfl ?_
  refine r_getI Mm dJx4a65c_fastRemove_b59b0_2 fi_Jx4a65c_63 (hs) rfl (i := 700) rfl ?_
  refine r_iconst (v := nI 1) Mm dJx4a65c_fastRemove_b59b0_5 (by decide) ?_
  refine r_iadd Mm dJx4a65c_fastRemove_b59b0_6 ?_
  refine r_putI (ty := .int) Mm dJx4a65c_fastRemove_b59b0_7 fi_Jx4a65c_63 ki_7 rfl (hs) rfl (i := 700) rfl rfl (by decide +kernel) rfl rfl ?_
  refine r_aload_n Mm dJx4a65c_fastRemove_b59b0_10 rfl ?_
  refine r_getI Mm dJx4a65c_fastRemove_b59b0_11 fi_Jx4a65c_48 (hs) rfl (i := 702) rfl ?_
  refine r_top _ (nI k) (hk) ?_
  refine r_iconst (v := nI 1) Mm dJx4a65c_fastRemove_b59b0_14 (by decide) ?_
  refine r_isubN Mm dJx4a65c_fastRemove_b59b0_15 (by omega) ?_
  refine r_dup Mm dJx4a65c_fastRemove_b59b0_16 rfl ?_
  refine r_istore_n Mm dJx4a65c_fastRemove_b59b0_17 (by decide) ?_
  show V 18 [some (.ref L), some (.ref D), some (.int (nI i)), some (.int (nI (k - 1)))] _ _ _ _
  refine r_iload_n Mm dJx4a65c_fastRemove_b59b0_18 rfl ?_
  refine r_icmp_leN (tgt := 34) Mm dJx4a65c_fastRemove_b59b0_19 (by decide) (by omega) (by omega) (fun c1 => ?_) (fun c1 => ?_)
  · refine r_aload_n Mm dJx4a65c_fastRemove_b59b0_34 rfl ?_
    refine r_aload_n Mm dJx4a65c_fastRemove_b59b0_35 rfl ?_
    refine r_iload_n Mm dJx4a65c_fastRemove_b59b0_36 rfl ?_
    refine r_dup_x1 Mm dJx4a65c_fastRemove_b59b0_37 rfl rfl ?_
    refine r_putI (ty := .int) Mm dJx4a65c_fastRemove_b59b0_38 fi_Jx4a65c_48 ki_7 rfl (hs) rfl (i := 702) rfl rfl (by decide +kernel) rfl rfl ?_
    refine r_null Mm dJx4a65c_fastRemove_b59b0_41 ?_
    refine r_aastN0 Mm dJx4a65c_fastRemove_b59b0_42 (hd) (by omega) (by omega) ?_
    refine r_vret M dJx4a65c_fastRemove_b59b0_43 ?_
    exact ⟨(yF h 700 L (xF h 700 L + nI 1)), Or.inl rfl, fun z => absurd z (by omega), rfl, rfl⟩
  · refine r_aload_n Mm dJx4a65c_fastRemove_b59b0_22 rfl ?_
    refine r_iload_n Mm dJx4a65c_fastRemove_b59b0_23 rfl ?_
    refine r_iconst (v := nI 1) Mm dJx4a65c_fastRemove_b59b0_24 (by decide) ?_
    refine r_iaddN Mm dJx4a65c_fastRemove_b59b0_25 ?_
    refine r_aload_n Mm dJx4a65c_fastRemove_b59b0_26 rfl ?_
    refine r_iload_n Mm dJx4a65c_fastRemove_b59b0_27 rfl ?_
    refine r_iload_n Mm dJx4a65c_fastRemove_b59b0_28 rfl ?_
    refine r_iload_n Mm dJx4a65c_fastRemove_b59b0_29 rfl ?_
    refine r_isubN Mm dJx4a65c_fastRemove_b59b0_30 (by omega) ?_
    refine r_copyN (sp := i + 1) (dp := i) (n := (k - 1) - i) Mm dJx4a65c_fastRemove_b59b0_31 (hd) (hd) cy_Jx4a65c_112 cyn cys cyi ⟨by omega, by omega⟩ (by omega) (by omega) (Nat.le_of_ble_eq_true rfl) (Nat.le_of_ble_eq_true rfl) ?_ ?_
    · exact fun j hj y hy => hel (i + 1 + j) (by omega) y hy
    refine r_aload_n Mm dJx4a65c_fastRemove_b59b0_34 rfl ?_
    refine r_aload_n Mm dJx4a65c_fastRemove_b59b0_35 rfl ?_
    refine r_iload_n Mm dJx4a65c_fastRemove_b59b0_36 rfl ?_
    refine r_dup_x1 Mm dJx4a65c_fastRemove_b59b0_37 rfl rfl ?_
    refine r_putI (ty := .int) Mm dJx4a65c_fastRemove_b59b0_38 fi_Jx4a65c_48 ki_7 rfl (hs) rfl (i := 702) rfl rfl (by decide +kernel) rfl rfl ?_
    refine r_null Mm dJx4a65c_fastRemove_b59b0_41 ?_
    refine r_aastN0 Mm dJx4a65c_fastRemove_b59b0_42 (hd) (by omega) (by omega) ?_
    refine r_vret M dJx4a65c_fastRemove_b59b0_43 ?_
    exact ⟨_, Or.inr rfl, fun _ => rfl, rfl, rfl⟩
set_option maxRecDepth 100000 in
set_option maxHeartbeats 4000000 in
theorem ct_remove0 {g : Gl} {l : Launch} (hfl : l.stackTraces = false) (h : Hp) (L D n k i : Nat) (hs : xS h L = some (7, 0)) (hd : xS h D = some (10, n)) (hk : xF h 702 L = nI k) (hi : i < k) (hkn : k ≤ n) (hn : n < 1000) (hel : ∀ j : Nat, j < k → ∀ y : Nat, xB h D j = some y → isE h y) (v : Nat) (hD : xP h 701 L = some D) (hv : xB h D i = some v) : CT g l iJx4a65c_remove_915e3 3 [.ref L, .int (nI i)] h 0 0 (pRel (fun r h' => r = some (.ref v) ∧ ∃ h1 : Hp, (h1 = (yF h 700 L (xF h 700 L + nI 1)) ∨ h1 = (yC (yF h 700 L (xF h 700 L + nI 1)) D (va_cpy (xB (yF h 700 L (xF h 700 L + nI 1)) D) (xB (yF h 700 L (xF h 700 L + nI 1)) D) (i + 1) i (k - 1 - i)))) ∧ (i < k - 1 → h1 = (yC (yF h 700 L (xF h 700 L + nI 1)) D (va_cpy (xB (yF h 700 L (xF h 700 L + nI 1)) D) (xB (yF h 700 L (xF h 700 L + nI 1)) D) (i + 1) i (k - 1 - i)))) ∧ h' = yB (yF h1 702 L (nI (k - 1))) D (k - 1) none)) := by
  refine ct_mk hfl (by decide) (Nat.le_of_ble_eq_true rfl) (by intro v hv; simp only [List.mem_cons, List.not_mem_nil, or_false] at hv; rcases hv with rfl | rfl <;> rfl) (fun V X M => ?_)
  have Mm := M.m
  show V 0 [some (.ref L), some (.int (nI i)), none, none] [] _ 0 0
  refine r_iload_n Mm dJx4a65c_remove_915e3_0 rfl ?_
  refine r_aload_n Mm dJx4a65c_remove_915e3_1 rfl ?_
  refine r_getI Mm dJx4a65c_remove_915e3_2 fi_Jx4a65c_48 (hs) rfl (i := 702) rfl ?_
  refine r_top _ (nI k) (hk) ?_
  refine r_callS (As := [(.int (nI i)), (.int (nI k))]) Mm dJx4a65c_remove_915e3_5 rfl (ct_oci hfl h i k hi (by omega)) cw_Jx4a65c_118 ⟨Nat.le_of_ble_eq_true rfl, Nat.le_of_ble_eq_true rfl, Nat.le_of_ble_eq_true rfl⟩ (Nat.le_of_ble_eq_true rfl) ⟨Nat.le_of_ble_eq_true rfl, Nat.le_of_ble_eq_true rfl⟩ (fun r1 h2 p3 => ?_) (fun Er1 h2 p3 => False.elim p3)
  obtain ⟨rfl, rfl⟩ := p3
  show V 8 _ [(.int (nI i))] _ _ _
  refine r_pop Mm dJx4a65c_remove_915e3_8 rfl ?_
  refine r_aload_n Mm dJx4a65c_remove_915e3_9 rfl ?_
  refine r_getR Mm dJx4a65c_remove_915e3_10 fi_Jx4a65c_9 (hs) rfl (i := 701) rfl (hD) ?_
  refine r_astore_n Mm dJx4a65c_remove_915e3_13 (by decide) ?_
  show V 14 [some (.ref L), some (.int (nI i)), some (.ref D), none] _ _ _ _
  refine r_aload_n Mm dJx4a65c_remove_915e3_14 rfl ?_
  refine r_iload_n Mm dJx4a65c_remove_915e3_15 rfl ?_
  refine r_aaldN Mm dJx4a65c_remove_915e3_16 (hd) (by omega) (by omega) (hv) ?_
  refine r_astore_n Mm dJx4a65c_remove_915e3_17 (by decide) ?_
  show V 18 [some (.ref L), some (.int (nI i)), some (.ref D), some (.ref v)] _ _ _ _
  refine r_aload_n Mm dJx4a65c_remove_915e3_18 rfl ?_
  refine r_aload_n Mm dJx4a65c_remove_915e3_19 rfl ?_
  refine r_iload_n Mm dJx4a65c_remove_915e3_20 rfl ?_
  refine r_callV (As := [(.ref D), (.int (nI i))]) Mm dJx4a65c_remove_915e3_21 rfl (ct_fastRemove hfl h L D n k i hs hd hk hi hkn hn hel) (hs) rfl cw_Jx4a65c_144 ⟨Nat.le_of_ble_eq_true rfl, Nat.le_of_ble_eq_true rfl, Nat.le_of_ble_eq_true rfl⟩ (Nat.le_of_ble_eq_true rfl) ⟨Nat.le_of_ble_eq_true rfl, Nat.le_of_ble_eq_true rfl⟩ (fun r4 h5 p6 => ?_) (fun Er4 h5 p6 => False.elim p6)
  obtain ⟨h1x, o1, o2, rfl, o4⟩ := p6
  show V 24 _ [] _ _ _
  refine r_aload_n Mm dJx4a65c_remove_915e3_24 rfl ?_
  refine r_aret M dJx4a65c_remove_915e3_25 (Or.inl ⟨_, rfl⟩) ?_
  exact ⟨rfl, h1x, o1, o2, o4⟩
theorem ct_lremove {g : Gl} {l : Launch} (hfl : l.stackTraces = false) {E : Nat} (h : Hp) (L i v : Nat) (xs : List Nat) (hL : IsL E h L xs) (hi : xs[i]? = some v) : CT g l iJx4a65c_remove_915e3 3 [.ref L, .int (nI i)] h 0 0 (pRel (fun r h' => r = some (.ref v) ∧ LiP E h L h' (xs.eraseIdx i))) := by
  obtain ⟨D, n, hD, hd, h1, h2, h3, h4, h5, hB⟩ := hL.cell hi
  have hel : ∀ j : Nat, j < xs.length → ∀ y : Nat, xB h D j = some y → isE h y := fun j hj y hy => by
    have hb := hB j xs[j] (List.getElem?_eq_getElem hj)
    rw [hy] at hb
    cases hb
    exact hL.2.2.2.1 _ (List.getElem_mem hj)
  refine ct_weak (ct_remove0 hfl h L D n xs.length i hL.1 hd hL.2.1 h4 h1 h3 hel v hD h5) (fun r h' hp => ?_) (fun E h' hp => hp)
  obtain ⟨hr, h1x, o1, o2, o3⟩ := hp
  refine ⟨hr, ?_⟩
  rw [o3]
  exact lp_rem hL.1 hL.2.2.2.1 hD hd h1 h2 h3 hB h4 h1x o1 o2
set_option maxRecDepth 100000 in
set_option maxHeartbeats 4000000 in
theorem ct_rangeCheck {g : Gl} {l : Launch} (hfl : l.stackTraces = false) (h : Hp) (L i k : Nat) (hs : xS h L = some (7, 0)) (hk : xF h 702 L = nI k) (hi : i ≤ k) (hkn : k < 1000) : CT g l iJx4a65c_rangeCheckForAdd_d00df 2 [.ref L, .int (nI i)] h 0 0 (pRet none h) := by
  refine ct_mk hfl (by decide) (Nat.le_of_ble_eq_true rfl) (by intro v hv; simp only [List.mem_cons, List.not_mem_nil, or_false] at hv; rcases hv with rfl | rfl <;> rfl) (fun V X M => ?_)
  have Mm := M.m
  show V 0 [some (.ref L), some (.int (nI i))] [] _ 0 0
  refine r_iload_n Mm dJx4a65c_rangeCheckForAdd_d00df_0 rfl ?_
  refine r_aload_n Mm dJx4a65c_rangeCheckForAdd_d00df_1 rfl ?_
  refine r_getI Mm dJx4a65c_rangeCheckForAdd_d00df_2 fi_Jx4a65c_48 (hs) rfl (i := 702) rfl ?_
  refine r_top _ (nI k) (hk) ?_
  refine r_icmp_gtN (tgt := 12) Mm dJx4a65c_rangeCheckForAdd_d00df_5 (by decide) (by omega) (by omega) (fun c1 => ?_) (fun c1 => ?_)
  · exact absurd c1 (by omega)
  · refine r_iload_n Mm dJx4a65c_rangeCheckForAdd_d00df_8 rfl ?_
    refine r_if_ge (tgt := 25) Mm dJx4a65c_rangeCheckForAdd_d00df_9 (by decide) (fun _ => ?_) (fun c2 => absurd (nI_ge0 (by omega)) c2)
    refine r_vret M dJx4a65c_rangeCheckForAdd_d00df_25 ?_
    exact ⟨rfl, rfl⟩
set_option maxRecDepth 100000 in
set_option maxHeartbeats 4000000 in
theorem ct_addIB {g : Gl} {l : Launch} (hfl : l.stackTraces = false) (h : Hp) (L i v : Nat) (xs : List Nat) (hL : IsL (gN g 2) h L xs) (hi : i ≤ xs.length) (hlen : xs.length < 600) (hv : isE h v) (D n : Nat) (hD : xP h 701 L = some D) (hd : xS h D = some (10, n)) (hl : xs.length < n) (h2 : 2 ≤ n) (hn : n < 1000) (hB : ∀ (i v : Nat), xs[i]? = some v → xB h D i = some v) : CT g l iJx4a65c_add_7a177 6 [.ref L, .int (nI i), .ref v] h 1 1500 (pRel (fun r h' => r = none ∧ LiP (gN g 2) h L h' (xs.insertIdx i v))) := by
  have hel : ∀ j : Nat, j < xs.length → ∀ y : Nat, xB h D j = some y → isE h y := fun j hj y hy => by
    have hb := hB j xs[j] (List.getElem?_eq_getElem hj)
    rw [hy] at hb
    cases hb
    exact hL.2.2.2.1 _ (List.getElem_mem hj)
  refine ct_mk hfl (by decide) (Nat.le_of_ble_eq_true rfl) (by intro v hv; simp only [List.mem_cons, List.not_mem_nil, or_false] at hv; rcases hv with rfl | rfl | rfl <;> rfl) (fun V X M => ?_)
  have Mm := M.m
  show V 0 [some (.ref L), some (.int (nI i)), some (.ref v), none, none] [] _ 0 0
  refine r_aload_n Mm dJx4a65c_add_7a177_0 rfl ?_
  refine r_iload_n Mm dJx4a65c_add_7a177_1 rfl ?_
  refine r_callV (As := [(.int (nI i))]) Mm dJx4a65c_add_7a177_2 rfl (ct_rangeCheck hfl h L i xs.length hL.1 hL.2.1 hi (by have := hL.2.2.1; omega)) (hL.1) rfl cw_Jx4a65c_135 ⟨Nat.le_of_ble_eq_true rfl, Nat.le_of_ble_eq_true rfl, Nat.le_of_ble_eq_true rfl⟩ (Nat.le_of_ble_eq_true rfl) ⟨Nat.le_of_ble_eq_true rfl, Nat.le_of_ble_eq_true rfl⟩ (fun r1 h2 p3 => ?_) (fun Er1 h2 p3 => False.elim p3)
  obtain ⟨rfl, rfl⟩ := p3
  show V 5 _ [] _ _ _
  refine r_aload_n Mm dJx4a65c_add_7a177_5 rfl ?_
  refine r_dup Mm dJx4a65c_add_7a177_6 rfl ?_
  refine r_getI Mm dJx4a65c_add_7a177_7 fi_Jx4a65c_63 (hL.1) rfl (i := 700) rfl ?_
  refine r_iconst (v := nI 1) Mm dJx4a65c_add_7a177_10 (by decide) ?_
  refine r_iadd Mm dJx4a65c_add_7a177_11 ?_
  refine r_putI (ty := .int) Mm dJx4a65c_add_7a177_12 fi_Jx4a65c_63 ki_7 rfl (hL.1) rfl (i := 700) rfl rfl (by decide +kernel) rfl rfl ?_
  refine r_aload_n Mm dJx4a65c_add_7a177_15 rfl ?_
  refine r_getI Mm dJx4a65c_add_7a177_16 fi_Jx4a65c_48 (hL.1) rfl (i := 702) rfl ?_
  refine r_top _ (nI (xs.length)) (hL.2.1) ?_
  refine r_dup Mm dJx4a65c_add_7a177_19 rfl ?_
  refine r_istore_n Mm dJx4a65c_add_7a177_20 (by decide) ?_
  show V 21 [some (.ref L), some (.int (nI i)), some (.ref v), some (.int (nI (xs.length))), none] _ _ _ _
  refine r_aload_n Mm dJx4a65c_add_7a177_21 rfl ?_
  refine r_getR Mm dJx4a65c_add_7a177_22 fi_Jx4a65c_9 (hL.1) rfl (i := 701) rfl (hD) ?_
  refine r_dup Mm dJx4a65c_add_7a177_25 rfl ?_
  refine r_astore Mm dJx4a65c_add_7a177_26 (by decide) ?_
  show V 28 [some (.ref L), some (.int (nI i)), some (.ref v), some (.int (nI (xs.length))), some (.ref D)] _ _ _ _
  refine r_alenO Mm dJx4a65c_add_7a177_28 (hd) ?_
  refine r_icmp_neN (tgt := 38) Mm dJx4a65c_add_7a177_29 (by decide) (by omega) (by omega) (fun c4 => ?_) (fun c4 => ?_)
  · refine r_aload Mm dJx4a65c_add_7a177_38 rfl ?_
    refine r_iload_n Mm dJx4a65c_add_7a177_40 rfl ?_
    refine r_aload Mm dJx4a65c_add_7a177_41 rfl ?_
    refine r_iload_n Mm dJx4a65c_add_7a177_43 rfl ?_
    refine r_iconst (v := nI 1) Mm dJx4a65c_add_7a177_44 (by decide) ?_
    refine r_iaddN Mm dJx4a65c_add_7a177_45 ?_
    refine r_iload_n Mm dJx4a65c_add_7a177_46 rfl ?_
    refine r_iload_n Mm dJx4a65c_add_7a177_47 rfl ?_
    refine r_isubN Mm dJx4a65c_add_7a177_48 (by omega) ?_
    refine r_copyN (sp := i) (dp := i + 1) (n := (xs.length) - i) Mm dJx4a65c_add_7a177_49 (hd) (hd) cy_Jx4a65c_112 cyn cys cyi ⟨by omega, by omega⟩ (by omega) (by omega) (Nat.le_of_ble_eq_true rfl) (Nat.le_of_ble_eq_true rfl) ?_ ?_
    · exact fun j hj y hy => hel (i + j) (by omega) y hy
    refine r_aload Mm dJx4a65c_add_7a177_52 rfl ?_
    refine r_iload_n Mm dJx4a65c_add_7a177_54 rfl ?_
    refine r_aload_n Mm dJx4a65c_add_7a177_55 rfl ?_
    refine r_aastE Mm dJx4a65c_add_7a177_56 (hd) (by omega) (by omega) (hv) ?_
    refine r_aload_n Mm dJx4a65c_add_7a177_57 rfl ?_
    refine r_iload_n Mm dJx4a65c_add_7a177_58 rfl ?_
    refine r_iconst (v := nI 1) Mm dJx4a65c_add_7a177_59 (by decide) ?_
    refine r_iaddN Mm dJx4a65c_add_7a177_60 ?_
    refine r_putI (ty := .int) Mm dJx4a65c_add_7a177_61 fi_Jx4a65c_48 ki_7 rfl (hL.1) rfl (i := 702) rfl rfl (by decide +kernel) rfl rfl ?_
    refine r_vret M dJx4a65c_add_7a177_64 ?_
    exact ⟨rfl, lp_insB (h1 := yF h 700 L (xF h 700 L + nI 1)) (fun b => b = L ∨ b = D) (fun b _ hb => hb.elim Or.inl (fun e => Or.inr (e ▸ hD))) (Fr.yF (Or.inl rfl)) hL.1 hL.2.2.2.1 hD (Or.inl hD) hd hl h2 hn hB hv hi (fun _ => Or.inr rfl) (Or.inl rfl)⟩
  · exact absurd c4 (by omega)
set_option maxRecDepth 100000 in
set_option maxHeartbeats 4000000 in
theorem ct_addIC {g : Gl} {l : Launch} (hfl : l.stackTraces = false) (h : Hp) (L i v : Nat) (xs : List Nat) (hL : IsL (gN g 2) h L xs) (hi : i ≤ xs.length) (hlen : xs.length < 600) (hv : isE h v) (D n : Nat) (hD : xP h 701 L = some D) (hd : xS h D = some (10, n)) (hl : xs.length = n) (h2 : 2 ≤ n) (hn : n < 600) (hB : ∀ (i v : Nat), xs[i]? = some v → xB h D i = some v) : CT g l iJx4a65c_add_7a177 6 [.ref L, .int (nI i), .ref v] h 1 1500 (pRel (fun r h' => r = none ∧ LiP (gN g 2) h L h' (xs.insertIdx i v))) := by
  have hel : ∀ j : Nat, j < xs.length → ∀ y : Nat, xB h D j = some y → isE h y := fun j hj y hy => by
    have hb := hB j xs[j] (List.getElem?_eq_getElem hj)
    rw [hy] at hb
    cases hb
    exact hL.2.2.2.1 _ (List.getElem_mem hj)
  refine ct_mk hfl (by decide) (Nat.le_of_ble_eq_true rfl) (by intro v hv; simp only [List.mem_cons, List.not_mem_nil, or_false] at hv; rcases hv with rfl | rfl | rfl <;> rfl) (fun V X M => ?_)
  have Mm := M.m
  show V 0 [some (.ref L), some (.int (nI i)), some (.ref v), none, none] [] _ 0 0
  refine r_aload_n Mm dJx4a65c_add_7a177_0 rfl ?_
  refine r_iload_n Mm dJx4a65c_add_7a177_1 rfl ?_
  refine r_callV (As := [(.int (nI i))]) Mm dJx4a65c_add_7a177_2 rfl (ct_rangeCheck hfl h L i xs.length hL.1 hL.2.1 hi (by have := hL.2.2.1; omega)) (hL.1) rfl cw_Jx4a65c_135 ⟨Nat.le_of_ble_eq_true rfl, Nat.le_of_ble_eq_true rfl, Nat.le_of_ble_eq_true rfl⟩ (Nat.le_of_ble_eq_true rfl) ⟨(by first | exact Nat.le_of_ble_eq_true rfl | (show _ ≤ 1500; omega)), (by first | exact Nat.le_of_ble_eq_true rfl | (show _ ≤ 1500; omega))⟩ (fun r1 h2 p3 => ?_) (fun Er1 h2 p3 => False.elim p3)
  obtain ⟨rfl, rfl⟩ := p3
  show V 5 _ [] _ _ _
  refine r_aload_n Mm dJx4a65c_add_7a177_5 rfl ?_
  refine r_dup Mm dJx4a65c_add_7a177_6 rfl ?_
  refine r_getI Mm dJx4a65c_add_7a177_7 fi_Jx4a65c_63 (hL.1) rfl (i := 700) rfl ?_
  refine r_iconst (v := nI 1) Mm dJx4a65c_add_7a177_10 (by decide) ?_
  refine r_iadd Mm dJx4a65c_add_7a177_11 ?_
  refine r_putI (ty := .int) Mm dJx4a65c_add_7a177_12 fi_Jx4a65c_63 ki_7 rfl (hL.1) rfl (i := 700) rfl rfl (by decide +kernel) rfl rfl ?_
  refine r_aload_n Mm dJx4a65c_add_7a177_15 rfl ?_
  refine r_getI Mm dJx4a65c_add_7a177_16 fi_Jx4a65c_48 (hL.1) rfl (i := 702) rfl ?_
  refine r_top _ (nI (xs.length)) (hL.2.1) ?_
  refine r_dup Mm dJx4a65c_add_7a177_19 rfl ?_
  refine r_istore_n Mm dJx4a65c_add_7a177_20 (by decide) ?_
  show V 21 [some (.ref L), some (.int (nI i)), some (.ref v), some (.int (nI (xs.length))), none] _ _ _ _
  refine r_aload_n Mm dJx4a65c_add_7a177_21 rfl ?_
  refine r_getR Mm dJx4a65c_add_7a177_22 fi_Jx4a65c_9 (hL.1) rfl (i := 701) rfl (hD) ?_
  refine r_dup Mm dJx4a65c_add_7a177_25 rfl ?_
  refine r_astore Mm dJx4a65c_add_7a177_26 (by decide) ?_
  show V 28 [some (.ref L), some (.int (nI i)), some (.ref v), some (.int (nI (xs.length))), some (.ref D)] _ _ _ _
  refine r_alenO Mm dJx4a65c_add_7a177_28 (hd) ?_
  refine r_icmp_neN (tgt := 38) Mm dJx4a65c_add_7a177_29 (by decide) (by omega) (by omega) (fun c4 => ?_) (fun c4 => ?_)
  · exact absurd hl c4
  · refine r_aload_n Mm dJx4a65c_add_7a177_32 rfl ?_
    refine r_callV (As := []) Mm dJx4a65c_add_7a177_33 rfl (ct_growN0 hfl (yF h 700 L (xF h 700 L + nI 1)) L D n hL.1 hD hd h2 (by omega) (fun j hj y hy => hel j (by omega) y hy) (by rw [← hl]; exact hL.2.1)) (hL.1) rfl cw_Jx4a65c_129 ⟨Nat.le_of_ble_eq_true rfl, Nat.le_of_ble_eq_true rfl, Nat.le_of_ble_eq_true rfl⟩ (Nat.le_of_ble_eq_true rfl) ⟨(by first | exact Nat.le_of_ble_eq_true rfl | (show _ ≤ 1500; omega)), (by first | exact Nat.le_of_ble_eq_true rfl | (show _ ≤ 1500; omega))⟩ (fun r5 h6 p7 => ?_) (fun Er5 h6 p7 => False.elim p7)
    obtain ⟨q, hq, rfl, rfl⟩ := p7
    have hg := lp_grow (xs := xs) (mo := xF h 700 L + nI 1) hL.1 hD hd hq
    have hgr := fun (i : Nat) (hi : i < n) => grown (mo := xF h 700 L + nI 1) (m := n + n / 2) hL.1 hd hq i hi
    have hz1 := hg.S hL.1
    have hz2 : xS (yP (yC (yN (yF h 700 L (xF h 700 L + nI 1)) q 10 (n + n / 2)) q (va_cpy (xB (yN (yF h 700 L (xF h 700 L + nI 1)) q 10 (n + n / 2)) D) (xB (yN (yF h 700 L (xF h 700 L + nI 1)) q 10 (n + n / 2)) q) 0 0 n)) 701 L (some q)) q = some (10, n + n / 2) := yN_q
    have hz3 : xP (yP (yC (yN (yF h 700 L (xF h 700 L + nI 1)) q 10 (n + n / 2)) q (va_cpy (xB (yN (yF h 700 L (xF h 700 L + nI 1)) q 10 (n + n / 2)) D) (xB (yN (yF h 700 L (xF h 700 L + nI 1)) q 10 (n + n / 2)) q) 0 0 n)) 701 L (some q)) 701 L = some q := u2_s _ _ _ _
    generalize yP (yC (yN (yF h 700 L (xF h 700 L + nI 1)) q 10 (n + n / 2)) q (va_cpy (xB (yN (yF h 700 L (xF h 700 L + nI 1)) q 10 (n + n / 2)) D) (xB (yN (yF h 700 L (xF h 700 L + nI 1)) q 10 (n + n / 2)) q) 0 0 n)) 701 L (some q) = hz at hg hgr hz1 hz2 hz3 ⊢
    show V 36 _ [(.ref q)] _ _ _
    refine r_astore Mm dJx4a65c_add_7a177_36 (by decide) ?_
    show V 38 [some (.ref L), some (.int (nI i)), some (.ref v), some (.int (nI (xs.length))), some (.ref q)] _ _ _ _
    refine r_aload Mm dJx4a65c_add_7a177_38 rfl ?_
    refine r_iload_n Mm dJx4a65c_add_7a177_40 rfl ?_
    refine r_aload Mm dJx4a65c_add_7a177_41 rfl ?_
    refine r_iload_n Mm dJx4a65c_add_7a177_43 rfl ?_
    refine r_iconst (v := nI 1) Mm dJx4a65c_add_7a177_44 (by decide) ?_
    refine r_iaddN Mm dJx4a65c_add_7a177_45 ?_
    refine r_iload_n Mm dJx4a65c_add_7a177_46 rfl ?_
    refine r_iload_n Mm dJx4a65c_add_7a177_47 rfl ?_
    refine r_isubN Mm dJx4a65c_add_7a177_48 (by omega) ?_
    refine r_copyN (sp := i) (dp := i + 1) (n := (xs.length) - i) Mm dJx4a65c_add_7a177_49 (hz2) (hz2) cy_Jx4a65c_112 cyn cys cyi ⟨by omega, by omega⟩ (by omega) (by omega) (Nat.le_of_ble_eq_true rfl) (Nat.le_of_ble_eq_true rfl) ?_ ?_
    · exact fun j hj y hy => (hel (i + j) (by omega) y ((hgr (i + j) (by omega)).symm.trans hy)).fr hg
    refine r_aload Mm dJx4a65c_add_7a177_52 rfl ?_
    refine r_iload_n Mm dJx4a65c_add_7a177_54 rfl ?_
    refine r_aload_n Mm dJx4a65c_add_7a177_55 rfl ?_
    refine r_aastE Mm dJx4a65c_add_7a177_56 (hz2) (by omega) (by omega) (show isE hz v from hv.fr hg) ?_
    refine r_aload_n Mm dJx4a65c_add_7a177_57 rfl ?_
    refine r_iload_n Mm dJx4a65c_add_7a177_58 rfl ?_
    refine r_iconst (v := nI 1) Mm dJx4a65c_add_7a177_59 (by decide) ?_
    refine r_iaddN Mm dJx4a65c_add_7a177_60 ?_
    refine r_putI (ty := .int) Mm dJx4a65c_add_7a177_61 fi_Jx4a65c_48 ki_7 rfl (hz1) rfl (i := 702) rfl rfl (by decide +kernel) rfl rfl ?_
    refine r_vret M dJx4a65c_add_7a177_64 ?_
    exact ⟨rfl, lp_insB (h1 := hz) (fun b => b = L) (fun b _ hb => Or.inl hb) hg hz1 hL.2.2.2.1 hz3 (Or.inr hq) hz2 (by omega) (by omega) (by omega) (fun j w hj => by rw [hgr j (by rw [← hl]; exact (List.getElem?_eq_some_iff.mp hj).1)]; exact hB j w hj) hv hi (fun z => absurd hq z) rfl⟩
set_option maxRecDepth 100000 in
set_option maxHeartbeats 4000000 in
theorem ct_addIA {g : Gl} {l : Launch} (hfl : l.stackTraces = false) (h : Hp) (L i v : Nat) (xs : List Nat) (hL : IsL (gN g 2) h L xs) (hi : i ≤ xs.length) (hlen : xs.length < 600) (hv : isE h v) (hx : xs.length = 0) (hD : xP h 701 L = some (gN g 2)) : CT g l iJx4a65c_add_7a177 6 [.ref L, .int (nI i), .ref v] h 1 1500 (pRel (fun r h' => r = none ∧ LiP (gN g 2) h L h' (xs.insertIdx i v))) := by
  refine ct_mk hfl (by decide) (Nat.le_of_ble_eq_true rfl) (by intro v hv; simp only [List.mem_cons, List.not_mem_nil, or_false] at hv; rcases hv with rfl | rfl | rfl <;> rfl) (fun V X M => ?_)
  have Mm := M.m
  show V 0 [some (.ref L), some (.int (nI i)), some (.ref v), none, none] [] _ 0 0
  refine r_aload_n Mm dJx4a65c_add_7a177_0 rfl ?_
  refine r_iload_n Mm dJx4a65c_add_7a177_1 rfl ?_
  refine r_callV (As := [(.int (nI i))]) Mm dJx4a65c_add_7a177_2 rfl (ct_rangeCheck hfl h L i xs.length hL.1 hL.2.1 hi (by have := hL.2.2.1; omega)) (hL.1) rfl cw_Jx4a65c_135 ⟨Nat.le_of_ble_eq_true rfl, Nat.le_of_ble_eq_true rfl, Nat.le_of_ble_eq_true rfl⟩ (Nat.le_of_ble_eq_true rfl) ⟨(by first | exact Nat.le_of_ble_eq_true rfl | (show _ ≤ 1500; omega)), (by first | exact Nat.le_of_ble_eq_true rfl | (show _ ≤ 1500; omega))⟩ (fun r1 h2 p3 => ?_) (fun Er1 h2 p3 => False.elim p3)
  obtain ⟨rfl, rfl⟩ := p3
  show V 5 _ [] _ _ _
  refine r_aload_n Mm dJx4a65c_add_7a177_5 rfl ?_
  refine r_dup Mm dJx4a65c_add_7a177_6 rfl ?_
  refine r_getI Mm dJx4a65c_add_7a177_7 fi_Jx4a65c_63 (hL.1) rfl (i := 700) rfl ?_
  refine r_iconst (v := nI 1) Mm dJx4a65c_add_7a177_10 (by decide) ?_
  refine r_iadd Mm dJx4a65c_add_7a177_11 ?_
  refine r_putI (ty := .int) Mm dJx4a65c_add_7a177_12 fi_Jx4a65c_63 ki_7 rfl (hL.1) rfl (i := 700) rfl rfl (by decide +kernel) rfl rfl ?_
  refine r_aload_n Mm dJx4a65c_add_7a177_15 rfl ?_
  refine r_getI Mm dJx4a65c_add_7a177_16 fi_Jx4a65c_48 (hL.1) rfl (i := 702) rfl ?_
  refine r_top _ (nI (xs.length)) (hL.2.1) ?_
  refine r_dup Mm dJx4a65c_add_7a177_19 rfl ?_
  refine r_istore_n Mm dJx4a65c_add_7a177_20 (by decide) ?_
  show V 21 [some (.ref L), some (.int (nI i)), some (.ref v), some (.int (nI (xs.length))), none] _ _ _ _
  refine r_aload_n Mm dJx4a65c_add_7a177_21 rfl ?_
  refine r_getR Mm dJx4a65c_add_7a177_22 fi_Jx4a65c_9 (hL.1) rfl (i := 701) rfl (hD) ?_
  refine r_dup Mm dJx4a65c_add_7a177_25 rfl ?_
  refine r_astore Mm dJx4a65c_add_7a177_26 (by decide) ?_
  show V 28 [some (.ref L), some (.int (nI i)), some (.ref v), some (.int (nI (xs.length))), some (.ref (gN g 2))] _ _ _ _
  refine r_alenD Mm dJx4a65c_add_7a177_28 ?_
  refine r_icmp_neN (tgt := 38) Mm dJx4a65c_add_7a177_29 (by decide) (by omega) (by omega) (fun c4 => ?_) (fun c4 => ?_)
  · exact absurd c4 (by omega)
  · refine r_aload_n Mm dJx4a65c_add_7a177_32 rfl ?_
    refine r_callV (As := []) Mm dJx4a65c_add_7a177_33 rfl (ct_growE0 hfl (yF h 700 L (xF h 700 L + nI 1)) L xs.length hL.2.1 hL.1 hD (by omega)) (hL.1) rfl cw_Jx4a65c_129 ⟨Nat.le_of_ble_eq_true rfl, Nat.le_of_ble_eq_true rfl, Nat.le_of_ble_eq_true rfl⟩ (Nat.le_of_ble_eq_true rfl) ⟨(by first | exact Nat.le_of_ble_eq_true rfl | (show _ ≤ 1500; omega)), (by first | exact Nat.le_of_ble_eq_true rfl | (show _ ≤ 1500; omega))⟩ (fun r5 h6 p7 => ?_) (fun Er5 h6 p7 => False.elim p7)
    obtain ⟨q, hq, rfl, rfl⟩ := p7
    have hg : Fr (fun b => b = L) h (yP (yN (yF h 700 L (xF h 700 L + nI 1)) q 10 10) 701 L (some q)) := Fr.tr (Fr.tr (Fr.yF rfl) (Fr.yN (h := yF h 700 L (xF h 700 L + nI 1)) hq)) (Fr.yP rfl)
    have hz1 := hg.S hL.1
    have hz2 : xS (yP (yN (yF h 700 L (xF h 700 L + nI 1)) q 10 10) 701 L (some q)) q = some (10, 10) := yN_q
    have hz3 : xP (yP (yN (yF h 700 L (xF h 700 L + nI 1)) q 10 10) 701 L (some q)) 701 L = some q := u2_s _ _ _ _
    generalize yP (yN (yF h 700 L (xF h 700 L + nI 1)) q 10 10) 701 L (some q) = hz at hg hz1 hz2 hz3 ⊢
    show V 36 _ [(.ref q)] _ _ _
    refine r_astore Mm dJx4a65c_add_7a177_36 (by decide) ?_
    show V 38 [some (.ref L), some (.int (nI i)), some (.ref v), some (.int (nI (xs.length))), some (.ref q)] _ _ _ _
    refine r_aload Mm dJx4a65c_add_7a177_38 rfl ?_
    refine r_iload_n Mm dJx4a65c_add_7a177_40 rfl ?_
    refine r_aload Mm dJx4a65c_add_7a177_41 rfl ?_
    refine r_iload_n Mm dJx4a65c_add_7a177_43 rfl ?_
    refine r_iconst (v := nI 1) Mm dJx4a65c_add_7a177_44 (by decide) ?_
    refine r_iaddN Mm dJx4a65c_add_7a177_45 ?_
    refine r_iload_n Mm dJx4a65c_add_7a177_46 rfl ?_
    refine r_iload_n Mm dJx4a65c_add_7a177_47 rfl ?_
    refine r_isubN Mm dJx4a65c_add_7a177_48 (by omega) ?_
    refine r_copyN (sp := i) (dp := i + 1) (n := (xs.length) - i) Mm dJx4a65c_add_7a177_49 (hz2) (hz2) cy_Jx4a65c_112 cyn cys cyi ⟨by omega, by omega⟩ (by omega) (by omega) (Nat.le_of_ble_eq_true rfl) (Nat.le_of_ble_eq_true rfl) ?_ ?_
    · exact fun j hj y hy => absurd hj (by omega)
    refine r_aload Mm dJx4a65c_add_7a177_52 rfl ?_
    refine r_iload_n Mm dJx4a65c_add_7a177_54 rfl ?_
    refine r_aload_n Mm dJx4a65c_add_7a177_55 rfl ?_
    refine r_aastE Mm dJx4a65c_add_7a177_56 (hz2) (by omega) (by omega) (show isE hz v from hv.fr hg) ?_
    refine r_aload_n Mm dJx4a65c_add_7a177_57 rfl ?_
    refine r_iload_n Mm dJx4a65c_add_7a177_58 rfl ?_
    refine r_iconst (v := nI 1) Mm dJx4a65c_add_7a177_59 (by decide) ?_
    refine r_iaddN Mm dJx4a65c_add_7a177_60 ?_
    refine r_putI (ty := .int) Mm dJx4a65c_add_7a177_61 fi_Jx4a65c_48 ki_7 rfl (hz1) rfl (i := 702) rfl rfl (by decide +kernel) rfl rfl ?_
    refine r_vret M dJx4a65c_add_7a177_64 ?_
    exact ⟨rfl, lp_insB (h1 := hz) (fun b => b = L) (fun b _ hb => Or.inl hb) hg hz1 hL.2.2.2.1 hz3 (Or.inr hq) hz2 (by omega) (by omega) (by omega) (fun j w hj => absurd (List.getElem?_eq_some_iff.mp hj).1 (by omega)) hv hi (fun z => absurd hq z) rfl⟩
/-- add(i, E): an element ahead of the i-th -/
theorem ct_laddI {g : Gl} {l : Launch} (hfl : l.stackTraces = false) (h : Hp) (L i v : Nat) (xs : List Nat) (hL : IsL (gN g 2) h L xs) (hi : i ≤ xs.length) (hlen : xs.length < 600) (hv : isE h v) : CT g l iJx4a65c_add_7a177 6 [.ref L, .int (nI i), .ref v] h 1 1500 (pRel (fun r h' => r = none ∧ LiP (gN g 2) h L h' (xs.insertIdx i v))) := by
  rcases id hL.2.2.2.2 with ⟨hx, hE⟩ | ⟨D, n, hD, hd, h1, h2, h3, hB⟩
  · exact ct_addIA hfl h L i v xs hL hi hlen hv (by rw [hx]; rfl) hE
  · rcases Nat.lt_or_ge xs.length n with q | q
    · exact ct_addIB hfl h L i v xs hL hi hlen hv D n hD hd q h2 h3 hB
    · exact ct_addIC hfl h L i v xs hL hi hlen hv D n hD hd (by omega) h2 (by omega) hB
end
section
/-! ===== what the document says of places, keys and spans, in numbers of the machine ===== -/
abbrev K4 : Type := Int32 × Int32 × Int32 × Int32
/-- a key: its frame, x, y, ease -/
def kv (h : Hp) (a : Nat) : K4 := (xF h 0 a, xF h 1 a, xF h 2 a, xF h 3 a)
def esy (e p : Int32) : Int32 := if e * nI 8 + p < 0 ∨ nI 32 ≤ e * nI 8 + p then nI 0 else easeL.getD (e * nI 8 + p).toNatClampNeg 0
def shr (a b : K4) (f : Int32) : Int32 := if 0 < b.1 - a.1 then esy a.2.2.2 ((f - a.1) * nI 8 / (b.1 - a.1)) else nI 0
def betw (a b : K4) (f : Int32) : Int32 × Int32 := (a.2.1 + (b.2.1 - a.2.1) * shr a b f / nI 64, a.2.2.1 + (b.2.2.1 - a.2.2.1) * shr a b f / nI 64)
def ahead (ks : List K4) (f : Int32) : Nat := (ks.takeWhile (fun k => decide (k.1 < f))).length
theorem ahead_eq {ks : List K4} {f : Int32} {i : Nat} (hi : i ≤ ks.length) (h1 : ∀ (j : Nat) (k : K4), j < i → ks[j]? = some k → k.1 < f) (h2 : ∀ k : K4, ks[i]? = some k → ¬ k.1 < f) : ahead ks f = i := by
  induction ks generalizing i with
  | nil => simp at hi; subst hi; rfl
  | cons a t ih =>
    cases i with
    | zero =>
      have := h2 a (by simp)
      simp [ahead, this]
    | succ i =>
      have ha := h1 0 a (by omega) (by simp)
      have e := ih (i := i) (by simpa using hi) (fun j k hj hk => h1 (j + 1) k (by omega) (by simpa using hk)) (fun k hk => h2 k (by simpa using hk))
      simp only [ahead, List.takeWhile_cons, ha, decide_true, if_true, List.length_cons]
      simp only [ahead] at e
      rw [e]
theorem ahead_le (ks : List K4) (f : Int32) : ahead ks f ≤ ks.length := (List.takeWhile_sublist _).length_le
def hasK (ks : List K4) (f : Int32) : Bool := (ks[ahead ks f]?).any (fun k => k.1 == f)
def behind (bar : Int32) (ks : List K4) (n : Nat) (f : Int32) : Int32 × Int32 :=
  if ks.length = 0 then (bar, nI 0) else if n = 0 then (match ks[0]? with | some k => (k.2.1, k.2.2.1) | none => (bar, nI 0)) else if ks.length ≤ n then (match ks[ks.length - 1]? with | some k => (k.2.1, k.2.2.1) | none => (bar, nI 0)) else (match ks[n - 1]?, ks[n]? with | some a, some b => betw a b f | _, _ => (bar, nI 0))
def trk (bar : Int32) (ks : List K4) (f : Int32) : Int32 × Int32 := behind bar ks (ahead ks (f + nI 1)) f
def sq2 (dx y : Int32) : Int32 := dx * dx + y * y
def rootF (s : Int32) : Nat → Int32 → Int32
  | 0, r => r
  | n + 1, r => rootF s n (if s < (r + nI (2 ^ n)) * (r + nI (2 ^ n)) then r else r + nI (2 ^ n))
def rootB (s : Int32) : Int32 := rootF s 11 (nI 0)
def meetS (a b : Int32 × Int32) : Bool := decide (a.1 < b.1 + b.2) && decide (b.1 < a.1 + a.2)
def sv (h : Hp) (a : Nat) : Int32 × Int32 := (xF h 400 a, xF h 401 a)
def pXY (h : Hp) (p : Nat) (v : Int32 × Int32) : Hp := yF (yF h 100 p v.1) 101 p v.2
def hasC (c : Nat → Bool) (n : Int32) : Bool := decide (0 ≤ n) && decide (n < nI 8) && c n.toNatClampNeg
theorem hasC_nI {c : Nat → Bool} {i : Nat} (hi : i < 8) : hasC c (nI i) = c i := by
  simp only [hasC]
  rw [nI_clamp (by omega)]
  have h1 : (0 : Int32) ≤ nI i := nI_pos' (by omega)
  have h2 : nI i < nI 8 := nI_lt hi (by decide)
  simp [h1, h2]
set_option maxRecDepth 100000 in
set_option maxHeartbeats 4000000 in
theorem ct_easing {g : Gl} {l : Launch} (hfl : l.stackTraces = false) (h : Hp) (e p : Int32) : CT g l iX5_easing 1 [.int e, .int p] h 0 0 (pRet (some (.int (esy e p))) h) := by
  refine ct_mk hfl (by decide) (Nat.le_of_ble_eq_true rfl) (by intro v hv; simp only [List.mem_cons, List.not_mem_nil, or_false] at hv; rcases hv with rfl | rfl <;> rfl) (fun V X M => ?_)
  have Mm := M.m
  show V 0 [some (.int e), some (.int p), none] [] _ 0 0
  refine r_iload_n Mm dX5_easing_0 rfl ?_
  refine r_bipush (v := nI 8) Mm dX5_easing_1 (by decide) ?_
  refine r_imul Mm dX5_easing_3 ?_
  refine r_iload_n Mm dX5_easing_4 rfl ?_
  refine r_iadd Mm dX5_easing_5 ?_
  refine r_istore_n Mm dX5_easing_6 (by decide) ?_
  show V 7 [some (.int e), some (.int p), some (.int ((e * (nI 8)) + p))] _ _ _ _
  refine r_iload_n Mm dX5_easing_7 rfl ?_
  refine r_if_lt (tgt := 19) Mm dX5_easing_8 (by decide) (fun c1 => ?_) (fun c1 => ?_)
  · refine r_iconst (v := nI 0) Mm dX5_easing_19 (by decide) ?_
    refine r_goto (tgt := 28) Mm dX5_easing_20 (by decide) ?_
    refine r_iret M dX5_easing_28 ?_
    refine ⟨?_, rfl⟩
    simp only [esy]
    rw [if_pos (Or.inl c1)]
  · refine r_iload_n Mm dX5_easing_11 rfl ?_
    refine r_getsE Mm dX5_easing_12 fs_X5_249 ?_
    refine r_alenE Mm dX5_easing_15 ?_
    refine r_icmp_lt (tgt := 23) Mm dX5_easing_16 (by decide) (fun c2 => ?_) (fun c2 => ?_)
    · refine r_getsE Mm dX5_easing_23 fs_X5_249 ?_
      refine r_iload_n Mm dX5_easing_26 rfl ?_
      refine r_ialdE Mm dX5_easing_27 (vp_of c1 c2 (by decide)) ?_
      refine r_iret M dX5_easing_28 ?_
      refine ⟨?_, rfl⟩
      simp only [esy]
      rw [if_neg (fun z => z.elim c1 (fun q => Int32.not_lt.mpr q c2))]
    · refine r_iconst (v := nI 0) Mm dX5_easing_19 (by decide) ?_
      refine r_goto (tgt := 28) Mm dX5_easing_20 (by decide) ?_
      refine r_iret M dX5_easing_28 ?_
      refine ⟨?_, rfl⟩
      simp only [esy]
      rw [if_pos (Or.inr (Int32.not_lt.mp c2))]
set_option maxRecDepth 100000 in
set_option maxHeartbeats 4000000 in
theorem ct_root {g : Gl} {l : Launch} (hfl : l.stackTraces = false) (h : Hp) (s : Int32) : CT g l iX5_rootBelow 1 [.int s] h 0 0 (pRet (some (.int (rootB s))) h) := by
  refine ct_mk hfl (by decide) (Nat.le_of_ble_eq_true rfl) (by intro v hv; simp only [List.mem_cons, List.not_mem_nil, or_false] at hv; rcases hv with rfl <;> rfl) (fun V X M => ?_)
  have Mm := M.m
  show V 0 [some (.int s), none, none, none] [] _ 0 0
  refine r_iconst (v := nI 0) Mm dX5_rootBelow_0 (by decide) ?_
  refine r_istore_n Mm dX5_rootBelow_1 (by decide) ?_
  show V 2 [some (.int s), some (.int (nI 0)), none, none] _ _ _ _
  refine r_sipush (v := nI 1024) Mm dX5_rootBelow_2 (by decide) ?_
  refine r_istore_n Mm dX5_rootBelow_5 (by decide) ?_
  show V 6 [some (.int s), some (.int (nI 0)), some (.int (nI 1024)), none] _ _ _ _
  have loop : ∀ (n : Nat) (k : Nat) (r : Int32) (x : Option Value), k < n → (k ≤ 11) → (rootF s k r = rootB s) → V 6 [some (.int s), some (.int r), some (.int (nI (if k = 0 then 0 else 2 ^ (k - 1)))), x] [] h 0 0 := by
    intro n
    induction n with
    | zero => intro k r x hm; exact absurd hm (Nat.not_lt_zero _)
    | succ n ih =>
      intro k r x hm hk hr
      cases k with
      | zero =>
        refine r_iload_n Mm dX5_rootBelow_6 rfl ?_
        refine r_if_le (tgt := 30) Mm dX5_rootBelow_7 (by decide) (fun _ => ?_) (fun c => absurd (show nI (if 0 = 0 then 0 else 2 ^ (0 - 1)) ≤ 0 by decide) c)
        refine r_iload_n Mm dX5_rootBelow_30 rfl ?_
        refine r_iret M dX5_rootBelow_31 ?_
        exact ⟨by rw [← hr]; rfl, rfl⟩
      | succ k =>
        have hpw : (2:Nat) ^ k < 2 ^ 31 := Nat.pow_lt_pow_right (by decide) (by omega)
        show V 6 [some (.int s), some (.int r), some (.int (nI (2 ^ k))), _] [] h 0 0
        refine r_iload_n Mm dX5_rootBelow_6 rfl ?_
        refine r_if_le (tgt := 30) Mm dX5_rootBelow_7 (by decide) (fun c => absurd ((nI_le0 hpw).mp c) (Nat.ne_of_gt (Nat.pow_pos (by decide)))) (fun _ => ?_)
        refine r_iload_n Mm dX5_rootBelow_10 rfl ?_
        refine r_iload_n Mm dX5_rootBelow_11 rfl ?_
        refine r_iadd Mm dX5_rootBelow_12 ?_
        refine r_istore_n Mm dX5_rootBelow_13 (by decide) ?_
        show V 14 [some (.int s), some (.int r), some (.int (nI (2 ^ k))), some (.int (r + (nI (2 ^ k))))] _ _ _ _
        refine r_iload_n Mm dX5_rootBelow_14 rfl ?_
        refine r_iload_n Mm dX5_rootBelow_15 rfl ?_
        refine r_imul Mm dX5_rootBelow_16 ?_
        refine r_iload_n Mm dX5_rootBelow_17 rfl ?_
        refine r_icmp_gt (tgt := 23) Mm dX5_rootBelow_18 (by decide) (fun c1 => ?_) (fun c1 => ?_)
        · refine r_iload_n Mm dX5_rootBelow_23 rfl ?_
          refine r_iconst (v := nI 2) Mm dX5_rootBelow_24 (by decide) ?_
          refine r_idiv Mm dX5_rootBelow_25 (by decide) ?_
          refine r_top _ (nI (if k = 0 then 0 else 2 ^ (k - 1))) (by rw [pk_div hpw (by decide) (by decide)]; congr 1; cases k with | zero => rfl | succ k => simp [Nat.pow_succ]) ?_
          refine r_istore_n Mm dX5_rootBelow_26 (by decide) ?_
          refine r_goto (tgt := 6) Mm dX5_rootBelow_27 (by decide) ?_
          exact ih k r _ (by omega) (by omega) (by rw [← hr]; show _ = rootF s k (if s < (r + nI (2 ^ k)) * (r + nI (2 ^ k)) then r else r + nI (2 ^ k)); rw [if_pos c1])
        · refine r_iload_n Mm dX5_rootBelow_21 rfl ?_
          refine r_istore_n Mm dX5_rootBelow_22 (by decide) ?_
          show V 23 [some (.int s), some (.int (r + (nI (2 ^ k)))), some (.int (nI (2 ^ k))), some (.int (r + (nI (2 ^ k))))] _ _ _ _
          refine r_iload_n Mm dX5_rootBelow_23 rfl ?_
          refine r_iconst (v := nI 2) Mm dX5_rootBelow_24 (by decide) ?_
          refine r_idiv Mm dX5_rootBelow_25 (by decide) ?_
          refine r_top _ (nI (if k = 0 then 0 else 2 ^ (k - 1))) (by rw [pk_div hpw (by decide) (by decide)]; congr 1; cases k with | zero => rfl | succ k => simp [Nat.pow_succ]) ?_
          refine r_istore_n Mm dX5_rootBelow_26 (by decide) ?_
          refine r_goto (tgt := 6) Mm dX5_rootBelow_27 (by decide) ?_
          exact ih k (r + nI (2 ^ k)) _ (by omega) (by omega) (by rw [← hr]; show _ = rootF s k (if s < (r + nI (2 ^ k)) * (r + nI (2 ^ k)) then r else r + nI (2 ^ k)); rw [if_neg c1])
  exact loop (12) 11 (nI 0) none (by omega) (by decide) rfl
set_option maxRecDepth 100000 in
set_option maxHeartbeats 4000000 in
theorem ct_key {g : Gl} {l : Launch} (hfl : l.stackTraces = false) (h : Hp) (a : Nat) (f x y e : Int32) (hs : xS h a = some (0, 0)) : CT g l iX0_init 2 [.ref a, .int f, .int x, .int y, .int e] h 0 0 (pRet none (yF (yF (yF (yF h 0 a f) 1 a x) 2 a y) 3 a e)) := by
  refine ct_mk hfl (by decide) (Nat.le_of_ble_eq_true rfl) (by intro v hv; simp only [List.mem_cons, List.not_mem_nil, or_false] at hv; rcases hv with rfl | rfl | rfl | rfl | rfl <;> rfl) (fun V X M => ?_)
  have Mm := M.m
  show V 0 [some (.ref a), some (.int f), some (.int x), some (.int y), some (.int e)] [] _ 0 0
  refine r_aload_n Mm dX0_init_0 rfl ?_
  refine r_objInit Mm dX0_init_1 co_X0_1 coi coc (Nat.le_of_ble_eq_true rfl) (Nat.le_of_ble_eq_true rfl) ?_
  refine r_aload_n Mm dX0_init_4 rfl ?_
  refine r_iload_n Mm dX0_init_5 rfl ?_
  refine r_putIF (ty := .int) Mm dX0_init_6 fi_X0_7 ki_0 rfl (hs) rfl (i := 0) rfl rfl (by decide +kernel) rfl rfl rfl rfl ?_
  refine r_aload_n Mm dX0_init_9 rfl ?_
  refine r_iload_n Mm dX0_init_10 rfl ?_
  refine r_putIF (ty := .int) Mm dX0_init_11 fi_X0_13 ki_0 rfl (hs) rfl (i := 1) rfl rfl (by decide +kernel) rfl rfl rfl rfl ?_
  refine r_aload_n Mm dX0_init_14 rfl ?_
  refine r_iload_n Mm dX0_init_15 rfl ?_
  refine r_putIF (ty := .int) Mm dX0_init_16 fi_X0_16 ki_0 rfl (hs) rfl (i := 2) rfl rfl (by decide +kernel) rfl rfl rfl rfl ?_
  refine r_aload_n Mm dX0_init_19 rfl ?_
  refine r_iload Mm dX0_init_20 rfl ?_
  refine r_putIF (ty := .int) Mm dX0_init_22 fi_X0_19 ki_0 rfl (hs) rfl (i := 3) rfl rfl (by decide +kernel) rfl rfl rfl rfl ?_
  refine r_vret M dX0_init_25 ?_
  exact ⟨rfl, rfl⟩
set_option maxRecDepth 100000 in
set_option maxHeartbeats 4000000 in
theorem ct_span {g : Gl} {l : Launch} (hfl : l.stackTraces = false) (h : Hp) (a : Nat) (x y : Int32) (hs : xS h a = some (4, 0)) : CT g l iX4_init 2 [.ref a, .int x, .int y] h 0 0 (pRet none (yF (yF h 400 a x) 401 a y)) := by
  refine ct_mk hfl (by decide) (Nat.le_of_ble_eq_true rfl) (by intro v hv; simp only [List.mem_cons, List.not_mem_nil, or_false] at hv; rcases hv with rfl | rfl | rfl <;> rfl) (fun V X M => ?_)
  have Mm := M.m
  show V 0 [some (.ref a), some (.int x), some (.int y)] [] _ 0 0
  refine r_aload_n Mm dX4_init_0 rfl ?_
  refine r_objInit Mm dX4_init_1 co_X4_1 coi coc (Nat.le_of_ble_eq_true rfl) (Nat.le_of_ble_eq_true rfl) ?_
  refine r_aload_n Mm dX4_init_4 rfl ?_
  refine r_iload_n Mm dX4_init_5 rfl ?_
  refine r_putIF (ty := .int) Mm dX4_init_6 fi_X4_7 ki_4 rfl (hs) rfl (i := 400) rfl rfl (by decide +kernel) rfl rfl rfl rfl ?_
  refine r_aload_n Mm dX4_init_9 rfl ?_
  refine r_iload_n Mm dX4_init_10 rfl ?_
  refine r_putIF (ty := .int) Mm dX4_init_11 fi_X4_13 ki_4 rfl (hs) rfl (i := 401) rfl rfl (by decide +kernel) rfl rfl rfl rfl ?_
  refine r_vret M dX4_init_14 ?_
  exact ⟨rfl, rfl⟩
set_option maxRecDepth 100000 in
set_option maxHeartbeats 4000000 in
theorem ct_meets {g : Gl} {l : Launch} (hfl : l.stackTraces = false) (h : Hp) (a b : Nat) (hs : xS h a = some (4, 0)) (hb : xS h b = some (4, 0)) : CT g l iX4_meets 1 [.ref a, .ref b] h 0 0 (pRet (some (.int (bI (meetS (sv h a) (sv h b))))) h) := by
  refine ct_mk hfl (by decide) (Nat.le_of_ble_eq_true rfl) (by intro v hv; simp only [List.mem_cons, List.not_mem_nil, or_false] at hv; rcases hv with rfl | rfl <;> rfl) (fun V X M => ?_)
  have Mm := M.m
  show V 0 [some (.ref a), some (.ref b)] [] _ 0 0
  refine r_aload_n Mm dX4_meets_0 rfl ?_
  refine r_getI Mm dX4_meets_1 fi_X4_7 (hs) rfl (i := 400) rfl ?_
  refine r_aload_n Mm dX4_meets_4 rfl ?_
  refine r_getI Mm dX4_meets_5 fi_X4_7 (hb) rfl (i := 400) rfl ?_
  refine r_aload_n Mm dX4_meets_8 rfl ?_
  refine r_getI Mm dX4_meets_9 fi_X4_13 (hb) rfl (i := 401) rfl ?_
  refine r_iadd Mm dX4_meets_12 ?_
  refine r_icmp_ge (tgt := 36) Mm dX4_meets_13 (by decide) (fun c1 => ?_) (fun c1 => ?_)
  · refine r_iconst (v := nI 0) Mm dX4_meets_36 (by decide) ?_
    refine r_zret M dX4_meets_37 (by decide) ?_
    refine ⟨?_, rfl⟩
    rw [show meetS (sv h a) (sv h b) = false by simp [meetS, sv, Int32.not_lt.mpr c1]]; rfl
  · refine r_aload_n Mm dX4_meets_16 rfl ?_
    refine r_getI Mm dX4_meets_17 fi_X4_7 (hb) rfl (i := 400) rfl ?_
    refine r_aload_n Mm dX4_meets_20 rfl ?_
    refine r_getI Mm dX4_meets_21 fi_X4_7 (hs) rfl (i := 400) rfl ?_
    refine r_aload_n Mm dX4_meets_24 rfl ?_
    refine r_getI Mm dX4_meets_25 fi_X4_13 (hs) rfl (i := 401) rfl ?_
    refine r_iadd Mm dX4_meets_28 ?_
    refine r_icmp_ge (tgt := 36) Mm dX4_meets_29 (by decide) (fun c2 => ?_) (fun c2 => ?_)
    · refine r_iconst (v := nI 0) Mm dX4_meets_36 (by decide) ?_
      refine r_zret M dX4_meets_37 (by decide) ?_
      refine ⟨?_, rfl⟩
      rw [show meetS (sv h a) (sv h b) = false by simp [meetS, sv, Int32.not_lt.mpr c2]]; rfl
    · refine r_iconst (v := nI 1) Mm dX4_meets_32 (by decide) ?_
      refine r_goto (tgt := 37) Mm dX4_meets_33 (by decide) ?_
      refine r_zret M dX4_meets_37 (by decide) ?_
      refine ⟨?_, rfl⟩
      rw [show meetS (sv h a) (sv h b) = true by simp only [meetS, sv, Int32.not_le.mp c1, Int32.not_le.mp c2, decide_true, Bool.and_self]]; rfl
set_option maxRecDepth 100000 in
set_option maxHeartbeats 4000000 in
theorem ct_placeInit {g : Gl} {l : Launch} (hfl : l.stackTraces = false) (h : Hp) (a : Nat) : CT g l iX1_init 2 [.ref a] h 0 0 (pRet none h) := by
  refine ct_mk hfl (by decide) (Nat.le_of_ble_eq_true rfl) (by intro v hv; simp only [List.mem_cons, List.not_mem_nil, or_false] at hv; rcases hv with rfl <;> rfl) (fun V X M => ?_)
  have Mm := M.m
  show V 0 [some (.ref a)] [] _ 0 0
  refine r_aload_n Mm dX1_init_0 rfl ?_
  refine r_objInit Mm dX1_init_1 co_X1_3 coi coc (Nat.le_of_ble_eq_true rfl) (Nat.le_of_ble_eq_true rfl) ?_
  refine r_vret M dX1_init_4 ?_
  exact ⟨rfl, rfl⟩
set_option maxRecDepth 100000 in
set_option maxHeartbeats 4000000 in
theorem ct_together {g : Gl} {l : Launch} (hfl : l.stackTraces = false) (h : Hp) (p : Nat) (hs : xS h p = some (1, 0)) : CT g l iX1_together 1 [.ref p] h 0 0 (pRet (some (.int (nI 1000 * xF h 100 p + xF h 101 p))) h) := by
  refine ct_mk hfl (by decide) (Nat.le_of_ble_eq_true rfl) (by intro v hv; simp only [List.mem_cons, List.not_mem_nil, or_false] at hv; rcases hv with rfl <;> rfl) (fun V X M => ?_)
  have Mm := M.m
  show V 0 [some (.ref p)] [] _ 0 0
  refine r_sipush (v := nI 1000) Mm dX1_together_0 (by decide) ?_
  refine r_aload_n Mm dX1_together_3 rfl ?_
  refine r_getI Mm dX1_together_4 fi_X1_9 (hs) rfl (i := 100) rfl ?_
  refine r_imul Mm dX1_together_7 ?_
  refine r_aload_n Mm dX1_together_8 rfl ?_
  refine r_getI Mm dX1_together_9 fi_X1_15 (hs) rfl (i := 101) rfl ?_
  refine r_iadd Mm dX1_together_12 ?_
  refine r_iret M dX1_together_13 ?_
  exact ⟨rfl, rfl⟩
set_option maxRecDepth 100000 in
set_option maxHeartbeats 4000000 in
theorem ct_putAt {g : Gl} {l : Launch} (hfl : l.stackTraces = false) (h : Hp) (p k : Nat) (hs : xS h p = some (1, 0)) (hk : xS h k = some (0, 0)) : CT g l iX1_putAt 1 [.ref p, .ref k] h 0 0 (pRet none (pXY h p ((kv h k).2.1, (kv h k).2.2.1))) := by
  refine ct_mk hfl (by decide) (Nat.le_of_ble_eq_true rfl) (by intro v hv; simp only [List.mem_cons, List.not_mem_nil, or_false] at hv; rcases hv with rfl | rfl <;> rfl) (fun V X M => ?_)
  have Mm := M.m
  show V 0 [some (.ref p), some (.ref k)] [] _ 0 0
  refine r_aload_n Mm dX1_putAt_0 rfl ?_
  refine r_aload_n Mm dX1_putAt_1 rfl ?_
  refine r_getI Mm dX1_putAt_2 fi_X1_18 (hk) rfl (i := 1) rfl ?_
  refine r_putI (ty := .int) Mm dX1_putAt_5 fi_X1_9 ki_1 rfl (hs) rfl (i := 100) rfl rfl (by decide +kernel) rfl rfl ?_
  refine r_aload_n Mm dX1_putAt_8 rfl ?_
  refine r_aload_n Mm dX1_putAt_9 rfl ?_
  refine r_getI Mm dX1_putAt_10 fi_X1_21 (hk) rfl (i := 2) rfl ?_
  refine r_putI (ty := .int) Mm dX1_putAt_13 fi_X1_15 ki_1 rfl (hs) rfl (i := 101) rfl rfl (by decide +kernel) rfl rfl ?_
  refine r_vret M dX1_putAt_16 ?_
  exact ⟨rfl, rfl⟩
set_option maxRecDepth 100000 in
set_option maxHeartbeats 4000000 in
theorem ct_putBetween {g : Gl} {l : Launch} (hfl : l.stackTraces = false) (h : Hp) (p a b : Nat) (f : Int32) (hs : xS h p = some (1, 0)) (ha : xS h a = some (0, 0)) (hb : xS h b = some (0, 0)) : CT g l iX1_putBetween 2 [.ref p, .ref a, .ref b, .int f] h 0 0 (pRet none (pXY h p (betw (kv h a) (kv h b) f))) := by
  refine ct_mk hfl (by decide) (Nat.le_of_ble_eq_true rfl) (by intro v hv; simp only [List.mem_cons, List.not_mem_nil, or_false] at hv; rcases hv with rfl | rfl | rfl | rfl <;> rfl) (fun V X M => ?_)
  have Mm := M.m
  show V 0 [some (.ref p), some (.ref a), some (.ref b), some (.int f), none, none, none] [] _ 0 0
  refine r_aload_n Mm dX1_putBetween_0 rfl ?_
  refine r_getI Mm dX1_putBetween_1 fi_X1_22 (hb) rfl (i := 0) rfl ?_
  refine r_aload_n Mm dX1_putBetween_4 rfl ?_
  refine r_getI Mm dX1_putBetween_5 fi_X1_22 (ha) rfl (i := 0) rfl ?_
  refine r_isub Mm dX1_putBetween_8 ?_
  refine r_istore Mm dX1_putBetween_9 (by decide) ?_
  show V 11 [some (.ref p), some (.ref a), some (.ref b), some (.int f), some (.int ((xF h 0 b) - (xF h 0 a))), none, none] _ _ _ _
  refine r_iload_n Mm dX1_putBetween_11 rfl ?_
  refine r_aload_n Mm dX1_putBetween_12 rfl ?_
  refine r_getI Mm dX1_putBetween_13 fi_X1_22 (ha) rfl (i := 0) rfl ?_
  refine r_isub Mm dX1_putBetween_16 ?_
  refine r_istore Mm dX1_putBetween_17 (by decide) ?_
  show V 19 [some (.ref p), some (.ref a), some (.ref b), some (.int f), some (.int ((xF h 0 b) - (xF h 0 a))), some (.int (f - (xF h 0 a))), none] _ _ _ _
  refine r_iload Mm dX1_putBetween_19 rfl ?_
  refine r_if_le (tgt := 42) Mm dX1_putBetween_21 (by decide) (fun c1 => ?_) (fun c1 => ?_)
  · refine r_iconst (v := nI 0) Mm dX1_putBetween_42 (by decide) ?_
    refine r_istore Mm dX1_putBetween_43 (by decide) ?_
    show V 45 [some (.ref p), some (.ref a), some (.ref b), some (.int f), some (.int ((xF h 0 b) - (xF h 0 a))), some (.int (f - (xF h 0 a))), some (.int (nI 0))] _ _ _ _
    refine r_aload_n Mm dX1_putBetween_45 rfl ?_
    refine r_aload_n Mm dX1_putBetween_46 rfl ?_
    refine r_getI Mm dX1_putBetween_47 fi_X1_18 (ha) rfl (i := 1) rfl ?_
    refine r_aload_n Mm dX1_putBetween_50 rfl ?_
    refine r_getI Mm dX1_putBetween_51 fi_X1_18 (hb) rfl (i := 1) rfl ?_
    refine r_aload_n Mm dX1_putBetween_54 rfl ?_
    refine r_getI Mm dX1_putBetween_55 fi_X1_18 (ha) rfl (i := 1) rfl ?_
    refine r_isub Mm dX1_putBetween_58 ?_
    refine r_iload Mm dX1_putBetween_59 rfl ?_
    refine r_imul Mm dX1_putBetween_61 ?_
    refine r_bipush (v := nI 64) Mm dX1_putBetween_62 (by decide) ?_
    refine r_idiv Mm dX1_putBetween_64 (by decide) ?_
    refine r_iadd Mm dX1_putBetween_65 ?_
    refine r_putI (ty := .int) Mm dX1_putBetween_66 fi_X1_9 ki_1 rfl (hs) rfl (i := 100) rfl rfl (by decide +kernel) rfl rfl ?_
    refine r_aload_n Mm dX1_putBetween_69 rfl ?_
    refine r_aload_n Mm dX1_putBetween_70 rfl ?_
    refine r_getI Mm dX1_putBetween_71 fi_X1_21 (ha) rfl (i := 2) rfl ?_
    refine r_aload_n Mm dX1_putBetween_74 rfl ?_
    refine r_getI Mm dX1_putBetween_75 fi_X1_21 (hb) rfl (i := 2) rfl ?_
    refine r_aload_n Mm dX1_putBetween_78 rfl ?_
    refine r_getI Mm dX1_putBetween_79 fi_X1_21 (ha) rfl (i := 2) rfl ?_
    refine r_isub Mm dX1_putBetween_82 ?_
    refine r_iload Mm dX1_putBetween_83 rfl ?_
    refine r_imul Mm dX1_putBetween_85 ?_
    refine r_bipush (v := nI 64) Mm dX1_putBetween_86 (by decide) ?_
    refine r_idiv Mm dX1_putBetween_88 (by decide) ?_
    refine r_iadd Mm dX1_putBetween_89 ?_
    refine r_putI (ty := .int) Mm dX1_putBetween_90 fi_X1_15 ki_1 rfl (hs) rfl (i := 101) rfl rfl (by decide +kernel) rfl rfl ?_
    refine r_vret M dX1_putBetween_93 ?_
    refine ⟨rfl, ?_⟩
    show pXY h p (betw (kv h a) (kv h b) f) = _
    have e : shr (kv h a) (kv h b) f = _ := if_neg (Int32.not_lt.mpr c1)
    simp only [betw, e]
    rfl
  · refine r_aload_n Mm dX1_putBetween_24 rfl ?_
    refine r_getI Mm dX1_putBetween_25 fi_X1_25 (ha) rfl (i := 3) rfl ?_
    refine r_iload Mm dX1_putBetween_28 rfl ?_
    refine r_bipush (v := nI 8) Mm dX1_putBetween_30 (by decide) ?_
    refine r_imul Mm dX1_putBetween_32 ?_
    refine r_iload Mm dX1_putBetween_33 rfl ?_
    refine r_idiv Mm dX1_putBetween_35 (fun z => c1 (by rw [z]; decide)) ?_
    refine r_callSN (As := [(.int (xF h 3 a)), (.int (((f - (xF h 0 a)) * (nI 8)) / ((xF h 0 b) - (xF h 0 a))))]) Mm dX1_putBetween_36 rfl (ct_easing hfl h (xF h 3 a) (((f - (xF h 0 a)) * (nI 8)) / ((xF h 0 b) - (xF h 0 a)))) cw_X1_28 ⟨Nat.le_of_ble_eq_true rfl, Nat.le_of_ble_eq_true rfl, Nat.le_of_ble_eq_true rfl⟩ (Nat.le_of_ble_eq_true rfl) ⟨Nat.le_of_ble_eq_true rfl, Nat.le_of_ble_eq_true rfl⟩ (fun r2 h3 p4 => ?_) (fun _ _ z => z)
    obtain ⟨rfl, rfl⟩ := p4
    show V 39 _ [(.int (esy (xF h 3 a) (((f - (xF h 0 a)) * (nI 8)) / ((xF h 0 b) - (xF h 0 a)))))] _ _ _
    refine r_goto (tgt := 43) Mm dX1_putBetween_39 (by decide) ?_
    refine r_istore Mm dX1_putBetween_43 (by decide) ?_
    show V 45 [some (.ref p), some (.ref a), some (.ref b), some (.int f), some (.int ((xF h 0 b) - (xF h 0 a))), some (.int (f - (xF h 0 a))), some (.int (esy (xF h 3 a) (((f - (xF h 0 a)) * (nI 8)) / ((xF h 0 b) - (xF h 0 a)))))] _ _ _ _
    refine r_aload_n Mm dX1_putBetween_45 rfl ?_
    refine r_aload_n Mm dX1_putBetween_46 rfl ?_
    refine r_getI Mm dX1_putBetween_47 fi_X1_18 (ha) rfl (i := 1) rfl ?_
    refine r_aload_n Mm dX1_putBetween_50 rfl ?_
    refine r_getI Mm dX1_putBetween_51 fi_X1_18 (hb) rfl (i := 1) rfl ?_
    refine r_aload_n Mm dX1_putBetween_54 rfl ?_
    refine r_getI Mm dX1_putBetween_55 fi_X1_18 (ha) rfl (i := 1) rfl ?_
    refine r_isub Mm dX1_putBetween_58 ?_
    refine r_iload Mm dX1_putBetween_59 rfl ?_
    refine r_imul Mm dX1_putBetween_61 ?_
    refine r_bipush (v := nI 64) Mm dX1_putBetween_62 (by decide) ?_
    refine r_idiv Mm dX1_putBetween_64 (by decide) ?_
    refine r_iadd Mm dX1_putBetween_65 ?_
    refine r_putI (ty := .int) Mm dX1_putBetween_66 fi_X1_9 ki_1 rfl (hs) rfl (i := 100) rfl rfl (by decide +kernel) rfl rfl ?_
    refine r_aload_n Mm dX1_putBetween_69 rfl ?_
    refine r_aload_n Mm dX1_putBetween_70 rfl ?_
    refine r_getI Mm dX1_putBetween_71 fi_X1_21 (ha) rfl (i := 2) rfl ?_
    refine r_aload_n Mm dX1_putBetween_74 rfl ?_
    refine r_getI Mm dX1_putBetween_75 fi_X1_21 (hb) rfl (i := 2) rfl ?_
    refine r_aload_n Mm dX1_putBetween_78 rfl ?_
    refine r_getI Mm dX1_putBetween_79 fi_X1_21 (ha) rfl (i := 2) rfl ?_
    refine r_isub Mm dX1_putBetween_82 ?_
    refine r_iload Mm dX1_putBetween_83 rfl ?_
    refine r_imul Mm dX1_putBetween_85 ?_
    refine r_bipush (v := nI 64) Mm dX1_putBetween_86 (by decide) ?_
    refine r_idiv Mm dX1_putBetween_88 (by decide) ?_
    refine r_iadd Mm dX1_putBetween_89 ?_
    refine r_putI (ty := .int) Mm dX1_putBetween_90 fi_X1_15 ki_1 rfl (hs) rfl (i := 101) rfl rfl (by decide +kernel) rfl rfl ?_
    refine r_vret M dX1_putBetween_93 ?_
    refine ⟨rfl, ?_⟩
    show pXY h p (betw (kv h a) (kv h b) f) = _
    have e : shr (kv h a) (kv h b) f = _ := if_pos (Int32.not_le.mp c1)
    simp only [betw, e]
    rfl
set_option maxRecDepth 100000 in
set_option maxHeartbeats 4000000 in
theorem ct_showInit {g : Gl} {l : Launch} (hfl : l.stackTraces = false) (h : Hp) (a b : Nat) (hs : xS h a = some (3, 0)) : CT g l iX3_init 2 [.ref a, .ref b] h 1 8 (pRel (fun r h' => ∃ q : Nat, xS h q = none ∧ r = none ∧ h' = yF (yF (yF (yF (yP (yN (yP h 300 a (some b)) q 9 8) 301 a (some q)) 302 a (nI 0)) 303 a (nI 50)) 304 a (nI 0)) 305 a (nI 0))) := by
  refine ct_mk hfl (by decide) (Nat.le_of_ble_eq_true rfl) (by intro v hv; simp only [List.mem_cons, List.not_mem_nil, or_false] at hv; rcases hv with rfl | rfl <;> rfl) (fun V X M => ?_)
  have Mm := M.m
  show V 0 [some (.ref a), some (.ref b)] [] _ 0 0
  refine r_aload_n Mm dX3_init_0 rfl ?_
  refine r_objInit Mm dX3_init_1 co_X3_3 coi coc (Nat.le_of_ble_eq_true rfl) (Nat.le_of_ble_eq_true rfl) ?_
  refine r_aload_n Mm dX3_init_4 rfl ?_
  refine r_aload_n Mm dX3_init_5 rfl ?_
  refine r_putRF (v := some b) (ty := .object "Puppetloom$Span") Mm dX3_init_6 fi_X3_9 ki_3 rfl (hs) rfl (i := 300) rfl rfl (by decide +kernel) rfl rfl rfl rfl ?_
  refine r_aload_n Mm dX3_init_9 rfl ?_
  refine r_bipush (v := nI 8) Mm dX3_init_10 (by decide) ?_
  refine r_newZ (N := 8) Mm dX3_init_12 ac_boolean (nI_pos (by omega)) (nI_clamp (by omega)) (by first | decide | (show _ * 4 ≤ _; omega)) ⟨Nat.le_of_ble_eq_true rfl, Nat.le_of_ble_eq_true rfl⟩ (fun q1 hq1 => ?_)
  refine r_putRF (v := some q1) (ty := .array .boolean) Mm dX3_init_14 fi_X3_15 ki_3 rfl (yN_S hq1 (hs)) rfl (i := 301) rfl rfl (by decide +kernel) rfl rfl rfl rfl ?_
  refine r_aload_n Mm dX3_init_17 rfl ?_
  refine r_iconst (v := nI 0) Mm dX3_init_18 (by decide) ?_
  refine r_putI (ty := .int) Mm dX3_init_19 fi_X3_19 ki_3 rfl (yN_S hq1 (hs)) rfl (i := 302) rfl rfl (by decide +kernel) rfl rfl ?_
  refine r_aload_n Mm dX3_init_22 rfl ?_
  refine r_bipush (v := nI 50) Mm dX3_init_23 (by decide) ?_
  refine r_putI (ty := .int) Mm dX3_init_25 fi_X3_23 ki_3 rfl (yN_S hq1 (hs)) rfl (i := 303) rfl rfl (by decide +kernel) rfl rfl ?_
  refine r_aload_n Mm dX3_init_28 rfl ?_
  refine r_iconst (v := nI 0) Mm dX3_init_29 (by decide) ?_
  refine r_putI (ty := .int) Mm dX3_init_30 fi_X3_26 ki_3 rfl (yN_S hq1 (hs)) rfl (i := 304) rfl rfl (by decide +kernel) rfl rfl ?_
  refine r_aload_n Mm dX3_init_33 rfl ?_
  refine r_iconst (v := nI 0) Mm dX3_init_34 (by decide) ?_
  refine r_putI (ty := .boolean) Mm dX3_init_35 fi_X3_29 ki_3 rfl (yN_S hq1 (hs)) rfl (i := 305) rfl rfl (by decide +kernel) rfl rfl ?_
  refine r_vret M dX3_init_38 ?_
  exact ⟨q1, hq1, rfl, rfl⟩
set_option maxRecDepth 100000 in
set_option maxHeartbeats 4000000 in
theorem ct_hasPuppet {g : Gl} {l : Launch} (hfl : l.stackTraces = false) (h : Hp) (a A : Nat) (c : Nat → Bool) (hs : xS h a = some (3, 0)) (hA : xP h 301 a = some A) (hAs : xS h A = some (9, 8)) (hc : ∀ j, xA h A j = bI (c j)) (n : Int32) : CT g l iX3_hasPuppet 1 [.ref a, .int n] h 0 0 (pRet (some (.int (bI (hasC c n)))) h) := by
  refine ct_mk hfl (by decide) (Nat.le_of_ble_eq_true rfl) (by intro v hv; simp only [List.mem_cons, List.not_mem_nil, or_false] at hv; rcases hv with rfl | rfl <;> rfl) (fun V X M => ?_)
  have Mm := M.m
  show V 0 [some (.ref a), some (.int n)] [] _ 0 0
  refine r_iload_n Mm dX3_hasPuppet_0 rfl ?_
  refine r_if_lt (tgt := 26) Mm dX3_hasPuppet_1 (by decide) (fun c1 => ?_) (fun c1 => ?_)
  · refine r_iconst (v := nI 0) Mm dX3_hasPuppet_26 (by decide) ?_
    refine r_zret M dX3_hasPuppet_27 (by decide) ?_
    refine ⟨?_, rfl⟩
    rw [show hasC c n = false by simp only [hasC, decide_eq_false (Int32.not_le.mpr c1), Bool.false_and]]; rfl
  · refine r_iload_n Mm dX3_hasPuppet_4 rfl ?_
    refine r_aload_n Mm dX3_hasPuppet_5 rfl ?_
    refine r_getR Mm dX3_hasPuppet_6 fi_X3_15 (hs) rfl (i := 301) rfl (hA) ?_
    refine r_alenZ Mm dX3_hasPuppet_9 (hAs) ?_
    refine r_icmp_ge (tgt := 26) Mm dX3_hasPuppet_10 (by decide) (fun c2 => ?_) (fun c2 => ?_)
    · refine r_iconst (v := nI 0) Mm dX3_hasPuppet_26 (by decide) ?_
      refine r_zret M dX3_hasPuppet_27 (by decide) ?_
      refine ⟨?_, rfl⟩
      rw [show hasC c n = false by simp only [hasC, decide_eq_false (Int32.not_lt.mpr c2), Bool.and_false, Bool.false_and]]; rfl
    · refine r_aload_n Mm dX3_hasPuppet_13 rfl ?_
      refine r_getR Mm dX3_hasPuppet_14 fi_X3_15 (hs) rfl (i := 301) rfl (hA) ?_
      refine r_iload_n Mm dX3_hasPuppet_17 rfl ?_
      refine r_zald Mm dX3_hasPuppet_18 (hAs) (vp_of c1 (Int32.not_le.mp c2) (by decide)) ?_
      refine r_top _ (bI (c n.toNatClampNeg)) (hc _) ?_
      refine r_if_eqB (tgt := 26) Mm dX3_hasPuppet_19 (by decide) (fun c3 => ?_) (fun c3 => ?_)
      · refine r_iconst (v := nI 0) Mm dX3_hasPuppet_26 (by decide) ?_
        refine r_zret M dX3_hasPuppet_27 (by decide) ?_
        refine ⟨?_, rfl⟩
        rw [show hasC c n = false by simp only [hasC, c3, Bool.and_false]]; rfl
      · refine r_iconst (v := nI 1) Mm dX3_hasPuppet_22 (by decide) ?_
        refine r_goto (tgt := 27) Mm dX3_hasPuppet_23 (by decide) ?_
        refine r_zret M dX3_hasPuppet_27 (by decide) ?_
        refine ⟨?_, rfl⟩
        rw [show hasC c n = true by simp only [hasC, decide_eq_true (Int32.not_lt.mp c1), decide_eq_true (Int32.not_le.mp c2), c3, Bool.and_self]]; rfl
set_option maxRecDepth 100000 in
set_option maxHeartbeats 4000000 in
theorem ct_take {g : Gl} {l : Launch} (hfl : l.stackTraces = false) (h : Hp) (a A : Nat) (c : Nat → Bool) (hs : xS h a = some (3, 0)) (hA : xP h 301 a = some A) (hAs : xS h A = some (9, 8)) (hc : ∀ j, xA h A j = bI (c j)) (i : Nat) (hi : i < 8) (hci : c i = false) : CT g l iX3_take 1 [.ref a, .int (nI i)] h 0 0 (pRet none (yF (yA h A i (nI 1)) 302 a (xF h 302 a + nI 1))) := by
  refine ct_mk hfl (by decide) (Nat.le_of_ble_eq_true rfl) (by intro v hv; simp only [List.mem_cons, List.not_mem_nil, or_false] at hv; rcases hv with rfl | rfl <;> rfl) (fun V X M => ?_)
  have Mm := M.m
  show V 0 [some (.ref a), some (.int (nI i))] [] _ 0 0
  refine r_iload_n Mm dX3_take_0 rfl ?_
  refine r_if_lt (tgt := 39) Mm dX3_take_1 (by decide) (fun c1 => absurd c1 (nI_pos (by omega))) (fun _ => ?_)
  refine r_iload_n Mm dX3_take_4 rfl ?_
  refine r_aload_n Mm dX3_take_5 rfl ?_
  refine r_getR Mm dX3_take_6 fi_X3_15 (hs) rfl (i := 301) rfl (hA) ?_
  refine r_alenZ Mm dX3_take_9 (hAs) ?_
  refine r_icmp_geN (tgt := 39) Mm dX3_take_10 (by decide) (by omega) (by omega) (fun c2 => ?_) (fun c2 => ?_)
  · exact absurd c2 (by first | omega | (rw [hci]; decide))
  · refine r_aload_n Mm dX3_take_13 rfl ?_
    refine r_getR Mm dX3_take_14 fi_X3_15 (hs) rfl (i := 301) rfl (hA) ?_
    refine r_iload_n Mm dX3_take_17 rfl ?_
    refine r_zaldN Mm dX3_take_18 (hAs) (by omega) (by omega) ?_
    refine r_top _ (bI (c i)) (hc _) ?_
    refine r_if_neB (tgt := 39) Mm dX3_take_19 (by decide) (fun c3 => ?_) (fun c3 => ?_)
    · exact absurd c3 (by first | omega | (rw [hci]; decide))
    · refine r_aload_n Mm dX3_take_22 rfl ?_
      refine r_getR Mm dX3_take_23 fi_X3_15 (hs) rfl (i := 301) rfl (hA) ?_
      refine r_iload_n Mm dX3_take_26 rfl ?_
      refine r_iconst (v := nI 1) Mm dX3_take_27 (by decide) ?_
      refine r_zastN Mm dX3_take_28 (hAs) (by omega) (by omega) (by decide) ?_
      refine r_aload_n Mm dX3_take_29 rfl ?_
      refine r_dup Mm dX3_take_30 rfl ?_
      refine r_getI Mm dX3_take_31 fi_X3_19 (hs) rfl (i := 302) rfl ?_
      refine r_iconst (v := nI 1) Mm dX3_take_34 (by decide) ?_
      refine r_iadd Mm dX3_take_35 ?_
      refine r_putI (ty := .int) Mm dX3_take_36 fi_X3_19 ki_3 rfl (hs) rfl (i := 302) rfl rfl (by decide +kernel) rfl rfl ?_
      refine r_vret M dX3_take_39 ?_
      exact ⟨rfl, rfl⟩
set_option maxRecDepth 100000 in
set_option maxHeartbeats 4000000 in
theorem ct_release {g : Gl} {l : Launch} (hfl : l.stackTraces = false) (h : Hp) (a A : Nat) (c : Nat → Bool) (hs : xS h a = some (3, 0)) (hA : xP h 301 a = some A) (hAs : xS h A = some (9, 8)) (hc : ∀ j, xA h A j = bI (c j)) (i : Nat) (hi : i < 8) (hci : c i = true) : CT g l iX3_release 1 [.ref a, .int (nI i)] h 0 0 (pRet none (yF (yA h A i (nI 0)) 302 a (xF h 302 a - nI 1))) := by
  refine ct_mk hfl (by decide) (Nat.le_of_ble_eq_true rfl) (by intro v hv; simp only [List.mem_cons, List.not_mem_nil, or_false] at hv; rcases hv with rfl | rfl <;> rfl) (fun V X M => ?_)
  have Mm := M.m
  show V 0 [some (.ref a), some (.int (nI i))] [] _ 0 0
  refine r_iload_n Mm dX3_release_0 rfl ?_
  refine r_if_lt (tgt := 39) Mm dX3_release_1 (by decide) (fun c1 => absurd c1 (nI_pos (by omega))) (fun _ => ?_)
  refine r_iload_n Mm dX3_release_4 rfl ?_
  refine r_aload_n Mm dX3_release_5 rfl ?_
  refine r_getR Mm dX3_release_6 fi_X3_15 (hs) rfl (i := 301) rfl (hA) ?_
  refine r_alenZ Mm dX3_release_9 (hAs) ?_
  refine r_icmp_geN (tgt := 39) Mm dX3_release_10 (by decide) (by omega) (by omega) (fun c2 => ?_) (fun c2 => ?_)
  · exact absurd c2 (by first | omega | (rw [hci]; decide))
  · refine r_aload_n Mm dX3_release_13 rfl ?_
    refine r_getR Mm dX3_release_14 fi_X3_15 (hs) rfl (i := 301) rfl (hA) ?_
    refine r_iload_n Mm dX3_release_17 rfl ?_
    refine r_zaldN Mm dX3_release_18 (hAs) (by omega) (by omega) ?_
    refine r_top _ (bI (c i)) (hc _) ?_
    refine r_if_eqB (tgt := 39) Mm dX3_release_19 (by decide) (fun c3 => ?_) (fun c3 => ?_)
    · exact absurd c3 (by first | omega | (rw [hci]; decide))
    · refine r_aload_n Mm dX3_release_22 rfl ?_
      refine r_getR Mm dX3_release_23 fi_X3_15 (hs) rfl (i := 301) rfl (hA) ?_
      refine r_iload_n Mm dX3_release_26 rfl ?_
      refine r_iconst (v := nI 0) Mm dX3_release_27 (by decide) ?_
      refine r_zastN Mm dX3_release_28 (hAs) (by omega) (by omega) (by decide) ?_
      refine r_aload_n Mm dX3_release_29 rfl ?_
      refine r_dup Mm dX3_release_30 rfl ?_
      refine r_getI Mm dX3_release_31 fi_X3_19 (hs) rfl (i := 302) rfl ?_
      refine r_iconst (v := nI 1) Mm dX3_release_34 (by decide) ?_
      refine r_isub Mm dX3_release_35 ?_
      refine r_putI (ty := .int) Mm dX3_release_36 fi_X3_19 ki_3 rfl (hs) rfl (i := 302) rfl rfl (by decide +kernel) rfl rfl ?_
      refine r_vret M dX3_release_39 ?_
      exact ⟨rfl, rfl⟩
end
section
/-! ===== a puppet ===== -/
def isPup (E : Nat) (h : Hp) (a ka ma pl : Nat) (xs ms : List Nat) : Prop := xS h a = some (2, 0) ∧ xP h 202 a = some ka ∧ xP h 205 a = some ma ∧ xP h 206 a = some pl ∧ xS h pl = some (1, 0) ∧ IsL E h ka xs ∧ IsL E h ma ms ∧ (∀ k ∈ xs, xS h k = some (0, 0)) ∧ ∀ m ∈ ms, xS h m = some (4, 0)
def ksOf (h : Hp) (xs : List Nat) : List K4 := xs.map (kv h)
theorem ksOf_len (h : Hp) (xs : List Nat) : (ksOf h xs).length = xs.length := List.length_map ..
theorem ksOf_get {h : Hp} {xs : List Nat} {i : Nat} {k : K4} (hk : (ksOf h xs)[i]? = some k) : ∃ v, xs[i]? = some v ∧ k = kv h v := by
  rw [ksOf, List.getElem?_map] at hk
  cases hx : xs[i]? with
  | none => rw [hx] at hk; cases hk
  | some v => rw [hx] at hk; cases hk; exact ⟨v, rfl, rfl⟩
theorem ksOf_at {h : Hp} {xs : List Nat} {i v : Nat} (hv : xs[i]? = some v) : (ksOf h xs)[i]? = some (kv h v) := by rw [ksOf, List.getElem?_map, hv]; rfl
theorem pXY_pXY (h : Hp) (p : Nat) (v w : Int32 × Int32) : pXY (pXY h p v) p w = pXY h p w := by
  have e : u2 (u2 (u2 (u2 (xF h) 100 p v.1) 101 p v.2) 100 p w.1) 101 p w.2 = u2 (u2 (xF h) 100 p w.1) 101 p w.2 := by
    funext i a
    simp only [u2]
    by_cases h1 : i = 101 ∧ a = p
    · simp [h1]
    · by_cases h2 : i = 100 ∧ a = p
      · simp [h2]
      · simp [h1, h2]
  show (xS h, u2 (u2 (u2 (u2 (xF h) 100 p v.1) 101 p v.2) 100 p w.1) 101 p w.2, xP h, xA h, xB h, xL h) = _
  rw [e]
  rfl
theorem pXY_self (h : Hp) (p : Nat) : pXY h p (xF h 100 p, xF h 101 p) = h := by
  show yF (yF h 100 p (xF h 100 p)) 101 p (xF h 101 p) = h
  rw [yF_self, yF_self]
theorem any_T {h : Hp} {v : Nat} {f : Int32} (e : xF h 0 v = f) : (some (kv h v)).any (fun k => k.1 == f) = true := by simpa [kv] using e
theorem any_F {h : Hp} {v : Nat} {f : Int32} (e : ¬ xF h 0 v = f) : (some (kv h v)).any (fun k => k.1 == f) = false := by simpa [kv] using e
theorem any_N {h : Hp} {v : Nat} {f : Int32} (e : ¬ xF h 0 v = f) : ¬ (some (kv h v)).any (fun k => k.1 == f) = true := by simpa [kv] using e
def clampS (len d : Int32) : Int32 := if (-len) < (if d < len then d else len) then (if d < len then d else len) else (-len)
def pullS (bar len : Int32) (v : Int32 × Int32) : Int32 × Int32 :=
  if len * len < sq2 (v.1 - bar) v.2 then (bar + clampS len (v.1 - bar), rootB (len * len - clampS len (v.1 - bar) * clampS len (v.1 - bar)))
  else v
def absS (d : Int32) : Int32 := if 0 ≤ d then d else 0 - d
def nearS (v w : Int32 × Int32) : Bool := decide (absS (v.1 - w.1) < nI 10) && decide (absS (v.2 - w.2) < nI 10)
def awayS (x w : Int32) : Int32 := if x < w then w - nI 10 else w + nI 10
def mxS (a b : Int32) : Int32 := if a < b then b else a
def farF (bar : Int32) (ks : List K4) : Nat → Int32
  | 0 => nI 0
  | n + 1 => mxS (farF bar ks n) (sq2 ((trk bar ks (nI n)).1 - bar) (trk bar ks (nI n)).2)
def leastS (bar : Int32) (ks : List K4) : Int32 := if rootB (farF bar ks 1000) * rootB (farF bar ks 1000) < farF bar ks 1000 then rootB (farF bar ks 1000) + nI 1 else rootB (farF bar ks 1000)
def SortK (ks : List K4) : Prop := (∀ (i : Nat) (a b : K4), ks[i]? = some a → ks[i + 1]? = some b → a.1 < b.1) ∧ ∀ k ∈ ks, ∃ n : Nat, n ≤ 999 ∧ k.1 = nI n
theorem ahead_spec (ks : List K4) (f : Int32) : (∀ (j : Nat) (k : K4), j < ahead ks f → ks[j]? = some k → k.1 < f) ∧ ∀ k : K4, ks[ahead ks f]? = some k → ¬ k.1 < f := by
  induction ks with
  | nil => exact ⟨fun j k hj => absurd hj (Nat.not_lt_zero _), fun k hk => by simp at hk⟩
  | cons a t ih =>
    by_cases ha : a.1 < f
    · have e : ahead (a :: t) f = ahead t f + 1 := by simp [ahead, ha]
      rw [e]
      refine ⟨fun j k hj hk => ?_, fun k hk => ih.2 k (by simpa using hk)⟩
      cases j with
      | zero => simp at hk; subst hk; exact ha
      | succ j => exact ih.1 j k (by omega) (by simpa using hk)
    · have e : ahead (a :: t) f = 0 := by simp [ahead, ha]
      rw [e]
      exact ⟨fun j k hj => absurd hj (Nat.not_lt_zero _), fun k hk => by simp at hk; subst hk; exact ha⟩
theorem SortK.lt {ks : List K4} (hs : SortK ks) {i j : Nat} {a b : K4} (hij : i < j) (ha : ks[i]? = some a) (hb : ks[j]? = some b) : a.1 < b.1 := by
  obtain ⟨d, rfl⟩ : ∃ d, j = i + 1 + d := ⟨j - (i + 1), by omega⟩
  induction d generalizing b with
  | zero => exact hs.1 i a b ha hb
  | succ d ih =>
    have hlt : i + 1 + d < ks.length := by have := (List.getElem?_eq_some_iff.mp hb).1; omega
    have hc := List.getElem?_eq_getElem hlt
    have h1 := ih (by omega) hc
    have h2 := hs.1 (i + 1 + d) _ b hc hb
    exact Int32.lt_trans h1 h2
/-- one frame on -/
theorem ahead_step {ks : List K4} (hs : SortK ks) {j : Nat} (hj : j < 5000) : ahead ks (nI (j + 1)) = if (ks[ahead ks (nI j)]?).any (fun k => k.1 == nI j) = true then ahead ks (nI j) + 1 else ahead ks (nI j) := by
  obtain ⟨h1, h2⟩ := ahead_spec ks (nI j)
  have hle := ahead_le ks (nI j)
  have hmono : ∀ k : K4, k.1 < nI j → k.1 < nI (j + 1) := fun k hk => Int32.lt_trans hk (nI_lt (by omega) (by omega))
  cases hc : ks[ahead ks (nI j)]? with
  | none =>
    rw [if_neg (by simp)]
    exact ahead_eq hle (fun i k hi hk => hmono k (h1 i k hi hk)) (fun k hk => by rw [hc] at hk; cases hk)
  | some c =>
    obtain ⟨n, hn, hcn⟩ := hs.2 c (List.mem_of_getElem? hc)
    have hge : j ≤ n := by
      have := h2 c hc
      rw [hcn] at this
      exact Nat.not_lt.mp (fun z => this (nI_lt z (by omega)))
    by_cases he : n = j
    · subst he
      rw [if_pos (by simp [hcn])]
      refine ahead_eq (by have := (List.getElem?_eq_some_iff.mp hc).1; omega) (fun i k hi hk => ?_) (fun k hk => ?_)
      · by_cases hi2 : i < ahead ks (nI n)
        · exact hmono k (h1 i k hi2 hk)
        · have : i = ahead ks (nI n) := by omega
          subst this
          rw [hc] at hk; cases hk
          rw [hcn]; exact nI_lt (by omega) (by omega)
      · have hlt := hs.lt (Nat.lt_succ_self _) hc hk
        obtain ⟨n2, hn2, hk2⟩ := hs.2 k (List.mem_of_getElem? hk)
        rw [hcn, hk2] at hlt
        have := (nI_ltI (by omega) (by omega)).mp hlt
        rw [hk2]
        exact nI_nlt (by omega) (by omega)
    · have hne : ¬ (some c).any (fun k => k.1 == nI j) = true := by
        simp only [Option.any_some, beq_iff_eq, hcn]
        exact fun z => he ((nI_eq (by omega) (by omega)).mp z)
      rw [if_neg hne]
      refine ahead_eq hle (fun i k hi hk => hmono k (h1 i k hi hk)) (fun k hk => ?_)
      rw [hc] at hk; cases hk
      rw [hcn]; exact nI_nlt (by omega) (by omega)
set_option maxRecDepth 100000 in
set_option maxHeartbeats 4000000 in
theorem ct_sqBar {g : Gl} {l : Launch} (hfl : l.stackTraces = false) {E : Nat} (h : Hp) (a ka ma pl : Nat) (xs ms : List Nat) (hP : isPup E h a ka ma pl xs ms)  : CT g l iX2_squareFromBar 1 [.ref a] h 0 0 (pRet (some (.int (sq2 (xF h 100 pl - xF h 200 a) (xF h 101 pl)))) h) := by
  obtain ⟨hs, hka, hma, hpl, hsp, hLk, hLm, hxk, hxm⟩ := hP
  have hl1 := hLk.2.2.1
  have hl2 := hLm.2.2.1
  refine ct_mk hfl (by decide) (Nat.le_of_ble_eq_true rfl) (by intro v hv; simp only [List.mem_cons, List.not_mem_nil, or_false] at hv; rcases hv with rfl <;> rfl) (fun V X M => ?_)
  have Mm := M.m
  show V 0 [some (.ref a), none] [] _ 0 0
  refine r_aload_n Mm dX2_squareFromBar_0 rfl ?_
  refine r_getR Mm dX2_squareFromBar_1 fi_X2_37 (hs) rfl (i := 206) rfl (hpl) ?_
  refine r_getI Mm dX2_squareFromBar_4 fi_X2_77 (hsp) rfl (i := 100) rfl ?_
  refine r_aload_n Mm dX2_squareFromBar_7 rfl ?_
  refine r_getI Mm dX2_squareFromBar_8 fi_X2_9 (hs) rfl (i := 200) rfl ?_
  refine r_isub Mm dX2_squareFromBar_11 ?_
  refine r_istore_n Mm dX2_squareFromBar_12 (by decide) ?_
  show V 13 [some (.ref a), some (.int ((xF h 100 pl) - (xF h 200 a)))] _ _ _ _
  refine r_iload_n Mm dX2_squareFromBar_13 rfl ?_
  refine r_iload_n Mm dX2_squareFromBar_14 rfl ?_
  refine r_imul Mm dX2_squareFromBar_15 ?_
  refine r_aload_n Mm dX2_squareFromBar_16 rfl ?_
  refine r_getR Mm dX2_squareFromBar_17 fi_X2_37 (hs) rfl (i := 206) rfl (hpl) ?_
  refine r_getI Mm dX2_squareFromBar_20 fi_X2_80 (hsp) rfl (i := 101) rfl ?_
  refine r_aload_n Mm dX2_squareFromBar_23 rfl ?_
  refine r_getR Mm dX2_squareFromBar_24 fi_X2_37 (hs) rfl (i := 206) rfl (hpl) ?_
  refine r_getI Mm dX2_squareFromBar_27 fi_X2_80 (hsp) rfl (i := 101) rfl ?_
  refine r_imul Mm dX2_squareFromBar_30 ?_
  refine r_iadd Mm dX2_squareFromBar_31 ?_
  refine r_iret M dX2_squareFromBar_32 ?_
  exact ⟨rfl, rfl⟩
set_option maxRecDepth 100000 in
set_option maxHeartbeats 4000000 in
theorem ct_keysAhead {g : Gl} {l : Launch} (hfl : l.stackTraces = false) {E : Nat} (h : Hp) (a ka ma pl : Nat) (xs ms : List Nat) (hP : isPup E h a ka ma pl xs ms) (f : Int32) : CT g l iX2_keysAhead 4 [.ref a, .int f] h 0 0 (pRet (some (.int (nI (ahead (ksOf h xs) f)))) h) := by
  obtain ⟨hs, hka, hma, hpl, hsp, hLk, hLm, hxk, hxm⟩ := hP
  have hl1 := hLk.2.2.1
  have hl2 := hLm.2.2.1
  refine ct_mk hfl (by decide) (Nat.le_of_ble_eq_true rfl) (by intro v hv; simp only [List.mem_cons, List.not_mem_nil, or_false] at hv; rcases hv with rfl | rfl <;> rfl) (fun V X M => ?_)
  have Mm := M.m
  show V 0 [some (.ref a), some (.int f), none] [] _ 0 0
  refine r_iconst (v := nI 0) Mm dX2_keysAhead_0 (by decide) ?_
  refine r_istore_n Mm dX2_keysAhead_1 (by decide) ?_
  show V 2 [some (.ref a), some (.int f), some (.int (nI 0))] _ _ _ _
  have loop : ∀ (n : Nat) (i : Nat), xs.length - i < n → (i ≤ xs.length) → (∀ (j : Nat) (k : K4), j < i → (ksOf h xs)[j]? = some k → k.1 < f) → V 2 [some (.ref a), some (.int f), some (.int (nI i))] [] h 0 0 := by
    intro n
    induction n with
    | zero => intro i hm; exact absurd hm (Nat.not_lt_zero _)
    | succ n ih =>
      intro i hm hi hf
      refine r_iload_n Mm dX2_keysAhead_2 rfl ?_
      refine r_aload_n Mm dX2_keysAhead_3 rfl ?_
      refine r_getR Mm dX2_keysAhead_4 fi_X2_21 (hs) rfl (i := 202) rfl (hka) ?_
      refine r_callV (As := []) Mm dX2_keysAhead_7 rfl (ct_lsize hfl h ka xs (hLk)) (hLk.1) rfl cw_X2_45 ⟨Nat.le_of_ble_eq_true rfl, Nat.le_of_ble_eq_true rfl, Nat.le_of_ble_eq_true rfl⟩ (Nat.le_of_ble_eq_true rfl) ⟨Nat.le_of_ble_eq_true rfl, Nat.le_of_ble_eq_true rfl⟩ (fun r1 h2 p3 => ?_) (fun Er1 h2 p3 => False.elim p3)
      obtain ⟨rfl, rfl⟩ := p3
      show V 10 _ [(.int (nI (xs.length))), (.int (nI i))] _ _ _
      refine r_icmp_geN (tgt := 37) Mm dX2_keysAhead_10 (by decide) (by omega) (by omega) (fun c4 => ?_) (fun c4 => ?_)
      · refine r_iload_n Mm dX2_keysAhead_37 rfl ?_
        refine r_iret M dX2_keysAhead_38 ?_
        exact ⟨by rw [ahead_eq (by rw [ksOf_len]; exact hi) hf (fun k hk => absurd (List.getElem?_eq_some_iff.mp hk).1 (by rw [ksOf_len]; omega))], rfl⟩
      · refine r_aload_n Mm dX2_keysAhead_13 rfl ?_
        refine r_getR Mm dX2_keysAhead_14 fi_X2_21 (hs) rfl (i := 202) rfl (hka) ?_
        refine r_iload_n Mm dX2_keysAhead_17 rfl ?_
        obtain ⟨v5, hv5⟩ : ∃ v, xs[i]? = some v := ⟨_, List.getElem?_eq_getElem (by omega)⟩
        have sv5 := hxk v5 (List.mem_of_getElem? hv5)
        refine r_callV (As := [(.int (nI i))]) Mm dX2_keysAhead_18 rfl (ct_lget hfl h ka i v5 xs (hLk) hv5) (hLk.1) rfl cw_X2_49 ⟨Nat.le_of_ble_eq_true rfl, Nat.le_of_ble_eq_true rfl, Nat.le_of_ble_eq_true rfl⟩ (Nat.le_of_ble_eq_true rfl) ⟨Nat.le_of_ble_eq_true rfl, Nat.le_of_ble_eq_true rfl⟩ (fun r6 h7 p8 => ?_) (fun Er6 h7 p8 => False.elim p8)
        obtain ⟨rfl, rfl⟩ := p8
        show V 21 _ [(.ref v5)] _ _ _
        refine r_cast Mm dX2_keysAhead_21 (sv5) rfl cl_X2_53 ?_
        refine r_getI Mm dX2_keysAhead_24 fi_X2_55 (sv5) rfl (i := 0) rfl ?_
        refine r_iload_n Mm dX2_keysAhead_27 rfl ?_
        refine r_icmp_ge (tgt := 37) Mm dX2_keysAhead_28 (by decide) (fun c9 => ?_) (fun c9 => ?_)
        · refine r_iload_n Mm dX2_keysAhead_37 rfl ?_
          refine r_iret M dX2_keysAhead_38 ?_
          exact ⟨by rw [ahead_eq (by rw [ksOf_len]; exact hi) hf (fun k hk => by rw [ksOf_at hv5] at hk; cases hk; exact Int32.not_lt.mpr c9)], rfl⟩
        · refine r_iincN (k := 1) Mm dX2_keysAhead_31 rfl (by decide) (by decide) ?_
          show V 34 [some (.ref a), some (.int f), some (.int (nI (i + 1)))] _ _ _ _
          refine r_goto (tgt := 2) Mm dX2_keysAhead_34 (by decide) ?_
          exact ih (i + 1) (by omega) (by omega) (fun j k hj hk => by
            by_cases hji : j < i
            · exact hf j k hji hk
            · obtain rfl : j = i := by omega
              rw [ksOf_at hv5] at hk; cases hk; exact Int32.not_le.mp c9)
  exact loop (xs.length + 1) 0 (by omega) (Nat.zero_le _) (fun j _ hj => absurd hj (Nat.not_lt_zero _))
set_option maxRecDepth 100000 in
set_option maxHeartbeats 4000000 in
theorem ct_hasKeyAt {g : Gl} {l : Launch} (hfl : l.stackTraces = false) {E : Nat} (h : Hp) (a ka ma pl : Nat) (xs ms : List Nat) (hP : isPup E h a ka ma pl xs ms) (f : Int32) : CT g l iX2_hasKeyAt 5 [.ref a, .int f] h 0 0 (pRet (some (.int (bI (hasK (ksOf h xs) f)))) h) := by
  obtain ⟨hs, hka, hma, hpl, hsp, hLk, hLm, hxk, hxm⟩ := hP
  have hl1 := hLk.2.2.1
  have hl2 := hLm.2.2.1
  refine ct_mk hfl (by decide) (Nat.le_of_ble_eq_true rfl) (by intro v hv; simp only [List.mem_cons, List.not_mem_nil, or_false] at hv; rcases hv with rfl | rfl <;> rfl) (fun V X M => ?_)
  have Mm := M.m
  show V 0 [some (.ref a), some (.int f), none] [] _ 0 0
  refine r_aload_n Mm dX2_hasKeyAt_0 rfl ?_
  refine r_iload_n Mm dX2_hasKeyAt_1 rfl ?_
  have hal := ahead_le (ksOf h xs) f
  rw [ksOf_len] at hal
  refine r_callV (As := [(.int f)]) Mm dX2_hasKeyAt_2 rfl (ct_keysAhead hfl h a ka ma pl xs ms ⟨hs, hka, hma, hpl, hsp, hLk, hLm, hxk, hxm⟩ f) (hs) rfl cw_X2_58 ⟨Nat.le_of_ble_eq_true rfl, Nat.le_of_ble_eq_true rfl, Nat.le_of_ble_eq_true rfl⟩ (Nat.le_of_ble_eq_true rfl) ⟨Nat.le_of_ble_eq_true rfl, Nat.le_of_ble_eq_true rfl⟩ (fun r1 h2 p3 => ?_) (fun Er1 h2 p3 => False.elim p3)
  obtain ⟨rfl, rfl⟩ := p3
  show V 5 _ [(.int (nI (ahead (ksOf h xs) f)))] _ _ _
  refine r_istore_n Mm dX2_hasKeyAt_5 (by decide) ?_
  show V 6 [some (.ref a), some (.int f), some (.int (nI (ahead (ksOf h xs) f)))] _ _ _ _
  refine r_iload_n Mm dX2_hasKeyAt_6 rfl ?_
  refine r_aload_n Mm dX2_hasKeyAt_7 rfl ?_
  refine r_getR Mm dX2_hasKeyAt_8 fi_X2_21 (hs) rfl (i := 202) rfl (hka) ?_
  refine r_callV (As := []) Mm dX2_hasKeyAt_11 rfl (ct_lsize hfl h ka xs (hLk)) (hLk.1) rfl cw_X2_45 ⟨Nat.le_of_ble_eq_true rfl, Nat.le_of_ble_eq_true rfl, Nat.le_of_ble_eq_true rfl⟩ (Nat.le_of_ble_eq_true rfl) ⟨Nat.le_of_ble_eq_true rfl, Nat.le_of_ble_eq_true rfl⟩ (fun r4 h5 p6 => ?_) (fun Er4 h5 p6 => False.elim p6)
  obtain ⟨rfl, rfl⟩ := p6
  show V 14 _ [(.int (nI (xs.length))), (.int (nI (ahead (ksOf h xs) f)))] _ _ _
  refine r_icmp_geN (tgt := 39) Mm dX2_hasKeyAt_14 (by decide) (by omega) (by omega) (fun c7 => ?_) (fun c7 => ?_)
  · refine r_iconst (v := nI 0) Mm dX2_hasKeyAt_39 (by decide) ?_
    refine r_zret M dX2_hasKeyAt_40 (by decide) ?_
    refine ⟨?_, rfl⟩
    rw [show hasK (ksOf h xs) f = false by unfold hasK; rw [List.getElem?_eq_none (by rw [ksOf_len]; omega)]; rfl]; rfl
  · refine r_aload_n Mm dX2_hasKeyAt_17 rfl ?_
    refine r_getR Mm dX2_hasKeyAt_18 fi_X2_21 (hs) rfl (i := 202) rfl (hka) ?_
    refine r_iload_n Mm dX2_hasKeyAt_21 rfl ?_
    obtain ⟨v8, hv8⟩ : ∃ v, xs[ahead (ksOf h xs) f]? = some v := ⟨_, List.getElem?_eq_getElem (by omega)⟩
    have sv8 := hxk v8 (List.mem_of_getElem? hv8)
    refine r_callV (As := [(.int (nI (ahead (ksOf h xs) f)))]) Mm dX2_hasKeyAt_22 rfl (ct_lget hfl h ka (ahead (ksOf h xs) f) v8 xs (hLk) hv8) (hLk.1) rfl cw_X2_49 ⟨Nat.le_of_ble_eq_true rfl, Nat.le_of_ble_eq_true rfl, Nat.le_of_ble_eq_true rfl⟩ (Nat.le_of_ble_eq_true rfl) ⟨Nat.le_of_ble_eq_true rfl, Nat.le_of_ble_eq_true rfl⟩ (fun r9 h10 p11 => ?_) (fun Er9 h10 p11 => False.elim p11)
    obtain ⟨rfl, rfl⟩ := p11
    show V 25 _ [(.ref v8)] _ _ _
    refine r_cast Mm dX2_hasKeyAt_25 (sv8) rfl cl_X2_53 ?_
    refine r_getI Mm dX2_hasKeyAt_28 fi_X2_55 (sv8) rfl (i := 0) rfl ?_
    refine r_iload_n Mm dX2_hasKeyAt_31 rfl ?_
    refine r_icmp_ne (tgt := 39) Mm dX2_hasKeyAt_32 (by decide) (fun c12 => ?_) (fun c12 => ?_)
    · refine r_iconst (v := nI 0) Mm dX2_hasKeyAt_39 (by decide) ?_
      refine r_zret M dX2_hasKeyAt_40 (by decide) ?_
      refine ⟨?_, rfl⟩
      rw [show hasK (ksOf h xs) f = false by unfold hasK; rw [ksOf_at hv8]; exact any_F c12]; rfl
    · refine r_iconst (v := nI 1) Mm dX2_hasKeyAt_35 (by decide) ?_
      refine r_goto (tgt := 40) Mm dX2_hasKeyAt_36 (by decide) ?_
      refine r_zret M dX2_hasKeyAt_40 (by decide) ?_
      refine ⟨?_, rfl⟩
      rw [show hasK (ksOf h xs) f = true by unfold hasK; rw [ksOf_at hv8]; exact any_T c12]; rfl
set_option maxRecDepth 100000 in
set_option maxHeartbeats 4000000 in
theorem ct_putKey {g : Gl} {l : Launch} (hfl : l.stackTraces = false) (h : Hp) (a ka ma pl : Nat) (xs ms : List Nat) (hP : isPup (gN g 2) h a ka ma pl xs ms) (k : Nat) (hk : xS h k = some (0, 0)) (hlen : xs.length < 600) : CT g l iX2_putKey 7 [.ref a, .ref k] h 1 1500 (pRel (fun r h' => r = none ∧ LiP (gN g 2) h ka h' (if hasK (ksOf h xs) (xF h 0 k) = true then xs.set (ahead (ksOf h xs) (xF h 0 k)) k else xs.insertIdx (ahead (ksOf h xs) (xF h 0 k)) k))) := by
  obtain ⟨hs, hka, hma, hpl, hsp, hLk, hLm, hxk, hxm⟩ := hP
  have hl1 := hLk.2.2.1
  have hl2 := hLm.2.2.1
  have hEk : isE h k := ⟨0, 0, _, hk, rfl, ca_0⟩
  refine ct_mk hfl (by decide) (Nat.le_of_ble_eq_true rfl) (by intro v hv; simp only [List.mem_cons, List.not_mem_nil, or_false] at hv; rcases hv with rfl | rfl <;> rfl) (fun V X M => ?_)
  have Mm := M.m
  show V 0 [some (.ref a), some (.ref k), none] [] _ 0 0
  refine r_aload_n Mm dX2_putKey_0 rfl ?_
  refine r_aload_n Mm dX2_putKey_1 rfl ?_
  refine r_getI Mm dX2_putKey_2 fi_X2_55 (hk) rfl (i := 0) rfl ?_
  have hal := ahead_le (ksOf h xs) (xF h 0 k)
  rw [ksOf_len] at hal
  refine r_callV (As := [(.int (xF h 0 k))]) Mm dX2_putKey_5 rfl (ct_keysAhead hfl h a ka ma pl xs ms ⟨hs, hka, hma, hpl, hsp, hLk, hLm, hxk, hxm⟩ (xF h 0 k)) (hs) rfl cw_X2_58 ⟨Nat.le_of_ble_eq_true rfl, Nat.le_of_ble_eq_true rfl, Nat.le_of_ble_eq_true rfl⟩ (Nat.le_of_ble_eq_true rfl) ⟨Nat.le_of_ble_eq_true rfl, Nat.le_of_ble_eq_true rfl⟩ (fun r1 h2 p3 => ?_) (fun Er1 h2 p3 => False.elim p3)
  obtain ⟨rfl, rfl⟩ := p3
  show V 8 _ [(.int (nI (ahead (ksOf h xs) (xF h 0 k))))] _ _ _
  refine r_istore_n Mm dX2_putKey_8 (by decide) ?_
  show V 9 [some (.ref a), some (.ref k), some (.int (nI (ahead (ksOf h xs) (xF h 0 k))))] _ _ _ _
  refine r_iload_n Mm dX2_putKey_9 rfl ?_
  refine r_aload_n Mm dX2_putKey_10 rfl ?_
  refine r_getR Mm dX2_putKey_11 fi_X2_21 (hs) rfl (i := 202) rfl (hka) ?_
  refine r_callV (As := []) Mm dX2_putKey_14 rfl (ct_lsize hfl h ka xs (hLk)) (hLk.1) rfl cw_X2_45 ⟨Nat.le_of_ble_eq_true rfl, Nat.le_of_ble_eq_true rfl, Nat.le_of_ble_eq_true rfl⟩ (Nat.le_of_ble_eq_true rfl) ⟨Nat.le_of_ble_eq_true rfl, Nat.le_of_ble_eq_true rfl⟩ (fun r4 h5 p6 => ?_) (fun Er4 h5 p6 => False.elim p6)
  obtain ⟨rfl, rfl⟩ := p6
  show V 17 _ [(.int (nI (xs.length))), (.int (nI (ahead (ksOf h xs) (xF h 0 k))))] _ _ _
  refine r_icmp_geN (tgt := 54) Mm dX2_putKey_17 (by decide) (by omega) (by omega) (fun c7 => ?_) (fun c7 => ?_)
  · refine r_aload_n Mm dX2_putKey_54 rfl ?_
    refine r_getR Mm dX2_putKey_55 fi_X2_21 (hs) rfl (i := 202) rfl (hka) ?_
    refine r_iload_n Mm dX2_putKey_58 rfl ?_
    refine r_aload_n Mm dX2_putKey_59 rfl ?_
    refine r_callV (As := [(.int (nI (ahead (ksOf h xs) (xF h 0 k)))), (.ref k)]) Mm dX2_putKey_60 rfl (ct_laddI hfl h ka (ahead (ksOf h xs) (xF h 0 k)) k xs hLk (by omega) hlen hEk) (hLk.1) rfl cw_X2_66 ⟨Nat.le_of_ble_eq_true rfl, Nat.le_of_ble_eq_true rfl, Nat.le_of_ble_eq_true rfl⟩ (Nat.le_of_ble_eq_true rfl) ⟨Nat.le_of_ble_eq_true rfl, Nat.le_of_ble_eq_true rfl⟩ (fun r8 h9 p10 => ?_) (fun Er8 h9 p10 => False.elim p10)
    obtain ⟨rfl, hLP⟩ := p10
    show V 63 _ [] _ _ _
    refine r_vret M dX2_putKey_63 ?_
    refine ⟨rfl, ?_⟩
    rw [if_neg (show ¬ hasK (ksOf h xs) (xF h 0 k) = true by unfold hasK; rw [List.getElem?_eq_none (by rw [ksOf_len]; omega)]; exact Bool.noConfusion)]
    exact hLP
  · refine r_aload_n Mm dX2_putKey_20 rfl ?_
    refine r_getR Mm dX2_putKey_21 fi_X2_21 (hs) rfl (i := 202) rfl (hka) ?_
    refine r_iload_n Mm dX2_putKey_24 rfl ?_
    obtain ⟨v11, hv11⟩ : ∃ v, xs[ahead (ksOf h xs) (xF h 0 k)]? = some v := ⟨_, List.getElem?_eq_getElem (by omega)⟩
    have sv11 := hxk v11 (List.mem_of_getElem? hv11)
    refine r_callV (As := [(.int (nI (ahead (ksOf h xs) (xF h 0 k))))]) Mm dX2_putKey_25 rfl (ct_lget hfl h ka (ahead (ksOf h xs) (xF h 0 k)) v11 xs (hLk) hv11) (hLk.1) rfl cw_X2_49 ⟨Nat.le_of_ble_eq_true rfl, Nat.le_of_ble_eq_true rfl, Nat.le_of_ble_eq_true rfl⟩ (Nat.le_of_ble_eq_true rfl) ⟨Nat.le_of_ble_eq_true rfl, Nat.le_of_ble_eq_true rfl⟩ (fun r12 h13 p14 => ?_) (fun Er12 h13 p14 => False.elim p14)
    obtain ⟨rfl, rfl⟩ := p14
    show V 28 _ [(.ref v11)] _ _ _
    refine r_cast Mm dX2_putKey_28 (sv11) rfl cl_X2_53 ?_
    refine r_getI Mm dX2_putKey_31 fi_X2_55 (sv11) rfl (i := 0) rfl ?_
    refine r_aload_n Mm dX2_putKey_34 rfl ?_
    refine r_getI Mm dX2_putKey_35 fi_X2_55 (hk) rfl (i := 0) rfl ?_
    refine r_icmp_ne (tgt := 54) Mm dX2_putKey_38 (by decide) (fun c15 => ?_) (fun c15 => ?_)
    · refine r_aload_n Mm dX2_putKey_54 rfl ?_
      refine r_getR Mm dX2_putKey_55 fi_X2_21 (hs) rfl (i := 202) rfl (hka) ?_
      refine r_iload_n Mm dX2_putKey_58 rfl ?_
      refine r_aload_n Mm dX2_putKey_59 rfl ?_
      refine r_callV (As := [(.int (nI (ahead (ksOf h xs) (xF h 0 k)))), (.ref k)]) Mm dX2_putKey_60 rfl (ct_laddI hfl h ka (ahead (ksOf h xs) (xF h 0 k)) k xs hLk (by omega) hlen hEk) (hLk.1) rfl cw_X2_66 ⟨Nat.le_of_ble_eq_true rfl, Nat.le_of_ble_eq_true rfl, Nat.le_of_ble_eq_true rfl⟩ (Nat.le_of_ble_eq_true rfl) ⟨Nat.le_of_ble_eq_true rfl, Nat.le_of_ble_eq_true rfl⟩ (fun r16 h17 p18 => ?_) (fun Er16 h17 p18 => False.elim p18)
      obtain ⟨rfl, hLP⟩ := p18
      show V 63 _ [] _ _ _
      refine r_vret M dX2_putKey_63 ?_
      refine ⟨rfl, ?_⟩
      rw [if_neg (show ¬ hasK (ksOf h xs) (xF h 0 k) = true by unfold hasK; rw [ksOf_at hv11]; exact any_N c15)]
      exact hLP
    · refine r_aload_n Mm dX2_putKey_41 rfl ?_
      refine r_getR Mm dX2_putKey_42 fi_X2_21 (hs) rfl (i := 202) rfl (hka) ?_
      refine r_iload_n Mm dX2_putKey_45 rfl ?_
      refine r_aload_n Mm dX2_putKey_46 rfl ?_
      refine r_callV (As := [(.int (nI (ahead (ksOf h xs) (xF h 0 k)))), (.ref k)]) Mm dX2_putKey_47 rfl (ct_lset hfl h ka (ahead (ksOf h xs) (xF h 0 k)) v11 k xs hLk hv11 hEk) (hLk.1) rfl cw_X2_62 ⟨Nat.le_of_ble_eq_true rfl, Nat.le_of_ble_eq_true rfl, Nat.le_of_ble_eq_true rfl⟩ (Nat.le_of_ble_eq_true rfl) ⟨Nat.le_of_ble_eq_true rfl, Nat.le_of_ble_eq_true rfl⟩ (fun r19 h20 p21 => ?_) (fun Er19 h20 p21 => False.elim p21)
      obtain ⟨rfl, hLP⟩ := p21
      show V 50 _ [(.ref v11)] _ _ _
      refine r_pop Mm dX2_putKey_50 rfl ?_
      refine r_goto (tgt := 63) Mm dX2_putKey_51 (by decide) ?_
      refine r_vret M dX2_putKey_63 ?_
      refine ⟨rfl, ?_⟩
      rw [if_pos (show hasK (ksOf h xs) (xF h 0 k) = true by unfold hasK; rw [ksOf_at hv11]; exact any_T c15)]
      exact hLP
set_option maxRecDepth 100000 in
set_option maxHeartbeats 4000000 in
theorem ct_removeKeyAt {g : Gl} {l : Launch} (hfl : l.stackTraces = false) {E : Nat} (h : Hp) (a ka ma pl : Nat) (xs ms : List Nat) (hP : isPup E h a ka ma pl xs ms) (f : Int32) (hh : hasK (ksOf h xs) f = true) : CT g l iX2_removeKeyAt 5 [.ref a, .int f] h 0 0 (pRel (fun r h' => r = none ∧ LiP E h ka h' (xs.eraseIdx (ahead (ksOf h xs) f)))) := by
  obtain ⟨hs, hka, hma, hpl, hsp, hLk, hLm, hxk, hxm⟩ := hP
  have hl1 := hLk.2.2.1
  have hl2 := hLm.2.2.1
  refine ct_mk hfl (by decide) (Nat.le_of_ble_eq_true rfl) (by intro v hv; simp only [List.mem_cons, List.not_mem_nil, or_false] at hv; rcases hv with rfl | rfl <;> rfl) (fun V X M => ?_)
  have Mm := M.m
  show V 0 [some (.ref a), some (.int f), none] [] _ 0 0
  refine r_aload_n Mm dX2_removeKeyAt_0 rfl ?_
  refine r_iload_n Mm dX2_removeKeyAt_1 rfl ?_
  have hal := ahead_le (ksOf h xs) f
  rw [ksOf_len] at hal
  refine r_callV (As := [(.int f)]) Mm dX2_removeKeyAt_2 rfl (ct_keysAhead hfl h a ka ma pl xs ms ⟨hs, hka, hma, hpl, hsp, hLk, hLm, hxk, hxm⟩ f) (hs) rfl cw_X2_58 ⟨Nat.le_of_ble_eq_true rfl, Nat.le_of_ble_eq_true rfl, Nat.le_of_ble_eq_true rfl⟩ (Nat.le_of_ble_eq_true rfl) ⟨Nat.le_of_ble_eq_true rfl, Nat.le_of_ble_eq_true rfl⟩ (fun r1 h2 p3 => ?_) (fun Er1 h2 p3 => False.elim p3)
  obtain ⟨rfl, rfl⟩ := p3
  show V 5 _ [(.int (nI (ahead (ksOf h xs) f)))] _ _ _
  refine r_istore_n Mm dX2_removeKeyAt_5 (by decide) ?_
  show V 6 [some (.ref a), some (.int f), some (.int (nI (ahead (ksOf h xs) f)))] _ _ _ _
  refine r_iload_n Mm dX2_removeKeyAt_6 rfl ?_
  refine r_aload_n Mm dX2_removeKeyAt_7 rfl ?_
  refine r_getR Mm dX2_removeKeyAt_8 fi_X2_21 (hs) rfl (i := 202) rfl (hka) ?_
  refine r_callV (As := []) Mm dX2_removeKeyAt_11 rfl (ct_lsize hfl h ka xs (hLk)) (hLk.1) rfl cw_X2_45 ⟨Nat.le_of_ble_eq_true rfl, Nat.le_of_ble_eq_true rfl, Nat.le_of_ble_eq_true rfl⟩ (Nat.le_of_ble_eq_true rfl) ⟨Nat.le_of_ble_eq_true rfl, Nat.le_of_ble_eq_true rfl⟩ (fun r4 h5 p6 => ?_) (fun Er4 h5 p6 => False.elim p6)
  obtain ⟨rfl, rfl⟩ := p6
  show V 14 _ [(.int (nI (xs.length))), (.int (nI (ahead (ksOf h xs) f)))] _ _ _
  refine r_icmp_geN (tgt := 44) Mm dX2_removeKeyAt_14 (by decide) (by omega) (by omega) (fun c7 => ?_) (fun c7 => ?_)
  · exact absurd hh (by unfold hasK; rw [List.getElem?_eq_none (by rw [ksOf_len]; omega)]; exact Bool.noConfusion)
  · refine r_aload_n Mm dX2_removeKeyAt_17 rfl ?_
    refine r_getR Mm dX2_removeKeyAt_18 fi_X2_21 (hs) rfl (i := 202) rfl (hka) ?_
    refine r_iload_n Mm dX2_removeKeyAt_21 rfl ?_
    obtain ⟨v8, hv8⟩ : ∃ v, xs[ahead (ksOf h xs) f]? = some v := ⟨_, List.getElem?_eq_getElem (by omega)⟩
    have sv8 := hxk v8 (List.mem_of_getElem? hv8)
    refine r_callV (As := [(.int (nI (ahead (ksOf h xs) f)))]) Mm dX2_removeKeyAt_22 rfl (ct_lget hfl h ka (ahead (ksOf h xs) f) v8 xs (hLk) hv8) (hLk.1) rfl cw_X2_49 ⟨Nat.le_of_ble_eq_true rfl, Nat.le_of_ble_eq_true rfl, Nat.le_of_ble_eq_true rfl⟩ (Nat.le_of_ble_eq_true rfl) ⟨Nat.le_of_ble_eq_true rfl, Nat.le_of_ble_eq_true rfl⟩ (fun r9 h10 p11 => ?_) (fun Er9 h10 p11 => False.elim p11)
    obtain ⟨rfl, rfl⟩ := p11
    show V 25 _ [(.ref v8)] _ _ _
    refine r_cast Mm dX2_removeKeyAt_25 (sv8) rfl cl_X2_53 ?_
    refine r_getI Mm dX2_removeKeyAt_28 fi_X2_55 (sv8) rfl (i := 0) rfl ?_
    refine r_iload_n Mm dX2_removeKeyAt_31 rfl ?_
    refine r_icmp_ne (tgt := 44) Mm dX2_removeKeyAt_32 (by decide) (fun c12 => ?_) (fun c12 => ?_)
    · exact absurd hh (by unfold hasK; rw [ksOf_at hv8]; exact any_N c12)
    · refine r_aload_n Mm dX2_removeKeyAt_35 rfl ?_
      refine r_getR Mm dX2_removeKeyAt_36 fi_X2_21 (hs) rfl (i := 202) rfl (hka) ?_
      refine r_iload_n Mm dX2_removeKeyAt_39 rfl ?_
      refine r_callV (As := [(.int (nI (ahead (ksOf h xs) f)))]) Mm dX2_removeKeyAt_40 rfl (ct_lremove hfl h ka (ahead (ksOf h xs) f) v8 xs hLk hv8) (hLk.1) rfl cw_X2_70 ⟨Nat.le_of_ble_eq_true rfl, Nat.le_of_ble_eq_true rfl, Nat.le_of_ble_eq_true rfl⟩ (Nat.le_of_ble_eq_true rfl) ⟨Nat.le_of_ble_eq_true rfl, Nat.le_of_ble_eq_true rfl⟩ (fun r13 h14 p15 => ?_) (fun Er13 h14 p15 => False.elim p15)
      obtain ⟨rfl, hLP⟩ := p15
      show V 43 _ [(.ref v8)] _ _ _
      refine r_pop Mm dX2_removeKeyAt_43 rfl ?_
      refine r_vret M dX2_removeKeyAt_44 ?_
      exact ⟨rfl, hLP⟩
set_option maxRecDepth 100000 in
set_option maxHeartbeats 4000000 in
theorem ct_standBehind {g : Gl} {l : Launch} (hfl : l.stackTraces = false) {E : Nat} (h : Hp) (a ka ma pl : Nat) (xs ms : List Nat) (hP : isPup E h a ka ma pl xs ms) (n : Nat) (f : Int32) (hn : n < 2000) : CT g l iX2_standBehind 4 [.ref a, .int (nI n), .int f] h 0 0 (pRet none (pXY h pl (behind (xF h 200 a) (ksOf h xs) n f))) := by
  obtain ⟨hs, hka, hma, hpl, hsp, hLk, hLm, hxk, hxm⟩ := hP
  have hl1 := hLk.2.2.1
  have hl2 := hLm.2.2.1
  refine ct_mk hfl (by decide) (Nat.le_of_ble_eq_true rfl) (by intro v hv; simp only [List.mem_cons, List.not_mem_nil, or_false] at hv; rcases hv with rfl | rfl | rfl <;> rfl) (fun V X M => ?_)
  have Mm := M.m
  show V 0 [some (.ref a), some (.int (nI n)), some (.int f), none] [] _ 0 0
  refine r_aload_n Mm dX2_standBehind_0 rfl ?_
  refine r_getR Mm dX2_standBehind_1 fi_X2_21 (hs) rfl (i := 202) rfl (hka) ?_
  refine r_callV (As := []) Mm dX2_standBehind_4 rfl (ct_lsize hfl h ka xs (hLk)) (hLk.1) rfl cw_X2_45 ⟨Nat.le_of_ble_eq_true rfl, Nat.le_of_ble_eq_true rfl, Nat.le_of_ble_eq_true rfl⟩ (Nat.le_of_ble_eq_true rfl) ⟨Nat.le_of_ble_eq_true rfl, Nat.le_of_ble_eq_true rfl⟩ (fun r1 h2 p3 => ?_) (fun Er1 h2 p3 => False.elim p3)
  obtain ⟨rfl, rfl⟩ := p3
  show V 7 _ [(.int (nI (xs.length)))] _ _ _
  refine r_istore_n Mm dX2_standBehind_7 (by decide) ?_
  show V 8 [some (.ref a), some (.int (nI n)), some (.int f), some (.int (nI (xs.length)))] _ _ _ _
  refine r_iload_n Mm dX2_standBehind_8 rfl ?_
  refine r_if_neN (tgt := 34) Mm dX2_standBehind_9 (by decide) (by omega) (fun c4 => ?_) (fun c4 => ?_)
  · refine r_iload_n Mm dX2_standBehind_34 rfl ?_
    refine r_if_gtN (tgt := 59) Mm dX2_standBehind_35 (by decide) (by omega) (fun c5 => ?_) (fun c5 => ?_)
    · refine r_iload_n Mm dX2_standBehind_59 rfl ?_
      refine r_iload_n Mm dX2_standBehind_60 rfl ?_
      refine r_icmp_ltN (tgt := 87) Mm dX2_standBehind_61 (by decide) (by omega) (by omega) (fun c6 => ?_) (fun c6 => ?_)
      · refine r_aload_n Mm dX2_standBehind_87 rfl ?_
        refine r_getR Mm dX2_standBehind_88 fi_X2_37 (hs) rfl (i := 206) rfl (hpl) ?_
        refine r_aload_n Mm dX2_standBehind_91 rfl ?_
        refine r_getR Mm dX2_standBehind_92 fi_X2_21 (hs) rfl (i := 202) rfl (hka) ?_
        refine r_iload_n Mm dX2_standBehind_95 rfl ?_
        refine r_iconst (v := nI 1) Mm dX2_standBehind_96 (by decide) ?_
        refine r_isubN Mm dX2_standBehind_97 (by omega) ?_
        obtain ⟨v7, hv7⟩ : ∃ v, xs[n - 1]? = some v := ⟨_, List.getElem?_eq_getElem (by omega)⟩
        have sv7 := hxk v7 (List.mem_of_getElem? hv7)
        refine r_callV (As := [(.int (nI (n - 1)))]) Mm dX2_standBehind_98 rfl (ct_lget hfl h ka (n - 1) v7 xs (hLk) hv7) (hLk.1) rfl cw_X2_49 ⟨Nat.le_of_ble_eq_true rfl, Nat.le_of_ble_eq_true rfl, Nat.le_of_ble_eq_true rfl⟩ (Nat.le_of_ble_eq_true rfl) ⟨Nat.le_of_ble_eq_true rfl, Nat.le_of_ble_eq_true rfl⟩ (fun r8 h9 p10 => ?_) (fun Er8 h9 p10 => False.elim p10)
        obtain ⟨rfl, rfl⟩ := p10
        show V 101 _ [(.ref v7), (.ref pl)] _ _ _
        refine r_cast Mm dX2_standBehind_101 (sv7) rfl cl_X2_53 ?_
        refine r_aload_n Mm dX2_standBehind_104 rfl ?_
        refine r_getR Mm dX2_standBehind_105 fi_X2_21 (hs) rfl (i := 202) rfl (hka) ?_
        refine r_iload_n Mm dX2_standBehind_108 rfl ?_
        obtain ⟨v11, hv11⟩ : ∃ v, xs[n]? = some v := ⟨_, List.getElem?_eq_getElem (by omega)⟩
        have sv11 := hxk v11 (List.mem_of_getElem? hv11)
        refine r_callV (As := [(.int (nI n))]) Mm dX2_standBehind_109 rfl (ct_lget hfl h ka n v11 xs (hLk) hv11) (hLk.1) rfl cw_X2_49 ⟨Nat.le_of_ble_eq_true rfl, Nat.le_of_ble_eq_true rfl, Nat.le_of_ble_eq_true rfl⟩ (Nat.le_of_ble_eq_true rfl) ⟨Nat.le_of_ble_eq_true rfl, Nat.le_of_ble_eq_true rfl⟩ (fun r12 h13 p14 => ?_) (fun Er12 h13 p14 => False.elim p14)
        obtain ⟨rfl, rfl⟩ := p14
        show V 112 _ [(.ref v11), (.ref v7), (.ref pl)] _ _ _
        refine r_cast Mm dX2_standBehind_112 (sv11) rfl cl_X2_53 ?_
        refine r_iload_n Mm dX2_standBehind_115 rfl ?_
        refine r_callV (As := [(.ref v7), (.ref v11), (.int f)]) Mm dX2_standBehind_116 rfl (ct_putBetween hfl h pl v7 v11 f hsp sv7 sv11) (hsp) rfl cw_X2_87 ⟨Nat.le_of_ble_eq_true rfl, Nat.le_of_ble_eq_true rfl, Nat.le_of_ble_eq_true rfl⟩ (Nat.le_of_ble_eq_true rfl) ⟨Nat.le_of_ble_eq_true rfl, Nat.le_of_ble_eq_true rfl⟩ (fun r15 h16 p17 => ?_) (fun Er15 h16 p17 => False.elim p17)
        obtain ⟨rfl, rfl⟩ := p17
        show V 119 _ [] _ _ _
        refine r_vret M dX2_standBehind_119 ?_
        refine ⟨rfl, ?_⟩
        unfold behind
        rw [if_neg (by rw [ksOf_len]; omega), if_neg (by omega), if_neg (by rw [ksOf_len]; omega), ksOf_at hv7, ksOf_at hv11]
      · refine r_aload_n Mm dX2_standBehind_64 rfl ?_
        refine r_getR Mm dX2_standBehind_65 fi_X2_37 (hs) rfl (i := 206) rfl (hpl) ?_
        refine r_aload_n Mm dX2_standBehind_68 rfl ?_
        refine r_getR Mm dX2_standBehind_69 fi_X2_21 (hs) rfl (i := 202) rfl (hka) ?_
        refine r_iload_n Mm dX2_standBehind_72 rfl ?_
        refine r_iconst (v := nI 1) Mm dX2_standBehind_73 (by decide) ?_
        refine r_isubN Mm dX2_standBehind_74 (by omega) ?_
        obtain ⟨v18, hv18⟩ : ∃ v, xs[(xs.length) - 1]? = some v := ⟨_, List.getElem?_eq_getElem (by omega)⟩
        have sv18 := hxk v18 (List.mem_of_getElem? hv18)
        refine r_callV (As := [(.int (nI ((xs.length) - 1)))]) Mm dX2_standBehind_75 rfl (ct_lget hfl h ka ((xs.length) - 1) v18 xs (hLk) hv18) (hLk.1) rfl cw_X2_49 ⟨Nat.le_of_ble_eq_true rfl, Nat.le_of_ble_eq_true rfl, Nat.le_of_ble_eq_true rfl⟩ (Nat.le_of_ble_eq_true rfl) ⟨Nat.le_of_ble_eq_true rfl, Nat.le_of_ble_eq_true rfl⟩ (fun r19 h20 p21 => ?_) (fun Er19 h20 p21 => False.elim p21)
        obtain ⟨rfl, rfl⟩ := p21
        show V 78 _ [(.ref v18), (.ref pl)] _ _ _
        refine r_cast Mm dX2_standBehind_78 (sv18) rfl cl_X2_53 ?_
        refine r_callV (As := [(.ref v18)]) Mm dX2_standBehind_81 rfl (ct_putAt hfl h pl v18 hsp sv18) (hsp) rfl cw_X2_83 ⟨Nat.le_of_ble_eq_true rfl, Nat.le_of_ble_eq_true rfl, Nat.le_of_ble_eq_true rfl⟩ (Nat.le_of_ble_eq_true rfl) ⟨Nat.le_of_ble_eq_true rfl, Nat.le_of_ble_eq_true rfl⟩ (fun r22 h23 p24 => ?_) (fun Er22 h23 p24 => False.elim p24)
        obtain ⟨rfl, rfl⟩ := p24
        show V 84 _ [] _ _ _
        refine r_goto (tgt := 119) Mm dX2_standBehind_84 (by decide) ?_
        refine r_vret M dX2_standBehind_119 ?_
        refine ⟨rfl, ?_⟩
        unfold behind
        rw [if_neg (by rw [ksOf_len]; omega), if_neg (by omega), if_pos (by rw [ksOf_len]; omega), ksOf_len, ksOf_at hv18]
    · refine r_aload_n Mm dX2_standBehind_38 rfl ?_
      refine r_getR Mm dX2_standBehind_39 fi_X2_37 (hs) rfl (i := 206) rfl (hpl) ?_
      refine r_aload_n Mm dX2_standBehind_42 rfl ?_
      refine r_getR Mm dX2_standBehind_43 fi_X2_21 (hs) rfl (i := 202) rfl (hka) ?_
      refine r_iconst (v := nI 0) Mm dX2_standBehind_46 (by decide) ?_
      obtain ⟨v25, hv25⟩ : ∃ v, xs[0]? = some v := ⟨_, List.getElem?_eq_getElem (by omega)⟩
      have sv25 := hxk v25 (List.mem_of_getElem? hv25)
      refine r_callV (As := [(.int (nI 0))]) Mm dX2_standBehind_47 rfl (ct_lget hfl h ka 0 v25 xs (hLk) hv25) (hLk.1) rfl cw_X2_49 ⟨Nat.le_of_ble_eq_true rfl, Nat.le_of_ble_eq_true rfl, Nat.le_of_ble_eq_true rfl⟩ (Nat.le_of_ble_eq_true rfl) ⟨Nat.le_of_ble_eq_true rfl, Nat.le_of_ble_eq_true rfl⟩ (fun r26 h27 p28 => ?_) (fun Er26 h27 p28 => False.elim p28)
      obtain ⟨rfl, rfl⟩ := p28
      show V 50 _ [(.ref v25), (.ref pl)] _ _ _
      refine r_cast Mm dX2_standBehind_50 (sv25) rfl cl_X2_53 ?_
      refine r_callV (As := [(.ref v25)]) Mm dX2_standBehind_53 rfl (ct_putAt hfl h pl v25 hsp sv25) (hsp) rfl cw_X2_83 ⟨Nat.le_of_ble_eq_true rfl, Nat.le_of_ble_eq_true rfl, Nat.le_of_ble_eq_true rfl⟩ (Nat.le_of_ble_eq_true rfl) ⟨Nat.le_of_ble_eq_true rfl, Nat.le_of_ble_eq_true rfl⟩ (fun r29 h30 p31 => ?_) (fun Er29 h30 p31 => False.elim p31)
      obtain ⟨rfl, rfl⟩ := p31
      show V 56 _ [] _ _ _
      refine r_goto (tgt := 119) Mm dX2_standBehind_56 (by decide) ?_
      refine r_vret M dX2_standBehind_119 ?_
      refine ⟨rfl, ?_⟩
      unfold behind
      rw [if_neg (by rw [ksOf_len]; omega), if_pos c5, ksOf_at hv25]
  · refine r_aload_n Mm dX2_standBehind_12 rfl ?_
    refine r_getR Mm dX2_standBehind_13 fi_X2_37 (hs) rfl (i := 206) rfl (hpl) ?_
    refine r_aload_n Mm dX2_standBehind_16 rfl ?_
    refine r_getI Mm dX2_standBehind_17 fi_X2_9 (hs) rfl (i := 200) rfl ?_
    refine r_putI (ty := .int) Mm dX2_standBehind_20 fi_X2_77 ki_1 rfl (hsp) rfl (i := 100) rfl rfl (by decide +kernel) rfl rfl ?_
    refine r_aload_n Mm dX2_standBehind_23 rfl ?_
    refine r_getR Mm dX2_standBehind_24 fi_X2_37 (hs) rfl (i := 206) rfl (hpl) ?_
    refine r_iconst (v := nI 0) Mm dX2_standBehind_27 (by decide) ?_
    refine r_putI (ty := .int) Mm dX2_standBehind_28 fi_X2_80 ki_1 rfl (hsp) rfl (i := 101) rfl rfl (by decide +kernel) rfl rfl ?_
    refine r_goto (tgt := 119) Mm dX2_standBehind_31 (by decide) ?_
    refine r_vret M dX2_standBehind_119 ?_
    refine ⟨rfl, ?_⟩
    unfold behind
    rw [if_pos (by rw [ksOf_len]; exact c4)]; rfl
set_option maxRecDepth 100000 in
set_option maxHeartbeats 4000000 in
theorem ct_standAt {g : Gl} {l : Launch} (hfl : l.stackTraces = false) {E : Nat} (h : Hp) (a ka ma pl : Nat) (xs ms : List Nat) (hP : isPup E h a ka ma pl xs ms) (f : Int32) : CT g l iX2_standAt 5 [.ref a, .int f] h 0 0 (pRet none (pXY h pl (trk (xF h 200 a) (ksOf h xs) f))) := by
  obtain ⟨hs, hka, hma, hpl, hsp, hLk, hLm, hxk, hxm⟩ := hP
  have hl1 := hLk.2.2.1
  have hl2 := hLm.2.2.1
  refine ct_mk hfl (by decide) (Nat.le_of_ble_eq_true rfl) (by intro v hv; simp only [List.mem_cons, List.not_mem_nil, or_false] at hv; rcases hv with rfl | rfl <;> rfl) (fun V X M => ?_)
  have Mm := M.m
  show V 0 [some (.ref a), some (.int f)] [] _ 0 0
  refine r_aload_n Mm dX2_standAt_0 rfl ?_
  refine r_aload_n Mm dX2_standAt_1 rfl ?_
  refine r_iload_n Mm dX2_standAt_2 rfl ?_
  refine r_iconst (v := nI 1) Mm dX2_standAt_3 (by decide) ?_
  refine r_iadd Mm dX2_standAt_4 ?_
  have hal := ahead_le (ksOf h xs) (f + (nI 1))
  rw [ksOf_len] at hal
  refine r_callV (As := [(.int (f + (nI 1)))]) Mm dX2_standAt_5 rfl (ct_keysAhead hfl h a ka ma pl xs ms ⟨hs, hka, hma, hpl, hsp, hLk, hLm, hxk, hxm⟩ (f + (nI 1))) (hs) rfl cw_X2_58 ⟨Nat.le_of_ble_eq_true rfl, Nat.le_of_ble_eq_true rfl, Nat.le_of_ble_eq_true rfl⟩ (Nat.le_of_ble_eq_true rfl) ⟨Nat.le_of_ble_eq_true rfl, Nat.le_of_ble_eq_true rfl⟩ (fun r1 h2 p3 => ?_) (fun Er1 h2 p3 => False.elim p3)
  obtain ⟨rfl, rfl⟩ := p3
  show V 8 _ [(.int (nI (ahead (ksOf h xs) (f + (nI 1))))), (.ref a)] _ _ _
  refine r_iload_n Mm dX2_standAt_8 rfl ?_
  refine r_callV (As := [(.int (nI (ahead (ksOf h xs) (f + (nI 1))))), (.int f)]) Mm dX2_standAt_9 rfl (ct_standBehind hfl h a ka ma pl xs ms ⟨hs, hka, hma, hpl, hsp, hLk, hLm, hxk, hxm⟩ (ahead (ksOf h xs) (f + (nI 1))) f (by omega)) (hs) rfl cw_X2_73 ⟨Nat.le_of_ble_eq_true rfl, Nat.le_of_ble_eq_true rfl, Nat.le_of_ble_eq_true rfl⟩ (Nat.le_of_ble_eq_true rfl) ⟨Nat.le_of_ble_eq_true rfl, Nat.le_of_ble_eq_true rfl⟩ (fun r4 h5 p6 => ?_) (fun Er4 h5 p6 => False.elim p6)
  obtain ⟨rfl, rfl⟩ := p6
  show V 12 _ [] _ _ _
  refine r_vret M dX2_standAt_12 ?_
  exact ⟨rfl, rfl⟩
set_option maxRecDepth 100000 in
set_option maxHeartbeats 4000000 in
theorem ct_wear {g : Gl} {l : Launch} (hfl : l.stackTraces = false) {E : Nat} (h : Hp) (a ka ma pl : Nat) (xs ms : List Nat) (hP : isPup E h a ka ma pl xs ms) (w : Nat) (hw : w < 1000) (hwn : xF h 204 a = nI w) : CT g l iX2_wear 2 [.ref a] h 0 0 (pRet none (yF h 204 a (nI (min 99 (w + xs.length))))) := by
  obtain ⟨hs, hka, hma, hpl, hsp, hLk, hLm, hxk, hxm⟩ := hP
  have hl1 := hLk.2.2.1
  have hl2 := hLm.2.2.1
  refine ct_mk hfl (by decide) (Nat.le_of_ble_eq_true rfl) (by intro v hv; simp only [List.mem_cons, List.not_mem_nil, or_false] at hv; rcases hv with rfl <;> rfl) (fun V X M => ?_)
  have Mm := M.m
  show V 0 [some (.ref a)] [] _ 0 0
  refine r_aload_n Mm dX2_wear_0 rfl ?_
  refine r_bipush (v := nI 99) Mm dX2_wear_1 (by decide) ?_
  refine r_aload_n Mm dX2_wear_3 rfl ?_
  refine r_getI Mm dX2_wear_4 fi_X2_28 (hs) rfl (i := 204) rfl ?_
  refine r_top _ (nI w) (hwn) ?_
  refine r_aload_n Mm dX2_wear_7 rfl ?_
  refine r_getR Mm dX2_wear_8 fi_X2_21 (hs) rfl (i := 202) rfl (hka) ?_
  refine r_callV (As := []) Mm dX2_wear_11 rfl (ct_lsize hfl h ka xs (hLk)) (hLk.1) rfl cw_X2_45 ⟨Nat.le_of_ble_eq_true rfl, Nat.le_of_ble_eq_true rfl, Nat.le_of_ble_eq_true rfl⟩ (Nat.le_of_ble_eq_true rfl) ⟨Nat.le_of_ble_eq_true rfl, Nat.le_of_ble_eq_true rfl⟩ (fun r1 h2 p3 => ?_) (fun Er1 h2 p3 => False.elim p3)
  obtain ⟨rfl, rfl⟩ := p3
  show V 14 _ [(.int (nI (xs.length))), (.int (nI w)), (.int (nI 99)), (.ref a)] _ _ _
  refine r_iaddN Mm dX2_wear_14 ?_
  refine r_min Mm dX2_wear_15 cm_X2_94 cms_min cmi cmc_min (Nat.le_of_ble_eq_true rfl) (Nat.le_of_ble_eq_true rfl) ?_
  refine r_top _ (nI (min 99 (w + xs.length))) (minN (by omega) (by omega)) ?_
  refine r_putI (ty := .int) Mm dX2_wear_18 fi_X2_28 ki_2 rfl (hs) rfl (i := 204) rfl rfl (by decide +kernel) rfl rfl ?_
  refine r_vret M dX2_wear_21 ?_
  exact ⟨rfl, rfl⟩
set_option maxRecDepth 100000 in
set_option maxHeartbeats 4000000 in
theorem ct_pull {g : Gl} {l : Launch} (hfl : l.stackTraces = false) {E : Nat} (h : Hp) (a ka ma pl : Nat) (xs ms : List Nat) (hP : isPup E h a ka ma pl xs ms)  : CT g l iX2_pull 2 [.ref a] h 0 0 (pRet none (pXY h pl (pullS (xF h 200 a) (xF h 201 a) (xF h 100 pl, xF h 101 pl)))) := by
  obtain ⟨hs, hka, hma, hpl, hsp, hLk, hLm, hxk, hxm⟩ := hP
  have hl1 := hLk.2.2.1
  have hl2 := hLm.2.2.1
  refine ct_mk hfl (by decide) (Nat.le_of_ble_eq_true rfl) (by intro v hv; simp only [List.mem_cons, List.not_mem_nil, or_false] at hv; rcases hv with rfl <;> rfl) (fun V X M => ?_)
  have Mm := M.m
  show V 0 [some (.ref a), none, none] [] _ 0 0
  refine r_aload_n Mm dX2_pull_0 rfl ?_
  refine r_getI Mm dX2_pull_1 fi_X2_15 (hs) rfl (i := 201) rfl ?_
  refine r_aload_n Mm dX2_pull_4 rfl ?_
  refine r_getI Mm dX2_pull_5 fi_X2_15 (hs) rfl (i := 201) rfl ?_
  refine r_imul Mm dX2_pull_8 ?_
  refine r_istore_n Mm dX2_pull_9 (by decide) ?_
  show V 10 [some (.ref a), some (.int ((xF h 201 a) * (xF h 201 a))), none] _ _ _ _
  refine r_aload_n Mm dX2_pull_10 rfl ?_
  refine r_callV (As := []) Mm dX2_pull_11 rfl (ct_sqBar hfl h a ka ma pl xs ms ⟨hs, hka, hma, hpl, hsp, hLk, hLm, hxk, hxm⟩) (hs) rfl cw_X2_91 ⟨Nat.le_of_ble_eq_true rfl, Nat.le_of_ble_eq_true rfl, Nat.le_of_ble_eq_true rfl⟩ (Nat.le_of_ble_eq_true rfl) ⟨Nat.le_of_ble_eq_true rfl, Nat.le_of_ble_eq_true rfl⟩ (fun r1 h2 p3 => ?_) (fun Er1 h2 p3 => False.elim p3)
  obtain ⟨rfl, rfl⟩ := p3
  show V 14 _ [(.int (sq2 (xF h 100 pl - xF h 200 a) (xF h 101 pl)))] _ _ _
  refine r_iload_n Mm dX2_pull_14 rfl ?_
  refine r_icmp_gt (tgt := 19) Mm dX2_pull_15 (by decide) (fun c4 => ?_) (fun c4 => ?_)
  · refine r_aload_n Mm dX2_pull_19 rfl ?_
    refine r_getI Mm dX2_pull_20 fi_X2_15 (hs) rfl (i := 201) rfl ?_
    refine r_ineg Mm dX2_pull_23 ?_
    refine r_aload_n Mm dX2_pull_24 rfl ?_
    refine r_getI Mm dX2_pull_25 fi_X2_15 (hs) rfl (i := 201) rfl ?_
    refine r_aload_n Mm dX2_pull_28 rfl ?_
    refine r_getR Mm dX2_pull_29 fi_X2_37 (hs) rfl (i := 206) rfl (hpl) ?_
    refine r_getI Mm dX2_pull_32 fi_X2_77 (hsp) rfl (i := 100) rfl ?_
    refine r_aload_n Mm dX2_pull_35 rfl ?_
    refine r_getI Mm dX2_pull_36 fi_X2_9 (hs) rfl (i := 200) rfl ?_
    refine r_isub Mm dX2_pull_39 ?_
    refine r_min Mm dX2_pull_40 cm_X2_94 cms_min cmi cmc_min (Nat.le_of_ble_eq_true rfl) (Nat.le_of_ble_eq_true rfl) ?_
    refine r_max Mm dX2_pull_43 cm_X2_100 cms_max cmi cmc_max (Nat.le_of_ble_eq_true rfl) (Nat.le_of_ble_eq_true rfl) ?_
    refine r_top _ (clampS (xF h 201 a) (xF h 100 pl - xF h 200 a)) rfl ?_
    refine r_istore_n Mm dX2_pull_46 (by decide) ?_
    show V 47 [some (.ref a), some (.int ((xF h 201 a) * (xF h 201 a))), some (.int (clampS (xF h 201 a) (xF h 100 pl - xF h 200 a)))] _ _ _ _
    refine r_aload_n Mm dX2_pull_47 rfl ?_
    refine r_getR Mm dX2_pull_48 fi_X2_37 (hs) rfl (i := 206) rfl (hpl) ?_
    refine r_aload_n Mm dX2_pull_51 rfl ?_
    refine r_getI Mm dX2_pull_52 fi_X2_9 (hs) rfl (i := 200) rfl ?_
    refine r_iload_n Mm dX2_pull_55 rfl ?_
    refine r_iadd Mm dX2_pull_56 ?_
    refine r_putI (ty := .int) Mm dX2_pull_57 fi_X2_77 ki_1 rfl (hsp) rfl (i := 100) rfl rfl (by decide +kernel) rfl rfl ?_
    refine r_aload_n Mm dX2_pull_60 rfl ?_
    refine r_getR Mm dX2_pull_61 fi_X2_37 (hs) rfl (i := 206) rfl (hpl) ?_
    refine r_iload_n Mm dX2_pull_64 rfl ?_
    refine r_iload_n Mm dX2_pull_65 rfl ?_
    refine r_iload_n Mm dX2_pull_66 rfl ?_
    refine r_imul Mm dX2_pull_67 ?_
    refine r_isub Mm dX2_pull_68 ?_
    refine r_callSN (As := [(.int (((xF h 201 a) * (xF h 201 a)) - ((clampS (xF h 201 a) (xF h 100 pl - xF h 200 a)) * (clampS (xF h 201 a) (xF h 100 pl - xF h 200 a)))))]) Mm dX2_pull_69 rfl (ct_root hfl ((yF h 100 pl ((xF h 200 a) + (clampS (xF h 201 a) (xF h 100 pl - xF h 200 a))))) (((xF h 201 a) * (xF h 201 a)) - ((clampS (xF h 201 a) (xF h 100 pl - xF h 200 a)) * (clampS (xF h 201 a) (xF h 100 pl - xF h 200 a))))) cw_X2_103 ⟨Nat.le_of_ble_eq_true rfl, Nat.le_of_ble_eq_true rfl, Nat.le_of_ble_eq_true rfl⟩ (Nat.le_of_ble_eq_true rfl) ⟨Nat.le_of_ble_eq_true rfl, Nat.le_of_ble_eq_true rfl⟩ (fun r5 h6 p7 => ?_) (fun _ _ z => z)
    obtain ⟨rfl, rfl⟩ := p7
    show V 72 _ [(.int (rootB (((xF h 201 a) * (xF h 201 a)) - ((clampS (xF h 201 a) (xF h 100 pl - xF h 200 a)) * (clampS (xF h 201 a) (xF h 100 pl - xF h 200 a)))))), (.ref pl)] _ _ _
    refine r_putI (ty := .int) Mm dX2_pull_72 fi_X2_80 ki_1 rfl (hsp) rfl (i := 101) rfl rfl (by decide +kernel) rfl rfl ?_
    refine r_vret M dX2_pull_75 ?_
    refine ⟨rfl, ?_⟩
    rw [show pullS (xF h 200 a) (xF h 201 a) (xF h 100 pl, xF h 101 pl) = (xF h 200 a + clampS (xF h 201 a) (xF h 100 pl - xF h 200 a), rootB (xF h 201 a * xF h 201 a - clampS (xF h 201 a) (xF h 100 pl - xF h 200 a) * clampS (xF h 201 a) (xF h 100 pl - xF h 200 a))) from if_pos c4]
    rfl
  · refine r_vret M dX2_pull_18 ?_
    refine ⟨rfl, ?_⟩
    rw [show pullS (xF h 200 a) (xF h 201 a) (xF h 100 pl, xF h 101 pl) = (xF h 100 pl, xF h 101 pl) from if_neg (Int32.not_lt.mpr (Int32.not_lt.mp c4))]
    exact pXY_self h pl
set_option maxRecDepth 100000 in
set_option maxHeartbeats 4000000 in
theorem ct_keepOff {g : Gl} {l : Launch} (hfl : l.stackTraces = false) {E : Nat} (h : Hp) (a ka ma pl : Nat) (xs ms : List Nat) (hP : isPup E h a ka ma pl xs ms) (p2 : Nat) (h2 : xS h p2 = some (1, 0)) : CT g l iX2_keepOff 2 [.ref a, .ref p2] h 0 0 (pRet none (if nearS (xF h 100 pl, xF h 101 pl) (xF h 100 p2, xF h 101 p2) = true then yF (yF h 100 pl (awayS (xF h 100 pl) (xF h 100 p2))) 207 a (nI 1) else h)) := by
  obtain ⟨hs, hka, hma, hpl, hsp, hLk, hLm, hxk, hxm⟩ := hP
  have hl1 := hLk.2.2.1
  have hl2 := hLm.2.2.1
  refine ct_mk hfl (by decide) (Nat.le_of_ble_eq_true rfl) (by intro v hv; simp only [List.mem_cons, List.not_mem_nil, or_false] at hv; rcases hv with rfl | rfl <;> rfl) (fun V X M => ?_)
  have Mm := M.m
  show V 0 [some (.ref a), some (.ref p2)] [] _ 0 0
  refine r_aload_n Mm dX2_keepOff_0 rfl ?_
  refine r_getR Mm dX2_keepOff_1 fi_X2_37 (hs) rfl (i := 206) rfl (hpl) ?_
  refine r_getI Mm dX2_keepOff_4 fi_X2_77 (hsp) rfl (i := 100) rfl ?_
  refine r_aload_n Mm dX2_keepOff_7 rfl ?_
  refine r_getI Mm dX2_keepOff_8 fi_X2_77 (h2) rfl (i := 100) rfl ?_
  refine r_isub Mm dX2_keepOff_11 ?_
  refine r_abs Mm dX2_keepOff_12 cm_X2_106 cms_abs cmi cmc_abs (Nat.le_of_ble_eq_true rfl) (Nat.le_of_ble_eq_true rfl) ?_
  refine r_bipush (v := nI 10) Mm dX2_keepOff_15 (by decide) ?_
  refine r_icmp_ge (tgt := 40) Mm dX2_keepOff_17 (by decide) (fun c1 => ?_) (fun c1 => ?_)
  · refine r_vret M dX2_keepOff_40 ?_
    refine ⟨rfl, ?_⟩
    rw [if_neg (show ¬ nearS (xF h 100 pl, xF h 101 pl) (xF h 100 p2, xF h 101 p2) = true by simp only [nearS, Bool.and_eq_true, decide_eq_true_eq]; exact fun z => absurd z.1 (Int32.not_lt.mpr c1))]
  · refine r_aload_n Mm dX2_keepOff_20 rfl ?_
    refine r_getR Mm dX2_keepOff_21 fi_X2_37 (hs) rfl (i := 206) rfl (hpl) ?_
    refine r_getI Mm dX2_keepOff_24 fi_X2_80 (hsp) rfl (i := 101) rfl ?_
    refine r_aload_n Mm dX2_keepOff_27 rfl ?_
    refine r_getI Mm dX2_keepOff_28 fi_X2_80 (h2) rfl (i := 101) rfl ?_
    refine r_isub Mm dX2_keepOff_31 ?_
    refine r_abs Mm dX2_keepOff_32 cm_X2_106 cms_abs cmi cmc_abs (Nat.le_of_ble_eq_true rfl) (Nat.le_of_ble_eq_true rfl) ?_
    refine r_bipush (v := nI 10) Mm dX2_keepOff_35 (by decide) ?_
    refine r_icmp_lt (tgt := 41) Mm dX2_keepOff_37 (by decide) (fun c2 => ?_) (fun c2 => ?_)
    · refine r_aload_n Mm dX2_keepOff_41 rfl ?_
      refine r_getR Mm dX2_keepOff_42 fi_X2_37 (hs) rfl (i := 206) rfl (hpl) ?_
      refine r_aload_n Mm dX2_keepOff_45 rfl ?_
      refine r_getR Mm dX2_keepOff_46 fi_X2_37 (hs) rfl (i := 206) rfl (hpl) ?_
      refine r_getI Mm dX2_keepOff_49 fi_X2_77 (hsp) rfl (i := 100) rfl ?_
      refine r_aload_n Mm dX2_keepOff_52 rfl ?_
      refine r_getI Mm dX2_keepOff_53 fi_X2_77 (h2) rfl (i := 100) rfl ?_
      refine r_icmp_ge (tgt := 69) Mm dX2_keepOff_56 (by decide) (fun c3 => ?_) (fun c3 => ?_)
      · refine r_aload_n Mm dX2_keepOff_69 rfl ?_
        refine r_getI Mm dX2_keepOff_70 fi_X2_77 (h2) rfl (i := 100) rfl ?_
        refine r_bipush (v := nI 10) Mm dX2_keepOff_73 (by decide) ?_
        refine r_iadd Mm dX2_keepOff_75 ?_
        refine r_putI (ty := .int) Mm dX2_keepOff_76 fi_X2_77 ki_1 rfl (hsp) rfl (i := 100) rfl rfl (by decide +kernel) rfl rfl ?_
        refine r_aload_n Mm dX2_keepOff_79 rfl ?_
        refine r_iconst (v := nI 1) Mm dX2_keepOff_80 (by decide) ?_
        refine r_putI (ty := .boolean) Mm dX2_keepOff_81 fi_X2_41 ki_2 rfl (hs) rfl (i := 207) rfl rfl (by decide +kernel) rfl rfl ?_
        refine r_vret M dX2_keepOff_84 ?_
        refine ⟨rfl, ?_⟩
        rw [if_pos (show nearS (xF h 100 pl, xF h 101 pl) (xF h 100 p2, xF h 101 p2) = true by simp only [nearS, Bool.and_eq_true, decide_eq_true_eq]; exact ⟨Int32.not_le.mp c1, c2⟩)]
        rw [show awayS (xF h 100 pl) (xF h 100 p2) = _ from if_neg (Int32.not_lt.mpr c3)]
      · refine r_aload_n Mm dX2_keepOff_59 rfl ?_
        refine r_getI Mm dX2_keepOff_60 fi_X2_77 (h2) rfl (i := 100) rfl ?_
        refine r_bipush (v := nI 10) Mm dX2_keepOff_63 (by decide) ?_
        refine r_isub Mm dX2_keepOff_65 ?_
        refine r_goto (tgt := 76) Mm dX2_keepOff_66 (by decide) ?_
        refine r_putI (ty := .int) Mm dX2_keepOff_76 fi_X2_77 ki_1 rfl (hsp) rfl (i := 100) rfl rfl (by decide +kernel) rfl rfl ?_
        refine r_aload_n Mm dX2_keepOff_79 rfl ?_
        refine r_iconst (v := nI 1) Mm dX2_keepOff_80 (by decide) ?_
        refine r_putI (ty := .boolean) Mm dX2_keepOff_81 fi_X2_41 ki_2 rfl (hs) rfl (i := 207) rfl rfl (by decide +kernel) rfl rfl ?_
        refine r_vret M dX2_keepOff_84 ?_
        refine ⟨rfl, ?_⟩
        rw [if_pos (show nearS (xF h 100 pl, xF h 101 pl) (xF h 100 p2, xF h 101 p2) = true by simp only [nearS, Bool.and_eq_true, decide_eq_true_eq]; exact ⟨Int32.not_le.mp c1, c2⟩)]
        rw [show awayS (xF h 100 pl) (xF h 100 p2) = _ from if_pos (Int32.not_le.mp c3)]
    · refine r_vret M dX2_keepOff_40 ?_
      refine ⟨rfl, ?_⟩
      rw [if_neg (show ¬ nearS (xF h 100 pl, xF h 101 pl) (xF h 100 p2, xF h 101 p2) = true by simp only [nearS, Bool.and_eq_true, decide_eq_true_eq]; exact fun z => c2 z.2)]
theorem any_none {α : Type} {ms : List α} {p : α → Bool} {i : Nat} (hf : ∀ (j : Nat) (m : α), j < i → ms[j]? = some m → p m = false) (hi : ms.length ≤ i) : ms.any p = false := by
  rw [List.any_eq_false]
  intro m hm
  obtain ⟨j, hj⟩ := List.getElem?_of_mem hm
  rw [hf j m (by have := (List.getElem?_eq_some_iff.mp hj).1; omega) hj]
  exact Bool.noConfusion
theorem none_step {α : Type} {ms : List α} {p : α → Bool} {i : Nat} {v : α} (hf : ∀ (j : Nat) (m : α), j < i → ms[j]? = some m → p m = false) (hv : ms[i]? = some v) (hp : p v = false) : ∀ (j : Nat) (m : α), j < i + 1 → ms[j]? = some m → p m = false := fun j m hj hm => by
  by_cases hji : j < i
  · exact hf j m hji hm
  · obtain rfl : j = i := by omega
    rw [hv] at hm; cases hm; exact hp
set_option maxRecDepth 100000 in
set_option maxHeartbeats 4000000 in
theorem ct_mended {g : Gl} {l : Launch} (hfl : l.stackTraces = false) {E : Nat} (h : Hp) (a ka ma pl : Nat) (xs ms : List Nat) (hP : isPup E h a ka ma pl xs ms) (b : Nat) (hb : xS h b = some (4, 0)) : CT g l iX2_isMendedDuring 4 [.ref a, .ref b] h 0 0 (pRet (some (.int (bI (ms.any (fun m => meetS (sv h m) (sv h b)))))) h) := by
  obtain ⟨hs, hka, hma, hpl, hsp, hLk, hLm, hxk, hxm⟩ := hP
  have hl1 := hLk.2.2.1
  have hl2 := hLm.2.2.1
  refine ct_mk hfl (by decide) (Nat.le_of_ble_eq_true rfl) (by intro v hv; simp only [List.mem_cons, List.not_mem_nil, or_false] at hv; rcases hv with rfl | rfl <;> rfl) (fun V X M => ?_)
  have Mm := M.m
  show V 0 [some (.ref a), some (.ref b), none] [] _ 0 0
  refine r_iconst (v := nI 0) Mm dX2_isMendedDuring_0 (by decide) ?_
  refine r_istore_n Mm dX2_isMendedDuring_1 (by decide) ?_
  show V 2 [some (.ref a), some (.ref b), some (.int (nI 0))] _ _ _ _
  have loop : ∀ (n : Nat) (i : Nat), ms.length - i < n → (i ≤ ms.length) → (∀ (j m : Nat), j < i → ms[j]? = some m → meetS (sv h m) (sv h b) = false) → V 2 [some (.ref a), some (.ref b), some (.int (nI i))] [] h 0 0 := by
    intro n
    induction n with
    | zero => intro i hm; exact absurd hm (Nat.not_lt_zero _)
    | succ n ih =>
      intro i hm hi hf
      refine r_iload_n Mm dX2_isMendedDuring_2 rfl ?_
      refine r_aload_n Mm dX2_isMendedDuring_3 rfl ?_
      refine r_getR Mm dX2_isMendedDuring_4 fi_X2_31 (hs) rfl (i := 205) rfl (hma) ?_
      refine r_callV (As := []) Mm dX2_isMendedDuring_7 rfl (ct_lsize hfl h ma ms (hLm)) (hLm.1) rfl cw_X2_45 ⟨Nat.le_of_ble_eq_true rfl, Nat.le_of_ble_eq_true rfl, Nat.le_of_ble_eq_true rfl⟩ (Nat.le_of_ble_eq_true rfl) ⟨Nat.le_of_ble_eq_true rfl, Nat.le_of_ble_eq_true rfl⟩ (fun r1 h2 p3 => ?_) (fun Er1 h2 p3 => False.elim p3)
      obtain ⟨rfl, rfl⟩ := p3
      show V 10 _ [(.int (nI (ms.length))), (.int (nI i))] _ _ _
      refine r_icmp_geN (tgt := 39) Mm dX2_isMendedDuring_10 (by decide) (by omega) (by omega) (fun c4 => ?_) (fun c4 => ?_)
      · refine r_iconst (v := nI 0) Mm dX2_isMendedDuring_39 (by decide) ?_
        refine r_zret M dX2_isMendedDuring_40 (by decide) ?_
        exact ⟨by rw [show ms.any (fun m => meetS (sv h m) (sv h b)) = false from any_none hf (by omega)]; rfl, rfl⟩
      · refine r_aload_n Mm dX2_isMendedDuring_13 rfl ?_
        refine r_getR Mm dX2_isMendedDuring_14 fi_X2_31 (hs) rfl (i := 205) rfl (hma) ?_
        refine r_iload_n Mm dX2_isMendedDuring_17 rfl ?_
        obtain ⟨v5, hv5⟩ : ∃ v, ms[i]? = some v := ⟨_, List.getElem?_eq_getElem (by omega)⟩
        have sv5 := hxm v5 (List.mem_of_getElem? hv5)
        refine r_callV (As := [(.int (nI i))]) Mm dX2_isMendedDuring_18 rfl (ct_lget hfl h ma i v5 ms (hLm) hv5) (hLm.1) rfl cw_X2_49 ⟨Nat.le_of_ble_eq_true rfl, Nat.le_of_ble_eq_true rfl, Nat.le_of_ble_eq_true rfl⟩ (Nat.le_of_ble_eq_true rfl) ⟨Nat.le_of_ble_eq_true rfl, Nat.le_of_ble_eq_true rfl⟩ (fun r6 h7 p8 => ?_) (fun Er6 h7 p8 => False.elim p8)
        obtain ⟨rfl, rfl⟩ := p8
        show V 21 _ [(.ref v5)] _ _ _
        refine r_cast Mm dX2_isMendedDuring_21 (sv5) rfl cl_X2_113 ?_
        refine r_aload_n Mm dX2_isMendedDuring_24 rfl ?_
        refine r_callV (As := [(.ref b)]) Mm dX2_isMendedDuring_25 rfl (ct_meets hfl h v5 b sv5 hb) (sv5) rfl cw_X2_115 ⟨Nat.le_of_ble_eq_true rfl, Nat.le_of_ble_eq_true rfl, Nat.le_of_ble_eq_true rfl⟩ (Nat.le_of_ble_eq_true rfl) ⟨Nat.le_of_ble_eq_true rfl, Nat.le_of_ble_eq_true rfl⟩ (fun r9 h10 p11 => ?_) (fun Er9 h10 p11 => False.elim p11)
        obtain ⟨rfl, rfl⟩ := p11
        show V 28 _ [(.int (bI (meetS (sv h v5) (sv h b))))] _ _ _
        refine r_if_eqB (tgt := 33) Mm dX2_isMendedDuring_28 (by decide) (fun c12 => ?_) (fun c12 => ?_)
        · refine r_iincN (k := 1) Mm dX2_isMendedDuring_33 rfl (by decide) (by decide) ?_
          show V 36 [some (.ref a), some (.ref b), some (.int (nI (i + 1)))] _ _ _ _
          refine r_goto (tgt := 2) Mm dX2_isMendedDuring_36 (by decide) ?_
          exact ih (i + 1) (by omega) (by omega) (none_step hf hv5 c12)
        · refine r_iconst (v := nI 1) Mm dX2_isMendedDuring_31 (by decide) ?_
          refine r_zret M dX2_isMendedDuring_32 (by decide) ?_
          exact ⟨by rw [show ms.any (fun m => meetS (sv h m) (sv h b)) = true from List.any_eq_true.mpr ⟨v5, List.mem_of_getElem? hv5, c12⟩]; rfl, rfl⟩
  exact loop (ms.length + 1) 0 (by omega) (Nat.zero_le _) (fun j _ hj => absurd hj (Nat.not_lt_zero _))
theorem isPup.xy {E : Nat} {h : Hp} {a ka ma pl : Nat} {xs ms : List Nat} (hP : isPup E h a ka ma pl xs ms) (p : Nat) (v : Int32 × Int32) : isPup E (pXY h p v) a ka ma pl xs ms := hP
set_option maxRecDepth 100000 in
set_option maxHeartbeats 4000000 in
theorem ct_walkTo {g : Gl} {l : Launch} (hfl : l.stackTraces = false) {E : Nat} (h : Hp) (a ka ma pl : Nat) (xs ms : List Nat) (hP : isPup E h a ka ma pl xs ms) (F : Nat) (hF : F < 2000) (hsort : SortK (ksOf h xs)) : CT g l iX2_walkTo 5 [.ref a, .int (nI F)] h 0 0 (pRet none (pXY h pl (trk (xF h 200 a) (ksOf h xs) (nI F)))) := by
  obtain ⟨hs, hka, hma, hpl, hsp, hLk, hLm, hxk, hxm⟩ := hP
  have hl1 := hLk.2.2.1
  have hl2 := hLm.2.2.1
  refine ct_mk hfl (by decide) (Nat.le_of_ble_eq_true rfl) (by intro v hv; simp only [List.mem_cons, List.not_mem_nil, or_false] at hv; rcases hv with rfl | rfl <;> rfl) (fun V X M => ?_)
  have Mm := M.m
  show V 0 [some (.ref a), some (.int (nI F)), none, none] [] _ 0 0
  refine r_iconst (v := nI 0) Mm dX2_walkTo_0 (by decide) ?_
  refine r_istore_n Mm dX2_walkTo_1 (by decide) ?_
  show V 2 [some (.ref a), some (.int (nI F)), some (.int (nI 0)), none] _ _ _ _
  refine r_iconst (v := nI 0) Mm dX2_walkTo_2 (by decide) ?_
  refine r_istore_n Mm dX2_walkTo_3 (by decide) ?_
  show V 4 [some (.ref a), some (.int (nI F)), some (.int (nI 0)), some (.int (nI 0))] _ _ _ _
  have loop : ∀ (n : Nat) (j : Nat) (v : Int32 × Int32), F + 1 - j < n → (j ≤ F + 1) → (j = 0 ∨ v = behind (xF h 200 a) (ksOf h xs) (ahead (ksOf h xs) (nI j)) (nI (j - 1))) → V 4 [some (.ref a), some (.int (nI F)), some (.int (nI (ahead (ksOf h xs) (nI j)))), some (.int (nI j))] [] (pXY h pl v) 0 0 := by
    intro n
    induction n with
    | zero => intro j v hm; exact absurd hm (Nat.not_lt_zero _)
    | succ n ih =>
      intro j v hm hj hv
      have hal := ahead_le (ksOf h xs) (nI j)
      rw [ksOf_len] at hal
      refine r_iload_n Mm dX2_walkTo_4 rfl ?_
      refine r_iload_n Mm dX2_walkTo_5 rfl ?_
      refine r_icmp_gtN (tgt := 53) Mm dX2_walkTo_6 (by decide) (by omega) (by omega) (fun c1 => ?_) (fun c1 => ?_)
      · refine r_vret M dX2_walkTo_53 ?_
        obtain rfl : j = F + 1 := by omega
        refine ⟨rfl, ?_⟩
        rw [hv.resolve_left (by omega)]
        unfold trk
        rw [nI_add]; rfl
      · refine r_iload_n Mm dX2_walkTo_9 rfl ?_
        refine r_aload_n Mm dX2_walkTo_10 rfl ?_
        refine r_getR Mm dX2_walkTo_11 fi_X2_21 (hs) rfl (i := 202) rfl (hka) ?_
        refine r_callV (As := []) Mm dX2_walkTo_14 rfl (ct_lsize hfl ((pXY h pl v)) ka xs (hLk)) (hLk.1) rfl cw_X2_45 ⟨Nat.le_of_ble_eq_true rfl, Nat.le_of_ble_eq_true rfl, Nat.le_of_ble_eq_true rfl⟩ (Nat.le_of_ble_eq_true rfl) ⟨Nat.le_of_ble_eq_true rfl, Nat.le_of_ble_eq_true rfl⟩ (fun r2 h3 p4 => ?_) (fun Er2 h3 p4 => False.elim p4)
        obtain ⟨rfl, rfl⟩ := p4
        show V 17 _ [(.int (nI (xs.length))), (.int (nI (ahead (ksOf h xs) (nI j))))] _ _ _
        refine r_icmp_geN (tgt := 41) Mm dX2_walkTo_17 (by decide) (by omega) (by omega) (fun c5 => ?_) (fun c5 => ?_)
        · have e41 : ahead (ksOf h xs) (nI (j + 1)) = ahead (ksOf h xs) (nI j) := ahead_step hsort (by omega) |>.trans (if_neg (by rw [List.getElem?_eq_none (by rw [ksOf_len]; omega)]; exact Bool.noConfusion))
          have hal2 := ahead_le (ksOf h xs) (nI (j + 1))
          rw [ksOf_len] at hal2
          rw [← e41]
          show V 41 [some (.ref a), some (.int (nI F)), some (.int (nI (ahead (ksOf h xs) (nI (j + 1))))), some (.int (nI j))] [] (pXY h pl v) _ _
          refine r_aload_n Mm dX2_walkTo_41 rfl ?_
          refine r_iload_n Mm dX2_walkTo_42 rfl ?_
          refine r_iload_n Mm dX2_walkTo_43 rfl ?_
          refine r_callV (As := [(.int (nI (ahead (ksOf h xs) (nI (j + 1))))), (.int (nI j))]) Mm dX2_walkTo_44 rfl (ct_standBehind hfl (pXY h pl v) a ka ma pl xs ms (isPup.xy ⟨hs, hka, hma, hpl, hsp, hLk, hLm, hxk, hxm⟩ pl v) (ahead (ksOf h xs) (nI (j + 1))) (nI j) (by omega)) (hs) rfl cw_X2_73 ⟨Nat.le_of_ble_eq_true rfl, Nat.le_of_ble_eq_true rfl, Nat.le_of_ble_eq_true rfl⟩ (Nat.le_of_ble_eq_true rfl) ⟨Nat.le_of_ble_eq_true rfl, Nat.le_of_ble_eq_true rfl⟩ (fun r6 h7 p8 => ?_) (fun Er6 h7 p8 => False.elim p8)
          obtain ⟨rfl, rfl⟩ := p8
          rw [pXY_pXY]
          show V 47 _ [] _ _ _
          refine r_iincN (k := 1) Mm dX2_walkTo_47 rfl (by decide) (by decide) ?_
          show V 50 [some (.ref a), some (.int (nI F)), some (.int (nI (ahead (ksOf h xs) (nI (j + 1))))), some (.int (nI (j + 1)))] _ _ _ _
          refine r_goto (tgt := 4) Mm dX2_walkTo_50 (by decide) ?_
          exact ih (j + 1) _ (by omega) (by omega) (Or.inr rfl)
        · refine r_aload_n Mm dX2_walkTo_20 rfl ?_
          refine r_getR Mm dX2_walkTo_21 fi_X2_21 (hs) rfl (i := 202) rfl (hka) ?_
          refine r_iload_n Mm dX2_walkTo_24 rfl ?_
          obtain ⟨v9, hv9⟩ : ∃ v, xs[ahead (ksOf h xs) (nI j)]? = some v := ⟨_, List.getElem?_eq_getElem (by omega)⟩
          have sv9 := hxk v9 (List.mem_of_getElem? hv9)
          refine r_callV (As := [(.int (nI (ahead (ksOf h xs) (nI j))))]) Mm dX2_walkTo_25 rfl (ct_lget hfl ((pXY h pl v)) ka (ahead (ksOf h xs) (nI j)) v9 xs (hLk) hv9) (hLk.1) rfl cw_X2_49 ⟨Nat.le_of_ble_eq_true rfl, Nat.le_of_ble_eq_true rfl, Nat.le_of_ble_eq_true rfl⟩ (Nat.le_of_ble_eq_true rfl) ⟨Nat.le_of_ble_eq_true rfl, Nat.le_of_ble_eq_true rfl⟩ (fun r10 h11 p12 => ?_) (fun Er10 h11 p12 => False.elim p12)
          obtain ⟨rfl, rfl⟩ := p12
          show V 28 _ [(.ref v9)] _ _ _
          refine r_cast Mm dX2_walkTo_28 (sv9) rfl cl_X2_53 ?_
          refine r_getI Mm dX2_walkTo_31 fi_X2_55 (sv9) rfl (i := 0) rfl ?_
          refine r_iload_n Mm dX2_walkTo_34 rfl ?_
          refine r_icmp_ne (tgt := 41) Mm dX2_walkTo_35 (by decide) (fun c13 => ?_) (fun c13 => ?_)
          · have e41 : ahead (ksOf h xs) (nI (j + 1)) = ahead (ksOf h xs) (nI j) := ahead_step hsort (by omega) |>.trans (if_neg (by rw [ksOf_at hv9]; exact any_N (h := h) c13))
            have hal2 := ahead_le (ksOf h xs) (nI (j + 1))
            rw [ksOf_len] at hal2
            rw [← e41]
            show V 41 [some (.ref a), some (.int (nI F)), some (.int (nI (ahead (ksOf h xs) (nI (j + 1))))), some (.int (nI j))] [] (pXY h pl v) _ _
            refine r_aload_n Mm dX2_walkTo_41 rfl ?_
            refine r_iload_n Mm dX2_walkTo_42 rfl ?_
            refine r_iload_n Mm dX2_walkTo_43 rfl ?_
            refine r_callV (As := [(.int (nI (ahead (ksOf h xs) (nI (j + 1))))), (.int (nI j))]) Mm dX2_walkTo_44 rfl (ct_standBehind hfl (pXY h pl v) a ka ma pl xs ms (isPup.xy ⟨hs, hka, hma, hpl, hsp, hLk, hLm, hxk, hxm⟩ pl v) (ahead (ksOf h xs) (nI (j + 1))) (nI j) (by omega)) (hs) rfl cw_X2_73 ⟨Nat.le_of_ble_eq_true rfl, Nat.le_of_ble_eq_true rfl, Nat.le_of_ble_eq_true rfl⟩ (Nat.le_of_ble_eq_true rfl) ⟨Nat.le_of_ble_eq_true rfl, Nat.le_of_ble_eq_true rfl⟩ (fun r14 h15 p16 => ?_) (fun Er14 h15 p16 => False.elim p16)
            obtain ⟨rfl, rfl⟩ := p16
            rw [pXY_pXY]
            show V 47 _ [] _ _ _
            refine r_iincN (k := 1) Mm dX2_walkTo_47 rfl (by decide) (by decide) ?_
            show V 50 [some (.ref a), some (.int (nI F)), some (.int (nI (ahead (ksOf h xs) (nI (j + 1))))), some (.int (nI (j + 1)))] _ _ _ _
            refine r_goto (tgt := 4) Mm dX2_walkTo_50 (by decide) ?_
            exact ih (j + 1) _ (by omega) (by omega) (Or.inr rfl)
          · refine r_iincN (k := 1) Mm dX2_walkTo_38 rfl (by decide) (by decide) ?_
            show V 41 [some (.ref a), some (.int (nI F)), some (.int (nI (ahead (ksOf h xs) (nI j) + 1))), some (.int (nI j))] _ _ _ _
            have e41 : ahead (ksOf h xs) (nI (j + 1)) = ahead (ksOf h xs) (nI j) + 1 := ahead_step hsort (by omega) |>.trans (if_pos (by rw [ksOf_at hv9]; exact any_T (h := h) c13))
            have hal2 := ahead_le (ksOf h xs) (nI (j + 1))
            rw [ksOf_len] at hal2
            rw [← e41]
            show V 41 [some (.ref a), some (.int (nI F)), some (.int (nI (ahead (ksOf h xs) (nI (j + 1))))), some (.int (nI j))] [] (pXY h pl v) _ _
            refine r_aload_n Mm dX2_walkTo_41 rfl ?_
            refine r_iload_n Mm dX2_walkTo_42 rfl ?_
            refine r_iload_n Mm dX2_walkTo_43 rfl ?_
            refine r_callV (As := [(.int (nI (ahead (ksOf h xs) (nI (j + 1))))), (.int (nI j))]) Mm dX2_walkTo_44 rfl (ct_standBehind hfl (pXY h pl v) a ka ma pl xs ms (isPup.xy ⟨hs, hka, hma, hpl, hsp, hLk, hLm, hxk, hxm⟩ pl v) (ahead (ksOf h xs) (nI (j + 1))) (nI j) (by omega)) (hs) rfl cw_X2_73 ⟨Nat.le_of_ble_eq_true rfl, Nat.le_of_ble_eq_true rfl, Nat.le_of_ble_eq_true rfl⟩ (Nat.le_of_ble_eq_true rfl) ⟨Nat.le_of_ble_eq_true rfl, Nat.le_of_ble_eq_true rfl⟩ (fun r17 h18 p19 => ?_) (fun Er17 h18 p19 => False.elim p19)
            obtain ⟨rfl, rfl⟩ := p19
            rw [pXY_pXY]
            show V 47 _ [] _ _ _
            refine r_iincN (k := 1) Mm dX2_walkTo_47 rfl (by decide) (by decide) ?_
            show V 50 [some (.ref a), some (.int (nI F)), some (.int (nI (ahead (ksOf h xs) (nI (j + 1))))), some (.int (nI (j + 1)))] _ _ _ _
            refine r_goto (tgt := 4) Mm dX2_walkTo_50 (by decide) ?_
            exact ih (j + 1) _ (by omega) (by omega) (Or.inr rfl)
  have e0 : ahead (ksOf h xs) (nI 0) = 0 := ahead_eq (Nat.zero_le _) (fun j _ hj => absurd hj (Nat.not_lt_zero _)) (fun k hk => by obtain ⟨n, hn, hk2⟩ := hsort.2 k (List.mem_of_getElem? hk); rw [hk2]; exact nI_nlt (Nat.zero_le _) (by omega))
  have l0 := loop (F + 2) 0 (xF h 100 pl, xF h 101 pl) (by omega) (Nat.zero_le _) (Or.inl rfl)
  rw [pXY_self, e0] at l0
  exact l0
set_option maxRecDepth 100000 in
set_option maxHeartbeats 4000000 in
theorem ct_least {g : Gl} {l : Launch} (hfl : l.stackTraces = false) {E : Nat} (h : Hp) (a ka ma pl : Nat) (xs ms : List Nat) (hP : isPup E h a ka ma pl xs ms) : CT g l iX2_leastLength 6 [.ref a] h 0 0 (pRel (fun r h' => r = some (.int (leastS (xF h 200 a) (ksOf h xs))) ∧ ∃ v : Int32 × Int32, h' = pXY h pl v)) := by
  obtain ⟨hs, hka, hma, hpl, hsp, hLk, hLm, hxk, hxm⟩ := hP
  have hl1 := hLk.2.2.1
  have hl2 := hLm.2.2.1
  refine ct_mk hfl (by decide) (Nat.le_of_ble_eq_true rfl) (by intro v hv; simp only [List.mem_cons, List.not_mem_nil, or_false] at hv; rcases hv with rfl <;> rfl) (fun V X M => ?_)
  have Mm := M.m
  show V 0 [some (.ref a), none, none] [] _ 0 0
  refine r_iconst (v := nI 0) Mm dX2_leastLength_0 (by decide) ?_
  refine r_istore_n Mm dX2_leastLength_1 (by decide) ?_
  show V 2 [some (.ref a), some (.int (nI 0)), none] _ _ _ _
  refine r_iconst (v := nI 0) Mm dX2_leastLength_2 (by decide) ?_
  refine r_istore_n Mm dX2_leastLength_3 (by decide) ?_
  show V 4 [some (.ref a), some (.int (nI 0)), some (.int (nI 0))] _ _ _ _
  have loop : ∀ (n : Nat) (j : Nat) (v : Int32 × Int32), 1000 - j < n → (j ≤ 1000) → V 4 [some (.ref a), some (.int (farF (xF h 200 a) (ksOf h xs) j)), some (.int (nI j))] [] (pXY h pl v) 0 0 := by
    intro n
    induction n with
    | zero => intro j v hm; exact absurd hm (Nat.not_lt_zero _)
    | succ n ih =>
      intro j v hm hj
      refine r_iload_n Mm dX2_leastLength_4 rfl ?_
      refine r_sipush (v := nI 999) Mm dX2_leastLength_5 (by decide) ?_
      refine r_icmp_gtN (tgt := 31) Mm dX2_leastLength_8 (by decide) (by omega) (by omega) (fun c1 => ?_) (fun c1 => ?_)
      · refine r_iload_n Mm dX2_leastLength_31 rfl ?_
        refine r_callSN (As := [(.int (farF (xF h 200 a) (ksOf h xs) j))]) Mm dX2_leastLength_32 rfl (ct_root hfl ((pXY h pl v)) (farF (xF h 200 a) (ksOf h xs) j)) cw_X2_103 ⟨Nat.le_of_ble_eq_true rfl, Nat.le_of_ble_eq_true rfl, Nat.le_of_ble_eq_true rfl⟩ (Nat.le_of_ble_eq_true rfl) ⟨Nat.le_of_ble_eq_true rfl, Nat.le_of_ble_eq_true rfl⟩ (fun r2 h3 p4 => ?_) (fun _ _ z => z)
        obtain ⟨rfl, rfl⟩ := p4
        show V 35 _ [(.int (rootB (farF (xF h 200 a) (ksOf h xs) j)))] _ _ _
        refine r_istore_n Mm dX2_leastLength_35 (by decide) ?_
        show V 36 [some (.ref a), some (.int (farF (xF h 200 a) (ksOf h xs) j)), some (.int (rootB (farF (xF h 200 a) (ksOf h xs) j)))] _ _ _ _
        refine r_iload_n Mm dX2_leastLength_36 rfl ?_
        refine r_iload_n Mm dX2_leastLength_37 rfl ?_
        refine r_imul Mm dX2_leastLength_38 ?_
        refine r_iload_n Mm dX2_leastLength_39 rfl ?_
        refine r_icmp_ge (tgt := 49) Mm dX2_leastLength_40 (by decide) (fun c5 => ?_) (fun c5 => ?_)
        · refine r_iload_n Mm dX2_leastLength_49 rfl ?_
          refine r_iret M dX2_leastLength_50 ?_
          obtain rfl : j = 1000 := by omega
          exact ⟨by rw [show leastS (xF h 200 a) (ksOf h xs) = _ from if_neg (Int32.not_lt.mpr c5)], v, rfl⟩
        · refine r_iload_n Mm dX2_leastLength_43 rfl ?_
          refine r_iconst (v := nI 1) Mm dX2_leastLength_44 (by decide) ?_
          refine r_iadd Mm dX2_leastLength_45 ?_
          refine r_goto (tgt := 50) Mm dX2_leastLength_46 (by decide) ?_
          refine r_iret M dX2_leastLength_50 ?_
          obtain rfl : j = 1000 := by omega
          exact ⟨by rw [show leastS (xF h 200 a) (ksOf h xs) = _ from if_pos (Int32.not_le.mp c5)], v, rfl⟩
      · refine r_aload_n Mm dX2_leastLength_11 rfl ?_
        refine r_iload_n Mm dX2_leastLength_12 rfl ?_
        refine r_callV (As := [(.int (nI j))]) Mm dX2_leastLength_13 rfl (ct_standAt hfl (pXY h pl v) a ka ma pl xs ms (isPup.xy ⟨hs, hka, hma, hpl, hsp, hLk, hLm, hxk, hxm⟩ pl v) (nI j)) (hs) rfl cw_X2_109 ⟨Nat.le_of_ble_eq_true rfl, Nat.le_of_ble_eq_true rfl, Nat.le_of_ble_eq_true rfl⟩ (Nat.le_of_ble_eq_true rfl) ⟨Nat.le_of_ble_eq_true rfl, Nat.le_of_ble_eq_true rfl⟩ (fun r6 h7 p8 => ?_) (fun Er6 h7 p8 => False.elim p8)
        obtain ⟨rfl, rfl⟩ := p8
        rw [pXY_pXY]
        show V 16 _ [] _ _ _
        refine r_iload_n Mm dX2_leastLength_16 rfl ?_
        refine r_aload_n Mm dX2_leastLength_17 rfl ?_
        refine r_callV (As := []) Mm dX2_leastLength_18 rfl (ct_sqBar hfl (pXY h pl (trk (xF h 200 a) (ksOf h xs) (nI j))) a ka ma pl xs ms (isPup.xy ⟨hs, hka, hma, hpl, hsp, hLk, hLm, hxk, hxm⟩ pl _)) (hs) rfl cw_X2_91 ⟨Nat.le_of_ble_eq_true rfl, Nat.le_of_ble_eq_true rfl, Nat.le_of_ble_eq_true rfl⟩ (Nat.le_of_ble_eq_true rfl) ⟨Nat.le_of_ble_eq_true rfl, Nat.le_of_ble_eq_true rfl⟩ (fun r9 h10 p11 => ?_) (fun Er9 h10 p11 => False.elim p11)
        obtain ⟨rfl, rfl⟩ := p11
        refine r_top _ (sq2 ((trk (xF h 200 a) (ksOf h xs) (nI j)).1 - xF h 200 a) (trk (xF h 200 a) (ksOf h xs) (nI j)).2) (by congr 1 <;> first | exact congrArg (fun z => z - xF h 200 a) (u2_s _ _ _ _) | exact u2_s _ _ _ _) ?_
        show V 21 _ [(.int (sq2 ((trk (xF h 200 a) (ksOf h xs) (nI j)).1 - xF h 200 a) (trk (xF h 200 a) (ksOf h xs) (nI j)).2)), (.int (farF (xF h 200 a) (ksOf h xs) j))] _ _ _
        refine r_max Mm dX2_leastLength_21 cm_X2_100 cms_max cmi cmc_max (Nat.le_of_ble_eq_true rfl) (Nat.le_of_ble_eq_true rfl) ?_
        refine r_istore_n Mm dX2_leastLength_24 (by decide) ?_
        show V 25 [some (.ref a), some (.int (if (farF (xF h 200 a) (ksOf h xs) j) < (sq2 ((trk (xF h 200 a) (ksOf h xs) (nI j)).1 - xF h 200 a) (trk (xF h 200 a) (ksOf h xs) (nI j)).2) then (sq2 ((trk (xF h 200 a) (ksOf h xs) (nI j)).1 - xF h 200 a) (trk (xF h 200 a) (ksOf h xs) (nI j)).2) else (farF (xF h 200 a) (ksOf h xs) j))), some (.int (nI j))] _ _ _ _
        refine r_iincN (k := 1) Mm dX2_leastLength_25 rfl (by decide) (by decide) ?_
        show V 28 [some (.ref a), some (.int (if (farF (xF h 200 a) (ksOf h xs) j) < (sq2 ((trk (xF h 200 a) (ksOf h xs) (nI j)).1 - xF h 200 a) (trk (xF h 200 a) (ksOf h xs) (nI j)).2) then (sq2 ((trk (xF h 200 a) (ksOf h xs) (nI j)).1 - xF h 200 a) (trk (xF h 200 a) (ksOf h xs) (nI j)).2) else (farF (xF h 200 a) (ksOf h xs) j))), some (.int (nI (j + 1)))] _ _ _ _
        refine r_goto (tgt := 4) Mm dX2_leastLength_28 (by decide) ?_
        exact ih (j + 1) _ (by omega) (by omega)
  have l0 := loop 1001 0 (xF h 100 pl, xF h 101 pl) (by omega) (Nat.zero_le _)
  rw [pXY_self] at l0
  exact l0
end
