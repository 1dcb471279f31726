/-! ===== a throw of NoSuchElementException: its constructor links its own way ===== -/
abbrev nE : String := "java/util/NoSuchElementException"
abbrev rE : String := "java/lang/RuntimeException"
abbrev xE : String := "java/lang/Exception"
def rx13 : ByteArray := ⟨#[0x2a, 0x2b, 0xb7, 0x00, 0x0d, 0xb1]⟩
theorem rx13_0 : decode rx13 0 = .ok (.aload_n 0, 1) := by decide +kernel
theorem rx13_1 : decode rx13 1 = .ok (.aload_n 1, 1) := by decide +kernel
theorem rx13_2 : decode rx13 2 = .ok (.invokespecial 13, 3) := by decide +kernel
theorem rx13_5 : decode rx13 5 = .ok (.return_, 1) := by decide +kernel
/-- its words: those of any exception, but that its constructor calls the one above it by its constant 13 -/
def nseA : List Cond := (Bundle.ownAtoms RX5 86 nE [rE, xE]).filter (fun w => !(Bundle.passSAtoms nE rE 7 Bundle.six).contains w) ++ Bundle.passSAtoms nE rE 13 rx13
theorem nse_sub1 : ∀ w ∈ Bundle.throwableAtoms, w ∈ nseA := by decide +kernel
theorem nse_sub2 : ∀ w ∈ Bundle.throwableSAtoms, w ∈ nseA := by decide +kernel
theorem nse_sub3 : ∀ w ∈ Bundle.passSAtoms nE rE 13 rx13, w ∈ nseA := by decide +kernel
theorem nse_sub4 : ∀ w ∈ Bundle.chainSAtoms rE [xE], w ∈ nseA := by decide +kernel
section Nse
variable {p : Program} {l : Launch} {e : Env} {R : Room} {s : State} {m₀ : MethodId} {args : Array Value} {below : List Frame} {meth : Method} {c : Code} {W : State} {locs : List Loc} {cells slots : Nat}
set_option maxHeartbeats 4000000 in
theorem nse_ctor (X : Stand p l e R s m₀ args below meth c W locs cells slots) (hexec : p.tables.exec = Jvm.exec) (htr : e.platform.stackTraces = false)
    (hown : s.vm.findClass RX5 = some m₀.cls) (h : ∀ w ∈ nseA, w.before args s = true) (hlocs : ∀ x ∈ locs, ∀ cell, s.heap[x.base]? = some cell → cell.vm.isStatics = false)
    {a : Addr} {cX : ClassId} {kX : Class} (hfX : s.vm.findClass nE = some cX) (hkX : s.vm.classes[cX]? = some kX) (hcell : W.heap[a]? = some (freshCell cX kX)) (hnew : s.heap.size ≤ a)
    {msg : Value} (hmsg : msg.isRef = true) {g : JFrame} (hg : g.method = m₀) (hsize : g.locals.size = c.maxLocals) (hlocked : g.locked = none) (hentered : g.entered = []) {rest : List Value} (hstack : g.stack = msg :: .ref a :: .ref a :: rest)
    (d6 : decode c.code g.pc = .ok (.invokespecial 86, 3)) (d9 : decode c.code (g.pc + 3) = .ok (.athrow, 1)) (hout : ∀ x ∈ c.exceptionTable.toList, covers x (g.pc + 3) = false)
    (hRf : 5 < R.frames) (hRl : 2 * g.monitorRoom + ((Value.ref a :: rest).map fun v => v.category).sum + 81 ≤ R.locals) (hlocks : meth.locks = false) :
    ∃ U : State, Steps p.tables e below (W.setTop g) U ∧ U.status = .running ∧ Ended U below (.threw a) ∧ s.WarmedH U.vm ∧ s.sameButNew ({ U with vm := s.vm } : State) locs cells slots ∧ ∃ ce, U.heap[a]? = some ce ∧ s.vm.findClass nE = some ce.cls ∧ ce.vm = .none := by
  have q1 : e.platform.frameOwnsMonitors = true := by rw [X.admits.platform]
  have q2 : e.platform.finalization = false := by rw [X.admits.platform]
  have q3 : e.platform.magicAccessors = ({} : Platform).magicAccessors := by rw [X.admits.platform]
  have at_ : ∀ {w : Cond}, w ∈ nseA → w.holds args s none s [] = true := fun hw => h _ hw
  obtain ⟨T, Z0, L, -, Y⟩ := ThrowableC.of_atoms (args := args) q1 q2 q3 (fun w hw => h w (nse_sub1 w hw))
  obtain ⟨Z, M, LZ, LM, hZ⟩ := Init0T.ofS_atoms (args := args) q3 L Y (fun w hw => h w (nse_sub2 w hw))
  obtain ⟨P0, L0, hm0, hs0⟩ := PassC.ofS_atoms (args := args) (s := s) q3 (X := nE) (Y := rE) (by decide) (by decide) rx13_0 rx13_1 rx13_2 rx13_5 (fun w hw => h w (nse_sub3 w hw))
  obtain ⟨P1, Ps, hlen, L1, hL, hm1, hsup1, hpass1⟩ := Bundle.chainS (args := args) q3 hZ [xE] rE (by decide) (by decide) (fun w hw => h w (nse_sub4 w hw))
  have hlink0 : P0.sup = firstOf (Z.m T.toThrowableT) ((P1 :: Ps).map (·.toPassT)) := Option.some.inj (hs0.symm.trans hm1)
  have hf0 : s.vm.findClass nE = some P0.m.cls := findClass_of_methodNamed hm0
  cases Option.some.inj (hfX.symm.trans hf0)
  obtain ⟨c1, k1, e1, hk, hord, -, -, -⟩ := Cond.instantiable_spec (at_ (w := .instantiable nE 6) (by decide +kernel))
  cases Option.some.inj (e1.symm.trans hf0)
  cases Option.some.inj (hkX.symm.trans hk)
  have hsel0 : selectMethod e.platform s.vm P0.m.cls T.fill0 = .method T.fill0 := by
    obtain ⟨c2, r2, m2, y1, y2, y3, y4, -⟩ := Cond.selects_spec (at_ (w := .selects nE Bundle.tFill0 Bundle.tFill0) (by decide +kernel))
    cases Option.some.inj (y1.symm.trans hf0)
    cases Option.some.inj (y2.symm.trans (State.methodFound?_of_named Y.fill0 (by decide)))
    cases Option.some.inj (y3.symm.trans Y.fill0)
    rw [Launch.admits_selectMethod X.admits]; exact y4
  have hselF : selectMethod e.platform s.vm P0.m.cls T.fill = .method T.fill := by
    obtain ⟨c2, r2, m2, y1, y2, y3, y4, -⟩ := Cond.selects_spec (at_ (w := .selects nE Bundle.tFill Bundle.tFill) (by decide +kernel))
    cases Option.some.inj (y1.symm.trans hf0)
    cases Option.some.inj (y2.symm.trans (State.methodFound?_of_named Y.fill (by decide)))
    cases Option.some.inj (y3.symm.trans Y.fill)
    rw [Launch.admits_selectMethod X.admits]; exact y4
  obtain ⟨cs0, hcs0, his⟩ := Y.statics
  obtain ⟨u0, hu0⟩ := Cond.staticRefV Y.unassigned L.unassignedStatic L.statics hcs0 his (at_ (w := .isRef (.static Bundle.tN "UNASSIGNED_STACK" Bundle.steD)) (by decide +kernel))
  obtain ⟨sen, hsen⟩ := Cond.staticRefV Y.sentinel L.sentinelStatic L.statics hcs0 his (at_ (w := .isRef (.static Bundle.tN "SUPPRESSED_SENTINEL" Bundle.listD)) (by decide +kernel))
  obtain ⟨ciB, iB, fB, b1, b2, b3, b4, -, b6, b7, b8⟩ := Cond.ownField (t := .object "java/lang/Object") Y.found L.cls (by decide +kernel) (at_ (w := .fieldLink Bundle.tN 198 Bundle.tN "backtrace" "Ljava/lang/Object;") (by decide +kernel)) (at_ (w := .lays Bundle.tN Bundle.tN "backtrace" "Ljava/lang/Object;") (by decide +kernel)) e.platform q3
  obtain ⟨cs1, hcs1, he1, -, hkeep⟩ := X.same.2.2.2.2.2 T.aS cs0 hcs0
  have hcsW : W.heap[T.aS]? = some cs1 := hcs1
  have hfar : ∀ i, (⟨T.aS, i⟩ : Loc) ∉ locs := fun i hi => by
    have := hlocs _ hi cs0 hcs0
    rw [his] at this; cases this
  have hkn : cs1.vm ≠ .unknown := by
    rw [he1]; intro hu
    rw [show cs0.vm = .unknown from hu] at his
    cases his
  have hneS : T.aS ≠ a := Nat.ne_of_lt (Nat.lt_of_lt_of_le (Array.getElem?_eq_some_iff.mp hcs0).1 hnew)
  obtain ⟨iM, hfM⟩ := Y.msg
  obtain ⟨tyC, dC, hdC, hnC⟩ := Cond.laysAt hf0 hk Y.cause (at_ (w := .lays nE Bundle.tN "cause" "Ljava/lang/Throwable;") (by decide +kernel))
  obtain ⟨tyS, dS, hdS, hnS⟩ := Cond.laysAt hf0 hk Y.stack (at_ (w := .lays nE Bundle.tN "stackTrace" Bundle.steD) (by decide +kernel))
  obtain ⟨tyP, dP, hdP, hnP⟩ := Cond.laysAt hf0 hk Y.supp (at_ (w := .lays nE Bundle.tN "suppressedExceptions" Bundle.listD) (by decide +kernel))
  obtain ⟨tyM, dM, hdM, hnM⟩ := Cond.laysAt hf0 hk hfM (at_ (w := .lays nE Bundle.tN "detailMessage" "Ljava/lang/String;") (by decide +kernel))
  obtain ⟨tyB, dB, hdB, hnB⟩ := Cond.laysAt hf0 hk b8 (at_ (w := .lays nE Bundle.tN "backtrace" "Ljava/lang/Object;") (by decide +kernel))
  have nC := Cond.laysApart hdB hdC hnB hnC (by rw [b6, Y.causeName]; decide)
  have nS := Cond.laysApart hdB hdS hnB hnS (by rw [b6, Y.stackName]; decide)
  have nP := Cond.laysApart hdB hdP hnB hnP (by rw [b6, Y.suppName]; decide)
  have hskip : SkipFacts T e.platform s (fun u => u) u0 ((preparedCellV T.toThrowableT (freshCell P0.m.cls kX) a u0 sen).withEntry W.cur) :=
    ⟨{ ci198 := ciB, i198 := iB, fBack := fB }, ⟨b1, b2, b3, b4⟩, by
      have := fresh_default (c := P0.m.cls) tyB
      rw [b7] at this
      simpa [preparedCellV, Cell.setSlot, Cell.withEntry, Array.getElem?_setIfInBounds, nC, nS, nP, nC.symm, nS.symm, nP.symm, defaultValue] using this, fun _ _ => rfl⟩
  obtain ⟨tm, mC, cC, kC, vm1, hnm, -, -, -, -, -, -, -, hW1, st1⟩ := Steps.initColdS (tb := p.tables) (e := e) (below := below) (s := s) (U := W) X.here hexec X.warmed q3 hown (t := Bundle.initS nE) rfl rfl (by decide)
    (at_ (w := .methodLink RX5 86 (Bundle.initS nE)) (by decide +kernel)) (h (.instanceMethod (Bundle.initS nE)) (by decide +kernel)) (bytes := rx13) (maxL := 2) (h (.code (Bundle.initS nE) rx13 2 none) (by decide +kernel))
    (f := g) hg (a := a) (msg := msg) (rest := .ref a :: rest) hstack d6
  cases Option.some.inj (hnm.symm.trans hm0)
  obtain ⟨vm2, X2, st2⟩ := (X.noted hW1).ctorMessageOffV hexec (g := { g with stack := .ref a :: rest }) hg hsize T L Z LZ M LM (P0 :: P1 :: Ps)
    (fun P hP => by
      rcases List.mem_cons.mp hP with rfl | hP
      · exact L0
      · rcases List.mem_cons.mp hP with rfl | hP
        · exact L1
        · exact hL P hP) ⟨hlink0, hsup1, hpass1⟩ (u0 := u0) (sen := sen) (self := a) hmsg (cell := freshCell P0.m.cls kX) (cellS := cs1)
    hcell (fun _ => by simp) (by simp) rfl rfl hsel0 hselF hcsW hneS hkn (by rw [hkeep _ (hfar _)]; exact hu0) (by rw [hkeep _ (hfar _)]; exact hsen)
    (Takes.of_laid hk hord tyC (by rw [Y.causeType]; rfl)) (Takes.of_laid hk hord tyS (by rw [Y.stackType]; exact fits_refV_array _ u0)) (Takes.of_laid hk hord tyP (by rw [Y.suppType]; exact fits_refV_object _ sen))
    (Takes.of_laid hk hord tyM (by rw [Y.msgType]; exact fits_refV_object _ ⟨msg, hmsg⟩)) Y.objLocals hskip htr [] d6
    (by simp only [List.length_cons, hlen]; exact hRf) (by simp only [List.length_cons, hlen]; exact hRl)
  obtain ⟨hwalk, hrun, hended, hWU, hsame⟩ := X2.athrowLeaves hexec (g := { g with stack := .ref a :: rest, pc := g.pc + 3 }) hg hlocked hentered hout (a := a) (rest := rest) rfl d9 hlocks
  have hlt : a < ((W.setVm vm1).setVm vm2).heap.size := (Array.getElem?_eq_some_iff.mp hcell).1
  have hU := heapAt_setCell_self (s := (W.setVm vm1).setVm vm2) (plainBareV T.toThrowableT (freshCell P0.m.cls kX) a u0 sen msg) hlt
  refine ⟨_, st1 _ (fun acts => ?_), hrun, hended, hWU, hsame.weaken (fun y hy hlt' => ?_) (Nat.le_refl _) (Nat.le_refl _), _, hU, hf0, rfl⟩
  · rw [doInvoke_state]
    exact st2 _ hwalk
  · rcases List.mem_append.mp hy with z | z
    · exact z
    · exfalso
      have hb : y.base = a := by
        simp only [List.mem_cons, List.not_mem_nil, or_false] at z
        rcases z with rfl | rfl | rfl | rfl | rfl <;> rfl
      rw [hb] at hlt'
      exact Nat.not_lt.mpr hnew hlt'
end Nse
