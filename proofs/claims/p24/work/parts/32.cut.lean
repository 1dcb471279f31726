/-! ===== cutKey, and how an object is made ===== -/
section NseThrow
variable {p : Program} {l : Launch} {e : Env} {R : Room} {s : State} {m : MethodId} {args : Array Value} {below : List Frame} {meth : Method} {c : Code} {H : Heap} {locs : List Loc} {cells slots : Nat}
variable {free : Addr → Prop} {ls : Array Slot} {rest : List Value}
variable {Qc : Array Value → State → Outcome → State → Prop} {XC : String → State → State → Prop}
theorem vx_throwN {cc : ByteArray} {pc : Nat} (hexec : p.tables.exec = Jvm.exec) (hb : c.code = cc) (hl : l.stackTraces = false) {text : String} {is mc ms sa : Nat} {A : Nat → Prop}
    (hown : s.vm.findClass RX5 = some m.cls)
    (hk : (Cond.classLink RX5 82 nE).before args s = true) (hini : (Cond.initialized nE).before args s = true) (hstr : vk_R RX5 is text sa s) (hat : ∀ w ∈ nseA.filter vx_no, w.before args s = true)
    (hgood : ∀ w ∈ Cond.classLink RX5 82 nE :: Cond.initialized nE :: nseA.filter vx_no, vx_ot w = true)
    (hU : vx_Zq Bundle.tN "UNASSIGNED_STACK" Bundle.steD A s s.heap) (hN : vx_Zq Bundle.tN "SUPPRESSED_SENTINEL" Bundle.listD A s s.heap) (hS : va_S A s.heap H locs) (hsize : ls.size = c.maxLocals)
    (d0 : decode cc pc = .ok (.new 82, 3)) (d3 : decode cc (pc + 3) = .ok (.dup, 1)) (d4 : decode cc (pc + 4) = .ok (.ldc is, 2)) (d6 : decode cc (pc + 6) = .ok (.invokespecial 86, 3)) (d9 : decode cc (pc + 9) = .ok (.athrow, 1))
    (hout : ∀ x ∈ c.exceptionTable.toList, covers x (pc + 9) = false)
    (hRframes : 5 < R.frames) (hRlocals : (rest.map fun v => v.category).sum + 82 ≤ R.locals) (hRcells : cells + 1 ≤ R.cells) (hRslots : slots + 6 ≤ R.slots) (hlocks : meth.locks = false)
    (hx : ∀ t : State, s.vm.Alike t.vm → H.size ≤ t.heap.size → (∀ q : Nat, q < H.size → t.heap[q]? = H[q]?) → XC nE s t)
    (hf : ∀ z ∈ locs, free z.base) (hc : cells + 1 ≤ mc) (hs : slots + 6 ≤ ms) :
    W p l e R s m args below meth c H locs cells slots (vx_MQ below Qc XC args s mc ms free) (F0 m pc ls rest) := by
  intro T hT X
  have htr : e.platform.stackTraces = false := (show e.platform.stackTraces = l.stackTraces by rw [X.admits.platform]).trans hl
  have Y := vx_rebase X (R' := { frames := R.frames, locals := R.locals, cells := 1, slots := 6 }) (Nat.le_refl _) (Nat.le_refl _) hRcells hRslots
  obtain ⟨s', hA⟩ : ∃ z, z = (T.setVm s.vm).setFrames (.invoking m args :: below) := ⟨_, rfl⟩
  rw [← hA] at Y
  have hvm : s'.vm = s.vm := by rw [hA]; rfl
  have hhp : s'.heap = H := by rw [hA]; exact hT
  have hW0 : s.WarmedH s'.vm := by rw [hvm]; exact State.WarmedH.refl s
  have hat' : ∀ w ∈ nseA.filter vx_no, w.before args s' = true := fun w hw => vx_ot_at hW0 hvm.symm (hgood w (List.mem_cons_of_mem _ (List.mem_cons_of_mem _ hw))) (hat w hw)
  have hk' : (Cond.classLink RX5 82 nE).before args s' = true := vx_ot_at hW0 hvm.symm (hgood _ List.mem_cons_self) hk
  have hini' : (Cond.initialized nE).before args s' = true := vx_ot_at hW0 hvm.symm (hgood _ (List.mem_cons_of_mem _ List.mem_cons_self)) hini
  have hU' : vx_Zq Bundle.tN "UNASSIGNED_STACK" Bundle.steD A s' s'.heap := by rw [hhp]; exact vx_Zq.moved hW0.alike (hU.kept hS.2.1)
  have hN' : vx_Zq Bundle.tN "SUPPRESSED_SENTINEL" Bundle.listD A s' s'.heap := by rw [hhp]; exact vx_Zq.moved hW0.alike (hN.kept hS.2.1)
  have h : ∀ w ∈ nseA, w.before args s' = true := vx_own hat' (vx_isRefq hU'.1) (vx_isRefq hN'.1) hU'.2.word hN'.2.word
  have hown' : s'.vm.findClass RX5 = some m.cls := by rw [hvm]; exact hown
  have hins : (Cond.instantiable nE 6).before args s' = true := h _ (by decide +kernel)
  obtain ⟨vm₁, cX, kX, hfX, hkX, -, -, X₁, st1⟩ := Y.newCold hexec (own := RX5) (C := nE) (index := 82) (n := 6) hown' hk' hins hini'
    (g := F0 m pc ls rest) rfl (by rw [hb]; exact d0) (Nat.le_refl _) (Nat.le_refl _)
  generalize hT1 : (T.setVm vm₁).pushCell { cls := cX, slots := kX.instanceTypes.map defaultValue, vm := .none } = T1 at X₁ st1
  have hcat : (Value.ref T.heap.size).category = 1 := rfl
  have hcellA : T1.heap[T.heap.size]? = some (freshCell cX kX) := by rw [← hT1]; exact State.heap_pushCell_size _ _
  have d3' : decode c.code (pc + 3) = .ok (.dup, 1) := by rw [hb]; exact d3
  have d4' : decode c.code (pc + 4) = .ok (.ldc is, 2) := by rw [hb]; exact d4
  have hstr' : vk_R RX5 is text sa s' := vk_R.warm hW0 hstr
  obtain ⟨U, hsteps, hrun, hend, hW, hsame, ce, hce, hO⟩ := nse_ctor X₁ hexec htr hown' h (fun x hx => nomatch hx) hfX hkX hcellA (by rw [hhp, hT]; exact Nat.le_refl _) (msg := .ref sa) rfl
    (g := { method := m, pc := pc + 6, locals := ls, stack := .ref sa :: .ref T.heap.size :: .ref T.heap.size :: rest, locked := none }) rfl hsize rfl rfl (rest := rest) rfl
    (by rw [hb]; exact d6) (by rw [hb]; exact d9) hout hRframes (by simp only [List.map_cons, List.sum_cons, hcat]; omega) hlocks
  obtain ⟨f1, f2⟩ := vx_frame hsame
  rw [hhp] at f1 f2
  have hWs : s.WarmedH U.vm := State.WarmedH.trans hW0 hW
  have hcl : s.vm.findClass nE = some ce.cls := by
    have h9 := hO.1
    rw [hvm] at h9
    exact h9
  have hall : s.sameButNew ({ U with vm := s.vm } : State) locs mc ms := by
    subst hA
    obtain ⟨e1, e2⟩ := hsame
    rw [State.setFrames_setFrames] at e1
    have h2 : (T.setVm s.vm).sameButNew ({ U with vm := s.vm } : State) [] (0 + 1) (0 + 6) := ⟨e1, e2⟩
    have h3 := X.same.trans h2
    rw [List.append_nil] at h3
    exact h3.mono hc hs
  refine ⟨U, ?_, .threw T.heap.size, hrun, hend, Or.inr ⟨T.heap.size, rfl, nE, ce, locs, hx U hWs.alike f1 (fun q hq => f2 q hq (fun z hz => nomatch hz)), hce, hO.2, hcl, hWs, hall, hf⟩⟩
  refine st1 _ ?_
  show Steps p.tables e below (T1.setTop { method := m, pc := pc + 3, locals := ls, stack := .ref T.heap.size :: rest, locked := none }) _
  jvm_step X₁.here [X₁.here.top, hexec, d3', Value.category]
  exact X₁.ldcString hexec (own := RX5) (text := text) (index := is) (a := sa) hown' hstr'.1 hstr'.2
    (g := { method := m, pc := pc + 4, locals := ls, stack := .ref T.heap.size :: .ref T.heap.size :: rest, locked := none }) rfl d4' _ hsteps

end NseThrow
theorem nse_t : ∀ w ∈ nseA.filter vx_no, w ∈ TB ∨ w ∈ NW := by decide +kernel
theorem nse_g : ∀ w ∈ Cond.classLink RX5 82 nE :: Cond.initialized nE :: nseA.filter vx_no, vx_ot w = true := by decide +kernel
theorem nse_k : Cond.classLink RX5 82 nE ∈ TB := TB_at 490 (by decide +kernel) rfl
theorem nse_i : Cond.initialized nE ∈ TB := TB_at 41 (by decide +kernel) rfl
theorem r_throwN {g : Gl} {l : Launch} {cc : ByteArray} {nL mc ms d : Nat} {ret : Option FieldType} {mn : String} {post : Res → Hp → Prop} {V : VT} {X : XT} {pc : Nat} {lv : List (Option Value)} {st : List Value} {h : Hp} {kc ks : Nat} (M : MachR g l mc ms d RX5 cc nL ret [] mn post V X) (d0 : decode cc pc = .ok (.new 82, 3)) (d3 : decode cc (pc + 3) = .ok (.dup, 1)) (d4 : decode cc (pc + 4) = .ok (.ldc 84, 2)) (d6 : decode cc (pc + 6) = .ok (.invokespecial 86, 3)) (d9 : decode cc (pc + 9) = .ok (.athrow, 1)) (hd6 : 6 ≤ d) (hst0 : (st.map fun v => v.category).sum ≤ 200) (hbud : kc + 1 ≤ mc ∧ ks + 6 ≤ ms) (hp : post (.inr nE) h) : V pc lv st h kc ks := by
  obtain ⟨p, e, s, m, args, below, meth, c, hret, hx, hb, hml, hown, hts, hgl, hlk, hnm, htab, hst, rfl, rfl⟩ := M
  intro hkc hks H locs ls hG hS hl
  have hstr := hgl.1.2.2.2.2.2.1 4 _ rfl
  refine vx_throwN (A := gA g) hx hb hst hown (hts _ nse_k) (hts _ nse_i) hstr (fun w hw => ?_) nse_g hgl.2.2.2.2.2.2.1 hgl.2.2.2.2.2.2.2.1 hS (hl.1.trans hml.symm) d0 d3 d4 d6 d9 (fun z hz => by rw [htab] at hz; cases hz) (by show 5 < d; omega) (by show _ + 82 ≤ 50 * d; omega) hbud.1 hbud.2 hlk (fun t hW hz hq => ⟨⟨h, hp, hG.kept hq⟩, ⟨Nat.le_trans hS.1 hz, fun q h1 h2 => (hq q (Nat.lt_of_lt_of_le h1 hS.1)).trans (hS.2.1 q h1 h2)⟩⟩) hS.2.2 hbud.1 hbud.2
  rcases nse_t w hw with z | z
  · exact hts _ z
  · exact va_Nw.use (nw_tabs z) (hgl.1.2.1 _ z)
set_option maxRecDepth 100000 in
set_option maxHeartbeats 4000000 in
theorem ct_o_cut {g : Gl} {l : Launch} (hfl : l.stackTraces = false) (h : Hp) (x pL sL ha : Nat) (ow : Nat → Nat) (ps ss : List Nat) (σ : ST) (r : RC (gN g 2) ow h x pL sL ha ps ss σ) (hw : WF σ) (p f : Int32) : CT g l iX5_cutKey 8 [.ref x, .int p, .int f] h 1 6 (pOp (gN g 2) ow h x pL sL ha σ (o_cut σ p f)) := by
  have r0 := r
  obtain ⟨⟨a1, a2, a3, a4, a5⟩, ⟨b1, b2, b3, b4⟩, zp, zs, ⟨d1, d2⟩, ⟨e1, e2, e3, e4, e5, e6⟩, f1⟩ := r
  have hl1 := b1.2.2.1
  have hl2 := b2.2.2.1
  obtain ⟨w1, w2, w3, w4, w5⟩ := hw
  refine ct_mk hfl (by decide) (Nat.le_of_ble_eq_true rfl) (by intro v hv; simp only [List.mem_cons, List.not_mem_nil, or_false] at hv; rcases hv with rfl | rfl | rfl <;> rfl) (fun V X M => ?_)
  have Mm := M.m
  show V 0 [some (.ref x), some (.int p), some (.int f), none] [] _ 0 0
  refine r_aload_n Mm dX5_cutKey_0 rfl ?_
  refine r_iload_n Mm dX5_cutKey_1 rfl ?_
  by_cases k1 : 0 ≤ p ∧ p < nI (eN σ)
  · obtain ⟨i, hi, rfl⟩ := in_ex k1 (by omega)
    have eci : (nI i).toNatClampNeg = i := nI_clamp (by omega)
    obtain ⟨a, haa⟩ : ∃ v, ps[i]? = some v := ⟨_, List.getElem?_eq_getElem (by omega)⟩
    have hpa := zp _ _ haa
    obtain ⟨ka, ma, pl, xs, ms, hP, f0, f1b, f2, f3, f4, f5, ⟨o1, o2, o3, o4⟩, g1, g2, o5, o6⟩ := hpa
    have hok := w3 i hi
    have hlk : xs.length = (qKeys (eP σ i)).length := by rw [← f2, ksOf_len]
    have hlm : ms.length = (qMend (eP σ i)).length := by rw [← f5, List.length_map]
    have hk12 := hok.2.2.2.1
    have hw99 := hok.2.2.2.2.2.2.1
    have hm10 := hok.2.2.2.2.2.2.2
    refine r_callV (As := [(.int (nI i))]) Mm dX5_cutKey_2 rfl (ct_pupOk hfl h x pL sL ha ow ps ss σ r0 i a haa) (a1) rfl cw_X5_57 ⟨Nat.le_of_ble_eq_true rfl, Nat.le_of_ble_eq_true rfl, Nat.le_of_ble_eq_true rfl⟩ (Nat.le_of_ble_eq_true rfl) ⟨Nat.le_of_ble_eq_true rfl, Nat.le_of_ble_eq_true rfl⟩ (fun r2 h3 p4 => ?_) (fun Er2 h3 p4 => False.elim p4)
    obtain ⟨rfl, rfl⟩ := p4
    show V 5 _ [(.ref a)] _ _ _
    refine r_astore_n Mm dX5_cutKey_5 (by decide) ?_
    show V 6 [some (.ref x), some (.int (nI i)), some (.int f), some (.ref a)] _ _ _ _
    refine r_aload_n Mm dX5_cutKey_6 rfl ?_
    refine r_iload_n Mm dX5_cutKey_7 rfl ?_
    refine r_callV (As := [(.int f)]) Mm dX5_cutKey_8 rfl (ct_hasKeyAt hfl h a ka ma pl xs ms hP f) (hP.1) rfl cw_X5_64 ⟨Nat.le_of_ble_eq_true rfl, Nat.le_of_ble_eq_true rfl, Nat.le_of_ble_eq_true rfl⟩ (Nat.le_of_ble_eq_true rfl) ⟨Nat.le_of_ble_eq_true rfl, Nat.le_of_ble_eq_true rfl⟩ (fun r5 h6 p7 => ?_) (fun Er5 h6 p7 => False.elim p7)
    obtain ⟨rfl, rfl⟩ := p7
    rw [f2]
    show V 11 _ [(.int (bI (hasK (qKeys (eP σ i)) f)))] _ _ _
    refine r_if_neB (tgt := 24) Mm dX5_cutKey_11 (by decide) (fun c8 => ?_) (fun c8 => ?_)
    · refine r_aload_n Mm dX5_cutKey_24 rfl ?_
      refine r_iload_n Mm dX5_cutKey_25 rfl ?_
      refine r_callV (As := [(.int f)]) Mm dX5_cutKey_26 rfl (ct_removeKeyAt hfl h a ka ma pl xs ms hP f (by rw [f2]; exact c8)) (hP.1) rfl cw_X5_87 ⟨Nat.le_of_ble_eq_true rfl, Nat.le_of_ble_eq_true rfl, Nat.le_of_ble_eq_true rfl⟩ (Nat.le_of_ble_eq_true rfl) ⟨Nat.le_of_ble_eq_true rfl, Nat.le_of_ble_eq_true rfl⟩ (fun r9 h10 p11 => ?_) (fun Er9 h10 p11 => False.elim p11)
      obtain ⟨rfl, hLP⟩ := p11
      rw [f2] at hLP
      show V 29 _ [] _ _ _
      refine r_aload_n Mm dX5_cutKey_29 rfl ?_
      refine r_getR Mm dX5_cutKey_30 fi_X5_68 (hLP.2.1.S hP.1) rfl (i := 202) rfl ((hLP.2.1.P hP.1 (hP.2.2.2.2.2.1.nd f1 hP.1 (by decide) (by decide)) _).trans hP.2.1) ?_
      refine r_callV (As := []) Mm dX5_cutKey_33 rfl (ct_lsize hfl h10 ka (xs.eraseIdx (ahead (qKeys (eP σ i)) f)) hLP.1) (hLP.1.1) rfl cw_X5_37 ⟨Nat.le_of_ble_eq_true rfl, Nat.le_of_ble_eq_true rfl, Nat.le_of_ble_eq_true rfl⟩ (Nat.le_of_ble_eq_true rfl) ⟨Nat.le_of_ble_eq_true rfl, Nat.le_of_ble_eq_true rfl⟩ (fun r12 h13 p14 => ?_) (fun Er12 h13 p14 => False.elim p14)
      obtain ⟨rfl, rfl⟩ := p14
      show V 36 _ [(.int (nI ((xs.eraseIdx (ahead (qKeys (eP σ i)) f)).length)))] _ _ _
      refine r_ownE Mm (fun fE2 => ?_)
      refine r_iret M dX5_cutKey_36 ?_
      obtain ⟨ow3, k3, hp3⟩ := PupAt.keys (zp _ _ haa) hP.2.1 (fun w hw => ⟨hP.2.2.2.2.2.2.2.1 w (List.mem_of_mem_eraseIdx hw), o5 w (List.mem_of_mem_eraseIdx hw)⟩) hLP f1
      have eks : ksOf h (xs.eraseIdx (ahead (qKeys (eP σ i)) f)) = (qKeys (eP σ i)).eraseIdx (ahead (qKeys (eP σ i)) f) := by rw [ksOf, map_era, ← f2]; rfl
      rw [eks] at hp3
      rw [show (xs.eraseIdx (ahead (qKeys (eP σ i)) f)).length = ((qKeys (eP σ i)).eraseIdx (ahead (qKeys (eP σ i)) f)).length by rw [← ksOf_len h, eks]]
      exact pOp.ret (by simp only [o_cut, oPu_ok k1 eci, if_pos c8]) (Aft.pup r0 (k3.wk (fun t ht => by omega)) haa (by omega) hp3 fE2)
    · refine r_throwN M dX5_cutKey_14 dX5_cutKey_17 dX5_cutKey_18 dX5_cutKey_20 dX5_cutKey_23 (by decide) (Nat.le_of_ble_eq_true rfl) ⟨Nat.le_of_ble_eq_true rfl, Nat.le_of_ble_eq_true rfl⟩ ?_
      exact pOp.thr (by simp only [o_cut, oPu_ok k1 eci, if_neg (by rw [c8]; exact Bool.noConfusion : ¬ hasK (qKeys (eP σ i)) f = true)]) (Aft.rf r0)
  · refine r_callV (As := [(.int p)]) Mm dX5_cutKey_2 rfl (ct_pupBad hfl h x pL sL ha ow ps ss σ r0 p (by rw [b3]; exact not_in k1)) (a1) rfl cw_X5_57 ⟨Nat.le_of_ble_eq_true rfl, Nat.le_of_ble_eq_true rfl, Nat.le_of_ble_eq_true rfl⟩ (Nat.le_of_ble_eq_true rfl) ⟨Nat.le_of_ble_eq_true rfl, Nat.le_of_ble_eq_true rfl⟩ (fun r15 h16 p17 => False.elim p17) (fun Er15 h16 p17 => ?_)
    obtain ⟨rfl, rfl⟩ := p17
    refine x_out M ?_
    exact pOp.thr (by simp only [o_cut, oPu_no k1]) (Aft.rf r0)
/-- one row of ints written, nothing else -/
def Ch (a : Nat) (h h' : Hp) : Prop := xS h' = xS h ∧ xP h' = xP h ∧ xF h' = xF h ∧ xB h' = xB h ∧ xL h' = xL h ∧ ∀ b, b ≠ a → xA h' b = xA h b
theorem Ch.rf {a : Nat} {h : Hp} : Ch a h h := ⟨rfl, rfl, rfl, rfl, rfl, fun _ _ => rfl⟩
theorem Ch.tr {a : Nat} {h1 h2 h3 : Hp} (x : Ch a h1 h2) (y : Ch a h2 h3) : Ch a h1 h3 := by
  obtain ⟨a1, a2, a3, a4, a5, a6⟩ := x
  obtain ⟨b1, b2, b3, b4, b5, b6⟩ := y
  exact ⟨b1.trans a1, b2.trans a2, b3.trans a3, b4.trans a4, b5.trans a5, fun b n => (b6 b n).trans (a6 b n)⟩
theorem Ch.w {a : Nat} {h : Hp} (i : Nat) (v : Int32) : Ch a h (yA h a i v) := ⟨rfl, rfl, rfl, rfl, rfl, fun _ n => yA_o n⟩
theorem Ch.fr {a : Nat} {h h' : Hp} {Wr : Nat → Prop} (x : Ch a h h') (ha : Wr a) : Fr Wr h h' := fun b z hz => by
  obtain ⟨a1, a2, a3, a4, a5, a6⟩ := x
  exact ⟨by rw [a1]; exact hz, fun hb => ⟨fun i => by rw [a3], fun i => by rw [a2], a6 b (fun e => hb (e ▸ ha)), by rw [a4], by rw [a5]⟩⟩
set_option maxRecDepth 100000 in
set_option maxHeartbeats 4000000 in
theorem ct_fill {g : Gl} {l : Launch} (hfl : l.stackTraces = false) (h : Hp) (a n : Nat) (v : Int32) (hs : xS h a = some (8, n)) (hn : n < 100000) : CT g l iJ7_fill_53178 1 [.ref a, .int v] h 0 0 (pRel (fun r h' => r = none ∧ Ch a h h' ∧ ∀ j, xA h' a j = if j < n then v else xA h a j)) := by
  refine ct_mk hfl (by decide) (Nat.le_of_ble_eq_true rfl) (by intro v hv; simp only [List.mem_cons, List.not_mem_nil, or_false] at hv; rcases hv with rfl | rfl <;> rfl) (fun V X M => ?_)
  have Mm := M.m
  show V 0 [some (.ref a), some (.int v), none, none] [] _ 0 0
  refine r_iconst (v := nI 0) Mm dJ7_fill_53178_0 (by decide) ?_
  refine r_istore_n Mm dJ7_fill_53178_1 (by decide) ?_
  show V 2 [some (.ref a), some (.int v), some (.int (nI 0)), none] _ _ _ _
  refine r_aload_n Mm dJ7_fill_53178_2 rfl ?_
  refine r_alenI Mm dJ7_fill_53178_3 (hs) ?_
  refine r_istore_n Mm dJ7_fill_53178_4 (by decide) ?_
  show V 5 [some (.ref a), some (.int v), some (.int (nI 0)), some (.int (nI n))] _ _ _ _
  have loop : ∀ (u : Nat) (h1 : Hp) (k : Nat), n - k < u → (k ≤ n) → (Ch a h h1) → (∀ j, xA h1 a j = if j < k then v else xA h a j) → V 5 [some (.ref a), some (.int v), some (.int (nI k)), some (.int (nI n))] [] h1 0 0 := by
    intro u
    induction u with
    | zero => intro h1 k hm; exact absurd hm (Nat.not_lt_zero _)
    | succ u ih =>
      intro h1 k hm hk hc hv
      refine r_iload_n Mm dJ7_fill_53178_5 rfl ?_
      refine r_iload_n Mm dJ7_fill_53178_6 rfl ?_
      refine r_icmp_geN (tgt := 20) Mm dJ7_fill_53178_7 (by decide) (by omega) (by omega) (fun c1 => ?_) (fun c1 => ?_)
      · refine r_vret M dJ7_fill_53178_20 ?_
        obtain rfl : k = n := by omega
        exact ⟨rfl, hc, hv⟩
      · refine r_aload_n Mm dJ7_fill_53178_10 rfl ?_
        refine r_iload_n Mm dJ7_fill_53178_11 rfl ?_
        refine r_iload_n Mm dJ7_fill_53178_12 rfl ?_
        refine r_iastN Mm dJ7_fill_53178_13 ((by rw [hc.1]; exact hs)) (by omega) (by omega) ?_
        refine r_iincN (k := 1) Mm dJ7_fill_53178_14 rfl (by decide) (by decide) ?_
        show V 17 [some (.ref a), some (.int v), some (.int (nI (k + 1))), some (.int (nI n))] _ _ _ _
        refine r_goto (tgt := 5) Mm dJ7_fill_53178_17 (by decide) ?_
        exact ih _ (k + 1) (by omega) (by omega) (hc.tr (Ch.w _ _)) (fun j => by
          by_cases e : j = k
          · rw [e, yA_s, if_pos (by omega)]
          · rw [yA_j e, hv j]
            by_cases q : j < k
            · rw [if_pos q, if_pos (by omega)]
            · rw [if_neg q, if_neg (by omega)])
  exact loop (n + 1) _ 0 (by omega) (Nat.zero_le _) Ch.rf (fun j => (if_neg (Nat.not_lt_zero _)).symm)
/-- the first state: no puppets, no shows, nothing heard -/
def hr0 : Nat → Int32 := fun s => if s < 10 then -1 else 0
def st0 : ST := ((0, fun _ => pZ), (0, fun _ => sZ), hr0, 0)
theorem st0_wx : WX st0 := ⟨⟨Nat.zero_le _, Nat.zero_le _, fun i hi => absurd hi (Nat.not_lt_zero _), fun j hj => absurd hj (Nat.not_lt_zero _), fun s hs => Or.inl (if_pos hs)⟩, fun _ _ => rfl, fun _ _ => rfl⟩
set_option maxRecDepth 100000 in
set_option maxHeartbeats 4000000 in
theorem ct_loomInit {g : Gl} {l : Launch} (hfl : l.stackTraces = false) (h : Hp) (x : Nat) (hs : xS h x = some (5, 0)) : CT g l iX5_init 5 [.ref x] h 3 18 (pRel (fun r h' => r = none ∧ ∃ (ow' : Nat → Nat) (pL sL ha : Nat), RC (gN g 2) ow' h' x pL sL ha [] [] st0 ∧ (∀ b z, xS h b = some z → b ≠ x → ow' b = 0) ∧ (∀ b, xS h' b = none → ow' b = 0) ∧ Fr (fun b => b = x) h h')) := by
  refine ct_mk hfl (by decide) (Nat.le_of_ble_eq_true rfl) (by intro v hv; simp only [List.mem_cons, List.not_mem_nil, or_false] at hv; rcases hv with rfl <;> rfl) (fun V X M => ?_)
  have Mm := M.m
  show V 0 [some (.ref x)] [] _ 0 0
  refine r_aload_n Mm dX5_init_0 rfl ?_
  refine r_objInit Mm dX5_init_1 co_X5_1 coi coc (Nat.le_of_ble_eq_true rfl) (Nat.le_of_ble_eq_true rfl) ?_
  refine r_aload_n Mm dX5_init_4 rfl ?_
  refine r_new Mm dX5_init_5 ki_7 rfl cl_X5_7 nw_7 ni_7 ⟨Nat.le_of_ble_eq_true rfl, Nat.le_of_ble_eq_true rfl⟩ (fun q1 hq1 => ?_)
  have s2 : xS (yN h q1 7 0) x = some (5, 0) := yN_S hq1 (hs)
  refine r_dup Mm dX5_init_8 rfl ?_
  refine r_callI (As := []) Mm dX5_init_9 rfl (ct_listInit hfl ((yN h q1 7 0)) q1 (yN_q)) cw_X5_9 ⟨Nat.le_of_ble_eq_true rfl, Nat.le_of_ble_eq_true rfl, Nat.le_of_ble_eq_true rfl⟩ (Nat.le_of_ble_eq_true rfl) ⟨Nat.le_of_ble_eq_true rfl, Nat.le_of_ble_eq_true rfl⟩ (fun r3 h4 p5 => ?_) (fun _ _ z => z)
  obtain ⟨rfl, rfl⟩ := p5
  have s6 : xS (yP (yF (yN h q1 7 0) 700 q1 (nI 0)) 701 q1 (some (gN g 2))) x = some (5, 0) := sP (sF (s2))
  have s7 : xS (yP (yF (yN h q1 7 0) 700 q1 (nI 0)) 701 q1 (some (gN g 2))) q1 = some (7, 0) := sP (sF (yN_q))
  show V 12 _ [(.ref q1), (.ref x)] _ _ _
  refine r_putRF (v := some q1) (ty := .object "java/util/ArrayList") Mm dX5_init_12 fi_X5_10 ki_5 rfl (s6) rfl (i := 500) rfl rfl (by decide +kernel) rfl rfl rfl rfl ?_
  refine r_aload_n Mm dX5_init_15 rfl ?_
  refine r_new Mm dX5_init_16 ki_7 rfl cl_X5_7 nw_7 ni_7 ⟨Nat.le_of_ble_eq_true rfl, Nat.le_of_ble_eq_true rfl⟩ (fun q8 hq8 => ?_)
  have s9 : xS (yN (yP (yP (yF (yN h q1 7 0) 700 q1 (nI 0)) 701 q1 (some (gN g 2))) 500 x (some q1)) q8 7 0) x = some (5, 0) := yN_S hq8 (sP (s6))
  have s10 : xS (yN (yP (yP (yF (yN h q1 7 0) 700 q1 (nI 0)) 701 q1 (some (gN g 2))) 500 x (some q1)) q8 7 0) q1 = some (7, 0) := yN_S hq8 (sP (s7))
  have p11 : xP (yN (yP (yP (yF (yN h q1 7 0) 700 q1 (nI 0)) 701 q1 (some (gN g 2))) 500 x (some q1)) q8 7 0) 500 x = some q1 := yN_P hq8 (sP (s6)) (pP_s)
  refine r_dup Mm dX5_init_19 rfl ?_
  refine r_callI (As := []) Mm dX5_init_20 rfl (ct_listInit hfl ((yN (yP (yP (yF (yN h q1 7 0) 700 q1 (nI 0)) 701 q1 (some (gN g 2))) 500 x (some q1)) q8 7 0)) q8 (yN_q)) cw_X5_9 ⟨Nat.le_of_ble_eq_true rfl, Nat.le_of_ble_eq_true rfl, Nat.le_of_ble_eq_true rfl⟩ (Nat.le_of_ble_eq_true rfl) ⟨Nat.le_of_ble_eq_true rfl, Nat.le_of_ble_eq_true rfl⟩ (fun r12 h13 p14 => ?_) (fun _ _ z => z)
  obtain ⟨rfl, rfl⟩ := p14
  have s15 : xS (yP (yF (yN (yP (yP (yF (yN h q1 7 0) 700 q1 (nI 0)) 701 q1 (some (gN g 2))) 500 x (some q1)) q8 7 0) 700 q8 (nI 0)) 701 q8 (some (gN g 2))) x = some (5, 0) := sP (sF (s9))
  have s16 : xS (yP (yF (yN (yP (yP (yF (yN h q1 7 0) 700 q1 (nI 0)) 701 q1 (some (gN g 2))) 500 x (some q1)) q8 7 0) 700 q8 (nI 0)) 701 q8 (some (gN g 2))) q1 = some (7, 0) := sP (sF (s10))
  have s17 : xS (yP (yF (yN (yP (yP (yF (yN h q1 7 0) 700 q1 (nI 0)) 701 q1 (some (gN g 2))) 500 x (some q1)) q8 7 0) 700 q8 (nI 0)) 701 q8 (some (gN g 2))) q8 = some (7, 0) := sP (sF (yN_q))
  have p18 : xP (yP (yF (yN (yP (yP (yF (yN h q1 7 0) 700 q1 (nI 0)) 701 q1 (some (gN g 2))) 500 x (some q1)) q8 7 0) 700 q8 (nI 0)) 701 q8 (some (gN g 2))) 500 x = some q1 := pP (by decide) (pF (p11))
  show V 23 _ [(.ref q8), (.ref x)] _ _ _
  refine r_putRF (v := some q8) (ty := .object "java/util/ArrayList") Mm dX5_init_23 fi_X5_16 ki_5 rfl (s15) rfl (i := 501) rfl rfl (by decide +kernel) rfl rfl rfl rfl ?_
  refine r_aload_n Mm dX5_init_26 rfl ?_
  refine r_bipush (v := nI 10) Mm dX5_init_27 (by decide) ?_
  refine r_newI (N := 10) Mm dX5_init_29 ac_int (nI_pos (by omega)) (nI_clamp (by omega)) (by first | decide | (show _ * 4 ≤ _; omega)) ⟨Nat.le_of_ble_eq_true rfl, Nat.le_of_ble_eq_true rfl⟩ (fun q19 hq19 => ?_)
  have s20 : xS (yN (yP (yP (yF (yN (yP (yP (yF (yN h q1 7 0) 700 q1 (nI 0)) 701 q1 (some (gN g 2))) 500 x (some q1)) q8 7 0) 700 q8 (nI 0)) 701 q8 (some (gN g 2))) 501 x (some q8)) q19 8 10) x = some (5, 0) := yN_S hq19 (sP (s15))
  have s21 : xS (yN (yP (yP (yF (yN (yP (yP (yF (yN h q1 7 0) 700 q1 (nI 0)) 701 q1 (some (gN g 2))) 500 x (some q1)) q8 7 0) 700 q8 (nI 0)) 701 q8 (some (gN g 2))) 501 x (some q8)) q19 8 10) q1 = some (7, 0) := yN_S hq19 (sP (s16))
  have s22 : xS (yN (yP (yP (yF (yN (yP (yP (yF (yN h q1 7 0) 700 q1 (nI 0)) 701 q1 (some (gN g 2))) 500 x (some q1)) q8 7 0) 700 q8 (nI 0)) 701 q8 (some (gN g 2))) 501 x (some q8)) q19 8 10) q8 = some (7, 0) := yN_S hq19 (sP (s17))
  have p23 : xP (yN (yP (yP (yF (yN (yP (yP (yF (yN h q1 7 0) 700 q1 (nI 0)) 701 q1 (some (gN g 2))) 500 x (some q1)) q8 7 0) 700 q8 (nI 0)) 701 q8 (some (gN g 2))) 501 x (some q8)) q19 8 10) 500 x = some q1 := yN_P hq19 (sP (s15)) (pP (by decide) (p18))
  have p24 : xP (yN (yP (yP (yF (yN (yP (yP (yF (yN h q1 7 0) 700 q1 (nI 0)) 701 q1 (some (gN g 2))) 500 x (some q1)) q8 7 0) 700 q8 (nI 0)) 701 q8 (some (gN g 2))) 501 x (some q8)) q19 8 10) 501 x = some q8 := yN_P hq19 (sP (s15)) (pP_s)
  refine r_putRF (v := some q19) (ty := .array .int) Mm dX5_init_31 fi_X5_19 ki_5 rfl (s20) rfl (i := 502) rfl rfl (by decide +kernel) rfl rfl rfl rfl ?_
  refine r_aload_n Mm dX5_init_34 rfl ?_
  refine r_getR Mm dX5_init_35 fi_X5_19 (sP (s20)) rfl (i := 502) rfl (pP_s) ?_
  refine r_iconst (v := -1) Mm dX5_init_38 (by decide) ?_
  refine r_callS (As := [(.ref q19), (.int (-1))]) Mm dX5_init_39 rfl (ct_fill hfl ((yP (yN (yP (yP (yF (yN (yP (yP (yF (yN h q1 7 0) 700 q1 (nI 0)) 701 q1 (some (gN g 2))) 500 x (some q1)) q8 7 0) 700 q8 (nI 0)) 701 q8 (some (gN g 2))) 501 x (some q8)) q19 8 10) 502 x (some q19))) q19 10 (-1) (sP (yN_q)) (by decide)) cw_X5_23 ⟨Nat.le_of_ble_eq_true rfl, Nat.le_of_ble_eq_true rfl, Nat.le_of_ble_eq_true rfl⟩ (Nat.le_of_ble_eq_true rfl) ⟨Nat.le_of_ble_eq_true rfl, Nat.le_of_ble_eq_true rfl⟩ (fun r25 h26 p27 => ?_) (fun Er25 h26 p27 => False.elim p27)
  obtain ⟨rfl, hc, hv⟩ := p27
  show V 42 _ [] _ _ _
  refine r_aload_n Mm dX5_init_42 rfl ?_
  refine r_iconst (v := nI 0) Mm dX5_init_43 (by decide) ?_
  refine r_putI (ty := .int) Mm dX5_init_44 fi_X5_29 ki_5 rfl ((by rw [hc.1]; exact sP (s20))) rfl (i := 503) rfl rfl (by decide +kernel) rfl rfl ?_
  have gq1 := hq1
  first | skip | simp only [zxS_yF, zxF_yF, zxP_yF, zxA_yF, zxB_yF, zxL_yF, zxS_yP, zxF_yP, zxP_yP, zxA_yP, zxB_yP, zxL_yP, zxS_yA, zxF_yA, zxP_yA, zxA_yA, zxB_yA, zxL_yA, zxS_yB, zxF_yB, zxP_yB, zxA_yB, zxB_yB, zxL_yB, zxS_yL, zxF_yL, zxP_yL, zxA_yL, zxB_yL, zxL_yL, zxS_yN, zxF_yN, zxP_yN, zxA_yN, zxB_yN, zxL_yN, Nat.reduceEqDiff, false_and, and_false, true_and, and_true, and_self, ite_false, ite_true, ite_self] at gq1
  have f_q1 : xS h q1 = none := gq1
  have gq8 := hq8
  simp only [zxS_yF, zxF_yF, zxP_yF, zxA_yF, zxB_yF, zxL_yF, zxS_yP, zxF_yP, zxP_yP, zxA_yP, zxB_yP, zxL_yP, zxS_yA, zxF_yA, zxP_yA, zxA_yA, zxB_yA, zxL_yA, zxS_yB, zxF_yB, zxP_yB, zxA_yB, zxB_yB, zxL_yB, zxS_yL, zxF_yL, zxP_yL, zxA_yL, zxB_yL, zxL_yL, zxS_yN, zxF_yN, zxP_yN, zxA_yN, zxB_yN, zxL_yN, Nat.reduceEqDiff, false_and, and_false, true_and, and_true, and_self, ite_false, ite_true, ite_self] at gq8
  obtain ⟨n_q8_q1, gq8b⟩ := ite_none gq8
  have f_q8 : xS h q8 = none := gq8b
  have gq19 := hq19
  simp only [zxS_yF, zxF_yF, zxP_yF, zxA_yF, zxB_yF, zxL_yF, zxS_yP, zxF_yP, zxP_yP, zxA_yP, zxB_yP, zxL_yP, zxS_yA, zxF_yA, zxP_yA, zxA_yA, zxB_yA, zxL_yA, zxS_yB, zxF_yB, zxP_yB, zxA_yB, zxB_yB, zxL_yB, zxS_yL, zxF_yL, zxP_yL, zxA_yL, zxB_yL, zxL_yL, zxS_yN, zxF_yN, zxP_yN, zxA_yN, zxB_yN, zxL_yN, Nat.reduceEqDiff, false_and, and_false, true_and, and_true, and_self, ite_false, ite_true, ite_self] at gq19
  obtain ⟨n_q19_q8, gq19b⟩ := ite_none gq19
  obtain ⟨n_q19_q1, gq19bb⟩ := ite_none gq19b
  have f_q19 : xS h q19 = none := gq19bb
  have n_x_q1 := ne_of_S hs f_q1
  have n_x_q8 := ne_of_S hs f_q8
  have n_x_q19 := ne_of_S hs f_q19
  refine r_ownE Mm (fun fE => ?_)
  refine r_vret M dX5_init_47 ?_
  refine ⟨rfl, (upt (upt (upt (upt (fun _ => 0) x 1) q1 2) q8 3) q19 4), q1, q8, q19, ⟨⟨by simp only [hc.1, hc.2.1, hc.2.2.1, zxS_yF, zxF_yF, zxP_yF, zxA_yF, zxB_yF, zxL_yF, zxS_yP, zxF_yP, zxP_yP, zxA_yP, zxB_yP, zxL_yP, zxS_yA, zxF_yA, zxP_yA, zxA_yA, zxB_yA, zxL_yA, zxS_yB, zxF_yB, zxP_yB, zxA_yB, zxB_yB, zxL_yB, zxS_yL, zxF_yL, zxP_yL, zxA_yL, zxB_yL, zxL_yL, zxS_yN, zxF_yN, zxP_yN, zxA_yN, zxB_yN, zxL_yN, Nat.reduceEqDiff, false_and, and_false, true_and, and_true, and_self, ite_false, ite_true, ite_self, n_x_q1, n_x_q1.symm, n_x_q8, n_x_q8.symm, n_x_q19, n_x_q19.symm, n_q8_q1, n_q19_q1, n_q19_q8, Ne.symm n_q8_q1, Ne.symm n_q19_q1, Ne.symm n_q19_q8, hs], by simp only [hc.1, hc.2.1, hc.2.2.1, zxS_yF, zxF_yF, zxP_yF, zxA_yF, zxB_yF, zxL_yF, zxS_yP, zxF_yP, zxP_yP, zxA_yP, zxB_yP, zxL_yP, zxS_yA, zxF_yA, zxP_yA, zxA_yA, zxB_yA, zxL_yA, zxS_yB, zxF_yB, zxP_yB, zxA_yB, zxB_yB, zxL_yB, zxS_yL, zxF_yL, zxP_yL, zxA_yL, zxB_yL, zxL_yL, zxS_yN, zxF_yN, zxP_yN, zxA_yN, zxB_yN, zxL_yN, Nat.reduceEqDiff, false_and, and_false, true_and, and_true, and_self, ite_false, ite_true, ite_self, n_x_q1, n_x_q1.symm, n_x_q8, n_x_q8.symm, n_x_q19, n_x_q19.symm, n_q8_q1, n_q19_q1, n_q19_q8, Ne.symm n_q8_q1, Ne.symm n_q19_q1, Ne.symm n_q19_q8, hs], by simp only [hc.1, hc.2.1, hc.2.2.1, zxS_yF, zxF_yF, zxP_yF, zxA_yF, zxB_yF, zxL_yF, zxS_yP, zxF_yP, zxP_yP, zxA_yP, zxB_yP, zxL_yP, zxS_yA, zxF_yA, zxP_yA, zxA_yA, zxB_yA, zxL_yA, zxS_yB, zxF_yB, zxP_yB, zxA_yB, zxB_yB, zxL_yB, zxS_yL, zxF_yL, zxP_yL, zxA_yL, zxB_yL, zxL_yL, zxS_yN, zxF_yN, zxP_yN, zxA_yN, zxB_yN, zxL_yN, Nat.reduceEqDiff, false_and, and_false, true_and, and_true, and_self, ite_false, ite_true, ite_self, n_x_q1, n_x_q1.symm, n_x_q8, n_x_q8.symm, n_x_q19, n_x_q19.symm, n_q8_q1, n_q19_q1, n_q19_q8, Ne.symm n_q8_q1, Ne.symm n_q19_q1, Ne.symm n_q19_q8, hs], by simp only [hc.1, hc.2.1, hc.2.2.1, zxS_yF, zxF_yF, zxP_yF, zxA_yF, zxB_yF, zxL_yF, zxS_yP, zxF_yP, zxP_yP, zxA_yP, zxB_yP, zxL_yP, zxS_yA, zxF_yA, zxP_yA, zxA_yA, zxB_yA, zxL_yA, zxS_yB, zxF_yB, zxP_yB, zxA_yB, zxB_yB, zxL_yB, zxS_yL, zxF_yL, zxP_yL, zxA_yL, zxB_yL, zxL_yL, zxS_yN, zxF_yN, zxP_yN, zxA_yN, zxB_yN, zxL_yN, Nat.reduceEqDiff, false_and, and_false, true_and, and_true, and_self, ite_false, ite_true, ite_self, n_x_q1, n_x_q1.symm, n_x_q8, n_x_q8.symm, n_x_q19, n_x_q19.symm, n_q8_q1, n_q19_q1, n_q19_q8, Ne.symm n_q8_q1, Ne.symm n_q19_q1, Ne.symm n_q19_q8, hs], by simp only [hc.1, hc.2.1, hc.2.2.1, zxS_yF, zxF_yF, zxP_yF, zxA_yF, zxB_yF, zxL_yF, zxS_yP, zxF_yP, zxP_yP, zxA_yP, zxB_yP, zxL_yP, zxS_yA, zxF_yA, zxP_yA, zxA_yA, zxB_yA, zxL_yA, zxS_yB, zxF_yB, zxP_yB, zxA_yB, zxB_yB, zxL_yB, zxS_yL, zxF_yL, zxP_yL, zxA_yL, zxB_yL, zxL_yL, zxS_yN, zxF_yN, zxP_yN, zxA_yN, zxB_yN, zxL_yN, Nat.reduceEqDiff, false_and, and_false, true_and, and_true, and_self, ite_false, ite_true, ite_self, n_x_q1, n_x_q1.symm, n_x_q8, n_x_q8.symm, n_x_q19, n_x_q19.symm, n_q8_q1, n_q19_q1, n_q19_q8, Ne.symm n_q8_q1, Ne.symm n_q19_q1, Ne.symm n_q19_q8, hs]⟩, ⟨isL_new (by simp only [hc.1, hc.2.1, hc.2.2.1, zxS_yF, zxF_yF, zxP_yF, zxA_yF, zxB_yF, zxL_yF, zxS_yP, zxF_yP, zxP_yP, zxA_yP, zxB_yP, zxL_yP, zxS_yA, zxF_yA, zxP_yA, zxA_yA, zxB_yA, zxL_yA, zxS_yB, zxF_yB, zxP_yB, zxA_yB, zxB_yB, zxL_yB, zxS_yL, zxF_yL, zxP_yL, zxA_yL, zxB_yL, zxL_yL, zxS_yN, zxF_yN, zxP_yN, zxA_yN, zxB_yN, zxL_yN, Nat.reduceEqDiff, false_and, and_false, true_and, and_true, and_self, ite_false, ite_true, ite_self, n_x_q1, n_x_q1.symm, n_x_q8, n_x_q8.symm, n_x_q19, n_x_q19.symm, n_q8_q1, n_q19_q1, n_q19_q8, Ne.symm n_q8_q1, Ne.symm n_q19_q1, Ne.symm n_q19_q8, hs]) (by simp only [hc.1, hc.2.1, hc.2.2.1, zxS_yF, zxF_yF, zxP_yF, zxA_yF, zxB_yF, zxL_yF, zxS_yP, zxF_yP, zxP_yP, zxA_yP, zxB_yP, zxL_yP, zxS_yA, zxF_yA, zxP_yA, zxA_yA, zxB_yA, zxL_yA, zxS_yB, zxF_yB, zxP_yB, zxA_yB, zxB_yB, zxL_yB, zxS_yL, zxF_yL, zxP_yL, zxA_yL, zxB_yL, zxL_yL, zxS_yN, zxF_yN, zxP_yN, zxA_yN, zxB_yN, zxL_yN, Nat.reduceEqDiff, false_and, and_false, true_and, and_true, and_self, ite_false, ite_true, ite_self, n_x_q1, n_x_q1.symm, n_x_q8, n_x_q8.symm, n_x_q19, n_x_q19.symm, n_q8_q1, n_q19_q1, n_q19_q8, Ne.symm n_q8_q1, Ne.symm n_q19_q1, Ne.symm n_q19_q8, hs]) (by simp only [hc.1, hc.2.1, hc.2.2.1, zxS_yF, zxF_yF, zxP_yF, zxA_yF, zxB_yF, zxL_yF, zxS_yP, zxF_yP, zxP_yP, zxA_yP, zxB_yP, zxL_yP, zxS_yA, zxF_yA, zxP_yA, zxA_yA, zxB_yA, zxL_yA, zxS_yB, zxF_yB, zxP_yB, zxA_yB, zxB_yB, zxL_yB, zxS_yL, zxF_yL, zxP_yL, zxA_yL, zxB_yL, zxL_yL, zxS_yN, zxF_yN, zxP_yN, zxA_yN, zxB_yN, zxL_yN, Nat.reduceEqDiff, false_and, and_false, true_and, and_true, and_self, ite_false, ite_true, ite_self, n_x_q1, n_x_q1.symm, n_x_q8, n_x_q8.symm, n_x_q19, n_x_q19.symm, n_q8_q1, n_q19_q1, n_q19_q8, Ne.symm n_q8_q1, Ne.symm n_q19_q1, Ne.symm n_q19_q8, hs]), isL_new (by simp only [hc.1, hc.2.1, hc.2.2.1, zxS_yF, zxF_yF, zxP_yF, zxA_yF, zxB_yF, zxL_yF, zxS_yP, zxF_yP, zxP_yP, zxA_yP, zxB_yP, zxL_yP, zxS_yA, zxF_yA, zxP_yA, zxA_yA, zxB_yA, zxL_yA, zxS_yB, zxF_yB, zxP_yB, zxA_yB, zxB_yB, zxL_yB, zxS_yL, zxF_yL, zxP_yL, zxA_yL, zxB_yL, zxL_yL, zxS_yN, zxF_yN, zxP_yN, zxA_yN, zxB_yN, zxL_yN, Nat.reduceEqDiff, false_and, and_false, true_and, and_true, and_self, ite_false, ite_true, ite_self, n_x_q1, n_x_q1.symm, n_x_q8, n_x_q8.symm, n_x_q19, n_x_q19.symm, n_q8_q1, n_q19_q1, n_q19_q8, Ne.symm n_q8_q1, Ne.symm n_q19_q1, Ne.symm n_q19_q8, hs]) (by simp only [hc.1, hc.2.1, hc.2.2.1, zxS_yF, zxF_yF, zxP_yF, zxA_yF, zxB_yF, zxL_yF, zxS_yP, zxF_yP, zxP_yP, zxA_yP, zxB_yP, zxL_yP, zxS_yA, zxF_yA, zxP_yA, zxA_yA, zxB_yA, zxL_yA, zxS_yB, zxF_yB, zxP_yB, zxA_yB, zxB_yB, zxL_yB, zxS_yL, zxF_yL, zxP_yL, zxA_yL, zxB_yL, zxL_yL, zxS_yN, zxF_yN, zxP_yN, zxA_yN, zxB_yN, zxL_yN, Nat.reduceEqDiff, false_and, and_false, true_and, and_true, and_self, ite_false, ite_true, ite_self, n_x_q1, n_x_q1.symm, n_x_q8, n_x_q8.symm, n_x_q19, n_x_q19.symm, n_q8_q1, n_q19_q1, n_q19_q8, Ne.symm n_q8_q1, Ne.symm n_q19_q1, Ne.symm n_q19_q8, hs]) (by simp only [hc.1, hc.2.1, hc.2.2.1, zxS_yF, zxF_yF, zxP_yF, zxA_yF, zxB_yF, zxL_yF, zxS_yP, zxF_yP, zxP_yP, zxA_yP, zxB_yP, zxL_yP, zxS_yA, zxF_yA, zxP_yA, zxA_yA, zxB_yA, zxL_yA, zxS_yB, zxF_yB, zxP_yB, zxA_yB, zxB_yB, zxL_yB, zxS_yL, zxF_yL, zxP_yL, zxA_yL, zxB_yL, zxL_yL, zxS_yN, zxF_yN, zxP_yN, zxA_yN, zxB_yN, zxL_yN, Nat.reduceEqDiff, false_and, and_false, true_and, and_true, and_self, ite_false, ite_true, ite_self, n_x_q1, n_x_q1.symm, n_x_q8, n_x_q8.symm, n_x_q19, n_x_q19.symm, n_q8_q1, n_q19_q1, n_q19_q8, Ne.symm n_q8_q1, Ne.symm n_q19_q1, Ne.symm n_q19_q8, hs]), rfl, rfl⟩, fun i b hb => by simp at hb, fun i b hb => by simp at hb, ⟨fun s => ?_, (show _ = nI 0 by simp only [hc.1, hc.2.1, hc.2.2.1, zxS_yF, zxF_yF, zxP_yF, zxA_yF, zxB_yF, zxL_yF, zxS_yP, zxF_yP, zxP_yP, zxA_yP, zxB_yP, zxL_yP, zxS_yA, zxF_yA, zxP_yA, zxA_yA, zxB_yA, zxL_yA, zxS_yB, zxF_yB, zxP_yB, zxA_yB, zxB_yB, zxL_yB, zxS_yL, zxF_yL, zxP_yL, zxA_yL, zxB_yL, zxL_yL, zxS_yN, zxF_yN, zxP_yN, zxA_yN, zxB_yN, zxL_yN, Nat.reduceEqDiff, false_and, and_false, true_and, and_true, and_self, ite_false, ite_true, ite_self, n_x_q1, n_x_q1.symm, n_x_q8, n_x_q8.symm, n_x_q19, n_x_q19.symm, n_q8_q1, n_q19_q1, n_q19_q8, Ne.symm n_q8_q1, Ne.symm n_q19_q1, Ne.symm n_q19_q8, hs]).trans rfl⟩, ⟨?_, ?_, ?_, upt_s _ _ _, fun D hD => Or.inl ?_, fun D hD => Or.inl ?_⟩, fE⟩, fun b z hz hb => ?_, fun b hb => ?_, ?_⟩
  · have q := hv s; rw [zxA_yF, q]
    show (if s < 10 then (-1 : Int32) else _) = hr0 s
    rw [hr0]; split
    · rfl
    · simp only [zxS_yF, zxF_yF, zxP_yF, zxA_yF, zxB_yF, zxL_yF, zxS_yP, zxF_yP, zxP_yP, zxA_yP, zxB_yP, zxL_yP, zxS_yA, zxF_yA, zxP_yA, zxA_yA, zxB_yA, zxL_yA, zxS_yB, zxF_yB, zxP_yB, zxA_yB, zxB_yB, zxL_yB, zxS_yL, zxF_yL, zxP_yL, zxA_yL, zxB_yL, zxL_yL, zxS_yN, zxF_yN, zxP_yN, zxA_yN, zxB_yN, zxL_yN, Nat.reduceEqDiff, false_and, and_false, true_and, and_true, and_self, ite_false, ite_true, ite_self, n_x_q1, n_x_q1.symm, n_x_q8, n_x_q8.symm, n_x_q19, n_x_q19.symm, n_q8_q1, n_q19_q1, n_q19_q8, Ne.symm n_q8_q1, Ne.symm n_q19_q1, Ne.symm n_q19_q8, hs]
  · rw [upt_n _ _ n_x_q19, upt_n _ _ n_x_q8, upt_n _ _ n_x_q1, upt_s]
  · rw [upt_n _ _ (Ne.symm n_q19_q1), upt_n _ _ (Ne.symm n_q8_q1), upt_s]
  · rw [upt_n _ _ (Ne.symm n_q19_q8), upt_s]
  · have q : xP (yF h26 503 x (nI 0)) 701 q1 = some (gN g 2) := by simp only [hc.1, hc.2.1, hc.2.2.1, zxS_yF, zxF_yF, zxP_yF, zxA_yF, zxB_yF, zxL_yF, zxS_yP, zxF_yP, zxP_yP, zxA_yP, zxB_yP, zxL_yP, zxS_yA, zxF_yA, zxP_yA, zxA_yA, zxB_yA, zxL_yA, zxS_yB, zxF_yB, zxP_yB, zxA_yB, zxB_yB, zxL_yB, zxS_yL, zxF_yL, zxP_yL, zxA_yL, zxB_yL, zxL_yL, zxS_yN, zxF_yN, zxP_yN, zxA_yN, zxB_yN, zxL_yN, Nat.reduceEqDiff, false_and, and_false, true_and, and_true, and_self, ite_false, ite_true, ite_self, n_x_q1, n_x_q1.symm, n_x_q8, n_x_q8.symm, n_x_q19, n_x_q19.symm, n_q8_q1, n_q19_q1, n_q19_q8, Ne.symm n_q8_q1, Ne.symm n_q19_q1, Ne.symm n_q19_q8, hs]
    rw [q] at hD; cases hD; rfl
  · have q : xP (yF h26 503 x (nI 0)) 701 q8 = some (gN g 2) := by simp only [hc.1, hc.2.1, hc.2.2.1, zxS_yF, zxF_yF, zxP_yF, zxA_yF, zxB_yF, zxL_yF, zxS_yP, zxF_yP, zxP_yP, zxA_yP, zxB_yP, zxL_yP, zxS_yA, zxF_yA, zxP_yA, zxA_yA, zxB_yA, zxL_yA, zxS_yB, zxF_yB, zxP_yB, zxA_yB, zxB_yB, zxL_yB, zxS_yL, zxF_yL, zxP_yL, zxA_yL, zxB_yL, zxL_yL, zxS_yN, zxF_yN, zxP_yN, zxA_yN, zxB_yN, zxL_yN, Nat.reduceEqDiff, false_and, and_false, true_and, and_true, and_self, ite_false, ite_true, ite_self, n_x_q1, n_x_q1.symm, n_x_q8, n_x_q8.symm, n_x_q19, n_x_q19.symm, n_q8_q1, n_q19_q1, n_q19_q8, Ne.symm n_q8_q1, Ne.symm n_q19_q1, Ne.symm n_q19_q8, hs]
    rw [q] at hD; cases hD; rfl
  · rw [upt_n _ _ (ne_of_S hz f_q19), upt_n _ _ (ne_of_S hz f_q8), upt_n _ _ (ne_of_S hz f_q1), upt_n _ _ hb]
  · have hbx : b ≠ x := fun e => by rw [e, show xS (yF h26 503 x (nI 0)) x = some (5, 0) by simp only [hc.1, hc.2.1, hc.2.2.1, zxS_yF, zxF_yF, zxP_yF, zxA_yF, zxB_yF, zxL_yF, zxS_yP, zxF_yP, zxP_yP, zxA_yP, zxB_yP, zxL_yP, zxS_yA, zxF_yA, zxP_yA, zxA_yA, zxB_yA, zxL_yA, zxS_yB, zxF_yB, zxP_yB, zxA_yB, zxB_yB, zxL_yB, zxS_yL, zxF_yL, zxP_yL, zxA_yL, zxB_yL, zxL_yL, zxS_yN, zxF_yN, zxP_yN, zxA_yN, zxB_yN, zxL_yN, Nat.reduceEqDiff, false_and, and_false, true_and, and_true, and_self, ite_false, ite_true, ite_self, n_x_q1, n_x_q1.symm, n_x_q8, n_x_q8.symm, n_x_q19, n_x_q19.symm, n_q8_q1, n_q19_q1, n_q19_q8, Ne.symm n_q8_q1, Ne.symm n_q19_q1, Ne.symm n_q19_q8, hs]] at hb; cases hb
    have hbq1 : b ≠ q1 := fun e => by rw [e, show xS (yF h26 503 x (nI 0)) q1 = some (7, 0) by simp only [hc.1, hc.2.1, hc.2.2.1, zxS_yF, zxF_yF, zxP_yF, zxA_yF, zxB_yF, zxL_yF, zxS_yP, zxF_yP, zxP_yP, zxA_yP, zxB_yP, zxL_yP, zxS_yA, zxF_yA, zxP_yA, zxA_yA, zxB_yA, zxL_yA, zxS_yB, zxF_yB, zxP_yB, zxA_yB, zxB_yB, zxL_yB, zxS_yL, zxF_yL, zxP_yL, zxA_yL, zxB_yL, zxL_yL, zxS_yN, zxF_yN, zxP_yN, zxA_yN, zxB_yN, zxL_yN, Nat.reduceEqDiff, false_and, and_false, true_and, and_true, and_self, ite_false, ite_true, ite_self, n_x_q1, n_x_q1.symm, n_x_q8, n_x_q8.symm, n_x_q19, n_x_q19.symm, n_q8_q1, n_q19_q1, n_q19_q8, Ne.symm n_q8_q1, Ne.symm n_q19_q1, Ne.symm n_q19_q8, hs]] at hb; cases hb
    have hbq8 : b ≠ q8 := fun e => by rw [e, show xS (yF h26 503 x (nI 0)) q8 = some (7, 0) by simp only [hc.1, hc.2.1, hc.2.2.1, zxS_yF, zxF_yF, zxP_yF, zxA_yF, zxB_yF, zxL_yF, zxS_yP, zxF_yP, zxP_yP, zxA_yP, zxB_yP, zxL_yP, zxS_yA, zxF_yA, zxP_yA, zxA_yA, zxB_yA, zxL_yA, zxS_yB, zxF_yB, zxP_yB, zxA_yB, zxB_yB, zxL_yB, zxS_yL, zxF_yL, zxP_yL, zxA_yL, zxB_yL, zxL_yL, zxS_yN, zxF_yN, zxP_yN, zxA_yN, zxB_yN, zxL_yN, Nat.reduceEqDiff, false_and, and_false, true_and, and_true, and_self, ite_false, ite_true, ite_self, n_x_q1, n_x_q1.symm, n_x_q8, n_x_q8.symm, n_x_q19, n_x_q19.symm, n_q8_q1, n_q19_q1, n_q19_q8, Ne.symm n_q8_q1, Ne.symm n_q19_q1, Ne.symm n_q19_q8, hs]] at hb; cases hb
    have hbq19 : b ≠ q19 := fun e => by rw [e, show xS (yF h26 503 x (nI 0)) q19 = some (8, 10) by simp only [hc.1, hc.2.1, hc.2.2.1, zxS_yF, zxF_yF, zxP_yF, zxA_yF, zxB_yF, zxL_yF, zxS_yP, zxF_yP, zxP_yP, zxA_yP, zxB_yP, zxL_yP, zxS_yA, zxF_yA, zxP_yA, zxA_yA, zxB_yA, zxL_yA, zxS_yB, zxF_yB, zxP_yB, zxA_yB, zxB_yB, zxL_yB, zxS_yL, zxF_yL, zxP_yL, zxA_yL, zxB_yL, zxL_yL, zxS_yN, zxF_yN, zxP_yN, zxA_yN, zxB_yN, zxL_yN, Nat.reduceEqDiff, false_and, and_false, true_and, and_true, and_self, ite_false, ite_true, ite_self, n_x_q1, n_x_q1.symm, n_x_q8, n_x_q8.symm, n_x_q19, n_x_q19.symm, n_q8_q1, n_q19_q1, n_q19_q8, Ne.symm n_q8_q1, Ne.symm n_q19_q1, Ne.symm n_q19_q8, hs]] at hb; cases hb
    rw [upt_n _ _ hbq19, upt_n _ _ hbq8, upt_n _ _ hbq1, upt_n _ _ hbx]
  · refine Fr.tr ?_ (Fr.yF rfl)
    refine Fr.mono (Wr := fun b => b = x ∨ b = q1 ∨ b = q8 ∨ b = q19) (Fr.tr ?_ (hc.fr (Or.inr (Or.inr (Or.inr rfl))))) (fun b hb hw => hw.elim id (fun z => z.elim (fun e => absurd (e ▸ f_q1) hb) (fun z => z.elim (fun e => absurd (e ▸ f_q8) hb) (fun e => absurd (e ▸ f_q19) hb))))
    refine Fr.tr ?_ (Fr.yP (Or.inl rfl))
    refine Fr.tr ?_ (Fr.yN hq19)
    refine Fr.tr ?_ (Fr.yP (Or.inl rfl))
    refine Fr.tr ?_ (Fr.yP (Or.inr (Or.inr (Or.inl rfl))))
    refine Fr.tr ?_ (Fr.yF (Or.inr (Or.inr (Or.inl rfl))))
    refine Fr.tr ?_ (Fr.yN hq8)
    refine Fr.tr ?_ (Fr.yP (Or.inl rfl))
    refine Fr.tr ?_ (Fr.yP (Or.inr (Or.inl rfl)))
    refine Fr.tr ?_ (Fr.yF (Or.inr (Or.inl rfl)))
    refine Fr.tr ?_ (Fr.yN hq1)
    exact Fr.rf
