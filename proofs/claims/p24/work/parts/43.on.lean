/-! ===== the law's calls of the class whose throws become numbers ===== -/
theorem ctw_weak {g : Gl} {l : Launch} {mi : MI} {hh : List (Nat × Nat × Nat × Nat)} {d : Nat} {av : List Value} {h : Hp} {mc ms : Nat} {P Q : Res → Hp → Prop} (hM : CTW g l mi hh d av h mc ms P) (hr : ∀ (r : Option Value) (h' : Hp), P (.inl r) h' → Q (.inl r) h') (he : ∀ (E : String) (h' : Hp), P (.inr E) h' → Q (.inr E) h') : CTW g l mi hh d av h mc ms Q := by
  intro p e h1 h2 h3 s m args below h4 h5 h6 h7
  obtain ⟨n, o, a1, a2, a3, a4⟩ := hM p e h1 h2 h3 s m args below h4 h5 h6 h7
  refine ⟨n, o, a1, a2, a3, ?_⟩
  rcases a4 with ⟨⟨⟨r, h', b1, b2, b3⟩, b4⟩, b5⟩ | ⟨q, b1, E, ce, L, ⟨⟨h', b2, b3⟩, b4⟩, b5⟩
  · exact Or.inl ⟨⟨⟨r, h', b1, hr r h' b2, b3⟩, b4⟩, b5⟩
  · exact Or.inr ⟨q, b1, E, ce, L, ⟨⟨h', he E h' b2, b3⟩, b4⟩, b5⟩
/-- what on answers -/
def onV : OR → Int32
  | .inl E => if E = eIOO then -2000011 else if E = eISE then -2000013 else -2000014
  | .inr r => r.1
def onS (σ : ST) : OR → ST
  | .inl _ => σ
  | .inr r => r.2
/-- the law catches these -/
def oCt (o : OR) : Prop := ∀ E, o = .inl E → E = eIOO ∨ E = eISE ∨ E = eNSE
theorem oCt.thr {o : OR} {E : String} (e : o = .inl E) (h : E = eIOO ∨ E = eISE ∨ E = eNSE) : oCt o := fun E' z => by
  rw [e] at z; cases z; exact h
theorem oCt.ret {o : OR} {r : Int32 × ST} (e : o = .inr r) : oCt o := fun E' z => by
  rw [e] at z; cases z
theorem onV_ioo : onV (.inl eIOO) = -2000011 := by
  show (if eIOO = eIOO then (-2000011 : Int32) else if eIOO = eISE then -2000013 else -2000014) = -2000011
  rw [if_pos rfl]
theorem onV_ise : onV (.inl eISE) = -2000013 := by
  show (if eISE = eIOO then (-2000011 : Int32) else if eISE = eISE then -2000013 else -2000014) = -2000013
  rw [if_neg (show ¬ eISE = eIOO by decide +kernel), if_pos rfl]
theorem onV_nse : onV (.inl eNSE) = -2000014 := by
  show (if eNSE = eIOO then (-2000011 : Int32) else if eNSE = eISE then -2000013 else -2000014) = -2000014
  rw [if_neg (show ¬ eNSE = eIOO by decide +kernel), if_neg (show ¬ eNSE = eISE by decide +kernel)]
theorem ctw_on {g : Gl} {l : Launch} {mi : MI} {hh : List (Nat × Nat × Nat × Nat)} {d : Nat} {av : List Value} {h : Hp} {mc ms x : Nat} {ad : Nat → Nat} {A : Nat → Nat → Int32} {σ σ' : ST} {o o' : OR} {v : Int32} (c : CTW g l mi hh d av h mc ms (pRel (fun r h' => r = some (.int (onV o)) ∧ Mid g h' x ad A (onS σ o)))) (e : o = o') (hv : onV o' = v) (hs : onS σ o' = σ') : CTW g l mi hh d av h mc ms (pRel (fun r h' => r = some (.int v) ∧ Mid g h' x ad A σ')) := by
  subst e; subst hv; subst hs; exact c
set_option maxRecDepth 100000 in
set_option maxHeartbeats 4000000 in
theorem ct_asks_cut {g : Gl} {l : Launch} (hfl : l.stackTraces = false) {h : Hp} {x : Nat} {ad : Nat → Nat} {A : Nat → Nat → Int32} {σ : ST} (md : Mid g h x ad A σ) (hw : WF σ) (a b c e : Int32) : CT g l iL_asks 10 [.ref x, .int (nI 0), .int a, .int b, .int c, .int e] h 1 6 (pMo g x ad A σ (o_cut σ a b)) := by
  refine ct_mk hfl (by decide) (Nat.le_of_ble_eq_true rfl) (by intro v hv; simp only [List.mem_cons, List.not_mem_nil, or_false] at hv; rcases hv with rfl | rfl | rfl | rfl | rfl | rfl <;> rfl) (fun V X M => ?_)
  have Mm := M.m
  show V 0 [some (.ref x), some (.int (nI 0)), some (.int a), some (.int b), some (.int c), some (.int e)] [] _ 0 0
  refine r_iload_n Mm dL_asks_0 rfl ?_
  refine r_if_ne (tgt := 13) Mm dL_asks_1 (by decide) (fun c1 => absurd (by decide) c1) (fun _ => ?_)
  refine r_aload_n Mm dL_asks_4 rfl ?_
  refine r_iload_n Mm dL_asks_5 rfl ?_
  refine r_iload_n Mm dL_asks_6 rfl ?_
  refine r_callV (As := [(.int a), (.int b)]) Mm dL_asks_7 rfl (cd_cut hfl md hw a b) (md.ox) rfl cw_L_7 ⟨Nat.le_of_ble_eq_true rfl, Nat.le_of_ble_eq_true rfl, Nat.le_of_ble_eq_true rfl⟩ (Nat.le_of_ble_eq_true rfl) ⟨Nat.le_of_ble_eq_true rfl, Nat.le_of_ble_eq_true rfl⟩ (fun r1 h1 p1 => ?_) (fun E1 h1 p1 => x_out M p1)
  rcases p1 with ⟨E0, -, e2, -⟩ | ⟨v, σ1, e1, e2, md1⟩
  · cases e2
  · cases e2
    show V 10 [some (.ref x), some (.int (nI 0)), some (.int a), some (.int b), some (.int c), some (.int e)] [.int v] h1 _ _
    refine r_goto (tgt := 128) Mm dL_asks_10 (by decide) ?_
    refine r_iret M dL_asks_128 ?_
    exact Or.inr ⟨v, σ1, e1, rfl, md1⟩
set_option maxRecDepth 100000 in
set_option maxHeartbeats 4000000 in
theorem ct_asks_cast {g : Gl} {l : Launch} (hfl : l.stackTraces = false) {h : Hp} {x : Nat} {ad : Nat → Nat} {A : Nat → Nat → Int32} {σ : ST} (md : Mid g h x ad A σ) (hw : WF σ) (a b c e : Int32) : CT g l iL_asks 10 [.ref x, .int (nI 1), .int a, .int b, .int c, .int e] h 1 6 (pMo g x ad A σ (o_cast σ a b)) := by
  refine ct_mk hfl (by decide) (Nat.le_of_ble_eq_true rfl) (by intro v hv; simp only [List.mem_cons, List.not_mem_nil, or_false] at hv; rcases hv with rfl | rfl | rfl | rfl | rfl | rfl <;> rfl) (fun V X M => ?_)
  have Mm := M.m
  show V 0 [some (.ref x), some (.int (nI 1)), some (.int a), some (.int b), some (.int c), some (.int e)] [] _ 0 0
  refine r_iload_n Mm dL_asks_0 rfl ?_
  refine r_if_ne (tgt := 13) Mm dL_asks_1 (by decide) (fun _ => ?_) (fun c1 => absurd c1 (by decide))
  refine r_iload_n Mm dL_asks_13 rfl ?_
  refine r_iconst (v := nI 1) Mm dL_asks_14 (by decide) ?_
  refine r_icmp_ne (tgt := 27) Mm dL_asks_15 (by decide) (fun c2 => absurd (by decide) c2) (fun _ => ?_)
  refine r_aload_n Mm dL_asks_18 rfl ?_
  refine r_iload_n Mm dL_asks_19 rfl ?_
  refine r_iload_n Mm dL_asks_20 rfl ?_
  refine r_callV (As := [(.int a), (.int b)]) Mm dL_asks_21 rfl (cd_cast hfl md hw a b) (md.ox) rfl cw_L_13 ⟨Nat.le_of_ble_eq_true rfl, Nat.le_of_ble_eq_true rfl, Nat.le_of_ble_eq_true rfl⟩ (Nat.le_of_ble_eq_true rfl) ⟨Nat.le_of_ble_eq_true rfl, Nat.le_of_ble_eq_true rfl⟩ (fun r1 h1 p1 => ?_) (fun E1 h1 p1 => x_out M p1)
  rcases p1 with ⟨E0, -, e2, -⟩ | ⟨v, σ1, e1, e2, md1⟩
  · cases e2
  · cases e2
    show V 24 [some (.ref x), some (.int (nI 1)), some (.int a), some (.int b), some (.int c), some (.int e)] [.int v] h1 _ _
    refine r_goto (tgt := 128) Mm dL_asks_24 (by decide) ?_
    refine r_iret M dL_asks_128 ?_
    exact Or.inr ⟨v, σ1, e1, rfl, md1⟩
set_option maxRecDepth 100000 in
set_option maxHeartbeats 4000000 in
theorem ct_asks_leave {g : Gl} {l : Launch} (hfl : l.stackTraces = false) {h : Hp} {x : Nat} {ad : Nat → Nat} {A : Nat → Nat → Int32} {σ : ST} (md : Mid g h x ad A σ) (hw : WF σ) (a b c e : Int32) : CT g l iL_asks 10 [.ref x, .int (nI 2), .int a, .int b, .int c, .int e] h 1 6 (pMo g x ad A σ (o_leave σ a b)) := by
  refine ct_mk hfl (by decide) (Nat.le_of_ble_eq_true rfl) (by intro v hv; simp only [List.mem_cons, List.not_mem_nil, or_false] at hv; rcases hv with rfl | rfl | rfl | rfl | rfl | rfl <;> rfl) (fun V X M => ?_)
  have Mm := M.m
  show V 0 [some (.ref x), some (.int (nI 2)), some (.int a), some (.int b), some (.int c), some (.int e)] [] _ 0 0
  refine r_iload_n Mm dL_asks_0 rfl ?_
  refine r_if_ne (tgt := 13) Mm dL_asks_1 (by decide) (fun _ => ?_) (fun c1 => absurd c1 (by decide))
  refine r_iload_n Mm dL_asks_13 rfl ?_
  refine r_iconst (v := nI 1) Mm dL_asks_14 (by decide) ?_
  refine r_icmp_ne (tgt := 27) Mm dL_asks_15 (by decide) (fun _ => ?_) (fun c2 => absurd c2 (by decide))
  refine r_iload_n Mm dL_asks_27 rfl ?_
  refine r_iconst (v := nI 2) Mm dL_asks_28 (by decide) ?_
  refine r_icmp_ne (tgt := 41) Mm dL_asks_29 (by decide) (fun c3 => absurd (by decide) c3) (fun _ => ?_)
  refine r_aload_n Mm dL_asks_32 rfl ?_
  refine r_iload_n Mm dL_asks_33 rfl ?_
  refine r_iload_n Mm dL_asks_34 rfl ?_
  refine r_callV (As := [(.int a), (.int b)]) Mm dL_asks_35 rfl (cd_leave hfl md hw a b) (md.ox) rfl cw_L_16 ⟨Nat.le_of_ble_eq_true rfl, Nat.le_of_ble_eq_true rfl, Nat.le_of_ble_eq_true rfl⟩ (Nat.le_of_ble_eq_true rfl) ⟨Nat.le_of_ble_eq_true rfl, Nat.le_of_ble_eq_true rfl⟩ (fun r1 h1 p1 => ?_) (fun E1 h1 p1 => x_out M p1)
  rcases p1 with ⟨E0, -, e2, -⟩ | ⟨v, σ1, e1, e2, md1⟩
  · cases e2
  · cases e2
    show V 38 [some (.ref x), some (.int (nI 2)), some (.int a), some (.int b), some (.int c), some (.int e)] [.int v] h1 _ _
    refine r_goto (tgt := 128) Mm dL_asks_38 (by decide) ?_
    refine r_iret M dL_asks_128 ?_
    exact Or.inr ⟨v, σ1, e1, rfl, md1⟩
set_option maxRecDepth 100000 in
set_option maxHeartbeats 4000000 in
theorem ct_asks_sell {g : Gl} {l : Launch} (hfl : l.stackTraces = false) {h : Hp} {x : Nat} {ad : Nat → Nat} {A : Nat → Nat → Int32} {σ : ST} (md : Mid g h x ad A σ) (hw : WF σ) (a b c e : Int32) : CT g l iL_asks 10 [.ref x, .int (nI 3), .int a, .int b, .int c, .int e] h 1 6 (pMo g x ad A σ (o_sell σ a b c)) := by
  refine ct_mk hfl (by decide) (Nat.le_of_ble_eq_true rfl) (by intro v hv; simp only [List.mem_cons, List.not_mem_nil, or_false] at hv; rcases hv with rfl | rfl | rfl | rfl | rfl | rfl <;> rfl) (fun V X M => ?_)
  have Mm := M.m
  show V 0 [some (.ref x), some (.int (nI 3)), some (.int a), some (.int b), some (.int c), some (.int e)] [] _ 0 0
  refine r_iload_n Mm dL_asks_0 rfl ?_
  refine r_if_ne (tgt := 13) Mm dL_asks_1 (by decide) (fun _ => ?_) (fun c1 => absurd c1 (by decide))
  refine r_iload_n Mm dL_asks_13 rfl ?_
  refine r_iconst (v := nI 1) Mm dL_asks_14 (by decide) ?_
  refine r_icmp_ne (tgt := 27) Mm dL_asks_15 (by decide) (fun _ => ?_) (fun c2 => absurd c2 (by decide))
  refine r_iload_n Mm dL_asks_27 rfl ?_
  refine r_iconst (v := nI 2) Mm dL_asks_28 (by decide) ?_
  refine r_icmp_ne (tgt := 41) Mm dL_asks_29 (by decide) (fun _ => ?_) (fun c3 => absurd c3 (by decide))
  refine r_iload_n Mm dL_asks_41 rfl ?_
  refine r_iconst (v := nI 3) Mm dL_asks_42 (by decide) ?_
  refine r_icmp_ne (tgt := 57) Mm dL_asks_43 (by decide) (fun c4 => absurd (by decide) c4) (fun _ => ?_)
  refine r_aload_n Mm dL_asks_46 rfl ?_
  refine r_iload_n Mm dL_asks_47 rfl ?_
  refine r_iload_n Mm dL_asks_48 rfl ?_
  refine r_iload Mm dL_asks_49 rfl ?_
  refine r_callV (As := [(.int a), (.int b), (.int c)]) Mm dL_asks_51 rfl (cd_sell hfl md hw a b c) (md.ox) rfl cw_L_19 ⟨Nat.le_of_ble_eq_true rfl, Nat.le_of_ble_eq_true rfl, Nat.le_of_ble_eq_true rfl⟩ (Nat.le_of_ble_eq_true rfl) ⟨Nat.le_of_ble_eq_true rfl, Nat.le_of_ble_eq_true rfl⟩ (fun r1 h1 p1 => ?_) (fun E1 h1 p1 => x_out M p1)
  rcases p1 with ⟨E0, -, e2, -⟩ | ⟨v, σ1, e1, e2, md1⟩
  · cases e2
  · cases e2
    show V 54 [some (.ref x), some (.int (nI 3)), some (.int a), some (.int b), some (.int c), some (.int e)] [.int v] h1 _ _
    refine r_goto (tgt := 128) Mm dL_asks_54 (by decide) ?_
    refine r_iret M dL_asks_128 ?_
    exact Or.inr ⟨v, σ1, e1, rfl, md1⟩
set_option maxRecDepth 100000 in
set_option maxHeartbeats 4000000 in
theorem ct_asks_perform {g : Gl} {l : Launch} (hfl : l.stackTraces = false) {h : Hp} {x : Nat} {ad : Nat → Nat} {A : Nat → Nat → Int32} {σ : ST} (md : Mid g h x ad A σ) (hw : WF σ) (a b c e : Int32) : CT g l iL_asks 10 [.ref x, .int (nI 4), .int a, .int b, .int c, .int e] h 1 6 (pMo g x ad A σ (o_perform σ a)) := by
  refine ct_mk hfl (by decide) (Nat.le_of_ble_eq_true rfl) (by intro v hv; simp only [List.mem_cons, List.not_mem_nil, or_false] at hv; rcases hv with rfl | rfl | rfl | rfl | rfl | rfl <;> rfl) (fun V X M => ?_)
  have Mm := M.m
  show V 0 [some (.ref x), some (.int (nI 4)), some (.int a), some (.int b), some (.int c), some (.int e)] [] _ 0 0
  refine r_iload_n Mm dL_asks_0 rfl ?_
  refine r_if_ne (tgt := 13) Mm dL_asks_1 (by decide) (fun _ => ?_) (fun c1 => absurd c1 (by decide))
  refine r_iload_n Mm dL_asks_13 rfl ?_
  refine r_iconst (v := nI 1) Mm dL_asks_14 (by decide) ?_
  refine r_icmp_ne (tgt := 27) Mm dL_asks_15 (by decide) (fun _ => ?_) (fun c2 => absurd c2 (by decide))
  refine r_iload_n Mm dL_asks_27 rfl ?_
  refine r_iconst (v := nI 2) Mm dL_asks_28 (by decide) ?_
  refine r_icmp_ne (tgt := 41) Mm dL_asks_29 (by decide) (fun _ => ?_) (fun c3 => absurd c3 (by decide))
  refine r_iload_n Mm dL_asks_41 rfl ?_
  refine r_iconst (v := nI 3) Mm dL_asks_42 (by decide) ?_
  refine r_icmp_ne (tgt := 57) Mm dL_asks_43 (by decide) (fun _ => ?_) (fun c4 => absurd c4 (by decide))
  refine r_iload_n Mm dL_asks_57 rfl ?_
  refine r_iconst (v := nI 4) Mm dL_asks_58 (by decide) ?_
  refine r_icmp_ne (tgt := 70) Mm dL_asks_59 (by decide) (fun c5 => absurd (by decide) c5) (fun _ => ?_)
  refine r_aload_n Mm dL_asks_62 rfl ?_
  refine r_iload_n Mm dL_asks_63 rfl ?_
  refine r_callV (As := [(.int a)]) Mm dL_asks_64 rfl (cd_perform hfl md hw a) (md.ox) rfl cw_L_23 ⟨Nat.le_of_ble_eq_true rfl, Nat.le_of_ble_eq_true rfl, Nat.le_of_ble_eq_true rfl⟩ (Nat.le_of_ble_eq_true rfl) ⟨Nat.le_of_ble_eq_true rfl, Nat.le_of_ble_eq_true rfl⟩ (fun r1 h1 p1 => ?_) (fun E1 h1 p1 => x_out M p1)
  rcases p1 with ⟨E0, -, e2, -⟩ | ⟨v, σ1, e1, e2, md1⟩
  · cases e2
  · cases e2
    show V 67 [some (.ref x), some (.int (nI 4)), some (.int a), some (.int b), some (.int c), some (.int e)] [.int v] h1 _ _
    refine r_goto (tgt := 128) Mm dL_asks_67 (by decide) ?_
    refine r_iret M dL_asks_128 ?_
    exact Or.inr ⟨v, σ1, e1, rfl, md1⟩
set_option maxRecDepth 100000 in
set_option maxHeartbeats 4000000 in
theorem ct_asks_mend {g : Gl} {l : Launch} (hfl : l.stackTraces = false) {h : Hp} {x : Nat} {ad : Nat → Nat} {A : Nat → Nat → Int32} {σ : ST} (md : Mid g h x ad A σ) (hw : WF σ) (a b c e : Int32) : CT g l iL_asks 10 [.ref x, .int (nI 5), .int a, .int b, .int c, .int e] h 4 1520 (pMo g x ad A σ (o_mend σ a b)) := by
  refine ct_mk hfl (by decide) (Nat.le_of_ble_eq_true rfl) (by intro v hv; simp only [List.mem_cons, List.not_mem_nil, or_false] at hv; rcases hv with rfl | rfl | rfl | rfl | rfl | rfl <;> rfl) (fun V X M => ?_)
  have Mm := M.m
  show V 0 [some (.ref x), some (.int (nI 5)), some (.int a), some (.int b), some (.int c), some (.int e)] [] _ 0 0
  refine r_iload_n Mm dL_asks_0 rfl ?_
  refine r_if_ne (tgt := 13) Mm dL_asks_1 (by decide) (fun _ => ?_) (fun c1 => absurd c1 (by decide))
  refine r_iload_n Mm dL_asks_13 rfl ?_
  refine r_iconst (v := nI 1) Mm dL_asks_14 (by decide) ?_
  refine r_icmp_ne (tgt := 27) Mm dL_asks_15 (by decide) (fun _ => ?_) (fun c2 => absurd c2 (by decide))
  refine r_iload_n Mm dL_asks_27 rfl ?_
  refine r_iconst (v := nI 2) Mm dL_asks_28 (by decide) ?_
  refine r_icmp_ne (tgt := 41) Mm dL_asks_29 (by decide) (fun _ => ?_) (fun c3 => absurd c3 (by decide))
  refine r_iload_n Mm dL_asks_41 rfl ?_
  refine r_iconst (v := nI 3) Mm dL_asks_42 (by decide) ?_
  refine r_icmp_ne (tgt := 57) Mm dL_asks_43 (by decide) (fun _ => ?_) (fun c4 => absurd c4 (by decide))
  refine r_iload_n Mm dL_asks_57 rfl ?_
  refine r_iconst (v := nI 4) Mm dL_asks_58 (by decide) ?_
  refine r_icmp_ne (tgt := 70) Mm dL_asks_59 (by decide) (fun _ => ?_) (fun c5 => absurd c5 (by decide))
  refine r_iload_n Mm dL_asks_70 rfl ?_
  refine r_iconst (v := nI 5) Mm dL_asks_71 (by decide) ?_
  refine r_icmp_ne (tgt := 84) Mm dL_asks_72 (by decide) (fun c6 => absurd (by decide) c6) (fun _ => ?_)
  refine r_aload_n Mm dL_asks_75 rfl ?_
  refine r_iload_n Mm dL_asks_76 rfl ?_
  refine r_iload_n Mm dL_asks_77 rfl ?_
  refine r_callV (As := [(.int a), (.int b)]) Mm dL_asks_78 rfl (cd_mend hfl md hw a b) (md.ox) rfl cw_L_27 ⟨Nat.le_of_ble_eq_true rfl, Nat.le_of_ble_eq_true rfl, Nat.le_of_ble_eq_true rfl⟩ (Nat.le_of_ble_eq_true rfl) ⟨Nat.le_of_ble_eq_true rfl, Nat.le_of_ble_eq_true rfl⟩ (fun r1 h1 p1 => ?_) (fun E1 h1 p1 => x_out M p1)
  rcases p1 with ⟨E0, -, e2, -⟩ | ⟨v, σ1, e1, e2, md1⟩
  · cases e2
  · cases e2
    show V 81 [some (.ref x), some (.int (nI 5)), some (.int a), some (.int b), some (.int c), some (.int e)] [.int v] h1 _ _
    refine r_goto (tgt := 128) Mm dL_asks_81 (by decide) ?_
    refine r_iret M dL_asks_128 ?_
    exact Or.inr ⟨v, σ1, e1, rfl, md1⟩
set_option maxRecDepth 100000 in
set_option maxHeartbeats 4000000 in
theorem ct_asks_x {g : Gl} {l : Launch} (hfl : l.stackTraces = false) {h : Hp} {x : Nat} {ad : Nat → Nat} {A : Nat → Nat → Int32} {σ : ST} (md : Mid g h x ad A σ) (hw : WF σ) (a b c e : Int32) : CT g l iL_asks 10 [.ref x, .int (nI 6), .int a, .int b, .int c, .int e] h 1 6 (pMo g x ad A σ (o_x σ a b c)) := by
  refine ct_mk hfl (by decide) (Nat.le_of_ble_eq_true rfl) (by intro v hv; simp only [List.mem_cons, List.not_mem_nil, or_false] at hv; rcases hv with rfl | rfl | rfl | rfl | rfl | rfl <;> rfl) (fun V X M => ?_)
  have Mm := M.m
  show V 0 [some (.ref x), some (.int (nI 6)), some (.int a), some (.int b), some (.int c), some (.int e)] [] _ 0 0
  refine r_iload_n Mm dL_asks_0 rfl ?_
  refine r_if_ne (tgt := 13) Mm dL_asks_1 (by decide) (fun _ => ?_) (fun c1 => absurd c1 (by decide))
  refine r_iload_n Mm dL_asks_13 rfl ?_
  refine r_iconst (v := nI 1) Mm dL_asks_14 (by decide) ?_
  refine r_icmp_ne (tgt := 27) Mm dL_asks_15 (by decide) (fun _ => ?_) (fun c2 => absurd c2 (by decide))
  refine r_iload_n Mm dL_asks_27 rfl ?_
  refine r_iconst (v := nI 2) Mm dL_asks_28 (by decide) ?_
  refine r_icmp_ne (tgt := 41) Mm dL_asks_29 (by decide) (fun _ => ?_) (fun c3 => absurd c3 (by decide))
  refine r_iload_n Mm dL_asks_41 rfl ?_
  refine r_iconst (v := nI 3) Mm dL_asks_42 (by decide) ?_
  refine r_icmp_ne (tgt := 57) Mm dL_asks_43 (by decide) (fun _ => ?_) (fun c4 => absurd c4 (by decide))
  refine r_iload_n Mm dL_asks_57 rfl ?_
  refine r_iconst (v := nI 4) Mm dL_asks_58 (by decide) ?_
  refine r_icmp_ne (tgt := 70) Mm dL_asks_59 (by decide) (fun _ => ?_) (fun c5 => absurd c5 (by decide))
  refine r_iload_n Mm dL_asks_70 rfl ?_
  refine r_iconst (v := nI 5) Mm dL_asks_71 (by decide) ?_
  refine r_icmp_ne (tgt := 84) Mm dL_asks_72 (by decide) (fun _ => ?_) (fun c6 => absurd c6 (by decide))
  refine r_iload_n Mm dL_asks_84 rfl ?_
  refine r_bipush (v := nI 6) Mm dL_asks_85 (by decide) ?_
  refine r_icmp_ne (tgt := 101) Mm dL_asks_87 (by decide) (fun c7 => absurd (by decide) c7) (fun _ => ?_)
  refine r_aload_n Mm dL_asks_90 rfl ?_
  refine r_iload_n Mm dL_asks_91 rfl ?_
  refine r_iload_n Mm dL_asks_92 rfl ?_
  refine r_iload Mm dL_asks_93 rfl ?_
  refine r_callV (As := [(.int a), (.int b), (.int c)]) Mm dL_asks_95 rfl (cd_x hfl md hw a b c) (md.ox) rfl cw_L_30 ⟨Nat.le_of_ble_eq_true rfl, Nat.le_of_ble_eq_true rfl, Nat.le_of_ble_eq_true rfl⟩ (Nat.le_of_ble_eq_true rfl) ⟨Nat.le_of_ble_eq_true rfl, Nat.le_of_ble_eq_true rfl⟩ (fun r1 h1 p1 => ?_) (fun E1 h1 p1 => x_out M p1)
  rcases p1 with ⟨E0, -, e2, -⟩ | ⟨v, σ1, e1, e2, md1⟩
  · cases e2
  · cases e2
    show V 98 [some (.ref x), some (.int (nI 6)), some (.int a), some (.int b), some (.int c), some (.int e)] [.int v] h1 _ _
    refine r_goto (tgt := 128) Mm dL_asks_98 (by decide) ?_
    refine r_iret M dL_asks_128 ?_
    exact Or.inr ⟨v, σ1, e1, rfl, md1⟩
set_option maxRecDepth 100000 in
set_option maxHeartbeats 4000000 in
theorem ct_asks_y {g : Gl} {l : Launch} (hfl : l.stackTraces = false) {h : Hp} {x : Nat} {ad : Nat → Nat} {A : Nat → Nat → Int32} {σ : ST} (md : Mid g h x ad A σ) (hw : WF σ) (a b c e : Int32) : CT g l iL_asks 10 [.ref x, .int (nI 7), .int a, .int b, .int c, .int e] h 1 6 (pMo g x ad A σ (o_y σ a b c)) := by
  refine ct_mk hfl (by decide) (Nat.le_of_ble_eq_true rfl) (by intro v hv; simp only [List.mem_cons, List.not_mem_nil, or_false] at hv; rcases hv with rfl | rfl | rfl | rfl | rfl | rfl <;> rfl) (fun V X M => ?_)
  have Mm := M.m
  show V 0 [some (.ref x), some (.int (nI 7)), some (.int a), some (.int b), some (.int c), some (.int e)] [] _ 0 0
  refine r_iload_n Mm dL_asks_0 rfl ?_
  refine r_if_ne (tgt := 13) Mm dL_asks_1 (by decide) (fun _ => ?_) (fun c1 => absurd c1 (by decide))
  refine r_iload_n Mm dL_asks_13 rfl ?_
  refine r_iconst (v := nI 1) Mm dL_asks_14 (by decide) ?_
  refine r_icmp_ne (tgt := 27) Mm dL_asks_15 (by decide) (fun _ => ?_) (fun c2 => absurd c2 (by decide))
  refine r_iload_n Mm dL_asks_27 rfl ?_
  refine r_iconst (v := nI 2) Mm dL_asks_28 (by decide) ?_
  refine r_icmp_ne (tgt := 41) Mm dL_asks_29 (by decide) (fun _ => ?_) (fun c3 => absurd c3 (by decide))
  refine r_iload_n Mm dL_asks_41 rfl ?_
  refine r_iconst (v := nI 3) Mm dL_asks_42 (by decide) ?_
  refine r_icmp_ne (tgt := 57) Mm dL_asks_43 (by decide) (fun _ => ?_) (fun c4 => absurd c4 (by decide))
  refine r_iload_n Mm dL_asks_57 rfl ?_
  refine r_iconst (v := nI 4) Mm dL_asks_58 (by decide) ?_
  refine r_icmp_ne (tgt := 70) Mm dL_asks_59 (by decide) (fun _ => ?_) (fun c5 => absurd c5 (by decide))
  refine r_iload_n Mm dL_asks_70 rfl ?_
  refine r_iconst (v := nI 5) Mm dL_asks_71 (by decide) ?_
  refine r_icmp_ne (tgt := 84) Mm dL_asks_72 (by decide) (fun _ => ?_) (fun c6 => absurd c6 (by decide))
  refine r_iload_n Mm dL_asks_84 rfl ?_
  refine r_bipush (v := nI 6) Mm dL_asks_85 (by decide) ?_
  refine r_icmp_ne (tgt := 101) Mm dL_asks_87 (by decide) (fun _ => ?_) (fun c7 => absurd c7 (by decide))
  refine r_iload_n Mm dL_asks_101 rfl ?_
  refine r_bipush (v := nI 7) Mm dL_asks_102 (by decide) ?_
  refine r_icmp_ne (tgt := 118) Mm dL_asks_104 (by decide) (fun c8 => absurd (by decide) c8) (fun _ => ?_)
  refine r_aload_n Mm dL_asks_107 rfl ?_
  refine r_iload_n Mm dL_asks_108 rfl ?_
  refine r_iload_n Mm dL_asks_109 rfl ?_
  refine r_iload Mm dL_asks_110 rfl ?_
  refine r_callV (As := [(.int a), (.int b), (.int c)]) Mm dL_asks_112 rfl (cd_y hfl md hw a b c) (md.ox) rfl cw_L_33 ⟨Nat.le_of_ble_eq_true rfl, Nat.le_of_ble_eq_true rfl, Nat.le_of_ble_eq_true rfl⟩ (Nat.le_of_ble_eq_true rfl) ⟨Nat.le_of_ble_eq_true rfl, Nat.le_of_ble_eq_true rfl⟩ (fun r1 h1 p1 => ?_) (fun E1 h1 p1 => x_out M p1)
  rcases p1 with ⟨E0, -, e2, -⟩ | ⟨v, σ1, e1, e2, md1⟩
  · cases e2
  · cases e2
    show V 115 [some (.ref x), some (.int (nI 7)), some (.int a), some (.int b), some (.int c), some (.int e)] [.int v] h1 _ _
    refine r_goto (tgt := 128) Mm dL_asks_115 (by decide) ?_
    refine r_iret M dL_asks_128 ?_
    exact Or.inr ⟨v, σ1, e1, rfl, md1⟩
set_option maxRecDepth 100000 in
set_option maxHeartbeats 4000000 in
theorem ct_asks_bent {g : Gl} {l : Launch} (hfl : l.stackTraces = false) {h : Hp} {x : Nat} {ad : Nat → Nat} {A : Nat → Nat → Int32} {σ : ST} (md : Mid g h x ad A σ) (hw : WF σ) (a b c e : Int32) : CT g l iL_asks 10 [.ref x, .int (nI 8), .int a, .int b, .int c, .int e] h 1 6 (pMo g x ad A σ (o_bent σ a b c e)) := by
  refine ct_mk hfl (by decide) (Nat.le_of_ble_eq_true rfl) (by intro v hv; simp only [List.mem_cons, List.not_mem_nil, or_false] at hv; rcases hv with rfl | rfl | rfl | rfl | rfl | rfl <;> rfl) (fun V X M => ?_)
  have Mm := M.m
  show V 0 [some (.ref x), some (.int (nI 8)), some (.int a), some (.int b), some (.int c), some (.int e)] [] _ 0 0
  refine r_iload_n Mm dL_asks_0 rfl ?_
  refine r_if_ne (tgt := 13) Mm dL_asks_1 (by decide) (fun _ => ?_) (fun c1 => absurd c1 (by decide))
  refine r_iload_n Mm dL_asks_13 rfl ?_
  refine r_iconst (v := nI 1) Mm dL_asks_14 (by decide) ?_
  refine r_icmp_ne (tgt := 27) Mm dL_asks_15 (by decide) (fun _ => ?_) (fun c2 => absurd c2 (by decide))
  refine r_iload_n Mm dL_asks_27 rfl ?_
  refine r_iconst (v := nI 2) Mm dL_asks_28 (by decide) ?_
  refine r_icmp_ne (tgt := 41) Mm dL_asks_29 (by decide) (fun _ => ?_) (fun c3 => absurd c3 (by decide))
  refine r_iload_n Mm dL_asks_41 rfl ?_
  refine r_iconst (v := nI 3) Mm dL_asks_42 (by decide) ?_
  refine r_icmp_ne (tgt := 57) Mm dL_asks_43 (by decide) (fun _ => ?_) (fun c4 => absurd c4 (by decide))
  refine r_iload_n Mm dL_asks_57 rfl ?_
  refine r_iconst (v := nI 4) Mm dL_asks_58 (by decide) ?_
  refine r_icmp_ne (tgt := 70) Mm dL_asks_59 (by decide) (fun _ => ?_) (fun c5 => absurd c5 (by decide))
  refine r_iload_n Mm dL_asks_70 rfl ?_
  refine r_iconst (v := nI 5) Mm dL_asks_71 (by decide) ?_
  refine r_icmp_ne (tgt := 84) Mm dL_asks_72 (by decide) (fun _ => ?_) (fun c6 => absurd c6 (by decide))
  refine r_iload_n Mm dL_asks_84 rfl ?_
  refine r_bipush (v := nI 6) Mm dL_asks_85 (by decide) ?_
  refine r_icmp_ne (tgt := 101) Mm dL_asks_87 (by decide) (fun _ => ?_) (fun c7 => absurd c7 (by decide))
  refine r_iload_n Mm dL_asks_101 rfl ?_
  refine r_bipush (v := nI 7) Mm dL_asks_102 (by decide) ?_
  refine r_icmp_ne (tgt := 118) Mm dL_asks_104 (by decide) (fun _ => ?_) (fun c8 => absurd c8 (by decide))
  refine r_aload_n Mm dL_asks_118 rfl ?_
  refine r_iload_n Mm dL_asks_119 rfl ?_
  refine r_iload_n Mm dL_asks_120 rfl ?_
  refine r_iload Mm dL_asks_121 rfl ?_
  refine r_iload Mm dL_asks_123 rfl ?_
  refine r_callV (As := [(.int a), (.int b), (.int c), (.int e)]) Mm dL_asks_125 rfl (cd_bent hfl md hw a b c e) (md.ox) rfl cw_L_36 ⟨Nat.le_of_ble_eq_true rfl, Nat.le_of_ble_eq_true rfl, Nat.le_of_ble_eq_true rfl⟩ (Nat.le_of_ble_eq_true rfl) ⟨Nat.le_of_ble_eq_true rfl, Nat.le_of_ble_eq_true rfl⟩ (fun r1 h1 p1 => ?_) (fun E1 h1 p1 => x_out M p1)
  rcases p1 with ⟨E0, -, e2, -⟩ | ⟨v, σ1, e1, e2, md1⟩
  · cases e2
  · cases e2
    show V 128 [some (.ref x), some (.int (nI 8)), some (.int a), some (.int b), some (.int c), some (.int e)] [.int v] h1 _ _
    refine r_iret M dL_asks_128 ?_
    exact Or.inr ⟨v, σ1, e1, rfl, md1⟩
set_option maxRecDepth 100000 in
set_option maxHeartbeats 4000000 in
theorem ct_on_cut {g : Gl} {l : Launch} (hfl : l.stackTraces = false) {h : Hp} {x : Nat} {ad : Nat → Nat} {A : Nat → Nat → Int32} {σ : ST} (md : Mid g h x ad A σ) (hw : WF σ) (a b c e : Int32) (hE : oCt (o_cut σ a b)) : CTW g l iL_on [(0, 11, 12, 46), (0, 11, 17, 49), (0, 11, 22, 52)] 11 [.ref x, .int (nI 0), .int a, .int b, .int c, .int e] h 1 6 (pRel (fun r h' => r = some (.int (onV (o_cut σ a b))) ∧ Mid g h' x ad A (onS σ (o_cut σ a b)))) := by
  refine ctw_mk hfl (by decide) (Nat.le_of_ble_eq_true rfl) (by intro v hv; simp only [List.mem_cons, List.not_mem_nil, or_false] at hv; rcases hv with rfl | rfl | rfl | rfl | rfl | rfl <;> rfl) (fun V X M => ?_)
  have Mm := M.m
  show V 0 [some (.ref x), some (.int (nI 0)), some (.int a), some (.int b), some (.int c), some (.int e), none] [] _ 0 0
  refine r_aload_n Mm dL_on_0 rfl ?_
  refine r_iload_n Mm dL_on_1 rfl ?_
  refine r_iload_n Mm dL_on_2 rfl ?_
  refine r_iload_n Mm dL_on_3 rfl ?_
  refine r_iload Mm dL_on_4 rfl ?_
  refine r_iload Mm dL_on_6 rfl ?_
  refine r_callS (As := [(.ref x), (.int (nI 0)), (.int a), (.int b), (.int c), (.int e)]) Mm dL_on_8 rfl (ct_asks_cut hfl md hw a b c e) cw_L_40 ⟨Nat.le_of_ble_eq_true rfl, Nat.le_of_ble_eq_true rfl, Nat.le_of_ble_eq_true rfl⟩ (Nat.le_of_ble_eq_true rfl) ⟨Nat.le_of_ble_eq_true rfl, Nat.le_of_ble_eq_true rfl⟩ (fun r1 h1 p1 => ?_) (fun E1 h1 p1 => ?_)
  · rcases p1 with ⟨E0, -, e2, -⟩ | ⟨v, σ1, e1, e2, md1⟩
    · cases e2
    · cases e2
      show V 11 [some (.ref x), some (.int (nI 0)), some (.int a), some (.int b), some (.int c), some (.int e), none] [.int v] h1 _ _
      refine r_iret M dL_on_11 ?_
      exact ⟨by rw [e1]; rfl, by rw [e1]; exact md1⟩
  · rcases p1 with ⟨E0, e1, e2, md1⟩ | ⟨v, σ1, -, e2, -⟩
    · cases e2
      rcases hE _ e1 with rfl | rfl | rfl
      · refine x_catch (name := "java/lang/IndexOutOfBoundsException") Mm [] ⟨0, 11, 12, 46⟩ (tableOf [(0, 11, 17, 49), (0, 11, 22, 52)]) rfl (fun z hz => absurd hz List.not_mem_nil) rfl (by decide) (TB_at 476 (by decide +kernel) rfl) (NW_at 318 (by decide +kernel) rfl) (fun rq => ?_)
        show V 12 [some (.ref x), some (.int (nI 0)), some (.int a), some (.int b), some (.int c), some (.int e), none] [.ref rq] h1 _ _
        refine r_astore Mm dL_on_12 (by decide) ?_
        show V 14 [some (.ref x), some (.int (nI 0)), some (.int a), some (.int b), some (.int c), some (.int e), some (.ref rq)] _ _ _ _
        refine r_ldc (v := -2000011) Mm dL_on_14 cc_L_48 ?_
        refine r_iret M dL_on_16 ?_
        exact ⟨by rw [e1, onV_ioo], by rw [e1]; exact md1⟩
      · refine x_catch (name := "java/lang/IllegalStateException") Mm (tableOf [(0, 11, 12, 46)]) ⟨0, 11, 17, 49⟩ (tableOf [(0, 11, 22, 52)]) rfl (by intro z hz; simp only [tableOf, List.map_cons, List.map_nil, List.mem_cons, List.not_mem_nil, or_false] at hz; subst hz; exact ⟨by decide, "java/lang/IndexOutOfBoundsException", TB_at 476 (by decide +kernel) rfl, by decide +kernel⟩) rfl (by decide) (TB_at 477 (by decide +kernel) rfl) (NW_at 177 (by decide +kernel) rfl) (fun rq => ?_)
        show V 17 [some (.ref x), some (.int (nI 0)), some (.int a), some (.int b), some (.int c), some (.int e), none] [.ref rq] h1 _ _
        refine r_astore Mm dL_on_17 (by decide) ?_
        show V 19 [some (.ref x), some (.int (nI 0)), some (.int a), some (.int b), some (.int c), some (.int e), some (.ref rq)] _ _ _ _
        refine r_ldc (v := -2000013) Mm dL_on_19 cc_L_51 ?_
        refine r_iret M dL_on_21 ?_
        exact ⟨by rw [e1, onV_ise], by rw [e1]; exact md1⟩
      · refine x_catch (name := "java/util/NoSuchElementException") Mm (tableOf [(0, 11, 12, 46), (0, 11, 17, 49)]) ⟨0, 11, 22, 52⟩ [] rfl (by intro z hz; simp only [tableOf, List.map_cons, List.map_nil, List.mem_cons, List.not_mem_nil, or_false] at hz; rcases hz with rfl | rfl <;> first | exact ⟨by decide, "java/lang/IndexOutOfBoundsException", TB_at 476 (by decide +kernel) rfl, by decide +kernel⟩ | exact ⟨by decide, "java/lang/IllegalStateException", TB_at 477 (by decide +kernel) rfl, by decide +kernel⟩) rfl (by decide) (TB_at 478 (by decide +kernel) rfl) (NW_at 492 (by decide +kernel) rfl) (fun rq => ?_)
        show V 22 [some (.ref x), some (.int (nI 0)), some (.int a), some (.int b), some (.int c), some (.int e), none] [.ref rq] h1 _ _
        refine r_astore Mm dL_on_22 (by decide) ?_
        show V 24 [some (.ref x), some (.int (nI 0)), some (.int a), some (.int b), some (.int c), some (.int e), some (.ref rq)] _ _ _ _
        refine r_ldc (v := -2000014) Mm dL_on_24 cc_L_54 ?_
        refine r_iret M dL_on_26 ?_
        exact ⟨by rw [e1, onV_nse], by rw [e1]; exact md1⟩
    · cases e2
set_option maxRecDepth 100000 in
set_option maxHeartbeats 4000000 in
theorem ct_on_cast {g : Gl} {l : Launch} (hfl : l.stackTraces = false) {h : Hp} {x : Nat} {ad : Nat → Nat} {A : Nat → Nat → Int32} {σ : ST} (md : Mid g h x ad A σ) (hw : WF σ) (a b c e : Int32) (hE : oCt (o_cast σ a b)) : CTW g l iL_on [(0, 11, 12, 46), (0, 11, 17, 49), (0, 11, 22, 52)] 11 [.ref x, .int (nI 1), .int a, .int b, .int c, .int e] h 1 6 (pRel (fun r h' => r = some (.int (onV (o_cast σ a b))) ∧ Mid g h' x ad A (onS σ (o_cast σ a b)))) := by
  refine ctw_mk hfl (by decide) (Nat.le_of_ble_eq_true rfl) (by intro v hv; simp only [List.mem_cons, List.not_mem_nil, or_false] at hv; rcases hv with rfl | rfl | rfl | rfl | rfl | rfl <;> rfl) (fun V X M => ?_)
  have Mm := M.m
  show V 0 [some (.ref x), some (.int (nI 1)), some (.int a), some (.int b), some (.int c), some (.int e), none] [] _ 0 0
  refine r_aload_n Mm dL_on_0 rfl ?_
  refine r_iload_n Mm dL_on_1 rfl ?_
  refine r_iload_n Mm dL_on_2 rfl ?_
  refine r_iload_n Mm dL_on_3 rfl ?_
  refine r_iload Mm dL_on_4 rfl ?_
  refine r_iload Mm dL_on_6 rfl ?_
  refine r_callS (As := [(.ref x), (.int (nI 1)), (.int a), (.int b), (.int c), (.int e)]) Mm dL_on_8 rfl (ct_asks_cast hfl md hw a b c e) cw_L_40 ⟨Nat.le_of_ble_eq_true rfl, Nat.le_of_ble_eq_true rfl, Nat.le_of_ble_eq_true rfl⟩ (Nat.le_of_ble_eq_true rfl) ⟨Nat.le_of_ble_eq_true rfl, Nat.le_of_ble_eq_true rfl⟩ (fun r1 h1 p1 => ?_) (fun E1 h1 p1 => ?_)
  · rcases p1 with ⟨E0, -, e2, -⟩ | ⟨v, σ1, e1, e2, md1⟩
    · cases e2
    · cases e2
      show V 11 [some (.ref x), some (.int (nI 1)), some (.int a), some (.int b), some (.int c), some (.int e), none] [.int v] h1 _ _
      refine r_iret M dL_on_11 ?_
      exact ⟨by rw [e1]; rfl, by rw [e1]; exact md1⟩
  · rcases p1 with ⟨E0, e1, e2, md1⟩ | ⟨v, σ1, -, e2, -⟩
    · cases e2
      rcases hE _ e1 with rfl | rfl | rfl
      · refine x_catch (name := "java/lang/IndexOutOfBoundsException") Mm [] ⟨0, 11, 12, 46⟩ (tableOf [(0, 11, 17, 49), (0, 11, 22, 52)]) rfl (fun z hz => absurd hz List.not_mem_nil) rfl (by decide) (TB_at 476 (by decide +kernel) rfl) (NW_at 318 (by decide +kernel) rfl) (fun rq => ?_)
        show V 12 [some (.ref x), some (.int (nI 1)), some (.int a), some (.int b), some (.int c), some (.int e), none] [.ref rq] h1 _ _
        refine r_astore Mm dL_on_12 (by decide) ?_
        show V 14 [some (.ref x), some (.int (nI 1)), some (.int a), some (.int b), some (.int c), some (.int e), some (.ref rq)] _ _ _ _
        refine r_ldc (v := -2000011) Mm dL_on_14 cc_L_48 ?_
        refine r_iret M dL_on_16 ?_
        exact ⟨by rw [e1, onV_ioo], by rw [e1]; exact md1⟩
      · refine x_catch (name := "java/lang/IllegalStateException") Mm (tableOf [(0, 11, 12, 46)]) ⟨0, 11, 17, 49⟩ (tableOf [(0, 11, 22, 52)]) rfl (by intro z hz; simp only [tableOf, List.map_cons, List.map_nil, List.mem_cons, List.not_mem_nil, or_false] at hz; subst hz; exact ⟨by decide, "java/lang/IndexOutOfBoundsException", TB_at 476 (by decide +kernel) rfl, by decide +kernel⟩) rfl (by decide) (TB_at 477 (by decide +kernel) rfl) (NW_at 177 (by decide +kernel) rfl) (fun rq => ?_)
        show V 17 [some (.ref x), some (.int (nI 1)), some (.int a), some (.int b), some (.int c), some (.int e), none] [.ref rq] h1 _ _
        refine r_astore Mm dL_on_17 (by decide) ?_
        show V 19 [some (.ref x), some (.int (nI 1)), some (.int a), some (.int b), some (.int c), some (.int e), some (.ref rq)] _ _ _ _
        refine r_ldc (v := -2000013) Mm dL_on_19 cc_L_51 ?_
        refine r_iret M dL_on_21 ?_
        exact ⟨by rw [e1, onV_ise], by rw [e1]; exact md1⟩
      · refine x_catch (name := "java/util/NoSuchElementException") Mm (tableOf [(0, 11, 12, 46), (0, 11, 17, 49)]) ⟨0, 11, 22, 52⟩ [] rfl (by intro z hz; simp only [tableOf, List.map_cons, List.map_nil, List.mem_cons, List.not_mem_nil, or_false] at hz; rcases hz with rfl | rfl <;> first | exact ⟨by decide, "java/lang/IndexOutOfBoundsException", TB_at 476 (by decide +kernel) rfl, by decide +kernel⟩ | exact ⟨by decide, "java/lang/IllegalStateException", TB_at 477 (by decide +kernel) rfl, by decide +kernel⟩) rfl (by decide) (TB_at 478 (by decide +kernel) rfl) (NW_at 492 (by decide +kernel) rfl) (fun rq => ?_)
        show V 22 [some (.ref x), some (.int (nI 1)), some (.int a), some (.int b), some (.int c), some (.int e), none] [.ref rq] h1 _ _
        refine r_astore Mm dL_on_22 (by decide) ?_
        show V 24 [some (.ref x), some (.int (nI 1)), some (.int a), some (.int b), some (.int c), some (.int e), some (.ref rq)] _ _ _ _
        refine r_ldc (v := -2000014) Mm dL_on_24 cc_L_54 ?_
        refine r_iret M dL_on_26 ?_
        exact ⟨by rw [e1, onV_nse], by rw [e1]; exact md1⟩
    · cases e2
set_option maxRecDepth 100000 in
set_option maxHeartbeats 4000000 in
theorem ct_on_leave {g : Gl} {l : Launch} (hfl : l.stackTraces = false) {h : Hp} {x : Nat} {ad : Nat → Nat} {A : Nat → Nat → Int32} {σ : ST} (md : Mid g h x ad A σ) (hw : WF σ) (a b c e : Int32) (hE : oCt (o_leave σ a b)) : CTW g l iL_on [(0, 11, 12, 46), (0, 11, 17, 49), (0, 11, 22, 52)] 11 [.ref x, .int (nI 2), .int a, .int b, .int c, .int e] h 1 6 (pRel (fun r h' => r = some (.int (onV (o_leave σ a b))) ∧ Mid g h' x ad A (onS σ (o_leave σ a b)))) := by
  refine ctw_mk hfl (by decide) (Nat.le_of_ble_eq_true rfl) (by intro v hv; simp only [List.mem_cons, List.not_mem_nil, or_false] at hv; rcases hv with rfl | rfl | rfl | rfl | rfl | rfl <;> rfl) (fun V X M => ?_)
  have Mm := M.m
  show V 0 [some (.ref x), some (.int (nI 2)), some (.int a), some (.int b), some (.int c), some (.int e), none] [] _ 0 0
  refine r_aload_n Mm dL_on_0 rfl ?_
  refine r_iload_n Mm dL_on_1 rfl ?_
  refine r_iload_n Mm dL_on_2 rfl ?_
  refine r_iload_n Mm dL_on_3 rfl ?_
  refine r_iload Mm dL_on_4 rfl ?_
  refine r_iload Mm dL_on_6 rfl ?_
  refine r_callS (As := [(.ref x), (.int (nI 2)), (.int a), (.int b), (.int c), (.int e)]) Mm dL_on_8 rfl (ct_asks_leave hfl md hw a b c e) cw_L_40 ⟨Nat.le_of_ble_eq_true rfl, Nat.le_of_ble_eq_true rfl, Nat.le_of_ble_eq_true rfl⟩ (Nat.le_of_ble_eq_true rfl) ⟨Nat.le_of_ble_eq_true rfl, Nat.le_of_ble_eq_true rfl⟩ (fun r1 h1 p1 => ?_) (fun E1 h1 p1 => ?_)
  · rcases p1 with ⟨E0, -, e2, -⟩ | ⟨v, σ1, e1, e2, md1⟩
    · cases e2
    · cases e2
      show V 11 [some (.ref x), some (.int (nI 2)), some (.int a), some (.int b), some (.int c), some (.int e), none] [.int v] h1 _ _
      refine r_iret M dL_on_11 ?_
      exact ⟨by rw [e1]; rfl, by rw [e1]; exact md1⟩
  · rcases p1 with ⟨E0, e1, e2, md1⟩ | ⟨v, σ1, -, e2, -⟩
    · cases e2
      rcases hE _ e1 with rfl | rfl | rfl
      · refine x_catch (name := "java/lang/IndexOutOfBoundsException") Mm [] ⟨0, 11, 12, 46⟩ (tableOf [(0, 11, 17, 49), (0, 11, 22, 52)]) rfl (fun z hz => absurd hz List.not_mem_nil) rfl (by decide) (TB_at 476 (by decide +kernel) rfl) (NW_at 318 (by decide +kernel) rfl) (fun rq => ?_)
        show V 12 [some (.ref x), some (.int (nI 2)), some (.int a), some (.int b), some (.int c), some (.int e), none] [.ref rq] h1 _ _
        refine r_astore Mm dL_on_12 (by decide) ?_
        show V 14 [some (.ref x), some (.int (nI 2)), some (.int a), some (.int b), some (.int c), some (.int e), some (.ref rq)] _ _ _ _
        refine r_ldc (v := -2000011) Mm dL_on_14 cc_L_48 ?_
        refine r_iret M dL_on_16 ?_
        exact ⟨by rw [e1, onV_ioo], by rw [e1]; exact md1⟩
      · refine x_catch (name := "java/lang/IllegalStateException") Mm (tableOf [(0, 11, 12, 46)]) ⟨0, 11, 17, 49⟩ (tableOf [(0, 11, 22, 52)]) rfl (by intro z hz; simp only [tableOf, List.map_cons, List.map_nil, List.mem_cons, List.not_mem_nil, or_false] at hz; subst hz; exact ⟨by decide, "java/lang/IndexOutOfBoundsException", TB_at 476 (by decide +kernel) rfl, by decide +kernel⟩) rfl (by decide) (TB_at 477 (by decide +kernel) rfl) (NW_at 177 (by decide +kernel) rfl) (fun rq => ?_)
        show V 17 [some (.ref x), some (.int (nI 2)), some (.int a), some (.int b), some (.int c), some (.int e), none] [.ref rq] h1 _ _
        refine r_astore Mm dL_on_17 (by decide) ?_
        show V 19 [some (.ref x), some (.int (nI 2)), some (.int a), some (.int b), some (.int c), some (.int e), some (.ref rq)] _ _ _ _
        refine r_ldc (v := -2000013) Mm dL_on_19 cc_L_51 ?_
        refine r_iret M dL_on_21 ?_
        exact ⟨by rw [e1, onV_ise], by rw [e1]; exact md1⟩
      · refine x_catch (name := "java/util/NoSuchElementException") Mm (tableOf [(0, 11, 12, 46), (0, 11, 17, 49)]) ⟨0, 11, 22, 52⟩ [] rfl (by intro z hz; simp only [tableOf, List.map_cons, List.map_nil, List.mem_cons, List.not_mem_nil, or_false] at hz; rcases hz with rfl | rfl <;> first | exact ⟨by decide, "java/lang/IndexOutOfBoundsException", TB_at 476 (by decide +kernel) rfl, by decide +kernel⟩ | exact ⟨by decide, "java/lang/IllegalStateException", TB_at 477 (by decide +kernel) rfl, by decide +kernel⟩) rfl (by decide) (TB_at 478 (by decide +kernel) rfl) (NW_at 492 (by decide +kernel) rfl) (fun rq => ?_)
        show V 22 [some (.ref x), some (.int (nI 2)), some (.int a), some (.int b), some (.int c), some (.int e), none] [.ref rq] h1 _ _
        refine r_astore Mm dL_on_22 (by decide) ?_
        show V 24 [some (.ref x), some (.int (nI 2)), some (.int a), some (.int b), some (.int c), some (.int e), some (.ref rq)] _ _ _ _
        refine r_ldc (v := -2000014) Mm dL_on_24 cc_L_54 ?_
        refine r_iret M dL_on_26 ?_
        exact ⟨by rw [e1, onV_nse], by rw [e1]; exact md1⟩
    · cases e2
set_option maxRecDepth 100000 in
set_option maxHeartbeats 4000000 in
theorem ct_on_sell {g : Gl} {l : Launch} (hfl : l.stackTraces = false) {h : Hp} {x : Nat} {ad : Nat → Nat} {A : Nat → Nat → Int32} {σ : ST} (md : Mid g h x ad A σ) (hw : WF σ) (a b c e : Int32) (hE : oCt (o_sell σ a b c)) : CTW g l iL_on [(0, 11, 12, 46), (0, 11, 17, 49), (0, 11, 22, 52)] 11 [.ref x, .int (nI 3), .int a, .int b, .int c, .int e] h 1 6 (pRel (fun r h' => r = some (.int (onV (o_sell σ a b c))) ∧ Mid g h' x ad A (onS σ (o_sell σ a b c)))) := by
  refine ctw_mk hfl (by decide) (Nat.le_of_ble_eq_true rfl) (by intro v hv; simp only [List.mem_cons, List.not_mem_nil, or_false] at hv; rcases hv with rfl | rfl | rfl | rfl | rfl | rfl <;> rfl) (fun V X M => ?_)
  have Mm := M.m
  show V 0 [some (.ref x), some (.int (nI 3)), some (.int a), some (.int b), some (.int c), some (.int e), none] [] _ 0 0
  refine r_aload_n Mm dL_on_0 rfl ?_
  refine r_iload_n Mm dL_on_1 rfl ?_
  refine r_iload_n Mm dL_on_2 rfl ?_
  refine r_iload_n Mm dL_on_3 rfl ?_
  refine r_iload Mm dL_on_4 rfl ?_
  refine r_iload Mm dL_on_6 rfl ?_
  refine r_callS (As := [(.ref x), (.int (nI 3)), (.int a), (.int b), (.int c), (.int e)]) Mm dL_on_8 rfl (ct_asks_sell hfl md hw a b c e) cw_L_40 ⟨Nat.le_of_ble_eq_true rfl, Nat.le_of_ble_eq_true rfl, Nat.le_of_ble_eq_true rfl⟩ (Nat.le_of_ble_eq_true rfl) ⟨Nat.le_of_ble_eq_true rfl, Nat.le_of_ble_eq_true rfl⟩ (fun r1 h1 p1 => ?_) (fun E1 h1 p1 => ?_)
  · rcases p1 with ⟨E0, -, e2, -⟩ | ⟨v, σ1, e1, e2, md1⟩
    · cases e2
    · cases e2
      show V 11 [some (.ref x), some (.int (nI 3)), some (.int a), some (.int b), some (.int c), some (.int e), none] [.int v] h1 _ _
      refine r_iret M dL_on_11 ?_
      exact ⟨by rw [e1]; rfl, by rw [e1]; exact md1⟩
  · rcases p1 with ⟨E0, e1, e2, md1⟩ | ⟨v, σ1, -, e2, -⟩
    · cases e2
      rcases hE _ e1 with rfl | rfl | rfl
      · refine x_catch (name := "java/lang/IndexOutOfBoundsException") Mm [] ⟨0, 11, 12, 46⟩ (tableOf [(0, 11, 17, 49), (0, 11, 22, 52)]) rfl (fun z hz => absurd hz List.not_mem_nil) rfl (by decide) (TB_at 476 (by decide +kernel) rfl) (NW_at 318 (by decide +kernel) rfl) (fun rq => ?_)
        show V 12 [some (.ref x), some (.int (nI 3)), some (.int a), some (.int b), some (.int c), some (.int e), none] [.ref rq] h1 _ _
        refine r_astore Mm dL_on_12 (by decide) ?_
        show V 14 [some (.ref x), some (.int (nI 3)), some (.int a), some (.int b), some (.int c), some (.int e), some (.ref rq)] _ _ _ _
        refine r_ldc (v := -2000011) Mm dL_on_14 cc_L_48 ?_
        refine r_iret M dL_on_16 ?_
        exact ⟨by rw [e1, onV_ioo], by rw [e1]; exact md1⟩
      · refine x_catch (name := "java/lang/IllegalStateException") Mm (tableOf [(0, 11, 12, 46)]) ⟨0, 11, 17, 49⟩ (tableOf [(0, 11, 22, 52)]) rfl (by intro z hz; simp only [tableOf, List.map_cons, List.map_nil, List.mem_cons, List.not_mem_nil, or_false] at hz; subst hz; exact ⟨by decide, "java/lang/IndexOutOfBoundsException", TB_at 476 (by decide +kernel) rfl, by decide +kernel⟩) rfl (by decide) (TB_at 477 (by decide +kernel) rfl) (NW_at 177 (by decide +kernel) rfl) (fun rq => ?_)
        show V 17 [some (.ref x), some (.int (nI 3)), some (.int a), some (.int b), some (.int c), some (.int e), none] [.ref rq] h1 _ _
        refine r_astore Mm dL_on_17 (by decide) ?_
        show V 19 [some (.ref x), some (.int (nI 3)), some (.int a), some (.int b), some (.int c), some (.int e), some (.ref rq)] _ _ _ _
        refine r_ldc (v := -2000013) Mm dL_on_19 cc_L_51 ?_
        refine r_iret M dL_on_21 ?_
        exact ⟨by rw [e1, onV_ise], by rw [e1]; exact md1⟩
      · refine x_catch (name := "java/util/NoSuchElementException") Mm (tableOf [(0, 11, 12, 46), (0, 11, 17, 49)]) ⟨0, 11, 22, 52⟩ [] rfl (by intro z hz; simp only [tableOf, List.map_cons, List.map_nil, List.mem_cons, List.not_mem_nil, or_false] at hz; rcases hz with rfl | rfl <;> first | exact ⟨by decide, "java/lang/IndexOutOfBoundsException", TB_at 476 (by decide +kernel) rfl, by decide +kernel⟩ | exact ⟨by decide, "java/lang/IllegalStateException", TB_at 477 (by decide +kernel) rfl, by decide +kernel⟩) rfl (by decide) (TB_at 478 (by decide +kernel) rfl) (NW_at 492 (by decide +kernel) rfl) (fun rq => ?_)
        show V 22 [some (.ref x), some (.int (nI 3)), some (.int a), some (.int b), some (.int c), some (.int e), none] [.ref rq] h1 _ _
        refine r_astore Mm dL_on_22 (by decide) ?_
        show V 24 [some (.ref x), some (.int (nI 3)), some (.int a), some (.int b), some (.int c), some (.int e), some (.ref rq)] _ _ _ _
        refine r_ldc (v := -2000014) Mm dL_on_24 cc_L_54 ?_
        refine r_iret M dL_on_26 ?_
        exact ⟨by rw [e1, onV_nse], by rw [e1]; exact md1⟩
    · cases e2
set_option maxRecDepth 100000 in
set_option maxHeartbeats 4000000 in
theorem ct_on_perform {g : Gl} {l : Launch} (hfl : l.stackTraces = false) {h : Hp} {x : Nat} {ad : Nat → Nat} {A : Nat → Nat → Int32} {σ : ST} (md : Mid g h x ad A σ) (hw : WF σ) (a b c e : Int32) (hE : oCt (o_perform σ a)) : CTW g l iL_on [(0, 11, 12, 46), (0, 11, 17, 49), (0, 11, 22, 52)] 11 [.ref x, .int (nI 4), .int a, .int b, .int c, .int e] h 1 6 (pRel (fun r h' => r = some (.int (onV (o_perform σ a))) ∧ Mid g h' x ad A (onS σ (o_perform σ a)))) := by
  refine ctw_mk hfl (by decide) (Nat.le_of_ble_eq_true rfl) (by intro v hv; simp only [List.mem_cons, List.not_mem_nil, or_false] at hv; rcases hv with rfl | rfl | rfl | rfl | rfl | rfl <;> rfl) (fun V X M => ?_)
  have Mm := M.m
  show V 0 [some (.ref x), some (.int (nI 4)), some (.int a), some (.int b), some (.int c), some (.int e), none] [] _ 0 0
  refine r_aload_n Mm dL_on_0 rfl ?_
  refine r_iload_n Mm dL_on_1 rfl ?_
  refine r_iload_n Mm dL_on_2 rfl ?_
  refine r_iload_n Mm dL_on_3 rfl ?_
  refine r_iload Mm dL_on_4 rfl ?_
  refine r_iload Mm dL_on_6 rfl ?_
  refine r_callS (As := [(.ref x), (.int (nI 4)), (.int a), (.int b), (.int c), (.int e)]) Mm dL_on_8 rfl (ct_asks_perform hfl md hw a b c e) cw_L_40 ⟨Nat.le_of_ble_eq_true rfl, Nat.le_of_ble_eq_true rfl, Nat.le_of_ble_eq_true rfl⟩ (Nat.le_of_ble_eq_true rfl) ⟨Nat.le_of_ble_eq_true rfl, Nat.le_of_ble_eq_true rfl⟩ (fun r1 h1 p1 => ?_) (fun E1 h1 p1 => ?_)
  · rcases p1 with ⟨E0, -, e2, -⟩ | ⟨v, σ1, e1, e2, md1⟩
    · cases e2
    · cases e2
      show V 11 [some (.ref x), some (.int (nI 4)), some (.int a), some (.int b), some (.int c), some (.int e), none] [.int v] h1 _ _
      refine r_iret M dL_on_11 ?_
      exact ⟨by rw [e1]; rfl, by rw [e1]; exact md1⟩
  · rcases p1 with ⟨E0, e1, e2, md1⟩ | ⟨v, σ1, -, e2, -⟩
    · cases e2
      rcases hE _ e1 with rfl | rfl | rfl
      · refine x_catch (name := "java/lang/IndexOutOfBoundsException") Mm [] ⟨0, 11, 12, 46⟩ (tableOf [(0, 11, 17, 49), (0, 11, 22, 52)]) rfl (fun z hz => absurd hz List.not_mem_nil) rfl (by decide) (TB_at 476 (by decide +kernel) rfl) (NW_at 318 (by decide +kernel) rfl) (fun rq => ?_)
        show V 12 [some (.ref x), some (.int (nI 4)), some (.int a), some (.int b), some (.int c), some (.int e), none] [.ref rq] h1 _ _
        refine r_astore Mm dL_on_12 (by decide) ?_
        show V 14 [some (.ref x), some (.int (nI 4)), some (.int a), some (.int b), some (.int c), some (.int e), some (.ref rq)] _ _ _ _
        refine r_ldc (v := -2000011) Mm dL_on_14 cc_L_48 ?_
        refine r_iret M dL_on_16 ?_
        exact ⟨by rw [e1, onV_ioo], by rw [e1]; exact md1⟩
      · refine x_catch (name := "java/lang/IllegalStateException") Mm (tableOf [(0, 11, 12, 46)]) ⟨0, 11, 17, 49⟩ (tableOf [(0, 11, 22, 52)]) rfl (by intro z hz; simp only [tableOf, List.map_cons, List.map_nil, List.mem_cons, List.not_mem_nil, or_false] at hz; subst hz; exact ⟨by decide, "java/lang/IndexOutOfBoundsException", TB_at 476 (by decide +kernel) rfl, by decide +kernel⟩) rfl (by decide) (TB_at 477 (by decide +kernel) rfl) (NW_at 177 (by decide +kernel) rfl) (fun rq => ?_)
        show V 17 [some (.ref x), some (.int (nI 4)), some (.int a), some (.int b), some (.int c), some (.int e), none] [.ref rq] h1 _ _
        refine r_astore Mm dL_on_17 (by decide) ?_
        show V 19 [some (.ref x), some (.int (nI 4)), some (.int a), some (.int b), some (.int c), some (.int e), some (.ref rq)] _ _ _ _
        refine r_ldc (v := -2000013) Mm dL_on_19 cc_L_51 ?_
        refine r_iret M dL_on_21 ?_
        exact ⟨by rw [e1, onV_ise], by rw [e1]; exact md1⟩
      · refine x_catch (name := "java/util/NoSuchElementException") Mm (tableOf [(0, 11, 12, 46), (0, 11, 17, 49)]) ⟨0, 11, 22, 52⟩ [] rfl (by intro z hz; simp only [tableOf, List.map_cons, List.map_nil, List.mem_cons, List.not_mem_nil, or_false] at hz; rcases hz with rfl | rfl <;> first | exact ⟨by decide, "java/lang/IndexOutOfBoundsException", TB_at 476 (by decide +kernel) rfl, by decide +kernel⟩ | exact ⟨by decide, "java/lang/IllegalStateException", TB_at 477 (by decide +kernel) rfl, by decide +kernel⟩) rfl (by decide) (TB_at 478 (by decide +kernel) rfl) (NW_at 492 (by decide +kernel) rfl) (fun rq => ?_)
        show V 22 [some (.ref x), some (.int (nI 4)), some (.int a), some (.int b), some (.int c), some (.int e), none] [.ref rq] h1 _ _
        refine r_astore Mm dL_on_22 (by decide) ?_
        show V 24 [some (.ref x), some (.int (nI 4)), some (.int a), some (.int b), some (.int c), some (.int e), some (.ref rq)] _ _ _ _
        refine r_ldc (v := -2000014) Mm dL_on_24 cc_L_54 ?_
        refine r_iret M dL_on_26 ?_
        exact ⟨by rw [e1, onV_nse], by rw [e1]; exact md1⟩
    · cases e2
set_option maxRecDepth 100000 in
set_option maxHeartbeats 4000000 in
theorem ct_on_mend {g : Gl} {l : Launch} (hfl : l.stackTraces = false) {h : Hp} {x : Nat} {ad : Nat → Nat} {A : Nat → Nat → Int32} {σ : ST} (md : Mid g h x ad A σ) (hw : WF σ) (a b c e : Int32) (hE : oCt (o_mend σ a b)) : CTW g l iL_on [(0, 11, 12, 46), (0, 11, 17, 49), (0, 11, 22, 52)] 11 [.ref x, .int (nI 5), .int a, .int b, .int c, .int e] h 4 1520 (pRel (fun r h' => r = some (.int (onV (o_mend σ a b))) ∧ Mid g h' x ad A (onS σ (o_mend σ a b)))) := by
  refine ctw_mk hfl (by decide) (Nat.le_of_ble_eq_true rfl) (by intro v hv; simp only [List.mem_cons, List.not_mem_nil, or_false] at hv; rcases hv with rfl | rfl | rfl | rfl | rfl | rfl <;> rfl) (fun V X M => ?_)
  have Mm := M.m
  show V 0 [some (.ref x), some (.int (nI 5)), some (.int a), some (.int b), some (.int c), some (.int e), none] [] _ 0 0
  refine r_aload_n Mm dL_on_0 rfl ?_
  refine r_iload_n Mm dL_on_1 rfl ?_
  refine r_iload_n Mm dL_on_2 rfl ?_
  refine r_iload_n Mm dL_on_3 rfl ?_
  refine r_iload Mm dL_on_4 rfl ?_
  refine r_iload Mm dL_on_6 rfl ?_
  refine r_callS (As := [(.ref x), (.int (nI 5)), (.int a), (.int b), (.int c), (.int e)]) Mm dL_on_8 rfl (ct_asks_mend hfl md hw a b c e) cw_L_40 ⟨Nat.le_of_ble_eq_true rfl, Nat.le_of_ble_eq_true rfl, Nat.le_of_ble_eq_true rfl⟩ (Nat.le_of_ble_eq_true rfl) ⟨Nat.le_of_ble_eq_true rfl, Nat.le_of_ble_eq_true rfl⟩ (fun r1 h1 p1 => ?_) (fun E1 h1 p1 => ?_)
  · rcases p1 with ⟨E0, -, e2, -⟩ | ⟨v, σ1, e1, e2, md1⟩
    · cases e2
    · cases e2
      show V 11 [some (.ref x), some (.int (nI 5)), some (.int a), some (.int b), some (.int c), some (.int e), none] [.int v] h1 _ _
      refine r_iret M dL_on_11 ?_
      exact ⟨by rw [e1]; rfl, by rw [e1]; exact md1⟩
  · rcases p1 with ⟨E0, e1, e2, md1⟩ | ⟨v, σ1, -, e2, -⟩
    · cases e2
      rcases hE _ e1 with rfl | rfl | rfl
      · refine x_catch (name := "java/lang/IndexOutOfBoundsException") Mm [] ⟨0, 11, 12, 46⟩ (tableOf [(0, 11, 17, 49), (0, 11, 22, 52)]) rfl (fun z hz => absurd hz List.not_mem_nil) rfl (by decide) (TB_at 476 (by decide +kernel) rfl) (NW_at 318 (by decide +kernel) rfl) (fun rq => ?_)
        show V 12 [some (.ref x), some (.int (nI 5)), some (.int a), some (.int b), some (.int c), some (.int e), none] [.ref rq] h1 _ _
        refine r_astore Mm dL_on_12 (by decide) ?_
        show V 14 [some (.ref x), some (.int (nI 5)), some (.int a), some (.int b), some (.int c), some (.int e), some (.ref rq)] _ _ _ _
        refine r_ldc (v := -2000011) Mm dL_on_14 cc_L_48 ?_
        refine r_iret M dL_on_16 ?_
        exact ⟨by rw [e1, onV_ioo], by rw [e1]; exact md1⟩
      · refine x_catch (name := "java/lang/IllegalStateException") Mm (tableOf [(0, 11, 12, 46)]) ⟨0, 11, 17, 49⟩ (tableOf [(0, 11, 22, 52)]) rfl (by intro z hz; simp only [tableOf, List.map_cons, List.map_nil, List.mem_cons, List.not_mem_nil, or_false] at hz; subst hz; exact ⟨by decide, "java/lang/IndexOutOfBoundsException", TB_at 476 (by decide +kernel) rfl, by decide +kernel⟩) rfl (by decide) (TB_at 477 (by decide +kernel) rfl) (NW_at 177 (by decide +kernel) rfl) (fun rq => ?_)
        show V 17 [some (.ref x), some (.int (nI 5)), some (.int a), some (.int b), some (.int c), some (.int e), none] [.ref rq] h1 _ _
        refine r_astore Mm dL_on_17 (by decide) ?_
        show V 19 [some (.ref x), some (.int (nI 5)), some (.int a), some (.int b), some (.int c), some (.int e), some (.ref rq)] _ _ _ _
        refine r_ldc (v := -2000013) Mm dL_on_19 cc_L_51 ?_
        refine r_iret M dL_on_21 ?_
        exact ⟨by rw [e1, onV_ise], by rw [e1]; exact md1⟩
      · refine x_catch (name := "java/util/NoSuchElementException") Mm (tableOf [(0, 11, 12, 46), (0, 11, 17, 49)]) ⟨0, 11, 22, 52⟩ [] rfl (by intro z hz; simp only [tableOf, List.map_cons, List.map_nil, List.mem_cons, List.not_mem_nil, or_false] at hz; rcases hz with rfl | rfl <;> first | exact ⟨by decide, "java/lang/IndexOutOfBoundsException", TB_at 476 (by decide +kernel) rfl, by decide +kernel⟩ | exact ⟨by decide, "java/lang/IllegalStateException", TB_at 477 (by decide +kernel) rfl, by decide +kernel⟩) rfl (by decide) (TB_at 478 (by decide +kernel) rfl) (NW_at 492 (by decide +kernel) rfl) (fun rq => ?_)
        show V 22 [some (.ref x), some (.int (nI 5)), some (.int a), some (.int b), some (.int c), some (.int e), none] [.ref rq] h1 _ _
        refine r_astore Mm dL_on_22 (by decide) ?_
        show V 24 [some (.ref x), some (.int (nI 5)), some (.int a), some (.int b), some (.int c), some (.int e), some (.ref rq)] _ _ _ _
        refine r_ldc (v := -2000014) Mm dL_on_24 cc_L_54 ?_
        refine r_iret M dL_on_26 ?_
        exact ⟨by rw [e1, onV_nse], by rw [e1]; exact md1⟩
    · cases e2
set_option maxRecDepth 100000 in
set_option maxHeartbeats 4000000 in
theorem ct_on_x {g : Gl} {l : Launch} (hfl : l.stackTraces = false) {h : Hp} {x : Nat} {ad : Nat → Nat} {A : Nat → Nat → Int32} {σ : ST} (md : Mid g h x ad A σ) (hw : WF σ) (a b c e : Int32) (hE : oCt (o_x σ a b c)) : CTW g l iL_on [(0, 11, 12, 46), (0, 11, 17, 49), (0, 11, 22, 52)] 11 [.ref x, .int (nI 6), .int a, .int b, .int c, .int e] h 1 6 (pRel (fun r h' => r = some (.int (onV (o_x σ a b c))) ∧ Mid g h' x ad A (onS σ (o_x σ a b c)))) := by
  refine ctw_mk hfl (by decide) (Nat.le_of_ble_eq_true rfl) (by intro v hv; simp only [List.mem_cons, List.not_mem_nil, or_false] at hv; rcases hv with rfl | rfl | rfl | rfl | rfl | rfl <;> rfl) (fun V X M => ?_)
  have Mm := M.m
  show V 0 [some (.ref x), some (.int (nI 6)), some (.int a), some (.int b), some (.int c), some (.int e), none] [] _ 0 0
  refine r_aload_n Mm dL_on_0 rfl ?_
  refine r_iload_n Mm dL_on_1 rfl ?_
  refine r_iload_n Mm dL_on_2 rfl ?_
  refine r_iload_n Mm dL_on_3 rfl ?_
  refine r_iload Mm dL_on_4 rfl ?_
  refine r_iload Mm dL_on_6 rfl ?_
  refine r_callS (As := [(.ref x), (.int (nI 6)), (.int a), (.int b), (.int c), (.int e)]) Mm dL_on_8 rfl (ct_asks_x hfl md hw a b c e) cw_L_40 ⟨Nat.le_of_ble_eq_true rfl, Nat.le_of_ble_eq_true rfl, Nat.le_of_ble_eq_true rfl⟩ (Nat.le_of_ble_eq_true rfl) ⟨Nat.le_of_ble_eq_true rfl, Nat.le_of_ble_eq_true rfl⟩ (fun r1 h1 p1 => ?_) (fun E1 h1 p1 => ?_)
  · rcases p1 with ⟨E0, -, e2, -⟩ | ⟨v, σ1, e1, e2, md1⟩
    · cases e2
    · cases e2
      show V 11 [some (.ref x), some (.int (nI 6)), some (.int a), some (.int b), some (.int c), some (.int e), none] [.int v] h1 _ _
      refine r_iret M dL_on_11 ?_
      exact ⟨by rw [e1]; rfl, by rw [e1]; exact md1⟩
  · rcases p1 with ⟨E0, e1, e2, md1⟩ | ⟨v, σ1, -, e2, -⟩
    · cases e2
      rcases hE _ e1 with rfl | rfl | rfl
      · refine x_catch (name := "java/lang/IndexOutOfBoundsException") Mm [] ⟨0, 11, 12, 46⟩ (tableOf [(0, 11, 17, 49), (0, 11, 22, 52)]) rfl (fun z hz => absurd hz List.not_mem_nil) rfl (by decide) (TB_at 476 (by decide +kernel) rfl) (NW_at 318 (by decide +kernel) rfl) (fun rq => ?_)
        show V 12 [some (.ref x), some (.int (nI 6)), some (.int a), some (.int b), some (.int c), some (.int e), none] [.ref rq] h1 _ _
        refine r_astore Mm dL_on_12 (by decide) ?_
        show V 14 [some (.ref x), some (.int (nI 6)), some (.int a), some (.int b), some (.int c), some (.int e), some (.ref rq)] _ _ _ _
        refine r_ldc (v := -2000011) Mm dL_on_14 cc_L_48 ?_
        refine r_iret M dL_on_16 ?_
        exact ⟨by rw [e1, onV_ioo], by rw [e1]; exact md1⟩
      · refine x_catch (name := "java/lang/IllegalStateException") Mm (tableOf [(0, 11, 12, 46)]) ⟨0, 11, 17, 49⟩ (tableOf [(0, 11, 22, 52)]) rfl (by intro z hz; simp only [tableOf, List.map_cons, List.map_nil, List.mem_cons, List.not_mem_nil, or_false] at hz; subst hz; exact ⟨by decide, "java/lang/IndexOutOfBoundsException", TB_at 476 (by decide +kernel) rfl, by decide +kernel⟩) rfl (by decide) (TB_at 477 (by decide +kernel) rfl) (NW_at 177 (by decide +kernel) rfl) (fun rq => ?_)
        show V 17 [some (.ref x), some (.int (nI 6)), some (.int a), some (.int b), some (.int c), some (.int e), none] [.ref rq] h1 _ _
        refine r_astore Mm dL_on_17 (by decide) ?_
        show V 19 [some (.ref x), some (.int (nI 6)), some (.int a), some (.int b), some (.int c), some (.int e), some (.ref rq)] _ _ _ _
        refine r_ldc (v := -2000013) Mm dL_on_19 cc_L_51 ?_
        refine r_iret M dL_on_21 ?_
        exact ⟨by rw [e1, onV_ise], by rw [e1]; exact md1⟩
      · refine x_catch (name := "java/util/NoSuchElementException") Mm (tableOf [(0, 11, 12, 46), (0, 11, 17, 49)]) ⟨0, 11, 22, 52⟩ [] rfl (by intro z hz; simp only [tableOf, List.map_cons, List.map_nil, List.mem_cons, List.not_mem_nil, or_false] at hz; rcases hz with rfl | rfl <;> first | exact ⟨by decide, "java/lang/IndexOutOfBoundsException", TB_at 476 (by decide +kernel) rfl, by decide +kernel⟩ | exact ⟨by decide, "java/lang/IllegalStateException", TB_at 477 (by decide +kernel) rfl, by decide +kernel⟩) rfl (by decide) (TB_at 478 (by decide +kernel) rfl) (NW_at 492 (by decide +kernel) rfl) (fun rq => ?_)
        show V 22 [some (.ref x), some (.int (nI 6)), some (.int a), some (.int b), some (.int c), some (.int e), none] [.ref rq] h1 _ _
        refine r_astore Mm dL_on_22 (by decide) ?_
        show V 24 [some (.ref x), some (.int (nI 6)), some (.int a), some (.int b), some (.int c), some (.int e), some (.ref rq)] _ _ _ _
        refine r_ldc (v := -2000014) Mm dL_on_24 cc_L_54 ?_
        refine r_iret M dL_on_26 ?_
        exact ⟨by rw [e1, onV_nse], by rw [e1]; exact md1⟩
    · cases e2
set_option maxRecDepth 100000 in
set_option maxHeartbeats 4000000 in
theorem ct_on_y {g : Gl} {l : Launch} (hfl : l.stackTraces = false) {h : Hp} {x : Nat} {ad : Nat → Nat} {A : Nat → Nat → Int32} {σ : ST} (md : Mid g h x ad A σ) (hw : WF σ) (a b c e : Int32) (hE : oCt (o_y σ a b c)) : CTW g l iL_on [(0, 11, 12, 46), (0, 11, 17, 49), (0, 11, 22, 52)] 11 [.ref x, .int (nI 7), .int a, .int b, .int c, .int e] h 1 6 (pRel (fun r h' => r = some (.int (onV (o_y σ a b c))) ∧ Mid g h' x ad A (onS σ (o_y σ a b c)))) := by
  refine ctw_mk hfl (by decide) (Nat.le_of_ble_eq_true rfl) (by intro v hv; simp only [List.mem_cons, List.not_mem_nil, or_false] at hv; rcases hv with rfl | rfl | rfl | rfl | rfl | rfl <;> rfl) (fun V X M => ?_)
  have Mm := M.m
  show V 0 [some (.ref x), some (.int (nI 7)), some (.int a), some (.int b), some (.int c), some (.int e), none] [] _ 0 0
  refine r_aload_n Mm dL_on_0 rfl ?_
  refine r_iload_n Mm dL_on_1 rfl ?_
  refine r_iload_n Mm dL_on_2 rfl ?_
  refine r_iload_n Mm dL_on_3 rfl ?_
  refine r_iload Mm dL_on_4 rfl ?_
  refine r_iload Mm dL_on_6 rfl ?_
  refine r_callS (As := [(.ref x), (.int (nI 7)), (.int a), (.int b), (.int c), (.int e)]) Mm dL_on_8 rfl (ct_asks_y hfl md hw a b c e) cw_L_40 ⟨Nat.le_of_ble_eq_true rfl, Nat.le_of_ble_eq_true rfl, Nat.le_of_ble_eq_true rfl⟩ (Nat.le_of_ble_eq_true rfl) ⟨Nat.le_of_ble_eq_true rfl, Nat.le_of_ble_eq_true rfl⟩ (fun r1 h1 p1 => ?_) (fun E1 h1 p1 => ?_)
  · rcases p1 with ⟨E0, -, e2, -⟩ | ⟨v, σ1, e1, e2, md1⟩
    · cases e2
    · cases e2
      show V 11 [some (.ref x), some (.int (nI 7)), some (.int a), some (.int b), some (.int c), some (.int e), none] [.int v] h1 _ _
      refine r_iret M dL_on_11 ?_
      exact ⟨by rw [e1]; rfl, by rw [e1]; exact md1⟩
  · rcases p1 with ⟨E0, e1, e2, md1⟩ | ⟨v, σ1, -, e2, -⟩
    · cases e2
      rcases hE _ e1 with rfl | rfl | rfl
      · refine x_catch (name := "java/lang/IndexOutOfBoundsException") Mm [] ⟨0, 11, 12, 46⟩ (tableOf [(0, 11, 17, 49), (0, 11, 22, 52)]) rfl (fun z hz => absurd hz List.not_mem_nil) rfl (by decide) (TB_at 476 (by decide +kernel) rfl) (NW_at 318 (by decide +kernel) rfl) (fun rq => ?_)
        show V 12 [some (.ref x), some (.int (nI 7)), some (.int a), some (.int b), some (.int c), some (.int e), none] [.ref rq] h1 _ _
        refine r_astore Mm dL_on_12 (by decide) ?_
        show V 14 [some (.ref x), some (.int (nI 7)), some (.int a), some (.int b), some (.int c), some (.int e), some (.ref rq)] _ _ _ _
        refine r_ldc (v := -2000011) Mm dL_on_14 cc_L_48 ?_
        refine r_iret M dL_on_16 ?_
        exact ⟨by rw [e1, onV_ioo], by rw [e1]; exact md1⟩
      · refine x_catch (name := "java/lang/IllegalStateException") Mm (tableOf [(0, 11, 12, 46)]) ⟨0, 11, 17, 49⟩ (tableOf [(0, 11, 22, 52)]) rfl (by intro z hz; simp only [tableOf, List.map_cons, List.map_nil, List.mem_cons, List.not_mem_nil, or_false] at hz; subst hz; exact ⟨by decide, "java/lang/IndexOutOfBoundsException", TB_at 476 (by decide +kernel) rfl, by decide +kernel⟩) rfl (by decide) (TB_at 477 (by decide +kernel) rfl) (NW_at 177 (by decide +kernel) rfl) (fun rq => ?_)
        show V 17 [some (.ref x), some (.int (nI 7)), some (.int a), some (.int b), some (.int c), some (.int e), none] [.ref rq] h1 _ _
        refine r_astore Mm dL_on_17 (by decide) ?_
        show V 19 [some (.ref x), some (.int (nI 7)), some (.int a), some (.int b), some (.int c), some (.int e), some (.ref rq)] _ _ _ _
        refine r_ldc (v := -2000013) Mm dL_on_19 cc_L_51 ?_
        refine r_iret M dL_on_21 ?_
        exact ⟨by rw [e1, onV_ise], by rw [e1]; exact md1⟩
      · refine x_catch (name := "java/util/NoSuchElementException") Mm (tableOf [(0, 11, 12, 46), (0, 11, 17, 49)]) ⟨0, 11, 22, 52⟩ [] rfl (by intro z hz; simp only [tableOf, List.map_cons, List.map_nil, List.mem_cons, List.not_mem_nil, or_false] at hz; rcases hz with rfl | rfl <;> first | exact ⟨by decide, "java/lang/IndexOutOfBoundsException", TB_at 476 (by decide +kernel) rfl, by decide +kernel⟩ | exact ⟨by decide, "java/lang/IllegalStateException", TB_at 477 (by decide +kernel) rfl, by decide +kernel⟩) rfl (by decide) (TB_at 478 (by decide +kernel) rfl) (NW_at 492 (by decide +kernel) rfl) (fun rq => ?_)
        show V 22 [some (.ref x), some (.int (nI 7)), some (.int a), some (.int b), some (.int c), some (.int e), none] [.ref rq] h1 _ _
        refine r_astore Mm dL_on_22 (by decide) ?_
        show V 24 [some (.ref x), some (.int (nI 7)), some (.int a), some (.int b), some (.int c), some (.int e), some (.ref rq)] _ _ _ _
        refine r_ldc (v := -2000014) Mm dL_on_24 cc_L_54 ?_
        refine r_iret M dL_on_26 ?_
        exact ⟨by rw [e1, onV_nse], by rw [e1]; exact md1⟩
    · cases e2
set_option maxRecDepth 100000 in
set_option maxHeartbeats 4000000 in
theorem ct_on_bent {g : Gl} {l : Launch} (hfl : l.stackTraces = false) {h : Hp} {x : Nat} {ad : Nat → Nat} {A : Nat → Nat → Int32} {σ : ST} (md : Mid g h x ad A σ) (hw : WF σ) (a b c e : Int32) (hE : oCt (o_bent σ a b c e)) : CTW g l iL_on [(0, 11, 12, 46), (0, 11, 17, 49), (0, 11, 22, 52)] 11 [.ref x, .int (nI 8), .int a, .int b, .int c, .int e] h 1 6 (pRel (fun r h' => r = some (.int (onV (o_bent σ a b c e))) ∧ Mid g h' x ad A (onS σ (o_bent σ a b c e)))) := by
  refine ctw_mk hfl (by decide) (Nat.le_of_ble_eq_true rfl) (by intro v hv; simp only [List.mem_cons, List.not_mem_nil, or_false] at hv; rcases hv with rfl | rfl | rfl | rfl | rfl | rfl <;> rfl) (fun V X M => ?_)
  have Mm := M.m
  show V 0 [some (.ref x), some (.int (nI 8)), some (.int a), some (.int b), some (.int c), some (.int e), none] [] _ 0 0
  refine r_aload_n Mm dL_on_0 rfl ?_
  refine r_iload_n Mm dL_on_1 rfl ?_
  refine r_iload_n Mm dL_on_2 rfl ?_
  refine r_iload_n Mm dL_on_3 rfl ?_
  refine r_iload Mm dL_on_4 rfl ?_
  refine r_iload Mm dL_on_6 rfl ?_
  refine r_callS (As := [(.ref x), (.int (nI 8)), (.int a), (.int b), (.int c), (.int e)]) Mm dL_on_8 rfl (ct_asks_bent hfl md hw a b c e) cw_L_40 ⟨Nat.le_of_ble_eq_true rfl, Nat.le_of_ble_eq_true rfl, Nat.le_of_ble_eq_true rfl⟩ (Nat.le_of_ble_eq_true rfl) ⟨Nat.le_of_ble_eq_true rfl, Nat.le_of_ble_eq_true rfl⟩ (fun r1 h1 p1 => ?_) (fun E1 h1 p1 => ?_)
  · rcases p1 with ⟨E0, -, e2, -⟩ | ⟨v, σ1, e1, e2, md1⟩
    · cases e2
    · cases e2
      show V 11 [some (.ref x), some (.int (nI 8)), some (.int a), some (.int b), some (.int c), some (.int e), none] [.int v] h1 _ _
      refine r_iret M dL_on_11 ?_
      exact ⟨by rw [e1]; rfl, by rw [e1]; exact md1⟩
  · rcases p1 with ⟨E0, e1, e2, md1⟩ | ⟨v, σ1, -, e2, -⟩
    · cases e2
      rcases hE _ e1 with rfl | rfl | rfl
      · refine x_catch (name := "java/lang/IndexOutOfBoundsException") Mm [] ⟨0, 11, 12, 46⟩ (tableOf [(0, 11, 17, 49), (0, 11, 22, 52)]) rfl (fun z hz => absurd hz List.not_mem_nil) rfl (by decide) (TB_at 476 (by decide +kernel) rfl) (NW_at 318 (by decide +kernel) rfl) (fun rq => ?_)
        show V 12 [some (.ref x), some (.int (nI 8)), some (.int a), some (.int b), some (.int c), some (.int e), none] [.ref rq] h1 _ _
        refine r_astore Mm dL_on_12 (by decide) ?_
        show V 14 [some (.ref x), some (.int (nI 8)), some (.int a), some (.int b), some (.int c), some (.int e), some (.ref rq)] _ _ _ _
        refine r_ldc (v := -2000011) Mm dL_on_14 cc_L_48 ?_
        refine r_iret M dL_on_16 ?_
        exact ⟨by rw [e1, onV_ioo], by rw [e1]; exact md1⟩
      · refine x_catch (name := "java/lang/IllegalStateException") Mm (tableOf [(0, 11, 12, 46)]) ⟨0, 11, 17, 49⟩ (tableOf [(0, 11, 22, 52)]) rfl (by intro z hz; simp only [tableOf, List.map_cons, List.map_nil, List.mem_cons, List.not_mem_nil, or_false] at hz; subst hz; exact ⟨by decide, "java/lang/IndexOutOfBoundsException", TB_at 476 (by decide +kernel) rfl, by decide +kernel⟩) rfl (by decide) (TB_at 477 (by decide +kernel) rfl) (NW_at 177 (by decide +kernel) rfl) (fun rq => ?_)
        show V 17 [some (.ref x), some (.int (nI 8)), some (.int a), some (.int b), some (.int c), some (.int e), none] [.ref rq] h1 _ _
        refine r_astore Mm dL_on_17 (by decide) ?_
        show V 19 [some (.ref x), some (.int (nI 8)), some (.int a), some (.int b), some (.int c), some (.int e), some (.ref rq)] _ _ _ _
        refine r_ldc (v := -2000013) Mm dL_on_19 cc_L_51 ?_
        refine r_iret M dL_on_21 ?_
        exact ⟨by rw [e1, onV_ise], by rw [e1]; exact md1⟩
      · refine x_catch (name := "java/util/NoSuchElementException") Mm (tableOf [(0, 11, 12, 46), (0, 11, 17, 49)]) ⟨0, 11, 22, 52⟩ [] rfl (by intro z hz; simp only [tableOf, List.map_cons, List.map_nil, List.mem_cons, List.not_mem_nil, or_false] at hz; rcases hz with rfl | rfl <;> first | exact ⟨by decide, "java/lang/IndexOutOfBoundsException", TB_at 476 (by decide +kernel) rfl, by decide +kernel⟩ | exact ⟨by decide, "java/lang/IllegalStateException", TB_at 477 (by decide +kernel) rfl, by decide +kernel⟩) rfl (by decide) (TB_at 478 (by decide +kernel) rfl) (NW_at 492 (by decide +kernel) rfl) (fun rq => ?_)
        show V 22 [some (.ref x), some (.int (nI 8)), some (.int a), some (.int b), some (.int c), some (.int e), none] [.ref rq] h1 _ _
        refine r_astore Mm dL_on_22 (by decide) ?_
        show V 24 [some (.ref x), some (.int (nI 8)), some (.int a), some (.int b), some (.int c), some (.int e), some (.ref rq)] _ _ _ _
        refine r_ldc (v := -2000014) Mm dL_on_24 cc_L_54 ?_
        refine r_iret M dL_on_26 ?_
        exact ⟨by rw [e1, onV_nse], by rw [e1]; exact md1⟩
    · cases e2
set_option maxRecDepth 100000 in
set_option maxHeartbeats 4000000 in
theorem ct_keyed {g : Gl} {l : Launch} (hfl : l.stackTraces = false) {h : Hp} {x : Nat} {ad : Nat → Nat} {A : Nat → Nat → Int32} {σ : ST} (md : Mid g h x ad A σ) (hw : WF σ) (p f u v0 e : Int32) (hE : ∀ E, o_key σ p f u v0 e = .inl E → E = eISE) : CTW g l iL_keyed [(0, 11, 12, 49)] 9 [.ref x, .int p, .int f, .int u, .int v0, .int e] h 4 1520 (pRel (fun r h' => r = some (.int (onV (o_key σ p f u v0 e))) ∧ Mid g h' x ad A (onS σ (o_key σ p f u v0 e)))) := by
  refine ctw_mk hfl (by decide) (Nat.le_of_ble_eq_true rfl) (by intro v hv; simp only [List.mem_cons, List.not_mem_nil, or_false] at hv; rcases hv with rfl | rfl | rfl | rfl | rfl | rfl <;> rfl) (fun V X M => ?_)
  have Mm := M.m
  show V 0 [some (.ref x), some (.int p), some (.int f), some (.int u), some (.int v0), some (.int e), none] [] _ 0 0
  refine r_aload_n Mm dL_keyed_0 rfl ?_
  refine r_iload_n Mm dL_keyed_1 rfl ?_
  refine r_iload_n Mm dL_keyed_2 rfl ?_
  refine r_iload_n Mm dL_keyed_3 rfl ?_
  refine r_iload Mm dL_keyed_4 rfl ?_
  refine r_iload Mm dL_keyed_6 rfl ?_
  refine r_callV (As := [(.int p), (.int f), (.int u), (.int v0), (.int e)]) Mm dL_keyed_8 rfl (cd_key hfl md hw p f u v0 e) (md.ox) rfl cw_L_55 ⟨Nat.le_of_ble_eq_true rfl, Nat.le_of_ble_eq_true rfl, Nat.le_of_ble_eq_true rfl⟩ (Nat.le_of_ble_eq_true rfl) ⟨Nat.le_of_ble_eq_true rfl, Nat.le_of_ble_eq_true rfl⟩ (fun r1 h1 p1 => ?_) (fun E1 h1 p1 => ?_)
  · rcases p1 with ⟨E0, -, e2, -⟩ | ⟨v, σ1, e1, e2, md1⟩
    · cases e2
    · cases e2
      show V 11 [some (.ref x), some (.int p), some (.int f), some (.int u), some (.int v0), some (.int e), none] [.int v] h1 _ _
      refine r_iret M dL_keyed_11 ?_
      exact ⟨by rw [e1]; rfl, by rw [e1]; exact md1⟩
  · rcases p1 with ⟨E0, e1, e2, md1⟩ | ⟨v, σ1, -, e2, -⟩
    · cases e2
      obtain rfl := hE _ e1
      refine x_catch (name := "java/lang/IllegalStateException") Mm [] ⟨0, 11, 12, 49⟩ [] rfl (fun z hz => absurd hz List.not_mem_nil) rfl (by decide) (TB_at 477 (by decide +kernel) rfl) (NW_at 177 (by decide +kernel) rfl) (fun rq => ?_)
      show V 12 [some (.ref x), some (.int p), some (.int f), some (.int u), some (.int v0), some (.int e), none] [.ref rq] h1 _ _
      refine r_astore Mm dL_keyed_12 (by decide) ?_
      show V 14 [some (.ref x), some (.int p), some (.int f), some (.int u), some (.int v0), some (.int e), some (.ref rq)] _ _ _ _
      refine r_ldc (v := -2000013) Mm dL_keyed_14 cc_L_51 ?_
      refine r_iret M dL_keyed_16 ?_
      exact ⟨by rw [e1, onV_ise], by rw [e1]; exact md1⟩
    · cases e2
