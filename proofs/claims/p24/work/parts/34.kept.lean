/-! ===== every call keeps the state in its bounds ===== -/
theorem SortK.get {ks : List K4} (hs : SortK ks) {i : Nat} {k : K4} (h : ks[i]? = some k) : ∃ n ≤ 999, k.1 = nI n := by
  obtain ⟨n, hn, e⟩ := hs.2 k (List.mem_of_getElem? h)
  exact ⟨n, hn, e⟩
theorem hasK_at {ks : List K4} {f : Int32} (h : hasK ks f = true) : ∃ k, ks[ahead ks f]? = some k ∧ k.1 = f := by
  rw [hasK] at h
  cases hk : ks[ahead ks f]? with
  | none => rw [hk] at h; cases h
  | some k => rw [hk] at h; exact ⟨k, rfl, by simpa using h⟩
theorem hasK_not {ks : List K4} {f : Int32} (h : ¬ hasK ks f = true) {k : K4} (hk : ks[ahead ks f]? = some k) : f < k.1 := by
  have h1 := (ahead_spec ks f).2 k hk
  have h2 : ¬ k.1 = f := fun e => h (by rw [hasK, hk]; simpa using e)
  have h3 : ¬ k.1.toInt = f.toInt := fun e => h2 (Int32.toInt_inj.mp e)
  rw [Int32.lt_iff_toInt_lt] at h1 ⊢
  omega
theorem SortK.setK {ks : List K4} (hs : SortK ks) {a : Nat} {k0 k : K4} (h0 : ks[a]? = some k0) (e : k0.1 = k.1) : SortK (ks.set a k) := by
  have ha : a < ks.length := (List.getElem?_eq_some_iff.mp h0).1
  have key : ∀ (i : Nat) (x : K4), (ks.set a k)[i]? = some x → ∃ y, ks[i]? = some y ∧ y.1 = x.1 := fun i x hx => by
    by_cases c : i = a
    · subst c
      rw [List.getElem?_set_self ha] at hx; cases hx
      exact ⟨k0, h0, e⟩
    · rw [List.getElem?_set_ne (fun z => c z.symm)] at hx
      exact ⟨x, hx, rfl⟩
  refine ⟨fun i x y hx hy => ?_, fun x hx => ?_⟩
  · obtain ⟨x1, h1, e1⟩ := key i x hx
    obtain ⟨y1, h2, e2⟩ := key (i + 1) y hy
    rw [← e1, ← e2]
    exact hs.1 i x1 y1 h1 h2
  · obtain ⟨i, hi⟩ := List.getElem?_of_mem hx
    obtain ⟨x1, h1, e1⟩ := key i x hi
    obtain ⟨n, hn, en⟩ := hs.get h1
    exact ⟨n, hn, by rw [← e1, en]⟩
theorem SortK.ins {ks : List K4} (hs : SortK ks) {k : K4} (hk : ∃ n ≤ 999, k.1 = nI n) (hn : ¬ hasK ks k.1 = true) : SortK (ks.insertIdx (ahead ks k.1) k) := by
  have hal := ahead_le ks k.1
  have hsp := (ahead_spec ks k.1).1
  refine ⟨fun i x y hx hy => ?_, fun x hx => ?_⟩
  · rw [insG hal] at hx hy
    by_cases c1 : i + 1 < ahead ks k.1
    · rw [if_pos (by omega)] at hx
      rw [if_pos c1] at hy
      exact hs.1 i x y hx hy
    · rw [if_neg c1] at hy
      by_cases c2 : i + 1 = ahead ks k.1
      · rw [if_pos c2] at hy; cases hy
        rw [if_pos (by omega)] at hx
        exact hsp i x (by omega) hx
      · rw [if_neg c2, Nat.add_sub_cancel] at hy
        rw [if_neg (by omega)] at hx
        by_cases c3 : i = ahead ks k.1
        · rw [if_pos c3] at hx; cases hx
          rw [c3] at hy
          exact hasK_not hn hy
        · rw [if_neg c3] at hx
          exact hs.1 (i - 1) x y hx (by rw [show i - 1 + 1 = i by omega]; exact hy)
  · rcases (List.mem_insertIdx hal).mp hx with e | h
    · rw [e]
      obtain ⟨n, h1, h2⟩ := hk
      exact ⟨n, h1, h2⟩
    · exact hs.2 x h
theorem SortK.era {ks : List K4} (hs : SortK ks) (a : Nat) : SortK (ks.eraseIdx a) := by
  refine ⟨fun i x y hx hy => ?_, fun x hx => hs.2 x (List.mem_of_mem_eraseIdx hx)⟩
  rw [List.getElem?_eraseIdx] at hx hy
  by_cases c1 : i + 1 < a
  · rw [if_pos (by omega)] at hx
    rw [if_pos c1] at hy
    exact hs.1 i x y hx hy
  · rw [if_neg c1] at hy
    by_cases c2 : i < a
    · rw [if_pos c2] at hx
      exact hs.lt (i := i) (j := i + 1 + 1) (by omega) hx hy
    · rw [if_neg c2] at hx
      exact hs.1 (i + 1) x y hx hy
theorem SortK.put {ks : List K4} (hs : SortK ks) {k : K4} (hk : ∃ n ≤ 999, k.1 = nI n) : SortK (putK ks k) := by
  by_cases c : hasK ks k.1 = true
  · obtain ⟨k0, h0, e⟩ := hasK_at c
    rw [show putK ks k = ks.set (ahead ks k.1) k from if_pos c]
    exact hs.setK h0 e
  · rw [show putK ks k = ks.insertIdx (ahead ks k.1) k from if_neg c]
    exact hs.ins hk c
theorem putK_mem {ks : List K4} {k x : K4} (h : x ∈ putK ks k) : x ∈ ks ∨ x = k := by
  by_cases c : hasK ks k.1 = true
  · rw [show putK ks k = ks.set (ahead ks k.1) k from if_pos c] at h
    exact List.mem_or_eq_of_mem_set h
  · rw [show putK ks k = ks.insertIdx (ahead ks k.1) k from if_neg c] at h
    exact ((List.mem_insertIdx (ahead_le _ _)).mp h).symm
theorem putK_len {ks : List K4} {k : K4} (h : ¬ (hasK ks k.1 = false ∧ 12 ≤ ks.length)) (h12 : ks.length ≤ 12) : (putK ks k).length ≤ 12 := by
  by_cases c : hasK ks k.1 = true
  · rw [show putK ks k = ks.set (ahead ks k.1) k from if_pos c, List.length_set]; exact h12
  · rw [show putK ks k = ks.insertIdx (ahead ks k.1) k from if_neg c, List.length_insertIdx, if_pos (ahead_le _ _)]
    have : ¬ 12 ≤ ks.length := fun z => h ⟨by simpa using c, z⟩
    omega
theorem WX.pup {σ : ST} (hx : WX σ) {i : Nat} (hi : i < eN σ) {p : PS} (hp : okP p) : WX (wP σ i p) := by
  obtain ⟨⟨w1, w2, w3, w4, w5⟩, x1, x2⟩ := hx
  refine ⟨⟨w1, w2, fun q hq => ?_, w4, w5⟩, fun q hq => ?_, x2⟩
  · show okP (upt (eP σ) i p q)
    by_cases e : q = i
    · rw [e, upt_s]; exact hp
    · rw [upt_n _ _ e]; exact w3 q hq
  · show upt (eP σ) i p q = pZ
    have hq2 : eN σ ≤ q := hq
    rw [upt_n _ _ (by omega)]; exact x1 q hq
theorem WX.shw {σ : ST} (hx : WX σ) {j : Nat} (hj : j < eM σ) {s : SS} (hs : okS (eN σ) s) : WX (wS σ j s) := by
  obtain ⟨⟨w1, w2, w3, w4, w5⟩, x1, x2⟩ := hx
  refine ⟨⟨w1, w2, w3, fun q hq => ?_, w5⟩, x1, fun q hq => ?_⟩
  · show okS (eN σ) (upt (eS σ) j s q)
    by_cases e : q = j
    · rw [e, upt_s]; exact hs
    · rw [upt_n _ _ e]; exact w4 q hq
  · show upt (eS σ) j s q = sZ
    have hq2 : eM σ ≤ q := hq
    rw [upt_n _ _ (by omega)]; exact x2 q hq
def oWX (o : OR) : Prop := ∀ v σ', o = .inr (v, σ') → WX σ'
section OWX
variable {σ σ' : ST} {o a b : OR}
theorem oWX.thr (E : String) : oWX (.inl E) := fun _ _ e => nomatch e
theorem oWX.ret {v : Int32} (h : WX σ') : oWX (.inr (v, σ')) := fun _ _ e => by cases e; exact h
theorem oWX.pu (hx : WX σ) {p : Int32} {f : Nat → OR} (h : ∀ i, i < eN σ → oWX (f i)) : oWX (oPu σ p f) := by
  have w1 := hx.1.1
  by_cases k : 0 ≤ p ∧ p < nI (eN σ)
  · obtain ⟨i, hi, rfl⟩ := in_ex k (by omega)
    rw [oPu_ok k (nI_clamp (by omega))]; exact h i hi
  · rw [oPu_no k]; exact oWX.thr _
theorem oWX.sh (hx : WX σ) {p : Int32} {f : Nat → OR} (h : ∀ j, j < eM σ → oWX (f j)) : oWX (oSh σ p f) := by
  have w2 := hx.1.2.1
  by_cases k : 0 ≤ p ∧ p < nI (eM σ)
  · obtain ⟨i, hi, rfl⟩ := in_ex k (by omega)
    rw [oSh_ok k (nI_clamp (by omega))]; exact h i hi
  · rw [oSh_no k]; exact oWX.thr _
theorem oWX.inn {v lo hi : Int32} (h : lo ≤ v ∧ v ≤ hi → oWX o) : oWX (oIn v lo hi o) := by
  by_cases k : lo ≤ v ∧ v ≤ hi
  · rw [oIn_ok k]; exact h k
  · rw [oIn_no k]; exact oWX.thr _
theorem oWX.has {j : Nat} {p : Int32} {f : Nat → OR} (h : ∀ i, oWX (f i)) : oWX (oHas σ j p f) := by
  by_cases k : hasC (tCast (eS σ j)) p = true
  · obtain ⟨i, hi, rfl, -⟩ := hasC_ex k
    rw [oHas_ok k (nI_clamp (by omega))]; exact h i
  · rw [oHas_no k]; exact oWX.thr _
theorem oWX.ite {c : Prop} [Decidable c] (h1 : c → oWX a) (h2 : ¬ c → oWX b) : oWX (if c then a else b) := by
  by_cases k : c
  · rw [if_pos k]; exact h1 k
  · rw [if_neg k]; exact h2 k
end OWX
theorem wx_income {σ : ST} (hx : WX σ) : oWX (o_income σ) := oWX.ret hx
theorem wx_worn {σ : ST} (hx : WX σ) (p : Int32) : oWX (o_worn σ p) := oWX.pu hx fun _ _ => oWX.ret hx
theorem wx_track {σ : ST} (hx : WX σ) (p f : Int32) : oWX (o_track σ p f) := oWX.pu hx fun _ _ => oWX.inn fun _ => oWX.ret hx
theorem wx_tbf {σ : ST} (hx : WX σ) (p f : Int32) : oWX (o_tbf σ p f) := wx_track hx p f
theorem wx_least {σ : ST} (hx : WX σ) (p : Int32) : oWX (o_least σ p) := oWX.pu hx fun _ _ => oWX.ret hx
theorem wx_x {σ : ST} (hx : WX σ) (q p f : Int32) : oWX (o_x σ q p f) := oWX.sh hx fun _ _ => oWX.has fun _ => oWX.inn fun _ => oWX.ret hx
theorem wx_y {σ : ST} (hx : WX σ) (q p f : Int32) : oWX (o_y σ q p f) := oWX.sh hx fun _ _ => oWX.has fun _ => oWX.inn fun _ => oWX.ret hx
theorem wx_bent {σ : ST} (hx : WX σ) (q p f t : Int32) : oWX (o_bent σ q p f t) := oWX.sh hx fun _ _ => oWX.has fun _ => oWX.inn fun _ => oWX.inn fun _ => oWX.ret hx
theorem wx_isBusy {σ : ST} (hx : WX σ) (p t : Int32) : oWX (o_isBusy σ p t) := oWX.pu hx fun _ _ => oWX.inn fun _ => oWX.ret hx
theorem wx_setLength {σ : ST} (hx : WX σ) (p n : Int32) : oWX (o_setLength σ p n) := oWX.pu hx fun i hi => oWX.inn fun k => oWX.ret (hx.pup hi (by
  obtain ⟨m, hm, rfl⟩ := in_le k (by decide)
  obtain ⟨y1, y2, y3⟩ := hx.1.2.2.1 i hi
  exact ⟨y1, ⟨m, hm, rfl⟩, y3⟩))
theorem wx_cue {σ : ST} (hx : WX σ) (p q : Int32) : oWX (o_cue σ p q) := oWX.pu hx fun i hi => oWX.ite (fun k => oWX.ret (hx.pup hi (by
  obtain ⟨y1, y2, y3, y4, y5, y6, y7⟩ := hx.1.2.2.1 i hi
  refine ⟨y1, y2, y3, y4, y5, ?_, y7⟩
  rcases k with k | k
  · exact Or.inl k
  · obtain ⟨m, hm, rfl⟩ := in_le (sound_eq.mpr k) (by decide)
    exact Or.inr ⟨m, hm, rfl⟩))) (fun _ => oWX.thr _)
theorem wx_heard {σ : ST} (hx : WX σ) {q : Nat} {f : Int32} (hq : q < 10) (hf : f = -1 ∨ ∃ m ≤ 999, f = nI m) : WX (σ.1, σ.2.1, upt (eH σ) q f, ePaid σ) := by
  obtain ⟨⟨w1, w2, w3, w4, w5⟩, x1, x2⟩ := hx
  refine ⟨⟨w1, w2, w3, w4, fun s hs => ?_⟩, x1, x2⟩
  show upt (eH σ) q f s = -1 ∨ ∃ m ≤ 999, upt (eH σ) q f s = nI m
  by_cases e : s = q
  · rw [e, upt_s]; exact hf
  · rw [upt_n _ _ e]; exact w5 s hs
theorem wx_hear {σ : ST} (hx : WX σ) (q f : Int32) : oWX (o_hear σ q f) := oWX.ite (fun k => by
  obtain ⟨s, hs, rfl⟩ := in_le (sound_eq.mpr k) (by decide)
  rw [nI_clamp (by omega)]
  exact oWX.ite (fun e => oWX.ret (wx_heard hx (by omega) (Or.inl e))) (fun _ => oWX.inn fun k2 => oWX.ret (wx_heard hx (by omega) (Or.inr (by
    obtain ⟨m, hm, rfl⟩ := in_le k2 (by decide)
    exact ⟨m, hm, rfl⟩))))) (fun _ => oWX.thr _)
theorem wx_cast {σ : ST} (hx : WX σ) (q p : Int32) : oWX (o_cast σ q p) := oWX.sh hx fun j hj => oWX.pu hx fun i hi => oWX.ite (fun _ => oWX.thr _) (fun _ => oWX.ite (fun _ => oWX.thr _) (fun _ => oWX.ret (hx.shw hj (by
  obtain ⟨y1, y2⟩ := hx.1.2.2.2.1 j hj
  refine ⟨fun r hr => ?_, y2⟩
  have hr2 : upt (tCast (eS σ j)) i true r = true := hr
  by_cases e : r = i
  · omega
  · rw [upt_n _ _ e] at hr2; exact y1 r hr2))))
theorem wx_leave {σ : ST} (hx : WX σ) (q p : Int32) : oWX (o_leave σ q p) := oWX.sh hx fun j hj => oWX.pu hx fun i hi => oWX.ite (fun _ => oWX.thr _) (fun _ => oWX.ret (hx.shw hj (by
  obtain ⟨y1, y2⟩ := hx.1.2.2.2.1 j hj
  refine ⟨fun r hr => ?_, y2⟩
  have hr2 : upt (tCast (eS σ j)) i false r = true := hr
  by_cases e : r = i
  · rw [e, upt_s] at hr2; cases hr2
  · rw [upt_n _ _ e] at hr2; exact y1 r hr2)))
theorem wx_sell {σ : ST} (hx : WX σ) (q n u : Int32) : oWX (o_sell σ q n u) := oWX.sh hx fun j hj => oWX.inn fun _ => oWX.inn fun _ => oWX.ite (fun _ => oWX.thr _) (fun _ => oWX.ret (hx.shw hj (by
  obtain ⟨y1, y2⟩ := hx.1.2.2.2.1 j hj
  exact ⟨y1, by show tLeft (eS σ j) - n.toNatClampNeg ≤ 50; omega⟩)))
theorem wx_perform {σ : ST} (hx : WX σ) (q : Int32) : oWX (o_perform σ q) := oWX.sh hx fun j hj => oWX.ite (fun _ => oWX.thr _) (fun _ => oWX.ret (by
  obtain ⟨⟨w1, w2, w3, w4, w5⟩, x1, x2⟩ := hx
  refine ⟨⟨w1, w2, fun i hi => ?_, fun s hs => ?_, w5⟩, fun i hi => ?_, fun s hs => ?_⟩
  · obtain ⟨y1, y2, y3, y4, y5, y6, y7, y8⟩ := w3 i hi
    show okP (if i < eN σ ∧ tCast (eS σ j) i = true then wearP (eP σ i) else eP σ i)
    by_cases c : i < eN σ ∧ tCast (eS σ j) i = true
    · rw [if_pos c]; exact ⟨y1, y2, y3, y4, y5, y6, by show min 99 _ ≤ 99; omega, y8⟩
    · rw [if_neg c]; exact w3 i hi
  · show okS (eN σ) (upt (eS σ) j ((eS σ j).1, tCast (eS σ j), tLeft (eS σ j), tTak (eS σ j), true) s)
    by_cases e : s = j
    · rw [e, upt_s]; exact w4 j hj
    · rw [upt_n _ _ e]; exact w4 s hs
  · have hi2 : eN σ ≤ i := hi
    show (if i < eN σ ∧ tCast (eS σ j) i = true then wearP (eP σ i) else eP σ i) = pZ
    rw [if_neg (fun z => by omega)]; exact x1 i hi
  · have hs2 : eM σ ≤ s := hs
    show upt (eS σ) j ((eS σ j).1, tCast (eS σ j), tLeft (eS σ j), tTak (eS σ j), true) s = sZ
    rw [upt_n _ _ (by omega)]; exact x2 s hs))
theorem wx_mend {σ : ST} (hx : WX σ) (p t : Int32) : oWX (o_mend σ p t) := oWX.pu hx fun i hi => oWX.inn fun _ => oWX.ite (fun _ => oWX.thr _) (fun c => oWX.ite (fun _ => oWX.thr _) (fun _ => oWX.ret (hx.pup hi (by
  obtain ⟨y1, y2, y3, y4, y5, y6, y7, y8⟩ := hx.1.2.2.1 i hi
  have hl : ¬ 10 ≤ (qMend (eP σ i)).length := fun z => c (Or.inr z)
  refine ⟨y1, y2, y3, y4, y5, y6, Nat.zero_le _, ?_⟩
  show (qMend (eP σ i) ++ [(t, nI (qWorn (eP σ i)))]).length ≤ 10
  rw [List.length_append]
  show (qMend (eP σ i)).length + 1 ≤ 10
  omega))))
theorem wx_key {σ : ST} (hx : WX σ) (p f u v e : Int32) : oWX (o_key σ p f u v e) := oWX.pu hx fun i hi => oWX.inn fun k1 => oWX.inn fun k2 => oWX.inn fun k3 => oWX.inn fun k4 => oWX.ite (fun _ => oWX.thr _) (fun c => oWX.ret (hx.pup hi (by
  obtain ⟨y1, y2, y3, y4, y5, y6, y7⟩ := hx.1.2.2.1 i hi
  obtain ⟨n1, m1, rfl⟩ := in_le k1 (by decide)
  obtain ⟨n2, m2, rfl⟩ := in_le k2 (by decide)
  obtain ⟨n3, m3, rfl⟩ := in_le k3 (by decide)
  obtain ⟨n4, m4, rfl⟩ := in_le k4 (by decide)
  refine ⟨y1, y2, y3.put ⟨n1, m1, rfl⟩, putK_len c y4, fun k hk => ?_, y6, y7⟩
  rcases putK_mem hk with h | h
  · exact y5 k h
  · rw [h]; exact ⟨⟨n2, m2, rfl⟩, ⟨n3, m3, rfl⟩, n4, m4, rfl⟩)))
theorem wx_cutKey {σ : ST} (hx : WX σ) (p f : Int32) : oWX (o_cut σ p f) := oWX.pu hx fun i hi => oWX.ite (fun _ => oWX.ret (hx.pup hi (by
  obtain ⟨y1, y2, y3, y4, y5, y6, y7⟩ := hx.1.2.2.1 i hi
  exact ⟨y1, y2, y3.era _, Nat.le_trans (List.length_eraseIdx_le _ _) y4, fun k hk => y5 k (List.mem_of_mem_eraseIdx hk), y6, y7⟩))) (fun _ => oWX.thr _)
theorem wx_puppet {σ : ST} (hx : WX σ) (b n : Int32) : oWX (o_puppet σ b n) := oWX.inn fun k1 => oWX.inn fun k2 => oWX.ite (fun c => oWX.ret (by
  obtain ⟨n1, m1, rfl⟩ := in_le k1 (by decide)
  obtain ⟨n2, m2, rfl⟩ := in_le k2 (by decide)
  obtain ⟨⟨w1, w2, w3, w4, w5⟩, x1, x2⟩ := hx
  refine ⟨⟨by show eN σ + 1 ≤ 8; omega, w2, fun i hi => ?_, fun j hj => ⟨fun q hq => ?_, (w4 j hj).2⟩, w5⟩, fun i hi => ?_, x2⟩
  · have hi2 : i < eN σ + 1 := hi
    show okP (upt (eP σ) (eN σ) (nI n1, nI n2, [], -1, 0, []) i)
    by_cases e : i = eN σ
    · rw [e, upt_s]
      exact ⟨⟨n1, m1, rfl⟩, ⟨n2, m2, rfl⟩, ⟨fun i a b ha => absurd (List.getElem?_eq_some_iff.mp ha).1 (Nat.not_lt_zero _), fun k hk => absurd hk List.not_mem_nil⟩, Nat.zero_le _, fun k hk => absurd hk List.not_mem_nil, Or.inl rfl, Nat.zero_le _, Nat.zero_le _⟩
    · rw [upt_n _ _ e]; exact w3 i (by omega)
  · have := (w4 j hj).1 q hq
    show q < eN σ + 1
    omega
  · have hi2 : eN σ + 1 ≤ i := hi
    show upt (eP σ) (eN σ) (nI n1, nI n2, [], -1, 0, []) i = pZ
    rw [upt_n _ _ (by omega)]; exact x1 i (by omega))) (fun _ => oWX.thr _)
theorem wx_show {σ : ST} (hx : WX σ) (t n : Int32) : oWX (o_show σ t n) := oWX.inn fun _ => oWX.inn fun _ => oWX.ite (fun c => oWX.ret (by
  obtain ⟨⟨w1, w2, w3, w4, w5⟩, x1, x2⟩ := hx
  refine ⟨⟨w1, by show eM σ + 1 ≤ 6; omega, w3, fun j hj => ?_, w5⟩, x1, fun j hj => ?_⟩
  · have hj2 : j < eM σ + 1 := hj
    show okS (eN σ) (upt (eS σ) (eM σ) ((t, n), (fun _ => false), 50, 0, false) j)
    by_cases e : j = eM σ
    · rw [e, upt_s]
      exact ⟨fun q hq => Bool.noConfusion hq, Nat.le_refl _⟩
    · rw [upt_n _ _ e]; exact w4 j (by omega)
  · have hj2 : eM σ + 1 ≤ j := hj
    show upt (eS σ) (eM σ) ((t, n), (fun _ => false), 50, 0, false) j = sZ
    rw [upt_n _ _ (by omega)]; exact x2 j (by omega))) (fun _ => oWX.thr _)
