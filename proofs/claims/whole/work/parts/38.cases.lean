/-! ===== the law: one call of each kind ===== -/
theorem li_o {g : Gl} {h : Hp} {x m o : Nat} (li : LwI g h x m o) : xS h o = some (11, 1) := by
  obtain ⟨ad, σ, ⟨ow, pL, sL, ha, ps, ss, r, rm, ho, t⟩, hx⟩ := li
  exact ho
abbrev LwL (g : Gl) (x m o t : Nat) (z5 z6 : Option Value) : List (Option Value) := [some (.ref (gN g 4)), some (.ref x), some (.ref m), some (.ref o), some (.int (nI (6 * t))), z5, z6]
/-- behind a call: on to the next, the state still held -/
def LwK (g : Gl) (V : VT) (x m o t kc ks : Nat) : Prop := ∀ (h : Hp) (z5 z6 : Option Value) (kc' ks' : Nat), LwI g h x m o → kc' ≤ kc + 6 → ks' ≤ ks + 1540 → V 1580 (LwL g x m o t z5 z6) [] h kc' ks' 
set_option maxRecDepth 100000 in
set_option maxHeartbeats 4000000 in
theorem lc_puppet {g : Gl} {l : Launch} (hfl : l.stackTraces = false) {hh : List (Nat × Nat × Nat × Nat)} {mn : String} {V : VT} {X : XT} (M : Mach g l room_1 RL cL_law 7 hh mn V X) (x m o t : Nat) (ht : 6 * t + 6 ≤ gN g 5) (hL : gN g 5 ≤ 3072) (h : Hp) (li : LwI g h x m o) (kc ks : Nat) (hkc : kc ≤ 601000) (hks : ks ≤ 7290000) (z5 z6 : Option Value) (K : LwK g V x m o t kc ks) : V 140 (LwL g x m o t z5 z6) [] h kc ks := by
  obtain ⟨ad, σ, ⟨ow, pL, sL, ha, ps, ss, rc, rm, ho, t1, t2, t3⟩, hx⟩ := li
  show V 140 [some (.ref (gN g 4)), some (.ref x), some (.ref m), some (.ref o), some (.int (nI (6 * t))), z5, z6] [] h kc ks
  refine r_aload_n M dL_law_140 rfl ?_
  refine r_aload_n M dL_law_141 rfl ?_
  refine r_iload M dL_law_142 rfl ?_
  refine r_iconst (v := nI 1) M dL_law_144 (by decide) ?_
  refine r_iaddN M dL_law_145 ?_
  refine r_ialdX M dL_law_146 (vp_inN (by omega) (by omega)) ?_
  refine r_aload_n M dL_law_147 rfl ?_
  refine r_iload M dL_law_148 rfl ?_
  refine r_iconst (v := nI 2) M dL_law_150 (by decide) ?_
  refine r_iaddN M dL_law_151 ?_
  refine r_ialdX M dL_law_152 (vp_inN (by omega) (by omega)) ?_
  refine r_aload_n M dL_law_153 rfl ?_
  refine r_callSW (As := [(.ref x), (.int (gX g (nI ((6 * t) + 1)).toNatClampNeg)), (.int (gX g (nI ((6 * t) + 2)).toNatClampNeg)), (.ref o)]) M dL_law_154 rfl (ct_w_puppet hfl h x pL sL ha ow ps ss σ rc hx.1 o ho (gX g (nI ((6 * t) + 1)).toNatClampNeg) (gX g (nI ((6 * t) + 2)).toNatClampNeg)) cw_L_87 ⟨Nat.le_of_ble_eq_true rfl, Nat.le_of_ble_eq_true rfl, Nat.le_of_ble_eq_true rfl⟩ (Nat.le_of_ble_eq_true rfl) ⟨by show _ ≤ 601024; omega, by show _ ≤ 7293034; omega⟩ (fun r1 h1 p1 => ?_) (fun E1 h1 p1 => pWr.no p1)
  obtain ⟨k, er, p1⟩ := p1
  cases er
  obtain ⟨σc, md, d1⟩ := wr_mid rm ho t1 t2 t3 p1
  have rm1 := md.rm
  clear p1
  show V 157 [some (.ref (gN g 4)), some (.ref x), some (.ref m), some (.ref o), some (.int (nI (6 * t))), z5, z6] [(.int (nI k))] h1 _ _
  refine r_istore M dL_law_157 (by decide) ?_
  show V 159 [some (.ref (gN g 4)), some (.ref x), some (.ref m), some (.ref o), some (.int (nI (6 * t))), some (.int (nI k)), z6] _ _ _ _
  refine r_aload_n M dL_law_159 rfl ?_
  refine r_aload_n M dL_law_160 rfl ?_
  refine r_iload M dL_law_161 rfl ?_
  refine r_iconst (v := nI 1) M dL_law_163 (by decide) ?_
  refine r_iaddN M dL_law_164 ?_
  refine r_ialdX M dL_law_165 (vp_inN (by omega) (by omega)) ?_
  refine r_aload_n M dL_law_166 rfl ?_
  refine r_iload M dL_law_167 rfl ?_
  refine r_iconst (v := nI 2) M dL_law_169 (by decide) ?_
  refine r_iaddN M dL_law_170 ?_
  refine r_ialdX M dL_law_171 (vp_inN (by omega) (by omega)) ?_
  refine r_callV (As := [(.int (gX g (nI ((6 * t) + 1)).toNatClampNeg)), (.int (gX g (nI ((6 * t) + 2)).toNatClampNeg))]) M dL_law_172 rfl (cm_puppet hfl h1 m ad σ rm1 hx (gX g (nI ((6 * t) + 1)).toNatClampNeg) (gX g (nI ((6 * t) + 2)).toNatClampNeg)) (rm1.1.1) rfl cw_L_92 ⟨Nat.le_of_ble_eq_true rfl, Nat.le_of_ble_eq_true rfl, Nat.le_of_ble_eq_true rfl⟩ (Nat.le_of_ble_eq_true rfl) ⟨by show _ ≤ 601024; omega, by show _ ≤ 7293034; omega⟩ (fun r2 h2 p2 => ?_) (fun E2 h2 p2 => (pMd.no p2).elim)
  obtain ⟨fr2, v2, er, d2⟩ := p2
  cases er
  refine r_ownE M (fun fE => ?_)
  obtain ⟨li2, hM2, th2, ov2⟩ := mid_end (by decide) md d1 fr2 fE (wx_puppet hx (gX g (nI ((6 * t) + 1)).toNatClampNeg) (gX g (nI ((6 * t) + 2)).toNatClampNeg)) hx d2
  have ho2 : xS h2 o = some (11, 1) := li_o li2
  show V 175 [some (.ref (gN g 4)), some (.ref x), some (.ref m), some (.ref o), some (.int (nI (6 * t))), some (.int (nI k)), z6] [(.int v2)] h2 _ _
  refine r_istore M dL_law_175 (by decide) ?_
  show V 177 [some (.ref (gN g 4)), some (.ref x), some (.ref m), some (.ref o), some (.int (nI (6 * t))), some (.int (nI k)), some (.int v2)] _ _ _ _
  refine r_aload_n M dL_law_177 rfl ?_
  refine r_callV (As := []) M dL_law_178 rfl (cm_thrown hfl h2 m ad hM2 k th2) (hM2.1) rfl cw_L_93 ⟨Nat.le_of_ble_eq_true rfl, Nat.le_of_ble_eq_true rfl, Nat.le_of_ble_eq_true rfl⟩ (Nat.le_of_ble_eq_true rfl) ⟨by show _ ≤ 601024; omega, by show _ ≤ 7293034; omega⟩ (fun r3 h3 p3 => ?_) (fun E3 h3 p3 => False.elim p3)
  obtain ⟨e3, e4⟩ := p3
  rw [e3, ← e4]
  show V 181 [some (.ref (gN g 4)), some (.ref x), some (.ref m), some (.ref o), some (.int (nI (6 * t))), some (.int (nI k)), some (.int v2)] [(.int (nI k))] h2 _ _
  refine r_iload M dL_law_181 rfl ?_
  refine r_icmp_eq (tgt := 188) M dL_law_183 (by decide) (fun _ => ?_) (fun c1 => absurd rfl c1)
  refine r_iload M dL_law_188 rfl ?_
  refine r_if_ne (tgt := 205) M dL_law_190 (by decide) (fun c2 => ?_) (fun c2 => ?_)
  · refine r_goto (tgt := 1580) M dL_law_205 (by decide) ?_
    exact K h2 _ _ _ _ li2 (by omega) (by omega)
  · refine r_aload_n M dL_law_193 rfl ?_
    refine r_iconst (v := nI 0) M dL_law_194 (by decide) ?_
    refine r_laldN M dL_law_195 (ho2) (by omega) (by omega) ?_
    rw [(ov2 c2).1]
    refine r_iload M dL_law_196 rfl ?_
    refine r_i2l M dL_law_198 ?_
    refine r_lcmp M dL_law_199 ?_
    refine r_if_eq (tgt := 205) M dL_law_200 (by decide) (fun _ => ?_) (fun c3 => absurd (by first | exact lg_self _ | decide) c3)
    refine r_goto (tgt := 1580) M dL_law_205 (by decide) ?_
    exact K h2 _ _ _ _ li2 (by omega) (by omega)
set_option maxRecDepth 100000 in
set_option maxHeartbeats 4000000 in
theorem lc_setLength {g : Gl} {l : Launch} (hfl : l.stackTraces = false) {hh : List (Nat × Nat × Nat × Nat)} {mn : String} {V : VT} {X : XT} (M : Mach g l room_1 RL cL_law 7 hh mn V X) (x m o t : Nat) (ht : 6 * t + 6 ≤ gN g 5) (hL : gN g 5 ≤ 3072) (h : Hp) (li : LwI g h x m o) (kc ks : Nat) (hkc : kc ≤ 601000) (hks : ks ≤ 7290000) (z5 z6 : Option Value) (K : LwK g V x m o t kc ks) : V 208 (LwL g x m o t z5 z6) [] h kc ks := by
  obtain ⟨ad, σ, ⟨ow, pL, sL, ha, ps, ss, rc, rm, ho, t1, t2, t3⟩, hx⟩ := li
  show V 208 [some (.ref (gN g 4)), some (.ref x), some (.ref m), some (.ref o), some (.int (nI (6 * t))), z5, z6] [] h kc ks
  refine r_aload_n M dL_law_208 rfl ?_
  refine r_aload_n M dL_law_209 rfl ?_
  refine r_iload M dL_law_210 rfl ?_
  refine r_iconst (v := nI 1) M dL_law_212 (by decide) ?_
  refine r_iaddN M dL_law_213 ?_
  refine r_ialdX M dL_law_214 (vp_inN (by omega) (by omega)) ?_
  refine r_aload_n M dL_law_215 rfl ?_
  refine r_iload M dL_law_216 rfl ?_
  refine r_iconst (v := nI 2) M dL_law_218 (by decide) ?_
  refine r_iaddN M dL_law_219 ?_
  refine r_ialdX M dL_law_220 (vp_inN (by omega) (by omega)) ?_
  refine r_aload_n M dL_law_221 rfl ?_
  refine r_callSW (As := [(.ref x), (.int (gX g (nI ((6 * t) + 1)).toNatClampNeg)), (.int (gX g (nI ((6 * t) + 2)).toNatClampNeg)), (.ref o)]) M dL_law_222 rfl (ct_w_setLength hfl h x pL sL ha ow ps ss σ rc hx.1 o ho (gX g (nI ((6 * t) + 1)).toNatClampNeg) (gX g (nI ((6 * t) + 2)).toNatClampNeg)) cw_L_97 ⟨Nat.le_of_ble_eq_true rfl, Nat.le_of_ble_eq_true rfl, Nat.le_of_ble_eq_true rfl⟩ (Nat.le_of_ble_eq_true rfl) ⟨by show _ ≤ 601024; omega, by show _ ≤ 7293034; omega⟩ (fun r1 h1 p1 => ?_) (fun E1 h1 p1 => pWr.no p1)
  obtain ⟨k, er, p1⟩ := p1
  cases er
  obtain ⟨σc, md, d1⟩ := wr_mid rm ho t1 t2 t3 p1
  have rm1 := md.rm
  clear p1
  show V 225 [some (.ref (gN g 4)), some (.ref x), some (.ref m), some (.ref o), some (.int (nI (6 * t))), z5, z6] [(.int (nI k))] h1 _ _
  refine r_istore M dL_law_225 (by decide) ?_
  show V 227 [some (.ref (gN g 4)), some (.ref x), some (.ref m), some (.ref o), some (.int (nI (6 * t))), some (.int (nI k)), z6] _ _ _ _
  refine r_aload_n M dL_law_227 rfl ?_
  refine r_aload_n M dL_law_228 rfl ?_
  refine r_iload M dL_law_229 rfl ?_
  refine r_iconst (v := nI 1) M dL_law_231 (by decide) ?_
  refine r_iaddN M dL_law_232 ?_
  refine r_ialdX M dL_law_233 (vp_inN (by omega) (by omega)) ?_
  refine r_aload_n M dL_law_234 rfl ?_
  refine r_iload M dL_law_235 rfl ?_
  refine r_iconst (v := nI 2) M dL_law_237 (by decide) ?_
  refine r_iaddN M dL_law_238 ?_
  refine r_ialdX M dL_law_239 (vp_inN (by omega) (by omega)) ?_
  refine r_callV (As := [(.int (gX g (nI ((6 * t) + 1)).toNatClampNeg)), (.int (gX g (nI ((6 * t) + 2)).toNatClampNeg))]) M dL_law_240 rfl (cm_setLength hfl h1 m ad σ rm1 hx (gX g (nI ((6 * t) + 1)).toNatClampNeg) (gX g (nI ((6 * t) + 2)).toNatClampNeg)) (rm1.1.1) rfl cw_L_99 ⟨Nat.le_of_ble_eq_true rfl, Nat.le_of_ble_eq_true rfl, Nat.le_of_ble_eq_true rfl⟩ (Nat.le_of_ble_eq_true rfl) ⟨by show _ ≤ 601024; omega, by show _ ≤ 7293034; omega⟩ (fun r2 h2 p2 => ?_) (fun E2 h2 p2 => (pMd.no p2).elim)
  obtain ⟨fr2, v2, er, d2⟩ := p2
  cases er
  refine r_ownE M (fun fE => ?_)
  obtain ⟨li2, hM2, th2, ov2⟩ := mid_end (by decide) md d1 fr2 fE (wx_setLength hx (gX g (nI ((6 * t) + 1)).toNatClampNeg) (gX g (nI ((6 * t) + 2)).toNatClampNeg)) hx d2
  have ho2 : xS h2 o = some (11, 1) := li_o li2
  show V 243 [some (.ref (gN g 4)), some (.ref x), some (.ref m), some (.ref o), some (.int (nI (6 * t))), some (.int (nI k)), z6] [(.int v2)] h2 _ _
  refine r_istore M dL_law_243 (by decide) ?_
  show V 245 [some (.ref (gN g 4)), some (.ref x), some (.ref m), some (.ref o), some (.int (nI (6 * t))), some (.int (nI k)), some (.int v2)] _ _ _ _
  refine r_aload_n M dL_law_245 rfl ?_
  refine r_callV (As := []) M dL_law_246 rfl (cm_thrown hfl h2 m ad hM2 k th2) (hM2.1) rfl cw_L_93 ⟨Nat.le_of_ble_eq_true rfl, Nat.le_of_ble_eq_true rfl, Nat.le_of_ble_eq_true rfl⟩ (Nat.le_of_ble_eq_true rfl) ⟨by show _ ≤ 601024; omega, by show _ ≤ 7293034; omega⟩ (fun r3 h3 p3 => ?_) (fun E3 h3 p3 => False.elim p3)
  obtain ⟨e3, e4⟩ := p3
  rw [e3, ← e4]
  show V 249 [some (.ref (gN g 4)), some (.ref x), some (.ref m), some (.ref o), some (.int (nI (6 * t))), some (.int (nI k)), some (.int v2)] [(.int (nI k))] h2 _ _
  refine r_iload M dL_law_249 rfl ?_
  refine r_icmp_eq (tgt := 256) M dL_law_251 (by decide) (fun _ => ?_) (fun c1 => absurd rfl c1)
  refine r_iload M dL_law_256 rfl ?_
  refine r_if_ne (tgt := 273) M dL_law_258 (by decide) (fun c2 => ?_) (fun c2 => ?_)
  · refine r_goto (tgt := 1580) M dL_law_273 (by decide) ?_
    exact K h2 _ _ _ _ li2 (by omega) (by omega)
  · refine r_aload_n M dL_law_261 rfl ?_
    refine r_iconst (v := nI 0) M dL_law_262 (by decide) ?_
    refine r_laldN M dL_law_263 (ho2) (by omega) (by omega) ?_
    rw [(ov2 c2).1]
    refine r_iload M dL_law_264 rfl ?_
    refine r_i2l M dL_law_266 ?_
    refine r_lcmp M dL_law_267 ?_
    refine r_if_eq (tgt := 273) M dL_law_268 (by decide) (fun _ => ?_) (fun c3 => absurd (by first | exact lg_self _ | decide) c3)
    refine r_goto (tgt := 1580) M dL_law_273 (by decide) ?_
    exact K h2 _ _ _ _ li2 (by omega) (by omega)
set_option maxRecDepth 100000 in
set_option maxHeartbeats 4000000 in
theorem lc_key {g : Gl} {l : Launch} (hfl : l.stackTraces = false) {hh : List (Nat × Nat × Nat × Nat)} {mn : String} {V : VT} {X : XT} (M : Mach g l room_1 RL cL_law 7 hh mn V X) (x m o t : Nat) (ht : 6 * t + 6 ≤ gN g 5) (hL : gN g 5 ≤ 3072) (h : Hp) (li : LwI g h x m o) (kc ks : Nat) (hkc : kc ≤ 601000) (hks : ks ≤ 7290000) (z5 z6 : Option Value) (K : LwK g V x m o t kc ks) : V 276 (LwL g x m o t z5 z6) [] h kc ks := by
  obtain ⟨ad, σ, ⟨ow, pL, sL, ha, ps, ss, rc, rm, ho, t1, t2, t3⟩, hx⟩ := li
  show V 276 [some (.ref (gN g 4)), some (.ref x), some (.ref m), some (.ref o), some (.int (nI (6 * t))), z5, z6] [] h kc ks
  refine r_aload_n M dL_law_276 rfl ?_
  refine r_aload_n M dL_law_277 rfl ?_
  refine r_iload M dL_law_278 rfl ?_
  refine r_iconst (v := nI 1) M dL_law_280 (by decide) ?_
  refine r_iaddN M dL_law_281 ?_
  refine r_ialdX M dL_law_282 (vp_inN (by omega) (by omega)) ?_
  refine r_aload_n M dL_law_283 rfl ?_
  refine r_iload M dL_law_284 rfl ?_
  refine r_iconst (v := nI 2) M dL_law_286 (by decide) ?_
  refine r_iaddN M dL_law_287 ?_
  refine r_ialdX M dL_law_288 (vp_inN (by omega) (by omega)) ?_
  refine r_aload_n M dL_law_289 rfl ?_
  refine r_iload M dL_law_290 rfl ?_
  refine r_iconst (v := nI 3) M dL_law_292 (by decide) ?_
  refine r_iaddN M dL_law_293 ?_
  refine r_ialdX M dL_law_294 (vp_inN (by omega) (by omega)) ?_
  refine r_aload_n M dL_law_295 rfl ?_
  refine r_iload M dL_law_296 rfl ?_
  refine r_iconst (v := nI 4) M dL_law_298 (by decide) ?_
  refine r_iaddN M dL_law_299 ?_
  refine r_ialdX M dL_law_300 (vp_inN (by omega) (by omega)) ?_
  refine r_aload_n M dL_law_301 rfl ?_
  refine r_iload M dL_law_302 rfl ?_
  refine r_iconst (v := nI 5) M dL_law_304 (by decide) ?_
  refine r_iaddN M dL_law_305 ?_
  refine r_ialdX M dL_law_306 (vp_inN (by omega) (by omega)) ?_
  refine r_aload_n M dL_law_307 rfl ?_
  refine r_callSW (As := [(.ref x), (.int (gX g (nI ((6 * t) + 1)).toNatClampNeg)), (.int (gX g (nI ((6 * t) + 2)).toNatClampNeg)), (.int (gX g (nI ((6 * t) + 3)).toNatClampNeg)), (.int (gX g (nI ((6 * t) + 4)).toNatClampNeg)), (.int (gX g (nI ((6 * t) + 5)).toNatClampNeg)), (.ref o)]) M dL_law_308 rfl (ct_w_key hfl h x pL sL ha ow ps ss σ rc hx.1 o ho (gX g (nI ((6 * t) + 1)).toNatClampNeg) (gX g (nI ((6 * t) + 2)).toNatClampNeg) (gX g (nI ((6 * t) + 3)).toNatClampNeg) (gX g (nI ((6 * t) + 4)).toNatClampNeg) (gX g (nI ((6 * t) + 5)).toNatClampNeg)) cw_L_100 ⟨Nat.le_of_ble_eq_true rfl, Nat.le_of_ble_eq_true rfl, Nat.le_of_ble_eq_true rfl⟩ (Nat.le_of_ble_eq_true rfl) ⟨by show _ ≤ 601024; omega, by show _ ≤ 7293034; omega⟩ (fun r1 h1 p1 => ?_) (fun E1 h1 p1 => pWr.no p1)
  obtain ⟨k, er, p1⟩ := p1
  cases er
  obtain ⟨σc, md, d1⟩ := wr_mid rm ho t1 t2 t3 p1
  have rm1 := md.rm
  clear p1
  show V 311 [some (.ref (gN g 4)), some (.ref x), some (.ref m), some (.ref o), some (.int (nI (6 * t))), z5, z6] [(.int (nI k))] h1 _ _
  refine r_istore M dL_law_311 (by decide) ?_
  show V 313 [some (.ref (gN g 4)), some (.ref x), some (.ref m), some (.ref o), some (.int (nI (6 * t))), some (.int (nI k)), z6] _ _ _ _
  refine r_aload_n M dL_law_313 rfl ?_
  refine r_aload_n M dL_law_314 rfl ?_
  refine r_iload M dL_law_315 rfl ?_
  refine r_iconst (v := nI 1) M dL_law_317 (by decide) ?_
  refine r_iaddN M dL_law_318 ?_
  refine r_ialdX M dL_law_319 (vp_inN (by omega) (by omega)) ?_
  refine r_aload_n M dL_law_320 rfl ?_
  refine r_iload M dL_law_321 rfl ?_
  refine r_iconst (v := nI 2) M dL_law_323 (by decide) ?_
  refine r_iaddN M dL_law_324 ?_
  refine r_ialdX M dL_law_325 (vp_inN (by omega) (by omega)) ?_
  refine r_aload_n M dL_law_326 rfl ?_
  refine r_iload M dL_law_327 rfl ?_
  refine r_iconst (v := nI 3) M dL_law_329 (by decide) ?_
  refine r_iaddN M dL_law_330 ?_
  refine r_ialdX M dL_law_331 (vp_inN (by omega) (by omega)) ?_
  refine r_aload_n M dL_law_332 rfl ?_
  refine r_iload M dL_law_333 rfl ?_
  refine r_iconst (v := nI 4) M dL_law_335 (by decide) ?_
  refine r_iaddN M dL_law_336 ?_
  refine r_ialdX M dL_law_337 (vp_inN (by omega) (by omega)) ?_
  refine r_aload_n M dL_law_338 rfl ?_
  refine r_iload M dL_law_339 rfl ?_
  refine r_iconst (v := nI 5) M dL_law_341 (by decide) ?_
  refine r_iaddN M dL_law_342 ?_
  refine r_ialdX M dL_law_343 (vp_inN (by omega) (by omega)) ?_
  refine r_callV (As := [(.int (gX g (nI ((6 * t) + 1)).toNatClampNeg)), (.int (gX g (nI ((6 * t) + 2)).toNatClampNeg)), (.int (gX g (nI ((6 * t) + 3)).toNatClampNeg)), (.int (gX g (nI ((6 * t) + 4)).toNatClampNeg)), (.int (gX g (nI ((6 * t) + 5)).toNatClampNeg))]) M dL_law_344 rfl (cm_key hfl h1 m ad σ rm1 hx (gX g (nI ((6 * t) + 1)).toNatClampNeg) (gX g (nI ((6 * t) + 2)).toNatClampNeg) (gX g (nI ((6 * t) + 3)).toNatClampNeg) (gX g (nI ((6 * t) + 4)).toNatClampNeg) (gX g (nI ((6 * t) + 5)).toNatClampNeg)) (rm1.1.1) rfl cw_L_103 ⟨Nat.le_of_ble_eq_true rfl, Nat.le_of_ble_eq_true rfl, Nat.le_of_ble_eq_true rfl⟩ (Nat.le_of_ble_eq_true rfl) ⟨by show _ ≤ 601024; omega, by show _ ≤ 7293034; omega⟩ (fun r2 h2 p2 => ?_) (fun E2 h2 p2 => (pMd.no p2).elim)
  obtain ⟨fr2, v2, er, d2⟩ := p2
  cases er
  refine r_ownE M (fun fE => ?_)
  obtain ⟨li2, hM2, th2, ov2⟩ := mid_end (by decide) md d1 fr2 fE (wx_key hx (gX g (nI ((6 * t) + 1)).toNatClampNeg) (gX g (nI ((6 * t) + 2)).toNatClampNeg) (gX g (nI ((6 * t) + 3)).toNatClampNeg) (gX g (nI ((6 * t) + 4)).toNatClampNeg) (gX g (nI ((6 * t) + 5)).toNatClampNeg)) hx d2
  have ho2 : xS h2 o = some (11, 1) := li_o li2
  show V 347 [some (.ref (gN g 4)), some (.ref x), some (.ref m), some (.ref o), some (.int (nI (6 * t))), some (.int (nI k)), z6] [(.int v2)] h2 _ _
  refine r_istore M dL_law_347 (by decide) ?_
  show V 349 [some (.ref (gN g 4)), some (.ref x), some (.ref m), some (.ref o), some (.int (nI (6 * t))), some (.int (nI k)), some (.int v2)] _ _ _ _
  refine r_aload_n M dL_law_349 rfl ?_
  refine r_callV (As := []) M dL_law_350 rfl (cm_thrown hfl h2 m ad hM2 k th2) (hM2.1) rfl cw_L_93 ⟨Nat.le_of_ble_eq_true rfl, Nat.le_of_ble_eq_true rfl, Nat.le_of_ble_eq_true rfl⟩ (Nat.le_of_ble_eq_true rfl) ⟨by show _ ≤ 601024; omega, by show _ ≤ 7293034; omega⟩ (fun r3 h3 p3 => ?_) (fun E3 h3 p3 => False.elim p3)
  obtain ⟨e3, e4⟩ := p3
  rw [e3, ← e4]
  show V 353 [some (.ref (gN g 4)), some (.ref x), some (.ref m), some (.ref o), some (.int (nI (6 * t))), some (.int (nI k)), some (.int v2)] [(.int (nI k))] h2 _ _
  refine r_iload M dL_law_353 rfl ?_
  refine r_icmp_eq (tgt := 360) M dL_law_355 (by decide) (fun _ => ?_) (fun c1 => absurd rfl c1)
  refine r_iload M dL_law_360 rfl ?_
  refine r_if_ne (tgt := 377) M dL_law_362 (by decide) (fun c2 => ?_) (fun c2 => ?_)
  · refine r_goto (tgt := 1580) M dL_law_377 (by decide) ?_
    exact K h2 _ _ _ _ li2 (by omega) (by omega)
  · refine r_aload_n M dL_law_365 rfl ?_
    refine r_iconst (v := nI 0) M dL_law_366 (by decide) ?_
    refine r_laldN M dL_law_367 (ho2) (by omega) (by omega) ?_
    rw [(ov2 c2).1]
    refine r_iload M dL_law_368 rfl ?_
    refine r_i2l M dL_law_370 ?_
    refine r_lcmp M dL_law_371 ?_
    refine r_if_eq (tgt := 377) M dL_law_372 (by decide) (fun _ => ?_) (fun c3 => absurd (by first | exact lg_self _ | decide) c3)
    refine r_goto (tgt := 1580) M dL_law_377 (by decide) ?_
    exact K h2 _ _ _ _ li2 (by omega) (by omega)
set_option maxRecDepth 100000 in
set_option maxHeartbeats 4000000 in
theorem lc_cutKey {g : Gl} {l : Launch} (hfl : l.stackTraces = false) {hh : List (Nat × Nat × Nat × Nat)} {mn : String} {V : VT} {X : XT} (M : Mach g l room_1 RL cL_law 7 hh mn V X) (x m o t : Nat) (ht : 6 * t + 6 ≤ gN g 5) (hL : gN g 5 ≤ 3072) (h : Hp) (li : LwI g h x m o) (kc ks : Nat) (hkc : kc ≤ 601000) (hks : ks ≤ 7290000) (z5 z6 : Option Value) (K : LwK g V x m o t kc ks) : V 380 (LwL g x m o t z5 z6) [] h kc ks := by
  obtain ⟨ad, σ, ⟨ow, pL, sL, ha, ps, ss, rc, rm, ho, t1, t2, t3⟩, hx⟩ := li
  show V 380 [some (.ref (gN g 4)), some (.ref x), some (.ref m), some (.ref o), some (.int (nI (6 * t))), z5, z6] [] h kc ks
  refine r_aload_n M dL_law_380 rfl ?_
  refine r_aload_n M dL_law_381 rfl ?_
  refine r_iload M dL_law_382 rfl ?_
  refine r_iconst (v := nI 1) M dL_law_384 (by decide) ?_
  refine r_iaddN M dL_law_385 ?_
  refine r_ialdX M dL_law_386 (vp_inN (by omega) (by omega)) ?_
  refine r_aload_n M dL_law_387 rfl ?_
  refine r_iload M dL_law_388 rfl ?_
  refine r_iconst (v := nI 2) M dL_law_390 (by decide) ?_
  refine r_iaddN M dL_law_391 ?_
  refine r_ialdX M dL_law_392 (vp_inN (by omega) (by omega)) ?_
  refine r_aload_n M dL_law_393 rfl ?_
  refine r_callSW (As := [(.ref x), (.int (gX g (nI ((6 * t) + 1)).toNatClampNeg)), (.int (gX g (nI ((6 * t) + 2)).toNatClampNeg)), (.ref o)]) M dL_law_394 rfl (ct_w_cut hfl h x pL sL ha ow ps ss σ rc hx.1 o ho (gX g (nI ((6 * t) + 1)).toNatClampNeg) (gX g (nI ((6 * t) + 2)).toNatClampNeg)) cw_L_104 ⟨Nat.le_of_ble_eq_true rfl, Nat.le_of_ble_eq_true rfl, Nat.le_of_ble_eq_true rfl⟩ (Nat.le_of_ble_eq_true rfl) ⟨by show _ ≤ 601024; omega, by show _ ≤ 7293034; omega⟩ (fun r1 h1 p1 => ?_) (fun E1 h1 p1 => pWr.no p1)
  obtain ⟨k, er, p1⟩ := p1
  cases er
  obtain ⟨σc, md, d1⟩ := wr_mid rm ho t1 t2 t3 p1
  have rm1 := md.rm
  clear p1
  show V 397 [some (.ref (gN g 4)), some (.ref x), some (.ref m), some (.ref o), some (.int (nI (6 * t))), z5, z6] [(.int (nI k))] h1 _ _
  refine r_istore M dL_law_397 (by decide) ?_
  show V 399 [some (.ref (gN g 4)), some (.ref x), some (.ref m), some (.ref o), some (.int (nI (6 * t))), some (.int (nI k)), z6] _ _ _ _
  refine r_aload_n M dL_law_399 rfl ?_
  refine r_aload_n M dL_law_400 rfl ?_
  refine r_iload M dL_law_401 rfl ?_
  refine r_iconst (v := nI 1) M dL_law_403 (by decide) ?_
  refine r_iaddN M dL_law_404 ?_
  refine r_ialdX M dL_law_405 (vp_inN (by omega) (by omega)) ?_
  refine r_aload_n M dL_law_406 rfl ?_
  refine r_iload M dL_law_407 rfl ?_
  refine r_iconst (v := nI 2) M dL_law_409 (by decide) ?_
  refine r_iaddN M dL_law_410 ?_
  refine r_ialdX M dL_law_411 (vp_inN (by omega) (by omega)) ?_
  refine r_callV (As := [(.int (gX g (nI ((6 * t) + 1)).toNatClampNeg)), (.int (gX g (nI ((6 * t) + 2)).toNatClampNeg))]) M dL_law_412 rfl (cm_cutKey hfl h1 m ad σ rm1 hx (gX g (nI ((6 * t) + 1)).toNatClampNeg) (gX g (nI ((6 * t) + 2)).toNatClampNeg)) (rm1.1.1) rfl cw_L_106 ⟨Nat.le_of_ble_eq_true rfl, Nat.le_of_ble_eq_true rfl, Nat.le_of_ble_eq_true rfl⟩ (Nat.le_of_ble_eq_true rfl) ⟨by show _ ≤ 601024; omega, by show _ ≤ 7293034; omega⟩ (fun r2 h2 p2 => ?_) (fun E2 h2 p2 => (pMd.no p2).elim)
  obtain ⟨fr2, v2, er, d2⟩ := p2
  cases er
  refine r_ownE M (fun fE => ?_)
  obtain ⟨li2, hM2, th2, ov2⟩ := mid_end (by decide) md d1 fr2 fE (wx_cutKey hx (gX g (nI ((6 * t) + 1)).toNatClampNeg) (gX g (nI ((6 * t) + 2)).toNatClampNeg)) hx d2
  have ho2 : xS h2 o = some (11, 1) := li_o li2
  show V 415 [some (.ref (gN g 4)), some (.ref x), some (.ref m), some (.ref o), some (.int (nI (6 * t))), some (.int (nI k)), z6] [(.int v2)] h2 _ _
  refine r_istore M dL_law_415 (by decide) ?_
  show V 417 [some (.ref (gN g 4)), some (.ref x), some (.ref m), some (.ref o), some (.int (nI (6 * t))), some (.int (nI k)), some (.int v2)] _ _ _ _
  refine r_aload_n M dL_law_417 rfl ?_
  refine r_callV (As := []) M dL_law_418 rfl (cm_thrown hfl h2 m ad hM2 k th2) (hM2.1) rfl cw_L_93 ⟨Nat.le_of_ble_eq_true rfl, Nat.le_of_ble_eq_true rfl, Nat.le_of_ble_eq_true rfl⟩ (Nat.le_of_ble_eq_true rfl) ⟨by show _ ≤ 601024; omega, by show _ ≤ 7293034; omega⟩ (fun r3 h3 p3 => ?_) (fun E3 h3 p3 => False.elim p3)
  obtain ⟨e3, e4⟩ := p3
  rw [e3, ← e4]
  show V 421 [some (.ref (gN g 4)), some (.ref x), some (.ref m), some (.ref o), some (.int (nI (6 * t))), some (.int (nI k)), some (.int v2)] [(.int (nI k))] h2 _ _
  refine r_iload M dL_law_421 rfl ?_
  refine r_icmp_eq (tgt := 428) M dL_law_423 (by decide) (fun _ => ?_) (fun c1 => absurd rfl c1)
  refine r_iload M dL_law_428 rfl ?_
  refine r_if_ne (tgt := 445) M dL_law_430 (by decide) (fun c2 => ?_) (fun c2 => ?_)
  · refine r_goto (tgt := 1580) M dL_law_445 (by decide) ?_
    exact K h2 _ _ _ _ li2 (by omega) (by omega)
  · refine r_aload_n M dL_law_433 rfl ?_
    refine r_iconst (v := nI 0) M dL_law_434 (by decide) ?_
    refine r_laldN M dL_law_435 (ho2) (by omega) (by omega) ?_
    rw [(ov2 c2).1]
    refine r_iload M dL_law_436 rfl ?_
    refine r_i2l M dL_law_438 ?_
    refine r_lcmp M dL_law_439 ?_
    refine r_if_eq (tgt := 445) M dL_law_440 (by decide) (fun _ => ?_) (fun c3 => absurd (by first | exact lg_self _ | decide) c3)
    refine r_goto (tgt := 1580) M dL_law_445 (by decide) ?_
    exact K h2 _ _ _ _ li2 (by omega) (by omega)
set_option maxRecDepth 100000 in
set_option maxHeartbeats 4000000 in
theorem lc_hear {g : Gl} {l : Launch} (hfl : l.stackTraces = false) {hh : List (Nat × Nat × Nat × Nat)} {mn : String} {V : VT} {X : XT} (M : Mach g l room_1 RL cL_law 7 hh mn V X) (x m o t : Nat) (ht : 6 * t + 6 ≤ gN g 5) (hL : gN g 5 ≤ 3072) (h : Hp) (li : LwI g h x m o) (kc ks : Nat) (hkc : kc ≤ 601000) (hks : ks ≤ 7290000) (z5 z6 : Option Value) (K : LwK g V x m o t kc ks) : V 448 (LwL g x m o t z5 z6) [] h kc ks := by
  obtain ⟨ad, σ, ⟨ow, pL, sL, ha, ps, ss, rc, rm, ho, t1, t2, t3⟩, hx⟩ := li
  show V 448 [some (.ref (gN g 4)), some (.ref x), some (.ref m), some (.ref o), some (.int (nI (6 * t))), z5, z6] [] h kc ks
  refine r_aload_n M dL_law_448 rfl ?_
  refine r_aload_n M dL_law_449 rfl ?_
  refine r_iload M dL_law_450 rfl ?_
  refine r_iconst (v := nI 1) M dL_law_452 (by decide) ?_
  refine r_iaddN M dL_law_453 ?_
  refine r_ialdX M dL_law_454 (vp_inN (by omega) (by omega)) ?_
  refine r_aload_n M dL_law_455 rfl ?_
  refine r_iload M dL_law_456 rfl ?_
  refine r_iconst (v := nI 2) M dL_law_458 (by decide) ?_
  refine r_iaddN M dL_law_459 ?_
  refine r_ialdX M dL_law_460 (vp_inN (by omega) (by omega)) ?_
  refine r_aload_n M dL_law_461 rfl ?_
  refine r_callSW (As := [(.ref x), (.int (gX g (nI ((6 * t) + 1)).toNatClampNeg)), (.int (gX g (nI ((6 * t) + 2)).toNatClampNeg)), (.ref o)]) M dL_law_462 rfl (ct_w_hear hfl h x pL sL ha ow ps ss σ rc hx.1 o ho (gX g (nI ((6 * t) + 1)).toNatClampNeg) (gX g (nI ((6 * t) + 2)).toNatClampNeg)) cw_L_107 ⟨Nat.le_of_ble_eq_true rfl, Nat.le_of_ble_eq_true rfl, Nat.le_of_ble_eq_true rfl⟩ (Nat.le_of_ble_eq_true rfl) ⟨by show _ ≤ 601024; omega, by show _ ≤ 7293034; omega⟩ (fun r1 h1 p1 => ?_) (fun E1 h1 p1 => pWr.no p1)
  obtain ⟨k, er, p1⟩ := p1
  cases er
  obtain ⟨σc, md, d1⟩ := wr_mid rm ho t1 t2 t3 p1
  have rm1 := md.rm
  clear p1
  show V 465 [some (.ref (gN g 4)), some (.ref x), some (.ref m), some (.ref o), some (.int (nI (6 * t))), z5, z6] [(.int (nI k))] h1 _ _
  refine r_istore M dL_law_465 (by decide) ?_
  show V 467 [some (.ref (gN g 4)), some (.ref x), some (.ref m), some (.ref o), some (.int (nI (6 * t))), some (.int (nI k)), z6] _ _ _ _
  refine r_aload_n M dL_law_467 rfl ?_
  refine r_aload_n M dL_law_468 rfl ?_
  refine r_iload M dL_law_469 rfl ?_
  refine r_iconst (v := nI 1) M dL_law_471 (by decide) ?_
  refine r_iaddN M dL_law_472 ?_
  refine r_ialdX M dL_law_473 (vp_inN (by omega) (by omega)) ?_
  refine r_aload_n M dL_law_474 rfl ?_
  refine r_iload M dL_law_475 rfl ?_
  refine r_iconst (v := nI 2) M dL_law_477 (by decide) ?_
  refine r_iaddN M dL_law_478 ?_
  refine r_ialdX M dL_law_479 (vp_inN (by omega) (by omega)) ?_
  refine r_callV (As := [(.int (gX g (nI ((6 * t) + 1)).toNatClampNeg)), (.int (gX g (nI ((6 * t) + 2)).toNatClampNeg))]) M dL_law_480 rfl (cm_hear hfl h1 m ad σ rm1 hx.1 (gX g (nI ((6 * t) + 1)).toNatClampNeg) (gX g (nI ((6 * t) + 2)).toNatClampNeg)) (rm1.1.1) rfl cw_L_109 ⟨Nat.le_of_ble_eq_true rfl, Nat.le_of_ble_eq_true rfl, Nat.le_of_ble_eq_true rfl⟩ (Nat.le_of_ble_eq_true rfl) ⟨by show _ ≤ 601024; omega, by show _ ≤ 7293034; omega⟩ (fun r2 h2 p2 => ?_) (fun E2 h2 p2 => (pMd.no p2).elim)
  obtain ⟨fr2, v2, er, d2⟩ := p2
  cases er
  refine r_ownE M (fun fE => ?_)
  obtain ⟨li2, hM2, th2, ov2⟩ := mid_end (by decide) md d1 fr2 fE (wx_hear hx (gX g (nI ((6 * t) + 1)).toNatClampNeg) (gX g (nI ((6 * t) + 2)).toNatClampNeg)) hx d2
  have ho2 : xS h2 o = some (11, 1) := li_o li2
  show V 483 [some (.ref (gN g 4)), some (.ref x), some (.ref m), some (.ref o), some (.int (nI (6 * t))), some (.int (nI k)), z6] [(.int v2)] h2 _ _
  refine r_istore M dL_law_483 (by decide) ?_
  show V 485 [some (.ref (gN g 4)), some (.ref x), some (.ref m), some (.ref o), some (.int (nI (6 * t))), some (.int (nI k)), some (.int v2)] _ _ _ _
  refine r_aload_n M dL_law_485 rfl ?_
  refine r_callV (As := []) M dL_law_486 rfl (cm_thrown hfl h2 m ad hM2 k th2) (hM2.1) rfl cw_L_93 ⟨Nat.le_of_ble_eq_true rfl, Nat.le_of_ble_eq_true rfl, Nat.le_of_ble_eq_true rfl⟩ (Nat.le_of_ble_eq_true rfl) ⟨by show _ ≤ 601024; omega, by show _ ≤ 7293034; omega⟩ (fun r3 h3 p3 => ?_) (fun E3 h3 p3 => False.elim p3)
  obtain ⟨e3, e4⟩ := p3
  rw [e3, ← e4]
  show V 489 [some (.ref (gN g 4)), some (.ref x), some (.ref m), some (.ref o), some (.int (nI (6 * t))), some (.int (nI k)), some (.int v2)] [(.int (nI k))] h2 _ _
  refine r_iload M dL_law_489 rfl ?_
  refine r_icmp_eq (tgt := 496) M dL_law_491 (by decide) (fun _ => ?_) (fun c1 => absurd rfl c1)
  refine r_iload M dL_law_496 rfl ?_
  refine r_if_ne (tgt := 513) M dL_law_498 (by decide) (fun c2 => ?_) (fun c2 => ?_)
  · refine r_goto (tgt := 1580) M dL_law_513 (by decide) ?_
    exact K h2 _ _ _ _ li2 (by omega) (by omega)
  · refine r_aload_n M dL_law_501 rfl ?_
    refine r_iconst (v := nI 0) M dL_law_502 (by decide) ?_
    refine r_laldN M dL_law_503 (ho2) (by omega) (by omega) ?_
    rw [(ov2 c2).1]
    refine r_iload M dL_law_504 rfl ?_
    refine r_i2l M dL_law_506 ?_
    refine r_lcmp M dL_law_507 ?_
    refine r_if_eq (tgt := 513) M dL_law_508 (by decide) (fun _ => ?_) (fun c3 => absurd (by first | exact lg_self _ | decide) c3)
    refine r_goto (tgt := 1580) M dL_law_513 (by decide) ?_
    exact K h2 _ _ _ _ li2 (by omega) (by omega)
set_option maxRecDepth 100000 in
set_option maxHeartbeats 4000000 in
theorem lc_cue {g : Gl} {l : Launch} (hfl : l.stackTraces = false) {hh : List (Nat × Nat × Nat × Nat)} {mn : String} {V : VT} {X : XT} (M : Mach g l room_1 RL cL_law 7 hh mn V X) (x m o t : Nat) (ht : 6 * t + 6 ≤ gN g 5) (hL : gN g 5 ≤ 3072) (h : Hp) (li : LwI g h x m o) (kc ks : Nat) (hkc : kc ≤ 601000) (hks : ks ≤ 7290000) (z5 z6 : Option Value) (K : LwK g V x m o t kc ks) : V 516 (LwL g x m o t z5 z6) [] h kc ks := by
  obtain ⟨ad, σ, ⟨ow, pL, sL, ha, ps, ss, rc, rm, ho, t1, t2, t3⟩, hx⟩ := li
  show V 516 [some (.ref (gN g 4)), some (.ref x), some (.ref m), some (.ref o), some (.int (nI (6 * t))), z5, z6] [] h kc ks
  refine r_aload_n M dL_law_516 rfl ?_
  refine r_aload_n M dL_law_517 rfl ?_
  refine r_iload M dL_law_518 rfl ?_
  refine r_iconst (v := nI 1) M dL_law_520 (by decide) ?_
  refine r_iaddN M dL_law_521 ?_
  refine r_ialdX M dL_law_522 (vp_inN (by omega) (by omega)) ?_
  refine r_aload_n M dL_law_523 rfl ?_
  refine r_iload M dL_law_524 rfl ?_
  refine r_iconst (v := nI 2) M dL_law_526 (by decide) ?_
  refine r_iaddN M dL_law_527 ?_
  refine r_ialdX M dL_law_528 (vp_inN (by omega) (by omega)) ?_
  refine r_aload_n M dL_law_529 rfl ?_
  refine r_callSW (As := [(.ref x), (.int (gX g (nI ((6 * t) + 1)).toNatClampNeg)), (.int (gX g (nI ((6 * t) + 2)).toNatClampNeg)), (.ref o)]) M dL_law_530 rfl (ct_w_cue hfl h x pL sL ha ow ps ss σ rc hx.1 o ho (gX g (nI ((6 * t) + 1)).toNatClampNeg) (gX g (nI ((6 * t) + 2)).toNatClampNeg)) cw_L_110 ⟨Nat.le_of_ble_eq_true rfl, Nat.le_of_ble_eq_true rfl, Nat.le_of_ble_eq_true rfl⟩ (Nat.le_of_ble_eq_true rfl) ⟨by show _ ≤ 601024; omega, by show _ ≤ 7293034; omega⟩ (fun r1 h1 p1 => ?_) (fun E1 h1 p1 => pWr.no p1)
  obtain ⟨k, er, p1⟩ := p1
  cases er
  obtain ⟨σc, md, d1⟩ := wr_mid rm ho t1 t2 t3 p1
  have rm1 := md.rm
  clear p1
  show V 533 [some (.ref (gN g 4)), some (.ref x), some (.ref m), some (.ref o), some (.int (nI (6 * t))), z5, z6] [(.int (nI k))] h1 _ _
  refine r_istore M dL_law_533 (by decide) ?_
  show V 535 [some (.ref (gN g 4)), some (.ref x), some (.ref m), some (.ref o), some (.int (nI (6 * t))), some (.int (nI k)), z6] _ _ _ _
  refine r_aload_n M dL_law_535 rfl ?_
  refine r_aload_n M dL_law_536 rfl ?_
  refine r_iload M dL_law_537 rfl ?_
  refine r_iconst (v := nI 1) M dL_law_539 (by decide) ?_
  refine r_iaddN M dL_law_540 ?_
  refine r_ialdX M dL_law_541 (vp_inN (by omega) (by omega)) ?_
  refine r_aload_n M dL_law_542 rfl ?_
  refine r_iload M dL_law_543 rfl ?_
  refine r_iconst (v := nI 2) M dL_law_545 (by decide) ?_
  refine r_iaddN M dL_law_546 ?_
  refine r_ialdX M dL_law_547 (vp_inN (by omega) (by omega)) ?_
  refine r_callV (As := [(.int (gX g (nI ((6 * t) + 1)).toNatClampNeg)), (.int (gX g (nI ((6 * t) + 2)).toNatClampNeg))]) M dL_law_548 rfl (cm_cue hfl h1 m ad σ rm1 hx (gX g (nI ((6 * t) + 1)).toNatClampNeg) (gX g (nI ((6 * t) + 2)).toNatClampNeg)) (rm1.1.1) rfl cw_L_112 ⟨Nat.le_of_ble_eq_true rfl, Nat.le_of_ble_eq_true rfl, Nat.le_of_ble_eq_true rfl⟩ (Nat.le_of_ble_eq_true rfl) ⟨by show _ ≤ 601024; omega, by show _ ≤ 7293034; omega⟩ (fun r2 h2 p2 => ?_) (fun E2 h2 p2 => (pMd.no p2).elim)
  obtain ⟨fr2, v2, er, d2⟩ := p2
  cases er
  refine r_ownE M (fun fE => ?_)
  obtain ⟨li2, hM2, th2, ov2⟩ := mid_end (by decide) md d1 fr2 fE (wx_cue hx (gX g (nI ((6 * t) + 1)).toNatClampNeg) (gX g (nI ((6 * t) + 2)).toNatClampNeg)) hx d2
  have ho2 : xS h2 o = some (11, 1) := li_o li2
  show V 551 [some (.ref (gN g 4)), some (.ref x), some (.ref m), some (.ref o), some (.int (nI (6 * t))), some (.int (nI k)), z6] [(.int v2)] h2 _ _
  refine r_istore M dL_law_551 (by decide) ?_
  show V 553 [some (.ref (gN g 4)), some (.ref x), some (.ref m), some (.ref o), some (.int (nI (6 * t))), some (.int (nI k)), some (.int v2)] _ _ _ _
  refine r_aload_n M dL_law_553 rfl ?_
  refine r_callV (As := []) M dL_law_554 rfl (cm_thrown hfl h2 m ad hM2 k th2) (hM2.1) rfl cw_L_93 ⟨Nat.le_of_ble_eq_true rfl, Nat.le_of_ble_eq_true rfl, Nat.le_of_ble_eq_true rfl⟩ (Nat.le_of_ble_eq_true rfl) ⟨by show _ ≤ 601024; omega, by show _ ≤ 7293034; omega⟩ (fun r3 h3 p3 => ?_) (fun E3 h3 p3 => False.elim p3)
  obtain ⟨e3, e4⟩ := p3
  rw [e3, ← e4]
  show V 557 [some (.ref (gN g 4)), some (.ref x), some (.ref m), some (.ref o), some (.int (nI (6 * t))), some (.int (nI k)), some (.int v2)] [(.int (nI k))] h2 _ _
  refine r_iload M dL_law_557 rfl ?_
  refine r_icmp_eq (tgt := 564) M dL_law_559 (by decide) (fun _ => ?_) (fun c1 => absurd rfl c1)
  refine r_iload M dL_law_564 rfl ?_
  refine r_if_ne (tgt := 581) M dL_law_566 (by decide) (fun c2 => ?_) (fun c2 => ?_)
  · refine r_goto (tgt := 1580) M dL_law_581 (by decide) ?_
    exact K h2 _ _ _ _ li2 (by omega) (by omega)
  · refine r_aload_n M dL_law_569 rfl ?_
    refine r_iconst (v := nI 0) M dL_law_570 (by decide) ?_
    refine r_laldN M dL_law_571 (ho2) (by omega) (by omega) ?_
    rw [(ov2 c2).1]
    refine r_iload M dL_law_572 rfl ?_
    refine r_i2l M dL_law_574 ?_
    refine r_lcmp M dL_law_575 ?_
    refine r_if_eq (tgt := 581) M dL_law_576 (by decide) (fun _ => ?_) (fun c3 => absurd (by first | exact lg_self _ | decide) c3)
    refine r_goto (tgt := 1580) M dL_law_581 (by decide) ?_
    exact K h2 _ _ _ _ li2 (by omega) (by omega)
set_option maxRecDepth 100000 in
set_option maxHeartbeats 4000000 in
theorem lc_show {g : Gl} {l : Launch} (hfl : l.stackTraces = false) {hh : List (Nat × Nat × Nat × Nat)} {mn : String} {V : VT} {X : XT} (M : Mach g l room_1 RL cL_law 7 hh mn V X) (x m o t : Nat) (ht : 6 * t + 6 ≤ gN g 5) (hL : gN g 5 ≤ 3072) (h : Hp) (li : LwI g h x m o) (kc ks : Nat) (hkc : kc ≤ 601000) (hks : ks ≤ 7290000) (z5 z6 : Option Value) (K : LwK g V x m o t kc ks) : V 584 (LwL g x m o t z5 z6) [] h kc ks := by
  obtain ⟨ad, σ, ⟨ow, pL, sL, ha, ps, ss, rc, rm, ho, t1, t2, t3⟩, hx⟩ := li
  show V 584 [some (.ref (gN g 4)), some (.ref x), some (.ref m), some (.ref o), some (.int (nI (6 * t))), z5, z6] [] h kc ks
  refine r_aload_n M dL_law_584 rfl ?_
  refine r_aload_n M dL_law_585 rfl ?_
  refine r_iload M dL_law_586 rfl ?_
  refine r_iconst (v := nI 1) M dL_law_588 (by decide) ?_
  refine r_iaddN M dL_law_589 ?_
  refine r_ialdX M dL_law_590 (vp_inN (by omega) (by omega)) ?_
  refine r_aload_n M dL_law_591 rfl ?_
  refine r_iload M dL_law_592 rfl ?_
  refine r_iconst (v := nI 2) M dL_law_594 (by decide) ?_
  refine r_iaddN M dL_law_595 ?_
  refine r_ialdX M dL_law_596 (vp_inN (by omega) (by omega)) ?_
  refine r_aload_n M dL_law_597 rfl ?_
  refine r_callSW (As := [(.ref x), (.int (gX g (nI ((6 * t) + 1)).toNatClampNeg)), (.int (gX g (nI ((6 * t) + 2)).toNatClampNeg)), (.ref o)]) M dL_law_598 rfl (ct_w_show hfl h x pL sL ha ow ps ss σ rc hx.1 o ho (gX g (nI ((6 * t) + 1)).toNatClampNeg) (gX g (nI ((6 * t) + 2)).toNatClampNeg)) cw_L_113 ⟨Nat.le_of_ble_eq_true rfl, Nat.le_of_ble_eq_true rfl, Nat.le_of_ble_eq_true rfl⟩ (Nat.le_of_ble_eq_true rfl) ⟨by show _ ≤ 601024; omega, by show _ ≤ 7293034; omega⟩ (fun r1 h1 p1 => ?_) (fun E1 h1 p1 => pWr.no p1)
  obtain ⟨k, er, p1⟩ := p1
  cases er
  obtain ⟨σc, md, d1⟩ := wr_mid rm ho t1 t2 t3 p1
  have rm1 := md.rm
  clear p1
  show V 601 [some (.ref (gN g 4)), some (.ref x), some (.ref m), some (.ref o), some (.int (nI (6 * t))), z5, z6] [(.int (nI k))] h1 _ _
  refine r_istore M dL_law_601 (by decide) ?_
  show V 603 [some (.ref (gN g 4)), some (.ref x), some (.ref m), some (.ref o), some (.int (nI (6 * t))), some (.int (nI k)), z6] _ _ _ _
  refine r_aload_n M dL_law_603 rfl ?_
  refine r_aload_n M dL_law_604 rfl ?_
  refine r_iload M dL_law_605 rfl ?_
  refine r_iconst (v := nI 1) M dL_law_607 (by decide) ?_
  refine r_iaddN M dL_law_608 ?_
  refine r_ialdX M dL_law_609 (vp_inN (by omega) (by omega)) ?_
  refine r_aload_n M dL_law_610 rfl ?_
  refine r_iload M dL_law_611 rfl ?_
  refine r_iconst (v := nI 2) M dL_law_613 (by decide) ?_
  refine r_iaddN M dL_law_614 ?_
  refine r_ialdX M dL_law_615 (vp_inN (by omega) (by omega)) ?_
  refine r_callV (As := [(.int (gX g (nI ((6 * t) + 1)).toNatClampNeg)), (.int (gX g (nI ((6 * t) + 2)).toNatClampNeg))]) M dL_law_616 rfl (cm_show hfl h1 m ad σ rm1 hx (gX g (nI ((6 * t) + 1)).toNatClampNeg) (gX g (nI ((6 * t) + 2)).toNatClampNeg)) (rm1.1.1) rfl cw_L_115 ⟨Nat.le_of_ble_eq_true rfl, Nat.le_of_ble_eq_true rfl, Nat.le_of_ble_eq_true rfl⟩ (Nat.le_of_ble_eq_true rfl) ⟨by show _ ≤ 601024; omega, by show _ ≤ 7293034; omega⟩ (fun r2 h2 p2 => ?_) (fun E2 h2 p2 => (pMd.no p2).elim)
  obtain ⟨fr2, v2, er, d2⟩ := p2
  cases er
  refine r_ownE M (fun fE => ?_)
  obtain ⟨li2, hM2, th2, ov2⟩ := mid_end (by decide) md d1 fr2 fE (wx_show hx (gX g (nI ((6 * t) + 1)).toNatClampNeg) (gX g (nI ((6 * t) + 2)).toNatClampNeg)) hx d2
  have ho2 : xS h2 o = some (11, 1) := li_o li2
  show V 619 [some (.ref (gN g 4)), some (.ref x), some (.ref m), some (.ref o), some (.int (nI (6 * t))), some (.int (nI k)), z6] [(.int v2)] h2 _ _
  refine r_istore M dL_law_619 (by decide) ?_
  show V 621 [some (.ref (gN g 4)), some (.ref x), some (.ref m), some (.ref o), some (.int (nI (6 * t))), some (.int (nI k)), some (.int v2)] _ _ _ _
  refine r_aload_n M dL_law_621 rfl ?_
  refine r_callV (As := []) M dL_law_622 rfl (cm_thrown hfl h2 m ad hM2 k th2) (hM2.1) rfl cw_L_93 ⟨Nat.le_of_ble_eq_true rfl, Nat.le_of_ble_eq_true rfl, Nat.le_of_ble_eq_true rfl⟩ (Nat.le_of_ble_eq_true rfl) ⟨by show _ ≤ 601024; omega, by show _ ≤ 7293034; omega⟩ (fun r3 h3 p3 => ?_) (fun E3 h3 p3 => False.elim p3)
  obtain ⟨e3, e4⟩ := p3
  rw [e3, ← e4]
  show V 625 [some (.ref (gN g 4)), some (.ref x), some (.ref m), some (.ref o), some (.int (nI (6 * t))), some (.int (nI k)), some (.int v2)] [(.int (nI k))] h2 _ _
  refine r_iload M dL_law_625 rfl ?_
  refine r_icmp_eq (tgt := 632) M dL_law_627 (by decide) (fun _ => ?_) (fun c1 => absurd rfl c1)
  refine r_iload M dL_law_632 rfl ?_
  refine r_if_ne (tgt := 649) M dL_law_634 (by decide) (fun c2 => ?_) (fun c2 => ?_)
  · refine r_goto (tgt := 1580) M dL_law_649 (by decide) ?_
    exact K h2 _ _ _ _ li2 (by omega) (by omega)
  · refine r_aload_n M dL_law_637 rfl ?_
    refine r_iconst (v := nI 0) M dL_law_638 (by decide) ?_
    refine r_laldN M dL_law_639 (ho2) (by omega) (by omega) ?_
    rw [(ov2 c2).1]
    refine r_iload M dL_law_640 rfl ?_
    refine r_i2l M dL_law_642 ?_
    refine r_lcmp M dL_law_643 ?_
    refine r_if_eq (tgt := 649) M dL_law_644 (by decide) (fun _ => ?_) (fun c3 => absurd (by first | exact lg_self _ | decide) c3)
    refine r_goto (tgt := 1580) M dL_law_649 (by decide) ?_
    exact K h2 _ _ _ _ li2 (by omega) (by omega)
set_option maxRecDepth 100000 in
set_option maxHeartbeats 4000000 in
theorem lc_cast {g : Gl} {l : Launch} (hfl : l.stackTraces = false) {hh : List (Nat × Nat × Nat × Nat)} {mn : String} {V : VT} {X : XT} (M : Mach g l room_1 RL cL_law 7 hh mn V X) (x m o t : Nat) (ht : 6 * t + 6 ≤ gN g 5) (hL : gN g 5 ≤ 3072) (h : Hp) (li : LwI g h x m o) (kc ks : Nat) (hkc : kc ≤ 601000) (hks : ks ≤ 7290000) (z5 z6 : Option Value) (K : LwK g V x m o t kc ks) : V 652 (LwL g x m o t z5 z6) [] h kc ks := by
  obtain ⟨ad, σ, ⟨ow, pL, sL, ha, ps, ss, rc, rm, ho, t1, t2, t3⟩, hx⟩ := li
  show V 652 [some (.ref (gN g 4)), some (.ref x), some (.ref m), some (.ref o), some (.int (nI (6 * t))), z5, z6] [] h kc ks
  refine r_aload_n M dL_law_652 rfl ?_
  refine r_aload_n M dL_law_653 rfl ?_
  refine r_iload M dL_law_654 rfl ?_
  refine r_iconst (v := nI 1) M dL_law_656 (by decide) ?_
  refine r_iaddN M dL_law_657 ?_
  refine r_ialdX M dL_law_658 (vp_inN (by omega) (by omega)) ?_
  refine r_aload_n M dL_law_659 rfl ?_
  refine r_iload M dL_law_660 rfl ?_
  refine r_iconst (v := nI 2) M dL_law_662 (by decide) ?_
  refine r_iaddN M dL_law_663 ?_
  refine r_ialdX M dL_law_664 (vp_inN (by omega) (by omega)) ?_
  refine r_aload_n M dL_law_665 rfl ?_
  refine r_callSW (As := [(.ref x), (.int (gX g (nI ((6 * t) + 1)).toNatClampNeg)), (.int (gX g (nI ((6 * t) + 2)).toNatClampNeg)), (.ref o)]) M dL_law_666 rfl (ct_w_cast hfl h x pL sL ha ow ps ss σ rc hx.1 o ho (gX g (nI ((6 * t) + 1)).toNatClampNeg) (gX g (nI ((6 * t) + 2)).toNatClampNeg)) cw_L_116 ⟨Nat.le_of_ble_eq_true rfl, Nat.le_of_ble_eq_true rfl, Nat.le_of_ble_eq_true rfl⟩ (Nat.le_of_ble_eq_true rfl) ⟨by show _ ≤ 601024; omega, by show _ ≤ 7293034; omega⟩ (fun r1 h1 p1 => ?_) (fun E1 h1 p1 => pWr.no p1)
  obtain ⟨k, er, p1⟩ := p1
  cases er
  obtain ⟨σc, md, d1⟩ := wr_mid rm ho t1 t2 t3 p1
  have rm1 := md.rm
  clear p1
  show V 669 [some (.ref (gN g 4)), some (.ref x), some (.ref m), some (.ref o), some (.int (nI (6 * t))), z5, z6] [(.int (nI k))] h1 _ _
  refine r_istore M dL_law_669 (by decide) ?_
  show V 671 [some (.ref (gN g 4)), some (.ref x), some (.ref m), some (.ref o), some (.int (nI (6 * t))), some (.int (nI k)), z6] _ _ _ _
  refine r_aload_n M dL_law_671 rfl ?_
  refine r_aload_n M dL_law_672 rfl ?_
  refine r_iload M dL_law_673 rfl ?_
  refine r_iconst (v := nI 1) M dL_law_675 (by decide) ?_
  refine r_iaddN M dL_law_676 ?_
  refine r_ialdX M dL_law_677 (vp_inN (by omega) (by omega)) ?_
  refine r_aload_n M dL_law_678 rfl ?_
  refine r_iload M dL_law_679 rfl ?_
  refine r_iconst (v := nI 2) M dL_law_681 (by decide) ?_
  refine r_iaddN M dL_law_682 ?_
  refine r_ialdX M dL_law_683 (vp_inN (by omega) (by omega)) ?_
  refine r_callV (As := [(.int (gX g (nI ((6 * t) + 1)).toNatClampNeg)), (.int (gX g (nI ((6 * t) + 2)).toNatClampNeg))]) M dL_law_684 rfl (cm_cast hfl h1 m ad σ rm1 hx.1 (gX g (nI ((6 * t) + 1)).toNatClampNeg) (gX g (nI ((6 * t) + 2)).toNatClampNeg)) (rm1.1.1) rfl cw_L_118 ⟨Nat.le_of_ble_eq_true rfl, Nat.le_of_ble_eq_true rfl, Nat.le_of_ble_eq_true rfl⟩ (Nat.le_of_ble_eq_true rfl) ⟨by show _ ≤ 601024; omega, by show _ ≤ 7293034; omega⟩ (fun r2 h2 p2 => ?_) (fun E2 h2 p2 => (pMd.no p2).elim)
  obtain ⟨fr2, v2, er, d2⟩ := p2
  cases er
  refine r_ownE M (fun fE => ?_)
  obtain ⟨li2, hM2, th2, ov2⟩ := mid_end (by decide) md d1 fr2 fE (wx_cast hx (gX g (nI ((6 * t) + 1)).toNatClampNeg) (gX g (nI ((6 * t) + 2)).toNatClampNeg)) hx d2
  have ho2 : xS h2 o = some (11, 1) := li_o li2
  show V 687 [some (.ref (gN g 4)), some (.ref x), some (.ref m), some (.ref o), some (.int (nI (6 * t))), some (.int (nI k)), z6] [(.int v2)] h2 _ _
  refine r_istore M dL_law_687 (by decide) ?_
  show V 689 [some (.ref (gN g 4)), some (.ref x), some (.ref m), some (.ref o), some (.int (nI (6 * t))), some (.int (nI k)), some (.int v2)] _ _ _ _
  refine r_aload_n M dL_law_689 rfl ?_
  refine r_callV (As := []) M dL_law_690 rfl (cm_thrown hfl h2 m ad hM2 k th2) (hM2.1) rfl cw_L_93 ⟨Nat.le_of_ble_eq_true rfl, Nat.le_of_ble_eq_true rfl, Nat.le_of_ble_eq_true rfl⟩ (Nat.le_of_ble_eq_true rfl) ⟨by show _ ≤ 601024; omega, by show _ ≤ 7293034; omega⟩ (fun r3 h3 p3 => ?_) (fun E3 h3 p3 => False.elim p3)
  obtain ⟨e3, e4⟩ := p3
  rw [e3, ← e4]
  show V 693 [some (.ref (gN g 4)), some (.ref x), some (.ref m), some (.ref o), some (.int (nI (6 * t))), some (.int (nI k)), some (.int v2)] [(.int (nI k))] h2 _ _
  refine r_iload M dL_law_693 rfl ?_
  refine r_icmp_eq (tgt := 700) M dL_law_695 (by decide) (fun _ => ?_) (fun c1 => absurd rfl c1)
  refine r_iload M dL_law_700 rfl ?_
  refine r_if_ne (tgt := 717) M dL_law_702 (by decide) (fun c2 => ?_) (fun c2 => ?_)
  · refine r_goto (tgt := 1580) M dL_law_717 (by decide) ?_
    exact K h2 _ _ _ _ li2 (by omega) (by omega)
  · refine r_aload_n M dL_law_705 rfl ?_
    refine r_iconst (v := nI 0) M dL_law_706 (by decide) ?_
    refine r_laldN M dL_law_707 (ho2) (by omega) (by omega) ?_
    rw [(ov2 c2).1]
    refine r_iload M dL_law_708 rfl ?_
    refine r_i2l M dL_law_710 ?_
    refine r_lcmp M dL_law_711 ?_
    refine r_if_eq (tgt := 717) M dL_law_712 (by decide) (fun _ => ?_) (fun c3 => absurd (by first | exact lg_self _ | decide) c3)
    refine r_goto (tgt := 1580) M dL_law_717 (by decide) ?_
    exact K h2 _ _ _ _ li2 (by omega) (by omega)
set_option maxRecDepth 100000 in
set_option maxHeartbeats 4000000 in
theorem lc_leave {g : Gl} {l : Launch} (hfl : l.stackTraces = false) {hh : List (Nat × Nat × Nat × Nat)} {mn : String} {V : VT} {X : XT} (M : Mach g l room_1 RL cL_law 7 hh mn V X) (x m o t : Nat) (ht : 6 * t + 6 ≤ gN g 5) (hL : gN g 5 ≤ 3072) (h : Hp) (li : LwI g h x m o) (kc ks : Nat) (hkc : kc ≤ 601000) (hks : ks ≤ 7290000) (z5 z6 : Option Value) (K : LwK g V x m o t kc ks) : V 720 (LwL g x m o t z5 z6) [] h kc ks := by
  obtain ⟨ad, σ, ⟨ow, pL, sL, ha, ps, ss, rc, rm, ho, t1, t2, t3⟩, hx⟩ := li
  show V 720 [some (.ref (gN g 4)), some (.ref x), some (.ref m), some (.ref o), some (.int (nI (6 * t))), z5, z6] [] h kc ks
  refine r_aload_n M dL_law_720 rfl ?_
  refine r_aload_n M dL_law_721 rfl ?_
  refine r_iload M dL_law_722 rfl ?_
  refine r_iconst (v := nI 1) M dL_law_724 (by decide) ?_
  refine r_iaddN M dL_law_725 ?_
  refine r_ialdX M dL_law_726 (vp_inN (by omega) (by omega)) ?_
  refine r_aload_n M dL_law_727 rfl ?_
  refine r_iload M dL_law_728 rfl ?_
  refine r_iconst (v := nI 2) M dL_law_730 (by decide) ?_
  refine r_iaddN M dL_law_731 ?_
  refine r_ialdX M dL_law_732 (vp_inN (by omega) (by omega)) ?_
  refine r_aload_n M dL_law_733 rfl ?_
  refine r_callSW (As := [(.ref x), (.int (gX g (nI ((6 * t) + 1)).toNatClampNeg)), (.int (gX g (nI ((6 * t) + 2)).toNatClampNeg)), (.ref o)]) M dL_law_734 rfl (ct_w_leave hfl h x pL sL ha ow ps ss σ rc hx.1 o ho (gX g (nI ((6 * t) + 1)).toNatClampNeg) (gX g (nI ((6 * t) + 2)).toNatClampNeg)) cw_L_119 ⟨Nat.le_of_ble_eq_true rfl, Nat.le_of_ble_eq_true rfl, Nat.le_of_ble_eq_true rfl⟩ (Nat.le_of_ble_eq_true rfl) ⟨by show _ ≤ 601024; omega, by show _ ≤ 7293034; omega⟩ (fun r1 h1 p1 => ?_) (fun E1 h1 p1 => pWr.no p1)
  obtain ⟨k, er, p1⟩ := p1
  cases er
  obtain ⟨σc, md, d1⟩ := wr_mid rm ho t1 t2 t3 p1
  have rm1 := md.rm
  clear p1
  show V 737 [some (.ref (gN g 4)), some (.ref x), some (.ref m), some (.ref o), some (.int (nI (6 * t))), z5, z6] [(.int (nI k))] h1 _ _
  refine r_istore M dL_law_737 (by decide) ?_
  show V 739 [some (.ref (gN g 4)), some (.ref x), some (.ref m), some (.ref o), some (.int (nI (6 * t))), some (.int (nI k)), z6] _ _ _ _
  refine r_aload_n M dL_law_739 rfl ?_
  refine r_aload_n M dL_law_740 rfl ?_
  refine r_iload M dL_law_741 rfl ?_
  refine r_iconst (v := nI 1) M dL_law_743 (by decide) ?_
  refine r_iaddN M dL_law_744 ?_
  refine r_ialdX M dL_law_745 (vp_inN (by omega) (by omega)) ?_
  refine r_aload_n M dL_law_746 rfl ?_
  refine r_iload M dL_law_747 rfl ?_
  refine r_iconst (v := nI 2) M dL_law_749 (by decide) ?_
  refine r_iaddN M dL_law_750 ?_
  refine r_ialdX M dL_law_751 (vp_inN (by omega) (by omega)) ?_
  refine r_callV (As := [(.int (gX g (nI ((6 * t) + 1)).toNatClampNeg)), (.int (gX g (nI ((6 * t) + 2)).toNatClampNeg))]) M dL_law_752 rfl (cm_leave hfl h1 m ad σ rm1 hx.1 (gX g (nI ((6 * t) + 1)).toNatClampNeg) (gX g (nI ((6 * t) + 2)).toNatClampNeg)) (rm1.1.1) rfl cw_L_121 ⟨Nat.le_of_ble_eq_true rfl, Nat.le_of_ble_eq_true rfl, Nat.le_of_ble_eq_true rfl⟩ (Nat.le_of_ble_eq_true rfl) ⟨by show _ ≤ 601024; omega, by show _ ≤ 7293034; omega⟩ (fun r2 h2 p2 => ?_) (fun E2 h2 p2 => (pMd.no p2).elim)
  obtain ⟨fr2, v2, er, d2⟩ := p2
  cases er
  refine r_ownE M (fun fE => ?_)
  obtain ⟨li2, hM2, th2, ov2⟩ := mid_end (by decide) md d1 fr2 fE (wx_leave hx (gX g (nI ((6 * t) + 1)).toNatClampNeg) (gX g (nI ((6 * t) + 2)).toNatClampNeg)) hx d2
  have ho2 : xS h2 o = some (11, 1) := li_o li2
  show V 755 [some (.ref (gN g 4)), some (.ref x), some (.ref m), some (.ref o), some (.int (nI (6 * t))), some (.int (nI k)), z6] [(.int v2)] h2 _ _
  refine r_istore M dL_law_755 (by decide) ?_
  show V 757 [some (.ref (gN g 4)), some (.ref x), some (.ref m), some (.ref o), some (.int (nI (6 * t))), some (.int (nI k)), some (.int v2)] _ _ _ _
  refine r_aload_n M dL_law_757 rfl ?_
  refine r_callV (As := []) M dL_law_758 rfl (cm_thrown hfl h2 m ad hM2 k th2) (hM2.1) rfl cw_L_93 ⟨Nat.le_of_ble_eq_true rfl, Nat.le_of_ble_eq_true rfl, Nat.le_of_ble_eq_true rfl⟩ (Nat.le_of_ble_eq_true rfl) ⟨by show _ ≤ 601024; omega, by show _ ≤ 7293034; omega⟩ (fun r3 h3 p3 => ?_) (fun E3 h3 p3 => False.elim p3)
  obtain ⟨e3, e4⟩ := p3
  rw [e3, ← e4]
  show V 761 [some (.ref (gN g 4)), some (.ref x), some (.ref m), some (.ref o), some (.int (nI (6 * t))), some (.int (nI k)), some (.int v2)] [(.int (nI k))] h2 _ _
  refine r_iload M dL_law_761 rfl ?_
  refine r_icmp_eq (tgt := 768) M dL_law_763 (by decide) (fun _ => ?_) (fun c1 => absurd rfl c1)
  refine r_iload M dL_law_768 rfl ?_
  refine r_if_ne (tgt := 785) M dL_law_770 (by decide) (fun c2 => ?_) (fun c2 => ?_)
  · refine r_goto (tgt := 1580) M dL_law_785 (by decide) ?_
    exact K h2 _ _ _ _ li2 (by omega) (by omega)
  · refine r_aload_n M dL_law_773 rfl ?_
    refine r_iconst (v := nI 0) M dL_law_774 (by decide) ?_
    refine r_laldN M dL_law_775 (ho2) (by omega) (by omega) ?_
    rw [(ov2 c2).1]
    refine r_iload M dL_law_776 rfl ?_
    refine r_i2l M dL_law_778 ?_
    refine r_lcmp M dL_law_779 ?_
    refine r_if_eq (tgt := 785) M dL_law_780 (by decide) (fun _ => ?_) (fun c3 => absurd (by first | exact lg_self _ | decide) c3)
    refine r_goto (tgt := 1580) M dL_law_785 (by decide) ?_
    exact K h2 _ _ _ _ li2 (by omega) (by omega)
set_option maxRecDepth 100000 in
set_option maxHeartbeats 4000000 in
theorem lc_sell {g : Gl} {l : Launch} (hfl : l.stackTraces = false) {hh : List (Nat × Nat × Nat × Nat)} {mn : String} {V : VT} {X : XT} (M : Mach g l room_1 RL cL_law 7 hh mn V X) (x m o t : Nat) (ht : 6 * t + 6 ≤ gN g 5) (hL : gN g 5 ≤ 3072) (h : Hp) (li : LwI g h x m o) (kc ks : Nat) (hkc : kc ≤ 601000) (hks : ks ≤ 7290000) (z5 z6 : Option Value) (K : LwK g V x m o t kc ks) : V 788 (LwL g x m o t z5 z6) [] h kc ks := by
  obtain ⟨ad, σ, ⟨ow, pL, sL, ha, ps, ss, rc, rm, ho, t1, t2, t3⟩, hx⟩ := li
  show V 788 [some (.ref (gN g 4)), some (.ref x), some (.ref m), some (.ref o), some (.int (nI (6 * t))), z5, z6] [] h kc ks
  refine r_aload_n M dL_law_788 rfl ?_
  refine r_aload_n M dL_law_789 rfl ?_
  refine r_iload M dL_law_790 rfl ?_
  refine r_iconst (v := nI 1) M dL_law_792 (by decide) ?_
  refine r_iaddN M dL_law_793 ?_
  refine r_ialdX M dL_law_794 (vp_inN (by omega) (by omega)) ?_
  refine r_aload_n M dL_law_795 rfl ?_
  refine r_iload M dL_law_796 rfl ?_
  refine r_iconst (v := nI 2) M dL_law_798 (by decide) ?_
  refine r_iaddN M dL_law_799 ?_
  refine r_ialdX M dL_law_800 (vp_inN (by omega) (by omega)) ?_
  refine r_aload_n M dL_law_801 rfl ?_
  refine r_iload M dL_law_802 rfl ?_
  refine r_iconst (v := nI 3) M dL_law_804 (by decide) ?_
  refine r_iaddN M dL_law_805 ?_
  refine r_ialdX M dL_law_806 (vp_inN (by omega) (by omega)) ?_
  refine r_aload_n M dL_law_807 rfl ?_
  refine r_callSW (As := [(.ref x), (.int (gX g (nI ((6 * t) + 1)).toNatClampNeg)), (.int (gX g (nI ((6 * t) + 2)).toNatClampNeg)), (.int (gX g (nI ((6 * t) + 3)).toNatClampNeg)), (.ref o)]) M dL_law_808 rfl (ct_w_sell hfl h x pL sL ha ow ps ss σ rc hx.1 o ho (gX g (nI ((6 * t) + 1)).toNatClampNeg) (gX g (nI ((6 * t) + 2)).toNatClampNeg) (gX g (nI ((6 * t) + 3)).toNatClampNeg)) cw_L_122 ⟨Nat.le_of_ble_eq_true rfl, Nat.le_of_ble_eq_true rfl, Nat.le_of_ble_eq_true rfl⟩ (Nat.le_of_ble_eq_true rfl) ⟨by show _ ≤ 601024; omega, by show _ ≤ 7293034; omega⟩ (fun r1 h1 p1 => ?_) (fun E1 h1 p1 => pWr.no p1)
  obtain ⟨k, er, p1⟩ := p1
  cases er
  obtain ⟨σc, md, d1⟩ := wr_mid rm ho t1 t2 t3 p1
  have rm1 := md.rm
  clear p1
  show V 811 [some (.ref (gN g 4)), some (.ref x), some (.ref m), some (.ref o), some (.int (nI (6 * t))), z5, z6] [(.int (nI k))] h1 _ _
  refine r_istore M dL_law_811 (by decide) ?_
  show V 813 [some (.ref (gN g 4)), some (.ref x), some (.ref m), some (.ref o), some (.int (nI (6 * t))), some (.int (nI k)), z6] _ _ _ _
  refine r_aload_n M dL_law_813 rfl ?_
  refine r_aload_n M dL_law_814 rfl ?_
  refine r_iload M dL_law_815 rfl ?_
  refine r_iconst (v := nI 1) M dL_law_817 (by decide) ?_
  refine r_iaddN M dL_law_818 ?_
  refine r_ialdX M dL_law_819 (vp_inN (by omega) (by omega)) ?_
  refine r_aload_n M dL_law_820 rfl ?_
  refine r_iload M dL_law_821 rfl ?_
  refine r_iconst (v := nI 2) M dL_law_823 (by decide) ?_
  refine r_iaddN M dL_law_824 ?_
  refine r_ialdX M dL_law_825 (vp_inN (by omega) (by omega)) ?_
  refine r_aload_n M dL_law_826 rfl ?_
  refine r_iload M dL_law_827 rfl ?_
  refine r_iconst (v := nI 3) M dL_law_829 (by decide) ?_
  refine r_iaddN M dL_law_830 ?_
  refine r_ialdX M dL_law_831 (vp_inN (by omega) (by omega)) ?_
  refine r_callV (As := [(.int (gX g (nI ((6 * t) + 1)).toNatClampNeg)), (.int (gX g (nI ((6 * t) + 2)).toNatClampNeg)), (.int (gX g (nI ((6 * t) + 3)).toNatClampNeg))]) M dL_law_832 rfl (cm_sell hfl h1 m ad σ rm1 hx.1 (gX g (nI ((6 * t) + 1)).toNatClampNeg) (gX g (nI ((6 * t) + 2)).toNatClampNeg) (gX g (nI ((6 * t) + 3)).toNatClampNeg)) (rm1.1.1) rfl cw_L_125 ⟨Nat.le_of_ble_eq_true rfl, Nat.le_of_ble_eq_true rfl, Nat.le_of_ble_eq_true rfl⟩ (Nat.le_of_ble_eq_true rfl) ⟨by show _ ≤ 601024; omega, by show _ ≤ 7293034; omega⟩ (fun r2 h2 p2 => ?_) (fun E2 h2 p2 => (pMd.no p2).elim)
  obtain ⟨fr2, v2, er, d2⟩ := p2
  cases er
  refine r_ownE M (fun fE => ?_)
  obtain ⟨li2, hM2, th2, ov2⟩ := mid_end (by decide) md d1 fr2 fE (wx_sell hx (gX g (nI ((6 * t) + 1)).toNatClampNeg) (gX g (nI ((6 * t) + 2)).toNatClampNeg) (gX g (nI ((6 * t) + 3)).toNatClampNeg)) hx d2
  have ho2 : xS h2 o = some (11, 1) := li_o li2
  show V 835 [some (.ref (gN g 4)), some (.ref x), some (.ref m), some (.ref o), some (.int (nI (6 * t))), some (.int (nI k)), z6] [(.int v2)] h2 _ _
  refine r_istore M dL_law_835 (by decide) ?_
  show V 837 [some (.ref (gN g 4)), some (.ref x), some (.ref m), some (.ref o), some (.int (nI (6 * t))), some (.int (nI k)), some (.int v2)] _ _ _ _
  refine r_aload_n M dL_law_837 rfl ?_
  refine r_callV (As := []) M dL_law_838 rfl (cm_thrown hfl h2 m ad hM2 k th2) (hM2.1) rfl cw_L_93 ⟨Nat.le_of_ble_eq_true rfl, Nat.le_of_ble_eq_true rfl, Nat.le_of_ble_eq_true rfl⟩ (Nat.le_of_ble_eq_true rfl) ⟨by show _ ≤ 601024; omega, by show _ ≤ 7293034; omega⟩ (fun r3 h3 p3 => ?_) (fun E3 h3 p3 => False.elim p3)
  obtain ⟨e3, e4⟩ := p3
  rw [e3, ← e4]
  show V 841 [some (.ref (gN g 4)), some (.ref x), some (.ref m), some (.ref o), some (.int (nI (6 * t))), some (.int (nI k)), some (.int v2)] [(.int (nI k))] h2 _ _
  refine r_iload M dL_law_841 rfl ?_
  refine r_icmp_eq (tgt := 848) M dL_law_843 (by decide) (fun _ => ?_) (fun c1 => absurd rfl c1)
  refine r_iload M dL_law_848 rfl ?_
  refine r_if_ne (tgt := 865) M dL_law_850 (by decide) (fun c2 => ?_) (fun c2 => ?_)
  · refine r_goto (tgt := 1580) M dL_law_865 (by decide) ?_
    exact K h2 _ _ _ _ li2 (by omega) (by omega)
  · refine r_aload_n M dL_law_853 rfl ?_
    refine r_iconst (v := nI 0) M dL_law_854 (by decide) ?_
    refine r_laldN M dL_law_855 (ho2) (by omega) (by omega) ?_
    rw [(ov2 c2).1]
    refine r_iload M dL_law_856 rfl ?_
    refine r_i2l M dL_law_858 ?_
    refine r_lcmp M dL_law_859 ?_
    refine r_if_eq (tgt := 865) M dL_law_860 (by decide) (fun _ => ?_) (fun c3 => absurd (by first | exact lg_self _ | decide) c3)
    refine r_goto (tgt := 1580) M dL_law_865 (by decide) ?_
    exact K h2 _ _ _ _ li2 (by omega) (by omega)
set_option maxRecDepth 100000 in
set_option maxHeartbeats 4000000 in
theorem lc_perform {g : Gl} {l : Launch} (hfl : l.stackTraces = false) {hh : List (Nat × Nat × Nat × Nat)} {mn : String} {V : VT} {X : XT} (M : Mach g l room_1 RL cL_law 7 hh mn V X) (x m o t : Nat) (ht : 6 * t + 6 ≤ gN g 5) (hL : gN g 5 ≤ 3072) (h : Hp) (li : LwI g h x m o) (kc ks : Nat) (hkc : kc ≤ 601000) (hks : ks ≤ 7290000) (z5 z6 : Option Value) (K : LwK g V x m o t kc ks) : V 868 (LwL g x m o t z5 z6) [] h kc ks := by
  obtain ⟨ad, σ, ⟨ow, pL, sL, ha, ps, ss, rc, rm, ho, t1, t2, t3⟩, hx⟩ := li
  show V 868 [some (.ref (gN g 4)), some (.ref x), some (.ref m), some (.ref o), some (.int (nI (6 * t))), z5, z6] [] h kc ks
  refine r_aload_n M dL_law_868 rfl ?_
  refine r_aload_n M dL_law_869 rfl ?_
  refine r_iload M dL_law_870 rfl ?_
  refine r_iconst (v := nI 1) M dL_law_872 (by decide) ?_
  refine r_iaddN M dL_law_873 ?_
  refine r_ialdX M dL_law_874 (vp_inN (by omega) (by omega)) ?_
  refine r_aload_n M dL_law_875 rfl ?_
  refine r_callSW (As := [(.ref x), (.int (gX g (nI ((6 * t) + 1)).toNatClampNeg)), (.ref o)]) M dL_law_876 rfl (ct_w_perform hfl h x pL sL ha ow ps ss σ rc hx.1 o ho (gX g (nI ((6 * t) + 1)).toNatClampNeg)) cw_L_126 ⟨Nat.le_of_ble_eq_true rfl, Nat.le_of_ble_eq_true rfl, Nat.le_of_ble_eq_true rfl⟩ (Nat.le_of_ble_eq_true rfl) ⟨by show _ ≤ 601024; omega, by show _ ≤ 7293034; omega⟩ (fun r1 h1 p1 => ?_) (fun E1 h1 p1 => pWr.no p1)
  obtain ⟨k, er, p1⟩ := p1
  cases er
  obtain ⟨σc, md, d1⟩ := wr_mid rm ho t1 t2 t3 p1
  have rm1 := md.rm
  clear p1
  show V 879 [some (.ref (gN g 4)), some (.ref x), some (.ref m), some (.ref o), some (.int (nI (6 * t))), z5, z6] [(.int (nI k))] h1 _ _
  refine r_istore M dL_law_879 (by decide) ?_
  show V 881 [some (.ref (gN g 4)), some (.ref x), some (.ref m), some (.ref o), some (.int (nI (6 * t))), some (.int (nI k)), z6] _ _ _ _
  refine r_aload_n M dL_law_881 rfl ?_
  refine r_aload_n M dL_law_882 rfl ?_
  refine r_iload M dL_law_883 rfl ?_
  refine r_iconst (v := nI 1) M dL_law_885 (by decide) ?_
  refine r_iaddN M dL_law_886 ?_
  refine r_ialdX M dL_law_887 (vp_inN (by omega) (by omega)) ?_
  refine r_callV (As := [(.int (gX g (nI ((6 * t) + 1)).toNatClampNeg))]) M dL_law_888 rfl (cm_perform hfl h1 m ad σ rm1 hx (gX g (nI ((6 * t) + 1)).toNatClampNeg)) (rm1.1.1) rfl cw_L_129 ⟨Nat.le_of_ble_eq_true rfl, Nat.le_of_ble_eq_true rfl, Nat.le_of_ble_eq_true rfl⟩ (Nat.le_of_ble_eq_true rfl) ⟨by show _ ≤ 601024; omega, by show _ ≤ 7293034; omega⟩ (fun r2 h2 p2 => ?_) (fun E2 h2 p2 => (pMd.no p2).elim)
  obtain ⟨fr2, v2, er, d2⟩ := p2
  cases er
  refine r_ownE M (fun fE => ?_)
  obtain ⟨li2, hM2, th2, ov2⟩ := mid_end (by decide) md d1 fr2 fE (wx_perform hx (gX g (nI ((6 * t) + 1)).toNatClampNeg)) hx d2
  have ho2 : xS h2 o = some (11, 1) := li_o li2
  show V 891 [some (.ref (gN g 4)), some (.ref x), some (.ref m), some (.ref o), some (.int (nI (6 * t))), some (.int (nI k)), z6] [(.int v2)] h2 _ _
  refine r_istore M dL_law_891 (by decide) ?_
  show V 893 [some (.ref (gN g 4)), some (.ref x), some (.ref m), some (.ref o), some (.int (nI (6 * t))), some (.int (nI k)), some (.int v2)] _ _ _ _
  refine r_aload_n M dL_law_893 rfl ?_
  refine r_callV (As := []) M dL_law_894 rfl (cm_thrown hfl h2 m ad hM2 k th2) (hM2.1) rfl cw_L_93 ⟨Nat.le_of_ble_eq_true rfl, Nat.le_of_ble_eq_true rfl, Nat.le_of_ble_eq_true rfl⟩ (Nat.le_of_ble_eq_true rfl) ⟨by show _ ≤ 601024; omega, by show _ ≤ 7293034; omega⟩ (fun r3 h3 p3 => ?_) (fun E3 h3 p3 => False.elim p3)
  obtain ⟨e3, e4⟩ := p3
  rw [e3, ← e4]
  show V 897 [some (.ref (gN g 4)), some (.ref x), some (.ref m), some (.ref o), some (.int (nI (6 * t))), some (.int (nI k)), some (.int v2)] [(.int (nI k))] h2 _ _
  refine r_iload M dL_law_897 rfl ?_
  refine r_icmp_eq (tgt := 904) M dL_law_899 (by decide) (fun _ => ?_) (fun c1 => absurd rfl c1)
  refine r_iload M dL_law_904 rfl ?_
  refine r_if_ne (tgt := 921) M dL_law_906 (by decide) (fun c2 => ?_) (fun c2 => ?_)
  · refine r_goto (tgt := 1580) M dL_law_921 (by decide) ?_
    exact K h2 _ _ _ _ li2 (by omega) (by omega)
  · refine r_aload_n M dL_law_909 rfl ?_
    refine r_iconst (v := nI 0) M dL_law_910 (by decide) ?_
    refine r_laldN M dL_law_911 (ho2) (by omega) (by omega) ?_
    rw [(ov2 c2).1]
    refine r_iload M dL_law_912 rfl ?_
    refine r_i2l M dL_law_914 ?_
    refine r_lcmp M dL_law_915 ?_
    refine r_if_eq (tgt := 921) M dL_law_916 (by decide) (fun _ => ?_) (fun c3 => absurd (by first | exact lg_self _ | decide) c3)
    refine r_goto (tgt := 1580) M dL_law_921 (by decide) ?_
    exact K h2 _ _ _ _ li2 (by omega) (by omega)
set_option maxRecDepth 100000 in
set_option maxHeartbeats 4000000 in
theorem lc_mend {g : Gl} {l : Launch} (hfl : l.stackTraces = false) {hh : List (Nat × Nat × Nat × Nat)} {mn : String} {V : VT} {X : XT} (M : Mach g l room_1 RL cL_law 7 hh mn V X) (x m o t : Nat) (ht : 6 * t + 6 ≤ gN g 5) (hL : gN g 5 ≤ 3072) (h : Hp) (li : LwI g h x m o) (kc ks : Nat) (hkc : kc ≤ 601000) (hks : ks ≤ 7290000) (z5 z6 : Option Value) (K : LwK g V x m o t kc ks) : V 924 (LwL g x m o t z5 z6) [] h kc ks := by
  obtain ⟨ad, σ, ⟨ow, pL, sL, ha, ps, ss, rc, rm, ho, t1, t2, t3⟩, hx⟩ := li
  show V 924 [some (.ref (gN g 4)), some (.ref x), some (.ref m), some (.ref o), some (.int (nI (6 * t))), z5, z6] [] h kc ks
  refine r_aload_n M dL_law_924 rfl ?_
  refine r_aload_n M dL_law_925 rfl ?_
  refine r_iload M dL_law_926 rfl ?_
  refine r_iconst (v := nI 1) M dL_law_928 (by decide) ?_
  refine r_iaddN M dL_law_929 ?_
  refine r_ialdX M dL_law_930 (vp_inN (by omega) (by omega)) ?_
  refine r_aload_n M dL_law_931 rfl ?_
  refine r_iload M dL_law_932 rfl ?_
  refine r_iconst (v := nI 2) M dL_law_934 (by decide) ?_
  refine r_iaddN M dL_law_935 ?_
  refine r_ialdX M dL_law_936 (vp_inN (by omega) (by omega)) ?_
  refine r_aload_n M dL_law_937 rfl ?_
  refine r_callSW (As := [(.ref x), (.int (gX g (nI ((6 * t) + 1)).toNatClampNeg)), (.int (gX g (nI ((6 * t) + 2)).toNatClampNeg)), (.ref o)]) M dL_law_938 rfl (ct_w_mend hfl h x pL sL ha ow ps ss σ rc hx.1 o ho (gX g (nI ((6 * t) + 1)).toNatClampNeg) (gX g (nI ((6 * t) + 2)).toNatClampNeg)) cw_L_130 ⟨Nat.le_of_ble_eq_true rfl, Nat.le_of_ble_eq_true rfl, Nat.le_of_ble_eq_true rfl⟩ (Nat.le_of_ble_eq_true rfl) ⟨by show _ ≤ 601024; omega, by show _ ≤ 7293034; omega⟩ (fun r1 h1 p1 => ?_) (fun E1 h1 p1 => pWr.no p1)
  obtain ⟨k, er, p1⟩ := p1
  cases er
  obtain ⟨σc, md, d1⟩ := wr_mid rm ho t1 t2 t3 p1
  have rm1 := md.rm
  clear p1
  show V 941 [some (.ref (gN g 4)), some (.ref x), some (.ref m), some (.ref o), some (.int (nI (6 * t))), z5, z6] [(.int (nI k))] h1 _ _
  refine r_istore M dL_law_941 (by decide) ?_
  show V 943 [some (.ref (gN g 4)), some (.ref x), some (.ref m), some (.ref o), some (.int (nI (6 * t))), some (.int (nI k)), z6] _ _ _ _
  refine r_aload_n M dL_law_943 rfl ?_
  refine r_aload_n M dL_law_944 rfl ?_
  refine r_iload M dL_law_945 rfl ?_
  refine r_iconst (v := nI 1) M dL_law_947 (by decide) ?_
  refine r_iaddN M dL_law_948 ?_
  refine r_ialdX M dL_law_949 (vp_inN (by omega) (by omega)) ?_
  refine r_aload_n M dL_law_950 rfl ?_
  refine r_iload M dL_law_951 rfl ?_
  refine r_iconst (v := nI 2) M dL_law_953 (by decide) ?_
  refine r_iaddN M dL_law_954 ?_
  refine r_ialdX M dL_law_955 (vp_inN (by omega) (by omega)) ?_
  refine r_callV (As := [(.int (gX g (nI ((6 * t) + 1)).toNatClampNeg)), (.int (gX g (nI ((6 * t) + 2)).toNatClampNeg))]) M dL_law_956 rfl (cm_mend hfl h1 m ad σ rm1 hx (gX g (nI ((6 * t) + 1)).toNatClampNeg) (gX g (nI ((6 * t) + 2)).toNatClampNeg)) (rm1.1.1) rfl cw_L_132 ⟨Nat.le_of_ble_eq_true rfl, Nat.le_of_ble_eq_true rfl, Nat.le_of_ble_eq_true rfl⟩ (Nat.le_of_ble_eq_true rfl) ⟨by show _ ≤ 601024; omega, by show _ ≤ 7293034; omega⟩ (fun r2 h2 p2 => ?_) (fun E2 h2 p2 => (pMd.no p2).elim)
  obtain ⟨fr2, v2, er, d2⟩ := p2
  cases er
  refine r_ownE M (fun fE => ?_)
  obtain ⟨li2, hM2, th2, ov2⟩ := mid_end (by decide) md d1 fr2 fE (wx_mend hx (gX g (nI ((6 * t) + 1)).toNatClampNeg) (gX g (nI ((6 * t) + 2)).toNatClampNeg)) hx d2
  have ho2 : xS h2 o = some (11, 1) := li_o li2
  show V 959 [some (.ref (gN g 4)), some (.ref x), some (.ref m), some (.ref o), some (.int (nI (6 * t))), some (.int (nI k)), z6] [(.int v2)] h2 _ _
  refine r_istore M dL_law_959 (by decide) ?_
  show V 961 [some (.ref (gN g 4)), some (.ref x), some (.ref m), some (.ref o), some (.int (nI (6 * t))), some (.int (nI k)), some (.int v2)] _ _ _ _
  refine r_aload_n M dL_law_961 rfl ?_
  refine r_callV (As := []) M dL_law_962 rfl (cm_thrown hfl h2 m ad hM2 k th2) (hM2.1) rfl cw_L_93 ⟨Nat.le_of_ble_eq_true rfl, Nat.le_of_ble_eq_true rfl, Nat.le_of_ble_eq_true rfl⟩ (Nat.le_of_ble_eq_true rfl) ⟨by show _ ≤ 601024; omega, by show _ ≤ 7293034; omega⟩ (fun r3 h3 p3 => ?_) (fun E3 h3 p3 => False.elim p3)
  obtain ⟨e3, e4⟩ := p3
  rw [e3, ← e4]
  show V 965 [some (.ref (gN g 4)), some (.ref x), some (.ref m), some (.ref o), some (.int (nI (6 * t))), some (.int (nI k)), some (.int v2)] [(.int (nI k))] h2 _ _
  refine r_iload M dL_law_965 rfl ?_
  refine r_icmp_eq (tgt := 972) M dL_law_967 (by decide) (fun _ => ?_) (fun c1 => absurd rfl c1)
  refine r_iload M dL_law_972 rfl ?_
  refine r_if_ne (tgt := 989) M dL_law_974 (by decide) (fun c2 => ?_) (fun c2 => ?_)
  · refine r_goto (tgt := 1580) M dL_law_989 (by decide) ?_
    exact K h2 _ _ _ _ li2 (by omega) (by omega)
  · refine r_aload_n M dL_law_977 rfl ?_
    refine r_iconst (v := nI 0) M dL_law_978 (by decide) ?_
    refine r_laldN M dL_law_979 (ho2) (by omega) (by omega) ?_
    rw [(ov2 c2).1]
    refine r_iload M dL_law_980 rfl ?_
    refine r_i2l M dL_law_982 ?_
    refine r_lcmp M dL_law_983 ?_
    refine r_if_eq (tgt := 989) M dL_law_984 (by decide) (fun _ => ?_) (fun c3 => absurd (by first | exact lg_self _ | decide) c3)
    refine r_goto (tgt := 1580) M dL_law_989 (by decide) ?_
    exact K h2 _ _ _ _ li2 (by omega) (by omega)
set_option maxRecDepth 100000 in
set_option maxHeartbeats 4000000 in
theorem lc_track {g : Gl} {l : Launch} (hfl : l.stackTraces = false) {hh : List (Nat × Nat × Nat × Nat)} {mn : String} {V : VT} {X : XT} (M : Mach g l room_1 RL cL_law 7 hh mn V X) (x m o t : Nat) (ht : 6 * t + 6 ≤ gN g 5) (hL : gN g 5 ≤ 3072) (h : Hp) (li : LwI g h x m o) (kc ks : Nat) (hkc : kc ≤ 601000) (hks : ks ≤ 7290000) (z5 z6 : Option Value) (K : LwK g V x m o t kc ks) : V 992 (LwL g x m o t z5 z6) [] h kc ks := by
  obtain ⟨ad, σ, ⟨ow, pL, sL, ha, ps, ss, rc, rm, ho, t1, t2, t3⟩, hx⟩ := li
  show V 992 [some (.ref (gN g 4)), some (.ref x), some (.ref m), some (.ref o), some (.int (nI (6 * t))), z5, z6] [] h kc ks
  refine r_aload_n M dL_law_992 rfl ?_
  refine r_aload_n M dL_law_993 rfl ?_
  refine r_iload M dL_law_994 rfl ?_
  refine r_iconst (v := nI 1) M dL_law_996 (by decide) ?_
  refine r_iaddN M dL_law_997 ?_
  refine r_ialdX M dL_law_998 (vp_inN (by omega) (by omega)) ?_
  refine r_aload_n M dL_law_999 rfl ?_
  refine r_iload M dL_law_1000 rfl ?_
  refine r_iconst (v := nI 2) M dL_law_1002 (by decide) ?_
  refine r_iaddN M dL_law_1003 ?_
  refine r_ialdX M dL_law_1004 (vp_inN (by omega) (by omega)) ?_
  refine r_aload_n M dL_law_1005 rfl ?_
  refine r_callSW (As := [(.ref x), (.int (gX g (nI ((6 * t) + 1)).toNatClampNeg)), (.int (gX g (nI ((6 * t) + 2)).toNatClampNeg)), (.ref o)]) M dL_law_1006 rfl (ct_w_track hfl h x pL sL ha ow ps ss σ rc hx.1 o ho (gX g (nI ((6 * t) + 1)).toNatClampNeg) (gX g (nI ((6 * t) + 2)).toNatClampNeg)) cw_L_133 ⟨Nat.le_of_ble_eq_true rfl, Nat.le_of_ble_eq_true rfl, Nat.le_of_ble_eq_true rfl⟩ (Nat.le_of_ble_eq_true rfl) ⟨by show _ ≤ 601024; omega, by show _ ≤ 7293034; omega⟩ (fun r1 h1 p1 => ?_) (fun E1 h1 p1 => pWr.no p1)
  obtain ⟨k, er, p1⟩ := p1
  cases er
  obtain ⟨σc, md, d1⟩ := wr_mid rm ho t1 t2 t3 p1
  have rm1 := md.rm
  clear p1
  show V 1009 [some (.ref (gN g 4)), some (.ref x), some (.ref m), some (.ref o), some (.int (nI (6 * t))), z5, z6] [(.int (nI k))] h1 _ _
  refine r_istore M dL_law_1009 (by decide) ?_
  show V 1011 [some (.ref (gN g 4)), some (.ref x), some (.ref m), some (.ref o), some (.int (nI (6 * t))), some (.int (nI k)), z6] _ _ _ _
  refine r_aload_n M dL_law_1011 rfl ?_
  refine r_aload_n M dL_law_1012 rfl ?_
  refine r_iload M dL_law_1013 rfl ?_
  refine r_iconst (v := nI 1) M dL_law_1015 (by decide) ?_
  refine r_iaddN M dL_law_1016 ?_
  refine r_ialdX M dL_law_1017 (vp_inN (by omega) (by omega)) ?_
  refine r_aload_n M dL_law_1018 rfl ?_
  refine r_iload M dL_law_1019 rfl ?_
  refine r_iconst (v := nI 2) M dL_law_1021 (by decide) ?_
  refine r_iaddN M dL_law_1022 ?_
  refine r_ialdX M dL_law_1023 (vp_inN (by omega) (by omega)) ?_
  refine r_callV (As := [(.int (gX g (nI ((6 * t) + 1)).toNatClampNeg)), (.int (gX g (nI ((6 * t) + 2)).toNatClampNeg))]) M dL_law_1024 rfl (cm_track hfl h1 m ad σ rm1 hx.1 (gX g (nI ((6 * t) + 1)).toNatClampNeg) (gX g (nI ((6 * t) + 2)).toNatClampNeg)) (rm1.1.1) rfl cw_L_135 ⟨Nat.le_of_ble_eq_true rfl, Nat.le_of_ble_eq_true rfl, Nat.le_of_ble_eq_true rfl⟩ (Nat.le_of_ble_eq_true rfl) ⟨by show _ ≤ 601024; omega, by show _ ≤ 7293034; omega⟩ (fun r2 h2 p2 => ?_) (fun E2 h2 p2 => (pMd.no p2).elim)
  obtain ⟨fr2, v2, er, d2⟩ := p2
  cases er
  refine r_ownE M (fun fE => ?_)
  obtain ⟨li2, hM2, th2, ov2⟩ := mid_end (by decide) md d1 fr2 fE (wx_track hx (gX g (nI ((6 * t) + 1)).toNatClampNeg) (gX g (nI ((6 * t) + 2)).toNatClampNeg)) hx d2
  have ho2 : xS h2 o = some (11, 1) := li_o li2
  show V 1027 [some (.ref (gN g 4)), some (.ref x), some (.ref m), some (.ref o), some (.int (nI (6 * t))), some (.int (nI k)), z6] [(.int v2)] h2 _ _
  refine r_istore M dL_law_1027 (by decide) ?_
  show V 1029 [some (.ref (gN g 4)), some (.ref x), some (.ref m), some (.ref o), some (.int (nI (6 * t))), some (.int (nI k)), some (.int v2)] _ _ _ _
  refine r_aload_n M dL_law_1029 rfl ?_
  refine r_callV (As := []) M dL_law_1030 rfl (cm_thrown hfl h2 m ad hM2 k th2) (hM2.1) rfl cw_L_93 ⟨Nat.le_of_ble_eq_true rfl, Nat.le_of_ble_eq_true rfl, Nat.le_of_ble_eq_true rfl⟩ (Nat.le_of_ble_eq_true rfl) ⟨by show _ ≤ 601024; omega, by show _ ≤ 7293034; omega⟩ (fun r3 h3 p3 => ?_) (fun E3 h3 p3 => False.elim p3)
  obtain ⟨e3, e4⟩ := p3
  rw [e3, ← e4]
  show V 1033 [some (.ref (gN g 4)), some (.ref x), some (.ref m), some (.ref o), some (.int (nI (6 * t))), some (.int (nI k)), some (.int v2)] [(.int (nI k))] h2 _ _
  refine r_iload M dL_law_1033 rfl ?_
  refine r_icmp_eq (tgt := 1040) M dL_law_1035 (by decide) (fun _ => ?_) (fun c1 => absurd rfl c1)
  refine r_iload M dL_law_1040 rfl ?_
  refine r_if_ne (tgt := 1057) M dL_law_1042 (by decide) (fun c2 => ?_) (fun c2 => ?_)
  · refine r_goto (tgt := 1580) M dL_law_1057 (by decide) ?_
    exact K h2 _ _ _ _ li2 (by omega) (by omega)
  · refine r_aload_n M dL_law_1045 rfl ?_
    refine r_iconst (v := nI 0) M dL_law_1046 (by decide) ?_
    refine r_laldN M dL_law_1047 (ho2) (by omega) (by omega) ?_
    rw [(ov2 c2).1]
    refine r_iload M dL_law_1048 rfl ?_
    refine r_i2l M dL_law_1050 ?_
    refine r_lcmp M dL_law_1051 ?_
    refine r_if_eq (tgt := 1057) M dL_law_1052 (by decide) (fun _ => ?_) (fun c3 => absurd (by first | exact lg_self _ | decide) c3)
    refine r_goto (tgt := 1580) M dL_law_1057 (by decide) ?_
    exact K h2 _ _ _ _ li2 (by omega) (by omega)
set_option maxRecDepth 100000 in
set_option maxHeartbeats 4000000 in
theorem lc_trackByFrames {g : Gl} {l : Launch} (hfl : l.stackTraces = false) {hh : List (Nat × Nat × Nat × Nat)} {mn : String} {V : VT} {X : XT} (M : Mach g l room_1 RL cL_law 7 hh mn V X) (x m o t : Nat) (ht : 6 * t + 6 ≤ gN g 5) (hL : gN g 5 ≤ 3072) (h : Hp) (li : LwI g h x m o) (kc ks : Nat) (hkc : kc ≤ 601000) (hks : ks ≤ 7290000) (z5 z6 : Option Value) (K : LwK g V x m o t kc ks) : V 1060 (LwL g x m o t z5 z6) [] h kc ks := by
  obtain ⟨ad, σ, ⟨ow, pL, sL, ha, ps, ss, rc, rm, ho, t1, t2, t3⟩, hx⟩ := li
  show V 1060 [some (.ref (gN g 4)), some (.ref x), some (.ref m), some (.ref o), some (.int (nI (6 * t))), z5, z6] [] h kc ks
  refine r_aload_n M dL_law_1060 rfl ?_
  refine r_aload_n M dL_law_1061 rfl ?_
  refine r_iload M dL_law_1062 rfl ?_
  refine r_iconst (v := nI 1) M dL_law_1064 (by decide) ?_
  refine r_iaddN M dL_law_1065 ?_
  refine r_ialdX M dL_law_1066 (vp_inN (by omega) (by omega)) ?_
  refine r_aload_n M dL_law_1067 rfl ?_
  refine r_iload M dL_law_1068 rfl ?_
  refine r_iconst (v := nI 2) M dL_law_1070 (by decide) ?_
  refine r_iaddN M dL_law_1071 ?_
  refine r_ialdX M dL_law_1072 (vp_inN (by omega) (by omega)) ?_
  refine r_aload_n M dL_law_1073 rfl ?_
  refine r_callSW (As := [(.ref x), (.int (gX g (nI ((6 * t) + 1)).toNatClampNeg)), (.int (gX g (nI ((6 * t) + 2)).toNatClampNeg)), (.ref o)]) M dL_law_1074 rfl (ct_w_tbf hfl h x pL sL ha ow ps ss σ rc hx.1 o ho (gX g (nI ((6 * t) + 1)).toNatClampNeg) (gX g (nI ((6 * t) + 2)).toNatClampNeg)) cw_L_136 ⟨Nat.le_of_ble_eq_true rfl, Nat.le_of_ble_eq_true rfl, Nat.le_of_ble_eq_true rfl⟩ (Nat.le_of_ble_eq_true rfl) ⟨by show _ ≤ 601024; omega, by show _ ≤ 7293034; omega⟩ (fun r1 h1 p1 => ?_) (fun E1 h1 p1 => pWr.no p1)
  obtain ⟨k, er, p1⟩ := p1
  cases er
  obtain ⟨σc, md, d1⟩ := wr_mid rm ho t1 t2 t3 p1
  have rm1 := md.rm
  clear p1
  show V 1077 [some (.ref (gN g 4)), some (.ref x), some (.ref m), some (.ref o), some (.int (nI (6 * t))), z5, z6] [(.int (nI k))] h1 _ _
  refine r_istore M dL_law_1077 (by decide) ?_
  show V 1079 [some (.ref (gN g 4)), some (.ref x), some (.ref m), some (.ref o), some (.int (nI (6 * t))), some (.int (nI k)), z6] _ _ _ _
  refine r_aload_n M dL_law_1079 rfl ?_
  refine r_aload_n M dL_law_1080 rfl ?_
  refine r_iload M dL_law_1081 rfl ?_
  refine r_iconst (v := nI 1) M dL_law_1083 (by decide) ?_
  refine r_iaddN M dL_law_1084 ?_
  refine r_ialdX M dL_law_1085 (vp_inN (by omega) (by omega)) ?_
  refine r_aload_n M dL_law_1086 rfl ?_
  refine r_iload M dL_law_1087 rfl ?_
  refine r_iconst (v := nI 2) M dL_law_1089 (by decide) ?_
  refine r_iaddN M dL_law_1090 ?_
  refine r_ialdX M dL_law_1091 (vp_inN (by omega) (by omega)) ?_
  refine r_callV (As := [(.int (gX g (nI ((6 * t) + 1)).toNatClampNeg)), (.int (gX g (nI ((6 * t) + 2)).toNatClampNeg))]) M dL_law_1092 rfl (cm_trackByFrames hfl h1 m ad σ rm1 hx.1 (gX g (nI ((6 * t) + 1)).toNatClampNeg) (gX g (nI ((6 * t) + 2)).toNatClampNeg)) (rm1.1.1) rfl cw_L_138 ⟨Nat.le_of_ble_eq_true rfl, Nat.le_of_ble_eq_true rfl, Nat.le_of_ble_eq_true rfl⟩ (Nat.le_of_ble_eq_true rfl) ⟨by show _ ≤ 601024; omega, by show _ ≤ 7293034; omega⟩ (fun r2 h2 p2 => ?_) (fun E2 h2 p2 => (pMd.no p2).elim)
  obtain ⟨fr2, v2, er, d2⟩ := p2
  cases er
  refine r_ownE M (fun fE => ?_)
  obtain ⟨li2, hM2, th2, ov2⟩ := mid_end (by decide) md d1 fr2 fE (wx_tbf hx (gX g (nI ((6 * t) + 1)).toNatClampNeg) (gX g (nI ((6 * t) + 2)).toNatClampNeg)) hx d2
  have ho2 : xS h2 o = some (11, 1) := li_o li2
  show V 1095 [some (.ref (gN g 4)), some (.ref x), some (.ref m), some (.ref o), some (.int (nI (6 * t))), some (.int (nI k)), z6] [(.int v2)] h2 _ _
  refine r_istore M dL_law_1095 (by decide) ?_
  show V 1097 [some (.ref (gN g 4)), some (.ref x), some (.ref m), some (.ref o), some (.int (nI (6 * t))), some (.int (nI k)), some (.int v2)] _ _ _ _
  refine r_aload_n M dL_law_1097 rfl ?_
  refine r_callV (As := []) M dL_law_1098 rfl (cm_thrown hfl h2 m ad hM2 k th2) (hM2.1) rfl cw_L_93 ⟨Nat.le_of_ble_eq_true rfl, Nat.le_of_ble_eq_true rfl, Nat.le_of_ble_eq_true rfl⟩ (Nat.le_of_ble_eq_true rfl) ⟨by show _ ≤ 601024; omega, by show _ ≤ 7293034; omega⟩ (fun r3 h3 p3 => ?_) (fun E3 h3 p3 => False.elim p3)
  obtain ⟨e3, e4⟩ := p3
  rw [e3, ← e4]
  show V 1101 [some (.ref (gN g 4)), some (.ref x), some (.ref m), some (.ref o), some (.int (nI (6 * t))), some (.int (nI k)), some (.int v2)] [(.int (nI k))] h2 _ _
  refine r_iload M dL_law_1101 rfl ?_
  refine r_icmp_eq (tgt := 1108) M dL_law_1103 (by decide) (fun _ => ?_) (fun c1 => absurd rfl c1)
  refine r_iload M dL_law_1108 rfl ?_
  refine r_if_ne (tgt := 1125) M dL_law_1110 (by decide) (fun c2 => ?_) (fun c2 => ?_)
  · refine r_goto (tgt := 1580) M dL_law_1125 (by decide) ?_
    exact K h2 _ _ _ _ li2 (by omega) (by omega)
  · refine r_aload_n M dL_law_1113 rfl ?_
    refine r_iconst (v := nI 0) M dL_law_1114 (by decide) ?_
    refine r_laldN M dL_law_1115 (ho2) (by omega) (by omega) ?_
    rw [(ov2 c2).1]
    refine r_iload M dL_law_1116 rfl ?_
    refine r_i2l M dL_law_1118 ?_
    refine r_lcmp M dL_law_1119 ?_
    refine r_if_eq (tgt := 1125) M dL_law_1120 (by decide) (fun _ => ?_) (fun c3 => absurd (by first | exact lg_self _ | decide) c3)
    refine r_goto (tgt := 1580) M dL_law_1125 (by decide) ?_
    exact K h2 _ _ _ _ li2 (by omega) (by omega)
set_option maxRecDepth 100000 in
set_option maxHeartbeats 4000000 in
theorem lc_x {g : Gl} {l : Launch} (hfl : l.stackTraces = false) {hh : List (Nat × Nat × Nat × Nat)} {mn : String} {V : VT} {X : XT} (M : Mach g l room_1 RL cL_law 7 hh mn V X) (x m o t : Nat) (ht : 6 * t + 6 ≤ gN g 5) (hL : gN g 5 ≤ 3072) (h : Hp) (li : LwI g h x m o) (kc ks : Nat) (hkc : kc ≤ 601000) (hks : ks ≤ 7290000) (z5 z6 : Option Value) (K : LwK g V x m o t kc ks) : V 1128 (LwL g x m o t z5 z6) [] h kc ks := by
  obtain ⟨ad, σ, ⟨ow, pL, sL, ha, ps, ss, rc, rm, ho, t1, t2, t3⟩, hx⟩ := li
  show V 1128 [some (.ref (gN g 4)), some (.ref x), some (.ref m), some (.ref o), some (.int (nI (6 * t))), z5, z6] [] h kc ks
  refine r_aload_n M dL_law_1128 rfl ?_
  refine r_aload_n M dL_law_1129 rfl ?_
  refine r_iload M dL_law_1130 rfl ?_
  refine r_iconst (v := nI 1) M dL_law_1132 (by decide) ?_
  refine r_iaddN M dL_law_1133 ?_
  refine r_ialdX M dL_law_1134 (vp_inN (by omega) (by omega)) ?_
  refine r_aload_n M dL_law_1135 rfl ?_
  refine r_iload M dL_law_1136 rfl ?_
  refine r_iconst (v := nI 2) M dL_law_1138 (by decide) ?_
  refine r_iaddN M dL_law_1139 ?_
  refine r_ialdX M dL_law_1140 (vp_inN (by omega) (by omega)) ?_
  refine r_aload_n M dL_law_1141 rfl ?_
  refine r_iload M dL_law_1142 rfl ?_
  refine r_iconst (v := nI 3) M dL_law_1144 (by decide) ?_
  refine r_iaddN M dL_law_1145 ?_
  refine r_ialdX M dL_law_1146 (vp_inN (by omega) (by omega)) ?_
  refine r_aload_n M dL_law_1147 rfl ?_
  refine r_callSW (As := [(.ref x), (.int (gX g (nI ((6 * t) + 1)).toNatClampNeg)), (.int (gX g (nI ((6 * t) + 2)).toNatClampNeg)), (.int (gX g (nI ((6 * t) + 3)).toNatClampNeg)), (.ref o)]) M dL_law_1148 rfl (ct_w_x hfl h x pL sL ha ow ps ss σ rc hx.1 o ho (gX g (nI ((6 * t) + 1)).toNatClampNeg) (gX g (nI ((6 * t) + 2)).toNatClampNeg) (gX g (nI ((6 * t) + 3)).toNatClampNeg)) cw_L_139 ⟨Nat.le_of_ble_eq_true rfl, Nat.le_of_ble_eq_true rfl, Nat.le_of_ble_eq_true rfl⟩ (Nat.le_of_ble_eq_true rfl) ⟨by show _ ≤ 601024; omega, by show _ ≤ 7293034; omega⟩ (fun r1 h1 p1 => ?_) (fun E1 h1 p1 => pWr.no p1)
  obtain ⟨k, er, p1⟩ := p1
  cases er
  obtain ⟨σc, md, d1⟩ := wr_mid rm ho t1 t2 t3 p1
  have rm1 := md.rm
  clear p1
  show V 1151 [some (.ref (gN g 4)), some (.ref x), some (.ref m), some (.ref o), some (.int (nI (6 * t))), z5, z6] [(.int (nI k))] h1 _ _
  refine r_istore M dL_law_1151 (by decide) ?_
  show V 1153 [some (.ref (gN g 4)), some (.ref x), some (.ref m), some (.ref o), some (.int (nI (6 * t))), some (.int (nI k)), z6] _ _ _ _
  refine r_aload_n M dL_law_1153 rfl ?_
  refine r_aload_n M dL_law_1154 rfl ?_
  refine r_iload M dL_law_1155 rfl ?_
  refine r_iconst (v := nI 1) M dL_law_1157 (by decide) ?_
  refine r_iaddN M dL_law_1158 ?_
  refine r_ialdX M dL_law_1159 (vp_inN (by omega) (by omega)) ?_
  refine r_aload_n M dL_law_1160 rfl ?_
  refine r_iload M dL_law_1161 rfl ?_
  refine r_iconst (v := nI 2) M dL_law_1163 (by decide) ?_
  refine r_iaddN M dL_law_1164 ?_
  refine r_ialdX M dL_law_1165 (vp_inN (by omega) (by omega)) ?_
  refine r_aload_n M dL_law_1166 rfl ?_
  refine r_iload M dL_law_1167 rfl ?_
  refine r_iconst (v := nI 3) M dL_law_1169 (by decide) ?_
  refine r_iaddN M dL_law_1170 ?_
  refine r_ialdX M dL_law_1171 (vp_inN (by omega) (by omega)) ?_
  refine r_callV (As := [(.int (gX g (nI ((6 * t) + 1)).toNatClampNeg)), (.int (gX g (nI ((6 * t) + 2)).toNatClampNeg)), (.int (gX g (nI ((6 * t) + 3)).toNatClampNeg))]) M dL_law_1172 rfl (cm_x hfl h1 m ad σ rm1 hx.1 (gX g (nI ((6 * t) + 1)).toNatClampNeg) (gX g (nI ((6 * t) + 2)).toNatClampNeg) (gX g (nI ((6 * t) + 3)).toNatClampNeg)) (rm1.1.1) rfl cw_L_141 ⟨Nat.le_of_ble_eq_true rfl, Nat.le_of_ble_eq_true rfl, Nat.le_of_ble_eq_true rfl⟩ (Nat.le_of_ble_eq_true rfl) ⟨by show _ ≤ 601024; omega, by show _ ≤ 7293034; omega⟩ (fun r2 h2 p2 => ?_) (fun E2 h2 p2 => (pMd.no p2).elim)
  obtain ⟨fr2, v2, er, d2⟩ := p2
  cases er
  refine r_ownE M (fun fE => ?_)
  obtain ⟨li2, hM2, th2, ov2⟩ := mid_end (by decide) md d1 fr2 fE (wx_x hx (gX g (nI ((6 * t) + 1)).toNatClampNeg) (gX g (nI ((6 * t) + 2)).toNatClampNeg) (gX g (nI ((6 * t) + 3)).toNatClampNeg)) hx d2
  have ho2 : xS h2 o = some (11, 1) := li_o li2
  show V 1175 [some (.ref (gN g 4)), some (.ref x), some (.ref m), some (.ref o), some (.int (nI (6 * t))), some (.int (nI k)), z6] [(.int v2)] h2 _ _
  refine r_istore M dL_law_1175 (by decide) ?_
  show V 1177 [some (.ref (gN g 4)), some (.ref x), some (.ref m), some (.ref o), some (.int (nI (6 * t))), some (.int (nI k)), some (.int v2)] _ _ _ _
  refine r_aload_n M dL_law_1177 rfl ?_
  refine r_callV (As := []) M dL_law_1178 rfl (cm_thrown hfl h2 m ad hM2 k th2) (hM2.1) rfl cw_L_93 ⟨Nat.le_of_ble_eq_true rfl, Nat.le_of_ble_eq_true rfl, Nat.le_of_ble_eq_true rfl⟩ (Nat.le_of_ble_eq_true rfl) ⟨by show _ ≤ 601024; omega, by show _ ≤ 7293034; omega⟩ (fun r3 h3 p3 => ?_) (fun E3 h3 p3 => False.elim p3)
  obtain ⟨e3, e4⟩ := p3
  rw [e3, ← e4]
  show V 1181 [some (.ref (gN g 4)), some (.ref x), some (.ref m), some (.ref o), some (.int (nI (6 * t))), some (.int (nI k)), some (.int v2)] [(.int (nI k))] h2 _ _
  refine r_iload M dL_law_1181 rfl ?_
  refine r_icmp_eq (tgt := 1188) M dL_law_1183 (by decide) (fun _ => ?_) (fun c1 => absurd rfl c1)
  refine r_iload M dL_law_1188 rfl ?_
  refine r_if_ne (tgt := 1205) M dL_law_1190 (by decide) (fun c2 => ?_) (fun c2 => ?_)
  · refine r_goto (tgt := 1580) M dL_law_1205 (by decide) ?_
    exact K h2 _ _ _ _ li2 (by omega) (by omega)
  · refine r_aload_n M dL_law_1193 rfl ?_
    refine r_iconst (v := nI 0) M dL_law_1194 (by decide) ?_
    refine r_laldN M dL_law_1195 (ho2) (by omega) (by omega) ?_
    rw [(ov2 c2).1]
    refine r_iload M dL_law_1196 rfl ?_
    refine r_i2l M dL_law_1198 ?_
    refine r_lcmp M dL_law_1199 ?_
    refine r_if_eq (tgt := 1205) M dL_law_1200 (by decide) (fun _ => ?_) (fun c3 => absurd (by first | exact lg_self _ | decide) c3)
    refine r_goto (tgt := 1580) M dL_law_1205 (by decide) ?_
    exact K h2 _ _ _ _ li2 (by omega) (by omega)
set_option maxRecDepth 100000 in
set_option maxHeartbeats 4000000 in
theorem lc_y {g : Gl} {l : Launch} (hfl : l.stackTraces = false) {hh : List (Nat × Nat × Nat × Nat)} {mn : String} {V : VT} {X : XT} (M : Mach g l room_1 RL cL_law 7 hh mn V X) (x m o t : Nat) (ht : 6 * t + 6 ≤ gN g 5) (hL : gN g 5 ≤ 3072) (h : Hp) (li : LwI g h x m o) (kc ks : Nat) (hkc : kc ≤ 601000) (hks : ks ≤ 7290000) (z5 z6 : Option Value) (K : LwK g V x m o t kc ks) : V 1208 (LwL g x m o t z5 z6) [] h kc ks := by
  obtain ⟨ad, σ, ⟨ow, pL, sL, ha, ps, ss, rc, rm, ho, t1, t2, t3⟩, hx⟩ := li
  show V 1208 [some (.ref (gN g 4)), some (.ref x), some (.ref m), some (.ref o), some (.int (nI (6 * t))), z5, z6] [] h kc ks
  refine r_aload_n M dL_law_1208 rfl ?_
  refine r_aload_n M dL_law_1209 rfl ?_
  refine r_iload M dL_law_1210 rfl ?_
  refine r_iconst (v := nI 1) M dL_law_1212 (by decide) ?_
  refine r_iaddN M dL_law_1213 ?_
  refine r_ialdX M dL_law_1214 (vp_inN (by omega) (by omega)) ?_
  refine r_aload_n M dL_law_1215 rfl ?_
  refine r_iload M dL_law_1216 rfl ?_
  refine r_iconst (v := nI 2) M dL_law_1218 (by decide) ?_
  refine r_iaddN M dL_law_1219 ?_
  refine r_ialdX M dL_law_1220 (vp_inN (by omega) (by omega)) ?_
  refine r_aload_n M dL_law_1221 rfl ?_
  refine r_iload M dL_law_1222 rfl ?_
  refine r_iconst (v := nI 3) M dL_law_1224 (by decide) ?_
  refine r_iaddN M dL_law_1225 ?_
  refine r_ialdX M dL_law_1226 (vp_inN (by omega) (by omega)) ?_
  refine r_aload_n M dL_law_1227 rfl ?_
  refine r_callSW (As := [(.ref x), (.int (gX g (nI ((6 * t) + 1)).toNatClampNeg)), (.int (gX g (nI ((6 * t) + 2)).toNatClampNeg)), (.int (gX g (nI ((6 * t) + 3)).toNatClampNeg)), (.ref o)]) M dL_law_1228 rfl (ct_w_y hfl h x pL sL ha ow ps ss σ rc hx.1 o ho (gX g (nI ((6 * t) + 1)).toNatClampNeg) (gX g (nI ((6 * t) + 2)).toNatClampNeg) (gX g (nI ((6 * t) + 3)).toNatClampNeg)) cw_L_142 ⟨Nat.le_of_ble_eq_true rfl, Nat.le_of_ble_eq_true rfl, Nat.le_of_ble_eq_true rfl⟩ (Nat.le_of_ble_eq_true rfl) ⟨by show _ ≤ 601024; omega, by show _ ≤ 7293034; omega⟩ (fun r1 h1 p1 => ?_) (fun E1 h1 p1 => pWr.no p1)
  obtain ⟨k, er, p1⟩ := p1
  cases er
  obtain ⟨σc, md, d1⟩ := wr_mid rm ho t1 t2 t3 p1
  have rm1 := md.rm
  clear p1
  show V 1231 [some (.ref (gN g 4)), some (.ref x), some (.ref m), some (.ref o), some (.int (nI (6 * t))), z5, z6] [(.int (nI k))] h1 _ _
  refine r_istore M dL_law_1231 (by decide) ?_
  show V 1233 [some (.ref (gN g 4)), some (.ref x), some (.ref m), some (.ref o), some (.int (nI (6 * t))), some (.int (nI k)), z6] _ _ _ _
  refine r_aload_n M dL_law_1233 rfl ?_
  refine r_aload_n M dL_law_1234 rfl ?_
  refine r_iload M dL_law_1235 rfl ?_
  refine r_iconst (v := nI 1) M dL_law_1237 (by decide) ?_
  refine r_iaddN M dL_law_1238 ?_
  refine r_ialdX M dL_law_1239 (vp_inN (by omega) (by omega)) ?_
  refine r_aload_n M dL_law_1240 rfl ?_
  refine r_iload M dL_law_1241 rfl ?_
  refine r_iconst (v := nI 2) M dL_law_1243 (by decide) ?_
  refine r_iaddN M dL_law_1244 ?_
  refine r_ialdX M dL_law_1245 (vp_inN (by omega) (by omega)) ?_
  refine r_aload_n M dL_law_1246 rfl ?_
  refine r_iload M dL_law_1247 rfl ?_
  refine r_iconst (v := nI 3) M dL_law_1249 (by decide) ?_
  refine r_iaddN M dL_law_1250 ?_
  refine r_ialdX M dL_law_1251 (vp_inN (by omega) (by omega)) ?_
  refine r_callV (As := [(.int (gX g (nI ((6 * t) + 1)).toNatClampNeg)), (.int (gX g (nI ((6 * t) + 2)).toNatClampNeg)), (.int (gX g (nI ((6 * t) + 3)).toNatClampNeg))]) M dL_law_1252 rfl (cm_y hfl h1 m ad σ rm1 hx.1 (gX g (nI ((6 * t) + 1)).toNatClampNeg) (gX g (nI ((6 * t) + 2)).toNatClampNeg) (gX g (nI ((6 * t) + 3)).toNatClampNeg)) (rm1.1.1) rfl cw_L_144 ⟨Nat.le_of_ble_eq_true rfl, Nat.le_of_ble_eq_true rfl, Nat.le_of_ble_eq_true rfl⟩ (Nat.le_of_ble_eq_true rfl) ⟨by show _ ≤ 601024; omega, by show _ ≤ 7293034; omega⟩ (fun r2 h2 p2 => ?_) (fun E2 h2 p2 => (pMd.no p2).elim)
  obtain ⟨fr2, v2, er, d2⟩ := p2
  cases er
  refine r_ownE M (fun fE => ?_)
  obtain ⟨li2, hM2, th2, ov2⟩ := mid_end (by decide) md d1 fr2 fE (wx_y hx (gX g (nI ((6 * t) + 1)).toNatClampNeg) (gX g (nI ((6 * t) + 2)).toNatClampNeg) (gX g (nI ((6 * t) + 3)).toNatClampNeg)) hx d2
  have ho2 : xS h2 o = some (11, 1) := li_o li2
  show V 1255 [some (.ref (gN g 4)), some (.ref x), some (.ref m), some (.ref o), some (.int (nI (6 * t))), some (.int (nI k)), z6] [(.int v2)] h2 _ _
  refine r_istore M dL_law_1255 (by decide) ?_
  show V 1257 [some (.ref (gN g 4)), some (.ref x), some (.ref m), some (.ref o), some (.int (nI (6 * t))), some (.int (nI k)), some (.int v2)] _ _ _ _
  refine r_aload_n M dL_law_1257 rfl ?_
  refine r_callV (As := []) M dL_law_1258 rfl (cm_thrown hfl h2 m ad hM2 k th2) (hM2.1) rfl cw_L_93 ⟨Nat.le_of_ble_eq_true rfl, Nat.le_of_ble_eq_true rfl, Nat.le_of_ble_eq_true rfl⟩ (Nat.le_of_ble_eq_true rfl) ⟨by show _ ≤ 601024; omega, by show _ ≤ 7293034; omega⟩ (fun r3 h3 p3 => ?_) (fun E3 h3 p3 => False.elim p3)
  obtain ⟨e3, e4⟩ := p3
  rw [e3, ← e4]
  show V 1261 [some (.ref (gN g 4)), some (.ref x), some (.ref m), some (.ref o), some (.int (nI (6 * t))), some (.int (nI k)), some (.int v2)] [(.int (nI k))] h2 _ _
  refine r_iload M dL_law_1261 rfl ?_
  refine r_icmp_eq (tgt := 1268) M dL_law_1263 (by decide) (fun _ => ?_) (fun c1 => absurd rfl c1)
  refine r_iload M dL_law_1268 rfl ?_
  refine r_if_ne (tgt := 1285) M dL_law_1270 (by decide) (fun c2 => ?_) (fun c2 => ?_)
  · refine r_goto (tgt := 1580) M dL_law_1285 (by decide) ?_
    exact K h2 _ _ _ _ li2 (by omega) (by omega)
  · refine r_aload_n M dL_law_1273 rfl ?_
    refine r_iconst (v := nI 0) M dL_law_1274 (by decide) ?_
    refine r_laldN M dL_law_1275 (ho2) (by omega) (by omega) ?_
    rw [(ov2 c2).1]
    refine r_iload M dL_law_1276 rfl ?_
    refine r_i2l M dL_law_1278 ?_
    refine r_lcmp M dL_law_1279 ?_
    refine r_if_eq (tgt := 1285) M dL_law_1280 (by decide) (fun _ => ?_) (fun c3 => absurd (by first | exact lg_self _ | decide) c3)
    refine r_goto (tgt := 1580) M dL_law_1285 (by decide) ?_
    exact K h2 _ _ _ _ li2 (by omega) (by omega)
set_option maxRecDepth 100000 in
set_option maxHeartbeats 4000000 in
theorem lc_bent {g : Gl} {l : Launch} (hfl : l.stackTraces = false) {hh : List (Nat × Nat × Nat × Nat)} {mn : String} {V : VT} {X : XT} (M : Mach g l room_1 RL cL_law 7 hh mn V X) (x m o t : Nat) (ht : 6 * t + 6 ≤ gN g 5) (hL : gN g 5 ≤ 3072) (h : Hp) (li : LwI g h x m o) (kc ks : Nat) (hkc : kc ≤ 601000) (hks : ks ≤ 7290000) (z5 z6 : Option Value) (K : LwK g V x m o t kc ks) : V 1288 (LwL g x m o t z5 z6) [] h kc ks := by
  obtain ⟨ad, σ, ⟨ow, pL, sL, ha, ps, ss, rc, rm, ho, t1, t2, t3⟩, hx⟩ := li
  show V 1288 [some (.ref (gN g 4)), some (.ref x), some (.ref m), some (.ref o), some (.int (nI (6 * t))), z5, z6] [] h kc ks
  refine r_aload_n M dL_law_1288 rfl ?_
  refine r_aload_n M dL_law_1289 rfl ?_
  refine r_iload M dL_law_1290 rfl ?_
  refine r_iconst (v := nI 1) M dL_law_1292 (by decide) ?_
  refine r_iaddN M dL_law_1293 ?_
  refine r_ialdX M dL_law_1294 (vp_inN (by omega) (by omega)) ?_
  refine r_aload_n M dL_law_1295 rfl ?_
  refine r_iload M dL_law_1296 rfl ?_
  refine r_iconst (v := nI 2) M dL_law_1298 (by decide) ?_
  refine r_iaddN M dL_law_1299 ?_
  refine r_ialdX M dL_law_1300 (vp_inN (by omega) (by omega)) ?_
  refine r_aload_n M dL_law_1301 rfl ?_
  refine r_iload M dL_law_1302 rfl ?_
  refine r_iconst (v := nI 3) M dL_law_1304 (by decide) ?_
  refine r_iaddN M dL_law_1305 ?_
  refine r_ialdX M dL_law_1306 (vp_inN (by omega) (by omega)) ?_
  refine r_aload_n M dL_law_1307 rfl ?_
  refine r_iload M dL_law_1308 rfl ?_
  refine r_iconst (v := nI 4) M dL_law_1310 (by decide) ?_
  refine r_iaddN M dL_law_1311 ?_
  refine r_ialdX M dL_law_1312 (vp_inN (by omega) (by omega)) ?_
  refine r_aload_n M dL_law_1313 rfl ?_
  refine r_callSW (As := [(.ref x), (.int (gX g (nI ((6 * t) + 1)).toNatClampNeg)), (.int (gX g (nI ((6 * t) + 2)).toNatClampNeg)), (.int (gX g (nI ((6 * t) + 3)).toNatClampNeg)), (.int (gX g (nI ((6 * t) + 4)).toNatClampNeg)), (.ref o)]) M dL_law_1314 rfl (ct_w_bent hfl h x pL sL ha ow ps ss σ rc hx.1 o ho (gX g (nI ((6 * t) + 1)).toNatClampNeg) (gX g (nI ((6 * t) + 2)).toNatClampNeg) (gX g (nI ((6 * t) + 3)).toNatClampNeg) (gX g (nI ((6 * t) + 4)).toNatClampNeg)) cw_L_145 ⟨Nat.le_of_ble_eq_true rfl, Nat.le_of_ble_eq_true rfl, Nat.le_of_ble_eq_true rfl⟩ (Nat.le_of_ble_eq_true rfl) ⟨by show _ ≤ 601024; omega, by show _ ≤ 7293034; omega⟩ (fun r1 h1 p1 => ?_) (fun E1 h1 p1 => pWr.no p1)
  obtain ⟨k, er, p1⟩ := p1
  cases er
  obtain ⟨σc, md, d1⟩ := wr_mid rm ho t1 t2 t3 p1
  have rm1 := md.rm
  clear p1
  show V 1317 [some (.ref (gN g 4)), some (.ref x), some (.ref m), some (.ref o), some (.int (nI (6 * t))), z5, z6] [(.int (nI k))] h1 _ _
  refine r_istore M dL_law_1317 (by decide) ?_
  show V 1319 [some (.ref (gN g 4)), some (.ref x), some (.ref m), some (.ref o), some (.int (nI (6 * t))), some (.int (nI k)), z6] _ _ _ _
  refine r_aload_n M dL_law_1319 rfl ?_
  refine r_aload_n M dL_law_1320 rfl ?_
  refine r_iload M dL_law_1321 rfl ?_
  refine r_iconst (v := nI 1) M dL_law_1323 (by decide) ?_
  refine r_iaddN M dL_law_1324 ?_
  refine r_ialdX M dL_law_1325 (vp_inN (by omega) (by omega)) ?_
  refine r_aload_n M dL_law_1326 rfl ?_
  refine r_iload M dL_law_1327 rfl ?_
  refine r_iconst (v := nI 2) M dL_law_1329 (by decide) ?_
  refine r_iaddN M dL_law_1330 ?_
  refine r_ialdX M dL_law_1331 (vp_inN (by omega) (by omega)) ?_
  refine r_aload_n M dL_law_1332 rfl ?_
  refine r_iload M dL_law_1333 rfl ?_
  refine r_iconst (v := nI 3) M dL_law_1335 (by decide) ?_
  refine r_iaddN M dL_law_1336 ?_
  refine r_ialdX M dL_law_1337 (vp_inN (by omega) (by omega)) ?_
  refine r_aload_n M dL_law_1338 rfl ?_
  refine r_iload M dL_law_1339 rfl ?_
  refine r_iconst (v := nI 4) M dL_law_1341 (by decide) ?_
  refine r_iaddN M dL_law_1342 ?_
  refine r_ialdX M dL_law_1343 (vp_inN (by omega) (by omega)) ?_
  refine r_callV (As := [(.int (gX g (nI ((6 * t) + 1)).toNatClampNeg)), (.int (gX g (nI ((6 * t) + 2)).toNatClampNeg)), (.int (gX g (nI ((6 * t) + 3)).toNatClampNeg)), (.int (gX g (nI ((6 * t) + 4)).toNatClampNeg))]) M dL_law_1344 rfl (cm_bent hfl h1 m ad σ rm1 hx.1 (gX g (nI ((6 * t) + 1)).toNatClampNeg) (gX g (nI ((6 * t) + 2)).toNatClampNeg) (gX g (nI ((6 * t) + 3)).toNatClampNeg) (gX g (nI ((6 * t) + 4)).toNatClampNeg)) (rm1.1.1) rfl cw_L_148 ⟨Nat.le_of_ble_eq_true rfl, Nat.le_of_ble_eq_true rfl, Nat.le_of_ble_eq_true rfl⟩ (Nat.le_of_ble_eq_true rfl) ⟨by show _ ≤ 601024; omega, by show _ ≤ 7293034; omega⟩ (fun r2 h2 p2 => ?_) (fun E2 h2 p2 => (pMd.no p2).elim)
  obtain ⟨fr2, v2, er, d2⟩ := p2
  cases er
  refine r_ownE M (fun fE => ?_)
  obtain ⟨li2, hM2, th2, ov2⟩ := mid_end (by decide) md d1 fr2 fE (wx_bent hx (gX g (nI ((6 * t) + 1)).toNatClampNeg) (gX g (nI ((6 * t) + 2)).toNatClampNeg) (gX g (nI ((6 * t) + 3)).toNatClampNeg) (gX g (nI ((6 * t) + 4)).toNatClampNeg)) hx d2
  have ho2 : xS h2 o = some (11, 1) := li_o li2
  show V 1347 [some (.ref (gN g 4)), some (.ref x), some (.ref m), some (.ref o), some (.int (nI (6 * t))), some (.int (nI k)), z6] [(.int v2)] h2 _ _
  refine r_istore M dL_law_1347 (by decide) ?_
  show V 1349 [some (.ref (gN g 4)), some (.ref x), some (.ref m), some (.ref o), some (.int (nI (6 * t))), some (.int (nI k)), some (.int v2)] _ _ _ _
  refine r_aload_n M dL_law_1349 rfl ?_
  refine r_callV (As := []) M dL_law_1350 rfl (cm_thrown hfl h2 m ad hM2 k th2) (hM2.1) rfl cw_L_93 ⟨Nat.le_of_ble_eq_true rfl, Nat.le_of_ble_eq_true rfl, Nat.le_of_ble_eq_true rfl⟩ (Nat.le_of_ble_eq_true rfl) ⟨by show _ ≤ 601024; omega, by show _ ≤ 7293034; omega⟩ (fun r3 h3 p3 => ?_) (fun E3 h3 p3 => False.elim p3)
  obtain ⟨e3, e4⟩ := p3
  rw [e3, ← e4]
  show V 1353 [some (.ref (gN g 4)), some (.ref x), some (.ref m), some (.ref o), some (.int (nI (6 * t))), some (.int (nI k)), some (.int v2)] [(.int (nI k))] h2 _ _
  refine r_iload M dL_law_1353 rfl ?_
  refine r_icmp_eq (tgt := 1360) M dL_law_1355 (by decide) (fun _ => ?_) (fun c1 => absurd rfl c1)
  refine r_iload M dL_law_1360 rfl ?_
  refine r_if_ne (tgt := 1377) M dL_law_1362 (by decide) (fun c2 => ?_) (fun c2 => ?_)
  · refine r_goto (tgt := 1580) M dL_law_1377 (by decide) ?_
    exact K h2 _ _ _ _ li2 (by omega) (by omega)
  · refine r_aload_n M dL_law_1365 rfl ?_
    refine r_iconst (v := nI 0) M dL_law_1366 (by decide) ?_
    refine r_laldN M dL_law_1367 (ho2) (by omega) (by omega) ?_
    rw [(ov2 c2).1]
    refine r_iload M dL_law_1368 rfl ?_
    refine r_i2l M dL_law_1370 ?_
    refine r_lcmp M dL_law_1371 ?_
    refine r_if_eq (tgt := 1377) M dL_law_1372 (by decide) (fun _ => ?_) (fun c3 => absurd (by first | exact lg_self _ | decide) c3)
    refine r_goto (tgt := 1580) M dL_law_1377 (by decide) ?_
    exact K h2 _ _ _ _ li2 (by omega) (by omega)
set_option maxRecDepth 100000 in
set_option maxHeartbeats 4000000 in
theorem lc_least {g : Gl} {l : Launch} (hfl : l.stackTraces = false) {hh : List (Nat × Nat × Nat × Nat)} {mn : String} {V : VT} {X : XT} (M : Mach g l room_1 RL cL_law 7 hh mn V X) (x m o t : Nat) (ht : 6 * t + 6 ≤ gN g 5) (hL : gN g 5 ≤ 3072) (h : Hp) (li : LwI g h x m o) (kc ks : Nat) (hkc : kc ≤ 601000) (hks : ks ≤ 7290000) (z5 z6 : Option Value) (K : LwK g V x m o t kc ks) : V 1380 (LwL g x m o t z5 z6) [] h kc ks := by
  obtain ⟨ad, σ, ⟨ow, pL, sL, ha, ps, ss, rc, rm, ho, t1, t2, t3⟩, hx⟩ := li
  show V 1380 [some (.ref (gN g 4)), some (.ref x), some (.ref m), some (.ref o), some (.int (nI (6 * t))), z5, z6] [] h kc ks
  refine r_aload_n M dL_law_1380 rfl ?_
  refine r_aload_n M dL_law_1381 rfl ?_
  refine r_iload M dL_law_1382 rfl ?_
  refine r_iconst (v := nI 1) M dL_law_1384 (by decide) ?_
  refine r_iaddN M dL_law_1385 ?_
  refine r_ialdX M dL_law_1386 (vp_inN (by omega) (by omega)) ?_
  refine r_aload_n M dL_law_1387 rfl ?_
  refine r_callSW (As := [(.ref x), (.int (gX g (nI ((6 * t) + 1)).toNatClampNeg)), (.ref o)]) M dL_law_1388 rfl (ct_w_least hfl h x pL sL ha ow ps ss σ rc hx.1 o ho (gX g (nI ((6 * t) + 1)).toNatClampNeg)) cw_L_149 ⟨Nat.le_of_ble_eq_true rfl, Nat.le_of_ble_eq_true rfl, Nat.le_of_ble_eq_true rfl⟩ (Nat.le_of_ble_eq_true rfl) ⟨by show _ ≤ 601024; omega, by show _ ≤ 7293034; omega⟩ (fun r1 h1 p1 => ?_) (fun E1 h1 p1 => pWr.no p1)
  obtain ⟨k, er, p1⟩ := p1
  cases er
  obtain ⟨σc, md, d1⟩ := wr_mid rm ho t1 t2 t3 p1
  have rm1 := md.rm
  clear p1
  show V 1391 [some (.ref (gN g 4)), some (.ref x), some (.ref m), some (.ref o), some (.int (nI (6 * t))), z5, z6] [(.int (nI k))] h1 _ _
  refine r_istore M dL_law_1391 (by decide) ?_
  show V 1393 [some (.ref (gN g 4)), some (.ref x), some (.ref m), some (.ref o), some (.int (nI (6 * t))), some (.int (nI k)), z6] _ _ _ _
  refine r_aload_n M dL_law_1393 rfl ?_
  refine r_aload_n M dL_law_1394 rfl ?_
  refine r_iload M dL_law_1395 rfl ?_
  refine r_iconst (v := nI 1) M dL_law_1397 (by decide) ?_
  refine r_iaddN M dL_law_1398 ?_
  refine r_ialdX M dL_law_1399 (vp_inN (by omega) (by omega)) ?_
  refine r_callV (As := [(.int (gX g (nI ((6 * t) + 1)).toNatClampNeg))]) M dL_law_1400 rfl (cm_least hfl h1 m ad σ rm1 hx.1 (gX g (nI ((6 * t) + 1)).toNatClampNeg)) (rm1.1.1) rfl cw_L_151 ⟨Nat.le_of_ble_eq_true rfl, Nat.le_of_ble_eq_true rfl, Nat.le_of_ble_eq_true rfl⟩ (Nat.le_of_ble_eq_true rfl) ⟨by show _ ≤ 601024; omega, by show _ ≤ 7293034; omega⟩ (fun r2 h2 p2 => ?_) (fun E2 h2 p2 => (pMd.no p2).elim)
  obtain ⟨fr2, v2, er, d2⟩ := p2
  cases er
  refine r_ownE M (fun fE => ?_)
  obtain ⟨li2, hM2, th2, ov2⟩ := mid_end (by decide) md d1 fr2 fE (wx_least hx (gX g (nI ((6 * t) + 1)).toNatClampNeg)) hx d2
  have ho2 : xS h2 o = some (11, 1) := li_o li2
  show V 1403 [some (.ref (gN g 4)), some (.ref x), some (.ref m), some (.ref o), some (.int (nI (6 * t))), some (.int (nI k)), z6] [(.int v2)] h2 _ _
  refine r_istore M dL_law_1403 (by decide) ?_
  show V 1405 [some (.ref (gN g 4)), some (.ref x), some (.ref m), some (.ref o), some (.int (nI (6 * t))), some (.int (nI k)), some (.int v2)] _ _ _ _
  refine r_aload_n M dL_law_1405 rfl ?_
  refine r_callV (As := []) M dL_law_1406 rfl (cm_thrown hfl h2 m ad hM2 k th2) (hM2.1) rfl cw_L_93 ⟨Nat.le_of_ble_eq_true rfl, Nat.le_of_ble_eq_true rfl, Nat.le_of_ble_eq_true rfl⟩ (Nat.le_of_ble_eq_true rfl) ⟨by show _ ≤ 601024; omega, by show _ ≤ 7293034; omega⟩ (fun r3 h3 p3 => ?_) (fun E3 h3 p3 => False.elim p3)
  obtain ⟨e3, e4⟩ := p3
  rw [e3, ← e4]
  show V 1409 [some (.ref (gN g 4)), some (.ref x), some (.ref m), some (.ref o), some (.int (nI (6 * t))), some (.int (nI k)), some (.int v2)] [(.int (nI k))] h2 _ _
  refine r_iload M dL_law_1409 rfl ?_
  refine r_icmp_eq (tgt := 1416) M dL_law_1411 (by decide) (fun _ => ?_) (fun c1 => absurd rfl c1)
  refine r_iload M dL_law_1416 rfl ?_
  refine r_if_ne (tgt := 1433) M dL_law_1418 (by decide) (fun c2 => ?_) (fun c2 => ?_)
  · refine r_goto (tgt := 1580) M dL_law_1433 (by decide) ?_
    exact K h2 _ _ _ _ li2 (by omega) (by omega)
  · refine r_aload_n M dL_law_1421 rfl ?_
    refine r_iconst (v := nI 0) M dL_law_1422 (by decide) ?_
    refine r_laldN M dL_law_1423 (ho2) (by omega) (by omega) ?_
    rw [(ov2 c2).1]
    refine r_iload M dL_law_1424 rfl ?_
    refine r_i2l M dL_law_1426 ?_
    refine r_lcmp M dL_law_1427 ?_
    refine r_if_eq (tgt := 1433) M dL_law_1428 (by decide) (fun _ => ?_) (fun c3 => absurd (by first | exact lg_self _ | decide) c3)
    refine r_goto (tgt := 1580) M dL_law_1433 (by decide) ?_
    exact K h2 _ _ _ _ li2 (by omega) (by omega)
set_option maxRecDepth 100000 in
set_option maxHeartbeats 4000000 in
theorem lc_isBusy {g : Gl} {l : Launch} (hfl : l.stackTraces = false) {hh : List (Nat × Nat × Nat × Nat)} {mn : String} {V : VT} {X : XT} (M : Mach g l room_1 RL cL_law 7 hh mn V X) (x m o t : Nat) (ht : 6 * t + 6 ≤ gN g 5) (hL : gN g 5 ≤ 3072) (h : Hp) (li : LwI g h x m o) (kc ks : Nat) (hkc : kc ≤ 601000) (hks : ks ≤ 7290000) (z5 z6 : Option Value) (K : LwK g V x m o t kc ks) : V 1436 (LwL g x m o t z5 z6) [] h kc ks := by
  obtain ⟨ad, σ, ⟨ow, pL, sL, ha, ps, ss, rc, rm, ho, t1, t2, t3⟩, hx⟩ := li
  show V 1436 [some (.ref (gN g 4)), some (.ref x), some (.ref m), some (.ref o), some (.int (nI (6 * t))), z5, z6] [] h kc ks
  refine r_aload_n M dL_law_1436 rfl ?_
  refine r_aload_n M dL_law_1437 rfl ?_
  refine r_iload M dL_law_1438 rfl ?_
  refine r_iconst (v := nI 1) M dL_law_1440 (by decide) ?_
  refine r_iaddN M dL_law_1441 ?_
  refine r_ialdX M dL_law_1442 (vp_inN (by omega) (by omega)) ?_
  refine r_aload_n M dL_law_1443 rfl ?_
  refine r_iload M dL_law_1444 rfl ?_
  refine r_iconst (v := nI 2) M dL_law_1446 (by decide) ?_
  refine r_iaddN M dL_law_1447 ?_
  refine r_ialdX M dL_law_1448 (vp_inN (by omega) (by omega)) ?_
  refine r_aload_n M dL_law_1449 rfl ?_
  refine r_callSW (As := [(.ref x), (.int (gX g (nI ((6 * t) + 1)).toNatClampNeg)), (.int (gX g (nI ((6 * t) + 2)).toNatClampNeg)), (.ref o)]) M dL_law_1450 rfl (ct_w_isBusy hfl h x pL sL ha ow ps ss σ rc hx.1 o ho (gX g (nI ((6 * t) + 1)).toNatClampNeg) (gX g (nI ((6 * t) + 2)).toNatClampNeg)) cw_L_152 ⟨Nat.le_of_ble_eq_true rfl, Nat.le_of_ble_eq_true rfl, Nat.le_of_ble_eq_true rfl⟩ (Nat.le_of_ble_eq_true rfl) ⟨by show _ ≤ 601024; omega, by show _ ≤ 7293034; omega⟩ (fun r1 h1 p1 => ?_) (fun E1 h1 p1 => pWr.no p1)
  obtain ⟨k, er, p1⟩ := p1
  cases er
  obtain ⟨σc, md, d1⟩ := wr_mid rm ho t1 t2 t3 p1
  have rm1 := md.rm
  clear p1
  show V 1453 [some (.ref (gN g 4)), some (.ref x), some (.ref m), some (.ref o), some (.int (nI (6 * t))), z5, z6] [(.int (nI k))] h1 _ _
  refine r_istore M dL_law_1453 (by decide) ?_
  show V 1455 [some (.ref (gN g 4)), some (.ref x), some (.ref m), some (.ref o), some (.int (nI (6 * t))), some (.int (nI k)), z6] _ _ _ _
  refine r_aload_n M dL_law_1455 rfl ?_
  refine r_aload_n M dL_law_1456 rfl ?_
  refine r_iload M dL_law_1457 rfl ?_
  refine r_iconst (v := nI 1) M dL_law_1459 (by decide) ?_
  refine r_iaddN M dL_law_1460 ?_
  refine r_ialdX M dL_law_1461 (vp_inN (by omega) (by omega)) ?_
  refine r_aload_n M dL_law_1462 rfl ?_
  refine r_iload M dL_law_1463 rfl ?_
  refine r_iconst (v := nI 2) M dL_law_1465 (by decide) ?_
  refine r_iaddN M dL_law_1466 ?_
  refine r_ialdX M dL_law_1467 (vp_inN (by omega) (by omega)) ?_
  refine r_callV (As := [(.int (gX g (nI ((6 * t) + 1)).toNatClampNeg)), (.int (gX g (nI ((6 * t) + 2)).toNatClampNeg))]) M dL_law_1468 rfl (cm_isBusy hfl h1 m ad σ rm1 hx.1 (gX g (nI ((6 * t) + 1)).toNatClampNeg) (gX g (nI ((6 * t) + 2)).toNatClampNeg)) (rm1.1.1) rfl cw_L_154 ⟨Nat.le_of_ble_eq_true rfl, Nat.le_of_ble_eq_true rfl, Nat.le_of_ble_eq_true rfl⟩ (Nat.le_of_ble_eq_true rfl) ⟨by show _ ≤ 601024; omega, by show _ ≤ 7293034; omega⟩ (fun r2 h2 p2 => ?_) (fun E2 h2 p2 => (pMd.no p2).elim)
  obtain ⟨fr2, v2, er, d2⟩ := p2
  cases er
  refine r_ownE M (fun fE => ?_)
  obtain ⟨li2, hM2, th2, ov2⟩ := mid_end (by decide) md d1 fr2 fE (wx_isBusy hx (gX g (nI ((6 * t) + 1)).toNatClampNeg) (gX g (nI ((6 * t) + 2)).toNatClampNeg)) hx d2
  have ho2 : xS h2 o = some (11, 1) := li_o li2
  show V 1471 [some (.ref (gN g 4)), some (.ref x), some (.ref m), some (.ref o), some (.int (nI (6 * t))), some (.int (nI k)), z6] [(.int v2)] h2 _ _
  refine r_istore M dL_law_1471 (by decide) ?_
  show V 1473 [some (.ref (gN g 4)), some (.ref x), some (.ref m), some (.ref o), some (.int (nI (6 * t))), some (.int (nI k)), some (.int v2)] _ _ _ _
  refine r_aload_n M dL_law_1473 rfl ?_
  refine r_callV (As := []) M dL_law_1474 rfl (cm_thrown hfl h2 m ad hM2 k th2) (hM2.1) rfl cw_L_93 ⟨Nat.le_of_ble_eq_true rfl, Nat.le_of_ble_eq_true rfl, Nat.le_of_ble_eq_true rfl⟩ (Nat.le_of_ble_eq_true rfl) ⟨by show _ ≤ 601024; omega, by show _ ≤ 7293034; omega⟩ (fun r3 h3 p3 => ?_) (fun E3 h3 p3 => False.elim p3)
  obtain ⟨e3, e4⟩ := p3
  rw [e3, ← e4]
  show V 1477 [some (.ref (gN g 4)), some (.ref x), some (.ref m), some (.ref o), some (.int (nI (6 * t))), some (.int (nI k)), some (.int v2)] [(.int (nI k))] h2 _ _
  refine r_iload M dL_law_1477 rfl ?_
  refine r_icmp_eq (tgt := 1484) M dL_law_1479 (by decide) (fun _ => ?_) (fun c1 => absurd rfl c1)
  refine r_iload M dL_law_1484 rfl ?_
  refine r_if_ne (tgt := 1508) M dL_law_1486 (by decide) (fun c2 => ?_) (fun c2 => ?_)
  · refine r_goto (tgt := 1580) M dL_law_1508 (by decide) ?_
    exact K h2 _ _ _ _ li2 (by omega) (by omega)
  · refine r_aload_n M dL_law_1489 rfl ?_
    refine r_iconst (v := nI 0) M dL_law_1490 (by decide) ?_
    refine r_laldN M dL_law_1491 (ho2) (by omega) (by omega) ?_
    rw [(ov2 c2).1]
    refine r_iload M dL_law_1492 rfl ?_
    obtain ⟨σ9, e9⟩ := (ov2 c2).2
    rcases busy_01 e9 with rfl | rfl
    · refine r_if_eq (tgt := 1501) M dL_law_1494 (by decide) (fun _ => ?_) (fun c3 => absurd (by decide) c3)
      refine r_lconst (v := 0) M dL_law_1501 (by decide) ?_
      refine r_lcmp M dL_law_1502 ?_
      refine r_if_eq (tgt := 1508) M dL_law_1503 (by decide) (fun _ => ?_) (fun c4 => absurd (by first | exact lg_self _ | decide) c4)
      refine r_goto (tgt := 1580) M dL_law_1508 (by decide) ?_
      exact K h2 _ _ _ _ li2 (by omega) (by omega)
    · refine r_if_eq (tgt := 1501) M dL_law_1494 (by decide) (fun c5 => absurd c5 (by decide)) (fun _ => ?_)
      refine r_lconst (v := 1) M dL_law_1497 (by decide) ?_
      refine r_goto (tgt := 1502) M dL_law_1498 (by decide) ?_
      refine r_lcmp M dL_law_1502 ?_
      refine r_if_eq (tgt := 1508) M dL_law_1503 (by decide) (fun _ => ?_) (fun c6 => absurd (by first | exact lg_self _ | decide) c6)
      refine r_goto (tgt := 1580) M dL_law_1508 (by decide) ?_
      exact K h2 _ _ _ _ li2 (by omega) (by omega)
set_option maxRecDepth 100000 in
set_option maxHeartbeats 4000000 in
theorem lc_worn {g : Gl} {l : Launch} (hfl : l.stackTraces = false) {hh : List (Nat × Nat × Nat × Nat)} {mn : String} {V : VT} {X : XT} (M : Mach g l room_1 RL cL_law 7 hh mn V X) (x m o t : Nat) (ht : 6 * t + 6 ≤ gN g 5) (hL : gN g 5 ≤ 3072) (h : Hp) (li : LwI g h x m o) (kc ks : Nat) (hkc : kc ≤ 601000) (hks : ks ≤ 7290000) (z5 z6 : Option Value) (K : LwK g V x m o t kc ks) : V 1511 (LwL g x m o t z5 z6) [] h kc ks := by
  obtain ⟨ad, σ, ⟨ow, pL, sL, ha, ps, ss, rc, rm, ho, t1, t2, t3⟩, hx⟩ := li
  show V 1511 [some (.ref (gN g 4)), some (.ref x), some (.ref m), some (.ref o), some (.int (nI (6 * t))), z5, z6] [] h kc ks
  refine r_aload_n M dL_law_1511 rfl ?_
  refine r_aload_n M dL_law_1512 rfl ?_
  refine r_iload M dL_law_1513 rfl ?_
  refine r_iconst (v := nI 1) M dL_law_1515 (by decide) ?_
  refine r_iaddN M dL_law_1516 ?_
  refine r_ialdX M dL_law_1517 (vp_inN (by omega) (by omega)) ?_
  refine r_aload_n M dL_law_1518 rfl ?_
  refine r_callSW (As := [(.ref x), (.int (gX g (nI ((6 * t) + 1)).toNatClampNeg)), (.ref o)]) M dL_law_1519 rfl (ct_w_worn hfl h x pL sL ha ow ps ss σ rc hx.1 o ho (gX g (nI ((6 * t) + 1)).toNatClampNeg)) cw_L_155 ⟨Nat.le_of_ble_eq_true rfl, Nat.le_of_ble_eq_true rfl, Nat.le_of_ble_eq_true rfl⟩ (Nat.le_of_ble_eq_true rfl) ⟨by show _ ≤ 601024; omega, by show _ ≤ 7293034; omega⟩ (fun r1 h1 p1 => ?_) (fun E1 h1 p1 => pWr.no p1)
  obtain ⟨k, er, p1⟩ := p1
  cases er
  obtain ⟨σc, md, d1⟩ := wr_mid rm ho t1 t2 t3 p1
  have rm1 := md.rm
  clear p1
  show V 1522 [some (.ref (gN g 4)), some (.ref x), some (.ref m), some (.ref o), some (.int (nI (6 * t))), z5, z6] [(.int (nI k))] h1 _ _
  refine r_istore M dL_law_1522 (by decide) ?_
  show V 1524 [some (.ref (gN g 4)), some (.ref x), some (.ref m), some (.ref o), some (.int (nI (6 * t))), some (.int (nI k)), z6] _ _ _ _
  refine r_aload_n M dL_law_1524 rfl ?_
  refine r_aload_n M dL_law_1525 rfl ?_
  refine r_iload M dL_law_1526 rfl ?_
  refine r_iconst (v := nI 1) M dL_law_1528 (by decide) ?_
  refine r_iaddN M dL_law_1529 ?_
  refine r_ialdX M dL_law_1530 (vp_inN (by omega) (by omega)) ?_
  refine r_callV (As := [(.int (gX g (nI ((6 * t) + 1)).toNatClampNeg))]) M dL_law_1531 rfl (cm_worn hfl h1 m ad σ rm1 hx.1 (gX g (nI ((6 * t) + 1)).toNatClampNeg)) (rm1.1.1) rfl cw_L_157 ⟨Nat.le_of_ble_eq_true rfl, Nat.le_of_ble_eq_true rfl, Nat.le_of_ble_eq_true rfl⟩ (Nat.le_of_ble_eq_true rfl) ⟨by show _ ≤ 601024; omega, by show _ ≤ 7293034; omega⟩ (fun r2 h2 p2 => ?_) (fun E2 h2 p2 => (pMd.no p2).elim)
  obtain ⟨fr2, v2, er, d2⟩ := p2
  cases er
  refine r_ownE M (fun fE => ?_)
  obtain ⟨li2, hM2, th2, ov2⟩ := mid_end (by decide) md d1 fr2 fE (wx_worn hx (gX g (nI ((6 * t) + 1)).toNatClampNeg)) hx d2
  have ho2 : xS h2 o = some (11, 1) := li_o li2
  show V 1534 [some (.ref (gN g 4)), some (.ref x), some (.ref m), some (.ref o), some (.int (nI (6 * t))), some (.int (nI k)), z6] [(.int v2)] h2 _ _
  refine r_istore M dL_law_1534 (by decide) ?_
  show V 1536 [some (.ref (gN g 4)), some (.ref x), some (.ref m), some (.ref o), some (.int (nI (6 * t))), some (.int (nI k)), some (.int v2)] _ _ _ _
  refine r_aload_n M dL_law_1536 rfl ?_
  refine r_callV (As := []) M dL_law_1537 rfl (cm_thrown hfl h2 m ad hM2 k th2) (hM2.1) rfl cw_L_93 ⟨Nat.le_of_ble_eq_true rfl, Nat.le_of_ble_eq_true rfl, Nat.le_of_ble_eq_true rfl⟩ (Nat.le_of_ble_eq_true rfl) ⟨by show _ ≤ 601024; omega, by show _ ≤ 7293034; omega⟩ (fun r3 h3 p3 => ?_) (fun E3 h3 p3 => False.elim p3)
  obtain ⟨e3, e4⟩ := p3
  rw [e3, ← e4]
  show V 1540 [some (.ref (gN g 4)), some (.ref x), some (.ref m), some (.ref o), some (.int (nI (6 * t))), some (.int (nI k)), some (.int v2)] [(.int (nI k))] h2 _ _
  refine r_iload M dL_law_1540 rfl ?_
  refine r_icmp_eq (tgt := 1547) M dL_law_1542 (by decide) (fun _ => ?_) (fun c1 => absurd rfl c1)
  refine r_iload M dL_law_1547 rfl ?_
  refine r_if_ne (tgt := 1564) M dL_law_1549 (by decide) (fun c2 => ?_) (fun c2 => ?_)
  · refine r_goto (tgt := 1580) M dL_law_1564 (by decide) ?_
    exact K h2 _ _ _ _ li2 (by omega) (by omega)
  · refine r_aload_n M dL_law_1552 rfl ?_
    refine r_iconst (v := nI 0) M dL_law_1553 (by decide) ?_
    refine r_laldN M dL_law_1554 (ho2) (by omega) (by omega) ?_
    rw [(ov2 c2).1]
    refine r_iload M dL_law_1555 rfl ?_
    refine r_i2l M dL_law_1557 ?_
    refine r_lcmp M dL_law_1558 ?_
    refine r_if_eq (tgt := 1564) M dL_law_1559 (by decide) (fun _ => ?_) (fun c3 => absurd (by first | exact lg_self _ | decide) c3)
    refine r_goto (tgt := 1580) M dL_law_1564 (by decide) ?_
    exact K h2 _ _ _ _ li2 (by omega) (by omega)
set_option maxRecDepth 100000 in
set_option maxHeartbeats 4000000 in
theorem lc_income {g : Gl} {l : Launch} (hfl : l.stackTraces = false) {hh : List (Nat × Nat × Nat × Nat)} {mn : String} {V : VT} {X : XT} (M : Mach g l room_1 RL cL_law 7 hh mn V X) (x m o t : Nat) (h : Hp) (li : LwI g h x m o) (kc ks : Nat) (hkc : kc ≤ 601000) (hks : ks ≤ 7290000) (z5 z6 : Option Value) (K : LwK g V x m o t kc ks) : V 1567 (LwL g x m o t z5 z6) [] h kc ks := by
  obtain ⟨ad, σ, ⟨ow, pL, sL, ha, ps, ss, rc, rm, ho, t1, t2, t3⟩, hx⟩ := li
  show V 1567 [some (.ref (gN g 4)), some (.ref x), some (.ref m), some (.ref o), some (.int (nI (6 * t))), z5, z6] [] h kc ks
  refine r_aload_n M dL_law_1567 rfl ?_
  refine r_callV (As := []) M dL_law_1568 rfl (ct_o_income hfl h x pL sL ha ow ps ss σ rc hx.1) (rc.1.1) rfl cw_L_158 ⟨Nat.le_of_ble_eq_true rfl, Nat.le_of_ble_eq_true rfl, Nat.le_of_ble_eq_true rfl⟩ (Nat.le_of_ble_eq_true rfl) ⟨by show _ ≤ 601024; omega, by show _ ≤ 7293034; omega⟩ (fun r1 h1 p1 => ?_) (fun E1 h1 p1 => ?_)
  · rcases p1 with ⟨E0, -, e2, -⟩ | ⟨v, σ1, e1, e2, aft⟩
    · cases e2
    · cases e2
      cases e1
      have md := aft_mid rm ho t1 t2 t3 aft
      have rm1 := md.rm
      show V 1571 [some (.ref (gN g 4)), some (.ref x), some (.ref m), some (.ref o), some (.int (nI (6 * t))), z5, z6] [.int (ePaid σ)] h1 _ _
      refine r_aload_n M dL_law_1571 rfl ?_
      refine r_callV (As := []) M dL_law_1572 rfl (cm_income hfl h1 m ad σ rm1 hx.1) (rm1.1.1) rfl cw_L_161 ⟨Nat.le_of_ble_eq_true rfl, Nat.le_of_ble_eq_true rfl, Nat.le_of_ble_eq_true rfl⟩ (Nat.le_of_ble_eq_true rfl) ⟨by show _ ≤ 601024; omega, by show _ ≤ 7293034; omega⟩ (fun r2 h2 p2 => ?_) (fun E2 h2 p2 => (pMd.no p2).elim)
      obtain ⟨fr2, v2, er, d2⟩ := p2
      cases er
      refine r_ownE M (fun fE => ?_)
      rcases d2 with ⟨E, u1, -, -⟩ | ⟨σ', u1, u2, u3⟩
      · cases u1
      · cases u1
        obtain ⟨md2, -⟩ := md.fr fr2 fE u3
        show V 1575 [some (.ref (gN g 4)), some (.ref x), some (.ref m), some (.ref o), some (.int (nI (6 * t))), z5, z6] [.int (ePaid σ), .int (ePaid σ)] h2 _ _
        refine r_icmp_eq (tgt := 1580) M dL_law_1575 (by decide) (fun _ => ?_) (fun c => absurd rfl c)
        exact K h2 _ _ _ _ ⟨ad, σ, md2, hx⟩ (by omega) (by omega)
  · rcases p1 with ⟨E0, e1, -, -⟩ | ⟨v, σ1, -, e2, -⟩
    · cases e1
    · cases e2
