/-! ===== the law: what its instructions ask; the state between two calls ===== -/
theorem cl_L_8 : Cond.classLink RL 8 "Puppetloom" ∈ TB := TB_at 59 (by decide +kernel) rfl
theorem nwL_5 : Cond.instantiable "Puppetloom" 4 ∈ TB := TB_at 60 (by decide +kernel) rfl
theorem niL_5 : Cond.initialized "Puppetloom" ∈ TB := TB_at 29 (by decide +kernel) rfl
theorem cw_L_83 : CWI RL 83 iX5_init 0 := ⟨rfl, rfl, ⟨by decide, by decide, by decide +kernel⟩, TB_at 61 (by decide +kernel) rfl, TB_at 62 (by decide +kernel) rfl, TB_at 29 (by decide +kernel) rfl, TB_at 63 (by decide +kernel) rfl⟩
theorem cl_L_84 : Cond.classLink RL 84 "PuppetloomModel" ∈ TB := TB_at 983 (by decide +kernel) rfl
theorem nwL_6 : Cond.instantiable "PuppetloomModel" 29 ∈ TB := TB_at 984 (by decide +kernel) rfl
theorem niL_6 : Cond.initialized "PuppetloomModel" ∈ TB := TB_at 34 (by decide +kernel) rfl
theorem cw_L_86 : CWI RL 86 iX6_init 0 := ⟨rfl, rfl, ⟨by decide, by decide, by decide +kernel⟩, TB_at 985 (by decide +kernel) rfl, TB_at 986 (by decide +kernel) rfl, TB_at 34 (by decide +kernel) rfl, TB_at 987 (by decide +kernel) rfl⟩
theorem cw_L_87 : CWSW RL 87 iL_puppet [(0, 10, 13, 13), (0, 10, 17, 15)] 4 := ⟨⟨by decide, by decide, by decide +kernel⟩, TB_at 114 (by decide +kernel) rfl, TB_at 115 (by decide +kernel) rfl, TB_at 28 (by decide +kernel) rfl, TB_at 116 (by decide +kernel) rfl⟩
theorem cw_L_92 : CWV RL 92 RX6 iX6_puppet 2 := ⟨rfl, ⟨by decide, by decide, by decide +kernel⟩, TB_at 1081 (by decide +kernel) rfl, TB_at 1082 (by decide +kernel) rfl, TB_at 1083 (by decide +kernel) rfl, TB_at 34 (by decide +kernel) rfl, TB_at 1084 (by decide +kernel) rfl⟩
theorem cw_L_93 : CWV RL 93 RX6 iX6_thrown 0 := ⟨rfl, ⟨by decide, by decide, by decide +kernel⟩, TB_at 1077 (by decide +kernel) rfl, TB_at 1078 (by decide +kernel) rfl, TB_at 1079 (by decide +kernel) rfl, TB_at 34 (by decide +kernel) rfl, TB_at 1080 (by decide +kernel) rfl⟩
theorem cw_L_97 : CWSW RL 97 iL_setLength [(0, 10, 13, 20), (0, 10, 17, 13)] 4 := ⟨⟨by decide, by decide, by decide +kernel⟩, TB_at 333 (by decide +kernel) rfl, TB_at 334 (by decide +kernel) rfl, TB_at 28 (by decide +kernel) rfl, TB_at 335 (by decide +kernel) rfl⟩
theorem cw_L_99 : CWV RL 99 RX6 iX6_setLength 2 := ⟨rfl, ⟨by decide, by decide, by decide +kernel⟩, TB_at 1092 (by decide +kernel) rfl, TB_at 1093 (by decide +kernel) rfl, TB_at 1094 (by decide +kernel) rfl, TB_at 34 (by decide +kernel) rfl, TB_at 1095 (by decide +kernel) rfl⟩
theorem cw_L_100 : CWSW RL 100 iL_key [(0, 16, 19, 20), (0, 16, 23, 13), (0, 16, 27, 15)] 7 := ⟨⟨by decide, by decide, by decide +kernel⟩, TB_at 375 (by decide +kernel) rfl, TB_at 376 (by decide +kernel) rfl, TB_at 28 (by decide +kernel) rfl, TB_at 377 (by decide +kernel) rfl⟩
theorem cw_L_103 : CWV RL 103 RX6 iX6_key 5 := ⟨rfl, ⟨by decide, by decide, by decide +kernel⟩, TB_at 1100 (by decide +kernel) rfl, TB_at 1101 (by decide +kernel) rfl, TB_at 1102 (by decide +kernel) rfl, TB_at 34 (by decide +kernel) rfl, TB_at 1103 (by decide +kernel) rfl⟩
theorem cw_L_104 : CWSW RL 104 iL_cutKey [(0, 10, 13, 20), (0, 10, 17, 29)] 4 := ⟨⟨by decide, by decide, by decide +kernel⟩, TB_at 672 (by decide +kernel) rfl, TB_at 673 (by decide +kernel) rfl, TB_at 28 (by decide +kernel) rfl, TB_at 674 (by decide +kernel) rfl⟩
theorem cw_L_106 : CWV RL 106 RX6 iX6_cutKey 2 := ⟨rfl, ⟨by decide, by decide, by decide +kernel⟩, TB_at 1116 (by decide +kernel) rfl, TB_at 1117 (by decide +kernel) rfl, TB_at 1118 (by decide +kernel) rfl, TB_at 34 (by decide +kernel) rfl, TB_at 1119 (by decide +kernel) rfl⟩
theorem cw_L_107 : CWSW RL 107 iL_hear [(0, 10, 13, 20), (0, 10, 17, 13)] 4 := ⟨⟨by decide, by decide, by decide +kernel⟩, TB_at 708 (by decide +kernel) rfl, TB_at 709 (by decide +kernel) rfl, TB_at 28 (by decide +kernel) rfl, TB_at 710 (by decide +kernel) rfl⟩
theorem cw_L_109 : CWV RL 109 RX6 iX6_hear 2 := ⟨rfl, ⟨by decide, by decide, by decide +kernel⟩, TB_at 1120 (by decide +kernel) rfl, TB_at 1121 (by decide +kernel) rfl, TB_at 1122 (by decide +kernel) rfl, TB_at 34 (by decide +kernel) rfl, TB_at 1123 (by decide +kernel) rfl⟩
theorem cw_L_110 : CWSW RL 110 iL_cue [(0, 10, 13, 20)] 4 := ⟨⟨by decide, by decide, by decide +kernel⟩, TB_at 716 (by decide +kernel) rfl, TB_at 717 (by decide +kernel) rfl, TB_at 28 (by decide +kernel) rfl, TB_at 718 (by decide +kernel) rfl⟩
theorem cw_L_112 : CWV RL 112 RX6 iX6_cue 2 := ⟨rfl, ⟨by decide, by decide, by decide +kernel⟩, TB_at 1127 (by decide +kernel) rfl, TB_at 1128 (by decide +kernel) rfl, TB_at 1129 (by decide +kernel) rfl, TB_at 34 (by decide +kernel) rfl, TB_at 1130 (by decide +kernel) rfl⟩
theorem cw_L_113 : CWSW RL 113 iL_show [(0, 10, 13, 13), (0, 10, 17, 15)] 4 := ⟨⟨by decide, by decide, by decide +kernel⟩, TB_at 723 (by decide +kernel) rfl, TB_at 724 (by decide +kernel) rfl, TB_at 28 (by decide +kernel) rfl, TB_at 725 (by decide +kernel) rfl⟩
theorem cw_L_115 : CWV RL 115 RX6 iX6_show 2 := ⟨rfl, ⟨by decide, by decide, by decide +kernel⟩, TB_at 1131 (by decide +kernel) rfl, TB_at 1132 (by decide +kernel) rfl, TB_at 1133 (by decide +kernel) rfl, TB_at 34 (by decide +kernel) rfl, TB_at 1134 (by decide +kernel) rfl⟩
theorem cw_L_116 : CWSW RL 116 iL_cast [(0, 10, 13, 20), (0, 10, 17, 15)] 4 := ⟨⟨by decide, by decide, by decide +kernel⟩, TB_at 777 (by decide +kernel) rfl, TB_at 778 (by decide +kernel) rfl, TB_at 28 (by decide +kernel) rfl, TB_at 779 (by decide +kernel) rfl⟩
theorem cw_L_118 : CWV RL 118 RX6 iX6_cast 2 := ⟨rfl, ⟨by decide, by decide, by decide +kernel⟩, TB_at 1136 (by decide +kernel) rfl, TB_at 1137 (by decide +kernel) rfl, TB_at 1138 (by decide +kernel) rfl, TB_at 34 (by decide +kernel) rfl, TB_at 1139 (by decide +kernel) rfl⟩
theorem cw_L_119 : CWSW RL 119 iL_leave [(0, 10, 13, 20), (0, 10, 17, 15)] 4 := ⟨⟨by decide, by decide, by decide +kernel⟩, TB_at 813 (by decide +kernel) rfl, TB_at 814 (by decide +kernel) rfl, TB_at 28 (by decide +kernel) rfl, TB_at 815 (by decide +kernel) rfl⟩
theorem cw_L_121 : CWV RL 121 RX6 iX6_leave 2 := ⟨rfl, ⟨by decide, by decide, by decide +kernel⟩, TB_at 1155 (by decide +kernel) rfl, TB_at 1156 (by decide +kernel) rfl, TB_at 1157 (by decide +kernel) rfl, TB_at 34 (by decide +kernel) rfl, TB_at 1158 (by decide +kernel) rfl⟩
theorem cw_L_122 : CWSW RL 122 iL_sell [(0, 12, 15, 20), (0, 12, 19, 13), (0, 12, 23, 15)] 5 := ⟨⟨by decide, by decide, by decide +kernel⟩, TB_at 825 (by decide +kernel) rfl, TB_at 826 (by decide +kernel) rfl, TB_at 28 (by decide +kernel) rfl, TB_at 827 (by decide +kernel) rfl⟩
theorem cw_L_125 : CWV RL 125 RX6 iX6_sell 3 := ⟨rfl, ⟨by decide, by decide, by decide +kernel⟩, TB_at 1159 (by decide +kernel) rfl, TB_at 1160 (by decide +kernel) rfl, TB_at 1161 (by decide +kernel) rfl, TB_at 34 (by decide +kernel) rfl, TB_at 1162 (by decide +kernel) rfl⟩
theorem cw_L_126 : CWSW RL 126 iL_perform [(0, 9, 12, 20), (0, 9, 15, 15)] 3 := ⟨⟨by decide, by decide, by decide +kernel⟩, TB_at 833 (by decide +kernel) rfl, TB_at 834 (by decide +kernel) rfl, TB_at 28 (by decide +kernel) rfl, TB_at 835 (by decide +kernel) rfl⟩
theorem cw_L_129 : CWV RL 129 RX6 iX6_perform 1 := ⟨rfl, ⟨by decide, by decide, by decide +kernel⟩, TB_at 1163 (by decide +kernel) rfl, TB_at 1164 (by decide +kernel) rfl, TB_at 1165 (by decide +kernel) rfl, TB_at 34 (by decide +kernel) rfl, TB_at 1166 (by decide +kernel) rfl⟩
theorem cw_L_130 : CWSW RL 130 iL_mend [(0, 10, 13, 20), (0, 10, 17, 13), (0, 10, 21, 15)] 4 := ⟨⟨by decide, by decide, by decide +kernel⟩, TB_at 846 (by decide +kernel) rfl, TB_at 847 (by decide +kernel) rfl, TB_at 28 (by decide +kernel) rfl, TB_at 848 (by decide +kernel) rfl⟩
theorem cw_L_132 : CWV RL 132 RX6 iX6_mend 2 := ⟨rfl, ⟨by decide, by decide, by decide +kernel⟩, TB_at 1167 (by decide +kernel) rfl, TB_at 1168 (by decide +kernel) rfl, TB_at 1169 (by decide +kernel) rfl, TB_at 34 (by decide +kernel) rfl, TB_at 1170 (by decide +kernel) rfl⟩
theorem cw_L_133 : CWSW RL 133 iL_track [(0, 10, 13, 20), (0, 10, 17, 13)] 4 := ⟨⟨by decide, by decide, by decide +kernel⟩, TB_at 855 (by decide +kernel) rfl, TB_at 856 (by decide +kernel) rfl, TB_at 28 (by decide +kernel) rfl, TB_at 857 (by decide +kernel) rfl⟩
theorem cw_L_135 : CWV RL 135 RX6 iX6_track 2 := ⟨rfl, ⟨by decide, by decide, by decide +kernel⟩, TB_at 1171 (by decide +kernel) rfl, TB_at 1172 (by decide +kernel) rfl, TB_at 1173 (by decide +kernel) rfl, TB_at 34 (by decide +kernel) rfl, TB_at 1174 (by decide +kernel) rfl⟩
theorem cw_L_136 : CWSW RL 136 iL_trackByFrames [(0, 10, 13, 20), (0, 10, 17, 13)] 4 := ⟨⟨by decide, by decide, by decide +kernel⟩, TB_at 887 (by decide +kernel) rfl, TB_at 888 (by decide +kernel) rfl, TB_at 28 (by decide +kernel) rfl, TB_at 889 (by decide +kernel) rfl⟩
theorem cw_L_138 : CWV RL 138 RX6 iX6_trackByFrames 2 := ⟨rfl, ⟨by decide, by decide, by decide +kernel⟩, TB_at 1186 (by decide +kernel) rfl, TB_at 1187 (by decide +kernel) rfl, TB_at 1188 (by decide +kernel) rfl, TB_at 34 (by decide +kernel) rfl, TB_at 1189 (by decide +kernel) rfl⟩
theorem cw_L_139 : CWSW RL 139 iL_x [(0, 12, 15, 20), (0, 12, 19, 13)] 5 := ⟨⟨by decide, by decide, by decide +kernel⟩, TB_at 898 (by decide +kernel) rfl, TB_at 899 (by decide +kernel) rfl, TB_at 28 (by decide +kernel) rfl, TB_at 900 (by decide +kernel) rfl⟩
theorem cw_L_141 : CWV RL 141 RX6 iX6_x 3 := ⟨rfl, ⟨by decide, by decide, by decide +kernel⟩, TB_at 1190 (by decide +kernel) rfl, TB_at 1191 (by decide +kernel) rfl, TB_at 1192 (by decide +kernel) rfl, TB_at 34 (by decide +kernel) rfl, TB_at 1193 (by decide +kernel) rfl⟩
theorem cw_L_142 : CWSW RL 142 iL_y [(0, 12, 15, 20), (0, 12, 19, 13)] 5 := ⟨⟨by decide, by decide, by decide +kernel⟩, TB_at 942 (by decide +kernel) rfl, TB_at 943 (by decide +kernel) rfl, TB_at 28 (by decide +kernel) rfl, TB_at 944 (by decide +kernel) rfl⟩
theorem cw_L_144 : CWV RL 144 RX6 iX6_y 3 := ⟨rfl, ⟨by decide, by decide, by decide +kernel⟩, TB_at 1216 (by decide +kernel) rfl, TB_at 1217 (by decide +kernel) rfl, TB_at 1218 (by decide +kernel) rfl, TB_at 34 (by decide +kernel) rfl, TB_at 1219 (by decide +kernel) rfl⟩
theorem cw_L_145 : CWSW RL 145 iL_bent [(0, 14, 17, 20), (0, 14, 21, 13)] 6 := ⟨⟨by decide, by decide, by decide +kernel⟩, TB_at 949 (by decide +kernel) rfl, TB_at 950 (by decide +kernel) rfl, TB_at 28 (by decide +kernel) rfl, TB_at 951 (by decide +kernel) rfl⟩
theorem cw_L_148 : CWV RL 148 RX6 iX6_bent 4 := ⟨rfl, ⟨by decide, by decide, by decide +kernel⟩, TB_at 1220 (by decide +kernel) rfl, TB_at 1221 (by decide +kernel) rfl, TB_at 1222 (by decide +kernel) rfl, TB_at 34 (by decide +kernel) rfl, TB_at 1223 (by decide +kernel) rfl⟩
theorem cw_L_149 : CWSW RL 149 iL_least [(0, 9, 12, 20)] 3 := ⟨⟨by decide, by decide, by decide +kernel⟩, TB_at 956 (by decide +kernel) rfl, TB_at 957 (by decide +kernel) rfl, TB_at 28 (by decide +kernel) rfl, TB_at 958 (by decide +kernel) rfl⟩
theorem cw_L_151 : CWV RL 151 RX6 iX6_least 1 := ⟨rfl, ⟨by decide, by decide, by decide +kernel⟩, TB_at 1224 (by decide +kernel) rfl, TB_at 1225 (by decide +kernel) rfl, TB_at 1226 (by decide +kernel) rfl, TB_at 34 (by decide +kernel) rfl, TB_at 1227 (by decide +kernel) rfl⟩
theorem cw_L_152 : CWSW RL 152 iL_isBusy [(0, 17, 20, 20), (0, 17, 24, 13)] 4 := ⟨⟨by decide, by decide, by decide +kernel⟩, TB_at 968 (by decide +kernel) rfl, TB_at 969 (by decide +kernel) rfl, TB_at 28 (by decide +kernel) rfl, TB_at 970 (by decide +kernel) rfl⟩
theorem cw_L_154 : CWV RL 154 RX6 iX6_isBusy 2 := ⟨rfl, ⟨by decide, by decide, by decide +kernel⟩, TB_at 1228 (by decide +kernel) rfl, TB_at 1229 (by decide +kernel) rfl, TB_at 1230 (by decide +kernel) rfl, TB_at 34 (by decide +kernel) rfl, TB_at 1231 (by decide +kernel) rfl⟩
theorem cw_L_155 : CWSW RL 155 iL_worn [(0, 9, 12, 20)] 3 := ⟨⟨by decide, by decide, by decide +kernel⟩, TB_at 976 (by decide +kernel) rfl, TB_at 977 (by decide +kernel) rfl, TB_at 28 (by decide +kernel) rfl, TB_at 978 (by decide +kernel) rfl⟩
theorem cw_L_157 : CWV RL 157 RX6 iX6_worn 1 := ⟨rfl, ⟨by decide, by decide, by decide +kernel⟩, TB_at 1233 (by decide +kernel) rfl, TB_at 1234 (by decide +kernel) rfl, TB_at 1235 (by decide +kernel) rfl, TB_at 34 (by decide +kernel) rfl, TB_at 1236 (by decide +kernel) rfl⟩
theorem cw_L_158 : CWV RL 158 RX5 iX5_income 0 := ⟨rfl, ⟨by decide, by decide, by decide +kernel⟩, TB_at 110 (by decide +kernel) rfl, TB_at 111 (by decide +kernel) rfl, TB_at 112 (by decide +kernel) rfl, TB_at 29 (by decide +kernel) rfl, TB_at 113 (by decide +kernel) rfl⟩
theorem cw_L_161 : CWV RL 161 RX6 iX6_income 0 := ⟨rfl, ⟨by decide, by decide, by decide +kernel⟩, TB_at 1237 (by decide +kernel) rfl, TB_at 1238 (by decide +kernel) rfl, TB_at 1239 (by decide +kernel) rfl, TB_at 34 (by decide +kernel) rfl, TB_at 1240 (by decide +kernel) rfl⟩
theorem RC.kp0 {E : Nat} {ow : Nat → Nat} {h h' : Hp} {x pL sL ha : Nat} {ps ss : List Nat} {σ : ST} (r : RC E ow h x pL sL ha ps ss σ) (k : Kp (fun t => t ≠ 0) ow ow h h') (hE : xS h' E = none) : RC E ow h' x pL sL ha ps ss σ := by
  obtain ⟨⟨a1, a2, a3, a4, a5⟩, ⟨b1, b2, b3, b4⟩, zp, zs, ⟨d1, d2⟩, ⟨e1, e2, e3, e4, e5, e6⟩, f1⟩ := r
  have T1 : ow x ≠ 0 := by omega
  have Tp : ow pL ≠ 0 := by omega
  have Ts : ow sL ≠ 0 := by omega
  have Th : ow ha ≠ 0 := by omega
  have T5 : (fun t : Nat => t ≠ 0) 5 := by show 5 ≠ 0; decide
  have T6 : (fun t : Nat => t ≠ 0) 6 := by show 6 ≠ 0; decide
  exact ⟨⟨k.S a1, by rw [k.P a1 T1, a2], by rw [k.P a1 T1, a3], by rw [k.P a1 T1, a4], k.S a5⟩, ⟨b1.kp k Tp (LD.TT (T := fun t => t ≠ 0) e5 T5) f1, b2.kp k Ts (LD.TT (T := fun t => t ≠ 0) e6 T6) f1, b3, b4⟩, fun i b hb => (zp i b hb).kp k f1 (fun t ht => by show t ≠ 0; omega), fun j s hs => (zs j s hs).kp k (fun t ht => by show t ≠ 0; omega), ⟨fun s => by rw [k.A a5 Th, d1], by rw [k.F a1 T1, d2]⟩, ⟨by rw [k.O a1, e1], by rw [k.O b1.1, e2], by rw [k.O b2.1, e3], by rw [k.O a5, e4], LD.kp k b1.1 Tp e5, LD.kp k b2.1 Ts e6⟩, hE⟩
theorem RM.ext {ow : Nat → Nat} {h h' : Hp} {m : Nat} {ad : Nat → Nat} {σ : ST} (r : RM h m ad σ) (e : Ext ow h h') (hm : ow m = 0) (ha : ∀ s k n, (s, k, n) ∈ mSl → ow (ad s) = 0) : RM h' m ad σ := by
  obtain ⟨hM, ⟨g1, g2, g3⟩, rp, rs, rh, rt⟩ := r
  obtain ⟨m1, m2⟩ := e m _ hM.1
  obtain ⟨f1, f2, -, -, -⟩ := m2 hm
  have A : ∀ s k n, (s, k, n) ∈ mSl → xA h' (ad s) = xA h (ad s) := fun s k n hs => ((e _ _ (hM.2.1 s k n hs).2).2 (ha s k n hs)).2.2.1
  refine ⟨⟨m1, fun s k n hs => ⟨(f2 _).trans (hM.2.1 s k n hs).1, (e _ _ (hM.2.1 s k n hs).2).1⟩, hM.2.2⟩, ⟨(f1 606 (by decide)).trans g1, (f1 621 (by decide)).trans g2, (f1 622 (by decide)).trans g3⟩, fun i hi => ?_, fun j hj => ?_, fun s hs => ?_, fun s hs => ?_⟩
  · have := rp i hi
    unfold MPup at this ⊢
    simp only [A 1 8 8 (by decide), A 2 8 8 (by decide), A 3 8 8 (by decide), A 4 8 8 (by decide), A 5 8 8 (by decide), A 7 8 96 (by decide), A 8 8 96 (by decide), A 9 8 96 (by decide), A 10 8 96 (by decide), A 11 8 80 (by decide), A 12 8 80 (by decide), A 13 8 8 (by decide)]
    exact this
  · have := rs j hj
    unfold MSho at this ⊢
    simp only [A 15 8 6 (by decide), A 16 8 6 (by decide), A 17 9 6 (by decide), A 18 8 6 (by decide), A 19 8 6 (by decide), A 20 9 48 (by decide)]
    exact this
  · rw [A 14 8 10 (by decide)]; exact rh s hs
  · rw [A 23 8 32 (by decide)]; exact rt s hs
theorem RM.rowL {h : Hp} {m a i : Nat} {ad : Nat → Nat} {σ : ST} {v : Int64} (r : RM h m ad σ) : RM (yL h a i v) m ad σ := by
  obtain ⟨hM, ⟨g1, g2, g3⟩, rp, rs, rh, rt⟩ := r
  exact ⟨hM.eq rfl rfl, ⟨g1, g2, g3⟩, rp, rs, rh, rt⟩
/-- between two calls: the class at one state, the model at one, the law's row -/
def Mid (g : Gl) (h : Hp) (x m o : Nat) (ad : Nat → Nat) (σc σm : ST) : Prop := ∃ (ow : Nat → Nat) (pL sL ha : Nat) (ps ss : List Nat), RC (gN g 2) ow h x pL sL ha ps ss σc ∧ RM h m ad σm ∧ xS h o = some (11, 1) ∧ ow o = 0 ∧ ow m = 0 ∧ ∀ s k n, (s, k, n) ∈ mSl → ow (ad s) = 0
def LwI (g : Gl) (h : Hp) (x m o : Nat) : Prop := ∃ (ad : Nat → Nat) (σ : ST), Mid g h x m o ad σ σ ∧ WX σ
section MidL
variable {g : Gl} {h h1 h2 : Hp} {x m o : Nat} {ad : Nat → Nat} {σ σc σ' : ST}
theorem Mid.rm (md : Mid g h x m o ad σc σ) : RM h m ad σ := by
  obtain ⟨ow, pL, sL, ha, ps, ss, r, rm, t⟩ := md
  exact rm
theorem aft_mid {ow : Nat → Nat} {pL sL ha : Nat} (rm : RM h m ad σ) (ho : xS h o = some (11, 1)) (t1 : ow o = 0) (t2 : ow m = 0) (t3 : ∀ s k n, (s, k, n) ∈ mSl → ow (ad s) = 0) (a : Aft (gN g 2) ow h x pL sL ha σ' h1) : Mid g h1 x m o ad σ' σ := by
  obtain ⟨ow', ps', ss', r', e1, e2⟩ := a
  exact ⟨ow', pL, sL, ha, ps', ss', r', rm.ext e2 t2 t3, (e2 o _ ho).1, by rw [e1 o _ ho, t1], by rw [e1 m _ rm.1.1, t2], fun s k n hs => by rw [e1 _ _ (rm.1.2.1 s k n hs).2, t3 s k n hs]⟩
theorem Mid.row (md : Mid g h x m o ad σc σ) (v : Int64) : Mid g (yL h o 0 v) x m o ad σc σ := by
  obtain ⟨ow, pL, sL, ha, ps, ss, r, rm, ho, t1, t2, t3⟩ := md
  have hE : xS (yL h o 0 v) (gN g 2) = none := r.2.2.2.2.2.2
  exact ⟨ow, pL, sL, ha, ps, ss, r.kp0 (Kp.of (Fr.yL (Wr := fun b => b = o) rfl) (fun _ _ _ => rfl) (fun b z hz ht e => ht (by rw [e]; exact t1))) hE, rm.rowL, ho, t1, t2, t3⟩
theorem mSl_11 : ∀ e ∈ mSl, ¬ e.2 = (11, 1) := by decide
theorem MW.no (hM : MS h m ad) (ho : xS h o = some (11, 1)) : ¬ MW m ad o := fun z => by
  rcases z with e | ⟨s, k, n, hs, e⟩
  · rw [e, hM.1] at ho; cases ho
  · rw [e, (hM.2.1 s k n hs).2] at ho
    exact mSl_11 _ hs (Option.some.inj ho)
theorem Mid.fr (md : Mid g h1 x m o ad σc σ) (fr : Fr (MW m ad) h1 h2) (hE : xS h2 (gN g 2) = none) (rm2 : RM h2 m ad σ') : Mid g h2 x m o ad σc σ' ∧ xL h2 o 0 = xL h1 o 0 := by
  obtain ⟨ow, pL, sL, ha, ps, ss, r, rm, ho, t1, t2, t3⟩ := md
  have k : Kp (fun t => t ≠ 0) ow ow h1 h2 := Kp.of fr (fun _ _ _ => rfl) (fun b z hz ht hb => by
    rcases hb with e | ⟨s, kk, n, hs, e⟩
    · exact ht (by rw [e]; exact t2)
    · exact ht (by rw [e]; exact t3 s kk n hs))
  exact ⟨⟨ow, pL, sL, ha, ps, ss, r.kp0 k hE, rm2, fr.S ho, t1, t2, t3⟩, by rw [fr.L ho (MW.no rm.1 ho)]⟩
theorem wr_mid {ow : Nat → Nat} {pL sL ha k : Nat} {L : List String} {op : OR} (rm : RM h m ad σ) (ho : xS h o = some (11, 1)) (t1 : ow o = 0) (t2 : ow m = 0) (t3 : ∀ s k n, (s, k, n) ∈ mSl → ow (ad s) = 0) (p : (∃ X, op = .inl X ∧ k = cdOf L X ∧ X ∈ L ∧ Aft (gN g 2) ow h x pL sL ha σ h1) ∨ ∃ v σ' h2, op = .inr (v, σ') ∧ k = 0 ∧ Aft (gN g 2) ow h x pL sL ha σ' h2 ∧ h1 = yL h2 o 0 v.toInt64) : ∃ σc, Mid g h1 x m o ad σc σ ∧ ((∃ X, op = .inl X ∧ k = cdOf L X ∧ X ∈ L ∧ σc = σ) ∨ ∃ v, op = .inr (v, σc) ∧ k = 0 ∧ xL h1 o 0 = v.toInt64) := by
  rcases p with ⟨X, e1, e2, e3, a⟩ | ⟨v, σ', h2, e1, e2, a, rfl⟩
  · exact ⟨σ, aft_mid rm ho t1 t2 t3 a, Or.inl ⟨X, e1, e2, e3, rfl⟩⟩
  · refine ⟨σ', (aft_mid rm ho t1 t2 t3 a).row _, Or.inr ⟨v, e1, e2, ?_⟩⟩
    show u2 (xL h2) o 0 v.toInt64 o 0 = _
    rw [u2, if_pos ⟨rfl, rfl⟩]
theorem cd_pos {L : List String} {X : String} (hL : L.length ≤ 10) : ¬ nI (cdOf L X) = 0 := fun z => by
  have h1 : L.idxOf X ≤ L.length := List.idxOf_le_length
  have h2 : cdOf L X = 0 := (nI_eq (by rw [cdOf]; omega) (by decide)).mp (z.trans nI_0.symm)
  rw [cdOf] at h2
  omega
theorem mid_end {k : Nat} {v2 : Int32} {L : List String} {op : OR} (hL : L.length ≤ 10) (md : Mid g h1 x m o ad σc σ) (d1 : (∃ X, op = .inl X ∧ k = cdOf L X ∧ X ∈ L ∧ σc = σ) ∨ ∃ v, op = .inr (v, σc) ∧ k = 0 ∧ xL h1 o 0 = v.toInt64) (fr : Fr (MW m ad) h1 h2) (hE : xS h2 (gN g 2) = none) (wx : oWX op) (hx : WX σ) (d2 : (∃ E, op = .inl E ∧ xF h2 600 m = nI (cdOf L E) ∧ RM h2 m ad σ) ∨ ∃ σ', op = .inr (v2, σ') ∧ xF h2 600 m = nI 0 ∧ RM h2 m ad σ') : LwI g h2 x m o ∧ MS h2 m ad ∧ xF h2 600 m = nI k ∧ (nI k = 0 → xL h2 o 0 = v2.toInt64 ∧ ∃ σ', op = .inr (v2, σ')) := by
  rcases d1 with ⟨X, e1, e2, e3, e4⟩ | ⟨v, e1, e2, e3⟩
  · rcases d2 with ⟨E, u1, u2, u3⟩ | ⟨σ', u1, -, -⟩
    · rw [e1] at u1; cases u1
      subst e4
      obtain ⟨m2, -⟩ := md.fr fr hE u3
      refine ⟨⟨ad, σc, m2, hx⟩, u3.1, by rw [e2]; exact u2, fun z => ?_⟩
      rw [e2] at z
      exact absurd z (cd_pos hL)
    · rw [e1] at u1; cases u1
  · rcases d2 with ⟨E, u1, -, -⟩ | ⟨σ', u1, u2, u3⟩
    · rw [e1] at u1; cases u1
    · rw [e1] at u1; cases u1
      obtain ⟨m2, ex⟩ := md.fr fr hE u3
      exact ⟨⟨ad, σc, m2, wx _ _ e1⟩, u3.1, by rw [e2]; exact u2, fun _ => ⟨by rw [ex, e3], σc, e1⟩⟩
end MidL
theorem pWr.no {E : Nat} {ow : Nat → Nat} {h h' : Hp} {x pL sL ha o : Nat} {σ : ST} {L : List String} {op : OR} {X : String} (p : pWr E ow h x pL sL ha o σ L op (.inr X) h') : False := by
  obtain ⟨k, e, -⟩ := p
  cases e
theorem lg_self (a : Int64) : lg_cmp a a = 0 := by
  rw [lg_cmp, if_neg (Int64.lt_irrefl), if_pos rfl]
theorem script_in {L t : Nat} (hL : L ≤ 3072) (ht : t ≤ 512) (h : ¬ nI L - nI 6 < nI (6 * t)) : 6 * t + 6 ≤ L := by
  have e1 : (nI L).toInt = L := nI_toInt (by omega)
  have e2 : (nI 6).toInt = 6 := rfl
  have e3 : (nI (6 * t)).toInt = ((6 * t : Nat) : Int) := nI_toInt (by omega)
  have e4 := i_sub (a := nI L) (b := nI 6) (by omega) (by omega)
  rw [Int32.lt_iff_toInt_lt, e4, e1, e2, e3] at h
  omega
theorem and31 (v : Int32) : ∃ c < 32, v &&& nI 31 = nI c := by
  refine ⟨(v &&& nI 31).toBitVec.toNat, ?_, ?_⟩
  · have : (v &&& nI 31).toBitVec = v.toBitVec &&& 31#32 := rfl
    rw [this, BitVec.toNat_and]
    exact Nat.lt_of_le_of_lt Nat.and_le_right (by decide)
  · apply Int32.toBitVec_inj.mp
    show (v &&& nI 31).toBitVec = BitVec.ofNat 32 (v &&& nI 31).toBitVec.toNat
    rw [BitVec.ofNat_toNat, BitVec.setWidth_eq]
