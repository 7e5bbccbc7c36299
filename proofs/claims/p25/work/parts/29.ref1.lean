/-! calls that are refused: first half -/
set_option maxHeartbeats 1000000 in
set_option maxRecDepth 100000 in
theorem rf_a1 {p : Program} {e : Env} {s : State} {m : MethodId} {args : Array Value} {below : List Frame} {meth : Method} {c : Code} {Q : State → Prop} {A : Nat → Prop} {dC : Nat → ClassId} {dI : Nat → Nat → Nat} {cI cZ cO cJ : ClassId} {o : Nat} {b : Nat → Nat} {v : Nat → Int32} {r : Nat → Nat → Int32} {n x : Nat} (l : Launch) (hl0 : l.stackTraces = false) (hx : p.tables.exec = Jvm.exec) (hb : c.code = cL_refuses) (hml : c.maxLocals = 12) (hown : s.vm.findClass RL = some m.cls) (hts : ∀ w ∈ wsL_refuses, w.before args s = true) (hT : hp_T (dC, dI) cI cZ cO cJ A s) (hinv : hp_inv v r n) (hxl : x < 9973) {low T F O C B : Int32} (hbad : hp_bad v n T F O C B) {H_0 : Heap} {locs_0 : List Loc} {ls : Array Slot} (hH_0 : hp_H1 (dC, dI) cI cZ cO A s o b v r n H_0 locs_0) (hl : lv_has ls 12 [(0, .ref o), (1, .int (nI n)), (2, .int (nI x)), (3, .int low), (4, .int T), (5, .int F), (6, .int O), (7, .int C), (8, .int B)])
    (kk : ∀ (H : Heap) (locs : List Loc) (ls : Array Slot), hp_H1 (dC, dI) cI cZ cO A s o b v r n H locs → lv_has ls 12 [(0, .ref o), (1, .int (nI n)), (2, .int (nI x)), (3, .int low), (4, .int T), (5, .int F), (6, .int O), (7, .int C), (8, .int B)] → W p l e ({ frames := 8, cells := 64, slots := 500, locals := 182 } : Room) s m args below meth c H locs 7 70 Q (F0 m 233 ls [])) :
    W p l e ({ frames := 8, cells := 64, slots := 500, locals := 182 } : Room) s m args below meth c H_0 locs_0 0 0 Q (F0 m 93 ls []) := by
  have hF : CallFix p m c cL_refuses 12 s args wsL_refuses RL := ⟨hx, hb, hml, hown, hts⟩
  have hc_1 := hts (.constant RL 15 (-2000000001)) (by decide +kernel)
  have hc_2 := hts (.constant RL 18 (-2000000002)) (by decide +kernel)
  have cw_add := vx_cwSW (R := ({ frames := 8, cells := 64, slots := 500, locals := 182 } : Room)) (rm := ({ frames := 7, cells := 1, slots := 10, locals := 109 } : Room)) (mc := 1) (ms := 10) 7 hts gL_refuses_L_add rfl rfl rfl (by decide +kernel) ⟨(Nat.le_of_ble_eq_true rfl), (Nat.le_of_ble_eq_true rfl)⟩
  refine lv_aload_n hx hb dL_refuses_93 rfl (lv_at hl 0 rfl) ?_
  refine lv_iload hx hb dL_refuses_94 (lv_at hl 4 rfl) ?_
  refine lv_iconst (v := 0) hx hb dL_refuses_96 (by decide) ?_
  refine lv_iconst (v := 0) hx hb dL_refuses_97 (by decide) ?_
  refine lv_iconst (v := 0) hx hb dL_refuses_98 (by decide) ?_
  refine lv_iconst (v := 0) hx hb dL_refuses_99 (by decide) ?_
  refine lv_iconst (v := 0) hx hb dL_refuses_100 (by decide) ?_
  refine hp_refu (kc := -2000000001) (ki := 15) (tgt := 609) (As := [.int T, .int 0, .int 0, .int 0, .int 0, .int 0]) (rest := []) hF hT hc_1 cw_add (rl_add l hl0 dC dI cI cZ cO cJ o b v r n T 0 0 0 0 0 hinv (k := 1) (hp_c1 (hp_a0 hbad.1)) (by decide)) hH_0 (by decide) rfl rfl hl.1 (Nat.le_of_ble_eq_true rfl) dL_refuses_101 dL_refuses_104 dL_refuses_106 (by decide) ⟨(Nat.le_of_ble_eq_true rfl), (Nat.le_of_ble_eq_true rfl)⟩ (fun H_1 locs_1 hH_1 => ?_)
  clear hH_0
  refine lv_aload_n hx hb dL_refuses_109 rfl (lv_at hl 0 rfl) ?_
  refine lv_iconst (v := 0) hx hb dL_refuses_110 (by decide) ?_
  refine lv_iload hx hb dL_refuses_111 (lv_at hl 5 rfl) ?_
  refine lv_iconst (v := 0) hx hb dL_refuses_113 (by decide) ?_
  refine lv_iconst (v := 0) hx hb dL_refuses_114 (by decide) ?_
  refine lv_iconst (v := 0) hx hb dL_refuses_115 (by decide) ?_
  refine lv_iconst (v := 0) hx hb dL_refuses_116 (by decide) ?_
  refine hp_refu (kc := -2000000001) (ki := 15) (tgt := 609) (As := [.int 0, .int F, .int 0, .int 0, .int 0, .int 0]) (rest := []) hF hT hc_1 cw_add (rl_add l hl0 dC dI cI cZ cO cJ o b v r n 0 F 0 0 0 0 hinv (k := 1) (hp_c1 (hp_a1 hbad.2.1)) (by decide)) hH_1 (by decide) rfl rfl hl.1 (Nat.le_of_ble_eq_true rfl) dL_refuses_117 dL_refuses_120 dL_refuses_122 (by decide) ⟨(Nat.le_of_ble_eq_true rfl), (Nat.le_of_ble_eq_true rfl)⟩ (fun H_2 locs_2 hH_2 => ?_)
  clear hH_1
  refine lv_aload_n hx hb dL_refuses_125 rfl (lv_at hl 0 rfl) ?_
  refine lv_iload_n hx hb dL_refuses_126 rfl (lv_at hl 2 rfl) ?_
  refine lv_iconst (v := 3) hx hb dL_refuses_127 (by decide) ?_
  refine lv_irem hx hb dL_refuses_128 (by decide) ?_
  refine hp_top (show nI x - nI x / 3 * 3 = nI (x % 3) from pk_rem (d := 3) (by omega) (by decide) (by decide)) ?_
  refine lv_iload_n hx hb dL_refuses_129 rfl (lv_at hl 2 rfl) ?_
  refine lv_iconst (v := 4) hx hb dL_refuses_130 (by decide) ?_
  refine lv_irem hx hb dL_refuses_131 (by decide) ?_
  refine hp_top (show nI x - nI x / 4 * 4 = nI (x % 4) from pk_rem (d := 4) (by omega) (by decide) (by decide)) ?_
  refine lv_iload hx hb dL_refuses_132 (lv_at hl 7 rfl) ?_
  refine lv_iconst (v := 0) hx hb dL_refuses_134 (by decide) ?_
  refine lv_iload hx hb dL_refuses_135 (lv_at hl 7 rfl) ?_
  refine lv_iconst (v := 0) hx hb dL_refuses_137 (by decide) ?_
  refine hp_refu (kc := -2000000002) (ki := 18) (tgt := 609) (As := [.int (nI (x % 3)), .int (nI (x % 4)), .int C, .int 0, .int C, .int 0]) (rest := []) hF hT hc_2 cw_add (rl_add l hl0 dC dI cI cZ cO cJ o b v r n (nI (x % 3)) (nI (x % 4)) C 0 C 0 hinv (k := 2) (hp_c2 (hp_a2 (hp_kd3 x) (hp_st4 x)) (hp_a0 (hp_a0 (hp_a0 (hp_a0 hbad.2.2.2.1))))) (by decide)) hH_2 (by decide) rfl rfl hl.1 (Nat.le_of_ble_eq_true rfl) dL_refuses_138 dL_refuses_141 dL_refuses_143 (by decide) ⟨(Nat.le_of_ble_eq_true rfl), (Nat.le_of_ble_eq_true rfl)⟩ (fun H_3 locs_3 hH_3 => ?_)
  clear hH_2
  refine lv_aload_n hx hb dL_refuses_146 rfl (lv_at hl 0 rfl) ?_
  refine lv_iload_n hx hb dL_refuses_147 rfl (lv_at hl 2 rfl) ?_
  refine lv_iconst (v := 3) hx hb dL_refuses_148 (by decide) ?_
  refine lv_irem hx hb dL_refuses_149 (by decide) ?_
  refine hp_top (show nI x - nI x / 3 * 3 = nI (x % 3) from pk_rem (d := 3) (by omega) (by decide) (by decide)) ?_
  refine lv_iload_n hx hb dL_refuses_150 rfl (lv_at hl 2 rfl) ?_
  refine lv_iconst (v := 4) hx hb dL_refuses_151 (by decide) ?_
  refine lv_irem hx hb dL_refuses_152 (by decide) ?_
  refine hp_top (show nI x - nI x / 4 * 4 = nI (x % 4) from pk_rem (d := 4) (by omega) (by decide) (by decide)) ?_
  refine lv_iconst (v := 0) hx hb dL_refuses_153 (by decide) ?_
  refine lv_iload hx hb dL_refuses_154 (lv_at hl 7 rfl) ?_
  refine lv_iconst (v := 0) hx hb dL_refuses_156 (by decide) ?_
  refine lv_iconst (v := 0) hx hb dL_refuses_157 (by decide) ?_
  refine hp_refu (kc := -2000000002) (ki := 18) (tgt := 609) (As := [.int (nI (x % 3)), .int (nI (x % 4)), .int 0, .int C, .int 0, .int 0]) (rest := []) hF hT hc_2 cw_add (rl_add l hl0 dC dI cI cZ cO cJ o b v r n (nI (x % 3)) (nI (x % 4)) 0 C 0 0 hinv (k := 2) (hp_c2 (hp_a2 (hp_kd3 x) (hp_st4 x)) (hp_a0 (hp_a0 (hp_a0 (hp_a1 hbad.2.2.2.1))))) (by decide)) hH_3 (by decide) rfl rfl hl.1 (Nat.le_of_ble_eq_true rfl) dL_refuses_158 dL_refuses_161 dL_refuses_163 (by decide) ⟨(Nat.le_of_ble_eq_true rfl), (Nat.le_of_ble_eq_true rfl)⟩ (fun H_4 locs_4 hH_4 => ?_)
  clear hH_3
  refine lv_aload_n hx hb dL_refuses_166 rfl (lv_at hl 0 rfl) ?_
  refine lv_iload_n hx hb dL_refuses_167 rfl (lv_at hl 2 rfl) ?_
  refine lv_iconst (v := 3) hx hb dL_refuses_168 (by decide) ?_
  refine lv_irem hx hb dL_refuses_169 (by decide) ?_
  refine hp_top (show nI x - nI x / 3 * 3 = nI (x % 3) from pk_rem (d := 3) (by omega) (by decide) (by decide)) ?_
  refine lv_iload_n hx hb dL_refuses_170 rfl (lv_at hl 2 rfl) ?_
  refine lv_iconst (v := 4) hx hb dL_refuses_171 (by decide) ?_
  refine lv_irem hx hb dL_refuses_172 (by decide) ?_
  refine hp_top (show nI x - nI x / 4 * 4 = nI (x % 4) from pk_rem (d := 4) (by omega) (by decide) (by decide)) ?_
  refine lv_iconst (v := 0) hx hb dL_refuses_173 (by decide) ?_
  refine lv_iconst (v := 0) hx hb dL_refuses_174 (by decide) ?_
  refine lv_iload hx hb dL_refuses_175 (lv_at hl 7 rfl) ?_
  refine lv_iconst (v := 0) hx hb dL_refuses_177 (by decide) ?_
  refine hp_refu (kc := -2000000002) (ki := 18) (tgt := 609) (As := [.int (nI (x % 3)), .int (nI (x % 4)), .int 0, .int 0, .int C, .int 0]) (rest := []) hF hT hc_2 cw_add (rl_add l hl0 dC dI cI cZ cO cJ o b v r n (nI (x % 3)) (nI (x % 4)) 0 0 C 0 hinv (k := 2) (hp_c2 (hp_a2 (hp_kd3 x) (hp_st4 x)) (hp_a0 (hp_a0 (hp_a1 hbad.2.2.2.1)))) (by decide)) hH_4 (by decide) rfl rfl hl.1 (Nat.le_of_ble_eq_true rfl) dL_refuses_178 dL_refuses_181 dL_refuses_183 (by decide) ⟨(Nat.le_of_ble_eq_true rfl), (Nat.le_of_ble_eq_true rfl)⟩ (fun H_5 locs_5 hH_5 => ?_)
  clear hH_4
  refine lv_aload_n hx hb dL_refuses_186 rfl (lv_at hl 0 rfl) ?_
  refine lv_iload_n hx hb dL_refuses_187 rfl (lv_at hl 2 rfl) ?_
  refine lv_iconst (v := 3) hx hb dL_refuses_188 (by decide) ?_
  refine lv_irem hx hb dL_refuses_189 (by decide) ?_
  refine hp_top (show nI x - nI x / 3 * 3 = nI (x % 3) from pk_rem (d := 3) (by omega) (by decide) (by decide)) ?_
  refine lv_iload_n hx hb dL_refuses_190 rfl (lv_at hl 2 rfl) ?_
  refine lv_iconst (v := 4) hx hb dL_refuses_191 (by decide) ?_
  refine lv_irem hx hb dL_refuses_192 (by decide) ?_
  refine hp_top (show nI x - nI x / 4 * 4 = nI (x % 4) from pk_rem (d := 4) (by omega) (by decide) (by decide)) ?_
  refine lv_iconst (v := 0) hx hb dL_refuses_193 (by decide) ?_
  refine lv_iconst (v := 0) hx hb dL_refuses_194 (by decide) ?_
  refine lv_iconst (v := 0) hx hb dL_refuses_195 (by decide) ?_
  refine lv_iload hx hb dL_refuses_196 (lv_at hl 7 rfl) ?_
  refine hp_refu (kc := -2000000002) (ki := 18) (tgt := 609) (As := [.int (nI (x % 3)), .int (nI (x % 4)), .int 0, .int 0, .int 0, .int C]) (rest := []) hF hT hc_2 cw_add (rl_add l hl0 dC dI cI cZ cO cJ o b v r n (nI (x % 3)) (nI (x % 4)) 0 0 0 C hinv (k := 2) (hp_c2 (hp_a2 (hp_kd3 x) (hp_st4 x)) (hp_a0 (hp_a1 hbad.2.2.2.1))) (by decide)) hH_5 (by decide) rfl rfl hl.1 (Nat.le_of_ble_eq_true rfl) dL_refuses_198 dL_refuses_201 dL_refuses_203 (by decide) ⟨(Nat.le_of_ble_eq_true rfl), (Nat.le_of_ble_eq_true rfl)⟩ (fun H_6 locs_6 hH_6 => ?_)
  clear hH_5
  refine lv_aload_n hx hb dL_refuses_206 rfl (lv_at hl 0 rfl) ?_
  refine lv_iload_n hx hb dL_refuses_207 rfl (lv_at hl 2 rfl) ?_
  refine lv_iconst (v := 3) hx hb dL_refuses_208 (by decide) ?_
  refine lv_irem hx hb dL_refuses_209 (by decide) ?_
  refine hp_top (show nI x - nI x / 3 * 3 = nI (x % 3) from pk_rem (d := 3) (by omega) (by decide) (by decide)) ?_
  refine lv_iload_n hx hb dL_refuses_210 rfl (lv_at hl 2 rfl) ?_
  refine lv_iconst (v := 4) hx hb dL_refuses_211 (by decide) ?_
  refine lv_irem hx hb dL_refuses_212 (by decide) ?_
  refine hp_top (show nI x - nI x / 4 * 4 = nI (x % 4) from pk_rem (d := 4) (by omega) (by decide) (by decide)) ?_
  refine lv_iload_n hx hb dL_refuses_213 rfl (lv_at hl 2 rfl) ?_
  refine lv_bipush (v := 11) hx hb dL_refuses_214 (by decide) ?_
  refine lv_irem hx hb dL_refuses_216 (by decide) ?_
  refine hp_top (show nI x - nI x / 11 * 11 = nI (x % 11) from pk_rem (d := 11) (by omega) (by decide) (by decide)) ?_
  refine lv_iconst (v := 3) hx hb dL_refuses_217 (by decide) ?_
  refine lv_iload_n hx hb dL_refuses_218 rfl (lv_at hl 2 rfl) ?_
  refine lv_bipush (v := 11) hx hb dL_refuses_219 (by decide) ?_
  refine lv_irem hx hb dL_refuses_221 (by decide) ?_
  refine hp_top (show nI x - nI x / 11 * 11 = nI (x % 11) from pk_rem (d := 11) (by omega) (by decide) (by decide)) ?_
  refine lv_iconst (v := 1) hx hb dL_refuses_222 (by decide) ?_
  refine lv_iadd hx hb dL_refuses_223 ?_
  refine hp_top (show nI (x % 11) + (1 : Int32) = nI ((x % 11) + 1) from nI_add (x % 11) 1) ?_
  refine lv_iconst (v := 4) hx hb dL_refuses_224 (by decide) ?_
  refine hp_refu (kc := -2000000002) (ki := 18) (tgt := 609) (As := [.int (nI (x % 3)), .int (nI (x % 4)), .int (nI (x % 11)), .int 3, .int (nI ((x % 11) + 1)), .int 4]) (rest := []) hF hT hc_2 cw_add (rl_add l hl0 dC dI cI cZ cO cJ o b v r n (nI (x % 3)) (nI (x % 4)) (nI (x % 11)) 3 (nI ((x % 11) + 1)) 4 hinv (k := 2) (hp_c2 (hp_a2 (hp_kd3 x) (hp_st4 x)) (hp_dia x)) (by decide)) hH_6 (by decide) rfl rfl hl.1 (Nat.le_of_ble_eq_true rfl) dL_refuses_225 dL_refuses_228 dL_refuses_230 (by decide) ⟨(Nat.le_of_ble_eq_true rfl), (Nat.le_of_ble_eq_true rfl)⟩ (fun H_7 locs_7 hH_7 => ?_)
  clear hH_6
  exact kk _ _ ls hH_7 hl
set_option maxHeartbeats 1000000 in
set_option maxRecDepth 100000 in
theorem rf_a2 {p : Program} {e : Env} {s : State} {m : MethodId} {args : Array Value} {below : List Frame} {meth : Method} {c : Code} {Q : State → Prop} {A : Nat → Prop} {dC : Nat → ClassId} {dI : Nat → Nat → Nat} {cI cZ cO cJ : ClassId} {o : Nat} {b : Nat → Nat} {v : Nat → Int32} {r : Nat → Nat → Int32} {n x : Nat} (l : Launch) (hl0 : l.stackTraces = false) (hx : p.tables.exec = Jvm.exec) (hb : c.code = cL_refuses) (hml : c.maxLocals = 12) (hown : s.vm.findClass RL = some m.cls) (hts : ∀ w ∈ wsL_refuses, w.before args s = true) (hT : hp_T (dC, dI) cI cZ cO cJ A s) (hinv : hp_inv v r n) (hxl : x < 9973) {low T F O C B : Int32} (hbad : hp_bad v n T F O C B) {H_0 : Heap} {locs_0 : List Loc} {ls : Array Slot} (hH_0 : hp_H1 (dC, dI) cI cZ cO A s o b v r n H_0 locs_0) (hl : lv_has ls 12 [(0, .ref o), (1, .int (nI n)), (2, .int (nI x)), (3, .int low), (4, .int T), (5, .int F), (6, .int O), (7, .int C), (8, .int B)])
    (kk : ∀ (H : Heap) (locs : List Loc) (ls : Array Slot), hp_H1 (dC, dI) cI cZ cO A s o b v r n H locs → lv_has ls 12 [(0, .ref o), (1, .int (nI n)), (2, .int (nI x)), (3, .int low), (4, .int T), (5, .int F), (6, .int O), (7, .int C), (8, .int B)] → W p l e ({ frames := 8, cells := 64, slots := 500, locals := 182 } : Room) s m args below meth c H locs 14 112 Q (F0 m 354 ls [])) :
    W p l e ({ frames := 8, cells := 64, slots := 500, locals := 182 } : Room) s m args below meth c H_0 locs_0 7 70 Q (F0 m 233 ls []) := by
  have hF : CallFix p m c cL_refuses 12 s args wsL_refuses RL := ⟨hx, hb, hml, hown, hts⟩
  have hc_1 := hts (.constant RL 15 (-2000000001)) (by decide +kernel)
  have hc_2 := hts (.constant RL 18 (-2000000002)) (by decide +kernel)
  have cw_clear := vx_cwSW (R := ({ frames := 8, cells := 64, slots := 500, locals := 182 } : Room)) (rm := ({ frames := 7, cells := 1, slots := 6, locals := 106 } : Room)) (mc := 1) (ms := 6) 4 hts gL_refuses_L_clear rfl rfl rfl (by decide +kernel) ⟨(Nat.le_of_ble_eq_true rfl), (Nat.le_of_ble_eq_true rfl)⟩
  have cw_move := vx_cwSW (R := ({ frames := 8, cells := 64, slots := 500, locals := 182 } : Room)) (rm := ({ frames := 7, cells := 1, slots := 6, locals := 108 } : Room)) (mc := 1) (ms := 6) 6 hts gL_refuses_L_move rfl rfl rfl (by decide +kernel) ⟨(Nat.le_of_ble_eq_true rfl), (Nat.le_of_ble_eq_true rfl)⟩
  have cw_part := vx_cwSW (R := ({ frames := 8, cells := 64, slots := 500, locals := 182 } : Room)) (rm := ({ frames := 7, cells := 1, slots := 6, locals := 105 } : Room)) (mc := 1) (ms := 6) 3 hts gL_refuses_L_part rfl rfl rfl (by decide +kernel) ⟨(Nat.le_of_ble_eq_true rfl), (Nat.le_of_ble_eq_true rfl)⟩
  have cw_remove := vx_cwSW (R := ({ frames := 8, cells := 64, slots := 500, locals := 182 } : Room)) (rm := ({ frames := 7, cells := 1, slots := 6, locals := 106 } : Room)) (mc := 1) (ms := 6) 4 hts gL_refuses_L_remove rfl rfl rfl (by decide +kernel) ⟨(Nat.le_of_ble_eq_true rfl), (Nat.le_of_ble_eq_true rfl)⟩
  refine lv_aload_n hx hb dL_refuses_233 rfl (lv_at hl 0 rfl) ?_
  refine lv_iload_n hx hb dL_refuses_234 rfl (lv_at hl 2 rfl) ?_
  refine lv_iconst (v := 3) hx hb dL_refuses_235 (by decide) ?_
  refine lv_irem hx hb dL_refuses_236 (by decide) ?_
  refine hp_top (show nI x - nI x / 3 * 3 = nI (x % 3) from pk_rem (d := 3) (by omega) (by decide) (by decide)) ?_
  refine lv_iconst (v := 0) hx hb dL_refuses_237 (by decide) ?_
  refine lv_iload hx hb dL_refuses_238 (lv_at hl 6 rfl) ?_
  refine lv_iconst (v := 0) hx hb dL_refuses_240 (by decide) ?_
  refine lv_iconst (v := 0) hx hb dL_refuses_241 (by decide) ?_
  refine hp_refu (kc := -2000000001) (ki := 15) (tgt := 609) (As := [.int (nI (x % 3)), .int 0, .int O, .int 0, .int 0]) (rest := []) hF hT hc_1 cw_move (rl_move l hl0 dC dI cI cZ cO cJ o b v r n (nI (x % 3)) 0 O 0 0 hinv (k := 1) (hp_c1 (hp_a1 hbad.2.2.1)) (by decide)) hH_0 (by decide) rfl rfl hl.1 (Nat.le_of_ble_eq_true rfl) dL_refuses_242 dL_refuses_245 dL_refuses_247 (by decide) ⟨(Nat.le_of_ble_eq_true rfl), (Nat.le_of_ble_eq_true rfl)⟩ (fun H_1 locs_1 hH_1 => ?_)
  clear hH_0
  refine lv_aload_n hx hb dL_refuses_250 rfl (lv_at hl 0 rfl) ?_
  refine lv_iload_n hx hb dL_refuses_251 rfl (lv_at hl 2 rfl) ?_
  refine lv_iconst (v := 3) hx hb dL_refuses_252 (by decide) ?_
  refine lv_irem hx hb dL_refuses_253 (by decide) ?_
  refine hp_top (show nI x - nI x / 3 * 3 = nI (x % 3) from pk_rem (d := 3) (by omega) (by decide) (by decide)) ?_
  refine lv_iconst (v := 0) hx hb dL_refuses_254 (by decide) ?_
  refine lv_iload hx hb dL_refuses_255 (lv_at hl 6 rfl) ?_
  refine hp_refu (kc := -2000000001) (ki := 15) (tgt := 609) (As := [.int (nI (x % 3)), .int 0, .int O]) (rest := []) hF hT hc_1 cw_remove (rl_remove l hl0 dC dI cI cZ cO cJ o b v r n (nI (x % 3)) 0 O hinv (k := 1) (hp_c1 (hp_a1 hbad.2.2.1)) (by decide)) hH_1 (by decide) rfl rfl hl.1 (Nat.le_of_ble_eq_true rfl) dL_refuses_257 dL_refuses_260 dL_refuses_262 (by decide) ⟨(Nat.le_of_ble_eq_true rfl), (Nat.le_of_ble_eq_true rfl)⟩ (fun H_2 locs_2 hH_2 => ?_)
  clear hH_1
  refine lv_aload_n hx hb dL_refuses_265 rfl (lv_at hl 0 rfl) ?_
  refine lv_iload hx hb dL_refuses_266 (lv_at hl 4 rfl) ?_
  refine lv_iconst (v := 0) hx hb dL_refuses_268 (by decide) ?_
  refine lv_iconst (v := 0) hx hb dL_refuses_269 (by decide) ?_
  refine hp_refu (kc := -2000000001) (ki := 15) (tgt := 609) (As := [.int T, .int 0, .int 0]) (rest := []) hF hT hc_1 cw_clear (rl_clear l hl0 dC dI cI cZ cO cJ o b v r n T 0 0 hinv (k := 1) (hp_c1 (hp_a0 hbad.1)) (by decide)) hH_2 (by decide) rfl rfl hl.1 (Nat.le_of_ble_eq_true rfl) dL_refuses_270 dL_refuses_273 dL_refuses_275 (by decide) ⟨(Nat.le_of_ble_eq_true rfl), (Nat.le_of_ble_eq_true rfl)⟩ (fun H_3 locs_3 hH_3 => ?_)
  clear hH_2
  refine lv_aload_n hx hb dL_refuses_278 rfl (lv_at hl 0 rfl) ?_
  refine lv_iconst (v := 0) hx hb dL_refuses_279 (by decide) ?_
  refine lv_iload hx hb dL_refuses_280 (lv_at hl 4 rfl) ?_
  refine lv_iconst (v := 0) hx hb dL_refuses_282 (by decide) ?_
  refine hp_refu (kc := -2000000001) (ki := 15) (tgt := 609) (As := [.int 0, .int T, .int 0]) (rest := []) hF hT hc_1 cw_clear (rl_clear l hl0 dC dI cI cZ cO cJ o b v r n 0 T 0 hinv (k := 1) (hp_c1 (hp_a1 hbad.1)) (by decide)) hH_3 (by decide) rfl rfl hl.1 (Nat.le_of_ble_eq_true rfl) dL_refuses_283 dL_refuses_286 dL_refuses_288 (by decide) ⟨(Nat.le_of_ble_eq_true rfl), (Nat.le_of_ble_eq_true rfl)⟩ (fun H_4 locs_4 hH_4 => ?_)
  clear hH_3
  refine lv_aload_n hx hb dL_refuses_291 rfl (lv_at hl 0 rfl) ?_
  refine lv_iload_n hx hb dL_refuses_292 rfl (lv_at hl 2 rfl) ?_
  refine lv_iconst (v := 3) hx hb dL_refuses_293 (by decide) ?_
  refine lv_irem hx hb dL_refuses_294 (by decide) ?_
  refine hp_top (show nI x - nI x / 3 * 3 = nI (x % 3) from pk_rem (d := 3) (by omega) (by decide) (by decide)) ?_
  refine lv_iconst (v := 0) hx hb dL_refuses_295 (by decide) ?_
  refine lv_iload_n hx hb dL_refuses_296 rfl (lv_at hl 3 rfl) ?_
  refine hp_joinB 309 12 (fun y12 : Int32 => hp_in y12 0 3 = false) (fun y12 => [(0, .ref o), (1, .int (nI n)), (2, .int (nI x)), (3, .int low), (4, .int T), (5, .int F), (6, .int O), (7, .int C), (8, .int B)]) (fun y12 => [.int y12, .int 0, .int (nI (x % 3)), .ref o]) (fun jn => ?_) ?_
  · refine lv_if_eq (tgt := 306) hx hb dL_refuses_297 (by decide) (fun c9 => ?_) (fun c9 => ?_)
    · skip
      refine lv_iconst (v := 4) hx hb dL_refuses_306 (by decide) ?_
      refine lv_iload_n hx hb dL_refuses_307 rfl (lv_at hl 2 rfl) ?_
      refine lv_iadd hx hb dL_refuses_308 ?_
      refine hp_top (show (4 : Int32) + nI x = nI (4 + x) from nI_add 4 x) ?_
      exact jn (nI (4 + x)) (hp_hi (by show (3 : Int) < _; omega) (by omega)) _ hl
    · skip
      refine lv_iconst (v := (-1)) hx hb dL_refuses_300 (by decide) ?_
      refine lv_iload_n hx hb dL_refuses_301 rfl (lv_at hl 2 rfl) ?_
      refine lv_isub hx hb dL_refuses_302 ?_
      refine lv_goto (tgt := 309) hx hb dL_refuses_303 (by decide) ?_
      exact jn ((-1) - (nI x)) (hp_lo1 (by omega) rfl) _ hl
  intro y12 h_y12 ls hl
  refine hp_refu (kc := -2000000002) (ki := 18) (tgt := 609) (As := [.int (nI (x % 3)), .int 0, .int y12]) (rest := []) hF hT hc_2 cw_clear (rl_clear l hl0 dC dI cI cZ cO cJ o b v r n (nI (x % 3)) 0 y12 hinv (k := 2) (hp_c2 (hp_a2 (hp_kd3 x) (hp_kd_nI (k := 0) (by decide))) h_y12) (by decide)) hH_4 (by decide) rfl rfl hl.1 (Nat.le_of_ble_eq_true rfl) dL_refuses_309 dL_refuses_312 dL_refuses_314 (by decide) ⟨(Nat.le_of_ble_eq_true rfl), (Nat.le_of_ble_eq_true rfl)⟩ (fun H_5 locs_5 hH_5 => ?_)
  clear hH_4
  refine lv_aload_n hx hb dL_refuses_317 rfl (lv_at hl 0 rfl) ?_
  refine lv_iload hx hb dL_refuses_318 (lv_at hl 4 rfl) ?_
  refine lv_iconst (v := 1) hx hb dL_refuses_320 (by decide) ?_
  refine hp_refu (kc := -2000000001) (ki := 15) (tgt := 609) (As := [.int T, .int 1]) (rest := []) hF hT hc_1 cw_part (rl_part l hl0 dC dI cI cZ cO cJ o b v r n T 1 hinv (k := 1) (hp_c1 hbad.1) (by decide)) hH_5 (by decide) rfl rfl hl.1 (Nat.le_of_ble_eq_true rfl) dL_refuses_321 dL_refuses_324 dL_refuses_326 (by decide) ⟨(Nat.le_of_ble_eq_true rfl), (Nat.le_of_ble_eq_true rfl)⟩ (fun H_6 locs_6 hH_6 => ?_)
  clear hH_5
  refine lv_aload_n hx hb dL_refuses_329 rfl (lv_at hl 0 rfl) ?_
  refine lv_iload_n hx hb dL_refuses_330 rfl (lv_at hl 2 rfl) ?_
  refine lv_iconst (v := 3) hx hb dL_refuses_331 (by decide) ?_
  refine lv_irem hx hb dL_refuses_332 (by decide) ?_
  refine hp_top (show nI x - nI x / 3 * 3 = nI (x % 3) from pk_rem (d := 3) (by omega) (by decide) (by decide)) ?_
  refine lv_iload_n hx hb dL_refuses_333 rfl (lv_at hl 3 rfl) ?_
  refine hp_joinB 346 12 (fun y14 : Int32 => hp_in y14 1 12 = false) (fun y14 => [(0, .ref o), (1, .int (nI n)), (2, .int (nI x)), (3, .int low), (4, .int T), (5, .int F), (6, .int O), (7, .int C), (8, .int B)]) (fun y14 => [.int y14, .int (nI (x % 3)), .ref o]) (fun jn => ?_) ?_
  · refine lv_if_eq (tgt := 342) hx hb dL_refuses_334 (by decide) (fun c9 => ?_) (fun c9 => ?_)
    · skip
      refine lv_bipush (v := 13) hx hb dL_refuses_342 (by decide) ?_
      refine lv_iload_n hx hb dL_refuses_344 rfl (lv_at hl 2 rfl) ?_
      refine lv_iadd hx hb dL_refuses_345 ?_
      refine hp_top (show (13 : Int32) + nI x = nI (13 + x) from nI_add 13 x) ?_
      exact jn (nI (13 + x)) (hp_hi (by show (12 : Int) < _; omega) (by omega)) _ hl
    · skip
      refine lv_iload_n hx hb dL_refuses_337 rfl (lv_at hl 2 rfl) ?_
      refine lv_ineg hx hb dL_refuses_338 ?_
      refine lv_goto (tgt := 346) hx hb dL_refuses_339 (by decide) ?_
      exact jn (-(nI x)) (hp_lo0 (by omega)) _ hl
  intro y14 h_y14 ls hl
  refine hp_refu (kc := -2000000002) (ki := 18) (tgt := 609) (As := [.int (nI (x % 3)), .int y14]) (rest := []) hF hT hc_2 cw_part (rl_part l hl0 dC dI cI cZ cO cJ o b v r n (nI (x % 3)) y14 hinv (k := 2) (hp_c2 (hp_kd3 x) h_y14) (by decide)) hH_6 (by decide) rfl rfl hl.1 (Nat.le_of_ble_eq_true rfl) dL_refuses_346 dL_refuses_349 dL_refuses_351 (by decide) ⟨(Nat.le_of_ble_eq_true rfl), (Nat.le_of_ble_eq_true rfl)⟩ (fun H_7 locs_7 hH_7 => ?_)
  clear hH_6
  exact kk _ _ ls hH_7 hl
set_option maxHeartbeats 1000000 in
set_option maxRecDepth 100000 in
theorem rf_a3 {p : Program} {e : Env} {s : State} {m : MethodId} {args : Array Value} {below : List Frame} {meth : Method} {c : Code} {Q : State → Prop} {A : Nat → Prop} {dC : Nat → ClassId} {dI : Nat → Nat → Nat} {cI cZ cO cJ : ClassId} {o : Nat} {b : Nat → Nat} {v : Nat → Int32} {r : Nat → Nat → Int32} {n x : Nat} (l : Launch) (hl0 : l.stackTraces = false) (hx : p.tables.exec = Jvm.exec) (hb : c.code = cL_refuses) (hml : c.maxLocals = 12) (hown : s.vm.findClass RL = some m.cls) (hts : ∀ w ∈ wsL_refuses, w.before args s = true) (hT : hp_T (dC, dI) cI cZ cO cJ A s) (hinv : hp_inv v r n) (hxl : x < 9973) {low T F O C B : Int32} (hbad : hp_bad v n T F O C B) {H_0 : Heap} {locs_0 : List Loc} {ls : Array Slot} (hH_0 : hp_H1 (dC, dI) cI cZ cO A s o b v r n H_0 locs_0) (hl : lv_has ls 12 [(0, .ref o), (1, .int (nI n)), (2, .int (nI x)), (3, .int low), (4, .int T), (5, .int F), (6, .int O), (7, .int C), (8, .int B)])
    (kk : ∀ (H : Heap) (locs : List Loc) (ls : Array Slot), hp_H1 (dC, dI) cI cZ cO A s o b v r n H locs → lv_has ls 12 [(0, .ref o), (1, .int (nI n)), (2, .int (nI x)), (3, .int low), (4, .int T), (5, .int F), (6, .int O), (7, .int C), (8, .int B)] → W p l e ({ frames := 8, cells := 64, slots := 500, locals := 182 } : Room) s m args below meth c H locs 21 154 Q (F0 m 458 ls [])) :
    W p l e ({ frames := 8, cells := 64, slots := 500, locals := 182 } : Room) s m args below meth c H_0 locs_0 14 112 Q (F0 m 354 ls []) := by
  have hF : CallFix p m c cL_refuses 12 s args wsL_refuses RL := ⟨hx, hb, hml, hown, hts⟩
  have hc_1 := hts (.constant RL 15 (-2000000001)) (by decide +kernel)
  have hc_2 := hts (.constant RL 18 (-2000000002)) (by decide +kernel)
  have cw_build := vx_cwSW (R := ({ frames := 8, cells := 64, slots := 500, locals := 182 } : Room)) (rm := ({ frames := 7, cells := 1, slots := 6, locals := 137 } : Room)) (mc := 1) (ms := 6) 2 hts gL_refuses_L_build rfl rfl rfl (by decide +kernel) ⟨(Nat.le_of_ble_eq_true rfl), (Nat.le_of_ble_eq_true rfl)⟩
  have cw_cancel := vx_cwSW (R := ({ frames := 8, cells := 64, slots := 500, locals := 182 } : Room)) (rm := ({ frames := 7, cells := 1, slots := 6, locals := 104 } : Room)) (mc := 1) (ms := 6) 2 hts gL_refuses_L_cancel rfl rfl rfl (by decide +kernel) ⟨(Nat.le_of_ble_eq_true rfl), (Nat.le_of_ble_eq_true rfl)⟩
  have cw_inspect := vx_cwSW (R := ({ frames := 8, cells := 64, slots := 500, locals := 182 } : Room)) (rm := ({ frames := 7, cells := 1, slots := 6, locals := 160 } : Room)) (mc := 1) (ms := 6) 2 hts gL_refuses_L_inspect rfl rfl rfl (by decide +kernel) ⟨(Nat.le_of_ble_eq_true rfl), (Nat.le_of_ble_eq_true rfl)⟩
  have cw_lead := vx_cwSW (R := ({ frames := 8, cells := 64, slots := 500, locals := 182 } : Room)) (rm := ({ frames := 7, cells := 1, slots := 6, locals := 105 } : Room)) (mc := 1) (ms := 6) 3 hts gL_refuses_L_lead rfl rfl rfl (by decide +kernel) ⟨(Nat.le_of_ble_eq_true rfl), (Nat.le_of_ble_eq_true rfl)⟩
  have cw_order := vx_cwSW (R := ({ frames := 8, cells := 64, slots := 500, locals := 182 } : Room)) (rm := ({ frames := 7, cells := 1, slots := 6, locals := 104 } : Room)) (mc := 1) (ms := 6) 2 hts gL_refuses_L_order rfl rfl rfl (by decide +kernel) ⟨(Nat.le_of_ble_eq_true rfl), (Nat.le_of_ble_eq_true rfl)⟩
  have cw_pass := vx_cwSW (R := ({ frames := 8, cells := 64, slots := 500, locals := 182 } : Room)) (rm := ({ frames := 7, cells := 1, slots := 6, locals := 105 } : Room)) (mc := 1) (ms := 6) 2 hts gL_refuses_L_pass rfl rfl rfl (by decide +kernel) ⟨(Nat.le_of_ble_eq_true rfl), (Nat.le_of_ble_eq_true rfl)⟩
  refine lv_aload_n hx hb dL_refuses_354 rfl (lv_at hl 0 rfl) ?_
  refine lv_iload hx hb dL_refuses_355 (lv_at hl 4 rfl) ?_
  refine lv_iconst (v := 1) hx hb dL_refuses_357 (by decide) ?_
  refine hp_refu (kc := -2000000001) (ki := 15) (tgt := 609) (As := [.int T, .int 1]) (rest := []) hF hT hc_1 cw_lead (rl_lead l hl0 dC dI cI cZ cO cJ o b v r n T 1 hinv (k := 1) (hp_c1 hbad.1) (by decide)) hH_0 (by decide) rfl rfl hl.1 (Nat.le_of_ble_eq_true rfl) dL_refuses_358 dL_refuses_361 dL_refuses_363 (by decide) ⟨(Nat.le_of_ble_eq_true rfl), (Nat.le_of_ble_eq_true rfl)⟩ (fun H_1 locs_1 hH_1 => ?_)
  clear hH_0
  refine lv_aload_n hx hb dL_refuses_366 rfl (lv_at hl 0 rfl) ?_
  refine lv_iload_n hx hb dL_refuses_367 rfl (lv_at hl 2 rfl) ?_
  refine lv_iconst (v := 3) hx hb dL_refuses_368 (by decide) ?_
  refine lv_irem hx hb dL_refuses_369 (by decide) ?_
  refine hp_top (show nI x - nI x / 3 * 3 = nI (x % 3) from pk_rem (d := 3) (by omega) (by decide) (by decide)) ?_
  refine lv_iload_n hx hb dL_refuses_370 rfl (lv_at hl 3 rfl) ?_
  refine hp_joinB 384 12 (fun y16 : Int32 => hp_in y16 0 100 = false) (fun y16 => [(0, .ref o), (1, .int (nI n)), (2, .int (nI x)), (3, .int low), (4, .int T), (5, .int F), (6, .int O), (7, .int C), (8, .int B)]) (fun y16 => [.int y16, .int (nI (x % 3)), .ref o]) (fun jn => ?_) ?_
  · refine lv_if_eq (tgt := 380) hx hb dL_refuses_371 (by decide) (fun c9 => ?_) (fun c9 => ?_)
    · skip
      refine lv_bipush (v := 101) hx hb dL_refuses_380 (by decide) ?_
      refine lv_iload_n hx hb dL_refuses_382 rfl (lv_at hl 2 rfl) ?_
      refine lv_iadd hx hb dL_refuses_383 ?_
      refine hp_top (show (101 : Int32) + nI x = nI (101 + x) from nI_add 101 x) ?_
      exact jn (nI (101 + x)) (hp_hi (by show (100 : Int) < _; omega) (by omega)) _ hl
    · skip
      refine lv_iconst (v := (-1)) hx hb dL_refuses_374 (by decide) ?_
      refine lv_iload_n hx hb dL_refuses_375 rfl (lv_at hl 2 rfl) ?_
      refine lv_isub hx hb dL_refuses_376 ?_
      refine lv_goto (tgt := 384) hx hb dL_refuses_377 (by decide) ?_
      exact jn ((-1) - (nI x)) (hp_lo1 (by omega) rfl) _ hl
  intro y16 h_y16 ls hl
  refine hp_refu (kc := -2000000002) (ki := 18) (tgt := 609) (As := [.int (nI (x % 3)), .int y16]) (rest := []) hF hT hc_2 cw_lead (rl_lead l hl0 dC dI cI cZ cO cJ o b v r n (nI (x % 3)) y16 hinv (k := 2) (hp_c2 (hp_kd3 x) h_y16) (by decide)) hH_1 (by decide) rfl rfl hl.1 (Nat.le_of_ble_eq_true rfl) dL_refuses_384 dL_refuses_387 dL_refuses_389 (by decide) ⟨(Nat.le_of_ble_eq_true rfl), (Nat.le_of_ble_eq_true rfl)⟩ (fun H_2 locs_2 hH_2 => ?_)
  clear hH_1
  refine lv_aload_n hx hb dL_refuses_392 rfl (lv_at hl 0 rfl) ?_
  refine lv_iload hx hb dL_refuses_393 (lv_at hl 6 rfl) ?_
  refine hp_refu (kc := -2000000001) (ki := 15) (tgt := 609) (As := [.int O]) (rest := []) hF hT hc_1 cw_order (rl_order l hl0 dC dI cI cZ cO cJ o b v r n O hinv (k := 1) (hp_c1 hbad.2.2.1) (by decide)) hH_2 (by decide) rfl rfl hl.1 (Nat.le_of_ble_eq_true rfl) dL_refuses_395 dL_refuses_398 dL_refuses_400 (by decide) ⟨(Nat.le_of_ble_eq_true rfl), (Nat.le_of_ble_eq_true rfl)⟩ (fun H_3 locs_3 hH_3 => ?_)
  clear hH_2
  refine lv_aload_n hx hb dL_refuses_403 rfl (lv_at hl 0 rfl) ?_
  refine lv_iload hx hb dL_refuses_404 (lv_at hl 6 rfl) ?_
  refine hp_refu (kc := -2000000001) (ki := 15) (tgt := 609) (As := [.int O]) (rest := []) hF hT hc_1 cw_cancel (rl_cancel l hl0 dC dI cI cZ cO cJ o b v r n O hinv (k := 1) (hp_c1 hbad.2.2.1) (by decide)) hH_3 (by decide) rfl rfl hl.1 (Nat.le_of_ble_eq_true rfl) dL_refuses_406 dL_refuses_409 dL_refuses_411 (by decide) ⟨(Nat.le_of_ble_eq_true rfl), (Nat.le_of_ble_eq_true rfl)⟩ (fun H_4 locs_4 hH_4 => ?_)
  clear hH_3
  refine lv_aload_n hx hb dL_refuses_414 rfl (lv_at hl 0 rfl) ?_
  refine lv_iload hx hb dL_refuses_415 (lv_at hl 6 rfl) ?_
  refine hp_refu (kc := -2000000001) (ki := 15) (tgt := 609) (As := [.int O]) (rest := []) hF hT hc_1 cw_build (rl_build l hl0 dC dI cI cZ cO cJ o b v r n O hinv (k := 1) (hp_c1 hbad.2.2.1) (by decide)) hH_4 (by decide) rfl rfl hl.1 (Nat.le_of_ble_eq_true rfl) dL_refuses_417 dL_refuses_420 dL_refuses_422 (by decide) ⟨(Nat.le_of_ble_eq_true rfl), (Nat.le_of_ble_eq_true rfl)⟩ (fun H_5 locs_5 hH_5 => ?_)
  clear hH_4
  refine lv_aload_n hx hb dL_refuses_425 rfl (lv_at hl 0 rfl) ?_
  refine lv_iload hx hb dL_refuses_426 (lv_at hl 5 rfl) ?_
  refine hp_refu (kc := -2000000001) (ki := 15) (tgt := 609) (As := [.int F]) (rest := []) hF hT hc_1 cw_inspect (rl_inspect l hl0 dC dI cI cZ cO cJ o b v r n F hinv (k := 1) (hp_c1 hbad.2.1) (by decide)) hH_5 (by decide) rfl rfl hl.1 (Nat.le_of_ble_eq_true rfl) dL_refuses_428 dL_refuses_431 dL_refuses_433 (by decide) ⟨(Nat.le_of_ble_eq_true rfl), (Nat.le_of_ble_eq_true rfl)⟩ (fun H_6 locs_6 hH_6 => ?_)
  clear hH_5
  refine lv_aload_n hx hb dL_refuses_436 rfl (lv_at hl 0 rfl) ?_
  refine lv_iload_n hx hb dL_refuses_437 rfl (lv_at hl 3 rfl) ?_
  refine hp_joinB 450 12 (fun y21 : Int32 => hp_in y21 1 100 = false) (fun y21 => [(0, .ref o), (1, .int (nI n)), (2, .int (nI x)), (3, .int low), (4, .int T), (5, .int F), (6, .int O), (7, .int C), (8, .int B)]) (fun y21 => [.int y21, .ref o]) (fun jn => ?_) ?_
  · refine lv_if_eq (tgt := 446) hx hb dL_refuses_438 (by decide) (fun c9 => ?_) (fun c9 => ?_)
    · skip
      refine lv_bipush (v := 101) hx hb dL_refuses_446 (by decide) ?_
      refine lv_iload_n hx hb dL_refuses_448 rfl (lv_at hl 2 rfl) ?_
      refine lv_iadd hx hb dL_refuses_449 ?_
      refine hp_top (show (101 : Int32) + nI x = nI (101 + x) from nI_add 101 x) ?_
      exact jn (nI (101 + x)) (hp_hi (by show (100 : Int) < _; omega) (by omega)) _ hl
    · skip
      refine lv_iload_n hx hb dL_refuses_441 rfl (lv_at hl 2 rfl) ?_
      refine lv_ineg hx hb dL_refuses_442 ?_
      refine lv_goto (tgt := 450) hx hb dL_refuses_443 (by decide) ?_
      exact jn (-(nI x)) (hp_lo0 (by omega)) _ hl
  intro y21 h_y21 ls hl
  refine hp_refu (kc := -2000000002) (ki := 18) (tgt := 609) (As := [.int y21]) (rest := []) hF hT hc_2 cw_pass (rl_pass l hl0 dC dI cI cZ cO cJ o b v r n y21 hinv (k := 1) (hp_c1 h_y21) (by decide)) hH_6 (by decide) rfl rfl hl.1 (Nat.le_of_ble_eq_true rfl) dL_refuses_450 dL_refuses_453 dL_refuses_455 (by decide) ⟨(Nat.le_of_ble_eq_true rfl), (Nat.le_of_ble_eq_true rfl)⟩ (fun H_7 locs_7 hH_7 => ?_)
  clear hH_6
  exact kk _ _ ls hH_7 hl
set_option maxHeartbeats 1000000 in
set_option maxRecDepth 100000 in
theorem rf_a4 {p : Program} {e : Env} {s : State} {m : MethodId} {args : Array Value} {below : List Frame} {meth : Method} {c : Code} {Q : State → Prop} {A : Nat → Prop} {dC : Nat → ClassId} {dI : Nat → Nat → Nat} {cI cZ cO cJ : ClassId} {o : Nat} {b : Nat → Nat} {v : Nat → Int32} {r : Nat → Nat → Int32} {n x : Nat} (l : Launch) (hl0 : l.stackTraces = false) (hx : p.tables.exec = Jvm.exec) (hb : c.code = cL_refuses) (hml : c.maxLocals = 12) (hown : s.vm.findClass RL = some m.cls) (hts : ∀ w ∈ wsL_refuses, w.before args s = true) (hT : hp_T (dC, dI) cI cZ cO cJ A s) (hinv : hp_inv v r n) (hxl : x < 9973) {low T F O C B : Int32} (hbad : hp_bad v n T F O C B) {H_0 : Heap} {locs_0 : List Loc} {ls : Array Slot} (hH_0 : hp_H1 (dC, dI) cI cZ cO A s o b v r n H_0 locs_0) (hl : lv_has ls 12 [(0, .ref o), (1, .int (nI n)), (2, .int (nI x)), (3, .int low), (4, .int T), (5, .int F), (6, .int O), (7, .int C), (8, .int B)])
    (kk : ∀ (H : Heap) (locs : List Loc) (ls : Array Slot), hp_H1 (dC, dI) cI cZ cO A s o b v r n H locs → lv_has ls 12 [(0, .ref o), (1, .int (nI n)), (2, .int (nI x)), (3, .int low), (4, .int T), (5, .int F), (6, .int O), (7, .int C), (8, .int B)] → W p l e ({ frames := 8, cells := 64, slots := 500, locals := 182 } : Room) s m args below meth c H locs 27 190 Q (F0 m 529 ls [])) :
    W p l e ({ frames := 8, cells := 64, slots := 500, locals := 182 } : Room) s m args below meth c H_0 locs_0 21 154 Q (F0 m 458 ls []) := by
  have hF : CallFix p m c cL_refuses 12 s args wsL_refuses RL := ⟨hx, hb, hml, hown, hts⟩
  have hc_1 := hts (.constant RL 15 (-2000000001)) (by decide +kernel)
  have cw_clash := vx_cwSW (R := ({ frames := 8, cells := 64, slots := 500, locals := 182 } : Room)) (rm := ({ frames := 7, cells := 1, slots := 6, locals := 115 } : Room)) (mc := 1) (ms := 6) 3 hts gL_refuses_L_clash rfl rfl rfl (by decide +kernel) ⟨(Nat.le_of_ble_eq_true rfl), (Nat.le_of_ble_eq_true rfl)⟩
  have cw_clashes := vx_cwSW (R := ({ frames := 8, cells := 64, slots := 500, locals := 182 } : Room)) (rm := ({ frames := 7, cells := 1, slots := 6, locals := 139 } : Room)) (mc := 1) (ms := 6) 2 hts gL_refuses_L_clashes rfl rfl rfl (by decide +kernel) ⟨(Nat.le_of_ble_eq_true rfl), (Nat.le_of_ble_eq_true rfl)⟩
  have cw_elementOf := vx_cwSW (R := ({ frames := 8, cells := 64, slots := 500, locals := 182 } : Room)) (rm := ({ frames := 7, cells := 1, slots := 6, locals := 105 } : Room)) (mc := 1) (ms := 6) 3 hts gL_refuses_L_elementOf rfl rfl rfl (by decide +kernel) ⟨(Nat.le_of_ble_eq_true rfl), (Nat.le_of_ble_eq_true rfl)⟩
  have cw_isStopped := vx_cwSW (R := ({ frames := 8, cells := 64, slots := 500, locals := 182 } : Room)) (rm := ({ frames := 7, cells := 1, slots := 6, locals := 139 } : Room)) (mc := 1) (ms := 6) 3 hts gL_refuses_L_isStopped rfl rfl rfl (by decide +kernel) ⟨(Nat.le_of_ble_eq_true rfl), (Nat.le_of_ble_eq_true rfl)⟩
  have cw_parts := vx_cwSW (R := ({ frames := 8, cells := 64, slots := 500, locals := 182 } : Room)) (rm := ({ frames := 7, cells := 1, slots := 6, locals := 111 } : Room)) (mc := 1) (ms := 6) 2 hts gL_refuses_L_parts rfl rfl rfl (by decide +kernel) ⟨(Nat.le_of_ble_eq_true rfl), (Nat.le_of_ble_eq_true rfl)⟩
  refine lv_aload_n hx hb dL_refuses_458 rfl (lv_at hl 0 rfl) ?_
  refine lv_iload hx hb dL_refuses_459 (lv_at hl 6 rfl) ?_
  refine lv_iconst (v := 0) hx hb dL_refuses_461 (by decide) ?_
  refine hp_refu (kc := -2000000001) (ki := 15) (tgt := 609) (As := [.int O, .int 0]) (rest := []) hF hT hc_1 cw_elementOf (rl_elementOf l hl0 dC dI cI cZ cO cJ o b v r n O 0 hinv (k := 1) (hp_c1 hbad.2.2.1) (by decide)) hH_0 (by decide) rfl rfl hl.1 (Nat.le_of_ble_eq_true rfl) dL_refuses_462 dL_refuses_465 dL_refuses_467 (by decide) ⟨(Nat.le_of_ble_eq_true rfl), (Nat.le_of_ble_eq_true rfl)⟩ (fun H_1 locs_1 hH_1 => ?_)
  clear hH_0
  refine lv_aload_n hx hb dL_refuses_470 rfl (lv_at hl 0 rfl) ?_
  refine lv_iload hx hb dL_refuses_471 (lv_at hl 6 rfl) ?_
  refine lv_iload hx hb dL_refuses_473 (lv_at hl 6 rfl) ?_
  refine hp_refu (kc := -2000000001) (ki := 15) (tgt := 609) (As := [.int O, .int O]) (rest := []) hF hT hc_1 cw_clash (rl_clash l hl0 dC dI cI cZ cO cJ o b v r n O O hinv (k := 1) (hp_c1 (hp_a0 hbad.2.2.1)) (by decide)) hH_1 (by decide) rfl rfl hl.1 (Nat.le_of_ble_eq_true rfl) dL_refuses_475 dL_refuses_478 dL_refuses_480 (by decide) ⟨(Nat.le_of_ble_eq_true rfl), (Nat.le_of_ble_eq_true rfl)⟩ (fun H_2 locs_2 hH_2 => ?_)
  clear hH_1
  refine lv_aload_n hx hb dL_refuses_483 rfl (lv_at hl 0 rfl) ?_
  refine lv_iload hx hb dL_refuses_484 (lv_at hl 5 rfl) ?_
  refine hp_refu (kc := -2000000001) (ki := 15) (tgt := 609) (As := [.int F]) (rest := []) hF hT hc_1 cw_clashes (rl_clashes l hl0 dC dI cI cZ cO cJ o b v r n F hinv (k := 1) (hp_c1 hbad.2.1) (by decide)) hH_2 (by decide) rfl rfl hl.1 (Nat.le_of_ble_eq_true rfl) dL_refuses_486 dL_refuses_489 dL_refuses_491 (by decide) ⟨(Nat.le_of_ble_eq_true rfl), (Nat.le_of_ble_eq_true rfl)⟩ (fun H_3 locs_3 hH_3 => ?_)
  clear hH_2
  refine lv_aload_n hx hb dL_refuses_494 rfl (lv_at hl 0 rfl) ?_
  refine lv_iload hx hb dL_refuses_495 (lv_at hl 4 rfl) ?_
  refine lv_iconst (v := 0) hx hb dL_refuses_497 (by decide) ?_
  refine hp_refu (kc := -2000000001) (ki := 15) (tgt := 609) (As := [.int T, .int 0]) (rest := []) hF hT hc_1 cw_isStopped (rl_isStopped l hl0 dC dI cI cZ cO cJ o b v r n T 0 hinv (k := 1) (hp_c1 (hp_a0 hbad.1)) (by decide)) hH_3 (by decide) rfl rfl hl.1 (Nat.le_of_ble_eq_true rfl) dL_refuses_498 dL_refuses_501 dL_refuses_503 (by decide) ⟨(Nat.le_of_ble_eq_true rfl), (Nat.le_of_ble_eq_true rfl)⟩ (fun H_4 locs_4 hH_4 => ?_)
  clear hH_3
  refine lv_aload_n hx hb dL_refuses_506 rfl (lv_at hl 0 rfl) ?_
  refine lv_iconst (v := 0) hx hb dL_refuses_507 (by decide) ?_
  refine lv_iload hx hb dL_refuses_508 (lv_at hl 5 rfl) ?_
  refine hp_refu (kc := -2000000001) (ki := 15) (tgt := 609) (As := [.int 0, .int F]) (rest := []) hF hT hc_1 cw_isStopped (rl_isStopped l hl0 dC dI cI cZ cO cJ o b v r n 0 F hinv (k := 1) (hp_c1 (hp_a1 hbad.2.1)) (by decide)) hH_4 (by decide) rfl rfl hl.1 (Nat.le_of_ble_eq_true rfl) dL_refuses_510 dL_refuses_513 dL_refuses_515 (by decide) ⟨(Nat.le_of_ble_eq_true rfl), (Nat.le_of_ble_eq_true rfl)⟩ (fun H_5 locs_5 hH_5 => ?_)
  clear hH_4
  refine lv_aload_n hx hb dL_refuses_518 rfl (lv_at hl 0 rfl) ?_
  refine lv_iload hx hb dL_refuses_519 (lv_at hl 4 rfl) ?_
  refine hp_refu (kc := -2000000001) (ki := 15) (tgt := 609) (As := [.int T]) (rest := []) hF hT hc_1 cw_parts (rl_parts l hl0 dC dI cI cZ cO cJ o b v r n T hinv (k := 1) (hp_c1 hbad.1) (by decide)) hH_5 (by decide) rfl rfl hl.1 (Nat.le_of_ble_eq_true rfl) dL_refuses_521 dL_refuses_524 dL_refuses_526 (by decide) ⟨(Nat.le_of_ble_eq_true rfl), (Nat.le_of_ble_eq_true rfl)⟩ (fun H_6 locs_6 hH_6 => ?_)
  clear hH_5
  exact kk _ _ ls hH_6 hl
set_option maxHeartbeats 1000000 in
set_option maxRecDepth 100000 in
theorem rf_a5 {p : Program} {e : Env} {s : State} {m : MethodId} {args : Array Value} {below : List Frame} {meth : Method} {c : Code} {Q : State → Prop} {A : Nat → Prop} {dC : Nat → ClassId} {dI : Nat → Nat → Nat} {cI cZ cO cJ : ClassId} {o : Nat} {b : Nat → Nat} {v : Nat → Int32} {r : Nat → Nat → Int32} {n x : Nat} (l : Launch) (hl0 : l.stackTraces = false) (hx : p.tables.exec = Jvm.exec) (hb : c.code = cL_refuses) (hml : c.maxLocals = 12) (hown : s.vm.findClass RL = some m.cls) (hts : ∀ w ∈ wsL_refuses, w.before args s = true) (hT : hp_T (dC, dI) cI cZ cO cJ A s) (hinv : hp_inv v r n) (hxl : x < 9973) {low T F O C B : Int32} (hbad : hp_bad v n T F O C B) {H_0 : Heap} {locs_0 : List Loc} {ls : Array Slot} (hH_0 : hp_H1 (dC, dI) cI cZ cO A s o b v r n H_0 locs_0) (hl : lv_has ls 12 [(0, .ref o), (1, .int (nI n)), (2, .int (nI x)), (3, .int low), (4, .int T), (5, .int F), (6, .int O), (7, .int C), (8, .int B)])
    (kk : ∀ (H : Heap) (locs : List Loc) (ls : Array Slot), hp_H1 (dC, dI) cI cZ cO A s o b v r n H locs → lv_has ls 12 [(0, .ref o), (1, .int (nI n)), (2, .int (nI x)), (3, .int low), (4, .int T), (5, .int F), (6, .int O), (7, .int C), (8, .int B)] → W p l e ({ frames := 8, cells := 64, slots := 500, locals := 182 } : Room) s m args below meth c H locs 33 226 Q (F0 m 605 ls [])) :
    W p l e ({ frames := 8, cells := 64, slots := 500, locals := 182 } : Room) s m args below meth c H_0 locs_0 27 190 Q (F0 m 529 ls []) := by
  have hF : CallFix p m c cL_refuses 12 s args wsL_refuses RL := ⟨hx, hb, hml, hown, hts⟩
  have hc_1 := hts (.constant RL 15 (-2000000001)) (by decide +kernel)
  have hc_2 := hts (.constant RL 18 (-2000000002)) (by decide +kernel)
  have cw_anew := vx_cwSW (R := ({ frames := 8, cells := 64, slots := 500, locals := 182 } : Room)) (rm := ({ frames := 7, cells := 1, slots := 6, locals := 106 } : Room)) (mc := 1) (ms := 6) 2 hts gL_refuses_L_anew rfl rfl rfl (by decide +kernel) ⟨(Nat.le_of_ble_eq_true rfl), (Nat.le_of_ble_eq_true rfl)⟩
  have cw_isLocked := vx_cwSW (R := ({ frames := 8, cells := 64, slots := 500, locals := 182 } : Room)) (rm := ({ frames := 7, cells := 1, slots := 6, locals := 103 } : Room)) (mc := 1) (ms := 6) 2 hts gL_refuses_L_isLocked rfl rfl rfl (by decide +kernel) ⟨(Nat.le_of_ble_eq_true rfl), (Nat.le_of_ble_eq_true rfl)⟩
  have cw_kindsAt := vx_cwSW (R := ({ frames := 8, cells := 64, slots := 500, locals := 182 } : Room)) (rm := ({ frames := 7, cells := 1, slots := 6, locals := 108 } : Room)) (mc := 1) (ms := 6) 4 hts gL_refuses_L_kindsAt rfl rfl rfl (by decide +kernel) ⟨(Nat.le_of_ble_eq_true rfl), (Nat.le_of_ble_eq_true rfl)⟩
  have cw_ordered := vx_cwSW (R := ({ frames := 8, cells := 64, slots := 500, locals := 182 } : Room)) (rm := ({ frames := 7, cells := 1, slots := 6, locals := 111 } : Room)) (mc := 1) (ms := 6) 2 hts gL_refuses_L_ordered rfl rfl rfl (by decide +kernel) ⟨(Nat.le_of_ble_eq_true rfl), (Nat.le_of_ble_eq_true rfl)⟩
  refine lv_aload_n hx hb dL_refuses_529 rfl (lv_at hl 0 rfl) ?_
  refine lv_iload hx hb dL_refuses_530 (lv_at hl 4 rfl) ?_
  refine hp_refu (kc := -2000000001) (ki := 15) (tgt := 609) (As := [.int T]) (rest := []) hF hT hc_1 cw_anew (rl_anew l hl0 dC dI cI cZ cO cJ o b v r n T hinv (k := 1) (hp_c1 hbad.1) (by decide)) hH_0 (by decide) rfl rfl hl.1 (Nat.le_of_ble_eq_true rfl) dL_refuses_532 dL_refuses_535 dL_refuses_537 (by decide) ⟨(Nat.le_of_ble_eq_true rfl), (Nat.le_of_ble_eq_true rfl)⟩ (fun H_1 locs_1 hH_1 => ?_)
  clear hH_0
  refine lv_aload_n hx hb dL_refuses_540 rfl (lv_at hl 0 rfl) ?_
  refine lv_iload hx hb dL_refuses_541 (lv_at hl 4 rfl) ?_
  refine hp_refu (kc := -2000000001) (ki := 15) (tgt := 609) (As := [.int T]) (rest := []) hF hT hc_1 cw_ordered (rl_ordered l hl0 dC dI cI cZ cO cJ o b v r n T hinv (k := 1) (hp_c1 hbad.1) (by decide)) hH_1 (by decide) rfl rfl hl.1 (Nat.le_of_ble_eq_true rfl) dL_refuses_543 dL_refuses_546 dL_refuses_548 (by decide) ⟨(Nat.le_of_ble_eq_true rfl), (Nat.le_of_ble_eq_true rfl)⟩ (fun H_2 locs_2 hH_2 => ?_)
  clear hH_1
  refine lv_aload_n hx hb dL_refuses_551 rfl (lv_at hl 0 rfl) ?_
  refine lv_iload hx hb dL_refuses_552 (lv_at hl 5 rfl) ?_
  refine lv_iconst (v := 0) hx hb dL_refuses_554 (by decide) ?_
  refine lv_iconst (v := 0) hx hb dL_refuses_555 (by decide) ?_
  refine hp_refu (kc := -2000000001) (ki := 15) (tgt := 609) (As := [.int F, .int 0, .int 0]) (rest := []) hF hT hc_1 cw_kindsAt (rl_kindsAt l hl0 dC dI cI cZ cO cJ o b v r n F 0 0 hinv (k := 1) (hp_c1 hbad.2.1) (by decide)) hH_2 (by decide) rfl rfl hl.1 (Nat.le_of_ble_eq_true rfl) dL_refuses_556 dL_refuses_559 dL_refuses_561 (by decide) ⟨(Nat.le_of_ble_eq_true rfl), (Nat.le_of_ble_eq_true rfl)⟩ (fun H_3 locs_3 hH_3 => ?_)
  clear hH_2
  refine lv_aload_n hx hb dL_refuses_564 rfl (lv_at hl 0 rfl) ?_
  refine lv_iload_n hx hb dL_refuses_565 rfl (lv_at hl 2 rfl) ?_
  refine lv_iconst (v := 4) hx hb dL_refuses_566 (by decide) ?_
  refine lv_irem hx hb dL_refuses_567 (by decide) ?_
  refine hp_top (show nI x - nI x / 4 * 4 = nI (x % 4) from pk_rem (d := 4) (by omega) (by decide) (by decide)) ?_
  refine lv_iload hx hb dL_refuses_568 (lv_at hl 7 rfl) ?_
  refine lv_iconst (v := 0) hx hb dL_refuses_570 (by decide) ?_
  refine hp_refu (kc := -2000000002) (ki := 18) (tgt := 609) (As := [.int (nI (x % 4)), .int C, .int 0]) (rest := []) hF hT hc_2 cw_kindsAt (rl_kindsAt l hl0 dC dI cI cZ cO cJ o b v r n (nI (x % 4)) C 0 hinv (k := 2) (hp_c2 (hp_st4 x) (hp_a0 hbad.2.2.2.1)) (by decide)) hH_3 (by decide) rfl rfl hl.1 (Nat.le_of_ble_eq_true rfl) dL_refuses_571 dL_refuses_574 dL_refuses_576 (by decide) ⟨(Nat.le_of_ble_eq_true rfl), (Nat.le_of_ble_eq_true rfl)⟩ (fun H_4 locs_4 hH_4 => ?_)
  clear hH_3
  refine lv_aload_n hx hb dL_refuses_579 rfl (lv_at hl 0 rfl) ?_
  refine lv_iload_n hx hb dL_refuses_580 rfl (lv_at hl 2 rfl) ?_
  refine lv_iconst (v := 4) hx hb dL_refuses_581 (by decide) ?_
  refine lv_irem hx hb dL_refuses_582 (by decide) ?_
  refine hp_top (show nI x - nI x / 4 * 4 = nI (x % 4) from pk_rem (d := 4) (by omega) (by decide) (by decide)) ?_
  refine lv_iconst (v := 0) hx hb dL_refuses_583 (by decide) ?_
  refine lv_iload hx hb dL_refuses_584 (lv_at hl 7 rfl) ?_
  refine hp_refu (kc := -2000000002) (ki := 18) (tgt := 609) (As := [.int (nI (x % 4)), .int 0, .int C]) (rest := []) hF hT hc_2 cw_kindsAt (rl_kindsAt l hl0 dC dI cI cZ cO cJ o b v r n (nI (x % 4)) 0 C hinv (k := 2) (hp_c2 (hp_st4 x) (hp_a1 hbad.2.2.2.1)) (by decide)) hH_4 (by decide) rfl rfl hl.1 (Nat.le_of_ble_eq_true rfl) dL_refuses_586 dL_refuses_589 dL_refuses_591 (by decide) ⟨(Nat.le_of_ble_eq_true rfl), (Nat.le_of_ble_eq_true rfl)⟩ (fun H_5 locs_5 hH_5 => ?_)
  clear hH_4
  refine lv_aload_n hx hb dL_refuses_594 rfl (lv_at hl 0 rfl) ?_
  refine lv_iload hx hb dL_refuses_595 (lv_at hl 5 rfl) ?_
  refine hp_refu (kc := -2000000001) (ki := 15) (tgt := 609) (As := [.int F]) (rest := []) hF hT hc_1 cw_isLocked (rl_isLocked l hl0 dC dI cI cZ cO cJ o b v r n F hinv (k := 1) (hp_c1 hbad.2.1) (by decide)) hH_5 (by decide) rfl rfl hl.1 (Nat.le_of_ble_eq_true rfl) dL_refuses_597 dL_refuses_600 dL_refuses_602 (by decide) ⟨(Nat.le_of_ble_eq_true rfl), (Nat.le_of_ble_eq_true rfl)⟩ (fun H_6 locs_6 hH_6 => ?_)
  clear hH_5
  exact kk _ _ ls hH_6 hl
