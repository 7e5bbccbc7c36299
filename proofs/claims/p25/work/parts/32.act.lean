/-! an act, road by road -/
set_option maxHeartbeats 1000000 in
set_option maxRecDepth 100000 in
theorem ac_128 {p : Program} {e : Env} {s : State} {m : MethodId} {args : Array Value} {below : List Frame} {meth : Method} {c : Code} {Q : State → Prop} {A : Nat → Prop} {dC : Nat → ClassId} {dI : Nat → Nat → Nat} {cI cZ cO cJ : ClassId} {o : Nat} {b : Nat → Nat} {v : Nat → Int32} {r : Nat → Nat → Int32} {n x y w : Nat} (l : Launch) (hl0 : l.stackTraces = false) (hx : p.tables.exec = Jvm.exec) (hb : c.code = cL_act) (hml : c.maxLocals = 10) (hown : s.vm.findClass RL = some m.cls) (hts : ∀ w ∈ wsL_act, w.before args s = true) (hT : hp_T (dC, dI) cI cZ cO cJ A s) (hinv : hp_inv v r n) (hy : x / 20 = y) (hyl : y < 2 ^ 30) (hw : hp_ao n y = w) (h1 : 0 ≤ x % 20) (h2 : x % 20 < 4)
    (hret : ∀ (pc : Nat) (H : Heap) (locs : List Loc) (ls : Array Slot), decode cL_act pc = .ok (.ireturn, 1) → hp_H1 (dC, dI) cI cZ cO A s o b ((hp_act v r n x).2.1) ((hp_act v r n x).2.2.1) ((hp_act v r n x).2.2.2) H locs → W p l e ({ frames := 8, cells := 1, slots := 10, locals := 182 } : Room) s m args below meth c H locs 1 10 Q (F0 m pc ls [.int (hp_act v r n x).1])) {H_0 : Heap} {locs_0 : List Loc} {ls : Array Slot} (hH_0 : hp_H1 (dC, dI) cI cZ cO A s o b v r n H_0 locs_0) (hl : lv_has ls 10 [(6, .int (v 2 - nI (y / 120 % 5))), (5, .int (nI (y / 40 % 3))), (4, .int (nI w)), (3, .int (nI y)), (0, .ref o), (1, .int (nI n)), (2, .int (nI x))]) :
    W p l e ({ frames := 8, cells := 1, slots := 10, locals := 182 } : Room) s m args below meth c H_0 locs_0 0 0 Q (F0 m 128 ls []) := by
  have hF : CallFix p m c cL_act 10 s args wsL_act RL := ⟨hx, hb, hml, hown, hts⟩
  have cw_add := vx_cwSW (R := ({ frames := 8, cells := 1, slots := 10, locals := 182 } : Room)) (rm := ({ frames := 7, cells := 1, slots := 10, locals := 109 } : Room)) (mc := 1) (ms := 10) 7 hts gL_act_L_add rfl rfl rfl (by decide +kernel) ⟨(Nat.le_of_ble_eq_true rfl), (Nat.le_of_ble_eq_true rfl)⟩
  refine lv_iload_n hx hb dL_act_128 rfl (lv_at hl 3 rfl) ?_
  refine lv_iconst (v := 2) hx hb dL_act_129 (by decide) ?_
  refine lv_irem hx hb dL_act_130 (by decide) ?_
  refine hp_top (show nI y - nI y / 2 * 2 = nI (y % 2) from pk_rem (d := 2) (by omega) (by decide) (by decide)) ?_
  refine lv_if_ne (tgt := 138) hx hb dL_act_131 (by decide) (fun c9 => ?_) (fun c9 => ?_)
  · have h3 : ¬ y % 2 = 0 := fun q => c9 (by rw [q]; rfl)
    refine lv_iconst (v := 0) hx hb dL_act_138 (by decide) ?_
    refine lv_istore (lv' := [(7, .int 0), (6, .int (v 2 - nI (y / 120 % 5))), (5, .int (nI (y / 40 % 3))), (4, .int (nI w)), (3, .int (nI y)), (0, .ref o), (1, .int (nI n)), (2, .int (nI x))]) hx hb dL_act_139 hl (by decide) rfl (fun ls hl => ?_)
    refine lv_iload_n hx hb dL_act_141 rfl (lv_at hl 4 rfl) ?_
    refine lv_bipush (v := 12) hx hb dL_act_142 (by decide) ?_
    refine lv_idiv hx hb dL_act_144 (by decide) ?_
    refine hp_top (show nI y / 12 = nI (y / 12) from pk_div (d := 12) (by omega) (by decide) (by decide)) ?_
    refine lv_bipush (v := 12) hx hb dL_act_145 (by decide) ?_
    refine lv_irem hx hb dL_act_147 (by decide) ?_
    refine hp_top (show nI (y / 12) - nI (y / 12) / 12 * 12 = nI ((y / 12) % 12) from pk_rem (d := 12) (by omega) (by decide) (by decide)) ?_
    refine lv_istore (lv' := [(8, .int (nI ((y / 12) % 12))), (7, .int 0), (6, .int (v 2 - nI (y / 120 % 5))), (5, .int (nI (y / 40 % 3))), (4, .int (nI w)), (3, .int (nI y)), (0, .ref o), (1, .int (nI n)), (2, .int (nI x))]) hx hb dL_act_148 hl (by decide) rfl (fun ls hl => ?_)
    refine lv_iload_n hx hb dL_act_150 rfl (lv_at hl 5 rfl) ?_
    refine lv_sipush (v := 144) hx hb dL_act_151 (by decide) ?_
    refine lv_idiv hx hb dL_act_154 (by decide) ?_
    refine hp_top (show nI y / 144 = nI (y / 144) from pk_div (d := 144) (by omega) (by decide) (by decide)) ?_
    refine lv_bipush (v := 12) hx hb dL_act_155 (by decide) ?_
    refine lv_irem hx hb dL_act_157 (by decide) ?_
    refine hp_top (show nI (y / 144) - nI (y / 144) / 12 * 12 = nI ((y / 144) % 12) from pk_rem (d := 12) (by omega) (by decide) (by decide)) ?_
    refine lv_istore (lv' := [(9, .int (nI ((y / 144) % 12))), (8, .int (nI ((y / 12) % 12))), (7, .int 0), (6, .int (v 2 - nI (y / 120 % 5))), (5, .int (nI (y / 40 % 3))), (4, .int (nI w)), (3, .int (nI y)), (0, .ref o), (1, .int (nI n)), (2, .int (nI x))]) hx hb dL_act_158 hl (by decide) rfl (fun ls hl => ?_)
    refine lv_aload_n hx hb dL_act_160 rfl (lv_at hl 7 rfl) ?_
    refine lv_iload_n hx hb dL_act_161 rfl (lv_at hl 6 rfl) ?_
    refine lv_iconst (v := 2) hx hb dL_act_162 (by decide) ?_
    refine lv_idiv hx hb dL_act_163 (by decide) ?_
    refine hp_top (show nI y / 2 = nI (y / 2) from pk_div (d := 2) (by omega) (by decide) (by decide)) ?_
    refine lv_iconst (v := 3) hx hb dL_act_164 (by decide) ?_
    refine lv_irem hx hb dL_act_165 (by decide) ?_
    refine hp_top (show nI (y / 2) - nI (y / 2) / 3 * 3 = nI ((y / 2) % 3) from pk_rem (d := 3) (by omega) (by decide) (by decide)) ?_
    refine lv_iload_n hx hb dL_act_166 rfl (lv_at hl 6 rfl) ?_
    refine lv_bipush (v := 6) hx hb dL_act_167 (by decide) ?_
    refine lv_idiv hx hb dL_act_169 (by decide) ?_
    refine hp_top (show nI y / 6 = nI (y / 6) from pk_div (d := 6) (by omega) (by decide) (by decide)) ?_
    refine lv_iconst (v := 2) hx hb dL_act_170 (by decide) ?_
    refine lv_irem hx hb dL_act_171 (by decide) ?_
    refine hp_top (show nI (y / 6) - nI (y / 6) / 2 * 2 = nI ((y / 6) % 2) from pk_rem (d := 2) (by omega) (by decide) (by decide)) ?_
    refine lv_iload hx hb dL_act_172 (lv_at hl 1 rfl) ?_
    refine lv_iload hx hb dL_act_174 (lv_at hl 0 rfl) ?_
    refine lv_iload hx hb dL_act_176 (lv_at hl 2 rfl) ?_
    refine lv_if_eq (tgt := 192) hx hb dL_act_178 (by decide) (fun _ => ?_) (fun q => absurd rfl q)
    refine lv_iload hx hb dL_act_192 (lv_at hl 1 rfl) ?_
    refine lv_iload hx hb dL_act_194 (lv_at hl 2 rfl) ?_
    refine lv_if_eq (tgt := 204) hx hb dL_act_196 (by decide) (fun _ => ?_) (fun q => absurd rfl q)
    refine lv_iload_n hx hb dL_act_204 rfl (lv_at hl 6 rfl) ?_
    refine lv_sipush (v := 1728) hx hb dL_act_205 (by decide) ?_
    refine lv_idiv hx hb dL_act_208 (by decide) ?_
    refine hp_top (show nI y / 1728 = nI (y / 1728) from pk_div (d := 1728) (by omega) (by decide) (by decide)) ?_
    refine lv_bipush (v := 12) hx hb dL_act_209 (by decide) ?_
    refine lv_irem hx hb dL_act_211 (by decide) ?_
    refine hp_top (show nI (y / 1728) - nI (y / 1728) / 12 * 12 = nI ((y / 1728) % 12) from pk_rem (d := 12) (by omega) (by decide) (by decide)) ?_
    refine hp_call1 (As := [.int (nI ((y / 2) % 3)), .int (nI ((y / 6) % 2)), .int (nI ((y / 12) % 12)), .int (nI ((y / 144) % 12)), .int (nI ((y / 12) % 12)), .int (nI ((y / 1728) % 12))]) (rest := []) hF hT cw_add (wl_add l hl0 dC dI cI cZ cO cJ o b v r n (nI ((y / 2) % 3)) (nI ((y / 6) % 2)) (nI ((y / 12) % 12)) (nI ((y / 144) % 12)) (nI ((y / 12) % 12)) (nI ((y / 1728) % 12)) hinv rfl) hH_0 rfl rfl hl.1 (Nat.le_of_ble_eq_true rfl) dL_act_212 ⟨(Nat.le_of_ble_eq_true rfl), (Nat.le_of_ble_eq_true rfl)⟩ (fun H_1 locs_1 hH_1 => ?_)
    rw [hp_act_ay hy hw, hp_ay_add1 h1 h2 h3] at hret
    exact hret 215 _ _ ls dL_act_215 hH_1
  · have h3 : y % 2 = 0 := (nI_eq (a := y % 2) (b := 0) (by omega) (by decide)).mp c9
    refine lv_iconst (v := 1) hx hb dL_act_134 (by decide) ?_
    refine lv_goto (tgt := 139) hx hb dL_act_135 (by decide) ?_
    refine lv_istore (lv' := [(7, .int 1), (6, .int (v 2 - nI (y / 120 % 5))), (5, .int (nI (y / 40 % 3))), (4, .int (nI w)), (3, .int (nI y)), (0, .ref o), (1, .int (nI n)), (2, .int (nI x))]) hx hb dL_act_139 hl (by decide) rfl (fun ls hl => ?_)
    refine lv_iload_n hx hb dL_act_141 rfl (lv_at hl 4 rfl) ?_
    refine lv_bipush (v := 12) hx hb dL_act_142 (by decide) ?_
    refine lv_idiv hx hb dL_act_144 (by decide) ?_
    refine hp_top (show nI y / 12 = nI (y / 12) from pk_div (d := 12) (by omega) (by decide) (by decide)) ?_
    refine lv_bipush (v := 12) hx hb dL_act_145 (by decide) ?_
    refine lv_irem hx hb dL_act_147 (by decide) ?_
    refine hp_top (show nI (y / 12) - nI (y / 12) / 12 * 12 = nI ((y / 12) % 12) from pk_rem (d := 12) (by omega) (by decide) (by decide)) ?_
    refine lv_istore (lv' := [(8, .int (nI ((y / 12) % 12))), (7, .int 1), (6, .int (v 2 - nI (y / 120 % 5))), (5, .int (nI (y / 40 % 3))), (4, .int (nI w)), (3, .int (nI y)), (0, .ref o), (1, .int (nI n)), (2, .int (nI x))]) hx hb dL_act_148 hl (by decide) rfl (fun ls hl => ?_)
    refine lv_iload_n hx hb dL_act_150 rfl (lv_at hl 5 rfl) ?_
    refine lv_sipush (v := 144) hx hb dL_act_151 (by decide) ?_
    refine lv_idiv hx hb dL_act_154 (by decide) ?_
    refine hp_top (show nI y / 144 = nI (y / 144) from pk_div (d := 144) (by omega) (by decide) (by decide)) ?_
    refine lv_bipush (v := 12) hx hb dL_act_155 (by decide) ?_
    refine lv_irem hx hb dL_act_157 (by decide) ?_
    refine hp_top (show nI (y / 144) - nI (y / 144) / 12 * 12 = nI ((y / 144) % 12) from pk_rem (d := 12) (by omega) (by decide) (by decide)) ?_
    refine lv_istore (lv' := [(9, .int (nI ((y / 144) % 12))), (8, .int (nI ((y / 12) % 12))), (7, .int 1), (6, .int (v 2 - nI (y / 120 % 5))), (5, .int (nI (y / 40 % 3))), (4, .int (nI w)), (3, .int (nI y)), (0, .ref o), (1, .int (nI n)), (2, .int (nI x))]) hx hb dL_act_158 hl (by decide) rfl (fun ls hl => ?_)
    refine lv_aload_n hx hb dL_act_160 rfl (lv_at hl 7 rfl) ?_
    refine lv_iload_n hx hb dL_act_161 rfl (lv_at hl 6 rfl) ?_
    refine lv_iconst (v := 2) hx hb dL_act_162 (by decide) ?_
    refine lv_idiv hx hb dL_act_163 (by decide) ?_
    refine hp_top (show nI y / 2 = nI (y / 2) from pk_div (d := 2) (by omega) (by decide) (by decide)) ?_
    refine lv_iconst (v := 3) hx hb dL_act_164 (by decide) ?_
    refine lv_irem hx hb dL_act_165 (by decide) ?_
    refine hp_top (show nI (y / 2) - nI (y / 2) / 3 * 3 = nI ((y / 2) % 3) from pk_rem (d := 3) (by omega) (by decide) (by decide)) ?_
    refine lv_iload_n hx hb dL_act_166 rfl (lv_at hl 6 rfl) ?_
    refine lv_bipush (v := 6) hx hb dL_act_167 (by decide) ?_
    refine lv_idiv hx hb dL_act_169 (by decide) ?_
    refine hp_top (show nI y / 6 = nI (y / 6) from pk_div (d := 6) (by omega) (by decide) (by decide)) ?_
    refine lv_iconst (v := 2) hx hb dL_act_170 (by decide) ?_
    refine lv_irem hx hb dL_act_171 (by decide) ?_
    refine hp_top (show nI (y / 6) - nI (y / 6) / 2 * 2 = nI ((y / 6) % 2) from pk_rem (d := 2) (by omega) (by decide) (by decide)) ?_
    refine lv_iload hx hb dL_act_172 (lv_at hl 1 rfl) ?_
    refine lv_iload hx hb dL_act_174 (lv_at hl 0 rfl) ?_
    refine lv_iload hx hb dL_act_176 (lv_at hl 2 rfl) ?_
    refine lv_if_eq (tgt := 192) hx hb dL_act_178 (by decide) (fun q => absurd q (by decide)) (fun _ => ?_)
    refine lv_iload_n hx hb dL_act_181 rfl (lv_at hl 6 rfl) ?_
    refine lv_sipush (v := 1728) hx hb dL_act_182 (by decide) ?_
    refine lv_idiv hx hb dL_act_185 (by decide) ?_
    refine hp_top (show nI y / 1728 = nI (y / 1728) from pk_div (d := 1728) (by omega) (by decide) (by decide)) ?_
    refine lv_bipush (v := 12) hx hb dL_act_186 (by decide) ?_
    refine lv_irem hx hb dL_act_188 (by decide) ?_
    refine hp_top (show nI (y / 1728) - nI (y / 1728) / 12 * 12 = nI ((y / 1728) % 12) from pk_rem (d := 12) (by omega) (by decide) (by decide)) ?_
    refine lv_goto (tgt := 194) hx hb dL_act_189 (by decide) ?_
    refine lv_iload hx hb dL_act_194 (lv_at hl 2 rfl) ?_
    refine lv_if_eq (tgt := 204) hx hb dL_act_196 (by decide) (fun q => absurd q (by decide)) (fun _ => ?_)
    refine lv_iload hx hb dL_act_199 (lv_at hl 0 rfl) ?_
    refine lv_goto (tgt := 212) hx hb dL_act_201 (by decide) ?_
    refine hp_call1 (As := [.int (nI ((y / 2) % 3)), .int (nI ((y / 6) % 2)), .int (nI ((y / 12) % 12)), .int (nI ((y / 144) % 12)), .int (nI ((y / 1728) % 12)), .int (nI ((y / 144) % 12))]) (rest := []) hF hT cw_add (wl_add l hl0 dC dI cI cZ cO cJ o b v r n (nI ((y / 2) % 3)) (nI ((y / 6) % 2)) (nI ((y / 12) % 12)) (nI ((y / 144) % 12)) (nI ((y / 1728) % 12)) (nI ((y / 144) % 12)) hinv rfl) hH_0 rfl rfl hl.1 (Nat.le_of_ble_eq_true rfl) dL_act_212 ⟨(Nat.le_of_ble_eq_true rfl), (Nat.le_of_ble_eq_true rfl)⟩ (fun H_1 locs_1 hH_1 => ?_)
    rw [hp_act_ay hy hw, hp_ay_add0 h1 h2 h3] at hret
    exact hret 215 _ _ ls dL_act_215 hH_1
set_option maxHeartbeats 1000000 in
set_option maxRecDepth 100000 in
theorem ac_216 {p : Program} {e : Env} {s : State} {m : MethodId} {args : Array Value} {below : List Frame} {meth : Method} {c : Code} {Q : State → Prop} {A : Nat → Prop} {dC : Nat → ClassId} {dI : Nat → Nat → Nat} {cI cZ cO cJ : ClassId} {o : Nat} {b : Nat → Nat} {v : Nat → Int32} {r : Nat → Nat → Int32} {n x y w : Nat} (l : Launch) (hl0 : l.stackTraces = false) (hx : p.tables.exec = Jvm.exec) (hb : c.code = cL_act) (hml : c.maxLocals = 10) (hown : s.vm.findClass RL = some m.cls) (hts : ∀ w ∈ wsL_act, w.before args s = true) (hT : hp_T (dC, dI) cI cZ cO cJ A s) (hinv : hp_inv v r n) (hy : x / 20 = y) (hyl : y < 2 ^ 30) (hw : hp_ao n y = w) (h1 : 4 ≤ x % 20) (h2 : x % 20 < 8)
    (hret : ∀ (pc : Nat) (H : Heap) (locs : List Loc) (ls : Array Slot), decode cL_act pc = .ok (.ireturn, 1) → hp_H1 (dC, dI) cI cZ cO A s o b ((hp_act v r n x).2.1) ((hp_act v r n x).2.2.1) ((hp_act v r n x).2.2.2) H locs → W p l e ({ frames := 8, cells := 1, slots := 10, locals := 182 } : Room) s m args below meth c H locs 1 10 Q (F0 m pc ls [.int (hp_act v r n x).1])) {H_0 : Heap} {locs_0 : List Loc} {ls : Array Slot} (hH_0 : hp_H1 (dC, dI) cI cZ cO A s o b v r n H_0 locs_0) (hl : lv_has ls 10 [(6, .int (v 2 - nI (y / 120 % 5))), (5, .int (nI (y / 40 % 3))), (4, .int (nI w)), (3, .int (nI y)), (0, .ref o), (1, .int (nI n)), (2, .int (nI x))]) :
    W p l e ({ frames := 8, cells := 1, slots := 10, locals := 182 } : Room) s m args below meth c H_0 locs_0 0 0 Q (F0 m 216 ls []) := by
  have hF : CallFix p m c cL_act 10 s args wsL_act RL := ⟨hx, hb, hml, hown, hts⟩
  have cw_move := vx_cwSW (R := ({ frames := 8, cells := 1, slots := 10, locals := 182 } : Room)) (rm := ({ frames := 7, cells := 1, slots := 6, locals := 108 } : Room)) (mc := 1) (ms := 6) 6 hts gL_act_L_move rfl rfl rfl (by decide +kernel) ⟨(Nat.le_of_ble_eq_true rfl), (Nat.le_of_ble_eq_true rfl)⟩
  refine lv_aload_n hx hb dL_act_216 rfl (lv_at hl 4 rfl) ?_
  refine lv_iload hx hb dL_act_217 (lv_at hl 1 rfl) ?_
  refine lv_iload hx hb dL_act_219 (lv_at hl 0 rfl) ?_
  refine lv_iload hx hb dL_act_221 (lv_at hl 2 rfl) ?_
  refine lv_iload_n hx hb dL_act_223 rfl (lv_at hl 3 rfl) ?_
  refine lv_sipush (v := 600) hx hb dL_act_224 (by decide) ?_
  refine lv_idiv hx hb dL_act_227 (by decide) ?_
  refine hp_top (show nI y / 600 = nI (y / 600) from pk_div (d := 600) (by omega) (by decide) (by decide)) ?_
  refine lv_bipush (v := 7) hx hb dL_act_228 (by decide) ?_
  refine lv_irem hx hb dL_act_230 (by decide) ?_
  refine hp_top (show nI (y / 600) - nI (y / 600) / 7 * 7 = nI ((y / 600) % 7) from pk_rem (d := 7) (by omega) (by decide) (by decide)) ?_
  refine lv_iconst (v := 3) hx hb dL_act_231 (by decide) ?_
  refine lv_isub hx hb dL_act_232 ?_
  refine lv_iload_n hx hb dL_act_233 rfl (lv_at hl 3 rfl) ?_
  refine lv_sipush (v := 4200) hx hb dL_act_234 (by decide) ?_
  refine lv_idiv hx hb dL_act_237 (by decide) ?_
  refine hp_top (show nI y / 4200 = nI (y / 4200) from pk_div (d := 4200) (by omega) (by decide) (by decide)) ?_
  refine lv_bipush (v := 7) hx hb dL_act_238 (by decide) ?_
  refine lv_irem hx hb dL_act_240 (by decide) ?_
  refine hp_top (show nI (y / 4200) - nI (y / 4200) / 7 * 7 = nI ((y / 4200) % 7) from pk_rem (d := 7) (by omega) (by decide) (by decide)) ?_
  refine lv_iconst (v := 3) hx hb dL_act_241 (by decide) ?_
  refine lv_isub hx hb dL_act_242 ?_
  refine hp_call1 (As := [.int (nI (y / 40 % 3)), .int (v 2 - nI (y / 120 % 5)), .int (nI w), .int ((nI ((y / 600) % 7)) - 3), .int ((nI ((y / 4200) % 7)) - 3)]) (rest := []) hF hT cw_move (wl_move l hl0 dC dI cI cZ cO cJ o b v r n (nI (y / 40 % 3)) (v 2 - nI (y / 120 % 5)) (nI w) ((nI ((y / 600) % 7)) - 3) ((nI ((y / 4200) % 7)) - 3) hinv rfl) hH_0 rfl rfl hl.1 (Nat.le_of_ble_eq_true rfl) dL_act_243 ⟨(Nat.le_of_ble_eq_true rfl), (Nat.le_of_ble_eq_true rfl)⟩ (fun H_1 locs_1 hH_1 => ?_)
  rw [hp_act_ay hy hw, hp_ay_move h1 h2] at hret
  refine W.widen (k := 1) (n := 10) (Nat.le_of_ble_eq_true rfl) (Nat.le_of_ble_eq_true rfl) ?_
  exact hret 246 _ _ ls dL_act_246 hH_1
set_option maxHeartbeats 1000000 in
set_option maxRecDepth 100000 in
theorem ac_247 {p : Program} {e : Env} {s : State} {m : MethodId} {args : Array Value} {below : List Frame} {meth : Method} {c : Code} {Q : State → Prop} {A : Nat → Prop} {dC : Nat → ClassId} {dI : Nat → Nat → Nat} {cI cZ cO cJ : ClassId} {o : Nat} {b : Nat → Nat} {v : Nat → Int32} {r : Nat → Nat → Int32} {n x y w : Nat} (l : Launch) (hl0 : l.stackTraces = false) (hx : p.tables.exec = Jvm.exec) (hb : c.code = cL_act) (hml : c.maxLocals = 10) (hown : s.vm.findClass RL = some m.cls) (hts : ∀ w ∈ wsL_act, w.before args s = true) (hT : hp_T (dC, dI) cI cZ cO cJ A s) (hinv : hp_inv v r n) (hy : x / 20 = y) (hyl : y < 2 ^ 30) (hw : hp_ao n y = w) (h1 : 8 ≤ x % 20) (h2 : x % 20 < 9)
    (hret : ∀ (pc : Nat) (H : Heap) (locs : List Loc) (ls : Array Slot), decode cL_act pc = .ok (.ireturn, 1) → hp_H1 (dC, dI) cI cZ cO A s o b ((hp_act v r n x).2.1) ((hp_act v r n x).2.2.1) ((hp_act v r n x).2.2.2) H locs → W p l e ({ frames := 8, cells := 1, slots := 10, locals := 182 } : Room) s m args below meth c H locs 1 10 Q (F0 m pc ls [.int (hp_act v r n x).1])) {H_0 : Heap} {locs_0 : List Loc} {ls : Array Slot} (hH_0 : hp_H1 (dC, dI) cI cZ cO A s o b v r n H_0 locs_0) (hl : lv_has ls 10 [(6, .int (v 2 - nI (y / 120 % 5))), (5, .int (nI (y / 40 % 3))), (4, .int (nI w)), (3, .int (nI y)), (0, .ref o), (1, .int (nI n)), (2, .int (nI x))]) :
    W p l e ({ frames := 8, cells := 1, slots := 10, locals := 182 } : Room) s m args below meth c H_0 locs_0 0 0 Q (F0 m 247 ls []) := by
  have hF : CallFix p m c cL_act 10 s args wsL_act RL := ⟨hx, hb, hml, hown, hts⟩
  have cw_clear := vx_cwSW (R := ({ frames := 8, cells := 1, slots := 10, locals := 182 } : Room)) (rm := ({ frames := 7, cells := 1, slots := 6, locals := 106 } : Room)) (mc := 1) (ms := 6) 4 hts gL_act_L_clear rfl rfl rfl (by decide +kernel) ⟨(Nat.le_of_ble_eq_true rfl), (Nat.le_of_ble_eq_true rfl)⟩
  have cw_remove := vx_cwSW (R := ({ frames := 8, cells := 1, slots := 10, locals := 182 } : Room)) (rm := ({ frames := 7, cells := 1, slots := 6, locals := 106 } : Room)) (mc := 1) (ms := 6) 4 hts gL_act_L_remove rfl rfl rfl (by decide +kernel) ⟨(Nat.le_of_ble_eq_true rfl), (Nat.le_of_ble_eq_true rfl)⟩
  refine lv_iload_n hx hb dL_act_247 rfl (lv_at hl 3 rfl) ?_
  refine lv_iconst (v := 2) hx hb dL_act_248 (by decide) ?_
  refine lv_irem hx hb dL_act_249 (by decide) ?_
  refine hp_top (show nI y - nI y / 2 * 2 = nI (y % 2) from pk_rem (d := 2) (by omega) (by decide) (by decide)) ?_
  refine lv_if_ne (tgt := 266) hx hb dL_act_250 (by decide) (fun c9 => ?_) (fun c9 => ?_)
  · have h3 : ¬ y % 2 = 0 := fun q => c9 (by rw [q]; rfl)
    refine lv_aload_n hx hb dL_act_266 rfl (lv_at hl 4 rfl) ?_
    refine lv_iload_n hx hb dL_act_267 rfl (lv_at hl 3 rfl) ?_
    refine lv_iconst (v := 2) hx hb dL_act_268 (by decide) ?_
    refine lv_idiv hx hb dL_act_269 (by decide) ?_
    refine hp_top (show nI y / 2 = nI (y / 2) from pk_div (d := 2) (by omega) (by decide) (by decide)) ?_
    refine lv_iconst (v := 3) hx hb dL_act_270 (by decide) ?_
    refine lv_irem hx hb dL_act_271 (by decide) ?_
    refine hp_top (show nI (y / 2) - nI (y / 2) / 3 * 3 = nI ((y / 2) % 3) from pk_rem (d := 3) (by omega) (by decide) (by decide)) ?_
    refine lv_iload_n hx hb dL_act_272 rfl (lv_at hl 3 rfl) ?_
    refine lv_bipush (v := 6) hx hb dL_act_273 (by decide) ?_
    refine lv_idiv hx hb dL_act_275 (by decide) ?_
    refine hp_top (show nI y / 6 = nI (y / 6) from pk_div (d := 6) (by omega) (by decide) (by decide)) ?_
    refine lv_iconst (v := 3) hx hb dL_act_276 (by decide) ?_
    refine lv_irem hx hb dL_act_277 (by decide) ?_
    refine hp_top (show nI (y / 6) - nI (y / 6) / 3 * 3 = nI ((y / 6) % 3) from pk_rem (d := 3) (by omega) (by decide) (by decide)) ?_
    refine lv_iload_n hx hb dL_act_278 rfl (lv_at hl 3 rfl) ?_
    refine lv_bipush (v := 18) hx hb dL_act_279 (by decide) ?_
    refine lv_idiv hx hb dL_act_281 (by decide) ?_
    refine hp_top (show nI y / 18 = nI (y / 18) from pk_div (d := 18) (by omega) (by decide) (by decide)) ?_
    refine lv_iconst (v := 4) hx hb dL_act_282 (by decide) ?_
    refine lv_irem hx hb dL_act_283 (by decide) ?_
    refine hp_top (show nI (y / 18) - nI (y / 18) / 4 * 4 = nI ((y / 18) % 4) from pk_rem (d := 4) (by omega) (by decide) (by decide)) ?_
    refine hp_call1 (As := [.int (nI ((y / 2) % 3)), .int (nI ((y / 6) % 3)), .int (nI ((y / 18) % 4))]) (rest := []) hF hT cw_clear (wl_clear l hl0 dC dI cI cZ cO cJ o b v r n (nI ((y / 2) % 3)) (nI ((y / 6) % 3)) (nI ((y / 18) % 4)) hinv rfl) hH_0 rfl rfl hl.1 (Nat.le_of_ble_eq_true rfl) dL_act_284 ⟨(Nat.le_of_ble_eq_true rfl), (Nat.le_of_ble_eq_true rfl)⟩ (fun H_1 locs_1 hH_1 => ?_)
    rw [hp_act_ay hy hw, hp_ay_clear8 h1 h2 h3] at hret
    refine W.widen (k := 1) (n := 10) (Nat.le_of_ble_eq_true rfl) (Nat.le_of_ble_eq_true rfl) ?_
    exact hret 287 _ _ ls dL_act_287 hH_1
  · have h3 : y % 2 = 0 := (nI_eq (a := y % 2) (b := 0) (by omega) (by decide)).mp c9
    refine lv_aload_n hx hb dL_act_253 rfl (lv_at hl 4 rfl) ?_
    refine lv_iload hx hb dL_act_254 (lv_at hl 1 rfl) ?_
    refine lv_iload hx hb dL_act_256 (lv_at hl 0 rfl) ?_
    refine lv_iload hx hb dL_act_258 (lv_at hl 2 rfl) ?_
    refine hp_call1 (As := [.int (nI (y / 40 % 3)), .int (v 2 - nI (y / 120 % 5)), .int (nI w)]) (rest := []) hF hT cw_remove (wl_remove l hl0 dC dI cI cZ cO cJ o b v r n (nI (y / 40 % 3)) (v 2 - nI (y / 120 % 5)) (nI w) hinv rfl) hH_0 rfl rfl hl.1 (Nat.le_of_ble_eq_true rfl) dL_act_260 ⟨(Nat.le_of_ble_eq_true rfl), (Nat.le_of_ble_eq_true rfl)⟩ (fun H_1 locs_1 hH_1 => ?_)
    refine lv_goto (tgt := 287) hx hb dL_act_263 (by decide) ?_
    rw [hp_act_ay hy hw, hp_ay_remove h1 h2 h3] at hret
    refine W.widen (k := 1) (n := 10) (Nat.le_of_ble_eq_true rfl) (Nat.le_of_ble_eq_true rfl) ?_
    exact hret 287 _ _ ls dL_act_287 hH_1
set_option maxHeartbeats 1000000 in
set_option maxRecDepth 100000 in
theorem ac_288 {p : Program} {e : Env} {s : State} {m : MethodId} {args : Array Value} {below : List Frame} {meth : Method} {c : Code} {Q : State → Prop} {A : Nat → Prop} {dC : Nat → ClassId} {dI : Nat → Nat → Nat} {cI cZ cO cJ : ClassId} {o : Nat} {b : Nat → Nat} {v : Nat → Int32} {r : Nat → Nat → Int32} {n x y w : Nat} (l : Launch) (hl0 : l.stackTraces = false) (hx : p.tables.exec = Jvm.exec) (hb : c.code = cL_act) (hml : c.maxLocals = 10) (hown : s.vm.findClass RL = some m.cls) (hts : ∀ w ∈ wsL_act, w.before args s = true) (hT : hp_T (dC, dI) cI cZ cO cJ A s) (hinv : hp_inv v r n) (hy : x / 20 = y) (hyl : y < 2 ^ 30) (hw : hp_ao n y = w) (h1 : 9 ≤ x % 20) (h2 : x % 20 < 10)
    (hret : ∀ (pc : Nat) (H : Heap) (locs : List Loc) (ls : Array Slot), decode cL_act pc = .ok (.ireturn, 1) → hp_H1 (dC, dI) cI cZ cO A s o b ((hp_act v r n x).2.1) ((hp_act v r n x).2.2.1) ((hp_act v r n x).2.2.2) H locs → W p l e ({ frames := 8, cells := 1, slots := 10, locals := 182 } : Room) s m args below meth c H locs 1 10 Q (F0 m pc ls [.int (hp_act v r n x).1])) {H_0 : Heap} {locs_0 : List Loc} {ls : Array Slot} (hH_0 : hp_H1 (dC, dI) cI cZ cO A s o b v r n H_0 locs_0) (hl : lv_has ls 10 [(6, .int (v 2 - nI (y / 120 % 5))), (5, .int (nI (y / 40 % 3))), (4, .int (nI w)), (3, .int (nI y)), (0, .ref o), (1, .int (nI n)), (2, .int (nI x))]) :
    W p l e ({ frames := 8, cells := 1, slots := 10, locals := 182 } : Room) s m args below meth c H_0 locs_0 0 0 Q (F0 m 288 ls []) := by
  have hF : CallFix p m c cL_act 10 s args wsL_act RL := ⟨hx, hb, hml, hown, hts⟩
  have cw_clear := vx_cwSW (R := ({ frames := 8, cells := 1, slots := 10, locals := 182 } : Room)) (rm := ({ frames := 7, cells := 1, slots := 6, locals := 106 } : Room)) (mc := 1) (ms := 6) 4 hts gL_act_L_clear rfl rfl rfl (by decide +kernel) ⟨(Nat.le_of_ble_eq_true rfl), (Nat.le_of_ble_eq_true rfl)⟩
  refine lv_aload_n hx hb dL_act_288 rfl (lv_at hl 4 rfl) ?_
  refine lv_iload_n hx hb dL_act_289 rfl (lv_at hl 3 rfl) ?_
  refine lv_iconst (v := 3) hx hb dL_act_290 (by decide) ?_
  refine lv_irem hx hb dL_act_291 (by decide) ?_
  refine hp_top (show nI y - nI y / 3 * 3 = nI (y % 3) from pk_rem (d := 3) (by omega) (by decide) (by decide)) ?_
  refine lv_iload_n hx hb dL_act_292 rfl (lv_at hl 3 rfl) ?_
  refine lv_iconst (v := 3) hx hb dL_act_293 (by decide) ?_
  refine lv_idiv hx hb dL_act_294 (by decide) ?_
  refine hp_top (show nI y / 3 = nI (y / 3) from pk_div (d := 3) (by omega) (by decide) (by decide)) ?_
  refine lv_iconst (v := 3) hx hb dL_act_295 (by decide) ?_
  refine lv_irem hx hb dL_act_296 (by decide) ?_
  refine hp_top (show nI (y / 3) - nI (y / 3) / 3 * 3 = nI ((y / 3) % 3) from pk_rem (d := 3) (by omega) (by decide) (by decide)) ?_
  refine lv_iload_n hx hb dL_act_297 rfl (lv_at hl 3 rfl) ?_
  refine lv_bipush (v := 9) hx hb dL_act_298 (by decide) ?_
  refine lv_idiv hx hb dL_act_300 (by decide) ?_
  refine hp_top (show nI y / 9 = nI (y / 9) from pk_div (d := 9) (by omega) (by decide) (by decide)) ?_
  refine lv_iconst (v := 4) hx hb dL_act_301 (by decide) ?_
  refine lv_irem hx hb dL_act_302 (by decide) ?_
  refine hp_top (show nI (y / 9) - nI (y / 9) / 4 * 4 = nI ((y / 9) % 4) from pk_rem (d := 4) (by omega) (by decide) (by decide)) ?_
  refine hp_call1 (As := [.int (nI (y % 3)), .int (nI ((y / 3) % 3)), .int (nI ((y / 9) % 4))]) (rest := []) hF hT cw_clear (wl_clear l hl0 dC dI cI cZ cO cJ o b v r n (nI (y % 3)) (nI ((y / 3) % 3)) (nI ((y / 9) % 4)) hinv rfl) hH_0 rfl rfl hl.1 (Nat.le_of_ble_eq_true rfl) dL_act_303 ⟨(Nat.le_of_ble_eq_true rfl), (Nat.le_of_ble_eq_true rfl)⟩ (fun H_1 locs_1 hH_1 => ?_)
  rw [hp_act_ay hy hw, hp_ay_clear9 h1 h2] at hret
  refine W.widen (k := 1) (n := 10) (Nat.le_of_ble_eq_true rfl) (Nat.le_of_ble_eq_true rfl) ?_
  exact hret 306 _ _ ls dL_act_306 hH_1
set_option maxHeartbeats 1000000 in
set_option maxRecDepth 100000 in
theorem ac_307 {p : Program} {e : Env} {s : State} {m : MethodId} {args : Array Value} {below : List Frame} {meth : Method} {c : Code} {Q : State → Prop} {A : Nat → Prop} {dC : Nat → ClassId} {dI : Nat → Nat → Nat} {cI cZ cO cJ : ClassId} {o : Nat} {b : Nat → Nat} {v : Nat → Int32} {r : Nat → Nat → Int32} {n x y w : Nat} (l : Launch) (hl0 : l.stackTraces = false) (hx : p.tables.exec = Jvm.exec) (hb : c.code = cL_act) (hml : c.maxLocals = 10) (hown : s.vm.findClass RL = some m.cls) (hts : ∀ w ∈ wsL_act, w.before args s = true) (hT : hp_T (dC, dI) cI cZ cO cJ A s) (hinv : hp_inv v r n) (hy : x / 20 = y) (hyl : y < 2 ^ 30) (hw : hp_ao n y = w) (h1 : 10 ≤ x % 20) (h2 : x % 20 < 11)
    (hret : ∀ (pc : Nat) (H : Heap) (locs : List Loc) (ls : Array Slot), decode cL_act pc = .ok (.ireturn, 1) → hp_H1 (dC, dI) cI cZ cO A s o b ((hp_act v r n x).2.1) ((hp_act v r n x).2.2.1) ((hp_act v r n x).2.2.2) H locs → W p l e ({ frames := 8, cells := 1, slots := 10, locals := 182 } : Room) s m args below meth c H locs 1 10 Q (F0 m pc ls [.int (hp_act v r n x).1])) {H_0 : Heap} {locs_0 : List Loc} {ls : Array Slot} (hH_0 : hp_H1 (dC, dI) cI cZ cO A s o b v r n H_0 locs_0) (hl : lv_has ls 10 [(6, .int (v 2 - nI (y / 120 % 5))), (5, .int (nI (y / 40 % 3))), (4, .int (nI w)), (3, .int (nI y)), (0, .ref o), (1, .int (nI n)), (2, .int (nI x))]) :
    W p l e ({ frames := 8, cells := 1, slots := 10, locals := 182 } : Room) s m args below meth c H_0 locs_0 0 0 Q (F0 m 307 ls []) := by
  have hF : CallFix p m c cL_act 10 s args wsL_act RL := ⟨hx, hb, hml, hown, hts⟩
  have cw_lead := vx_cwSW (R := ({ frames := 8, cells := 1, slots := 10, locals := 182 } : Room)) (rm := ({ frames := 7, cells := 1, slots := 6, locals := 105 } : Room)) (mc := 1) (ms := 6) 3 hts gL_act_L_lead rfl rfl rfl (by decide +kernel) ⟨(Nat.le_of_ble_eq_true rfl), (Nat.le_of_ble_eq_true rfl)⟩
  have cw_part := vx_cwSW (R := ({ frames := 8, cells := 1, slots := 10, locals := 182 } : Room)) (rm := ({ frames := 7, cells := 1, slots := 6, locals := 105 } : Room)) (mc := 1) (ms := 6) 3 hts gL_act_L_part rfl rfl rfl (by decide +kernel) ⟨(Nat.le_of_ble_eq_true rfl), (Nat.le_of_ble_eq_true rfl)⟩
  refine lv_iload_n hx hb dL_act_307 rfl (lv_at hl 3 rfl) ?_
  refine lv_iconst (v := 2) hx hb dL_act_308 (by decide) ?_
  refine lv_irem hx hb dL_act_309 (by decide) ?_
  refine hp_top (show nI y - nI y / 2 * 2 = nI (y % 2) from pk_rem (d := 2) (by omega) (by decide) (by decide)) ?_
  refine lv_if_ne (tgt := 334) hx hb dL_act_310 (by decide) (fun c9 => ?_) (fun c9 => ?_)
  · have h3 : ¬ y % 2 = 0 := fun q => c9 (by rw [q]; rfl)
    refine lv_aload_n hx hb dL_act_334 rfl (lv_at hl 4 rfl) ?_
    refine lv_iload_n hx hb dL_act_335 rfl (lv_at hl 3 rfl) ?_
    refine lv_iconst (v := 2) hx hb dL_act_336 (by decide) ?_
    refine lv_idiv hx hb dL_act_337 (by decide) ?_
    refine hp_top (show nI y / 2 = nI (y / 2) from pk_div (d := 2) (by omega) (by decide) (by decide)) ?_
    refine lv_iconst (v := 3) hx hb dL_act_338 (by decide) ?_
    refine lv_irem hx hb dL_act_339 (by decide) ?_
    refine hp_top (show nI (y / 2) - nI (y / 2) / 3 * 3 = nI ((y / 2) % 3) from pk_rem (d := 3) (by omega) (by decide) (by decide)) ?_
    refine lv_iload_n hx hb dL_act_340 rfl (lv_at hl 3 rfl) ?_
    refine lv_bipush (v := 6) hx hb dL_act_341 (by decide) ?_
    refine lv_idiv hx hb dL_act_343 (by decide) ?_
    refine hp_top (show nI y / 6 = nI (y / 6) from pk_div (d := 6) (by omega) (by decide) (by decide)) ?_
    refine lv_bipush (v := 9) hx hb dL_act_344 (by decide) ?_
    refine lv_irem hx hb dL_act_346 (by decide) ?_
    refine hp_top (show nI (y / 6) - nI (y / 6) / 9 * 9 = nI ((y / 6) % 9) from pk_rem (d := 9) (by omega) (by decide) (by decide)) ?_
    refine hp_call1 (As := [.int (nI ((y / 2) % 3)), .int (nI ((y / 6) % 9))]) (rest := []) hF hT cw_lead (wl_lead l hl0 dC dI cI cZ cO cJ o b v r n (nI ((y / 2) % 3)) (nI ((y / 6) % 9)) hinv rfl) hH_0 rfl rfl hl.1 (Nat.le_of_ble_eq_true rfl) dL_act_347 ⟨(Nat.le_of_ble_eq_true rfl), (Nat.le_of_ble_eq_true rfl)⟩ (fun H_1 locs_1 hH_1 => ?_)
    rw [hp_act_ay hy hw, hp_ay_lead h1 h2 h3] at hret
    refine W.widen (k := 1) (n := 10) (Nat.le_of_ble_eq_true rfl) (Nat.le_of_ble_eq_true rfl) ?_
    exact hret 350 _ _ ls dL_act_350 hH_1
  · have h3 : y % 2 = 0 := (nI_eq (a := y % 2) (b := 0) (by omega) (by decide)).mp c9
    refine lv_aload_n hx hb dL_act_313 rfl (lv_at hl 4 rfl) ?_
    refine lv_iload_n hx hb dL_act_314 rfl (lv_at hl 3 rfl) ?_
    refine lv_iconst (v := 2) hx hb dL_act_315 (by decide) ?_
    refine lv_idiv hx hb dL_act_316 (by decide) ?_
    refine hp_top (show nI y / 2 = nI (y / 2) from pk_div (d := 2) (by omega) (by decide) (by decide)) ?_
    refine lv_iconst (v := 3) hx hb dL_act_317 (by decide) ?_
    refine lv_irem hx hb dL_act_318 (by decide) ?_
    refine hp_top (show nI (y / 2) - nI (y / 2) / 3 * 3 = nI ((y / 2) % 3) from pk_rem (d := 3) (by omega) (by decide) (by decide)) ?_
    refine lv_iconst (v := 1) hx hb dL_act_319 (by decide) ?_
    refine lv_iload_n hx hb dL_act_320 rfl (lv_at hl 3 rfl) ?_
    refine lv_bipush (v := 6) hx hb dL_act_321 (by decide) ?_
    refine lv_idiv hx hb dL_act_323 (by decide) ?_
    refine hp_top (show nI y / 6 = nI (y / 6) from pk_div (d := 6) (by omega) (by decide) (by decide)) ?_
    refine lv_bipush (v := 12) hx hb dL_act_324 (by decide) ?_
    refine lv_irem hx hb dL_act_326 (by decide) ?_
    refine hp_top (show nI (y / 6) - nI (y / 6) / 12 * 12 = nI ((y / 6) % 12) from pk_rem (d := 12) (by omega) (by decide) (by decide)) ?_
    refine lv_iadd hx hb dL_act_327 ?_
    refine hp_top (show (1 : Int32) + nI ((y / 6) % 12) = nI (1 + ((y / 6) % 12)) from nI_add 1 ((y / 6) % 12)) ?_
    refine hp_call1 (As := [.int (nI ((y / 2) % 3)), .int (nI (1 + ((y / 6) % 12)))]) (rest := []) hF hT cw_part (wl_part l hl0 dC dI cI cZ cO cJ o b v r n (nI ((y / 2) % 3)) (nI (1 + ((y / 6) % 12))) hinv rfl) hH_0 rfl rfl hl.1 (Nat.le_of_ble_eq_true rfl) dL_act_328 ⟨(Nat.le_of_ble_eq_true rfl), (Nat.le_of_ble_eq_true rfl)⟩ (fun H_1 locs_1 hH_1 => ?_)
    refine lv_goto (tgt := 350) hx hb dL_act_331 (by decide) ?_
    rw [hp_act_ay hy hw, hp_ay_part h1 h2 h3] at hret
    refine W.widen (k := 1) (n := 10) (Nat.le_of_ble_eq_true rfl) (Nat.le_of_ble_eq_true rfl) ?_
    exact hret 350 _ _ ls dL_act_350 hH_1
set_option maxHeartbeats 1000000 in
set_option maxRecDepth 100000 in
theorem ac_351 {p : Program} {e : Env} {s : State} {m : MethodId} {args : Array Value} {below : List Frame} {meth : Method} {c : Code} {Q : State → Prop} {A : Nat → Prop} {dC : Nat → ClassId} {dI : Nat → Nat → Nat} {cI cZ cO cJ : ClassId} {o : Nat} {b : Nat → Nat} {v : Nat → Int32} {r : Nat → Nat → Int32} {n x y w : Nat} (l : Launch) (hl0 : l.stackTraces = false) (hx : p.tables.exec = Jvm.exec) (hb : c.code = cL_act) (hml : c.maxLocals = 10) (hown : s.vm.findClass RL = some m.cls) (hts : ∀ w ∈ wsL_act, w.before args s = true) (hT : hp_T (dC, dI) cI cZ cO cJ A s) (hinv : hp_inv v r n) (hy : x / 20 = y) (hyl : y < 2 ^ 30) (hw : hp_ao n y = w) (h1 : 11 ≤ x % 20) (h2 : x % 20 < 14)
    (hret : ∀ (pc : Nat) (H : Heap) (locs : List Loc) (ls : Array Slot), decode cL_act pc = .ok (.ireturn, 1) → hp_H1 (dC, dI) cI cZ cO A s o b ((hp_act v r n x).2.1) ((hp_act v r n x).2.2.1) ((hp_act v r n x).2.2.2) H locs → W p l e ({ frames := 8, cells := 1, slots := 10, locals := 182 } : Room) s m args below meth c H locs 1 10 Q (F0 m pc ls [.int (hp_act v r n x).1])) {H_0 : Heap} {locs_0 : List Loc} {ls : Array Slot} (hH_0 : hp_H1 (dC, dI) cI cZ cO A s o b v r n H_0 locs_0) (hl : lv_has ls 10 [(6, .int (v 2 - nI (y / 120 % 5))), (5, .int (nI (y / 40 % 3))), (4, .int (nI w)), (3, .int (nI y)), (0, .ref o), (1, .int (nI n)), (2, .int (nI x))]) :
    W p l e ({ frames := 8, cells := 1, slots := 10, locals := 182 } : Room) s m args below meth c H_0 locs_0 0 0 Q (F0 m 351 ls []) := by
  have hF : CallFix p m c cL_act 10 s args wsL_act RL := ⟨hx, hb, hml, hown, hts⟩
  have cw_order := vx_cwSW (R := ({ frames := 8, cells := 1, slots := 10, locals := 182 } : Room)) (rm := ({ frames := 7, cells := 1, slots := 6, locals := 104 } : Room)) (mc := 1) (ms := 6) 2 hts gL_act_L_order rfl rfl rfl (by decide +kernel) ⟨(Nat.le_of_ble_eq_true rfl), (Nat.le_of_ble_eq_true rfl)⟩
  refine lv_aload_n hx hb dL_act_351 rfl (lv_at hl 4 rfl) ?_
  refine lv_iload hx hb dL_act_352 (lv_at hl 2 rfl) ?_
  refine hp_call1 (As := [.int (nI w)]) (rest := []) hF hT cw_order (wl_order l hl0 dC dI cI cZ cO cJ o b v r n (nI w) hinv rfl) hH_0 rfl rfl hl.1 (Nat.le_of_ble_eq_true rfl) dL_act_354 ⟨(Nat.le_of_ble_eq_true rfl), (Nat.le_of_ble_eq_true rfl)⟩ (fun H_1 locs_1 hH_1 => ?_)
  rw [hp_act_ay hy hw, hp_ay_order h1 h2] at hret
  refine W.widen (k := 1) (n := 10) (Nat.le_of_ble_eq_true rfl) (Nat.le_of_ble_eq_true rfl) ?_
  exact hret 357 _ _ ls dL_act_357 hH_1
set_option maxHeartbeats 1000000 in
set_option maxRecDepth 100000 in
theorem ac_358 {p : Program} {e : Env} {s : State} {m : MethodId} {args : Array Value} {below : List Frame} {meth : Method} {c : Code} {Q : State → Prop} {A : Nat → Prop} {dC : Nat → ClassId} {dI : Nat → Nat → Nat} {cI cZ cO cJ : ClassId} {o : Nat} {b : Nat → Nat} {v : Nat → Int32} {r : Nat → Nat → Int32} {n x y w : Nat} (l : Launch) (hl0 : l.stackTraces = false) (hx : p.tables.exec = Jvm.exec) (hb : c.code = cL_act) (hml : c.maxLocals = 10) (hown : s.vm.findClass RL = some m.cls) (hts : ∀ w ∈ wsL_act, w.before args s = true) (hT : hp_T (dC, dI) cI cZ cO cJ A s) (hinv : hp_inv v r n) (hy : x / 20 = y) (hyl : y < 2 ^ 30) (hw : hp_ao n y = w) (h1 : 14 ≤ x % 20) (h2 : x % 20 < 15)
    (hret : ∀ (pc : Nat) (H : Heap) (locs : List Loc) (ls : Array Slot), decode cL_act pc = .ok (.ireturn, 1) → hp_H1 (dC, dI) cI cZ cO A s o b ((hp_act v r n x).2.1) ((hp_act v r n x).2.2.1) ((hp_act v r n x).2.2.2) H locs → W p l e ({ frames := 8, cells := 1, slots := 10, locals := 182 } : Room) s m args below meth c H locs 1 10 Q (F0 m pc ls [.int (hp_act v r n x).1])) {H_0 : Heap} {locs_0 : List Loc} {ls : Array Slot} (hH_0 : hp_H1 (dC, dI) cI cZ cO A s o b v r n H_0 locs_0) (hl : lv_has ls 10 [(6, .int (v 2 - nI (y / 120 % 5))), (5, .int (nI (y / 40 % 3))), (4, .int (nI w)), (3, .int (nI y)), (0, .ref o), (1, .int (nI n)), (2, .int (nI x))]) :
    W p l e ({ frames := 8, cells := 1, slots := 10, locals := 182 } : Room) s m args below meth c H_0 locs_0 0 0 Q (F0 m 358 ls []) := by
  have hF : CallFix p m c cL_act 10 s args wsL_act RL := ⟨hx, hb, hml, hown, hts⟩
  have cw_cancel := vx_cwSW (R := ({ frames := 8, cells := 1, slots := 10, locals := 182 } : Room)) (rm := ({ frames := 7, cells := 1, slots := 6, locals := 104 } : Room)) (mc := 1) (ms := 6) 2 hts gL_act_L_cancel rfl rfl rfl (by decide +kernel) ⟨(Nat.le_of_ble_eq_true rfl), (Nat.le_of_ble_eq_true rfl)⟩
  have cw_order := vx_cwSW (R := ({ frames := 8, cells := 1, slots := 10, locals := 182 } : Room)) (rm := ({ frames := 7, cells := 1, slots := 6, locals := 104 } : Room)) (mc := 1) (ms := 6) 2 hts gL_act_L_order rfl rfl rfl (by decide +kernel) ⟨(Nat.le_of_ble_eq_true rfl), (Nat.le_of_ble_eq_true rfl)⟩
  refine lv_iload_n hx hb dL_act_358 rfl (lv_at hl 3 rfl) ?_
  refine lv_iconst (v := 3) hx hb dL_act_359 (by decide) ?_
  refine lv_irem hx hb dL_act_360 (by decide) ?_
  refine hp_top (show nI y - nI y / 3 * 3 = nI (y % 3) from pk_rem (d := 3) (by omega) (by decide) (by decide)) ?_
  refine lv_if_ne (tgt := 373) hx hb dL_act_361 (by decide) (fun c9 => ?_) (fun c9 => ?_)
  · have h3 : ¬ y % 3 = 0 := fun q => c9 (by rw [q]; rfl)
    refine lv_aload_n hx hb dL_act_373 rfl (lv_at hl 4 rfl) ?_
    refine lv_iload hx hb dL_act_374 (lv_at hl 2 rfl) ?_
    refine hp_call1 (As := [.int (nI w)]) (rest := []) hF hT cw_order (wl_order l hl0 dC dI cI cZ cO cJ o b v r n (nI w) hinv rfl) hH_0 rfl rfl hl.1 (Nat.le_of_ble_eq_true rfl) dL_act_376 ⟨(Nat.le_of_ble_eq_true rfl), (Nat.le_of_ble_eq_true rfl)⟩ (fun H_1 locs_1 hH_1 => ?_)
    rw [hp_act_ay hy hw, hp_ay_order14 h1 h2 h3] at hret
    refine W.widen (k := 1) (n := 10) (Nat.le_of_ble_eq_true rfl) (Nat.le_of_ble_eq_true rfl) ?_
    exact hret 379 _ _ ls dL_act_379 hH_1
  · have h3 : y % 3 = 0 := (nI_eq (a := y % 3) (b := 0) (by omega) (by decide)).mp c9
    refine lv_aload_n hx hb dL_act_364 rfl (lv_at hl 4 rfl) ?_
    refine lv_iload hx hb dL_act_365 (lv_at hl 2 rfl) ?_
    refine hp_call1 (As := [.int (nI w)]) (rest := []) hF hT cw_cancel (wl_cancel l hl0 dC dI cI cZ cO cJ o b v r n (nI w) hinv rfl) hH_0 rfl rfl hl.1 (Nat.le_of_ble_eq_true rfl) dL_act_367 ⟨(Nat.le_of_ble_eq_true rfl), (Nat.le_of_ble_eq_true rfl)⟩ (fun H_1 locs_1 hH_1 => ?_)
    refine lv_goto (tgt := 379) hx hb dL_act_370 (by decide) ?_
    rw [hp_act_ay hy hw, hp_ay_cancel h1 h2 h3] at hret
    refine W.widen (k := 1) (n := 10) (Nat.le_of_ble_eq_true rfl) (Nat.le_of_ble_eq_true rfl) ?_
    exact hret 379 _ _ ls dL_act_379 hH_1
set_option maxHeartbeats 1000000 in
set_option maxRecDepth 100000 in
theorem ac_380 {p : Program} {e : Env} {s : State} {m : MethodId} {args : Array Value} {below : List Frame} {meth : Method} {c : Code} {Q : State → Prop} {A : Nat → Prop} {dC : Nat → ClassId} {dI : Nat → Nat → Nat} {cI cZ cO cJ : ClassId} {o : Nat} {b : Nat → Nat} {v : Nat → Int32} {r : Nat → Nat → Int32} {n x y w : Nat} (l : Launch) (hl0 : l.stackTraces = false) (hx : p.tables.exec = Jvm.exec) (hb : c.code = cL_act) (hml : c.maxLocals = 10) (hown : s.vm.findClass RL = some m.cls) (hts : ∀ w ∈ wsL_act, w.before args s = true) (hT : hp_T (dC, dI) cI cZ cO cJ A s) (hinv : hp_inv v r n) (hy : x / 20 = y) (hyl : y < 2 ^ 30) (hw : hp_ao n y = w) (h1 : 15 ≤ x % 20) (h2 : x % 20 < 17)
    (hret : ∀ (pc : Nat) (H : Heap) (locs : List Loc) (ls : Array Slot), decode cL_act pc = .ok (.ireturn, 1) → hp_H1 (dC, dI) cI cZ cO A s o b ((hp_act v r n x).2.1) ((hp_act v r n x).2.2.1) ((hp_act v r n x).2.2.2) H locs → W p l e ({ frames := 8, cells := 1, slots := 10, locals := 182 } : Room) s m args below meth c H locs 1 10 Q (F0 m pc ls [.int (hp_act v r n x).1])) {H_0 : Heap} {locs_0 : List Loc} {ls : Array Slot} (hH_0 : hp_H1 (dC, dI) cI cZ cO A s o b v r n H_0 locs_0) (hl : lv_has ls 10 [(6, .int (v 2 - nI (y / 120 % 5))), (5, .int (nI (y / 40 % 3))), (4, .int (nI w)), (3, .int (nI y)), (0, .ref o), (1, .int (nI n)), (2, .int (nI x))]) :
    W p l e ({ frames := 8, cells := 1, slots := 10, locals := 182 } : Room) s m args below meth c H_0 locs_0 0 0 Q (F0 m 380 ls []) := by
  have hF : CallFix p m c cL_act 10 s args wsL_act RL := ⟨hx, hb, hml, hown, hts⟩
  have cw_build := vx_cwSW (R := ({ frames := 8, cells := 1, slots := 10, locals := 182 } : Room)) (rm := ({ frames := 7, cells := 1, slots := 6, locals := 137 } : Room)) (mc := 1) (ms := 6) 2 hts gL_act_L_build rfl rfl rfl (by decide +kernel) ⟨(Nat.le_of_ble_eq_true rfl), (Nat.le_of_ble_eq_true rfl)⟩
  refine lv_aload_n hx hb dL_act_380 rfl (lv_at hl 4 rfl) ?_
  refine lv_iload hx hb dL_act_381 (lv_at hl 2 rfl) ?_
  refine hp_call1 (As := [.int (nI w)]) (rest := []) hF hT cw_build (wl_build l hl0 dC dI cI cZ cO cJ o b v r n (nI w) hinv rfl) hH_0 rfl rfl hl.1 (Nat.le_of_ble_eq_true rfl) dL_act_383 ⟨(Nat.le_of_ble_eq_true rfl), (Nat.le_of_ble_eq_true rfl)⟩ (fun H_1 locs_1 hH_1 => ?_)
  rw [hp_act_ay hy hw, hp_ay_build h1 h2] at hret
  refine W.widen (k := 1) (n := 10) (Nat.le_of_ble_eq_true rfl) (Nat.le_of_ble_eq_true rfl) ?_
  exact hret 386 _ _ ls dL_act_386 hH_1
set_option maxHeartbeats 1000000 in
set_option maxRecDepth 100000 in
theorem ac_387 {p : Program} {e : Env} {s : State} {m : MethodId} {args : Array Value} {below : List Frame} {meth : Method} {c : Code} {Q : State → Prop} {A : Nat → Prop} {dC : Nat → ClassId} {dI : Nat → Nat → Nat} {cI cZ cO cJ : ClassId} {o : Nat} {b : Nat → Nat} {v : Nat → Int32} {r : Nat → Nat → Int32} {n x y w : Nat} (l : Launch) (hl0 : l.stackTraces = false) (hx : p.tables.exec = Jvm.exec) (hb : c.code = cL_act) (hml : c.maxLocals = 10) (hown : s.vm.findClass RL = some m.cls) (hts : ∀ w ∈ wsL_act, w.before args s = true) (hT : hp_T (dC, dI) cI cZ cO cJ A s) (hinv : hp_inv v r n) (hy : x / 20 = y) (hyl : y < 2 ^ 30) (hw : hp_ao n y = w) (h1 : 17 ≤ x % 20) (h2 : x % 20 < 18)
    (hret : ∀ (pc : Nat) (H : Heap) (locs : List Loc) (ls : Array Slot), decode cL_act pc = .ok (.ireturn, 1) → hp_H1 (dC, dI) cI cZ cO A s o b ((hp_act v r n x).2.1) ((hp_act v r n x).2.2.1) ((hp_act v r n x).2.2.2) H locs → W p l e ({ frames := 8, cells := 1, slots := 10, locals := 182 } : Room) s m args below meth c H locs 1 10 Q (F0 m pc ls [.int (hp_act v r n x).1])) {H_0 : Heap} {locs_0 : List Loc} {ls : Array Slot} (hH_0 : hp_H1 (dC, dI) cI cZ cO A s o b v r n H_0 locs_0) (hl : lv_has ls 10 [(6, .int (v 2 - nI (y / 120 % 5))), (5, .int (nI (y / 40 % 3))), (4, .int (nI w)), (3, .int (nI y)), (0, .ref o), (1, .int (nI n)), (2, .int (nI x))]) :
    W p l e ({ frames := 8, cells := 1, slots := 10, locals := 182 } : Room) s m args below meth c H_0 locs_0 0 0 Q (F0 m 387 ls []) := by
  have hF : CallFix p m c cL_act 10 s args wsL_act RL := ⟨hx, hb, hml, hown, hts⟩
  have cw_inspect := vx_cwSW (R := ({ frames := 8, cells := 1, slots := 10, locals := 182 } : Room)) (rm := ({ frames := 7, cells := 1, slots := 6, locals := 160 } : Room)) (mc := 1) (ms := 6) 2 hts gL_act_L_inspect rfl rfl rfl (by decide +kernel) ⟨(Nat.le_of_ble_eq_true rfl), (Nat.le_of_ble_eq_true rfl)⟩
  refine lv_aload_n hx hb dL_act_387 rfl (lv_at hl 4 rfl) ?_
  refine lv_iload_n hx hb dL_act_388 rfl (lv_at hl 3 rfl) ?_
  refine lv_iconst (v := 2) hx hb dL_act_389 (by decide) ?_
  refine lv_irem hx hb dL_act_390 (by decide) ?_
  refine hp_top (show nI y - nI y / 2 * 2 = nI (y % 2) from pk_rem (d := 2) (by omega) (by decide) (by decide)) ?_
  refine hp_call1 (As := [.int (nI (y % 2))]) (rest := []) hF hT cw_inspect (wl_inspect l hl0 dC dI cI cZ cO cJ o b v r n (nI (y % 2)) hinv rfl) hH_0 rfl rfl hl.1 (Nat.le_of_ble_eq_true rfl) dL_act_391 ⟨(Nat.le_of_ble_eq_true rfl), (Nat.le_of_ble_eq_true rfl)⟩ (fun H_1 locs_1 hH_1 => ?_)
  rw [hp_act_ay hy hw, hp_ay_inspect h1 h2] at hret
  refine W.widen (k := 1) (n := 10) (Nat.le_of_ble_eq_true rfl) (Nat.le_of_ble_eq_true rfl) ?_
  exact hret 394 _ _ ls dL_act_394 hH_1
set_option maxHeartbeats 1000000 in
set_option maxRecDepth 100000 in
theorem ac_395 {p : Program} {e : Env} {s : State} {m : MethodId} {args : Array Value} {below : List Frame} {meth : Method} {c : Code} {Q : State → Prop} {A : Nat → Prop} {dC : Nat → ClassId} {dI : Nat → Nat → Nat} {cI cZ cO cJ : ClassId} {o : Nat} {b : Nat → Nat} {v : Nat → Int32} {r : Nat → Nat → Int32} {n x y w : Nat} (l : Launch) (hl0 : l.stackTraces = false) (hx : p.tables.exec = Jvm.exec) (hb : c.code = cL_act) (hml : c.maxLocals = 10) (hown : s.vm.findClass RL = some m.cls) (hts : ∀ w ∈ wsL_act, w.before args s = true) (hT : hp_T (dC, dI) cI cZ cO cJ A s) (hinv : hp_inv v r n) (hy : x / 20 = y) (hyl : y < 2 ^ 30) (hw : hp_ao n y = w) (h1 : 18 ≤ x % 20) (h2 : x % 20 < 20)
    (hret : ∀ (pc : Nat) (H : Heap) (locs : List Loc) (ls : Array Slot), decode cL_act pc = .ok (.ireturn, 1) → hp_H1 (dC, dI) cI cZ cO A s o b ((hp_act v r n x).2.1) ((hp_act v r n x).2.2.1) ((hp_act v r n x).2.2.2) H locs → W p l e ({ frames := 8, cells := 1, slots := 10, locals := 182 } : Room) s m args below meth c H locs 1 10 Q (F0 m pc ls [.int (hp_act v r n x).1])) {H_0 : Heap} {locs_0 : List Loc} {ls : Array Slot} (hH_0 : hp_H1 (dC, dI) cI cZ cO A s o b v r n H_0 locs_0) (hl : lv_has ls 10 [(6, .int (v 2 - nI (y / 120 % 5))), (5, .int (nI (y / 40 % 3))), (4, .int (nI w)), (3, .int (nI y)), (0, .ref o), (1, .int (nI n)), (2, .int (nI x))]) :
    W p l e ({ frames := 8, cells := 1, slots := 10, locals := 182 } : Room) s m args below meth c H_0 locs_0 0 0 Q (F0 m 395 ls []) := by
  have hF : CallFix p m c cL_act 10 s args wsL_act RL := ⟨hx, hb, hml, hown, hts⟩
  have cw_pass := vx_cwSW (R := ({ frames := 8, cells := 1, slots := 10, locals := 182 } : Room)) (rm := ({ frames := 7, cells := 1, slots := 6, locals := 105 } : Room)) (mc := 1) (ms := 6) 2 hts gL_act_L_pass rfl rfl rfl (by decide +kernel) ⟨(Nat.le_of_ble_eq_true rfl), (Nat.le_of_ble_eq_true rfl)⟩
  refine lv_aload_n hx hb dL_act_395 rfl (lv_at hl 4 rfl) ?_
  refine lv_iconst (v := 1) hx hb dL_act_396 (by decide) ?_
  refine lv_iload_n hx hb dL_act_397 rfl (lv_at hl 3 rfl) ?_
  refine lv_bipush (v := 7) hx hb dL_act_398 (by decide) ?_
  refine lv_irem hx hb dL_act_400 (by decide) ?_
  refine hp_top (show nI y - nI y / 7 * 7 = nI (y % 7) from pk_rem (d := 7) (by omega) (by decide) (by decide)) ?_
  refine lv_iadd hx hb dL_act_401 ?_
  refine hp_top (show (1 : Int32) + nI (y % 7) = nI (1 + (y % 7)) from nI_add 1 (y % 7)) ?_
  refine hp_call1 (As := [.int (nI (1 + (y % 7)))]) (rest := []) hF hT cw_pass (wl_pass l hl0 dC dI cI cZ cO cJ o b v r n (nI (1 + (y % 7))) hinv rfl) hH_0 rfl rfl hl.1 (Nat.le_of_ble_eq_true rfl) dL_act_402 ⟨(Nat.le_of_ble_eq_true rfl), (Nat.le_of_ble_eq_true rfl)⟩ (fun H_1 locs_1 hH_1 => ?_)
  rw [hp_act_ay hy hw, hp_ay_pas h1 h2] at hret
  refine W.widen (k := 1) (n := 10) (Nat.le_of_ble_eq_true rfl) (Nat.le_of_ble_eq_true rfl) ?_
  exact hret 405 _ _ ls dL_act_405 hH_1
