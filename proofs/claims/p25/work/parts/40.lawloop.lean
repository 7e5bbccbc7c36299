/-! the law: its loop -/
set_option maxHeartbeats 1000000 in
set_option maxRecDepth 100000 in
theorem law_step {p : Program} {e : Env} {s : State} {m : MethodId} {below : List Frame} {meth : Method} {c : Code} (l : Launch) (hl0 : l.stackTraces = false) {b L : Nat} {xs : Nat → Int32} (hx : p.tables.exec = Jvm.exec) (hb : c.code = code) (hml : c.maxLocals = 9) (hown : s.vm.findClass RL = some m.cls) (hts : ∀ w ∈ wsL_law, w.before #[Value.ref b] s = true) (hX : va_X b L xs s s.heap) (hbl : b < s.heap.size) (hL : L ≤ 260) {dC : Nat → ClassId} {dI : Nat → Nat → Nat} {cI cZ cO cJ : ClassId} (hT : hp_T (dC, dI) cI cZ cO cJ (hp_A s) s) {o1 o2 : Nat} {b1 b2 : Nat → Nat} {Q : State → Prop} {t : Nat} (ht : t ≤ 60) {k : Nat} (hk : k < t)
    (ih : ∀ (H : Heap) (locs : List Loc) (ls : Array Slot) (v : Nat → Int32) (r : Nat → Nat → Int32) (n : Nat), hp_H2 (dC, dI) cI cZ cO (hp_A s) s o1 b1 v r n o2 b2 v r n H locs → hp_inv v r n → hp_ext (k + 1) v r n → lv_has ls 9 [(6, .int (nI (k + 1))), (5, .int 1), (4, .int (nI t)), (3, .int (nI n)), (0, .ref b), (1, .ref o1), (2, .ref o2)] → W p l e room_1 s m #[Value.ref b] below meth c H locs (20 + 200 * (k + 1) + 40300 * ((k + 1 + 4) / 5)) (200 + 1500 * (k + 1) + 241800 * ((k + 1 + 4) / 5)) Q (F0 m 37 ls []))
    {H_0 : Heap} {locs_0 : List Loc} {ls : Array Slot} {v : Nat → Int32} {r : Nat → Nat → Int32} {n : Nat} (hH_0 : hp_H2 (dC, dI) cI cZ cO (hp_A s) s o1 b1 v r n o2 b2 v r n H_0 locs_0) (hinv : hp_inv v r n) (hext : hp_ext k v r n) (hl : lv_has ls 9 [(6, .int (nI k)), (5, .int 1), (4, .int (nI t)), (3, .int (nI n)), (0, .ref b), (1, .ref o1), (2, .ref o2)]) : W p l e room_1 s m #[Value.ref b] below meth c H_0 locs_0 (20 + 200 * k + 40300 * ((k + 4) / 5)) (200 + 1500 * k + 241800 * ((k + 4) / 5)) Q (F0 m 37 ls []) := by
  have hF : CallFix p m c cL_law 9 s #[Value.ref b] wsL_law RL := ⟨hx, hb, hml, hown, hts⟩
  have hcl_148 := hts (.constant RL 148 (2000000000)) (by decide +kernel)
  have cw_refuses := va_cwS (R := room_1) (rm := ({ frames := 8, cells := 64, slots := 500, locals := 182 } : Room)) (mc := 64) (ms := 500) 3 hts gL_law_L_refuses rfl rfl rfl (by decide +kernel) ⟨(Nat.le_of_ble_eq_true rfl), (Nat.le_of_ble_eq_true rfl)⟩
  have cw_act := va_cwS (R := room_1) (rm := ({ frames := 8, cells := 1, slots := 10, locals := 182 } : Room)) (mc := 1) (ms := 10) 3 hts gL_law_L_act rfl rfl rfl (by decide +kernel) ⟨(Nat.le_of_ble_eq_true rfl), (Nat.le_of_ble_eq_true rfl)⟩
  have cw_isAlike := va_cwS (R := room_1) (rm := ({ frames := 8, cells := 64, slots := 400, locals := 182 } : Room)) (mc := 64) (ms := 400) 4 hts gL_law_L_isAlike rfl rfl rfl (by decide +kernel) ⟨(Nat.le_of_ble_eq_true rfl), (Nat.le_of_ble_eq_true rfl)⟩
  have cw_isWhole := va_cwS (R := room_1) (rm := ({ frames := 8, cells := 40300, slots := 241800, locals := 182 } : Room)) (mc := 40300) (ms := 241800) 2 hts gL_law_L_isWhole rfl rfl rfl (by decide +kernel) ⟨(Nat.le_of_ble_eq_true rfl), (Nat.le_of_ble_eq_true rfl)⟩
  have hn40 : n ≤ 40 := hinv.1
  obtain ⟨rv, hr1, hr2, -⟩ := id hext.1
  refine lv_iload hx hb dL_law_37 (lv_at hl 0 rfl) ?_
  refine lv_iload hx hb dL_law_39 (lv_at hl 2 rfl) ?_
  refine lv_icmp_ge (tgt := 228) hx hb dL_law_41 (by decide) (fun c9 => absurd c9 (nI_ge (a := k) (b := t) (by omega) (by omega))) (fun _ => ?_)
  refine lv_iload hx hb dL_law_44 (lv_at hl 1 rfl) ?_
  refine lv_if_eq (tgt := 228) hx hb dL_law_46 (by decide) (fun q9 => absurd q9 (by decide)) (fun _ => ?_)
  refine lv_aload_n hx hb dL_law_49 rfl (lv_at hl 4 rfl) ?_
  refine lv_iconst (v := 1) hx hb dL_law_50 (by decide) ?_
  refine lv_iload hx hb dL_law_51 (lv_at hl 0 rfl) ?_
  refine lv_iadd hx hb dL_law_53 ?_
  refine hp_top (show (1 : Int32) + nI k = nI (1 + k) from nI_add 1 k) ?_
  obtain ⟨hS_x, hkeep⟩ : va_S (hp_A s) s.heap H_0 locs_0 ∧ True := ⟨hH_0.2, trivial⟩
  refine vp_callSi (W.runS (As := [.ref b, .int (nI (1 + k))]) (rest := []) ⟨hx, hb, hml, hown, hts⟩ (c_L_drawn l b L xs (1 + k) (nI (1 + k)) rfl hL (by omega)) (va_cwS 2 hts gL_law_L_drawn rfl rfl rfl (by decide +kernel) ⟨(Nat.le_of_ble_eq_true rfl), (Nat.le_of_ble_eq_true rfl)⟩) ⟨hp_fbD, fun U hU hW => ⟨rfl, by show va_X b L xs U U.heap; rw [hU]; exact va_X.moved hW.alike (va_X.kept hX (hS_x.2.1 b hbl (Nat.not_le.mpr hbl)))⟩⟩ rfl rfl hl.1 rfl (lv_room (Nat.le_of_ble_eq_true rfl)) dL_law_54 ⟨(by show _ ≤ 651312; omega), (by show _ ≤ 7147833; omega)⟩) (fun r_z hr_z => ?_)
  obtain ⟨z, hz, rfl⟩ := hr_z
  clear hS_x hkeep
  refine lv_ldc hx hb hown hcl_148 dL_law_57 ?_
  refine lv_irem hx hb dL_law_59 (by decide) ?_
  refine hp_top (show nI z - nI z / 2000000000 * 2000000000 = nI (z % 2000000000) from pk_rem (d := 2000000000) (by omega) (by decide) (by decide)) ?_
  refine lv_istore (lv' := [(7, .int (nI (z % 2000000000))), (6, .int (nI k)), (5, .int 1), (4, .int (nI t)), (3, .int (nI n)), (0, .ref b), (1, .ref o1), (2, .ref o2)]) hx hb dL_law_60 hl (by decide) rfl (fun ls hl => ?_)
  obtain ⟨y, hy⟩ : ∃ y, z % 2000000000 = y := ⟨_, rfl⟩
  have hyl : y < 2000000000 := by omega
  rw [hy] at hl
  refine hp_joinB 102 9 (fun w : Nat => w < 2000000000) (fun w => [(7, .int (nI y)), (6, .int (nI k)), (5, .int 1), (4, .int (nI t)), (3, .int (nI n)), (0, .ref b), (1, .ref o1), (2, .ref o2)]) (fun w => [.int (nI w)]) (fun jn => ?_) ?_
  · refine lv_iload hx hb dL_law_62 (lv_at hl 1 rfl) ?_
    refine lv_iconst (v := 5) hx hb dL_law_64 (by decide) ?_
    refine lv_icmp_ge (tgt := 79) hx hb dL_law_65 (by decide) (fun c1 => ?_) (fun c1 => ?_)
    · refine lv_iload hx hb dL_law_79 (lv_at hl 1 rfl) ?_
      refine lv_bipush (v := 7) hx hb dL_law_81 (by decide) ?_
      refine lv_icmp_ge (tgt := 100) hx hb dL_law_83 (by decide) (fun c2 => ?_) (fun c2 => ?_)
      · skip
        refine lv_iload hx hb dL_law_100 (lv_at hl 0 rfl) ?_
        exact jn (y) (by omega) _ hl
      · skip
        refine lv_bipush (v := 20) hx hb dL_law_86 (by decide) ?_
        refine lv_iload hx hb dL_law_88 (lv_at hl 0 rfl) ?_
        refine lv_bipush (v := 20) hx hb dL_law_90 (by decide) ?_
        refine lv_idiv hx hb dL_law_92 (by decide) ?_
        refine hp_top (show nI y / 20 = nI (y / 20) from pk_div (d := 20) (by omega) (by decide) (by decide)) ?_
        refine lv_imul hx hb dL_law_93 ?_
        refine hp_top (show (20 : Int32) * nI (y / 20) = nI (20 * (y / 20)) from pk_mul 20 (y / 20)) ?_
        refine lv_bipush (v := 9) hx hb dL_law_94 (by decide) ?_
        refine lv_iadd hx hb dL_law_96 ?_
        refine hp_top (show nI (20 * (y / 20)) + (9 : Int32) = nI ((20 * (y / 20)) + 9) from nI_add (20 * (y / 20)) 9) ?_
        refine lv_goto (tgt := 102) hx hb dL_law_97 (by decide) ?_
        exact jn ((20 * (y / 20)) + 9) (by omega) _ hl
    · skip
      refine lv_bipush (v := 20) hx hb dL_law_68 (by decide) ?_
      refine lv_iload hx hb dL_law_70 (lv_at hl 0 rfl) ?_
      refine lv_bipush (v := 20) hx hb dL_law_72 (by decide) ?_
      refine lv_idiv hx hb dL_law_74 (by decide) ?_
      refine hp_top (show nI y / 20 = nI (y / 20) from pk_div (d := 20) (by omega) (by decide) (by decide)) ?_
      refine lv_imul hx hb dL_law_75 ?_
      refine hp_top (show (20 : Int32) * nI (y / 20) = nI (20 * (y / 20)) from pk_mul 20 (y / 20)) ?_
      refine lv_goto (tgt := 102) hx hb dL_law_76 (by decide) ?_
      exact jn (20 * (y / 20)) (by omega) _ hl
  intro w hwl ls hl
  refine lv_istore (lv' := [(7, .int (nI w)), (6, .int (nI k)), (5, .int 1), (4, .int (nI t)), (3, .int (nI n)), (0, .ref b), (1, .ref o1), (2, .ref o2)]) hx hb dL_law_102 hl (by decide) rfl (fun ls hl => ?_)
  refine lv_aload_n hx hb dL_law_104 rfl (lv_at hl 6 rfl) ?_
  refine lv_iload_n hx hb dL_law_105 rfl (lv_at hl 4 rfl) ?_
  refine lv_iload hx hb dL_law_106 (lv_at hl 0 rfl) ?_
  obtain ⟨hinv1, hext1⟩ := hp_act_x (x := w) hinv hext
  have hn1 := hp_act_n (x := w) hinv
  refine hp_callN2a (ans := (hp_act v r n w).1) (As := [.int (nI n), .int (nI w)]) (rest := []) hF hT cw_act (fun ad sz => c_L_act l hl0 dC dI cI cZ cO cJ o1 b1 ad v r n w sz hinv hwl) hH_0 rfl rfl hl.1 (Nat.le_of_ble_eq_true rfl) dL_law_108 ⟨(by show _ ≤ 651312; omega), (by show _ ≤ 7147833; omega)⟩ (fun H_a1 locs_a1 hH_a1 => ?_)
  clear hH_0
  refine lv_istore (lv' := [(8, .int ((hp_act v r n w).1)), (7, .int (nI w)), (6, .int (nI k)), (5, .int 1), (4, .int (nI t)), (3, .int (nI n)), (0, .ref b), (1, .ref o1), (2, .ref o2)]) hx hb dL_law_111 hl (by decide) rfl (fun ls hl => ?_)
  refine lv_aload_n hx hb dL_law_113 rfl (lv_at hl 8 rfl) ?_
  refine lv_iload_n hx hb dL_law_114 rfl (lv_at hl 5 rfl) ?_
  refine lv_iload hx hb dL_law_115 (lv_at hl 1 rfl) ?_
  refine lv_sipush (v := 9973) hx hb dL_law_117 (by decide) ?_
  refine lv_irem hx hb dL_law_120 (by decide) ?_
  refine hp_top (show nI w - nI w / 9973 * 9973 = nI (w % 9973) from pk_rem (d := 9973) (by omega) (by decide) (by decide)) ?_
  refine hp_callN2b (ans := 1) (As := [.int (nI n), .int (nI (w % 9973))]) (rest := []) hF hT cw_refuses (fun ad sz => c_L_refuses l hl0 dC dI cI cZ cO cJ o2 b2 ad v r n (w % 9973) sz hinv (by omega) ⟨rv, by omega, hr2⟩) hH_a1 rfl rfl hl.1 (Nat.le_of_ble_eq_true rfl) dL_law_121 ⟨(by show _ ≤ 651312; omega), (by show _ ≤ 7147833; omega)⟩ (fun H_a2 locs_a2 hH_a2 => ?_)
  clear hH_a1
  refine lv_if_eq (tgt := 143) hx hb dL_law_124 (by decide) (fun q9 => absurd q9 (by decide)) (fun _ => ?_)
  refine lv_aload_n hx hb dL_law_127 rfl (lv_at hl 8 rfl) ?_
  refine lv_iload_n hx hb dL_law_128 rfl (lv_at hl 5 rfl) ?_
  refine lv_iload hx hb dL_law_129 (lv_at hl 1 rfl) ?_
  refine hp_callN2b (ans := (hp_act v r n w).1) (As := [.int (nI n), .int (nI w)]) (rest := []) hF hT cw_act (fun ad sz => c_L_act l hl0 dC dI cI cZ cO cJ o2 b2 ad v r n w sz hinv hwl) hH_a2 rfl rfl hl.1 (Nat.le_of_ble_eq_true rfl) dL_law_131 ⟨(by show _ ≤ 651312; omega), (by show _ ≤ 7147833; omega)⟩ (fun H_a3 locs_a3 hH_a3 => ?_)
  clear hH_a2
  refine lv_iload hx hb dL_law_134 (lv_at hl 0 rfl) ?_
  refine lv_icmp_ne (tgt := 143) hx hb dL_law_136 (by decide) (fun q9 => absurd rfl q9) (fun _ => ?_)
  refine lv_iconst (v := 1) hx hb dL_law_139 (by decide) ?_
  refine lv_goto (tgt := 144) hx hb dL_law_140 (by decide) ?_
  refine lv_istore (lv' := [(5, .int 1), (8, .int ((hp_act v r n w).1)), (7, .int (nI w)), (6, .int (nI k)), (4, .int (nI t)), (3, .int (nI n)), (0, .ref b), (1, .ref o1), (2, .ref o2)]) hx hb dL_law_144 hl (by decide) rfl (fun ls hl => ?_)
  refine lv_iload_n hx hb dL_law_146 rfl (lv_at hl 5 rfl) ?_
  refine lv_iload hx hb dL_law_147 (lv_at hl 2 rfl) ?_
  refine lv_bipush (v := 20) hx hb dL_law_149 (by decide) ?_
  refine lv_irem hx hb dL_law_151 (by decide) ?_
  refine hp_top (show nI w - nI w / 20 * 20 = nI (w % 20) from pk_rem (d := 20) (by omega) (by decide) (by decide)) ?_
  refine lv_iconst (v := 4) hx hb dL_law_152 (by decide) ?_
  refine hp_joinB 166 9 (fun g : Int32 => nI n + g = nI (hp_act v r n w).2.2.2) (fun _ => [(5, .int 1), (8, .int ((hp_act v r n w).1)), (7, .int (nI w)), (6, .int (nI k)), (4, .int (nI t)), (3, .int (nI n)), (0, .ref b), (1, .ref o1), (2, .ref o2)]) (fun g => [.int g, .int (nI n)]) (fun jn => ?_) ?_
  · refine lv_icmp_ge (tgt := 165) hx hb dL_law_153 (by decide) (fun c1 => ?_) (fun c1 => ?_)
    · skip
      refine lv_iconst (v := 0) hx hb dL_law_165 (by decide) ?_
      exact jn 0 (by rw [hn1, if_neg (fun h9 => nI_ge (a := w % 20) (b := 4) h9.1 (by decide) c1), Int32.add_zero]) _ hl
    · skip
      refine lv_iload hx hb dL_law_156 (lv_at hl 1 rfl) ?_
      have c1n : w % 20 < 4 := by
        rcases Nat.lt_or_ge (w % 20) 4 with h9 | h9
        · exact h9
        · exact absurd (nI_le (a := 4) (b := w % 20) h9 (by omega)) c1
      refine lv_if_lt (tgt := 165) hx hb dL_law_158 (by decide) (fun c2 => ?_) (fun c2 => ?_)
      · skip
        refine lv_iconst (v := 0) hx hb dL_law_165 (by decide) ?_
        exact jn 0 (by rw [hn1, if_neg (fun h9 => hp_len h9.2 c2), Int32.add_zero]) _ hl
      · skip
        refine lv_iconst (v := 1) hx hb dL_law_161 (by decide) ?_
        refine lv_goto (tgt := 166) hx hb dL_law_162 (by decide) ?_
        exact jn 1 (by rw [hn1, if_pos ⟨c1n, hp_nlt c2⟩]; exact nI_add n 1) _ hl
  intro g h_g ls hl
  generalize hN : (hp_act v r n w).2.2.2 = n1 at *
  generalize hV : (hp_act v r n w).2.1 = v1 at *
  generalize hR : (hp_act v r n w).2.2.1 = r1 at *
  refine lv_iadd hx hb dL_law_166 ?_
  refine hp_top h_g ?_
  refine lv_istore_n (lv' := [(3, .int (nI n1)), (5, .int 1), (8, .int ((hp_act v r n w).1)), (7, .int (nI w)), (6, .int (nI k)), (4, .int (nI t)), (0, .ref b), (1, .ref o1), (2, .ref o2)]) hx hb dL_law_167 rfl hl (by decide) rfl (fun ls hl => ?_)
  refine lv_iload hx hb dL_law_168 (lv_at hl 1 rfl) ?_
  refine lv_if_eq (tgt := 219) hx hb dL_law_170 (by decide) (fun q9 => absurd q9 (by decide)) (fun _ => ?_)
  obtain ⟨rv1, hr3, hr4, -⟩ := id hext1.1
  refine lv_aload_n hx hb dL_law_173 rfl (lv_at hl 8 rfl) ?_
  refine lv_iload_n hx hb dL_law_174 rfl (lv_at hl 0 rfl) ?_
  refine lv_iload hx hb dL_law_175 (lv_at hl 3 rfl) ?_
  refine lv_sipush (v := 499) hx hb dL_law_177 (by decide) ?_
  refine lv_irem hx hb dL_law_180 (by decide) ?_
  refine hp_top (show nI w - nI w / 499 * 499 = nI (w % 499) from pk_rem (d := 499) (by omega) (by decide) (by decide)) ?_
  refine hp_callN2b (ans := 1) (As := [.int (nI n1), .int (nI (w % 499))]) (rest := []) hF hT cw_refuses (fun ad sz => c_L_refuses l hl0 dC dI cI cZ cO cJ o2 b2 ad v1 r1 n1 (w % 499) sz hinv1 (by omega) ⟨rv1, by omega, hr4⟩) hH_a3 rfl rfl hl.1 (Nat.le_of_ble_eq_true rfl) dL_law_181 ⟨(by show _ ≤ 651312; omega), (by show _ ≤ 7147833; omega)⟩ (fun H_a4 locs_a4 hH_a4 => ?_)
  clear hH_a3
  refine lv_if_eq (tgt := 219) hx hb dL_law_184 (by decide) (fun q9 => absurd q9 (by decide)) (fun _ => ?_)
  refine lv_aload_n hx hb dL_law_187 rfl (lv_at hl 7 rfl) ?_
  refine lv_aload_n hx hb dL_law_188 rfl (lv_at hl 8 rfl) ?_
  refine lv_iload_n hx hb dL_law_189 rfl (lv_at hl 0 rfl) ?_
  refine lv_iload hx hb dL_law_190 (lv_at hl 3 rfl) ?_
  refine lv_iconst (v := 3) hx hb dL_law_192 (by decide) ?_
  refine lv_idiv hx hb dL_law_193 (by decide) ?_
  refine hp_top (show nI w / 3 = nI (w / 3) from pk_div (d := 3) (by omega) (by decide) (by decide)) ?_
  refine hp_callAl (x := w / 3) (rest := []) hl0 hF hT cw_isAlike hinv1 (by omega) hH_a4 rfl rfl hl.1 (Nat.le_of_ble_eq_true rfl) dL_law_194 ⟨(by show _ ≤ 651312; omega), (by show _ ≤ 7147833; omega)⟩ (fun H_a5 locs_a5 hH_a5 => ?_)
  clear hH_a4
  refine lv_if_eq (tgt := 219) hx hb dL_law_197 (by decide) (fun q9 => absurd q9 (by decide)) (fun _ => ?_)
  refine lv_iload hx hb dL_law_200 (lv_at hl 4 rfl) ?_
  refine lv_iconst (v := 5) hx hb dL_law_202 (by decide) ?_
  refine lv_irem hx hb dL_law_203 (by decide) ?_
  refine hp_top (show nI k - nI k / 5 * 5 = nI (k % 5) from pk_rem (d := 5) (by omega) (by decide) (by decide)) ?_
  have tail : ∀ (H : Heap) (locs : List Loc), hp_H2 (dC, dI) cI cZ cO (hp_A s) s o1 b1 v1 r1 n1 o2 b2 v1 r1 n1 H locs → W p l e room_1 s m #[Value.ref b] below meth c H locs (20 + 200 * (k + 1) + 40300 * ((k + 1 + 4) / 5)) (200 + 1500 * (k + 1) + 241800 * ((k + 1 + 4) / 5)) Q (F0 m 215 ls []) := by
    intro H locs hH
    refine lv_iconst (v := 1) hx hb dL_law_215 (by decide) ?_
    refine lv_goto (tgt := 220) hx hb dL_law_216 (by decide) ?_
    refine lv_istore (lv' := [(5, .int 1), (3, .int (nI n1)), (8, .int ((hp_act v r n w).1)), (7, .int (nI w)), (6, .int (nI k)), (4, .int (nI t)), (0, .ref b), (1, .ref o1), (2, .ref o2)]) hx hb dL_law_220 hl (by decide) rfl (fun ls hl => ?_)
    refine lv_iinc (v := nI (k + 1)) (lv' := [(6, .int (nI (k + 1))), (5, .int 1), (3, .int (nI n1)), (8, .int ((hp_act v r n w).1)), (7, .int (nI w)), (4, .int (nI t)), (0, .ref b), (1, .ref o1), (2, .ref o2)]) hx hb dL_law_222 hl (k := 4) rfl (nI_add k 1) (by decide) rfl (fun ls hl => ?_)
    refine lv_goto (tgt := 37) hx hb dL_law_225 (by decide) ?_
    exact ih H locs ls v1 r1 n1 hH hinv1 hext1 (lv_sub hl [0, 1, 5, 2, 6, 7, 8] rfl)
  refine lv_if_gt (tgt := 215) hx hb dL_law_204 (by decide) (fun c3 => ?_) (fun c3 => ?_)
  · refine W.widen (k := 20 + 200 * (k + 1) + 40300 * ((k + 1 + 4) / 5)) (n := 200 + 1500 * (k + 1) + 241800 * ((k + 1 + 4) / 5)) (by omega) (by omega) ?_
    exact tail _ _ hH_a5
  · have hk5 : k % 5 = 0 := by
      rcases Nat.eq_zero_or_pos (k % 5) with h9 | h9
      · exact h9
      · exact absurd (nI_lt (a := 0) (b := k % 5) h9 (by omega)) c3
    refine lv_aload_n hx hb dL_law_207 rfl (lv_at hl 8 rfl) ?_
    refine lv_iload_n hx hb dL_law_208 rfl (lv_at hl 0 rfl) ?_
    refine hp_callN2b (ans := 1) (As := [.int (nI n1)]) (rest := []) hF hT cw_isWhole (fun ad sz => c_L_isWhole l hl0 dC dI cI cZ cO cJ o2 b2 ad v1 r1 n1 sz hinv1 hext1 (by omega)) hH_a5 rfl rfl hl.1 (Nat.le_of_ble_eq_true rfl) dL_law_209 ⟨(by show _ ≤ 651312; omega), (by show _ ≤ 7147833; omega)⟩ (fun H_a6 locs_a6 hH_a6 => ?_)
    clear hH_a5
    refine lv_if_eq (tgt := 219) hx hb dL_law_212 (by decide) (fun q9 => absurd q9 (by decide)) (fun _ => ?_)
    refine W.widen (k := 20 + 200 * (k + 1) + 40300 * ((k + 1 + 4) / 5)) (n := 200 + 1500 * (k + 1) + 241800 * ((k + 1 + 4) / 5)) (by omega) (by omega) ?_
    exact tail _ _ hH_a6
set_option maxHeartbeats 1000000 in
set_option maxRecDepth 100000 in
theorem law_end {p : Program} {e : Env} {s : State} {m : MethodId} {below : List Frame} {meth : Method} {c : Code} (l : Launch) (hl0 : l.stackTraces = false) {b L : Nat} {xs : Nat → Int32} (hx : p.tables.exec = Jvm.exec) (hb : c.code = code) (hml : c.maxLocals = 9) (hown : s.vm.findClass RL = some m.cls) (hts : ∀ w ∈ wsL_law, w.before #[Value.ref b] s = true) (hX : va_X b L xs s s.heap) (hbl : b < s.heap.size) (hL : L ≤ 260) {dC : Nat → ClassId} {dI : Nat → Nat → Nat} {cI cZ cO cJ : ClassId} (hT : hp_T (dC, dI) cI cZ cO cJ (hp_A s) s) {o1 o2 : Nat} {b1 b2 : Nat → Nat} {Q : State → Prop} {t : Nat} (ht : t ≤ 60)
    (kk : ∀ (H : Heap) (locs : List Loc) (ls : Array Slot), va_S (hp_A s) s.heap H locs → W p l e room_1 s m #[Value.ref b] below meth c H locs 651312 7147833 Q (F0 m 271 ls [.int 1]))
    {H_0 : Heap} {locs_0 : List Loc} {ls : Array Slot} {v : Nat → Int32} {r : Nat → Nat → Int32} {n : Nat} (hH_0 : hp_H2 (dC, dI) cI cZ cO (hp_A s) s o1 b1 v r n o2 b2 v r n H_0 locs_0) (hinv : hp_inv v r n) (hext : hp_ext t v r n) (hl : lv_has ls 9 [(6, .int (nI t)), (5, .int 1), (4, .int (nI t)), (3, .int (nI n)), (0, .ref b), (1, .ref o1), (2, .ref o2)]) : W p l e room_1 s m #[Value.ref b] below meth c H_0 locs_0 (20 + 200 * t + 40300 * ((t + 4) / 5)) (200 + 1500 * t + 241800 * ((t + 4) / 5)) Q (F0 m 228 ls []) := by
  have hF : CallFix p m c cL_law 9 s #[Value.ref b] wsL_law RL := ⟨hx, hb, hml, hown, hts⟩
  have hcl_148 := hts (.constant RL 148 (2000000000)) (by decide +kernel)
  have cw_isAlike := va_cwS (R := room_1) (rm := ({ frames := 8, cells := 64, slots := 400, locals := 182 } : Room)) (mc := 64) (ms := 400) 4 hts gL_law_L_isAlike rfl rfl rfl (by decide +kernel) ⟨(Nat.le_of_ble_eq_true rfl), (Nat.le_of_ble_eq_true rfl)⟩
  have cw_isWhole := va_cwS (R := room_1) (rm := ({ frames := 8, cells := 40300, slots := 241800, locals := 182 } : Room)) (mc := 40300) (ms := 241800) 2 hts gL_law_L_isWhole rfl rfl rfl (by decide +kernel) ⟨(Nat.le_of_ble_eq_true rfl), (Nat.le_of_ble_eq_true rfl)⟩
  refine lv_iload hx hb dL_law_228 (lv_at hl 1 rfl) ?_
  refine lv_if_eq (tgt := 270) hx hb dL_law_230 (by decide) (fun q9 => absurd q9 (by decide)) (fun _ => ?_)
  refine lv_aload_n hx hb dL_law_233 rfl (lv_at hl 5 rfl) ?_
  refine lv_iload_n hx hb dL_law_234 rfl (lv_at hl 3 rfl) ?_
  refine hp_callN2a (ans := 1) (As := [.int (nI n)]) (rest := []) hF hT cw_isWhole (fun ad sz => c_L_isWhole l hl0 dC dI cI cZ cO cJ o1 b1 ad v r n sz hinv hext (by omega)) hH_0 rfl rfl hl.1 (Nat.le_of_ble_eq_true rfl) dL_law_235 ⟨(by show _ ≤ 651312; omega), (by show _ ≤ 7147833; omega)⟩ (fun H_a1 locs_a1 hH_a1 => ?_)
  clear hH_0
  refine lv_if_eq (tgt := 270) hx hb dL_law_238 (by decide) (fun q9 => absurd q9 (by decide)) (fun _ => ?_)
  refine lv_aload_n hx hb dL_law_241 rfl (lv_at hl 6 rfl) ?_
  refine lv_iload_n hx hb dL_law_242 rfl (lv_at hl 3 rfl) ?_
  refine hp_callN2b (ans := 1) (As := [.int (nI n)]) (rest := []) hF hT cw_isWhole (fun ad sz => c_L_isWhole l hl0 dC dI cI cZ cO cJ o2 b2 ad v r n sz hinv hext (by omega)) hH_a1 rfl rfl hl.1 (Nat.le_of_ble_eq_true rfl) dL_law_243 ⟨(by show _ ≤ 651312; omega), (by show _ ≤ 7147833; omega)⟩ (fun H_a2 locs_a2 hH_a2 => ?_)
  clear hH_a1
  refine lv_if_eq (tgt := 270) hx hb dL_law_246 (by decide) (fun q9 => absurd q9 (by decide)) (fun _ => ?_)
  refine lv_aload_n hx hb dL_law_249 rfl (lv_at hl 5 rfl) ?_
  refine lv_aload_n hx hb dL_law_250 rfl (lv_at hl 6 rfl) ?_
  refine lv_iload_n hx hb dL_law_251 rfl (lv_at hl 3 rfl) ?_
  refine lv_aload_n hx hb dL_law_252 rfl (lv_at hl 4 rfl) ?_
  refine lv_iconst (v := 0) hx hb dL_law_253 (by decide) ?_
  obtain ⟨hS_x, hkeep⟩ : va_S (hp_A s) s.heap H_a2 locs_a2 ∧ True := ⟨hH_a2.2, trivial⟩
  refine vp_callSi (W.runS (As := [.ref b, .int 0]) (rest := [.int (nI n), .ref o2, .ref o1]) ⟨hx, hb, hml, hown, hts⟩ (c_L_drawn l b L xs (0) 0 rfl hL (by omega)) (va_cwS 2 hts gL_law_L_drawn rfl rfl rfl (by decide +kernel) ⟨(Nat.le_of_ble_eq_true rfl), (Nat.le_of_ble_eq_true rfl)⟩) ⟨hp_fbD, fun U hU hW => ⟨rfl, by show va_X b L xs U U.heap; rw [hU]; exact va_X.moved hW.alike (va_X.kept hX (hS_x.2.1 b hbl (Nat.not_le.mpr hbl)))⟩⟩ rfl rfl hl.1 rfl (lv_room (Nat.le_of_ble_eq_true rfl)) dL_law_254 ⟨(by show _ ≤ 651312; omega), (by show _ ≤ 7147833; omega)⟩) (fun r_z hr_z => ?_)
  obtain ⟨z, hz, rfl⟩ := hr_z
  clear hS_x hkeep
  refine lv_bipush (v := 37) hx hb dL_law_257 (by decide) ?_
  refine lv_idiv hx hb dL_law_259 (by decide) ?_
  refine hp_top (show nI z / 37 = nI (z / 37) from pk_div (d := 37) (by omega) (by decide) (by decide)) ?_
  refine hp_callAl (x := z / 37) (rest := []) hl0 hF hT cw_isAlike hinv (by omega) hH_a2 rfl rfl hl.1 (Nat.le_of_ble_eq_true rfl) dL_law_260 ⟨(by show _ ≤ 651312; omega), (by show _ ≤ 7147833; omega)⟩ (fun H_a3 locs_a3 hH_a3 => ?_)
  clear hH_a2
  refine lv_if_eq (tgt := 270) hx hb dL_law_263 (by decide) (fun q9 => absurd q9 (by decide)) (fun _ => ?_)
  refine lv_iconst (v := 1) hx hb dL_law_266 (by decide) ?_
  refine lv_goto (tgt := 271) hx hb dL_law_267 (by decide) ?_
  refine W.widen (k := 651312) (n := 7147833) (by omega) (by omega) ?_
  exact kk _ _ ls hH_a3.2
set_option maxHeartbeats 1000000 in
set_option maxRecDepth 100000 in
theorem law_loop {p : Program} {e : Env} {s : State} {m : MethodId} {below : List Frame} {meth : Method} {c : Code} (l : Launch) (hl0 : l.stackTraces = false) {b L : Nat} {xs : Nat → Int32} (hx : p.tables.exec = Jvm.exec) (hb : c.code = code) (hml : c.maxLocals = 9) (hown : s.vm.findClass RL = some m.cls) (hts : ∀ w ∈ wsL_law, w.before #[Value.ref b] s = true) (hX : va_X b L xs s s.heap) (hbl : b < s.heap.size) (hL : L ≤ 260) {dC : Nat → ClassId} {dI : Nat → Nat → Nat} {cI cZ cO cJ : ClassId} (hT : hp_T (dC, dI) cI cZ cO cJ (hp_A s) s) {o1 o2 : Nat} {b1 b2 : Nat → Nat} {Q : State → Prop} {t : Nat} (ht : t ≤ 60)
    (kk : ∀ (H : Heap) (locs : List Loc) (ls : Array Slot), va_S (hp_A s) s.heap H locs → W p l e room_1 s m #[Value.ref b] below meth c H locs 651312 7147833 Q (F0 m 271 ls [.int 1])) :
    ∀ (f k : Nat), k + f = t → ∀ (H_0 : Heap) (locs_0 : List Loc) (ls : Array Slot) (v : Nat → Int32) (r : Nat → Nat → Int32) (n : Nat), hp_H2 (dC, dI) cI cZ cO (hp_A s) s o1 b1 v r n o2 b2 v r n H_0 locs_0 → hp_inv v r n → hp_ext k v r n → lv_has ls 9 [(6, .int (nI k)), (5, .int 1), (4, .int (nI t)), (3, .int (nI n)), (0, .ref b), (1, .ref o1), (2, .ref o2)] → W p l e room_1 s m #[Value.ref b] below meth c H_0 locs_0 (20 + 200 * k + 40300 * ((k + 4) / 5)) (200 + 1500 * k + 241800 * ((k + 4) / 5)) Q (F0 m 37 ls []) := by
  intro f
  induction f with
  | zero =>
    intro k hk H_0 locs_0 ls v r n hH_0 hinv hext hl
    have hkn : k = t := by omega
    rw [hkn] at hl hext ⊢
    refine lv_iload hx hb dL_law_37 (lv_at hl 0 rfl) ?_
    refine lv_iload hx hb dL_law_39 (lv_at hl 2 rfl) ?_
    refine lv_icmp_ge (tgt := 228) hx hb dL_law_41 (by decide) (fun _ => ?_) (fun c9 => absurd (Int32.le_refl _) c9)
    exact law_end l hl0 hx hb hml hown hts hX hbl hL hT ht kk hH_0 hinv hext hl
  | succ f ih =>
    intro k hk H_0 locs_0 ls v r n hH_0 hinv hext hl
    exact law_step l hl0 hx hb hml hown hts hX hbl hL hT ht (by omega) (ih (k + 1) (by omega)) hH_0 hinv hext hl
