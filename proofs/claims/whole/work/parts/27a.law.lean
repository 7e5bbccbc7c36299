/-! the law, call by call -/
set_option maxHeartbeats 400000 in
set_option maxRecDepth 100000 in
theorem law_add {p : Program} {e : Env} {s : State} {m : MethodId} {below : List Frame} {meth : Method} {c : Code} (l : Launch) (hl0 : l.stackTraces = false) {b L : Nat} {xs : Nat → Int32} (hx : p.tables.exec = Jvm.exec) (hb : c.code = code) (hml : c.maxLocals = 7) (hown : s.vm.findClass RL = some m.cls) (hts : ∀ w ∈ wsL_law, w.before #[Value.ref b] s = true) (hX : va_X b L xs s s.heap) (hbl : b < s.heap.size) (hL : L ≤ 3584) {dC : Nat → ClassId} {dI : Nat → Nat → Nat} {cI cZ cO cJ : ClassId} (hK : va_K (dC, dI) vwCl (hp_ty cI cZ cO cJ) s) (hN : hp_ex s) (hstr : hp_str s) (hZu : hp_Zu (hp_A s) s s.heap) (hZn : hp_Zn (hp_A s) s s.heap) (hnc : hp_nc s) {ox om oq : Nat} {bx am : Nat → Nat} {Q : State → Prop} {j : Nat} (hj : 7 * j + 7 ≤ L)
    (ih : ∀ (H : Heap) (locs : List Loc) (ls : Array Slot) (ad : Nat → Nat) (g : Nat → Int64) (v : Nat → Int32) (r : Nat → Nat → Int32) (n : Nat) (t : Int32), hp_LI (dC, dI) cI cZ cO cJ (hp_A s) ox om oq bx am ad g v r n t H → va_S (hp_A s) s.heap H locs → lv_has ls 7 [(4, .int (nI (7 * (j + 1)))), (0, .ref b), (1, .ref ox), (2, .ref om), (3, .ref oq)] → W p l e room_1 s m #[Value.ref b] below meth c H locs (22 + (j + 1)) (505 + 10 * (j + 1)) Q (F0 m 23 ls []))
    {H : Heap} {locs : List Loc} {ls : Array Slot} {ad : Nat → Nat} {g : Nat → Int64} {v : Nat → Int32} {r : Nat → Nat → Int32} {n : Nat} {t : Int32} (hI : hp_LI (dC, dI) cI cZ cO cJ (hp_A s) ox om oq bx am ad g v r n t H) (hS : va_S (hp_A s) s.heap H locs) (hl : lv_has ls 7 [(4, .int (nI (7 * j))), (0, .ref b), (1, .ref ox), (2, .ref om), (3, .ref oq)]) : W p l e room_1 s m #[Value.ref b] below meth c H locs (22 + j) (505 + 10 * j) Q (F0 m 144 ls []) := by
  obtain ⟨hP, hD, hPM, hDM, hsep, hinv⟩ := hI
  have hA : ∀ q : Nat, s.heap.size ≤ q → hp_A s q := fun _ h => h
  have hbA : ¬ hp_A s b := Nat.not_le.mpr hbl
  have hb7 : 7 * j + 7 < 2 ^ 31 := by omega
  refine lv_aload_n hx hb dL_law_144 rfl (lv_at hl 2 rfl) ?_
  refine lv_aload_n hx hb dL_law_145 rfl (lv_at hl 1 rfl) ?_
  refine lv_iload hx hb dL_law_146 (lv_at hl 0 rfl) ?_
  refine lv_iconst (v := 1) hx hb dL_law_148 (by decide) ?_
  refine lv_iadd hx hb dL_law_149 ?_
  refine hp_top (show nI (7 * j) + 1 = nI (7 * j + 1) from nI_add _ _) ?_
  refine hp_sld hx hb hX hbl hbA hS (show 7 * j + 1 < L by omega) (by omega) dL_law_150 ?_
  refine lv_aload_n hx hb dL_law_151 rfl (lv_at hl 1 rfl) ?_
  refine lv_iload hx hb dL_law_152 (lv_at hl 0 rfl) ?_
  refine lv_iconst (v := 2) hx hb dL_law_154 (by decide) ?_
  refine lv_iadd hx hb dL_law_155 ?_
  refine hp_top (show nI (7 * j) + 2 = nI (7 * j + 2) from nI_add _ _) ?_
  refine hp_sld hx hb hX hbl hbA hS (show 7 * j + 2 < L by omega) (by omega) dL_law_156 ?_
  refine lv_aload_n hx hb dL_law_157 rfl (lv_at hl 1 rfl) ?_
  refine lv_iload hx hb dL_law_158 (lv_at hl 0 rfl) ?_
  refine lv_iconst (v := 3) hx hb dL_law_160 (by decide) ?_
  refine lv_iadd hx hb dL_law_161 ?_
  refine hp_top (show nI (7 * j) + 3 = nI (7 * j + 3) from nI_add _ _) ?_
  refine hp_sld hx hb hX hbl hbA hS (show 7 * j + 3 < L by omega) (by omega) dL_law_162 ?_
  refine lv_aload_n hx hb dL_law_163 rfl (lv_at hl 1 rfl) ?_
  refine lv_iload hx hb dL_law_164 (lv_at hl 0 rfl) ?_
  refine lv_iconst (v := 4) hx hb dL_law_166 (by decide) ?_
  refine lv_iadd hx hb dL_law_167 ?_
  refine hp_top (show nI (7 * j) + 4 = nI (7 * j + 4) from nI_add _ _) ?_
  refine hp_sld hx hb hX hbl hbA hS (show 7 * j + 4 < L by omega) (by omega) dL_law_168 ?_
  refine lv_aload_n hx hb dL_law_169 rfl (lv_at hl 1 rfl) ?_
  refine lv_iload hx hb dL_law_170 (lv_at hl 0 rfl) ?_
  refine lv_iconst (v := 5) hx hb dL_law_172 (by decide) ?_
  refine lv_iadd hx hb dL_law_173 ?_
  refine hp_top (show nI (7 * j) + 5 = nI (7 * j + 5) from nI_add _ _) ?_
  refine hp_sld hx hb hX hbl hbA hS (show 7 * j + 5 < L by omega) (by omega) dL_law_174 ?_
  refine lv_aload_n hx hb dL_law_175 rfl (lv_at hl 1 rfl) ?_
  refine lv_iload hx hb dL_law_176 (lv_at hl 0 rfl) ?_
  refine lv_bipush (v := 6) hx hb dL_law_178 (by decide) ?_
  refine lv_iadd hx hb dL_law_180 ?_
  refine hp_top (show nI (7 * j) + 6 = nI (7 * j + 6) from nI_add _ _) ?_
  refine hp_sld hx hb hX hbl hbA hS (show 7 * j + 6 < L by omega) (by omega) dL_law_181 ?_
  refine lv_aload_n hx hb dL_law_182 rfl (lv_at hl 4 rfl) ?_
  have hFc := hp_free hD hS hA
  refine vx_calli (vx_runSX (As := [.ref ox, .int (xs (7 * j + 1)), .int (xs (7 * j + 2)), .int (xs (7 * j + 3)), .int (xs (7 * j + 4)), .int (xs (7 * j + 5)), .int (xs (7 * j + 6)), .ref oq]) (rest := []) ⟨hx, hb, hml, hown, hts⟩ (c_L_add l hl0 dC dI cI cZ cO cJ ox bx ad v r n oq g H.size (xs (7 * j + 1)) (xs (7 * j + 2)) (xs (7 * j + 3)) (xs (7 * j + 4)) (xs (7 * j + 5)) (xs (7 * j + 6)) hinv) (vx_cwSW 8 hts gL_law_L_add rfl rfl rfl (by decide +kernel) ⟨(Nat.le_of_ble_eq_true rfl), (Nat.le_of_ble_eq_true rfl)⟩) ⟨hp_fbL, fun U hU hW => ⟨rfl, hp_toT hP hK hD hN hstr hZu hZn hS hA hU hW, hp_nc_mv hW.alike hnc⟩⟩ rfl rfl hl.1 rfl (lv_room (Nat.le_of_ble_eq_true rfl)) dL_law_183 ⟨show 22 + j + 1 ≤ 639101 by omega, show 505 + 10 * j + 10 ≤ 7178800 by omega⟩) hS (fun q _ h => hFc q h) hFc (fun q _ h => hFc q h) (fun _ _ _ _ _ _ _ _ _ hpx _ _ _ _ _ _ _ => False.elim hpx) (fun r9 u t9 H1 locs1 ht _ hw hB hsz1 hkk hS1 => ?_)
  obtain ⟨rfl, hans⟩ := hw
  obtain ⟨hPx, hDx⟩ := hB
  have hPM1 := hp_sepP hPM hsep hkk
  have hsep1 := hp_sepN hPM hsep hDx
  have hP1 := hp_th ht hPx
  have hD1 := hDx.weaken (fun k q _ h => hFc q.1 h)
  clear hP hD hPM hPx hDx hkk ht hFc hS
  refine lv_istore (lv' := [(5, .int (hp_c_add r n (xs (7 * j + 1)) (xs (7 * j + 2)) (xs (7 * j + 3)) (xs (7 * j + 4)) (xs (7 * j + 5)) (xs (7 * j + 6)))), (4, .int (nI (7 * j))), (0, .ref b), (1, .ref ox), (2, .ref om), (3, .ref oq)]) hx hb dL_law_186 hl (by decide) rfl (fun ls hl => ?_)
  refine lv_aload_n hx hb dL_law_188 rfl (lv_at hl 4 rfl) ?_
  refine lv_aload_n hx hb dL_law_189 rfl (lv_at hl 2 rfl) ?_
  refine lv_iload hx hb dL_law_190 (lv_at hl 1 rfl) ?_
  refine lv_iconst (v := 1) hx hb dL_law_192 (by decide) ?_
  refine lv_iadd hx hb dL_law_193 ?_
  refine hp_top (show nI (7 * j) + 1 = nI (7 * j + 1) from nI_add _ _) ?_
  refine hp_sld hx hb hX hbl hbA hS1 (show 7 * j + 1 < L by omega) (by omega) dL_law_194 ?_
  refine lv_aload_n hx hb dL_law_195 rfl (lv_at hl 2 rfl) ?_
  refine lv_iload hx hb dL_law_196 (lv_at hl 1 rfl) ?_
  refine lv_iconst (v := 2) hx hb dL_law_198 (by decide) ?_
  refine lv_iadd hx hb dL_law_199 ?_
  refine hp_top (show nI (7 * j) + 2 = nI (7 * j + 2) from nI_add _ _) ?_
  refine hp_sld hx hb hX hbl hbA hS1 (show 7 * j + 2 < L by omega) (by omega) dL_law_200 ?_
  refine lv_aload_n hx hb dL_law_201 rfl (lv_at hl 2 rfl) ?_
  refine lv_iload hx hb dL_law_202 (lv_at hl 1 rfl) ?_
  refine lv_iconst (v := 3) hx hb dL_law_204 (by decide) ?_
  refine lv_iadd hx hb dL_law_205 ?_
  refine hp_top (show nI (7 * j) + 3 = nI (7 * j + 3) from nI_add _ _) ?_
  refine hp_sld hx hb hX hbl hbA hS1 (show 7 * j + 3 < L by omega) (by omega) dL_law_206 ?_
  refine lv_aload_n hx hb dL_law_207 rfl (lv_at hl 2 rfl) ?_
  refine lv_iload hx hb dL_law_208 (lv_at hl 1 rfl) ?_
  refine lv_iconst (v := 4) hx hb dL_law_210 (by decide) ?_
  refine lv_iadd hx hb dL_law_211 ?_
  refine hp_top (show nI (7 * j) + 4 = nI (7 * j + 4) from nI_add _ _) ?_
  refine hp_sld hx hb hX hbl hbA hS1 (show 7 * j + 4 < L by omega) (by omega) dL_law_212 ?_
  refine lv_aload_n hx hb dL_law_213 rfl (lv_at hl 2 rfl) ?_
  refine lv_iload hx hb dL_law_214 (lv_at hl 1 rfl) ?_
  refine lv_iconst (v := 5) hx hb dL_law_216 (by decide) ?_
  refine lv_iadd hx hb dL_law_217 ?_
  refine hp_top (show nI (7 * j) + 5 = nI (7 * j + 5) from nI_add _ _) ?_
  refine hp_sld hx hb hX hbl hbA hS1 (show 7 * j + 5 < L by omega) (by omega) dL_law_218 ?_
  refine lv_aload_n hx hb dL_law_219 rfl (lv_at hl 2 rfl) ?_
  refine lv_iload hx hb dL_law_220 (lv_at hl 1 rfl) ?_
  refine lv_bipush (v := 6) hx hb dL_law_222 (by decide) ?_
  refine lv_iadd hx hb dL_law_224 ?_
  refine hp_top (show nI (7 * j) + 6 = nI (7 * j + 6) from nI_add _ _) ?_
  refine hp_sld hx hb hX hbl hbA hS1 (show 7 * j + 6 < L by omega) (by omega) dL_law_225 ?_
  have hFm := hp_free (hDM (va_up v 0 t) r n) hS1 hA
  refine va_calli (va_runV (As := [.int (xs (7 * j + 1)), .int (xs (7 * j + 2)), .int (xs (7 * j + 3)), .int (xs (7 * j + 4)), .int (xs (7 * j + 5)), .int (xs (7 * j + 6))]) (rest := []) ⟨hx, hb, hml, hown, hts⟩ (c_X2_add l dC dI cI cZ cO cJ om am (va_up v 0 t) r n H1.size (xs (7 * j + 1)) (xs (7 * j + 2)) (xs (7 * j + 3)) (xs (7 * j + 4)) (xs (7 * j + 5)) (xs (7 * j + 6)) (hp_inv_up t hinv)) (cwV 6 hts gL_law_X2_add rfl rfl rfl (by decide +kernel) ⟨(Nat.le_of_ble_eq_true rfl), (Nat.le_of_ble_eq_true rfl)⟩) ⟨hp_mfb, va_recv hK hPM1 (ci := 2) (q0 := 0) rfl hp_M_o, fun U hU hW => ⟨rfl, hp_mto hPM1 hK (hDM _ _ _) hU hW⟩⟩ rfl rfl hl.1 rfl (lv_room (Nat.le_of_ble_eq_true rfl)) dL_law_226 ⟨show 22 + j + 1 + 0 ≤ 639101 by omega, show 505 + 10 * j + 10 + 0 ≤ 7178800 by omega⟩) hS1 (fun q _ h => hFm q h) hFm (fun r9 u9 t9 H2 locs2 ht _ hw hB _ hkk hS2 => ?_)
  have hPM2 : va_P (dC, dI) vwCl (hp_M cI cZ om am (va_up (hp_v_add v r n (xs (7 * j + 1)) (xs (7 * j + 2)) (xs (7 * j + 3)) (xs (7 * j + 4)) (xs (7 * j + 5)) (xs (7 * j + 6))) 0 (hp_c_add r n (xs (7 * j + 1)) (xs (7 * j + 2)) (xs (7 * j + 3)) (xs (7 * j + 4)) (xs (7 * j + 5)) (xs (7 * j + 6)))) (hp_r_add v r n (xs (7 * j + 1)) (xs (7 * j + 2)) (xs (7 * j + 3)) (xs (7 * j + 4)) (xs (7 * j + 5)) (xs (7 * j + 6))) (hp_n_add r n (xs (7 * j + 1)) (xs (7 * j + 2)) (xs (7 * j + 3)) (xs (7 * j + 4)) (xs (7 * j + 5)) (xs (7 * j + 6)))) H2 := hp_cP (by exact congrArg (fun z => hp_M cI cZ om am z (hp_r_add v r n (xs (7 * j + 1)) (xs (7 * j + 2)) (xs (7 * j + 3)) (xs (7 * j + 4)) (xs (7 * j + 5)) (xs (7 * j + 6))) (hp_n_add r n (xs (7 * j + 1)) (xs (7 * j + 2)) (xs (7 * j + 3)) (xs (7 * j + 4)) (xs (7 * j + 5)) (xs (7 * j + 6)))) hp_vu_add) (hp_th ht hB)
  have hP2 := hp_sepP hP1 (hp_sep_sym hsep1) hkk
  obtain rfl : r9 = hp_a_add r n (xs (7 * j + 1)) (xs (7 * j + 2)) (xs (7 * j + 3)) (xs (7 * j + 4)) (xs (7 * j + 5)) (xs (7 * j + 6)) := hw
  clear hPM1 hP1 hB hkk ht hFm hS1
  refine lv_istore (lv' := [(6, .int (hp_a_add r n (xs (7 * j + 1)) (xs (7 * j + 2)) (xs (7 * j + 3)) (xs (7 * j + 4)) (xs (7 * j + 5)) (xs (7 * j + 6)))), (5, .int (hp_c_add r n (xs (7 * j + 1)) (xs (7 * j + 2)) (xs (7 * j + 3)) (xs (7 * j + 4)) (xs (7 * j + 5)) (xs (7 * j + 6)))), (4, .int (nI (7 * j))), (0, .ref b), (1, .ref ox), (2, .ref om), (3, .ref oq)]) hx hb dL_law_229 hl (by decide) rfl (fun ls hl => ?_)
  refine lv_aload_n hx hb dL_law_231 rfl (lv_at hl 5 rfl) ?_
  refine vp_callSi (W.runV (As := []) (rest := []) ⟨hx, hb, hml, hown, hts⟩ (c_X2_thrown l dC dI cI cZ cO cJ om am (va_up (hp_v_add v r n (xs (7 * j + 1)) (xs (7 * j + 2)) (xs (7 * j + 3)) (xs (7 * j + 4)) (xs (7 * j + 5)) (xs (7 * j + 6))) 0 (hp_c_add r n (xs (7 * j + 1)) (xs (7 * j + 2)) (xs (7 * j + 3)) (xs (7 * j + 4)) (xs (7 * j + 5)) (xs (7 * j + 6)))) (hp_r_add v r n (xs (7 * j + 1)) (xs (7 * j + 2)) (xs (7 * j + 3)) (xs (7 * j + 4)) (xs (7 * j + 5)) (xs (7 * j + 6))) (hp_n_add r n (xs (7 * j + 1)) (xs (7 * j + 2)) (xs (7 * j + 3)) (xs (7 * j + 4)) (xs (7 * j + 5)) (xs (7 * j + 6)))) (cwV 0 hts gL_law_X2_thrown rfl rfl rfl (by decide +kernel) ⟨(Nat.le_of_ble_eq_true rfl), (Nat.le_of_ble_eq_true rfl)⟩) ⟨hp_fb, va_recv hK hPM2 (ci := 2) (q0 := 0) rfl hp_M_o, fun U hU hW => ⟨rfl, hp_to hPM2 hK hU hW⟩⟩ rfl rfl hl.1 rfl (lv_room (Nat.le_of_ble_eq_true rfl)) dL_law_232 ⟨show 22 + j + 1 + 0 + 0 ≤ 639101 by omega, show 505 + 10 * j + 10 + 0 + 0 ≤ 7178800 by omega⟩) (fun r_1 hr_1 => ?_)
  subst hr_1
  refine hp_top (va_up_self _ _ _) ?_
  refine lv_iload hx hb dL_law_235 (lv_at hl 1 rfl) ?_
  refine lv_icmp_eq (tgt := 242) hx hb dL_law_237 (by decide) (fun _ => ?_) (fun c9 => absurd rfl c9)
  refine lv_iload hx hb dL_law_242 (lv_at hl 1 rfl) ?_
  have hend : ∀ ls : Array Slot, lv_has ls 7 [(6, .int (hp_a_add r n (xs (7 * j + 1)) (xs (7 * j + 2)) (xs (7 * j + 3)) (xs (7 * j + 4)) (xs (7 * j + 5)) (xs (7 * j + 6)))), (5, .int (hp_c_add r n (xs (7 * j + 1)) (xs (7 * j + 2)) (xs (7 * j + 3)) (xs (7 * j + 4)) (xs (7 * j + 5)) (xs (7 * j + 6)))), (4, .int (nI (7 * j))), (0, .ref b), (1, .ref ox), (2, .ref om), (3, .ref oq)] → W p l e room_1 s m #[Value.ref b] below meth c H2 locs2 (22 + j + 1 + 0) (505 + 10 * j + 10 + 0) Q (F0 m 259 ls []) := by
    intro ls hl
    refine lv_goto (tgt := 1581) hx hb dL_law_259 (by decide) ?_
    refine lv_iinc (v := nI (7 * (j + 1))) (lv' := [(4, .int (nI (7 * (j + 1)))), (6, .int (hp_a_add r n (xs (7 * j + 1)) (xs (7 * j + 2)) (xs (7 * j + 3)) (xs (7 * j + 4)) (xs (7 * j + 5)) (xs (7 * j + 6)))), (5, .int (hp_c_add r n (xs (7 * j + 1)) (xs (7 * j + 2)) (xs (7 * j + 3)) (xs (7 * j + 4)) (xs (7 * j + 5)) (xs (7 * j + 6)))), (0, .ref b), (1, .ref ox), (2, .ref om), (3, .ref oq)]) hx hb dL_law_1581 hl (k := 2) rfl (hp_i7 j) (by decide) rfl (fun ls hl => ?_)
    refine lv_goto (tgt := 23) hx hb dL_law_1584 (by decide) ?_
    refine W.widen (k := 22 + (j + 1)) (n := 505 + 10 * (j + 1)) (by omega) (by omega) ?_
    exact ih H2 _ ls u.1 u.2 (hp_v_add v r n (xs (7 * j + 1)) (xs (7 * j + 2)) (xs (7 * j + 3)) (xs (7 * j + 4)) (xs (7 * j + 5)) (xs (7 * j + 6))) (hp_r_add v r n (xs (7 * j + 1)) (xs (7 * j + 2)) (xs (7 * j + 3)) (xs (7 * j + 4)) (xs (7 * j + 5)) (xs (7 * j + 6))) (hp_n_add r n (xs (7 * j + 1)) (xs (7 * j + 2)) (xs (7 * j + 3)) (xs (7 * j + 4)) (xs (7 * j + 5)) (xs (7 * j + 6))) (hp_c_add r n (xs (7 * j + 1)) (xs (7 * j + 2)) (xs (7 * j + 3)) (xs (7 * j + 4)) (xs (7 * j + 5)) (xs (7 * j + 6))) ⟨hP2, hD1, hPM2, hDM, hp_sepM hsep1, hp_i_add hinv (xs (7 * j + 1)) (xs (7 * j + 2)) (xs (7 * j + 3)) (xs (7 * j + 4)) (xs (7 * j + 5)) (xs (7 * j + 6))⟩ hS2 (lv_sub hl [0, 3, 4, 5, 6] rfl)
  refine lv_if_ne (tgt := 259) hx hb dL_law_244 (by decide) (fun _ => hend ls hl) (fun c0 => ?_)
  have ha := hans c0
  refine lv_aload_n hx hb dL_law_247 rfl (lv_at hl 6 rfl) ?_
  refine lv_iconst (v := 0) hx hb dL_law_248 (by decide) ?_
  refine va_lald (f := u.2) hx hb hK hP2 0 3 rfl rfl (i := 0) (by unfold vp_in; decide) dL_law_249 ?_
  refine hp_topl (y := (hp_a_add r n (xs (7 * j + 1)) (xs (7 * j + 2)) (xs (7 * j + 3)) (xs (7 * j + 4)) (xs (7 * j + 5)) (xs (7 * j + 6))).toInt64) (by rw [sb_cl0]; exact ha) ?_
  refine lv_iload hx hb dL_law_250 (lv_at hl 0 rfl) ?_
  refine lv_i2l hx hb dL_law_252 rfl ?_
  refine hp_lcmp hx hb dL_law_253 (rfl) ?_
  refine lv_if_eq (tgt := 259) hx hb dL_law_254 (by decide) (fun _ => hend ls hl) (fun c9 => absurd rfl c9)
set_option maxHeartbeats 400000 in
set_option maxRecDepth 100000 in
theorem law_move {p : Program} {e : Env} {s : State} {m : MethodId} {below : List Frame} {meth : Method} {c : Code} (l : Launch) (hl0 : l.stackTraces = false) {b L : Nat} {xs : Nat → Int32} (hx : p.tables.exec = Jvm.exec) (hb : c.code = code) (hml : c.maxLocals = 7) (hown : s.vm.findClass RL = some m.cls) (hts : ∀ w ∈ wsL_law, w.before #[Value.ref b] s = true) (hX : va_X b L xs s s.heap) (hbl : b < s.heap.size) (hL : L ≤ 3584) {dC : Nat → ClassId} {dI : Nat → Nat → Nat} {cI cZ cO cJ : ClassId} (hK : va_K (dC, dI) vwCl (hp_ty cI cZ cO cJ) s) (hN : hp_ex s) (hstr : hp_str s) (hZu : hp_Zu (hp_A s) s s.heap) (hZn : hp_Zn (hp_A s) s s.heap) (hnc : hp_nc s) {ox om oq : Nat} {bx am : Nat → Nat} {Q : State → Prop} {j : Nat} (hj : 7 * j + 7 ≤ L)
    (ih : ∀ (H : Heap) (locs : List Loc) (ls : Array Slot) (ad : Nat → Nat) (g : Nat → Int64) (v : Nat → Int32) (r : Nat → Nat → Int32) (n : Nat) (t : Int32), hp_LI (dC, dI) cI cZ cO cJ (hp_A s) ox om oq bx am ad g v r n t H → va_S (hp_A s) s.heap H locs → lv_has ls 7 [(4, .int (nI (7 * (j + 1)))), (0, .ref b), (1, .ref ox), (2, .ref om), (3, .ref oq)] → W p l e room_1 s m #[Value.ref b] below meth c H locs (22 + (j + 1)) (505 + 10 * (j + 1)) Q (F0 m 23 ls []))
    {H : Heap} {locs : List Loc} {ls : Array Slot} {ad : Nat → Nat} {g : Nat → Int64} {v : Nat → Int32} {r : Nat → Nat → Int32} {n : Nat} {t : Int32} (hI : hp_LI (dC, dI) cI cZ cO cJ (hp_A s) ox om oq bx am ad g v r n t H) (hS : va_S (hp_A s) s.heap H locs) (hl : lv_has ls 7 [(4, .int (nI (7 * j))), (0, .ref b), (1, .ref ox), (2, .ref om), (3, .ref oq)]) : W p l e room_1 s m #[Value.ref b] below meth c H locs (22 + j) (505 + 10 * j) Q (F0 m 262 ls []) := by
  obtain ⟨hP, hD, hPM, hDM, hsep, hinv⟩ := hI
  have hA : ∀ q : Nat, s.heap.size ≤ q → hp_A s q := fun _ h => h
  have hbA : ¬ hp_A s b := Nat.not_le.mpr hbl
  have hb7 : 7 * j + 7 < 2 ^ 31 := by omega
  refine lv_aload_n hx hb dL_law_262 rfl (lv_at hl 2 rfl) ?_
  refine lv_aload_n hx hb dL_law_263 rfl (lv_at hl 1 rfl) ?_
  refine lv_iload hx hb dL_law_264 (lv_at hl 0 rfl) ?_
  refine lv_iconst (v := 1) hx hb dL_law_266 (by decide) ?_
  refine lv_iadd hx hb dL_law_267 ?_
  refine hp_top (show nI (7 * j) + 1 = nI (7 * j + 1) from nI_add _ _) ?_
  refine hp_sld hx hb hX hbl hbA hS (show 7 * j + 1 < L by omega) (by omega) dL_law_268 ?_
  refine lv_aload_n hx hb dL_law_269 rfl (lv_at hl 1 rfl) ?_
  refine lv_iload hx hb dL_law_270 (lv_at hl 0 rfl) ?_
  refine lv_iconst (v := 2) hx hb dL_law_272 (by decide) ?_
  refine lv_iadd hx hb dL_law_273 ?_
  refine hp_top (show nI (7 * j) + 2 = nI (7 * j + 2) from nI_add _ _) ?_
  refine hp_sld hx hb hX hbl hbA hS (show 7 * j + 2 < L by omega) (by omega) dL_law_274 ?_
  refine lv_aload_n hx hb dL_law_275 rfl (lv_at hl 1 rfl) ?_
  refine lv_iload hx hb dL_law_276 (lv_at hl 0 rfl) ?_
  refine lv_iconst (v := 3) hx hb dL_law_278 (by decide) ?_
  refine lv_iadd hx hb dL_law_279 ?_
  refine hp_top (show nI (7 * j) + 3 = nI (7 * j + 3) from nI_add _ _) ?_
  refine hp_sld hx hb hX hbl hbA hS (show 7 * j + 3 < L by omega) (by omega) dL_law_280 ?_
  refine lv_aload_n hx hb dL_law_281 rfl (lv_at hl 1 rfl) ?_
  refine lv_iload hx hb dL_law_282 (lv_at hl 0 rfl) ?_
  refine lv_iconst (v := 4) hx hb dL_law_284 (by decide) ?_
  refine lv_iadd hx hb dL_law_285 ?_
  refine hp_top (show nI (7 * j) + 4 = nI (7 * j + 4) from nI_add _ _) ?_
  refine hp_sld hx hb hX hbl hbA hS (show 7 * j + 4 < L by omega) (by omega) dL_law_286 ?_
  refine lv_aload_n hx hb dL_law_287 rfl (lv_at hl 1 rfl) ?_
  refine lv_iload hx hb dL_law_288 (lv_at hl 0 rfl) ?_
  refine lv_iconst (v := 5) hx hb dL_law_290 (by decide) ?_
  refine lv_iadd hx hb dL_law_291 ?_
  refine hp_top (show nI (7 * j) + 5 = nI (7 * j + 5) from nI_add _ _) ?_
  refine hp_sld hx hb hX hbl hbA hS (show 7 * j + 5 < L by omega) (by omega) dL_law_292 ?_
  refine lv_aload_n hx hb dL_law_293 rfl (lv_at hl 4 rfl) ?_
  have hFc := hp_free hD hS hA
  refine vx_calli (vx_runSX (As := [.ref ox, .int (xs (7 * j + 1)), .int (xs (7 * j + 2)), .int (xs (7 * j + 3)), .int (xs (7 * j + 4)), .int (xs (7 * j + 5)), .ref oq]) (rest := []) ⟨hx, hb, hml, hown, hts⟩ (c_L_move l hl0 dC dI cI cZ cO cJ ox bx ad v r n oq g H.size (xs (7 * j + 1)) (xs (7 * j + 2)) (xs (7 * j + 3)) (xs (7 * j + 4)) (xs (7 * j + 5)) hinv) (vx_cwSW 7 hts gL_law_L_move rfl rfl rfl (by decide +kernel) ⟨(Nat.le_of_ble_eq_true rfl), (Nat.le_of_ble_eq_true rfl)⟩) ⟨hp_fbL, fun U hU hW => ⟨rfl, hp_toT hP hK hD hN hstr hZu hZn hS hA hU hW, hp_nc_mv hW.alike hnc⟩⟩ rfl rfl hl.1 rfl (lv_room (Nat.le_of_ble_eq_true rfl)) dL_law_294 ⟨show 22 + j + 1 ≤ 639101 by omega, show 505 + 10 * j + 6 ≤ 7178800 by omega⟩) hS (fun q _ h => hFc q h) hFc (fun q _ h => hFc q h) (fun _ _ _ _ _ _ _ _ _ hpx _ _ _ _ _ _ _ => False.elim hpx) (fun r9 u t9 H1 locs1 ht _ hw hB hsz1 hkk hS1 => ?_)
  obtain ⟨rfl, hans⟩ := hw
  obtain ⟨hPx, hDx⟩ := hB
  have hPM1 := hp_sepP hPM hsep hkk
  have hsep1 := hp_sepN hPM hsep hDx
  have hP1 := hp_th ht hPx
  have hD1 := hDx.weaken (fun k q _ h => hFc q.1 h)
  clear hP hD hPM hPx hDx hkk ht hFc hS
  refine lv_istore (lv' := [(5, .int (hp_c_move v r n (xs (7 * j + 1)) (xs (7 * j + 2)) (xs (7 * j + 3)) (xs (7 * j + 4)) (xs (7 * j + 5)))), (4, .int (nI (7 * j))), (0, .ref b), (1, .ref ox), (2, .ref om), (3, .ref oq)]) hx hb dL_law_297 hl (by decide) rfl (fun ls hl => ?_)
  refine lv_aload_n hx hb dL_law_299 rfl (lv_at hl 4 rfl) ?_
  refine lv_aload_n hx hb dL_law_300 rfl (lv_at hl 2 rfl) ?_
  refine lv_iload hx hb dL_law_301 (lv_at hl 1 rfl) ?_
  refine lv_iconst (v := 1) hx hb dL_law_303 (by decide) ?_
  refine lv_iadd hx hb dL_law_304 ?_
  refine hp_top (show nI (7 * j) + 1 = nI (7 * j + 1) from nI_add _ _) ?_
  refine hp_sld hx hb hX hbl hbA hS1 (show 7 * j + 1 < L by omega) (by omega) dL_law_305 ?_
  refine lv_aload_n hx hb dL_law_306 rfl (lv_at hl 2 rfl) ?_
  refine lv_iload hx hb dL_law_307 (lv_at hl 1 rfl) ?_
  refine lv_iconst (v := 2) hx hb dL_law_309 (by decide) ?_
  refine lv_iadd hx hb dL_law_310 ?_
  refine hp_top (show nI (7 * j) + 2 = nI (7 * j + 2) from nI_add _ _) ?_
  refine hp_sld hx hb hX hbl hbA hS1 (show 7 * j + 2 < L by omega) (by omega) dL_law_311 ?_
  refine lv_aload_n hx hb dL_law_312 rfl (lv_at hl 2 rfl) ?_
  refine lv_iload hx hb dL_law_313 (lv_at hl 1 rfl) ?_
  refine lv_iconst (v := 3) hx hb dL_law_315 (by decide) ?_
  refine lv_iadd hx hb dL_law_316 ?_
  refine hp_top (show nI (7 * j) + 3 = nI (7 * j + 3) from nI_add _ _) ?_
  refine hp_sld hx hb hX hbl hbA hS1 (show 7 * j + 3 < L by omega) (by omega) dL_law_317 ?_
  refine lv_aload_n hx hb dL_law_318 rfl (lv_at hl 2 rfl) ?_
  refine lv_iload hx hb dL_law_319 (lv_at hl 1 rfl) ?_
  refine lv_iconst (v := 4) hx hb dL_law_321 (by decide) ?_
  refine lv_iadd hx hb dL_law_322 ?_
  refine hp_top (show nI (7 * j) + 4 = nI (7 * j + 4) from nI_add _ _) ?_
  refine hp_sld hx hb hX hbl hbA hS1 (show 7 * j + 4 < L by omega) (by omega) dL_law_323 ?_
  refine lv_aload_n hx hb dL_law_324 rfl (lv_at hl 2 rfl) ?_
  refine lv_iload hx hb dL_law_325 (lv_at hl 1 rfl) ?_
  refine lv_iconst (v := 5) hx hb dL_law_327 (by decide) ?_
  refine lv_iadd hx hb dL_law_328 ?_
  refine hp_top (show nI (7 * j) + 5 = nI (7 * j + 5) from nI_add _ _) ?_
  refine hp_sld hx hb hX hbl hbA hS1 (show 7 * j + 5 < L by omega) (by omega) dL_law_329 ?_
  have hFm := hp_free (hDM (va_up v 0 t) r n) hS1 hA
  refine va_calli (va_runV (As := [.int (xs (7 * j + 1)), .int (xs (7 * j + 2)), .int (xs (7 * j + 3)), .int (xs (7 * j + 4)), .int (xs (7 * j + 5))]) (rest := []) ⟨hx, hb, hml, hown, hts⟩ (c_X2_move l dC dI cI cZ cO cJ om am (va_up v 0 t) r n H1.size (xs (7 * j + 1)) (xs (7 * j + 2)) (xs (7 * j + 3)) (xs (7 * j + 4)) (xs (7 * j + 5)) (hp_inv_up t hinv)) (cwV 5 hts gL_law_X2_move rfl rfl rfl (by decide +kernel) ⟨(Nat.le_of_ble_eq_true rfl), (Nat.le_of_ble_eq_true rfl)⟩) ⟨hp_mfb, va_recv hK hPM1 (ci := 2) (q0 := 0) rfl hp_M_o, fun U hU hW => ⟨rfl, hp_mto hPM1 hK (hDM _ _ _) hU hW⟩⟩ rfl rfl hl.1 rfl (lv_room (Nat.le_of_ble_eq_true rfl)) dL_law_330 ⟨show 22 + j + 1 + 0 ≤ 639101 by omega, show 505 + 10 * j + 6 + 0 ≤ 7178800 by omega⟩) hS1 (fun q _ h => hFm q h) hFm (fun r9 u9 t9 H2 locs2 ht _ hw hB _ hkk hS2 => ?_)
  have hPM2 : va_P (dC, dI) vwCl (hp_M cI cZ om am (va_up (hp_v_move v r n (xs (7 * j + 1)) (xs (7 * j + 2)) (xs (7 * j + 3)) (xs (7 * j + 4)) (xs (7 * j + 5))) 0 (hp_c_move v r n (xs (7 * j + 1)) (xs (7 * j + 2)) (xs (7 * j + 3)) (xs (7 * j + 4)) (xs (7 * j + 5)))) (hp_r_move v r n (xs (7 * j + 1)) (xs (7 * j + 2)) (xs (7 * j + 3)) (xs (7 * j + 4)) (xs (7 * j + 5))) n) H2 := hp_cP (by exact congrArg (fun z => hp_M cI cZ om am z (hp_r_move v r n (xs (7 * j + 1)) (xs (7 * j + 2)) (xs (7 * j + 3)) (xs (7 * j + 4)) (xs (7 * j + 5))) n) hp_vu_move) (hp_th ht hB)
  have hP2 := hp_sepP hP1 (hp_sep_sym hsep1) hkk
  obtain rfl : r9 = hp_b (hp_b_move v r n (xs (7 * j + 1)) (xs (7 * j + 2)) (xs (7 * j + 3)) (xs (7 * j + 4)) (xs (7 * j + 5))) := hw
  clear hPM1 hP1 hB hkk ht hFm hS1
  refine lv_istore (lv' := [(6, .int (hp_b (hp_b_move v r n (xs (7 * j + 1)) (xs (7 * j + 2)) (xs (7 * j + 3)) (xs (7 * j + 4)) (xs (7 * j + 5))))), (5, .int (hp_c_move v r n (xs (7 * j + 1)) (xs (7 * j + 2)) (xs (7 * j + 3)) (xs (7 * j + 4)) (xs (7 * j + 5)))), (4, .int (nI (7 * j))), (0, .ref b), (1, .ref ox), (2, .ref om), (3, .ref oq)]) hx hb dL_law_333 hl (by decide) rfl (fun ls hl => ?_)
  refine lv_aload_n hx hb dL_law_335 rfl (lv_at hl 5 rfl) ?_
  refine vp_callSi (W.runV (As := []) (rest := []) ⟨hx, hb, hml, hown, hts⟩ (c_X2_thrown l dC dI cI cZ cO cJ om am (va_up (hp_v_move v r n (xs (7 * j + 1)) (xs (7 * j + 2)) (xs (7 * j + 3)) (xs (7 * j + 4)) (xs (7 * j + 5))) 0 (hp_c_move v r n (xs (7 * j + 1)) (xs (7 * j + 2)) (xs (7 * j + 3)) (xs (7 * j + 4)) (xs (7 * j + 5)))) (hp_r_move v r n (xs (7 * j + 1)) (xs (7 * j + 2)) (xs (7 * j + 3)) (xs (7 * j + 4)) (xs (7 * j + 5))) n) (cwV 0 hts gL_law_X2_thrown rfl rfl rfl (by decide +kernel) ⟨(Nat.le_of_ble_eq_true rfl), (Nat.le_of_ble_eq_true rfl)⟩) ⟨hp_fb, va_recv hK hPM2 (ci := 2) (q0 := 0) rfl hp_M_o, fun U hU hW => ⟨rfl, hp_to hPM2 hK hU hW⟩⟩ rfl rfl hl.1 rfl (lv_room (Nat.le_of_ble_eq_true rfl)) dL_law_336 ⟨show 22 + j + 1 + 0 + 0 ≤ 639101 by omega, show 505 + 10 * j + 6 + 0 + 0 ≤ 7178800 by omega⟩) (fun r_1 hr_1 => ?_)
  subst hr_1
  refine hp_top (va_up_self _ _ _) ?_
  refine lv_iload hx hb dL_law_339 (lv_at hl 1 rfl) ?_
  refine lv_icmp_eq (tgt := 346) hx hb dL_law_341 (by decide) (fun _ => ?_) (fun c9 => absurd rfl c9)
  refine lv_iload hx hb dL_law_346 (lv_at hl 1 rfl) ?_
  have hend : ∀ ls : Array Slot, lv_has ls 7 [(6, .int (hp_b (hp_b_move v r n (xs (7 * j + 1)) (xs (7 * j + 2)) (xs (7 * j + 3)) (xs (7 * j + 4)) (xs (7 * j + 5))))), (5, .int (hp_c_move v r n (xs (7 * j + 1)) (xs (7 * j + 2)) (xs (7 * j + 3)) (xs (7 * j + 4)) (xs (7 * j + 5)))), (4, .int (nI (7 * j))), (0, .ref b), (1, .ref ox), (2, .ref om), (3, .ref oq)] → W p l e room_1 s m #[Value.ref b] below meth c H2 locs2 (22 + j + 1 + 0) (505 + 10 * j + 6 + 0) Q (F0 m 370 ls []) := by
    intro ls hl
    refine lv_goto (tgt := 1581) hx hb dL_law_370 (by decide) ?_
    refine lv_iinc (v := nI (7 * (j + 1))) (lv' := [(4, .int (nI (7 * (j + 1)))), (6, .int (hp_b (hp_b_move v r n (xs (7 * j + 1)) (xs (7 * j + 2)) (xs (7 * j + 3)) (xs (7 * j + 4)) (xs (7 * j + 5))))), (5, .int (hp_c_move v r n (xs (7 * j + 1)) (xs (7 * j + 2)) (xs (7 * j + 3)) (xs (7 * j + 4)) (xs (7 * j + 5)))), (0, .ref b), (1, .ref ox), (2, .ref om), (3, .ref oq)]) hx hb dL_law_1581 hl (k := 2) rfl (hp_i7 j) (by decide) rfl (fun ls hl => ?_)
    refine lv_goto (tgt := 23) hx hb dL_law_1584 (by decide) ?_
    refine W.widen (k := 22 + (j + 1)) (n := 505 + 10 * (j + 1)) (by omega) (by omega) ?_
    exact ih H2 _ ls u.1 u.2 (hp_v_move v r n (xs (7 * j + 1)) (xs (7 * j + 2)) (xs (7 * j + 3)) (xs (7 * j + 4)) (xs (7 * j + 5))) (hp_r_move v r n (xs (7 * j + 1)) (xs (7 * j + 2)) (xs (7 * j + 3)) (xs (7 * j + 4)) (xs (7 * j + 5))) n (hp_c_move v r n (xs (7 * j + 1)) (xs (7 * j + 2)) (xs (7 * j + 3)) (xs (7 * j + 4)) (xs (7 * j + 5))) ⟨hP2, hD1, hPM2, hDM, hp_sepM hsep1, hp_i_move hinv (xs (7 * j + 1)) (xs (7 * j + 2)) (xs (7 * j + 3)) (xs (7 * j + 4)) (xs (7 * j + 5))⟩ hS2 (lv_sub hl [0, 3, 4, 5, 6] rfl)
  refine lv_if_ne (tgt := 370) hx hb dL_law_348 (by decide) (fun _ => hend ls hl) (fun c0 => ?_)
  have ha := hans c0
  refine lv_aload_n hx hb dL_law_351 rfl (lv_at hl 6 rfl) ?_
  refine lv_iconst (v := 0) hx hb dL_law_352 (by decide) ?_
  refine va_lald (f := u.2) hx hb hK hP2 0 3 rfl rfl (i := 0) (by unfold vp_in; decide) dL_law_353 ?_
  refine hp_topl (y := (hp_b (hp_b_move v r n (xs (7 * j + 1)) (xs (7 * j + 2)) (xs (7 * j + 3)) (xs (7 * j + 4)) (xs (7 * j + 5)))).toInt64) (by rw [sb_cl0]; exact ha) ?_
  refine lv_iload hx hb dL_law_354 (lv_at hl 0 rfl) ?_
  refine lv_if_eq (tgt := 363) hx hb dL_law_356 (by decide) (fun q => ?_) (fun q => ?_)
  · refine lv_lconst (v := 0) hx hb dL_law_363 (by decide) ?_
    refine hp_lcmp hx hb dL_law_364 (by rw [q]; rfl) ?_
    refine lv_if_eq (tgt := 370) hx hb dL_law_365 (by decide) (fun _ => hend ls hl) (fun c9 => absurd rfl c9)
  · refine lv_lconst (v := 1) hx hb dL_law_359 (by decide) ?_
    refine lv_goto (tgt := 364) hx hb dL_law_360 (by decide) ?_
    refine hp_lcmp hx hb dL_law_364 (by rw [hp_bt (hp_bn q)]; rfl) ?_
    refine lv_if_eq (tgt := 370) hx hb dL_law_365 (by decide) (fun _ => hend ls hl) (fun c9 => absurd rfl c9)
set_option maxHeartbeats 400000 in
set_option maxRecDepth 100000 in
theorem law_remove {p : Program} {e : Env} {s : State} {m : MethodId} {below : List Frame} {meth : Method} {c : Code} (l : Launch) (hl0 : l.stackTraces = false) {b L : Nat} {xs : Nat → Int32} (hx : p.tables.exec = Jvm.exec) (hb : c.code = code) (hml : c.maxLocals = 7) (hown : s.vm.findClass RL = some m.cls) (hts : ∀ w ∈ wsL_law, w.before #[Value.ref b] s = true) (hX : va_X b L xs s s.heap) (hbl : b < s.heap.size) (hL : L ≤ 3584) {dC : Nat → ClassId} {dI : Nat → Nat → Nat} {cI cZ cO cJ : ClassId} (hK : va_K (dC, dI) vwCl (hp_ty cI cZ cO cJ) s) (hN : hp_ex s) (hstr : hp_str s) (hZu : hp_Zu (hp_A s) s s.heap) (hZn : hp_Zn (hp_A s) s s.heap) (hnc : hp_nc s) {ox om oq : Nat} {bx am : Nat → Nat} {Q : State → Prop} {j : Nat} (hj : 7 * j + 7 ≤ L)
    (ih : ∀ (H : Heap) (locs : List Loc) (ls : Array Slot) (ad : Nat → Nat) (g : Nat → Int64) (v : Nat → Int32) (r : Nat → Nat → Int32) (n : Nat) (t : Int32), hp_LI (dC, dI) cI cZ cO cJ (hp_A s) ox om oq bx am ad g v r n t H → va_S (hp_A s) s.heap H locs → lv_has ls 7 [(4, .int (nI (7 * (j + 1)))), (0, .ref b), (1, .ref ox), (2, .ref om), (3, .ref oq)] → W p l e room_1 s m #[Value.ref b] below meth c H locs (22 + (j + 1)) (505 + 10 * (j + 1)) Q (F0 m 23 ls []))
    {H : Heap} {locs : List Loc} {ls : Array Slot} {ad : Nat → Nat} {g : Nat → Int64} {v : Nat → Int32} {r : Nat → Nat → Int32} {n : Nat} {t : Int32} (hI : hp_LI (dC, dI) cI cZ cO cJ (hp_A s) ox om oq bx am ad g v r n t H) (hS : va_S (hp_A s) s.heap H locs) (hl : lv_has ls 7 [(4, .int (nI (7 * j))), (0, .ref b), (1, .ref ox), (2, .ref om), (3, .ref oq)]) : W p l e room_1 s m #[Value.ref b] below meth c H locs (22 + j) (505 + 10 * j) Q (F0 m 373 ls []) := by
  obtain ⟨hP, hD, hPM, hDM, hsep, hinv⟩ := hI
  have hA : ∀ q : Nat, s.heap.size ≤ q → hp_A s q := fun _ h => h
  have hbA : ¬ hp_A s b := Nat.not_le.mpr hbl
  have hb7 : 7 * j + 7 < 2 ^ 31 := by omega
  refine lv_aload_n hx hb dL_law_373 rfl (lv_at hl 2 rfl) ?_
  refine lv_aload_n hx hb dL_law_374 rfl (lv_at hl 1 rfl) ?_
  refine lv_iload hx hb dL_law_375 (lv_at hl 0 rfl) ?_
  refine lv_iconst (v := 1) hx hb dL_law_377 (by decide) ?_
  refine lv_iadd hx hb dL_law_378 ?_
  refine hp_top (show nI (7 * j) + 1 = nI (7 * j + 1) from nI_add _ _) ?_
  refine hp_sld hx hb hX hbl hbA hS (show 7 * j + 1 < L by omega) (by omega) dL_law_379 ?_
  refine lv_aload_n hx hb dL_law_380 rfl (lv_at hl 1 rfl) ?_
  refine lv_iload hx hb dL_law_381 (lv_at hl 0 rfl) ?_
  refine lv_iconst (v := 2) hx hb dL_law_383 (by decide) ?_
  refine lv_iadd hx hb dL_law_384 ?_
  refine hp_top (show nI (7 * j) + 2 = nI (7 * j + 2) from nI_add _ _) ?_
  refine hp_sld hx hb hX hbl hbA hS (show 7 * j + 2 < L by omega) (by omega) dL_law_385 ?_
  refine lv_aload_n hx hb dL_law_386 rfl (lv_at hl 1 rfl) ?_
  refine lv_iload hx hb dL_law_387 (lv_at hl 0 rfl) ?_
  refine lv_iconst (v := 3) hx hb dL_law_389 (by decide) ?_
  refine lv_iadd hx hb dL_law_390 ?_
  refine hp_top (show nI (7 * j) + 3 = nI (7 * j + 3) from nI_add _ _) ?_
  refine hp_sld hx hb hX hbl hbA hS (show 7 * j + 3 < L by omega) (by omega) dL_law_391 ?_
  refine lv_aload_n hx hb dL_law_392 rfl (lv_at hl 4 rfl) ?_
  have hFc := hp_free hD hS hA
  refine vx_calli (vx_runSX (As := [.ref ox, .int (xs (7 * j + 1)), .int (xs (7 * j + 2)), .int (xs (7 * j + 3)), .ref oq]) (rest := []) ⟨hx, hb, hml, hown, hts⟩ (c_L_remove l hl0 dC dI cI cZ cO cJ ox bx ad v r n oq g H.size (xs (7 * j + 1)) (xs (7 * j + 2)) (xs (7 * j + 3)) hinv) (vx_cwSW 5 hts gL_law_L_remove rfl rfl rfl (by decide +kernel) ⟨(Nat.le_of_ble_eq_true rfl), (Nat.le_of_ble_eq_true rfl)⟩) ⟨hp_fbL, fun U hU hW => ⟨rfl, hp_toT hP hK hD hN hstr hZu hZn hS hA hU hW, hp_nc_mv hW.alike hnc⟩⟩ rfl rfl hl.1 rfl (lv_room (Nat.le_of_ble_eq_true rfl)) dL_law_393 ⟨show 22 + j + 1 ≤ 639101 by omega, show 505 + 10 * j + 6 ≤ 7178800 by omega⟩) hS (fun q _ h => hFc q h) hFc (fun q _ h => hFc q h) (fun _ _ _ _ _ _ _ _ _ hpx _ _ _ _ _ _ _ => False.elim hpx) (fun r9 u t9 H1 locs1 ht _ hw hB hsz1 hkk hS1 => ?_)
  obtain ⟨rfl, hans⟩ := hw
  obtain ⟨hPx, hDx⟩ := hB
  have hPM1 := hp_sepP hPM hsep hkk
  have hsep1 := hp_sepN hPM hsep hDx
  have hP1 := hp_th ht hPx
  have hD1 := hDx.weaken (fun k q _ h => hFc q.1 h)
  clear hP hD hPM hPx hDx hkk ht hFc hS
  refine lv_istore (lv' := [(5, .int (hp_c_remove v r n (xs (7 * j + 1)) (xs (7 * j + 2)) (xs (7 * j + 3)))), (4, .int (nI (7 * j))), (0, .ref b), (1, .ref ox), (2, .ref om), (3, .ref oq)]) hx hb dL_law_396 hl (by decide) rfl (fun ls hl => ?_)
  refine lv_aload_n hx hb dL_law_398 rfl (lv_at hl 4 rfl) ?_
  refine lv_aload_n hx hb dL_law_399 rfl (lv_at hl 2 rfl) ?_
  refine lv_iload hx hb dL_law_400 (lv_at hl 1 rfl) ?_
  refine lv_iconst (v := 1) hx hb dL_law_402 (by decide) ?_
  refine lv_iadd hx hb dL_law_403 ?_
  refine hp_top (show nI (7 * j) + 1 = nI (7 * j + 1) from nI_add _ _) ?_
  refine hp_sld hx hb hX hbl hbA hS1 (show 7 * j + 1 < L by omega) (by omega) dL_law_404 ?_
  refine lv_aload_n hx hb dL_law_405 rfl (lv_at hl 2 rfl) ?_
  refine lv_iload hx hb dL_law_406 (lv_at hl 1 rfl) ?_
  refine lv_iconst (v := 2) hx hb dL_law_408 (by decide) ?_
  refine lv_iadd hx hb dL_law_409 ?_
  refine hp_top (show nI (7 * j) + 2 = nI (7 * j + 2) from nI_add _ _) ?_
  refine hp_sld hx hb hX hbl hbA hS1 (show 7 * j + 2 < L by omega) (by omega) dL_law_410 ?_
  refine lv_aload_n hx hb dL_law_411 rfl (lv_at hl 2 rfl) ?_
  refine lv_iload hx hb dL_law_412 (lv_at hl 1 rfl) ?_
  refine lv_iconst (v := 3) hx hb dL_law_414 (by decide) ?_
  refine lv_iadd hx hb dL_law_415 ?_
  refine hp_top (show nI (7 * j) + 3 = nI (7 * j + 3) from nI_add _ _) ?_
  refine hp_sld hx hb hX hbl hbA hS1 (show 7 * j + 3 < L by omega) (by omega) dL_law_416 ?_
  have hFm := hp_free (hDM (va_up v 0 t) r n) hS1 hA
  refine va_calli (va_runV (As := [.int (xs (7 * j + 1)), .int (xs (7 * j + 2)), .int (xs (7 * j + 3))]) (rest := []) ⟨hx, hb, hml, hown, hts⟩ (c_X2_remove l dC dI cI cZ cO cJ om am (va_up v 0 t) r n H1.size (xs (7 * j + 1)) (xs (7 * j + 2)) (xs (7 * j + 3)) (hp_inv_up t hinv)) (cwV 3 hts gL_law_X2_remove rfl rfl rfl (by decide +kernel) ⟨(Nat.le_of_ble_eq_true rfl), (Nat.le_of_ble_eq_true rfl)⟩) ⟨hp_mfb, va_recv hK hPM1 (ci := 2) (q0 := 0) rfl hp_M_o, fun U hU hW => ⟨rfl, hp_mto hPM1 hK (hDM _ _ _) hU hW⟩⟩ rfl rfl hl.1 rfl (lv_room (Nat.le_of_ble_eq_true rfl)) dL_law_417 ⟨show 22 + j + 1 + 0 ≤ 639101 by omega, show 505 + 10 * j + 6 + 0 ≤ 7178800 by omega⟩) hS1 (fun q _ h => hFm q h) hFm (fun r9 u9 t9 H2 locs2 ht _ hw hB _ hkk hS2 => ?_)
  have hPM2 : va_P (dC, dI) vwCl (hp_M cI cZ om am (va_up (hp_v_remove v r n (xs (7 * j + 1)) (xs (7 * j + 2)) (xs (7 * j + 3))) 0 (hp_c_remove v r n (xs (7 * j + 1)) (xs (7 * j + 2)) (xs (7 * j + 3)))) (hp_r_remove v r n (xs (7 * j + 1)) (xs (7 * j + 2)) (xs (7 * j + 3))) n) H2 := hp_cP (by exact congrArg (fun z => hp_M cI cZ om am z (hp_r_remove v r n (xs (7 * j + 1)) (xs (7 * j + 2)) (xs (7 * j + 3))) n) hp_vu_remove) (hp_th ht hB)
  have hP2 := hp_sepP hP1 (hp_sep_sym hsep1) hkk
  obtain rfl : r9 = hp_b (decide (hp_c_remove v r n (xs (7 * j + 1)) (xs (7 * j + 2)) (xs (7 * j + 3)) = 0)) := hw
  clear hPM1 hP1 hB hkk ht hFm hS1
  refine lv_istore (lv' := [(6, .int (hp_b (decide (hp_c_remove v r n (xs (7 * j + 1)) (xs (7 * j + 2)) (xs (7 * j + 3)) = 0)))), (5, .int (hp_c_remove v r n (xs (7 * j + 1)) (xs (7 * j + 2)) (xs (7 * j + 3)))), (4, .int (nI (7 * j))), (0, .ref b), (1, .ref ox), (2, .ref om), (3, .ref oq)]) hx hb dL_law_420 hl (by decide) rfl (fun ls hl => ?_)
  refine lv_aload_n hx hb dL_law_422 rfl (lv_at hl 5 rfl) ?_
  refine vp_callSi (W.runV (As := []) (rest := []) ⟨hx, hb, hml, hown, hts⟩ (c_X2_thrown l dC dI cI cZ cO cJ om am (va_up (hp_v_remove v r n (xs (7 * j + 1)) (xs (7 * j + 2)) (xs (7 * j + 3))) 0 (hp_c_remove v r n (xs (7 * j + 1)) (xs (7 * j + 2)) (xs (7 * j + 3)))) (hp_r_remove v r n (xs (7 * j + 1)) (xs (7 * j + 2)) (xs (7 * j + 3))) n) (cwV 0 hts gL_law_X2_thrown rfl rfl rfl (by decide +kernel) ⟨(Nat.le_of_ble_eq_true rfl), (Nat.le_of_ble_eq_true rfl)⟩) ⟨hp_fb, va_recv hK hPM2 (ci := 2) (q0 := 0) rfl hp_M_o, fun U hU hW => ⟨rfl, hp_to hPM2 hK hU hW⟩⟩ rfl rfl hl.1 rfl (lv_room (Nat.le_of_ble_eq_true rfl)) dL_law_423 ⟨show 22 + j + 1 + 0 + 0 ≤ 639101 by omega, show 505 + 10 * j + 6 + 0 + 0 ≤ 7178800 by omega⟩) (fun r_1 hr_1 => ?_)
  subst hr_1
  refine hp_top (va_up_self _ _ _) ?_
  refine lv_iload hx hb dL_law_426 (lv_at hl 1 rfl) ?_
  refine lv_icmp_eq (tgt := 433) hx hb dL_law_428 (by decide) (fun _ => ?_) (fun c9 => absurd rfl c9)
  refine lv_iload hx hb dL_law_433 (lv_at hl 1 rfl) ?_
  have hend : ∀ ls : Array Slot, lv_has ls 7 [(6, .int (hp_b (decide (hp_c_remove v r n (xs (7 * j + 1)) (xs (7 * j + 2)) (xs (7 * j + 3)) = 0)))), (5, .int (hp_c_remove v r n (xs (7 * j + 1)) (xs (7 * j + 2)) (xs (7 * j + 3)))), (4, .int (nI (7 * j))), (0, .ref b), (1, .ref ox), (2, .ref om), (3, .ref oq)] → W p l e room_1 s m #[Value.ref b] below meth c H2 locs2 (22 + j + 1 + 0) (505 + 10 * j + 6 + 0) Q (F0 m 457 ls []) := by
    intro ls hl
    refine lv_goto (tgt := 1581) hx hb dL_law_457 (by decide) ?_
    refine lv_iinc (v := nI (7 * (j + 1))) (lv' := [(4, .int (nI (7 * (j + 1)))), (6, .int (hp_b (decide (hp_c_remove v r n (xs (7 * j + 1)) (xs (7 * j + 2)) (xs (7 * j + 3)) = 0)))), (5, .int (hp_c_remove v r n (xs (7 * j + 1)) (xs (7 * j + 2)) (xs (7 * j + 3)))), (0, .ref b), (1, .ref ox), (2, .ref om), (3, .ref oq)]) hx hb dL_law_1581 hl (k := 2) rfl (hp_i7 j) (by decide) rfl (fun ls hl => ?_)
    refine lv_goto (tgt := 23) hx hb dL_law_1584 (by decide) ?_
    refine W.widen (k := 22 + (j + 1)) (n := 505 + 10 * (j + 1)) (by omega) (by omega) ?_
    exact ih H2 _ ls u.1 u.2 (hp_v_remove v r n (xs (7 * j + 1)) (xs (7 * j + 2)) (xs (7 * j + 3))) (hp_r_remove v r n (xs (7 * j + 1)) (xs (7 * j + 2)) (xs (7 * j + 3))) n (hp_c_remove v r n (xs (7 * j + 1)) (xs (7 * j + 2)) (xs (7 * j + 3))) ⟨hP2, hD1, hPM2, hDM, hp_sepM hsep1, hp_i_remove hinv (xs (7 * j + 1)) (xs (7 * j + 2)) (xs (7 * j + 3))⟩ hS2 (lv_sub hl [0, 3, 4, 5, 6] rfl)
  refine lv_if_ne (tgt := 457) hx hb dL_law_435 (by decide) (fun _ => hend ls hl) (fun c0 => ?_)
  have ha := hans c0
  refine lv_aload_n hx hb dL_law_438 rfl (lv_at hl 6 rfl) ?_
  refine lv_iconst (v := 0) hx hb dL_law_439 (by decide) ?_
  refine va_lald (f := u.2) hx hb hK hP2 0 3 rfl rfl (i := 0) (by unfold vp_in; decide) dL_law_440 ?_
  refine hp_topl (y := ((1 : Int32)).toInt64) (by rw [sb_cl0]; exact ha) ?_
  refine lv_iload hx hb dL_law_441 (lv_at hl 0 rfl) ?_
  refine lv_if_eq (tgt := 450) hx hb dL_law_443 (by decide) (fun q => ?_) (fun q => ?_)
  · refine lv_lconst (v := 0) hx hb dL_law_450 (by decide) ?_
    refine hp_lcmp hx hb dL_law_451 (by exact absurd (hp_bz q) (by rw [decide_eq_true c0]; decide)) ?_
    refine lv_if_eq (tgt := 457) hx hb dL_law_452 (by decide) (fun _ => hend ls hl) (fun c9 => absurd rfl c9)
  · refine lv_lconst (v := 1) hx hb dL_law_446 (by decide) ?_
    refine lv_goto (tgt := 451) hx hb dL_law_447 (by decide) ?_
    refine hp_lcmp hx hb dL_law_451 (by rfl) ?_
    refine lv_if_eq (tgt := 457) hx hb dL_law_452 (by decide) (fun _ => hend ls hl) (fun c9 => absurd rfl c9)
set_option maxHeartbeats 400000 in
set_option maxRecDepth 100000 in
theorem law_clear {p : Program} {e : Env} {s : State} {m : MethodId} {below : List Frame} {meth : Method} {c : Code} (l : Launch) (hl0 : l.stackTraces = false) {b L : Nat} {xs : Nat → Int32} (hx : p.tables.exec = Jvm.exec) (hb : c.code = code) (hml : c.maxLocals = 7) (hown : s.vm.findClass RL = some m.cls) (hts : ∀ w ∈ wsL_law, w.before #[Value.ref b] s = true) (hX : va_X b L xs s s.heap) (hbl : b < s.heap.size) (hL : L ≤ 3584) {dC : Nat → ClassId} {dI : Nat → Nat → Nat} {cI cZ cO cJ : ClassId} (hK : va_K (dC, dI) vwCl (hp_ty cI cZ cO cJ) s) (hN : hp_ex s) (hstr : hp_str s) (hZu : hp_Zu (hp_A s) s s.heap) (hZn : hp_Zn (hp_A s) s s.heap) (hnc : hp_nc s) {ox om oq : Nat} {bx am : Nat → Nat} {Q : State → Prop} {j : Nat} (hj : 7 * j + 7 ≤ L)
    (ih : ∀ (H : Heap) (locs : List Loc) (ls : Array Slot) (ad : Nat → Nat) (g : Nat → Int64) (v : Nat → Int32) (r : Nat → Nat → Int32) (n : Nat) (t : Int32), hp_LI (dC, dI) cI cZ cO cJ (hp_A s) ox om oq bx am ad g v r n t H → va_S (hp_A s) s.heap H locs → lv_has ls 7 [(4, .int (nI (7 * (j + 1)))), (0, .ref b), (1, .ref ox), (2, .ref om), (3, .ref oq)] → W p l e room_1 s m #[Value.ref b] below meth c H locs (22 + (j + 1)) (505 + 10 * (j + 1)) Q (F0 m 23 ls []))
    {H : Heap} {locs : List Loc} {ls : Array Slot} {ad : Nat → Nat} {g : Nat → Int64} {v : Nat → Int32} {r : Nat → Nat → Int32} {n : Nat} {t : Int32} (hI : hp_LI (dC, dI) cI cZ cO cJ (hp_A s) ox om oq bx am ad g v r n t H) (hS : va_S (hp_A s) s.heap H locs) (hl : lv_has ls 7 [(4, .int (nI (7 * j))), (0, .ref b), (1, .ref ox), (2, .ref om), (3, .ref oq)]) : W p l e room_1 s m #[Value.ref b] below meth c H locs (22 + j) (505 + 10 * j) Q (F0 m 460 ls []) := by
  obtain ⟨hP, hD, hPM, hDM, hsep, hinv⟩ := hI
  have hA : ∀ q : Nat, s.heap.size ≤ q → hp_A s q := fun _ h => h
  have hbA : ¬ hp_A s b := Nat.not_le.mpr hbl
  have hb7 : 7 * j + 7 < 2 ^ 31 := by omega
  refine lv_aload_n hx hb dL_law_460 rfl (lv_at hl 2 rfl) ?_
  refine lv_aload_n hx hb dL_law_461 rfl (lv_at hl 1 rfl) ?_
  refine lv_iload hx hb dL_law_462 (lv_at hl 0 rfl) ?_
  refine lv_iconst (v := 1) hx hb dL_law_464 (by decide) ?_
  refine lv_iadd hx hb dL_law_465 ?_
  refine hp_top (show nI (7 * j) + 1 = nI (7 * j + 1) from nI_add _ _) ?_
  refine hp_sld hx hb hX hbl hbA hS (show 7 * j + 1 < L by omega) (by omega) dL_law_466 ?_
  refine lv_aload_n hx hb dL_law_467 rfl (lv_at hl 1 rfl) ?_
  refine lv_iload hx hb dL_law_468 (lv_at hl 0 rfl) ?_
  refine lv_iconst (v := 2) hx hb dL_law_470 (by decide) ?_
  refine lv_iadd hx hb dL_law_471 ?_
  refine hp_top (show nI (7 * j) + 2 = nI (7 * j + 2) from nI_add _ _) ?_
  refine hp_sld hx hb hX hbl hbA hS (show 7 * j + 2 < L by omega) (by omega) dL_law_472 ?_
  refine lv_aload_n hx hb dL_law_473 rfl (lv_at hl 1 rfl) ?_
  refine lv_iload hx hb dL_law_474 (lv_at hl 0 rfl) ?_
  refine lv_iconst (v := 3) hx hb dL_law_476 (by decide) ?_
  refine lv_iadd hx hb dL_law_477 ?_
  refine hp_top (show nI (7 * j) + 3 = nI (7 * j + 3) from nI_add _ _) ?_
  refine hp_sld hx hb hX hbl hbA hS (show 7 * j + 3 < L by omega) (by omega) dL_law_478 ?_
  refine lv_aload_n hx hb dL_law_479 rfl (lv_at hl 4 rfl) ?_
  have hFc := hp_free hD hS hA
  refine vx_calli (vx_runSX (As := [.ref ox, .int (xs (7 * j + 1)), .int (xs (7 * j + 2)), .int (xs (7 * j + 3)), .ref oq]) (rest := []) ⟨hx, hb, hml, hown, hts⟩ (c_L_clear l hl0 dC dI cI cZ cO cJ ox bx ad v r n oq g H.size (xs (7 * j + 1)) (xs (7 * j + 2)) (xs (7 * j + 3)) hinv) (vx_cwSW 5 hts gL_law_L_clear rfl rfl rfl (by decide +kernel) ⟨(Nat.le_of_ble_eq_true rfl), (Nat.le_of_ble_eq_true rfl)⟩) ⟨hp_fbL, fun U hU hW => ⟨rfl, hp_toT hP hK hD hN hstr hZu hZn hS hA hU hW, hp_nc_mv hW.alike hnc⟩⟩ rfl rfl hl.1 rfl (lv_room (Nat.le_of_ble_eq_true rfl)) dL_law_480 ⟨show 22 + j + 1 ≤ 639101 by omega, show 505 + 10 * j + 6 ≤ 7178800 by omega⟩) hS (fun q _ h => hFc q h) hFc (fun q _ h => hFc q h) (fun _ _ _ _ _ _ _ _ _ hpx _ _ _ _ _ _ _ => False.elim hpx) (fun r9 u t9 H1 locs1 ht _ hw hB hsz1 hkk hS1 => ?_)
  obtain ⟨rfl, hans⟩ := hw
  obtain ⟨hPx, hDx⟩ := hB
  have hPM1 := hp_sepP hPM hsep hkk
  have hsep1 := hp_sepN hPM hsep hDx
  have hP1 := hp_th ht hPx
  have hD1 := hDx.weaken (fun k q _ h => hFc q.1 h)
  clear hP hD hPM hPx hDx hkk ht hFc hS
  refine lv_istore (lv' := [(5, .int (hp_c_clear (xs (7 * j + 1)) (xs (7 * j + 2)) (xs (7 * j + 3)))), (4, .int (nI (7 * j))), (0, .ref b), (1, .ref ox), (2, .ref om), (3, .ref oq)]) hx hb dL_law_483 hl (by decide) rfl (fun ls hl => ?_)
  refine lv_aload_n hx hb dL_law_485 rfl (lv_at hl 4 rfl) ?_
  refine lv_aload_n hx hb dL_law_486 rfl (lv_at hl 2 rfl) ?_
  refine lv_iload hx hb dL_law_487 (lv_at hl 1 rfl) ?_
  refine lv_iconst (v := 1) hx hb dL_law_489 (by decide) ?_
  refine lv_iadd hx hb dL_law_490 ?_
  refine hp_top (show nI (7 * j) + 1 = nI (7 * j + 1) from nI_add _ _) ?_
  refine hp_sld hx hb hX hbl hbA hS1 (show 7 * j + 1 < L by omega) (by omega) dL_law_491 ?_
  refine lv_aload_n hx hb dL_law_492 rfl (lv_at hl 2 rfl) ?_
  refine lv_iload hx hb dL_law_493 (lv_at hl 1 rfl) ?_
  refine lv_iconst (v := 2) hx hb dL_law_495 (by decide) ?_
  refine lv_iadd hx hb dL_law_496 ?_
  refine hp_top (show nI (7 * j) + 2 = nI (7 * j + 2) from nI_add _ _) ?_
  refine hp_sld hx hb hX hbl hbA hS1 (show 7 * j + 2 < L by omega) (by omega) dL_law_497 ?_
  refine lv_aload_n hx hb dL_law_498 rfl (lv_at hl 2 rfl) ?_
  refine lv_iload hx hb dL_law_499 (lv_at hl 1 rfl) ?_
  refine lv_iconst (v := 3) hx hb dL_law_501 (by decide) ?_
  refine lv_iadd hx hb dL_law_502 ?_
  refine hp_top (show nI (7 * j) + 3 = nI (7 * j + 3) from nI_add _ _) ?_
  refine hp_sld hx hb hX hbl hbA hS1 (show 7 * j + 3 < L by omega) (by omega) dL_law_503 ?_
  have hFm := hp_free (hDM (va_up v 0 t) r n) hS1 hA
  refine va_calli (va_runV (As := [.int (xs (7 * j + 1)), .int (xs (7 * j + 2)), .int (xs (7 * j + 3))]) (rest := []) ⟨hx, hb, hml, hown, hts⟩ (c_X2_clear l dC dI cI cZ cO cJ om am (va_up v 0 t) r n H1.size (xs (7 * j + 1)) (xs (7 * j + 2)) (xs (7 * j + 3))) (cwV 3 hts gL_law_X2_clear rfl rfl rfl (by decide +kernel) ⟨(Nat.le_of_ble_eq_true rfl), (Nat.le_of_ble_eq_true rfl)⟩) ⟨hp_mfb, va_recv hK hPM1 (ci := 2) (q0 := 0) rfl hp_M_o, fun U hU hW => ⟨rfl, hp_mto hPM1 hK (hDM _ _ _) hU hW⟩⟩ rfl rfl hl.1 rfl (lv_room (Nat.le_of_ble_eq_true rfl)) dL_law_504 ⟨show 22 + j + 1 + 0 ≤ 639101 by omega, show 505 + 10 * j + 6 + 0 ≤ 7178800 by omega⟩) hS1 (fun q _ h => hFm q h) hFm (fun r9 u9 t9 H2 locs2 ht _ hw hB _ hkk hS2 => ?_)
  have hPM2 : va_P (dC, dI) vwCl (hp_M cI cZ om am (va_up v 0 (hp_c_clear (xs (7 * j + 1)) (xs (7 * j + 2)) (xs (7 * j + 3)))) (hp_r_clear r (xs (7 * j + 1)) (xs (7 * j + 2)) (xs (7 * j + 3))) n) H2 := hp_cP (by exact congrArg (fun z => hp_M cI cZ om am z (hp_r_clear r (xs (7 * j + 1)) (xs (7 * j + 2)) (xs (7 * j + 3))) n) (bx_uu v 0 t _)) (hp_th ht hB)
  have hP2 := hp_sepP hP1 (hp_sep_sym hsep1) hkk
  obtain rfl : r9 = hp_a_clear r (xs (7 * j + 1)) (xs (7 * j + 2)) (xs (7 * j + 3)) := hw
  clear hPM1 hP1 hB hkk ht hFm hS1
  refine lv_istore (lv' := [(6, .int (hp_a_clear r (xs (7 * j + 1)) (xs (7 * j + 2)) (xs (7 * j + 3)))), (5, .int (hp_c_clear (xs (7 * j + 1)) (xs (7 * j + 2)) (xs (7 * j + 3)))), (4, .int (nI (7 * j))), (0, .ref b), (1, .ref ox), (2, .ref om), (3, .ref oq)]) hx hb dL_law_507 hl (by decide) rfl (fun ls hl => ?_)
  refine lv_aload_n hx hb dL_law_509 rfl (lv_at hl 5 rfl) ?_
  refine vp_callSi (W.runV (As := []) (rest := []) ⟨hx, hb, hml, hown, hts⟩ (c_X2_thrown l dC dI cI cZ cO cJ om am (va_up v 0 (hp_c_clear (xs (7 * j + 1)) (xs (7 * j + 2)) (xs (7 * j + 3)))) (hp_r_clear r (xs (7 * j + 1)) (xs (7 * j + 2)) (xs (7 * j + 3))) n) (cwV 0 hts gL_law_X2_thrown rfl rfl rfl (by decide +kernel) ⟨(Nat.le_of_ble_eq_true rfl), (Nat.le_of_ble_eq_true rfl)⟩) ⟨hp_fb, va_recv hK hPM2 (ci := 2) (q0 := 0) rfl hp_M_o, fun U hU hW => ⟨rfl, hp_to hPM2 hK hU hW⟩⟩ rfl rfl hl.1 rfl (lv_room (Nat.le_of_ble_eq_true rfl)) dL_law_510 ⟨show 22 + j + 1 + 0 + 0 ≤ 639101 by omega, show 505 + 10 * j + 6 + 0 + 0 ≤ 7178800 by omega⟩) (fun r_1 hr_1 => ?_)
  subst hr_1
  refine hp_top (va_up_self _ _ _) ?_
  refine lv_iload hx hb dL_law_513 (lv_at hl 1 rfl) ?_
  refine lv_icmp_eq (tgt := 520) hx hb dL_law_515 (by decide) (fun _ => ?_) (fun c9 => absurd rfl c9)
  refine lv_iload hx hb dL_law_520 (lv_at hl 1 rfl) ?_
  have hend : ∀ ls : Array Slot, lv_has ls 7 [(6, .int (hp_a_clear r (xs (7 * j + 1)) (xs (7 * j + 2)) (xs (7 * j + 3)))), (5, .int (hp_c_clear (xs (7 * j + 1)) (xs (7 * j + 2)) (xs (7 * j + 3)))), (4, .int (nI (7 * j))), (0, .ref b), (1, .ref ox), (2, .ref om), (3, .ref oq)] → W p l e room_1 s m #[Value.ref b] below meth c H2 locs2 (22 + j + 1 + 0) (505 + 10 * j + 6 + 0) Q (F0 m 537 ls []) := by
    intro ls hl
    refine lv_goto (tgt := 1581) hx hb dL_law_537 (by decide) ?_
    refine lv_iinc (v := nI (7 * (j + 1))) (lv' := [(4, .int (nI (7 * (j + 1)))), (6, .int (hp_a_clear r (xs (7 * j + 1)) (xs (7 * j + 2)) (xs (7 * j + 3)))), (5, .int (hp_c_clear (xs (7 * j + 1)) (xs (7 * j + 2)) (xs (7 * j + 3)))), (0, .ref b), (1, .ref ox), (2, .ref om), (3, .ref oq)]) hx hb dL_law_1581 hl (k := 2) rfl (hp_i7 j) (by decide) rfl (fun ls hl => ?_)
    refine lv_goto (tgt := 23) hx hb dL_law_1584 (by decide) ?_
    refine W.widen (k := 22 + (j + 1)) (n := 505 + 10 * (j + 1)) (by omega) (by omega) ?_
    exact ih H2 _ ls u.1 u.2 v (hp_r_clear r (xs (7 * j + 1)) (xs (7 * j + 2)) (xs (7 * j + 3))) n (hp_c_clear (xs (7 * j + 1)) (xs (7 * j + 2)) (xs (7 * j + 3))) ⟨hP2, hD1, hPM2, hDM, hp_sepM hsep1, hp_i_clear hinv (xs (7 * j + 1)) (xs (7 * j + 2)) (xs (7 * j + 3))⟩ hS2 (lv_sub hl [0, 3, 4, 5, 6] rfl)
  refine lv_if_ne (tgt := 537) hx hb dL_law_522 (by decide) (fun _ => hend ls hl) (fun c0 => ?_)
  have ha := hans c0
  refine lv_aload_n hx hb dL_law_525 rfl (lv_at hl 6 rfl) ?_
  refine lv_iconst (v := 0) hx hb dL_law_526 (by decide) ?_
  refine va_lald (f := u.2) hx hb hK hP2 0 3 rfl rfl (i := 0) (by unfold vp_in; decide) dL_law_527 ?_
  refine hp_topl (y := (hp_a_clear r (xs (7 * j + 1)) (xs (7 * j + 2)) (xs (7 * j + 3))).toInt64) (by rw [sb_cl0]; exact ha) ?_
  refine lv_iload hx hb dL_law_528 (lv_at hl 0 rfl) ?_
  refine lv_i2l hx hb dL_law_530 rfl ?_
  refine hp_lcmp hx hb dL_law_531 (rfl) ?_
  refine lv_if_eq (tgt := 537) hx hb dL_law_532 (by decide) (fun _ => hend ls hl) (fun c9 => absurd rfl c9)
set_option maxHeartbeats 400000 in
set_option maxRecDepth 100000 in
theorem law_part {p : Program} {e : Env} {s : State} {m : MethodId} {below : List Frame} {meth : Method} {c : Code} (l : Launch) (hl0 : l.stackTraces = false) {b L : Nat} {xs : Nat → Int32} (hx : p.tables.exec = Jvm.exec) (hb : c.code = code) (hml : c.maxLocals = 7) (hown : s.vm.findClass RL = some m.cls) (hts : ∀ w ∈ wsL_law, w.before #[Value.ref b] s = true) (hX : va_X b L xs s s.heap) (hbl : b < s.heap.size) (hL : L ≤ 3584) {dC : Nat → ClassId} {dI : Nat → Nat → Nat} {cI cZ cO cJ : ClassId} (hK : va_K (dC, dI) vwCl (hp_ty cI cZ cO cJ) s) (hN : hp_ex s) (hstr : hp_str s) (hZu : hp_Zu (hp_A s) s s.heap) (hZn : hp_Zn (hp_A s) s s.heap) (hnc : hp_nc s) {ox om oq : Nat} {bx am : Nat → Nat} {Q : State → Prop} {j : Nat} (hj : 7 * j + 7 ≤ L)
    (ih : ∀ (H : Heap) (locs : List Loc) (ls : Array Slot) (ad : Nat → Nat) (g : Nat → Int64) (v : Nat → Int32) (r : Nat → Nat → Int32) (n : Nat) (t : Int32), hp_LI (dC, dI) cI cZ cO cJ (hp_A s) ox om oq bx am ad g v r n t H → va_S (hp_A s) s.heap H locs → lv_has ls 7 [(4, .int (nI (7 * (j + 1)))), (0, .ref b), (1, .ref ox), (2, .ref om), (3, .ref oq)] → W p l e room_1 s m #[Value.ref b] below meth c H locs (22 + (j + 1)) (505 + 10 * (j + 1)) Q (F0 m 23 ls []))
    {H : Heap} {locs : List Loc} {ls : Array Slot} {ad : Nat → Nat} {g : Nat → Int64} {v : Nat → Int32} {r : Nat → Nat → Int32} {n : Nat} {t : Int32} (hI : hp_LI (dC, dI) cI cZ cO cJ (hp_A s) ox om oq bx am ad g v r n t H) (hS : va_S (hp_A s) s.heap H locs) (hl : lv_has ls 7 [(4, .int (nI (7 * j))), (0, .ref b), (1, .ref ox), (2, .ref om), (3, .ref oq)]) : W p l e room_1 s m #[Value.ref b] below meth c H locs (22 + j) (505 + 10 * j) Q (F0 m 540 ls []) := by
  obtain ⟨hP, hD, hPM, hDM, hsep, hinv⟩ := hI
  have hA : ∀ q : Nat, s.heap.size ≤ q → hp_A s q := fun _ h => h
  have hbA : ¬ hp_A s b := Nat.not_le.mpr hbl
  have hb7 : 7 * j + 7 < 2 ^ 31 := by omega
  refine lv_aload_n hx hb dL_law_540 rfl (lv_at hl 2 rfl) ?_
  refine lv_aload_n hx hb dL_law_541 rfl (lv_at hl 1 rfl) ?_
  refine lv_iload hx hb dL_law_542 (lv_at hl 0 rfl) ?_
  refine lv_iconst (v := 1) hx hb dL_law_544 (by decide) ?_
  refine lv_iadd hx hb dL_law_545 ?_
  refine hp_top (show nI (7 * j) + 1 = nI (7 * j + 1) from nI_add _ _) ?_
  refine hp_sld hx hb hX hbl hbA hS (show 7 * j + 1 < L by omega) (by omega) dL_law_546 ?_
  refine lv_aload_n hx hb dL_law_547 rfl (lv_at hl 1 rfl) ?_
  refine lv_iload hx hb dL_law_548 (lv_at hl 0 rfl) ?_
  refine lv_iconst (v := 2) hx hb dL_law_550 (by decide) ?_
  refine lv_iadd hx hb dL_law_551 ?_
  refine hp_top (show nI (7 * j) + 2 = nI (7 * j + 2) from nI_add _ _) ?_
  refine hp_sld hx hb hX hbl hbA hS (show 7 * j + 2 < L by omega) (by omega) dL_law_552 ?_
  refine lv_aload_n hx hb dL_law_553 rfl (lv_at hl 4 rfl) ?_
  have hFc := hp_free hD hS hA
  refine vx_calli (vx_runSX (As := [.ref ox, .int (xs (7 * j + 1)), .int (xs (7 * j + 2)), .ref oq]) (rest := []) ⟨hx, hb, hml, hown, hts⟩ (c_L_part l hl0 dC dI cI cZ cO cJ ox bx ad v r n oq g H.size (xs (7 * j + 1)) (xs (7 * j + 2)) hinv) (vx_cwSW 4 hts gL_law_L_part rfl rfl rfl (by decide +kernel) ⟨(Nat.le_of_ble_eq_true rfl), (Nat.le_of_ble_eq_true rfl)⟩) ⟨hp_fbL, fun U hU hW => ⟨rfl, hp_toT hP hK hD hN hstr hZu hZn hS hA hU hW, hp_nc_mv hW.alike hnc⟩⟩ rfl rfl hl.1 rfl (lv_room (Nat.le_of_ble_eq_true rfl)) dL_law_554 ⟨show 22 + j + 1 ≤ 639101 by omega, show 505 + 10 * j + 6 ≤ 7178800 by omega⟩) hS (fun q _ h => hFc q h) hFc (fun q _ h => hFc q h) (fun _ _ _ _ _ _ _ _ _ hpx _ _ _ _ _ _ _ => False.elim hpx) (fun r9 u t9 H1 locs1 ht _ hw hB hsz1 hkk hS1 => ?_)
  obtain ⟨rfl, hans⟩ := hw
  obtain ⟨hPx, hDx⟩ := hB
  have hPM1 := hp_sepP hPM hsep hkk
  have hsep1 := hp_sepN hPM hsep hDx
  have hP1 := hp_th ht hPx
  have hD1 := hDx.weaken (fun k q _ h => hFc q.1 h)
  clear hP hD hPM hPx hDx hkk ht hFc hS
  refine lv_istore (lv' := [(5, .int (hp_c_part (xs (7 * j + 1)) (xs (7 * j + 2)))), (4, .int (nI (7 * j))), (0, .ref b), (1, .ref ox), (2, .ref om), (3, .ref oq)]) hx hb dL_law_557 hl (by decide) rfl (fun ls hl => ?_)
  refine lv_aload_n hx hb dL_law_559 rfl (lv_at hl 4 rfl) ?_
  refine lv_aload_n hx hb dL_law_560 rfl (lv_at hl 2 rfl) ?_
  refine lv_iload hx hb dL_law_561 (lv_at hl 1 rfl) ?_
  refine lv_iconst (v := 1) hx hb dL_law_563 (by decide) ?_
  refine lv_iadd hx hb dL_law_564 ?_
  refine hp_top (show nI (7 * j) + 1 = nI (7 * j + 1) from nI_add _ _) ?_
  refine hp_sld hx hb hX hbl hbA hS1 (show 7 * j + 1 < L by omega) (by omega) dL_law_565 ?_
  refine lv_aload_n hx hb dL_law_566 rfl (lv_at hl 2 rfl) ?_
  refine lv_iload hx hb dL_law_567 (lv_at hl 1 rfl) ?_
  refine lv_iconst (v := 2) hx hb dL_law_569 (by decide) ?_
  refine lv_iadd hx hb dL_law_570 ?_
  refine hp_top (show nI (7 * j) + 2 = nI (7 * j + 2) from nI_add _ _) ?_
  refine hp_sld hx hb hX hbl hbA hS1 (show 7 * j + 2 < L by omega) (by omega) dL_law_571 ?_
  have hFm := hp_free (hDM (va_up v 0 t) r n) hS1 hA
  refine va_calli (va_runV (As := [.int (xs (7 * j + 1)), .int (xs (7 * j + 2))]) (rest := []) ⟨hx, hb, hml, hown, hts⟩ (c_X2_part l dC dI cI cZ cO cJ om am (va_up v 0 t) r n H1.size (xs (7 * j + 1)) (xs (7 * j + 2))) (cwV 2 hts gL_law_X2_part rfl rfl rfl (by decide +kernel) ⟨(Nat.le_of_ble_eq_true rfl), (Nat.le_of_ble_eq_true rfl)⟩) ⟨hp_mfb, va_recv hK hPM1 (ci := 2) (q0 := 0) rfl hp_M_o, fun U hU hW => ⟨rfl, hp_mto hPM1 hK (hDM _ _ _) hU hW⟩⟩ rfl rfl hl.1 rfl (lv_room (Nat.le_of_ble_eq_true rfl)) dL_law_572 ⟨show 22 + j + 1 + 0 ≤ 639101 by omega, show 505 + 10 * j + 6 + 0 ≤ 7178800 by omega⟩) hS1 (fun q _ h => hFm q h) hFm (fun r9 u9 t9 H2 locs2 ht _ hw hB _ hkk hS2 => ?_)
  have hPM2 : va_P (dC, dI) vwCl (hp_M cI cZ om am (va_up v 0 (hp_c_part (xs (7 * j + 1)) (xs (7 * j + 2)))) (hp_r_part r (xs (7 * j + 1)) (xs (7 * j + 2))) n) H2 := hp_cP (by exact congrArg (fun z => hp_M cI cZ om am z (hp_r_part r (xs (7 * j + 1)) (xs (7 * j + 2))) n) (bx_uu v 0 t _)) (hp_th ht hB)
  have hP2 := hp_sepP hP1 (hp_sep_sym hsep1) hkk
  obtain rfl : r9 = hp_a_part r (xs (7 * j + 1)) (xs (7 * j + 2)) := hw
  clear hPM1 hP1 hB hkk ht hFm hS1
  refine lv_istore (lv' := [(6, .int (hp_a_part r (xs (7 * j + 1)) (xs (7 * j + 2)))), (5, .int (hp_c_part (xs (7 * j + 1)) (xs (7 * j + 2)))), (4, .int (nI (7 * j))), (0, .ref b), (1, .ref ox), (2, .ref om), (3, .ref oq)]) hx hb dL_law_575 hl (by decide) rfl (fun ls hl => ?_)
  refine lv_aload_n hx hb dL_law_577 rfl (lv_at hl 5 rfl) ?_
  refine vp_callSi (W.runV (As := []) (rest := []) ⟨hx, hb, hml, hown, hts⟩ (c_X2_thrown l dC dI cI cZ cO cJ om am (va_up v 0 (hp_c_part (xs (7 * j + 1)) (xs (7 * j + 2)))) (hp_r_part r (xs (7 * j + 1)) (xs (7 * j + 2))) n) (cwV 0 hts gL_law_X2_thrown rfl rfl rfl (by decide +kernel) ⟨(Nat.le_of_ble_eq_true rfl), (Nat.le_of_ble_eq_true rfl)⟩) ⟨hp_fb, va_recv hK hPM2 (ci := 2) (q0 := 0) rfl hp_M_o, fun U hU hW => ⟨rfl, hp_to hPM2 hK hU hW⟩⟩ rfl rfl hl.1 rfl (lv_room (Nat.le_of_ble_eq_true rfl)) dL_law_578 ⟨show 22 + j + 1 + 0 + 0 ≤ 639101 by omega, show 505 + 10 * j + 6 + 0 + 0 ≤ 7178800 by omega⟩) (fun r_1 hr_1 => ?_)
  subst hr_1
  refine hp_top (va_up_self _ _ _) ?_
  refine lv_iload hx hb dL_law_581 (lv_at hl 1 rfl) ?_
  refine lv_icmp_eq (tgt := 588) hx hb dL_law_583 (by decide) (fun _ => ?_) (fun c9 => absurd rfl c9)
  refine lv_iload hx hb dL_law_588 (lv_at hl 1 rfl) ?_
  have hend : ∀ ls : Array Slot, lv_has ls 7 [(6, .int (hp_a_part r (xs (7 * j + 1)) (xs (7 * j + 2)))), (5, .int (hp_c_part (xs (7 * j + 1)) (xs (7 * j + 2)))), (4, .int (nI (7 * j))), (0, .ref b), (1, .ref ox), (2, .ref om), (3, .ref oq)] → W p l e room_1 s m #[Value.ref b] below meth c H2 locs2 (22 + j + 1 + 0) (505 + 10 * j + 6 + 0) Q (F0 m 605 ls []) := by
    intro ls hl
    refine lv_goto (tgt := 1581) hx hb dL_law_605 (by decide) ?_
    refine lv_iinc (v := nI (7 * (j + 1))) (lv' := [(4, .int (nI (7 * (j + 1)))), (6, .int (hp_a_part r (xs (7 * j + 1)) (xs (7 * j + 2)))), (5, .int (hp_c_part (xs (7 * j + 1)) (xs (7 * j + 2)))), (0, .ref b), (1, .ref ox), (2, .ref om), (3, .ref oq)]) hx hb dL_law_1581 hl (k := 2) rfl (hp_i7 j) (by decide) rfl (fun ls hl => ?_)
    refine lv_goto (tgt := 23) hx hb dL_law_1584 (by decide) ?_
    refine W.widen (k := 22 + (j + 1)) (n := 505 + 10 * (j + 1)) (by omega) (by omega) ?_
    exact ih H2 _ ls u.1 u.2 v (hp_r_part r (xs (7 * j + 1)) (xs (7 * j + 2))) n (hp_c_part (xs (7 * j + 1)) (xs (7 * j + 2))) ⟨hP2, hD1, hPM2, hDM, hp_sepM hsep1, hp_i_part hinv (xs (7 * j + 1)) (xs (7 * j + 2))⟩ hS2 (lv_sub hl [0, 3, 4, 5, 6] rfl)
  refine lv_if_ne (tgt := 605) hx hb dL_law_590 (by decide) (fun _ => hend ls hl) (fun c0 => ?_)
  have ha := hans c0
  refine lv_aload_n hx hb dL_law_593 rfl (lv_at hl 6 rfl) ?_
  refine lv_iconst (v := 0) hx hb dL_law_594 (by decide) ?_
  refine va_lald (f := u.2) hx hb hK hP2 0 3 rfl rfl (i := 0) (by unfold vp_in; decide) dL_law_595 ?_
  refine hp_topl (y := (hp_a_part r (xs (7 * j + 1)) (xs (7 * j + 2))).toInt64) (by rw [sb_cl0]; exact ha) ?_
  refine lv_iload hx hb dL_law_596 (lv_at hl 0 rfl) ?_
  refine lv_i2l hx hb dL_law_598 rfl ?_
  refine hp_lcmp hx hb dL_law_599 (rfl) ?_
  refine lv_if_eq (tgt := 605) hx hb dL_law_600 (by decide) (fun _ => hend ls hl) (fun c9 => absurd rfl c9)
set_option maxHeartbeats 400000 in
set_option maxRecDepth 100000 in
theorem law_lead {p : Program} {e : Env} {s : State} {m : MethodId} {below : List Frame} {meth : Method} {c : Code} (l : Launch) (hl0 : l.stackTraces = false) {b L : Nat} {xs : Nat → Int32} (hx : p.tables.exec = Jvm.exec) (hb : c.code = code) (hml : c.maxLocals = 7) (hown : s.vm.findClass RL = some m.cls) (hts : ∀ w ∈ wsL_law, w.before #[Value.ref b] s = true) (hX : va_X b L xs s s.heap) (hbl : b < s.heap.size) (hL : L ≤ 3584) {dC : Nat → ClassId} {dI : Nat → Nat → Nat} {cI cZ cO cJ : ClassId} (hK : va_K (dC, dI) vwCl (hp_ty cI cZ cO cJ) s) (hN : hp_ex s) (hstr : hp_str s) (hZu : hp_Zu (hp_A s) s s.heap) (hZn : hp_Zn (hp_A s) s s.heap) (hnc : hp_nc s) {ox om oq : Nat} {bx am : Nat → Nat} {Q : State → Prop} {j : Nat} (hj : 7 * j + 7 ≤ L)
    (ih : ∀ (H : Heap) (locs : List Loc) (ls : Array Slot) (ad : Nat → Nat) (g : Nat → Int64) (v : Nat → Int32) (r : Nat → Nat → Int32) (n : Nat) (t : Int32), hp_LI (dC, dI) cI cZ cO cJ (hp_A s) ox om oq bx am ad g v r n t H → va_S (hp_A s) s.heap H locs → lv_has ls 7 [(4, .int (nI (7 * (j + 1)))), (0, .ref b), (1, .ref ox), (2, .ref om), (3, .ref oq)] → W p l e room_1 s m #[Value.ref b] below meth c H locs (22 + (j + 1)) (505 + 10 * (j + 1)) Q (F0 m 23 ls []))
    {H : Heap} {locs : List Loc} {ls : Array Slot} {ad : Nat → Nat} {g : Nat → Int64} {v : Nat → Int32} {r : Nat → Nat → Int32} {n : Nat} {t : Int32} (hI : hp_LI (dC, dI) cI cZ cO cJ (hp_A s) ox om oq bx am ad g v r n t H) (hS : va_S (hp_A s) s.heap H locs) (hl : lv_has ls 7 [(4, .int (nI (7 * j))), (0, .ref b), (1, .ref ox), (2, .ref om), (3, .ref oq)]) : W p l e room_1 s m #[Value.ref b] below meth c H locs (22 + j) (505 + 10 * j) Q (F0 m 608 ls []) := by
  obtain ⟨hP, hD, hPM, hDM, hsep, hinv⟩ := hI
  have hA : ∀ q : Nat, s.heap.size ≤ q → hp_A s q := fun _ h => h
  have hbA : ¬ hp_A s b := Nat.not_le.mpr hbl
  have hb7 : 7 * j + 7 < 2 ^ 31 := by omega
  refine lv_aload_n hx hb dL_law_608 rfl (lv_at hl 2 rfl) ?_
  refine lv_aload_n hx hb dL_law_609 rfl (lv_at hl 1 rfl) ?_
  refine lv_iload hx hb dL_law_610 (lv_at hl 0 rfl) ?_
  refine lv_iconst (v := 1) hx hb dL_law_612 (by decide) ?_
  refine lv_iadd hx hb dL_law_613 ?_
  refine hp_top (show nI (7 * j) + 1 = nI (7 * j + 1) from nI_add _ _) ?_
  refine hp_sld hx hb hX hbl hbA hS (show 7 * j + 1 < L by omega) (by omega) dL_law_614 ?_
  refine lv_aload_n hx hb dL_law_615 rfl (lv_at hl 1 rfl) ?_
  refine lv_iload hx hb dL_law_616 (lv_at hl 0 rfl) ?_
  refine lv_iconst (v := 2) hx hb dL_law_618 (by decide) ?_
  refine lv_iadd hx hb dL_law_619 ?_
  refine hp_top (show nI (7 * j) + 2 = nI (7 * j + 2) from nI_add _ _) ?_
  refine hp_sld hx hb hX hbl hbA hS (show 7 * j + 2 < L by omega) (by omega) dL_law_620 ?_
  refine lv_aload_n hx hb dL_law_621 rfl (lv_at hl 4 rfl) ?_
  have hFc := hp_free hD hS hA
  refine vx_calli (vx_runSX (As := [.ref ox, .int (xs (7 * j + 1)), .int (xs (7 * j + 2)), .ref oq]) (rest := []) ⟨hx, hb, hml, hown, hts⟩ (c_L_lead l hl0 dC dI cI cZ cO cJ ox bx ad v r n oq g H.size (xs (7 * j + 1)) (xs (7 * j + 2)) hinv) (vx_cwSW 4 hts gL_law_L_lead rfl rfl rfl (by decide +kernel) ⟨(Nat.le_of_ble_eq_true rfl), (Nat.le_of_ble_eq_true rfl)⟩) ⟨hp_fbL, fun U hU hW => ⟨rfl, hp_toT hP hK hD hN hstr hZu hZn hS hA hU hW, hp_nc_mv hW.alike hnc⟩⟩ rfl rfl hl.1 rfl (lv_room (Nat.le_of_ble_eq_true rfl)) dL_law_622 ⟨show 22 + j + 1 ≤ 639101 by omega, show 505 + 10 * j + 6 ≤ 7178800 by omega⟩) hS (fun q _ h => hFc q h) hFc (fun q _ h => hFc q h) (fun _ _ _ _ _ _ _ _ _ hpx _ _ _ _ _ _ _ => False.elim hpx) (fun r9 u t9 H1 locs1 ht _ hw hB hsz1 hkk hS1 => ?_)
  obtain ⟨rfl, hans⟩ := hw
  obtain ⟨hPx, hDx⟩ := hB
  have hPM1 := hp_sepP hPM hsep hkk
  have hsep1 := hp_sepN hPM hsep hDx
  have hP1 := hp_th ht hPx
  have hD1 := hDx.weaken (fun k q _ h => hFc q.1 h)
  clear hP hD hPM hPx hDx hkk ht hFc hS
  refine lv_istore (lv' := [(5, .int (hp_c_lead (xs (7 * j + 1)) (xs (7 * j + 2)))), (4, .int (nI (7 * j))), (0, .ref b), (1, .ref ox), (2, .ref om), (3, .ref oq)]) hx hb dL_law_625 hl (by decide) rfl (fun ls hl => ?_)
  refine lv_aload_n hx hb dL_law_627 rfl (lv_at hl 4 rfl) ?_
  refine lv_aload_n hx hb dL_law_628 rfl (lv_at hl 2 rfl) ?_
  refine lv_iload hx hb dL_law_629 (lv_at hl 1 rfl) ?_
  refine lv_iconst (v := 1) hx hb dL_law_631 (by decide) ?_
  refine lv_iadd hx hb dL_law_632 ?_
  refine hp_top (show nI (7 * j) + 1 = nI (7 * j + 1) from nI_add _ _) ?_
  refine hp_sld hx hb hX hbl hbA hS1 (show 7 * j + 1 < L by omega) (by omega) dL_law_633 ?_
  refine lv_aload_n hx hb dL_law_634 rfl (lv_at hl 2 rfl) ?_
  refine lv_iload hx hb dL_law_635 (lv_at hl 1 rfl) ?_
  refine lv_iconst (v := 2) hx hb dL_law_637 (by decide) ?_
  refine lv_iadd hx hb dL_law_638 ?_
  refine hp_top (show nI (7 * j) + 2 = nI (7 * j + 2) from nI_add _ _) ?_
  refine hp_sld hx hb hX hbl hbA hS1 (show 7 * j + 2 < L by omega) (by omega) dL_law_639 ?_
  have hFm := hp_free (hDM (va_up v 0 t) r n) hS1 hA
  refine va_calli (va_runV (As := [.int (xs (7 * j + 1)), .int (xs (7 * j + 2))]) (rest := []) ⟨hx, hb, hml, hown, hts⟩ (c_X2_lead l dC dI cI cZ cO cJ om am (va_up v 0 t) r n H1.size (xs (7 * j + 1)) (xs (7 * j + 2))) (cwV 2 hts gL_law_X2_lead rfl rfl rfl (by decide +kernel) ⟨(Nat.le_of_ble_eq_true rfl), (Nat.le_of_ble_eq_true rfl)⟩) ⟨hp_mfb, va_recv hK hPM1 (ci := 2) (q0 := 0) rfl hp_M_o, fun U hU hW => ⟨rfl, hp_mto hPM1 hK (hDM _ _ _) hU hW⟩⟩ rfl rfl hl.1 rfl (lv_room (Nat.le_of_ble_eq_true rfl)) dL_law_640 ⟨show 22 + j + 1 + 0 ≤ 639101 by omega, show 505 + 10 * j + 6 + 0 ≤ 7178800 by omega⟩) hS1 (fun q _ h => hFm q h) hFm (fun r9 u9 t9 H2 locs2 ht _ hw hB _ hkk hS2 => ?_)
  have hPM2 : va_P (dC, dI) vwCl (hp_M cI cZ om am (va_up v 0 (hp_c_lead (xs (7 * j + 1)) (xs (7 * j + 2)))) (hp_r_lead r (xs (7 * j + 1)) (xs (7 * j + 2))) n) H2 := hp_cP (by exact congrArg (fun z => hp_M cI cZ om am z (hp_r_lead r (xs (7 * j + 1)) (xs (7 * j + 2))) n) (bx_uu v 0 t _)) (hp_th ht hB)
  have hP2 := hp_sepP hP1 (hp_sep_sym hsep1) hkk
  obtain rfl : r9 = hp_a_lead r (xs (7 * j + 1)) (xs (7 * j + 2)) := hw
  clear hPM1 hP1 hB hkk ht hFm hS1
  refine lv_istore (lv' := [(6, .int (hp_a_lead r (xs (7 * j + 1)) (xs (7 * j + 2)))), (5, .int (hp_c_lead (xs (7 * j + 1)) (xs (7 * j + 2)))), (4, .int (nI (7 * j))), (0, .ref b), (1, .ref ox), (2, .ref om), (3, .ref oq)]) hx hb dL_law_643 hl (by decide) rfl (fun ls hl => ?_)
  refine lv_aload_n hx hb dL_law_645 rfl (lv_at hl 5 rfl) ?_
  refine vp_callSi (W.runV (As := []) (rest := []) ⟨hx, hb, hml, hown, hts⟩ (c_X2_thrown l dC dI cI cZ cO cJ om am (va_up v 0 (hp_c_lead (xs (7 * j + 1)) (xs (7 * j + 2)))) (hp_r_lead r (xs (7 * j + 1)) (xs (7 * j + 2))) n) (cwV 0 hts gL_law_X2_thrown rfl rfl rfl (by decide +kernel) ⟨(Nat.le_of_ble_eq_true rfl), (Nat.le_of_ble_eq_true rfl)⟩) ⟨hp_fb, va_recv hK hPM2 (ci := 2) (q0 := 0) rfl hp_M_o, fun U hU hW => ⟨rfl, hp_to hPM2 hK hU hW⟩⟩ rfl rfl hl.1 rfl (lv_room (Nat.le_of_ble_eq_true rfl)) dL_law_646 ⟨show 22 + j + 1 + 0 + 0 ≤ 639101 by omega, show 505 + 10 * j + 6 + 0 + 0 ≤ 7178800 by omega⟩) (fun r_1 hr_1 => ?_)
  subst hr_1
  refine hp_top (va_up_self _ _ _) ?_
  refine lv_iload hx hb dL_law_649 (lv_at hl 1 rfl) ?_
  refine lv_icmp_eq (tgt := 656) hx hb dL_law_651 (by decide) (fun _ => ?_) (fun c9 => absurd rfl c9)
  refine lv_iload hx hb dL_law_656 (lv_at hl 1 rfl) ?_
  have hend : ∀ ls : Array Slot, lv_has ls 7 [(6, .int (hp_a_lead r (xs (7 * j + 1)) (xs (7 * j + 2)))), (5, .int (hp_c_lead (xs (7 * j + 1)) (xs (7 * j + 2)))), (4, .int (nI (7 * j))), (0, .ref b), (1, .ref ox), (2, .ref om), (3, .ref oq)] → W p l e room_1 s m #[Value.ref b] below meth c H2 locs2 (22 + j + 1 + 0) (505 + 10 * j + 6 + 0) Q (F0 m 673 ls []) := by
    intro ls hl
    refine lv_goto (tgt := 1581) hx hb dL_law_673 (by decide) ?_
    refine lv_iinc (v := nI (7 * (j + 1))) (lv' := [(4, .int (nI (7 * (j + 1)))), (6, .int (hp_a_lead r (xs (7 * j + 1)) (xs (7 * j + 2)))), (5, .int (hp_c_lead (xs (7 * j + 1)) (xs (7 * j + 2)))), (0, .ref b), (1, .ref ox), (2, .ref om), (3, .ref oq)]) hx hb dL_law_1581 hl (k := 2) rfl (hp_i7 j) (by decide) rfl (fun ls hl => ?_)
    refine lv_goto (tgt := 23) hx hb dL_law_1584 (by decide) ?_
    refine W.widen (k := 22 + (j + 1)) (n := 505 + 10 * (j + 1)) (by omega) (by omega) ?_
    exact ih H2 _ ls u.1 u.2 v (hp_r_lead r (xs (7 * j + 1)) (xs (7 * j + 2))) n (hp_c_lead (xs (7 * j + 1)) (xs (7 * j + 2))) ⟨hP2, hD1, hPM2, hDM, hp_sepM hsep1, hp_i_lead hinv (xs (7 * j + 1)) (xs (7 * j + 2))⟩ hS2 (lv_sub hl [0, 3, 4, 5, 6] rfl)
  refine lv_if_ne (tgt := 673) hx hb dL_law_658 (by decide) (fun _ => hend ls hl) (fun c0 => ?_)
  have ha := hans c0
  refine lv_aload_n hx hb dL_law_661 rfl (lv_at hl 6 rfl) ?_
  refine lv_iconst (v := 0) hx hb dL_law_662 (by decide) ?_
  refine va_lald (f := u.2) hx hb hK hP2 0 3 rfl rfl (i := 0) (by unfold vp_in; decide) dL_law_663 ?_
  refine hp_topl (y := (hp_a_lead r (xs (7 * j + 1)) (xs (7 * j + 2))).toInt64) (by rw [sb_cl0]; exact ha) ?_
  refine lv_iload hx hb dL_law_664 (lv_at hl 0 rfl) ?_
  refine lv_i2l hx hb dL_law_666 rfl ?_
  refine hp_lcmp hx hb dL_law_667 (rfl) ?_
  refine lv_if_eq (tgt := 673) hx hb dL_law_668 (by decide) (fun _ => hend ls hl) (fun c9 => absurd rfl c9)
