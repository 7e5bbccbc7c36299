/-! the law, call by call -/
set_option maxHeartbeats 400000 in
set_option maxRecDepth 100000 in
theorem law_parts {p : Program} {e : Env} {s : State} {m : MethodId} {below : List Frame} {meth : Method} {c : Code} (l : Launch) (hl0 : l.stackTraces = false) {b L : Nat} {xs : Nat → Int32} (hx : p.tables.exec = Jvm.exec) (hb : c.code = code) (hml : c.maxLocals = 7) (hown : s.vm.findClass RL = some m.cls) (hts : ∀ w ∈ wsL_law, w.before #[Value.ref b] s = true) (hX : va_X b L xs s s.heap) (hbl : b < s.heap.size) (hL : L ≤ 3584) {dC : Nat → ClassId} {dI : Nat → Nat → Nat} {cI cZ cO cJ : ClassId} (hK : va_K (dC, dI) vwCl (hp_ty cI cZ cO cJ) s) (hN : hp_ex s) (hstr : hp_str s) (hZu : hp_Zu (hp_A s) s s.heap) (hZn : hp_Zn (hp_A s) s s.heap) (hnc : hp_nc s) {ox om oq : Nat} {bx am : Nat → Nat} {Q : State → Prop} {j : Nat} (hj : 7 * j + 7 ≤ L)
    (ih : ∀ (H : Heap) (locs : List Loc) (ls : Array Slot) (ad : Nat → Nat) (g : Nat → Int64) (v : Nat → Int32) (r : Nat → Nat → Int32) (n : Nat) (t : Int32), hp_LI (dC, dI) cI cZ cO cJ (hp_A s) ox om oq bx am ad g v r n t H → va_S (hp_A s) s.heap H locs → lv_has ls 7 [(4, .int (nI (7 * (j + 1)))), (0, .ref b), (1, .ref ox), (2, .ref om), (3, .ref oq)] → W p l e room_1 s m #[Value.ref b] below meth c H locs (22 + (j + 1)) (505 + 10 * (j + 1)) Q (F0 m 23 ls []))
    {H : Heap} {locs : List Loc} {ls : Array Slot} {ad : Nat → Nat} {g : Nat → Int64} {v : Nat → Int32} {r : Nat → Nat → Int32} {n : Nat} {t : Int32} (hI : hp_LI (dC, dI) cI cZ cO cJ (hp_A s) ox om oq bx am ad g v r n t H) (hS : va_S (hp_A s) s.heap H locs) (hl : lv_has ls 7 [(4, .int (nI (7 * j))), (0, .ref b), (1, .ref ox), (2, .ref om), (3, .ref oq)]) : W p l e room_1 s m #[Value.ref b] below meth c H locs (22 + j) (505 + 10 * j) Q (F0 m 1270 ls []) := by
  obtain ⟨hP, hD, hPM, hDM, hsep, hinv⟩ := hI
  have hA : ∀ q : Nat, s.heap.size ≤ q → hp_A s q := fun _ h => h
  have hbA : ¬ hp_A s b := Nat.not_le.mpr hbl
  have hb7 : 7 * j + 7 < 2 ^ 31 := by omega
  refine lv_aload_n hx hb dL_law_1270 rfl (lv_at hl 2 rfl) ?_
  refine lv_aload_n hx hb dL_law_1271 rfl (lv_at hl 1 rfl) ?_
  refine lv_iload hx hb dL_law_1272 (lv_at hl 0 rfl) ?_
  refine lv_iconst (v := 1) hx hb dL_law_1274 (by decide) ?_
  refine lv_iadd hx hb dL_law_1275 ?_
  refine hp_top (show nI (7 * j) + 1 = nI (7 * j + 1) from nI_add _ _) ?_
  refine hp_sld hx hb hX hbl hbA hS (show 7 * j + 1 < L by omega) (by omega) dL_law_1276 ?_
  refine lv_aload_n hx hb dL_law_1277 rfl (lv_at hl 4 rfl) ?_
  have hFc := hp_free hD hS hA
  refine vx_calli (vx_runSX (As := [.ref ox, .int (xs (7 * j + 1)), .ref oq]) (rest := []) ⟨hx, hb, hml, hown, hts⟩ (c_L_parts l hl0 dC dI cI cZ cO cJ ox bx ad v r n oq g H.size (xs (7 * j + 1)) hinv) (vx_cwSW 3 hts gL_law_L_parts rfl rfl rfl (by decide +kernel) ⟨(Nat.le_of_ble_eq_true rfl), (Nat.le_of_ble_eq_true rfl)⟩) ⟨hp_fbL, fun U hU hW => ⟨rfl, hp_toT hP hK hD hN hstr hZu hZn hS hA hU hW, hp_nc_mv hW.alike hnc⟩⟩ rfl rfl hl.1 rfl (lv_room (Nat.le_of_ble_eq_true rfl)) dL_law_1278 ⟨show 22 + j + 1 ≤ 639101 by omega, show 505 + 10 * j + 6 ≤ 7178800 by omega⟩) hS (fun q _ h => hFc q h) hFc (fun q _ h => hFc q h) (fun _ _ _ _ _ _ _ _ _ hpx _ _ _ _ _ _ _ => False.elim hpx) (fun r9 u t9 H1 locs1 ht _ hw hB hsz1 hkk hS1 => ?_)
  obtain ⟨rfl, hans⟩ := hw
  obtain ⟨hPx, hDx⟩ := hB
  have hPM1 := hp_sepP hPM hsep hkk
  have hsep1 := hp_sepN hPM hsep hDx
  have hP1 := hp_th ht hPx
  have hD1 := hDx.weaken (fun k q _ h => hFc q.1 h)
  clear hP hD hPM hPx hDx hkk ht hFc hS
  refine lv_istore (lv' := [(5, .int (hp_c_kd (xs (7 * j + 1)))), (4, .int (nI (7 * j))), (0, .ref b), (1, .ref ox), (2, .ref om), (3, .ref oq)]) hx hb dL_law_1281 hl (by decide) rfl (fun ls hl => ?_)
  refine lv_aload_n hx hb dL_law_1283 rfl (lv_at hl 4 rfl) ?_
  refine lv_aload_n hx hb dL_law_1284 rfl (lv_at hl 2 rfl) ?_
  refine lv_iload hx hb dL_law_1285 (lv_at hl 1 rfl) ?_
  refine lv_iconst (v := 1) hx hb dL_law_1287 (by decide) ?_
  refine lv_iadd hx hb dL_law_1288 ?_
  refine hp_top (show nI (7 * j) + 1 = nI (7 * j + 1) from nI_add _ _) ?_
  refine hp_sld hx hb hX hbl hbA hS1 (show 7 * j + 1 < L by omega) (by omega) dL_law_1289 ?_
  have hFm := hp_free (hDM (va_up v 0 t) r n) hS1 hA
  refine va_calli (va_runV (As := [.int (xs (7 * j + 1))]) (rest := []) ⟨hx, hb, hml, hown, hts⟩ (c_X2_parts l dC dI cI cZ cO cJ om am (va_up v 0 t) r n H1.size (xs (7 * j + 1)) (hp_inv_up t hinv)) (cwV 1 hts gL_law_X2_parts rfl rfl rfl (by decide +kernel) ⟨(Nat.le_of_ble_eq_true rfl), (Nat.le_of_ble_eq_true rfl)⟩) ⟨hp_mfb, va_recv hK hPM1 (ci := 2) (q0 := 0) rfl hp_M_o, fun U hU hW => ⟨rfl, hp_mto hPM1 hK (hDM _ _ _) hU hW⟩⟩ rfl rfl hl.1 rfl (lv_room (Nat.le_of_ble_eq_true rfl)) dL_law_1290 ⟨show 22 + j + 1 + 0 ≤ 639101 by omega, show 505 + 10 * j + 6 + 0 ≤ 7178800 by omega⟩) hS1 (fun q _ h => hFm q h) hFm (fun r9 u9 t9 H2 locs2 ht _ hw hB _ hkk hS2 => ?_)
  have hPM2 : va_P (dC, dI) vwCl (hp_M cI cZ om am (va_up v 0 (hp_c_kd (xs (7 * j + 1)))) r n) H2 := hp_cP (by exact congrArg (fun z => hp_M cI cZ om am z r n) (bx_uu v 0 t _)) (hp_th ht hB)
  have hP2 := hp_sepP hP1 (hp_sep_sym hsep1) hkk
  obtain rfl : r9 = hp_a_parts r n (xs (7 * j + 1)) 0 := hw
  clear hPM1 hP1 hB hkk ht hFm hS1
  refine lv_istore (lv' := [(6, .int (hp_a_parts r n (xs (7 * j + 1)) 0)), (5, .int (hp_c_kd (xs (7 * j + 1)))), (4, .int (nI (7 * j))), (0, .ref b), (1, .ref ox), (2, .ref om), (3, .ref oq)]) hx hb dL_law_1293 hl (by decide) rfl (fun ls hl => ?_)
  refine lv_aload_n hx hb dL_law_1295 rfl (lv_at hl 5 rfl) ?_
  refine vp_callSi (W.runV (As := []) (rest := []) ⟨hx, hb, hml, hown, hts⟩ (c_X2_thrown l dC dI cI cZ cO cJ om am (va_up v 0 (hp_c_kd (xs (7 * j + 1)))) r n) (cwV 0 hts gL_law_X2_thrown rfl rfl rfl (by decide +kernel) ⟨(Nat.le_of_ble_eq_true rfl), (Nat.le_of_ble_eq_true rfl)⟩) ⟨hp_fb, va_recv hK hPM2 (ci := 2) (q0 := 0) rfl hp_M_o, fun U hU hW => ⟨rfl, hp_to hPM2 hK hU hW⟩⟩ rfl rfl hl.1 rfl (lv_room (Nat.le_of_ble_eq_true rfl)) dL_law_1296 ⟨show 22 + j + 1 + 0 + 0 ≤ 639101 by omega, show 505 + 10 * j + 6 + 0 + 0 ≤ 7178800 by omega⟩) (fun r_1 hr_1 => ?_)
  subst hr_1
  refine hp_top (va_up_self _ _ _) ?_
  refine lv_iload hx hb dL_law_1299 (lv_at hl 1 rfl) ?_
  refine lv_icmp_eq (tgt := 1306) hx hb dL_law_1301 (by decide) (fun _ => ?_) (fun c9 => absurd rfl c9)
  refine lv_iload hx hb dL_law_1306 (lv_at hl 1 rfl) ?_
  have hend : ∀ ls : Array Slot, lv_has ls 7 [(6, .int (hp_a_parts r n (xs (7 * j + 1)) 0)), (5, .int (hp_c_kd (xs (7 * j + 1)))), (4, .int (nI (7 * j))), (0, .ref b), (1, .ref ox), (2, .ref om), (3, .ref oq)] → W p l e room_1 s m #[Value.ref b] below meth c H2 locs2 (22 + j + 1 + 0) (505 + 10 * j + 6 + 0) Q (F0 m 1323 ls []) := by
    intro ls hl
    refine lv_goto (tgt := 1581) hx hb dL_law_1323 (by decide) ?_
    refine lv_iinc (v := nI (7 * (j + 1))) (lv' := [(4, .int (nI (7 * (j + 1)))), (6, .int (hp_a_parts r n (xs (7 * j + 1)) 0)), (5, .int (hp_c_kd (xs (7 * j + 1)))), (0, .ref b), (1, .ref ox), (2, .ref om), (3, .ref oq)]) hx hb dL_law_1581 hl (k := 2) rfl (hp_i7 j) (by decide) rfl (fun ls hl => ?_)
    refine lv_goto (tgt := 23) hx hb dL_law_1584 (by decide) ?_
    refine W.widen (k := 22 + (j + 1)) (n := 505 + 10 * (j + 1)) (by omega) (by omega) ?_
    exact ih H2 _ ls u.1 u.2 v r n (hp_c_kd (xs (7 * j + 1))) ⟨hP2, hD1, hPM2, hDM, hp_sepM hsep1, hinv⟩ hS2 (lv_sub hl [0, 3, 4, 5, 6] rfl)
  refine lv_if_ne (tgt := 1323) hx hb dL_law_1308 (by decide) (fun _ => hend ls hl) (fun c0 => ?_)
  have ha := hans c0
  refine lv_aload_n hx hb dL_law_1311 rfl (lv_at hl 6 rfl) ?_
  refine lv_iconst (v := 0) hx hb dL_law_1312 (by decide) ?_
  refine va_lald (f := u.2) hx hb hK hP2 0 3 rfl rfl (i := 0) (by unfold vp_in; decide) dL_law_1313 ?_
  refine hp_topl (y := (hp_a_parts r n (xs (7 * j + 1)) 0).toInt64) (by rw [sb_cl0]; exact ha) ?_
  refine lv_iload hx hb dL_law_1314 (lv_at hl 0 rfl) ?_
  refine lv_i2l hx hb dL_law_1316 rfl ?_
  refine hp_lcmp hx hb dL_law_1317 (rfl) ?_
  refine lv_if_eq (tgt := 1323) hx hb dL_law_1318 (by decide) (fun _ => hend ls hl) (fun c9 => absurd rfl c9)
set_option maxHeartbeats 400000 in
set_option maxRecDepth 100000 in
theorem law_partsAnew {p : Program} {e : Env} {s : State} {m : MethodId} {below : List Frame} {meth : Method} {c : Code} (l : Launch) (hl0 : l.stackTraces = false) {b L : Nat} {xs : Nat → Int32} (hx : p.tables.exec = Jvm.exec) (hb : c.code = code) (hml : c.maxLocals = 7) (hown : s.vm.findClass RL = some m.cls) (hts : ∀ w ∈ wsL_law, w.before #[Value.ref b] s = true) (hX : va_X b L xs s s.heap) (hbl : b < s.heap.size) (hL : L ≤ 3584) {dC : Nat → ClassId} {dI : Nat → Nat → Nat} {cI cZ cO cJ : ClassId} (hK : va_K (dC, dI) vwCl (hp_ty cI cZ cO cJ) s) (hN : hp_ex s) (hstr : hp_str s) (hZu : hp_Zu (hp_A s) s s.heap) (hZn : hp_Zn (hp_A s) s s.heap) (hnc : hp_nc s) {ox om oq : Nat} {bx am : Nat → Nat} {Q : State → Prop} {j : Nat} (hj : 7 * j + 7 ≤ L)
    (ih : ∀ (H : Heap) (locs : List Loc) (ls : Array Slot) (ad : Nat → Nat) (g : Nat → Int64) (v : Nat → Int32) (r : Nat → Nat → Int32) (n : Nat) (t : Int32), hp_LI (dC, dI) cI cZ cO cJ (hp_A s) ox om oq bx am ad g v r n t H → va_S (hp_A s) s.heap H locs → lv_has ls 7 [(4, .int (nI (7 * (j + 1)))), (0, .ref b), (1, .ref ox), (2, .ref om), (3, .ref oq)] → W p l e room_1 s m #[Value.ref b] below meth c H locs (22 + (j + 1)) (505 + 10 * (j + 1)) Q (F0 m 23 ls []))
    {H : Heap} {locs : List Loc} {ls : Array Slot} {ad : Nat → Nat} {g : Nat → Int64} {v : Nat → Int32} {r : Nat → Nat → Int32} {n : Nat} {t : Int32} (hI : hp_LI (dC, dI) cI cZ cO cJ (hp_A s) ox om oq bx am ad g v r n t H) (hS : va_S (hp_A s) s.heap H locs) (hl : lv_has ls 7 [(4, .int (nI (7 * j))), (0, .ref b), (1, .ref ox), (2, .ref om), (3, .ref oq)]) : W p l e room_1 s m #[Value.ref b] below meth c H locs (22 + j) (505 + 10 * j) Q (F0 m 1326 ls []) := by
  obtain ⟨hP, hD, hPM, hDM, hsep, hinv⟩ := hI
  have hA : ∀ q : Nat, s.heap.size ≤ q → hp_A s q := fun _ h => h
  have hbA : ¬ hp_A s b := Nat.not_le.mpr hbl
  have hb7 : 7 * j + 7 < 2 ^ 31 := by omega
  refine lv_aload_n hx hb dL_law_1326 rfl (lv_at hl 2 rfl) ?_
  refine lv_aload_n hx hb dL_law_1327 rfl (lv_at hl 1 rfl) ?_
  refine lv_iload hx hb dL_law_1328 (lv_at hl 0 rfl) ?_
  refine lv_iconst (v := 1) hx hb dL_law_1330 (by decide) ?_
  refine lv_iadd hx hb dL_law_1331 ?_
  refine hp_top (show nI (7 * j) + 1 = nI (7 * j + 1) from nI_add _ _) ?_
  refine hp_sld hx hb hX hbl hbA hS (show 7 * j + 1 < L by omega) (by omega) dL_law_1332 ?_
  refine lv_aload_n hx hb dL_law_1333 rfl (lv_at hl 4 rfl) ?_
  have hFc := hp_free hD hS hA
  refine vx_calli (vx_runSX (As := [.ref ox, .int (xs (7 * j + 1)), .ref oq]) (rest := []) ⟨hx, hb, hml, hown, hts⟩ (c_L_partsAnew l hl0 dC dI cI cZ cO cJ ox bx ad v r n oq g H.size (xs (7 * j + 1)) hinv) (vx_cwSW 3 hts gL_law_L_partsAnew rfl rfl rfl (by decide +kernel) ⟨(Nat.le_of_ble_eq_true rfl), (Nat.le_of_ble_eq_true rfl)⟩) ⟨hp_fbL, fun U hU hW => ⟨rfl, hp_toT hP hK hD hN hstr hZu hZn hS hA hU hW, hp_nc_mv hW.alike hnc⟩⟩ rfl rfl hl.1 rfl (lv_room (Nat.le_of_ble_eq_true rfl)) dL_law_1334 ⟨show 22 + j + 1 ≤ 639101 by omega, show 505 + 10 * j + 6 ≤ 7178800 by omega⟩) hS (fun q _ h => hFc q h) hFc (fun q _ h => hFc q h) (fun _ _ _ _ _ _ _ _ _ hpx _ _ _ _ _ _ _ => False.elim hpx) (fun r9 u t9 H1 locs1 ht _ hw hB hsz1 hkk hS1 => ?_)
  obtain ⟨rfl, hans⟩ := hw
  obtain ⟨hPx, hDx⟩ := hB
  have hPM1 := hp_sepP hPM hsep hkk
  have hsep1 := hp_sepN hPM hsep hDx
  have hP1 := hp_th ht hPx
  have hD1 := hDx.weaken (fun k q _ h => hFc q.1 h)
  clear hP hD hPM hPx hDx hkk ht hFc hS
  refine lv_istore (lv' := [(5, .int (hp_c_kd (xs (7 * j + 1)))), (4, .int (nI (7 * j))), (0, .ref b), (1, .ref ox), (2, .ref om), (3, .ref oq)]) hx hb dL_law_1337 hl (by decide) rfl (fun ls hl => ?_)
  refine lv_aload_n hx hb dL_law_1339 rfl (lv_at hl 4 rfl) ?_
  refine lv_aload_n hx hb dL_law_1340 rfl (lv_at hl 2 rfl) ?_
  refine lv_iload hx hb dL_law_1341 (lv_at hl 1 rfl) ?_
  refine lv_iconst (v := 1) hx hb dL_law_1343 (by decide) ?_
  refine lv_iadd hx hb dL_law_1344 ?_
  refine hp_top (show nI (7 * j) + 1 = nI (7 * j + 1) from nI_add _ _) ?_
  refine hp_sld hx hb hX hbl hbA hS1 (show 7 * j + 1 < L by omega) (by omega) dL_law_1345 ?_
  have hFm := hp_free (hDM (va_up v 0 t) r n) hS1 hA
  refine va_calli (va_runV (As := [.int (xs (7 * j + 1))]) (rest := []) ⟨hx, hb, hml, hown, hts⟩ (c_X2_partsAnew l dC dI cI cZ cO cJ om am (va_up v 0 t) r n H1.size (xs (7 * j + 1)) (hp_inv_up t hinv)) (cwV 1 hts gL_law_X2_partsAnew rfl rfl rfl (by decide +kernel) ⟨(Nat.le_of_ble_eq_true rfl), (Nat.le_of_ble_eq_true rfl)⟩) ⟨hp_mfb, va_recv hK hPM1 (ci := 2) (q0 := 0) rfl hp_M_o, fun U hU hW => ⟨rfl, hp_mto hPM1 hK (hDM _ _ _) hU hW⟩⟩ rfl rfl hl.1 rfl (lv_room (Nat.le_of_ble_eq_true rfl)) dL_law_1346 ⟨show 22 + j + 1 + 0 ≤ 639101 by omega, show 505 + 10 * j + 6 + 0 ≤ 7178800 by omega⟩) hS1 (fun q _ h => hFm q h) hFm (fun r9 u9 t9 H2 locs2 ht _ hw hB _ hkk hS2 => ?_)
  have hPM2 : va_P (dC, dI) vwCl (hp_M cI cZ om am (va_up v 0 (hp_c_kd (xs (7 * j + 1)))) r n) H2 := hp_cP (by exact congrArg (fun z => hp_M cI cZ om am z r n) (bx_uu v 0 t _)) (hp_th ht hB)
  have hP2 := hp_sepP hP1 (hp_sep_sym hsep1) hkk
  obtain rfl : r9 = hp_a_parts r n (xs (7 * j + 1)) 0 := hw
  clear hPM1 hP1 hB hkk ht hFm hS1
  refine lv_istore (lv' := [(6, .int (hp_a_parts r n (xs (7 * j + 1)) 0)), (5, .int (hp_c_kd (xs (7 * j + 1)))), (4, .int (nI (7 * j))), (0, .ref b), (1, .ref ox), (2, .ref om), (3, .ref oq)]) hx hb dL_law_1349 hl (by decide) rfl (fun ls hl => ?_)
  refine lv_aload_n hx hb dL_law_1351 rfl (lv_at hl 5 rfl) ?_
  refine vp_callSi (W.runV (As := []) (rest := []) ⟨hx, hb, hml, hown, hts⟩ (c_X2_thrown l dC dI cI cZ cO cJ om am (va_up v 0 (hp_c_kd (xs (7 * j + 1)))) r n) (cwV 0 hts gL_law_X2_thrown rfl rfl rfl (by decide +kernel) ⟨(Nat.le_of_ble_eq_true rfl), (Nat.le_of_ble_eq_true rfl)⟩) ⟨hp_fb, va_recv hK hPM2 (ci := 2) (q0 := 0) rfl hp_M_o, fun U hU hW => ⟨rfl, hp_to hPM2 hK hU hW⟩⟩ rfl rfl hl.1 rfl (lv_room (Nat.le_of_ble_eq_true rfl)) dL_law_1352 ⟨show 22 + j + 1 + 0 + 0 ≤ 639101 by omega, show 505 + 10 * j + 6 + 0 + 0 ≤ 7178800 by omega⟩) (fun r_1 hr_1 => ?_)
  subst hr_1
  refine hp_top (va_up_self _ _ _) ?_
  refine lv_iload hx hb dL_law_1355 (lv_at hl 1 rfl) ?_
  refine lv_icmp_eq (tgt := 1362) hx hb dL_law_1357 (by decide) (fun _ => ?_) (fun c9 => absurd rfl c9)
  refine lv_iload hx hb dL_law_1362 (lv_at hl 1 rfl) ?_
  have hend : ∀ ls : Array Slot, lv_has ls 7 [(6, .int (hp_a_parts r n (xs (7 * j + 1)) 0)), (5, .int (hp_c_kd (xs (7 * j + 1)))), (4, .int (nI (7 * j))), (0, .ref b), (1, .ref ox), (2, .ref om), (3, .ref oq)] → W p l e room_1 s m #[Value.ref b] below meth c H2 locs2 (22 + j + 1 + 0) (505 + 10 * j + 6 + 0) Q (F0 m 1379 ls []) := by
    intro ls hl
    refine lv_goto (tgt := 1581) hx hb dL_law_1379 (by decide) ?_
    refine lv_iinc (v := nI (7 * (j + 1))) (lv' := [(4, .int (nI (7 * (j + 1)))), (6, .int (hp_a_parts r n (xs (7 * j + 1)) 0)), (5, .int (hp_c_kd (xs (7 * j + 1)))), (0, .ref b), (1, .ref ox), (2, .ref om), (3, .ref oq)]) hx hb dL_law_1581 hl (k := 2) rfl (hp_i7 j) (by decide) rfl (fun ls hl => ?_)
    refine lv_goto (tgt := 23) hx hb dL_law_1584 (by decide) ?_
    refine W.widen (k := 22 + (j + 1)) (n := 505 + 10 * (j + 1)) (by omega) (by omega) ?_
    exact ih H2 _ ls u.1 u.2 v r n (hp_c_kd (xs (7 * j + 1))) ⟨hP2, hD1, hPM2, hDM, hp_sepM hsep1, hinv⟩ hS2 (lv_sub hl [0, 3, 4, 5, 6] rfl)
  refine lv_if_ne (tgt := 1379) hx hb dL_law_1364 (by decide) (fun _ => hend ls hl) (fun c0 => ?_)
  have ha := hans c0
  refine lv_aload_n hx hb dL_law_1367 rfl (lv_at hl 6 rfl) ?_
  refine lv_iconst (v := 0) hx hb dL_law_1368 (by decide) ?_
  refine va_lald (f := u.2) hx hb hK hP2 0 3 rfl rfl (i := 0) (by unfold vp_in; decide) dL_law_1369 ?_
  refine hp_topl (y := (hp_a_parts r n (xs (7 * j + 1)) 0).toInt64) (by rw [sb_cl0]; exact ha) ?_
  refine lv_iload hx hb dL_law_1370 (lv_at hl 0 rfl) ?_
  refine lv_i2l hx hb dL_law_1372 rfl ?_
  refine hp_lcmp hx hb dL_law_1373 (rfl) ?_
  refine lv_if_eq (tgt := 1379) hx hb dL_law_1374 (by decide) (fun _ => hend ls hl) (fun c9 => absurd rfl c9)
set_option maxHeartbeats 400000 in
set_option maxRecDepth 100000 in
theorem law_ordered {p : Program} {e : Env} {s : State} {m : MethodId} {below : List Frame} {meth : Method} {c : Code} (l : Launch) (hl0 : l.stackTraces = false) {b L : Nat} {xs : Nat → Int32} (hx : p.tables.exec = Jvm.exec) (hb : c.code = code) (hml : c.maxLocals = 7) (hown : s.vm.findClass RL = some m.cls) (hts : ∀ w ∈ wsL_law, w.before #[Value.ref b] s = true) (hX : va_X b L xs s s.heap) (hbl : b < s.heap.size) (hL : L ≤ 3584) {dC : Nat → ClassId} {dI : Nat → Nat → Nat} {cI cZ cO cJ : ClassId} (hK : va_K (dC, dI) vwCl (hp_ty cI cZ cO cJ) s) (hN : hp_ex s) (hstr : hp_str s) (hZu : hp_Zu (hp_A s) s s.heap) (hZn : hp_Zn (hp_A s) s s.heap) (hnc : hp_nc s) {ox om oq : Nat} {bx am : Nat → Nat} {Q : State → Prop} {j : Nat} (hj : 7 * j + 7 ≤ L)
    (ih : ∀ (H : Heap) (locs : List Loc) (ls : Array Slot) (ad : Nat → Nat) (g : Nat → Int64) (v : Nat → Int32) (r : Nat → Nat → Int32) (n : Nat) (t : Int32), hp_LI (dC, dI) cI cZ cO cJ (hp_A s) ox om oq bx am ad g v r n t H → va_S (hp_A s) s.heap H locs → lv_has ls 7 [(4, .int (nI (7 * (j + 1)))), (0, .ref b), (1, .ref ox), (2, .ref om), (3, .ref oq)] → W p l e room_1 s m #[Value.ref b] below meth c H locs (22 + (j + 1)) (505 + 10 * (j + 1)) Q (F0 m 23 ls []))
    {H : Heap} {locs : List Loc} {ls : Array Slot} {ad : Nat → Nat} {g : Nat → Int64} {v : Nat → Int32} {r : Nat → Nat → Int32} {n : Nat} {t : Int32} (hI : hp_LI (dC, dI) cI cZ cO cJ (hp_A s) ox om oq bx am ad g v r n t H) (hS : va_S (hp_A s) s.heap H locs) (hl : lv_has ls 7 [(4, .int (nI (7 * j))), (0, .ref b), (1, .ref ox), (2, .ref om), (3, .ref oq)]) : W p l e room_1 s m #[Value.ref b] below meth c H locs (22 + j) (505 + 10 * j) Q (F0 m 1382 ls []) := by
  obtain ⟨hP, hD, hPM, hDM, hsep, hinv⟩ := hI
  have hA : ∀ q : Nat, s.heap.size ≤ q → hp_A s q := fun _ h => h
  have hbA : ¬ hp_A s b := Nat.not_le.mpr hbl
  have hb7 : 7 * j + 7 < 2 ^ 31 := by omega
  refine lv_aload_n hx hb dL_law_1382 rfl (lv_at hl 2 rfl) ?_
  refine lv_aload_n hx hb dL_law_1383 rfl (lv_at hl 1 rfl) ?_
  refine lv_iload hx hb dL_law_1384 (lv_at hl 0 rfl) ?_
  refine lv_iconst (v := 1) hx hb dL_law_1386 (by decide) ?_
  refine lv_iadd hx hb dL_law_1387 ?_
  refine hp_top (show nI (7 * j) + 1 = nI (7 * j + 1) from nI_add _ _) ?_
  refine hp_sld hx hb hX hbl hbA hS (show 7 * j + 1 < L by omega) (by omega) dL_law_1388 ?_
  refine lv_aload_n hx hb dL_law_1389 rfl (lv_at hl 4 rfl) ?_
  have hFc := hp_free hD hS hA
  refine vx_calli (vx_runSX (As := [.ref ox, .int (xs (7 * j + 1)), .ref oq]) (rest := []) ⟨hx, hb, hml, hown, hts⟩ (c_L_ordered l hl0 dC dI cI cZ cO cJ ox bx ad v r n oq g H.size (xs (7 * j + 1)) hinv) (vx_cwSW 3 hts gL_law_L_ordered rfl rfl rfl (by decide +kernel) ⟨(Nat.le_of_ble_eq_true rfl), (Nat.le_of_ble_eq_true rfl)⟩) ⟨hp_fbL, fun U hU hW => ⟨rfl, hp_toT hP hK hD hN hstr hZu hZn hS hA hU hW, hp_nc_mv hW.alike hnc⟩⟩ rfl rfl hl.1 rfl (lv_room (Nat.le_of_ble_eq_true rfl)) dL_law_1390 ⟨show 22 + j + 1 ≤ 639101 by omega, show 505 + 10 * j + 6 ≤ 7178800 by omega⟩) hS (fun q _ h => hFc q h) hFc (fun q _ h => hFc q h) (fun _ _ _ _ _ _ _ _ _ hpx _ _ _ _ _ _ _ => False.elim hpx) (fun r9 u t9 H1 locs1 ht _ hw hB hsz1 hkk hS1 => ?_)
  obtain ⟨rfl, hans⟩ := hw
  obtain ⟨hPx, hDx⟩ := hB
  have hPM1 := hp_sepP hPM hsep hkk
  have hsep1 := hp_sepN hPM hsep hDx
  have hP1 := hp_th ht hPx
  have hD1 := hDx.weaken (fun k q _ h => hFc q.1 h)
  clear hP hD hPM hPx hDx hkk ht hFc hS
  refine lv_istore (lv' := [(5, .int (hp_c_kd (xs (7 * j + 1)))), (4, .int (nI (7 * j))), (0, .ref b), (1, .ref ox), (2, .ref om), (3, .ref oq)]) hx hb dL_law_1393 hl (by decide) rfl (fun ls hl => ?_)
  refine lv_aload_n hx hb dL_law_1395 rfl (lv_at hl 4 rfl) ?_
  refine lv_aload_n hx hb dL_law_1396 rfl (lv_at hl 2 rfl) ?_
  refine lv_iload hx hb dL_law_1397 (lv_at hl 1 rfl) ?_
  refine lv_iconst (v := 1) hx hb dL_law_1399 (by decide) ?_
  refine lv_iadd hx hb dL_law_1400 ?_
  refine hp_top (show nI (7 * j) + 1 = nI (7 * j + 1) from nI_add _ _) ?_
  refine hp_sld hx hb hX hbl hbA hS1 (show 7 * j + 1 < L by omega) (by omega) dL_law_1401 ?_
  have hFm := hp_free (hDM (va_up v 0 t) r n) hS1 hA
  refine va_calli (va_runV (As := [.int (xs (7 * j + 1))]) (rest := []) ⟨hx, hb, hml, hown, hts⟩ (c_X2_ordered l dC dI cI cZ cO cJ om am (va_up v 0 t) r n H1.size (xs (7 * j + 1)) (hp_inv_up t hinv)) (cwV 1 hts gL_law_X2_ordered rfl rfl rfl (by decide +kernel) ⟨(Nat.le_of_ble_eq_true rfl), (Nat.le_of_ble_eq_true rfl)⟩) ⟨hp_mfb, va_recv hK hPM1 (ci := 2) (q0 := 0) rfl hp_M_o, fun U hU hW => ⟨rfl, hp_mto hPM1 hK (hDM _ _ _) hU hW⟩⟩ rfl rfl hl.1 rfl (lv_room (Nat.le_of_ble_eq_true rfl)) dL_law_1402 ⟨show 22 + j + 1 + 0 ≤ 639101 by omega, show 505 + 10 * j + 6 + 0 ≤ 7178800 by omega⟩) hS1 (fun q _ h => hFm q h) hFm (fun r9 u9 t9 H2 locs2 ht _ hw hB _ hkk hS2 => ?_)
  have hPM2 : va_P (dC, dI) vwCl (hp_M cI cZ om am (va_up v 0 (hp_c_kd (xs (7 * j + 1)))) r n) H2 := hp_cP (by exact congrArg (fun z => hp_M cI cZ om am z r n) (bx_uu v 0 t _)) (hp_th ht hB)
  have hP2 := hp_sepP hP1 (hp_sep_sym hsep1) hkk
  obtain rfl : r9 = hp_a_parts r n (xs (7 * j + 1)) 1 := hw
  clear hPM1 hP1 hB hkk ht hFm hS1
  refine lv_istore (lv' := [(6, .int (hp_a_parts r n (xs (7 * j + 1)) 1)), (5, .int (hp_c_kd (xs (7 * j + 1)))), (4, .int (nI (7 * j))), (0, .ref b), (1, .ref ox), (2, .ref om), (3, .ref oq)]) hx hb dL_law_1405 hl (by decide) rfl (fun ls hl => ?_)
  refine lv_aload_n hx hb dL_law_1407 rfl (lv_at hl 5 rfl) ?_
  refine vp_callSi (W.runV (As := []) (rest := []) ⟨hx, hb, hml, hown, hts⟩ (c_X2_thrown l dC dI cI cZ cO cJ om am (va_up v 0 (hp_c_kd (xs (7 * j + 1)))) r n) (cwV 0 hts gL_law_X2_thrown rfl rfl rfl (by decide +kernel) ⟨(Nat.le_of_ble_eq_true rfl), (Nat.le_of_ble_eq_true rfl)⟩) ⟨hp_fb, va_recv hK hPM2 (ci := 2) (q0 := 0) rfl hp_M_o, fun U hU hW => ⟨rfl, hp_to hPM2 hK hU hW⟩⟩ rfl rfl hl.1 rfl (lv_room (Nat.le_of_ble_eq_true rfl)) dL_law_1408 ⟨show 22 + j + 1 + 0 + 0 ≤ 639101 by omega, show 505 + 10 * j + 6 + 0 + 0 ≤ 7178800 by omega⟩) (fun r_1 hr_1 => ?_)
  subst hr_1
  refine hp_top (va_up_self _ _ _) ?_
  refine lv_iload hx hb dL_law_1411 (lv_at hl 1 rfl) ?_
  refine lv_icmp_eq (tgt := 1418) hx hb dL_law_1413 (by decide) (fun _ => ?_) (fun c9 => absurd rfl c9)
  refine lv_iload hx hb dL_law_1418 (lv_at hl 1 rfl) ?_
  have hend : ∀ ls : Array Slot, lv_has ls 7 [(6, .int (hp_a_parts r n (xs (7 * j + 1)) 1)), (5, .int (hp_c_kd (xs (7 * j + 1)))), (4, .int (nI (7 * j))), (0, .ref b), (1, .ref ox), (2, .ref om), (3, .ref oq)] → W p l e room_1 s m #[Value.ref b] below meth c H2 locs2 (22 + j + 1 + 0) (505 + 10 * j + 6 + 0) Q (F0 m 1435 ls []) := by
    intro ls hl
    refine lv_goto (tgt := 1581) hx hb dL_law_1435 (by decide) ?_
    refine lv_iinc (v := nI (7 * (j + 1))) (lv' := [(4, .int (nI (7 * (j + 1)))), (6, .int (hp_a_parts r n (xs (7 * j + 1)) 1)), (5, .int (hp_c_kd (xs (7 * j + 1)))), (0, .ref b), (1, .ref ox), (2, .ref om), (3, .ref oq)]) hx hb dL_law_1581 hl (k := 2) rfl (hp_i7 j) (by decide) rfl (fun ls hl => ?_)
    refine lv_goto (tgt := 23) hx hb dL_law_1584 (by decide) ?_
    refine W.widen (k := 22 + (j + 1)) (n := 505 + 10 * (j + 1)) (by omega) (by omega) ?_
    exact ih H2 _ ls u.1 u.2 v r n (hp_c_kd (xs (7 * j + 1))) ⟨hP2, hD1, hPM2, hDM, hp_sepM hsep1, hinv⟩ hS2 (lv_sub hl [0, 3, 4, 5, 6] rfl)
  refine lv_if_ne (tgt := 1435) hx hb dL_law_1420 (by decide) (fun _ => hend ls hl) (fun c0 => ?_)
  have ha := hans c0
  refine lv_aload_n hx hb dL_law_1423 rfl (lv_at hl 6 rfl) ?_
  refine lv_iconst (v := 0) hx hb dL_law_1424 (by decide) ?_
  refine va_lald (f := u.2) hx hb hK hP2 0 3 rfl rfl (i := 0) (by unfold vp_in; decide) dL_law_1425 ?_
  refine hp_topl (y := (hp_a_parts r n (xs (7 * j + 1)) 1).toInt64) (by rw [sb_cl0]; exact ha) ?_
  refine lv_iload hx hb dL_law_1426 (lv_at hl 0 rfl) ?_
  refine lv_i2l hx hb dL_law_1428 rfl ?_
  refine hp_lcmp hx hb dL_law_1429 (rfl) ?_
  refine lv_if_eq (tgt := 1435) hx hb dL_law_1430 (by decide) (fun _ => hend ls hl) (fun c9 => absurd rfl c9)
set_option maxHeartbeats 400000 in
set_option maxRecDepth 100000 in
theorem law_kindsAt {p : Program} {e : Env} {s : State} {m : MethodId} {below : List Frame} {meth : Method} {c : Code} (l : Launch) (hl0 : l.stackTraces = false) {b L : Nat} {xs : Nat → Int32} (hx : p.tables.exec = Jvm.exec) (hb : c.code = code) (hml : c.maxLocals = 7) (hown : s.vm.findClass RL = some m.cls) (hts : ∀ w ∈ wsL_law, w.before #[Value.ref b] s = true) (hX : va_X b L xs s s.heap) (hbl : b < s.heap.size) (hL : L ≤ 3584) {dC : Nat → ClassId} {dI : Nat → Nat → Nat} {cI cZ cO cJ : ClassId} (hK : va_K (dC, dI) vwCl (hp_ty cI cZ cO cJ) s) (hN : hp_ex s) (hstr : hp_str s) (hZu : hp_Zu (hp_A s) s s.heap) (hZn : hp_Zn (hp_A s) s s.heap) (hnc : hp_nc s) {ox om oq : Nat} {bx am : Nat → Nat} {Q : State → Prop} {j : Nat} (hj : 7 * j + 7 ≤ L)
    (ih : ∀ (H : Heap) (locs : List Loc) (ls : Array Slot) (ad : Nat → Nat) (g : Nat → Int64) (v : Nat → Int32) (r : Nat → Nat → Int32) (n : Nat) (t : Int32), hp_LI (dC, dI) cI cZ cO cJ (hp_A s) ox om oq bx am ad g v r n t H → va_S (hp_A s) s.heap H locs → lv_has ls 7 [(4, .int (nI (7 * (j + 1)))), (0, .ref b), (1, .ref ox), (2, .ref om), (3, .ref oq)] → W p l e room_1 s m #[Value.ref b] below meth c H locs (22 + (j + 1)) (505 + 10 * (j + 1)) Q (F0 m 23 ls []))
    {H : Heap} {locs : List Loc} {ls : Array Slot} {ad : Nat → Nat} {g : Nat → Int64} {v : Nat → Int32} {r : Nat → Nat → Int32} {n : Nat} {t : Int32} (hI : hp_LI (dC, dI) cI cZ cO cJ (hp_A s) ox om oq bx am ad g v r n t H) (hS : va_S (hp_A s) s.heap H locs) (hl : lv_has ls 7 [(4, .int (nI (7 * j))), (0, .ref b), (1, .ref ox), (2, .ref om), (3, .ref oq)]) : W p l e room_1 s m #[Value.ref b] below meth c H locs (22 + j) (505 + 10 * j) Q (F0 m 1438 ls []) := by
  obtain ⟨hP, hD, hPM, hDM, hsep, hinv⟩ := hI
  have hA : ∀ q : Nat, s.heap.size ≤ q → hp_A s q := fun _ h => h
  have hbA : ¬ hp_A s b := Nat.not_le.mpr hbl
  have hb7 : 7 * j + 7 < 2 ^ 31 := by omega
  refine lv_aload_n hx hb dL_law_1438 rfl (lv_at hl 2 rfl) ?_
  refine lv_aload_n hx hb dL_law_1439 rfl (lv_at hl 1 rfl) ?_
  refine lv_iload hx hb dL_law_1440 (lv_at hl 0 rfl) ?_
  refine lv_iconst (v := 1) hx hb dL_law_1442 (by decide) ?_
  refine lv_iadd hx hb dL_law_1443 ?_
  refine hp_top (show nI (7 * j) + 1 = nI (7 * j + 1) from nI_add _ _) ?_
  refine hp_sld hx hb hX hbl hbA hS (show 7 * j + 1 < L by omega) (by omega) dL_law_1444 ?_
  refine lv_aload_n hx hb dL_law_1445 rfl (lv_at hl 1 rfl) ?_
  refine lv_iload hx hb dL_law_1446 (lv_at hl 0 rfl) ?_
  refine lv_iconst (v := 2) hx hb dL_law_1448 (by decide) ?_
  refine lv_iadd hx hb dL_law_1449 ?_
  refine hp_top (show nI (7 * j) + 2 = nI (7 * j + 2) from nI_add _ _) ?_
  refine hp_sld hx hb hX hbl hbA hS (show 7 * j + 2 < L by omega) (by omega) dL_law_1450 ?_
  refine lv_aload_n hx hb dL_law_1451 rfl (lv_at hl 1 rfl) ?_
  refine lv_iload hx hb dL_law_1452 (lv_at hl 0 rfl) ?_
  refine lv_iconst (v := 3) hx hb dL_law_1454 (by decide) ?_
  refine lv_iadd hx hb dL_law_1455 ?_
  refine hp_top (show nI (7 * j) + 3 = nI (7 * j + 3) from nI_add _ _) ?_
  refine hp_sld hx hb hX hbl hbA hS (show 7 * j + 3 < L by omega) (by omega) dL_law_1456 ?_
  refine lv_aload_n hx hb dL_law_1457 rfl (lv_at hl 4 rfl) ?_
  have hFc := hp_free hD hS hA
  refine vx_calli (vx_runSX (As := [.ref ox, .int (xs (7 * j + 1)), .int (xs (7 * j + 2)), .int (xs (7 * j + 3)), .ref oq]) (rest := []) ⟨hx, hb, hml, hown, hts⟩ (c_L_kindsAt l hl0 dC dI cI cZ cO cJ ox bx ad v r n oq g H.size (xs (7 * j + 1)) (xs (7 * j + 2)) (xs (7 * j + 3)) hinv) (vx_cwSW 5 hts gL_law_L_kindsAt rfl rfl rfl (by decide +kernel) ⟨(Nat.le_of_ble_eq_true rfl), (Nat.le_of_ble_eq_true rfl)⟩) ⟨hp_fbL, fun U hU hW => ⟨rfl, hp_toT hP hK hD hN hstr hZu hZn hS hA hU hW, hp_nc_mv hW.alike hnc⟩⟩ rfl rfl hl.1 rfl (lv_room (Nat.le_of_ble_eq_true rfl)) dL_law_1458 ⟨show 22 + j + 1 ≤ 639101 by omega, show 505 + 10 * j + 6 ≤ 7178800 by omega⟩) hS (fun q _ h => hFc q h) hFc (fun q _ h => hFc q h) (fun _ _ _ _ _ _ _ _ _ hpx _ _ _ _ _ _ _ => False.elim hpx) (fun r9 u t9 H1 locs1 ht _ hw hB hsz1 hkk hS1 => ?_)
  obtain ⟨rfl, hans⟩ := hw
  obtain ⟨hPx, hDx⟩ := hB
  have hPM1 := hp_sepP hPM hsep hkk
  have hsep1 := hp_sepN hPM hsep hDx
  have hP1 := hp_th ht hPx
  have hD1 := hDx.weaken (fun k q _ h => hFc q.1 h)
  clear hP hD hPM hPx hDx hkk ht hFc hS
  refine lv_istore (lv' := [(5, .int (hp_c_kindsAt (xs (7 * j + 1)) (xs (7 * j + 2)) (xs (7 * j + 3)))), (4, .int (nI (7 * j))), (0, .ref b), (1, .ref ox), (2, .ref om), (3, .ref oq)]) hx hb dL_law_1461 hl (by decide) rfl (fun ls hl => ?_)
  refine lv_aload_n hx hb dL_law_1463 rfl (lv_at hl 4 rfl) ?_
  refine lv_aload_n hx hb dL_law_1464 rfl (lv_at hl 2 rfl) ?_
  refine lv_iload hx hb dL_law_1465 (lv_at hl 1 rfl) ?_
  refine lv_iconst (v := 1) hx hb dL_law_1467 (by decide) ?_
  refine lv_iadd hx hb dL_law_1468 ?_
  refine hp_top (show nI (7 * j) + 1 = nI (7 * j + 1) from nI_add _ _) ?_
  refine hp_sld hx hb hX hbl hbA hS1 (show 7 * j + 1 < L by omega) (by omega) dL_law_1469 ?_
  refine lv_aload_n hx hb dL_law_1470 rfl (lv_at hl 2 rfl) ?_
  refine lv_iload hx hb dL_law_1471 (lv_at hl 1 rfl) ?_
  refine lv_iconst (v := 2) hx hb dL_law_1473 (by decide) ?_
  refine lv_iadd hx hb dL_law_1474 ?_
  refine hp_top (show nI (7 * j) + 2 = nI (7 * j + 2) from nI_add _ _) ?_
  refine hp_sld hx hb hX hbl hbA hS1 (show 7 * j + 2 < L by omega) (by omega) dL_law_1475 ?_
  refine lv_aload_n hx hb dL_law_1476 rfl (lv_at hl 2 rfl) ?_
  refine lv_iload hx hb dL_law_1477 (lv_at hl 1 rfl) ?_
  refine lv_iconst (v := 3) hx hb dL_law_1479 (by decide) ?_
  refine lv_iadd hx hb dL_law_1480 ?_
  refine hp_top (show nI (7 * j) + 3 = nI (7 * j + 3) from nI_add _ _) ?_
  refine hp_sld hx hb hX hbl hbA hS1 (show 7 * j + 3 < L by omega) (by omega) dL_law_1481 ?_
  have hFm := hp_free (hDM (va_up v 0 t) r n) hS1 hA
  refine va_calli (va_runV (As := [.int (xs (7 * j + 1)), .int (xs (7 * j + 2)), .int (xs (7 * j + 3))]) (rest := []) ⟨hx, hb, hml, hown, hts⟩ (c_X2_kindsAt l dC dI cI cZ cO cJ om am (va_up v 0 t) r n H1.size (xs (7 * j + 1)) (xs (7 * j + 2)) (xs (7 * j + 3)) (hp_inv_up t hinv)) (cwV 3 hts gL_law_X2_kindsAt rfl rfl rfl (by decide +kernel) ⟨(Nat.le_of_ble_eq_true rfl), (Nat.le_of_ble_eq_true rfl)⟩) ⟨hp_mfb, va_recv hK hPM1 (ci := 2) (q0 := 0) rfl hp_M_o, fun U hU hW => ⟨rfl, hp_mto hPM1 hK (hDM _ _ _) hU hW⟩⟩ rfl rfl hl.1 rfl (lv_room (Nat.le_of_ble_eq_true rfl)) dL_law_1482 ⟨show 22 + j + 1 + 0 ≤ 639101 by omega, show 505 + 10 * j + 6 + 0 ≤ 7178800 by omega⟩) hS1 (fun q _ h => hFm q h) hFm (fun r9 u9 t9 H2 locs2 ht _ hw hB _ hkk hS2 => ?_)
  have hPM2 : va_P (dC, dI) vwCl (hp_M cI cZ om am (va_up v 0 (hp_c_kindsAt (xs (7 * j + 1)) (xs (7 * j + 2)) (xs (7 * j + 3)))) r n) H2 := hp_cP (by exact congrArg (fun z => hp_M cI cZ om am z r n) (bx_uu v 0 t _)) (hp_th ht hB)
  have hP2 := hp_sepP hP1 (hp_sep_sym hsep1) hkk
  obtain rfl : r9 = hp_a_kindsAt r n (xs (7 * j + 1)) (xs (7 * j + 2)) (xs (7 * j + 3)) := hw
  clear hPM1 hP1 hB hkk ht hFm hS1
  refine lv_istore (lv' := [(6, .int (hp_a_kindsAt r n (xs (7 * j + 1)) (xs (7 * j + 2)) (xs (7 * j + 3)))), (5, .int (hp_c_kindsAt (xs (7 * j + 1)) (xs (7 * j + 2)) (xs (7 * j + 3)))), (4, .int (nI (7 * j))), (0, .ref b), (1, .ref ox), (2, .ref om), (3, .ref oq)]) hx hb dL_law_1485 hl (by decide) rfl (fun ls hl => ?_)
  refine lv_aload_n hx hb dL_law_1487 rfl (lv_at hl 5 rfl) ?_
  refine vp_callSi (W.runV (As := []) (rest := []) ⟨hx, hb, hml, hown, hts⟩ (c_X2_thrown l dC dI cI cZ cO cJ om am (va_up v 0 (hp_c_kindsAt (xs (7 * j + 1)) (xs (7 * j + 2)) (xs (7 * j + 3)))) r n) (cwV 0 hts gL_law_X2_thrown rfl rfl rfl (by decide +kernel) ⟨(Nat.le_of_ble_eq_true rfl), (Nat.le_of_ble_eq_true rfl)⟩) ⟨hp_fb, va_recv hK hPM2 (ci := 2) (q0 := 0) rfl hp_M_o, fun U hU hW => ⟨rfl, hp_to hPM2 hK hU hW⟩⟩ rfl rfl hl.1 rfl (lv_room (Nat.le_of_ble_eq_true rfl)) dL_law_1488 ⟨show 22 + j + 1 + 0 + 0 ≤ 639101 by omega, show 505 + 10 * j + 6 + 0 + 0 ≤ 7178800 by omega⟩) (fun r_1 hr_1 => ?_)
  subst hr_1
  refine hp_top (va_up_self _ _ _) ?_
  refine lv_iload hx hb dL_law_1491 (lv_at hl 1 rfl) ?_
  refine lv_icmp_eq (tgt := 1498) hx hb dL_law_1493 (by decide) (fun _ => ?_) (fun c9 => absurd rfl c9)
  refine lv_iload hx hb dL_law_1498 (lv_at hl 1 rfl) ?_
  have hend : ∀ ls : Array Slot, lv_has ls 7 [(6, .int (hp_a_kindsAt r n (xs (7 * j + 1)) (xs (7 * j + 2)) (xs (7 * j + 3)))), (5, .int (hp_c_kindsAt (xs (7 * j + 1)) (xs (7 * j + 2)) (xs (7 * j + 3)))), (4, .int (nI (7 * j))), (0, .ref b), (1, .ref ox), (2, .ref om), (3, .ref oq)] → W p l e room_1 s m #[Value.ref b] below meth c H2 locs2 (22 + j + 1 + 0) (505 + 10 * j + 6 + 0) Q (F0 m 1515 ls []) := by
    intro ls hl
    refine lv_goto (tgt := 1581) hx hb dL_law_1515 (by decide) ?_
    refine lv_iinc (v := nI (7 * (j + 1))) (lv' := [(4, .int (nI (7 * (j + 1)))), (6, .int (hp_a_kindsAt r n (xs (7 * j + 1)) (xs (7 * j + 2)) (xs (7 * j + 3)))), (5, .int (hp_c_kindsAt (xs (7 * j + 1)) (xs (7 * j + 2)) (xs (7 * j + 3)))), (0, .ref b), (1, .ref ox), (2, .ref om), (3, .ref oq)]) hx hb dL_law_1581 hl (k := 2) rfl (hp_i7 j) (by decide) rfl (fun ls hl => ?_)
    refine lv_goto (tgt := 23) hx hb dL_law_1584 (by decide) ?_
    refine W.widen (k := 22 + (j + 1)) (n := 505 + 10 * (j + 1)) (by omega) (by omega) ?_
    exact ih H2 _ ls u.1 u.2 v r n (hp_c_kindsAt (xs (7 * j + 1)) (xs (7 * j + 2)) (xs (7 * j + 3))) ⟨hP2, hD1, hPM2, hDM, hp_sepM hsep1, hinv⟩ hS2 (lv_sub hl [0, 3, 4, 5, 6] rfl)
  refine lv_if_ne (tgt := 1515) hx hb dL_law_1500 (by decide) (fun _ => hend ls hl) (fun c0 => ?_)
  have ha := hans c0
  refine lv_aload_n hx hb dL_law_1503 rfl (lv_at hl 6 rfl) ?_
  refine lv_iconst (v := 0) hx hb dL_law_1504 (by decide) ?_
  refine va_lald (f := u.2) hx hb hK hP2 0 3 rfl rfl (i := 0) (by unfold vp_in; decide) dL_law_1505 ?_
  refine hp_topl (y := (hp_a_kindsAt r n (xs (7 * j + 1)) (xs (7 * j + 2)) (xs (7 * j + 3))).toInt64) (by rw [sb_cl0]; exact ha) ?_
  refine lv_iload hx hb dL_law_1506 (lv_at hl 0 rfl) ?_
  refine lv_i2l hx hb dL_law_1508 rfl ?_
  refine hp_lcmp hx hb dL_law_1509 (rfl) ?_
  refine lv_if_eq (tgt := 1515) hx hb dL_law_1510 (by decide) (fun _ => hend ls hl) (fun c9 => absurd rfl c9)
set_option maxHeartbeats 400000 in
set_option maxRecDepth 100000 in
theorem law_isLocked {p : Program} {e : Env} {s : State} {m : MethodId} {below : List Frame} {meth : Method} {c : Code} (l : Launch) (hl0 : l.stackTraces = false) {b L : Nat} {xs : Nat → Int32} (hx : p.tables.exec = Jvm.exec) (hb : c.code = code) (hml : c.maxLocals = 7) (hown : s.vm.findClass RL = some m.cls) (hts : ∀ w ∈ wsL_law, w.before #[Value.ref b] s = true) (hX : va_X b L xs s s.heap) (hbl : b < s.heap.size) (hL : L ≤ 3584) {dC : Nat → ClassId} {dI : Nat → Nat → Nat} {cI cZ cO cJ : ClassId} (hK : va_K (dC, dI) vwCl (hp_ty cI cZ cO cJ) s) (hN : hp_ex s) (hstr : hp_str s) (hZu : hp_Zu (hp_A s) s s.heap) (hZn : hp_Zn (hp_A s) s s.heap) (hnc : hp_nc s) {ox om oq : Nat} {bx am : Nat → Nat} {Q : State → Prop} {j : Nat} (hj : 7 * j + 7 ≤ L)
    (ih : ∀ (H : Heap) (locs : List Loc) (ls : Array Slot) (ad : Nat → Nat) (g : Nat → Int64) (v : Nat → Int32) (r : Nat → Nat → Int32) (n : Nat) (t : Int32), hp_LI (dC, dI) cI cZ cO cJ (hp_A s) ox om oq bx am ad g v r n t H → va_S (hp_A s) s.heap H locs → lv_has ls 7 [(4, .int (nI (7 * (j + 1)))), (0, .ref b), (1, .ref ox), (2, .ref om), (3, .ref oq)] → W p l e room_1 s m #[Value.ref b] below meth c H locs (22 + (j + 1)) (505 + 10 * (j + 1)) Q (F0 m 23 ls []))
    {H : Heap} {locs : List Loc} {ls : Array Slot} {ad : Nat → Nat} {g : Nat → Int64} {v : Nat → Int32} {r : Nat → Nat → Int32} {n : Nat} {t : Int32} (hI : hp_LI (dC, dI) cI cZ cO cJ (hp_A s) ox om oq bx am ad g v r n t H) (hS : va_S (hp_A s) s.heap H locs) (hl : lv_has ls 7 [(4, .int (nI (7 * j))), (0, .ref b), (1, .ref ox), (2, .ref om), (3, .ref oq)]) : W p l e room_1 s m #[Value.ref b] below meth c H locs (22 + j) (505 + 10 * j) Q (F0 m 1518 ls []) := by
  obtain ⟨hP, hD, hPM, hDM, hsep, hinv⟩ := hI
  have hA : ∀ q : Nat, s.heap.size ≤ q → hp_A s q := fun _ h => h
  have hbA : ¬ hp_A s b := Nat.not_le.mpr hbl
  have hb7 : 7 * j + 7 < 2 ^ 31 := by omega
  refine lv_aload_n hx hb dL_law_1518 rfl (lv_at hl 2 rfl) ?_
  refine lv_aload_n hx hb dL_law_1519 rfl (lv_at hl 1 rfl) ?_
  refine lv_iload hx hb dL_law_1520 (lv_at hl 0 rfl) ?_
  refine lv_iconst (v := 1) hx hb dL_law_1522 (by decide) ?_
  refine lv_iadd hx hb dL_law_1523 ?_
  refine hp_top (show nI (7 * j) + 1 = nI (7 * j + 1) from nI_add _ _) ?_
  refine hp_sld hx hb hX hbl hbA hS (show 7 * j + 1 < L by omega) (by omega) dL_law_1524 ?_
  refine lv_aload_n hx hb dL_law_1525 rfl (lv_at hl 4 rfl) ?_
  have hFc := hp_free hD hS hA
  refine vx_calli (vx_runSX (As := [.ref ox, .int (xs (7 * j + 1)), .ref oq]) (rest := []) ⟨hx, hb, hml, hown, hts⟩ (c_L_isLocked l hl0 dC dI cI cZ cO cJ ox bx ad v r n oq g H.size (xs (7 * j + 1)) hinv) (vx_cwSW 3 hts gL_law_L_isLocked rfl rfl rfl (by decide +kernel) ⟨(Nat.le_of_ble_eq_true rfl), (Nat.le_of_ble_eq_true rfl)⟩) ⟨hp_fbL, fun U hU hW => ⟨rfl, hp_toT hP hK hD hN hstr hZu hZn hS hA hU hW, hp_nc_mv hW.alike hnc⟩⟩ rfl rfl hl.1 rfl (lv_room (Nat.le_of_ble_eq_true rfl)) dL_law_1526 ⟨show 22 + j + 1 ≤ 639101 by omega, show 505 + 10 * j + 6 ≤ 7178800 by omega⟩) hS (fun q _ h => hFc q h) hFc (fun q _ h => hFc q h) (fun _ _ _ _ _ _ _ _ _ hpx _ _ _ _ _ _ _ => False.elim hpx) (fun r9 u t9 H1 locs1 ht _ hw hB hsz1 hkk hS1 => ?_)
  obtain ⟨rfl, hans⟩ := hw
  obtain ⟨hPx, hDx⟩ := hB
  have hPM1 := hp_sepP hPM hsep hkk
  have hsep1 := hp_sepN hPM hsep hDx
  have hP1 := hp_th ht hPx
  have hD1 := hDx.weaken (fun k q _ h => hFc q.1 h)
  clear hP hD hPM hPx hDx hkk ht hFc hS
  refine lv_istore (lv' := [(5, .int (hp_c_st (xs (7 * j + 1)))), (4, .int (nI (7 * j))), (0, .ref b), (1, .ref ox), (2, .ref om), (3, .ref oq)]) hx hb dL_law_1529 hl (by decide) rfl (fun ls hl => ?_)
  refine lv_aload_n hx hb dL_law_1531 rfl (lv_at hl 4 rfl) ?_
  refine lv_aload_n hx hb dL_law_1532 rfl (lv_at hl 2 rfl) ?_
  refine lv_iload hx hb dL_law_1533 (lv_at hl 1 rfl) ?_
  refine lv_iconst (v := 1) hx hb dL_law_1535 (by decide) ?_
  refine lv_iadd hx hb dL_law_1536 ?_
  refine hp_top (show nI (7 * j) + 1 = nI (7 * j + 1) from nI_add _ _) ?_
  refine hp_sld hx hb hX hbl hbA hS1 (show 7 * j + 1 < L by omega) (by omega) dL_law_1537 ?_
  have hFm := hp_free (hDM (va_up v 0 t) r n) hS1 hA
  refine va_calli (va_runV (As := [.int (xs (7 * j + 1))]) (rest := []) ⟨hx, hb, hml, hown, hts⟩ (c_X2_isLocked l dC dI cI cZ cO cJ om am (va_up v 0 t) r n H1.size (xs (7 * j + 1))) (cwV 1 hts gL_law_X2_isLocked rfl rfl rfl (by decide +kernel) ⟨(Nat.le_of_ble_eq_true rfl), (Nat.le_of_ble_eq_true rfl)⟩) ⟨hp_mfb, va_recv hK hPM1 (ci := 2) (q0 := 0) rfl hp_M_o, fun U hU hW => ⟨rfl, hp_mto hPM1 hK (hDM _ _ _) hU hW⟩⟩ rfl rfl hl.1 rfl (lv_room (Nat.le_of_ble_eq_true rfl)) dL_law_1538 ⟨show 22 + j + 1 + 0 ≤ 639101 by omega, show 505 + 10 * j + 6 + 0 ≤ 7178800 by omega⟩) hS1 (fun q _ h => hFm q h) hFm (fun r9 u9 t9 H2 locs2 ht _ hw hB _ hkk hS2 => ?_)
  have hPM2 : va_P (dC, dI) vwCl (hp_M cI cZ om am (va_up v 0 (hp_c_st (xs (7 * j + 1)))) r n) H2 := hp_cP (by exact congrArg (fun z => hp_M cI cZ om am z r n) (bx_uu v 0 t _)) (hp_th ht hB)
  have hP2 := hp_sepP hP1 (hp_sep_sym hsep1) hkk
  obtain rfl : r9 = hp_b (hp_b_isLocked r (xs (7 * j + 1))) := hw
  clear hPM1 hP1 hB hkk ht hFm hS1
  refine lv_istore (lv' := [(6, .int (hp_b (hp_b_isLocked r (xs (7 * j + 1))))), (5, .int (hp_c_st (xs (7 * j + 1)))), (4, .int (nI (7 * j))), (0, .ref b), (1, .ref ox), (2, .ref om), (3, .ref oq)]) hx hb dL_law_1541 hl (by decide) rfl (fun ls hl => ?_)
  refine lv_aload_n hx hb dL_law_1543 rfl (lv_at hl 5 rfl) ?_
  refine vp_callSi (W.runV (As := []) (rest := []) ⟨hx, hb, hml, hown, hts⟩ (c_X2_thrown l dC dI cI cZ cO cJ om am (va_up v 0 (hp_c_st (xs (7 * j + 1)))) r n) (cwV 0 hts gL_law_X2_thrown rfl rfl rfl (by decide +kernel) ⟨(Nat.le_of_ble_eq_true rfl), (Nat.le_of_ble_eq_true rfl)⟩) ⟨hp_fb, va_recv hK hPM2 (ci := 2) (q0 := 0) rfl hp_M_o, fun U hU hW => ⟨rfl, hp_to hPM2 hK hU hW⟩⟩ rfl rfl hl.1 rfl (lv_room (Nat.le_of_ble_eq_true rfl)) dL_law_1544 ⟨show 22 + j + 1 + 0 + 0 ≤ 639101 by omega, show 505 + 10 * j + 6 + 0 + 0 ≤ 7178800 by omega⟩) (fun r_1 hr_1 => ?_)
  subst hr_1
  refine hp_top (va_up_self _ _ _) ?_
  refine lv_iload hx hb dL_law_1547 (lv_at hl 1 rfl) ?_
  refine lv_icmp_eq (tgt := 1554) hx hb dL_law_1549 (by decide) (fun _ => ?_) (fun c9 => absurd rfl c9)
  refine lv_iload hx hb dL_law_1554 (lv_at hl 1 rfl) ?_
  have hend : ∀ ls : Array Slot, lv_has ls 7 [(6, .int (hp_b (hp_b_isLocked r (xs (7 * j + 1))))), (5, .int (hp_c_st (xs (7 * j + 1)))), (4, .int (nI (7 * j))), (0, .ref b), (1, .ref ox), (2, .ref om), (3, .ref oq)] → W p l e room_1 s m #[Value.ref b] below meth c H2 locs2 (22 + j + 1 + 0) (505 + 10 * j + 6 + 0) Q (F0 m 1578 ls []) := by
    intro ls hl
    refine lv_goto (tgt := 1581) hx hb dL_law_1578 (by decide) ?_
    refine lv_iinc (v := nI (7 * (j + 1))) (lv' := [(4, .int (nI (7 * (j + 1)))), (6, .int (hp_b (hp_b_isLocked r (xs (7 * j + 1))))), (5, .int (hp_c_st (xs (7 * j + 1)))), (0, .ref b), (1, .ref ox), (2, .ref om), (3, .ref oq)]) hx hb dL_law_1581 hl (k := 2) rfl (hp_i7 j) (by decide) rfl (fun ls hl => ?_)
    refine lv_goto (tgt := 23) hx hb dL_law_1584 (by decide) ?_
    refine W.widen (k := 22 + (j + 1)) (n := 505 + 10 * (j + 1)) (by omega) (by omega) ?_
    exact ih H2 _ ls u.1 u.2 v r n (hp_c_st (xs (7 * j + 1))) ⟨hP2, hD1, hPM2, hDM, hp_sepM hsep1, hinv⟩ hS2 (lv_sub hl [0, 3, 4, 5, 6] rfl)
  refine lv_if_ne (tgt := 1578) hx hb dL_law_1556 (by decide) (fun _ => hend ls hl) (fun c0 => ?_)
  have ha := hans c0
  refine lv_aload_n hx hb dL_law_1559 rfl (lv_at hl 6 rfl) ?_
  refine lv_iconst (v := 0) hx hb dL_law_1560 (by decide) ?_
  refine va_lald (f := u.2) hx hb hK hP2 0 3 rfl rfl (i := 0) (by unfold vp_in; decide) dL_law_1561 ?_
  refine hp_topl (y := (hp_b (hp_b_isLocked r (xs (7 * j + 1)))).toInt64) (by rw [sb_cl0]; exact ha) ?_
  refine lv_iload hx hb dL_law_1562 (lv_at hl 0 rfl) ?_
  refine lv_if_eq (tgt := 1571) hx hb dL_law_1564 (by decide) (fun q => ?_) (fun q => ?_)
  · refine lv_lconst (v := 0) hx hb dL_law_1571 (by decide) ?_
    refine hp_lcmp hx hb dL_law_1572 (by rw [q]; rfl) ?_
    refine lv_if_eq (tgt := 1578) hx hb dL_law_1573 (by decide) (fun _ => hend ls hl) (fun c9 => absurd rfl c9)
  · refine lv_lconst (v := 1) hx hb dL_law_1567 (by decide) ?_
    refine lv_goto (tgt := 1572) hx hb dL_law_1568 (by decide) ?_
    refine hp_lcmp hx hb dL_law_1572 (by rw [hp_bt (hp_bn q)]; rfl) ?_
    refine lv_if_eq (tgt := 1578) hx hb dL_law_1573 (by decide) (fun _ => hend ls hl) (fun c9 => absurd rfl c9)
