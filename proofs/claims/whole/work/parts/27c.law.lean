/-! the law, call by call -/
set_option maxHeartbeats 400000 in
set_option maxRecDepth 100000 in
theorem law_revision {p : Program} {e : Env} {s : State} {m : MethodId} {below : List Frame} {meth : Method} {c : Code} (l : Launch) (hl0 : l.stackTraces = false) {b L : Nat} {xs : Nat → Int32} (hx : p.tables.exec = Jvm.exec) (hb : c.code = code) (hml : c.maxLocals = 7) (hown : s.vm.findClass RL = some m.cls) (hts : ∀ w ∈ wsL_law, w.before #[Value.ref b] s = true) (hX : va_X b L xs s s.heap) (hbl : b < s.heap.size) (hL : L ≤ 3584) {dC : Nat → ClassId} {dI : Nat → Nat → Nat} {cI cZ cO cJ : ClassId} (hK : va_K (dC, dI) vwCl (hp_ty cI cZ cO cJ) s) (hN : hp_ex s) (hstr : hp_str s) (hZu : hp_Zu (hp_A s) s s.heap) (hZn : hp_Zn (hp_A s) s s.heap) (hnc : hp_nc s) {ox om oq : Nat} {bx am : Nat → Nat} {Q : State → Prop} {j : Nat} (hj : 7 * j + 7 ≤ L)
    (ih : ∀ (H : Heap) (locs : List Loc) (ls : Array Slot) (ad : Nat → Nat) (g : Nat → Int64) (v : Nat → Int32) (r : Nat → Nat → Int32) (n : Nat) (t : Int32), hp_LI (dC, dI) cI cZ cO cJ (hp_A s) ox om oq bx am ad g v r n t H → va_S (hp_A s) s.heap H locs → lv_has ls 7 [(4, .int (nI (7 * (j + 1)))), (0, .ref b), (1, .ref ox), (2, .ref om), (3, .ref oq)] → W p l e room_1 s m #[Value.ref b] below meth c H locs (22 + (j + 1)) (505 + 10 * (j + 1)) Q (F0 m 23 ls []))
    {H : Heap} {locs : List Loc} {ls : Array Slot} {ad : Nat → Nat} {g : Nat → Int64} {v : Nat → Int32} {r : Nat → Nat → Int32} {n : Nat} {t : Int32} (hI : hp_LI (dC, dI) cI cZ cO cJ (hp_A s) ox om oq bx am ad g v r n t H) (hS : va_S (hp_A s) s.heap H locs) (hl : lv_has ls 7 [(4, .int (nI (7 * j))), (0, .ref b), (1, .ref ox), (2, .ref om), (3, .ref oq)]) : W p l e room_1 s m #[Value.ref b] below meth c H locs (22 + j) (505 + 10 * j) Q (F0 m 983 ls []) := by
  obtain ⟨hP, hD, hPM, hDM, hsep, hinv⟩ := hI
  have hA : ∀ q : Nat, s.heap.size ≤ q → hp_A s q := fun _ h => h
  have hbA : ¬ hp_A s b := Nat.not_le.mpr hbl
  have hb7 : 7 * j + 7 < 2 ^ 31 := by omega
  refine lv_aload_n hx hb dL_law_983 rfl (lv_at hl 2 rfl) ?_
  have hPX := (hp_Pc.mp hP).2
  refine vp_callSi (W.runV (As := []) (rest := []) ⟨hx, hb, hml, hown, hts⟩ (c_X1_revision l dC dI cI cZ cO cJ ox bx ad v r n) (cwV 0 hts gL_law_X1_revision rfl rfl rfl (by decide +kernel) ⟨(Nat.le_of_ble_eq_true rfl), (Nat.le_of_ble_eq_true rfl)⟩) ⟨hp_fbX, va_recv hK hPX (ci := 1) (q0 := 0) rfl hp_X_o, fun U hU hW => ⟨rfl, hp_toX hPX hK hN hU hW⟩⟩ rfl rfl hl.1 rfl (lv_room (Nat.le_of_ble_eq_true rfl)) dL_law_984 ⟨show 22 + j + 0 ≤ 639101 by omega, show 505 + 10 * j + 0 ≤ 7178800 by omega⟩) (fun r_1 hr_1 => ?_)
  subst hr_1
  refine lv_aload_n hx hb dL_law_987 rfl (lv_at hl 3 rfl) ?_
  have hFm := hp_free (hDM (va_up v 0 t) r n) hS hA
  refine va_calli (va_runV (As := []) (rest := [.int (v 2)]) ⟨hx, hb, hml, hown, hts⟩ (c_X2_revision l dC dI cI cZ cO cJ om am (va_up v 0 t) r n H.size) (cwV 0 hts gL_law_X2_revision rfl rfl rfl (by decide +kernel) ⟨(Nat.le_of_ble_eq_true rfl), (Nat.le_of_ble_eq_true rfl)⟩) ⟨hp_mfb, va_recv hK hPM (ci := 2) (q0 := 0) rfl hp_M_o, fun U hU hW => ⟨rfl, hp_mto hPM hK (hDM _ _ _) hU hW⟩⟩ rfl rfl hl.1 rfl (lv_room (Nat.le_of_ble_eq_true rfl)) dL_law_988 ⟨show 22 + j + 0 ≤ 639101 by omega, show 505 + 10 * j + 0 ≤ 7178800 by omega⟩) hS (fun q _ h => hFm q h) hFm (fun r9 u t9 H2 locs2 ht _ hw hB _ hkk hS2 => ?_)
  have hPM2 : va_P (dC, dI) vwCl (hp_M cI cZ om am (va_up v 0 0) r n) H2 := hp_cP (congrArg (fun z => hp_M cI cZ om am z r n) (bx_uu v 0 t 0)) (hp_th ht hB)
  have hP2 := hp_sepP hP (hp_sep_sym hsep) hkk
  subst hw
  refine lv_icmp_eq (tgt := 1581) hx hb dL_law_991 (by decide) (fun _ => ?_) (fun c9 => absurd rfl c9)
  refine lv_iinc (v := nI (7 * (j + 1))) (lv' := [(4, .int (nI (7 * (j + 1)))), (0, .ref b), (1, .ref ox), (2, .ref om), (3, .ref oq)]) hx hb dL_law_1581 hl (k := 0) rfl (hp_i7 j) (by decide) rfl (fun ls hl => ?_)
  refine lv_goto (tgt := 23) hx hb dL_law_1584 (by decide) ?_
  refine W.widen (k := 22 + (j + 1)) (n := 505 + 10 * (j + 1)) (by omega) (by omega) ?_
  exact ih H2 _ ls ad g v r n 0 ⟨hP2, hD, hPM2, hDM, hp_sepM hsep, hinv⟩ hS2 hl
set_option maxHeartbeats 400000 in
set_option maxRecDepth 100000 in
theorem law_elementOf {p : Program} {e : Env} {s : State} {m : MethodId} {below : List Frame} {meth : Method} {c : Code} (l : Launch) (hl0 : l.stackTraces = false) {b L : Nat} {xs : Nat → Int32} (hx : p.tables.exec = Jvm.exec) (hb : c.code = code) (hml : c.maxLocals = 7) (hown : s.vm.findClass RL = some m.cls) (hts : ∀ w ∈ wsL_law, w.before #[Value.ref b] s = true) (hX : va_X b L xs s s.heap) (hbl : b < s.heap.size) (hL : L ≤ 3584) {dC : Nat → ClassId} {dI : Nat → Nat → Nat} {cI cZ cO cJ : ClassId} (hK : va_K (dC, dI) vwCl (hp_ty cI cZ cO cJ) s) (hN : hp_ex s) (hstr : hp_str s) (hZu : hp_Zu (hp_A s) s s.heap) (hZn : hp_Zn (hp_A s) s s.heap) (hnc : hp_nc s) {ox om oq : Nat} {bx am : Nat → Nat} {Q : State → Prop} {j : Nat} (hj : 7 * j + 7 ≤ L)
    (ih : ∀ (H : Heap) (locs : List Loc) (ls : Array Slot) (ad : Nat → Nat) (g : Nat → Int64) (v : Nat → Int32) (r : Nat → Nat → Int32) (n : Nat) (t : Int32), hp_LI (dC, dI) cI cZ cO cJ (hp_A s) ox om oq bx am ad g v r n t H → va_S (hp_A s) s.heap H locs → lv_has ls 7 [(4, .int (nI (7 * (j + 1)))), (0, .ref b), (1, .ref ox), (2, .ref om), (3, .ref oq)] → W p l e room_1 s m #[Value.ref b] below meth c H locs (22 + (j + 1)) (505 + 10 * (j + 1)) Q (F0 m 23 ls []))
    {H : Heap} {locs : List Loc} {ls : Array Slot} {ad : Nat → Nat} {g : Nat → Int64} {v : Nat → Int32} {r : Nat → Nat → Int32} {n : Nat} {t : Int32} (hI : hp_LI (dC, dI) cI cZ cO cJ (hp_A s) ox om oq bx am ad g v r n t H) (hS : va_S (hp_A s) s.heap H locs) (hl : lv_has ls 7 [(4, .int (nI (7 * j))), (0, .ref b), (1, .ref ox), (2, .ref om), (3, .ref oq)]) : W p l e room_1 s m #[Value.ref b] below meth c H locs (22 + j) (505 + 10 * j) Q (F0 m 996 ls []) := by
  obtain ⟨hP, hD, hPM, hDM, hsep, hinv⟩ := hI
  have hA : ∀ q : Nat, s.heap.size ≤ q → hp_A s q := fun _ h => h
  have hbA : ¬ hp_A s b := Nat.not_le.mpr hbl
  have hb7 : 7 * j + 7 < 2 ^ 31 := by omega
  refine lv_aload_n hx hb dL_law_996 rfl (lv_at hl 2 rfl) ?_
  refine lv_aload_n hx hb dL_law_997 rfl (lv_at hl 1 rfl) ?_
  refine lv_iload hx hb dL_law_998 (lv_at hl 0 rfl) ?_
  refine lv_iconst (v := 1) hx hb dL_law_1000 (by decide) ?_
  refine lv_iadd hx hb dL_law_1001 ?_
  refine hp_top (show nI (7 * j) + 1 = nI (7 * j + 1) from nI_add _ _) ?_
  refine hp_sld hx hb hX hbl hbA hS (show 7 * j + 1 < L by omega) (by omega) dL_law_1002 ?_
  refine lv_aload_n hx hb dL_law_1003 rfl (lv_at hl 1 rfl) ?_
  refine lv_iload hx hb dL_law_1004 (lv_at hl 0 rfl) ?_
  refine lv_iconst (v := 2) hx hb dL_law_1006 (by decide) ?_
  refine lv_iadd hx hb dL_law_1007 ?_
  refine hp_top (show nI (7 * j) + 2 = nI (7 * j + 2) from nI_add _ _) ?_
  refine hp_sld hx hb hX hbl hbA hS (show 7 * j + 2 < L by omega) (by omega) dL_law_1008 ?_
  refine lv_aload_n hx hb dL_law_1009 rfl (lv_at hl 4 rfl) ?_
  have hFc := hp_free hD hS hA
  refine vx_calli (vx_runSX (As := [.ref ox, .int (xs (7 * j + 1)), .int (xs (7 * j + 2)), .ref oq]) (rest := []) ⟨hx, hb, hml, hown, hts⟩ (c_L_elementOf l hl0 dC dI cI cZ cO cJ ox bx ad v r n oq g H.size (xs (7 * j + 1)) (xs (7 * j + 2)) hinv) (vx_cwSW 4 hts gL_law_L_elementOf rfl rfl rfl (by decide +kernel) ⟨(Nat.le_of_ble_eq_true rfl), (Nat.le_of_ble_eq_true rfl)⟩) ⟨hp_fbL, fun U hU hW => ⟨rfl, hp_toT hP hK hD hN hstr hZu hZn hS hA hU hW, hp_nc_mv hW.alike hnc⟩⟩ rfl rfl hl.1 rfl (lv_room (Nat.le_of_ble_eq_true rfl)) dL_law_1010 ⟨show 22 + j + 1 ≤ 639101 by omega, show 505 + 10 * j + 6 ≤ 7178800 by omega⟩) hS (fun q _ h => hFc q h) hFc (fun q _ h => hFc q h) (fun _ _ _ _ _ _ _ _ _ hpx _ _ _ _ _ _ _ => False.elim hpx) (fun r9 u t9 H1 locs1 ht _ hw hB hsz1 hkk hS1 => ?_)
  obtain ⟨rfl, hans⟩ := hw
  obtain ⟨hPx, hDx⟩ := hB
  have hPM1 := hp_sepP hPM hsep hkk
  have hsep1 := hp_sepN hPM hsep hDx
  have hP1 := hp_th ht hPx
  have hD1 := hDx.weaken (fun k q _ h => hFc q.1 h)
  clear hP hD hPM hPx hDx hkk ht hFc hS
  refine lv_istore (lv' := [(5, .int (hp_c_elementOf n (xs (7 * j + 1)) (xs (7 * j + 2)))), (4, .int (nI (7 * j))), (0, .ref b), (1, .ref ox), (2, .ref om), (3, .ref oq)]) hx hb dL_law_1013 hl (by decide) rfl (fun ls hl => ?_)
  refine lv_aload_n hx hb dL_law_1015 rfl (lv_at hl 4 rfl) ?_
  refine lv_aload_n hx hb dL_law_1016 rfl (lv_at hl 2 rfl) ?_
  refine lv_iload hx hb dL_law_1017 (lv_at hl 1 rfl) ?_
  refine lv_iconst (v := 1) hx hb dL_law_1019 (by decide) ?_
  refine lv_iadd hx hb dL_law_1020 ?_
  refine hp_top (show nI (7 * j) + 1 = nI (7 * j + 1) from nI_add _ _) ?_
  refine hp_sld hx hb hX hbl hbA hS1 (show 7 * j + 1 < L by omega) (by omega) dL_law_1021 ?_
  refine lv_aload_n hx hb dL_law_1022 rfl (lv_at hl 2 rfl) ?_
  refine lv_iload hx hb dL_law_1023 (lv_at hl 1 rfl) ?_
  refine lv_iconst (v := 2) hx hb dL_law_1025 (by decide) ?_
  refine lv_iadd hx hb dL_law_1026 ?_
  refine hp_top (show nI (7 * j) + 2 = nI (7 * j + 2) from nI_add _ _) ?_
  refine hp_sld hx hb hX hbl hbA hS1 (show 7 * j + 2 < L by omega) (by omega) dL_law_1027 ?_
  have hFm := hp_free (hDM (va_up v 0 t) r n) hS1 hA
  refine va_calli (va_runV (As := [.int (xs (7 * j + 1)), .int (xs (7 * j + 2))]) (rest := []) ⟨hx, hb, hml, hown, hts⟩ (c_X2_elementOf l dC dI cI cZ cO cJ om am (va_up v 0 t) r n H1.size (xs (7 * j + 1)) (xs (7 * j + 2)) (hp_inv_up t hinv)) (cwV 2 hts gL_law_X2_elementOf rfl rfl rfl (by decide +kernel) ⟨(Nat.le_of_ble_eq_true rfl), (Nat.le_of_ble_eq_true rfl)⟩) ⟨hp_mfb, va_recv hK hPM1 (ci := 2) (q0 := 0) rfl hp_M_o, fun U hU hW => ⟨rfl, hp_mto hPM1 hK (hDM _ _ _) hU hW⟩⟩ rfl rfl hl.1 rfl (lv_room (Nat.le_of_ble_eq_true rfl)) dL_law_1028 ⟨show 22 + j + 1 + 0 ≤ 639101 by omega, show 505 + 10 * j + 6 + 0 ≤ 7178800 by omega⟩) hS1 (fun q _ h => hFm q h) hFm (fun r9 u9 t9 H2 locs2 ht _ hw hB _ hkk hS2 => ?_)
  have hPM2 : va_P (dC, dI) vwCl (hp_M cI cZ om am (va_up v 0 (hp_c_elementOf n (xs (7 * j + 1)) (xs (7 * j + 2)))) r n) H2 := hp_cP (by exact congrArg (fun z => hp_M cI cZ om am z r n) (bx_uu v 0 t _)) (hp_th ht hB)
  have hP2 := hp_sepP hP1 (hp_sep_sym hsep1) hkk
  obtain rfl : r9 = hp_a_elementOf r n (xs (7 * j + 1)) (xs (7 * j + 2)) := hw
  clear hPM1 hP1 hB hkk ht hFm hS1
  refine lv_istore (lv' := [(6, .int (hp_a_elementOf r n (xs (7 * j + 1)) (xs (7 * j + 2)))), (5, .int (hp_c_elementOf n (xs (7 * j + 1)) (xs (7 * j + 2)))), (4, .int (nI (7 * j))), (0, .ref b), (1, .ref ox), (2, .ref om), (3, .ref oq)]) hx hb dL_law_1031 hl (by decide) rfl (fun ls hl => ?_)
  refine lv_aload_n hx hb dL_law_1033 rfl (lv_at hl 5 rfl) ?_
  refine vp_callSi (W.runV (As := []) (rest := []) ⟨hx, hb, hml, hown, hts⟩ (c_X2_thrown l dC dI cI cZ cO cJ om am (va_up v 0 (hp_c_elementOf n (xs (7 * j + 1)) (xs (7 * j + 2)))) r n) (cwV 0 hts gL_law_X2_thrown rfl rfl rfl (by decide +kernel) ⟨(Nat.le_of_ble_eq_true rfl), (Nat.le_of_ble_eq_true rfl)⟩) ⟨hp_fb, va_recv hK hPM2 (ci := 2) (q0 := 0) rfl hp_M_o, fun U hU hW => ⟨rfl, hp_to hPM2 hK hU hW⟩⟩ rfl rfl hl.1 rfl (lv_room (Nat.le_of_ble_eq_true rfl)) dL_law_1034 ⟨show 22 + j + 1 + 0 + 0 ≤ 639101 by omega, show 505 + 10 * j + 6 + 0 + 0 ≤ 7178800 by omega⟩) (fun r_1 hr_1 => ?_)
  subst hr_1
  refine hp_top (va_up_self _ _ _) ?_
  refine lv_iload hx hb dL_law_1037 (lv_at hl 1 rfl) ?_
  refine lv_icmp_eq (tgt := 1044) hx hb dL_law_1039 (by decide) (fun _ => ?_) (fun c9 => absurd rfl c9)
  refine lv_iload hx hb dL_law_1044 (lv_at hl 1 rfl) ?_
  have hend : ∀ ls : Array Slot, lv_has ls 7 [(6, .int (hp_a_elementOf r n (xs (7 * j + 1)) (xs (7 * j + 2)))), (5, .int (hp_c_elementOf n (xs (7 * j + 1)) (xs (7 * j + 2)))), (4, .int (nI (7 * j))), (0, .ref b), (1, .ref ox), (2, .ref om), (3, .ref oq)] → W p l e room_1 s m #[Value.ref b] below meth c H2 locs2 (22 + j + 1 + 0) (505 + 10 * j + 6 + 0) Q (F0 m 1061 ls []) := by
    intro ls hl
    refine lv_goto (tgt := 1581) hx hb dL_law_1061 (by decide) ?_
    refine lv_iinc (v := nI (7 * (j + 1))) (lv' := [(4, .int (nI (7 * (j + 1)))), (6, .int (hp_a_elementOf r n (xs (7 * j + 1)) (xs (7 * j + 2)))), (5, .int (hp_c_elementOf n (xs (7 * j + 1)) (xs (7 * j + 2)))), (0, .ref b), (1, .ref ox), (2, .ref om), (3, .ref oq)]) hx hb dL_law_1581 hl (k := 2) rfl (hp_i7 j) (by decide) rfl (fun ls hl => ?_)
    refine lv_goto (tgt := 23) hx hb dL_law_1584 (by decide) ?_
    refine W.widen (k := 22 + (j + 1)) (n := 505 + 10 * (j + 1)) (by omega) (by omega) ?_
    exact ih H2 _ ls u.1 u.2 v r n (hp_c_elementOf n (xs (7 * j + 1)) (xs (7 * j + 2))) ⟨hP2, hD1, hPM2, hDM, hp_sepM hsep1, hinv⟩ hS2 (lv_sub hl [0, 3, 4, 5, 6] rfl)
  refine lv_if_ne (tgt := 1061) hx hb dL_law_1046 (by decide) (fun _ => hend ls hl) (fun c0 => ?_)
  have ha := hans c0
  refine lv_aload_n hx hb dL_law_1049 rfl (lv_at hl 6 rfl) ?_
  refine lv_iconst (v := 0) hx hb dL_law_1050 (by decide) ?_
  refine va_lald (f := u.2) hx hb hK hP2 0 3 rfl rfl (i := 0) (by unfold vp_in; decide) dL_law_1051 ?_
  refine hp_topl (y := (hp_a_elementOf r n (xs (7 * j + 1)) (xs (7 * j + 2))).toInt64) (by rw [sb_cl0]; exact ha) ?_
  refine lv_iload hx hb dL_law_1052 (lv_at hl 0 rfl) ?_
  refine lv_i2l hx hb dL_law_1054 rfl ?_
  refine hp_lcmp hx hb dL_law_1055 (rfl) ?_
  refine lv_if_eq (tgt := 1061) hx hb dL_law_1056 (by decide) (fun _ => hend ls hl) (fun c9 => absurd rfl c9)
set_option maxHeartbeats 400000 in
set_option maxRecDepth 100000 in
theorem law_clash {p : Program} {e : Env} {s : State} {m : MethodId} {below : List Frame} {meth : Method} {c : Code} (l : Launch) (hl0 : l.stackTraces = false) {b L : Nat} {xs : Nat → Int32} (hx : p.tables.exec = Jvm.exec) (hb : c.code = code) (hml : c.maxLocals = 7) (hown : s.vm.findClass RL = some m.cls) (hts : ∀ w ∈ wsL_law, w.before #[Value.ref b] s = true) (hX : va_X b L xs s s.heap) (hbl : b < s.heap.size) (hL : L ≤ 3584) {dC : Nat → ClassId} {dI : Nat → Nat → Nat} {cI cZ cO cJ : ClassId} (hK : va_K (dC, dI) vwCl (hp_ty cI cZ cO cJ) s) (hN : hp_ex s) (hstr : hp_str s) (hZu : hp_Zu (hp_A s) s s.heap) (hZn : hp_Zn (hp_A s) s s.heap) (hnc : hp_nc s) {ox om oq : Nat} {bx am : Nat → Nat} {Q : State → Prop} {j : Nat} (hj : 7 * j + 7 ≤ L)
    (ih : ∀ (H : Heap) (locs : List Loc) (ls : Array Slot) (ad : Nat → Nat) (g : Nat → Int64) (v : Nat → Int32) (r : Nat → Nat → Int32) (n : Nat) (t : Int32), hp_LI (dC, dI) cI cZ cO cJ (hp_A s) ox om oq bx am ad g v r n t H → va_S (hp_A s) s.heap H locs → lv_has ls 7 [(4, .int (nI (7 * (j + 1)))), (0, .ref b), (1, .ref ox), (2, .ref om), (3, .ref oq)] → W p l e room_1 s m #[Value.ref b] below meth c H locs (22 + (j + 1)) (505 + 10 * (j + 1)) Q (F0 m 23 ls []))
    {H : Heap} {locs : List Loc} {ls : Array Slot} {ad : Nat → Nat} {g : Nat → Int64} {v : Nat → Int32} {r : Nat → Nat → Int32} {n : Nat} {t : Int32} (hI : hp_LI (dC, dI) cI cZ cO cJ (hp_A s) ox om oq bx am ad g v r n t H) (hS : va_S (hp_A s) s.heap H locs) (hl : lv_has ls 7 [(4, .int (nI (7 * j))), (0, .ref b), (1, .ref ox), (2, .ref om), (3, .ref oq)]) : W p l e room_1 s m #[Value.ref b] below meth c H locs (22 + j) (505 + 10 * j) Q (F0 m 1064 ls []) := by
  obtain ⟨hP, hD, hPM, hDM, hsep, hinv⟩ := hI
  have hA : ∀ q : Nat, s.heap.size ≤ q → hp_A s q := fun _ h => h
  have hbA : ¬ hp_A s b := Nat.not_le.mpr hbl
  have hb7 : 7 * j + 7 < 2 ^ 31 := by omega
  refine lv_aload_n hx hb dL_law_1064 rfl (lv_at hl 2 rfl) ?_
  refine lv_aload_n hx hb dL_law_1065 rfl (lv_at hl 1 rfl) ?_
  refine lv_iload hx hb dL_law_1066 (lv_at hl 0 rfl) ?_
  refine lv_iconst (v := 1) hx hb dL_law_1068 (by decide) ?_
  refine lv_iadd hx hb dL_law_1069 ?_
  refine hp_top (show nI (7 * j) + 1 = nI (7 * j + 1) from nI_add _ _) ?_
  refine hp_sld hx hb hX hbl hbA hS (show 7 * j + 1 < L by omega) (by omega) dL_law_1070 ?_
  refine lv_aload_n hx hb dL_law_1071 rfl (lv_at hl 1 rfl) ?_
  refine lv_iload hx hb dL_law_1072 (lv_at hl 0 rfl) ?_
  refine lv_iconst (v := 2) hx hb dL_law_1074 (by decide) ?_
  refine lv_iadd hx hb dL_law_1075 ?_
  refine hp_top (show nI (7 * j) + 2 = nI (7 * j + 2) from nI_add _ _) ?_
  refine hp_sld hx hb hX hbl hbA hS (show 7 * j + 2 < L by omega) (by omega) dL_law_1076 ?_
  refine lv_aload_n hx hb dL_law_1077 rfl (lv_at hl 4 rfl) ?_
  have hFc := hp_free hD hS hA
  refine vx_calli (vx_runSX (As := [.ref ox, .int (xs (7 * j + 1)), .int (xs (7 * j + 2)), .ref oq]) (rest := []) ⟨hx, hb, hml, hown, hts⟩ (c_L_clash l hl0 dC dI cI cZ cO cJ ox bx ad v r n oq g H.size (xs (7 * j + 1)) (xs (7 * j + 2)) hinv) (vx_cwSW 4 hts gL_law_L_clash rfl rfl rfl (by decide +kernel) ⟨(Nat.le_of_ble_eq_true rfl), (Nat.le_of_ble_eq_true rfl)⟩) ⟨hp_fbL, fun U hU hW => ⟨rfl, hp_toT hP hK hD hN hstr hZu hZn hS hA hU hW, hp_nc_mv hW.alike hnc⟩⟩ rfl rfl hl.1 rfl (lv_room (Nat.le_of_ble_eq_true rfl)) dL_law_1078 ⟨show 22 + j + 1 ≤ 639101 by omega, show 505 + 10 * j + 6 ≤ 7178800 by omega⟩) hS (fun q _ h => hFc q h) hFc (fun q _ h => hFc q h) (fun _ _ _ _ _ _ _ _ _ hpx _ _ _ _ _ _ _ => False.elim hpx) (fun r9 u t9 H1 locs1 ht _ hw hB hsz1 hkk hS1 => ?_)
  obtain ⟨rfl, hans⟩ := hw
  obtain ⟨hPx, hDx⟩ := hB
  have hPM1 := hp_sepP hPM hsep hkk
  have hsep1 := hp_sepN hPM hsep hDx
  have hP1 := hp_th ht hPx
  have hD1 := hDx.weaken (fun k q _ h => hFc q.1 h)
  clear hP hD hPM hPx hDx hkk ht hFc hS
  refine lv_istore (lv' := [(5, .int (hp_c_clash n (xs (7 * j + 1)) (xs (7 * j + 2)))), (4, .int (nI (7 * j))), (0, .ref b), (1, .ref ox), (2, .ref om), (3, .ref oq)]) hx hb dL_law_1081 hl (by decide) rfl (fun ls hl => ?_)
  refine lv_aload_n hx hb dL_law_1083 rfl (lv_at hl 4 rfl) ?_
  refine lv_aload_n hx hb dL_law_1084 rfl (lv_at hl 2 rfl) ?_
  refine lv_iload hx hb dL_law_1085 (lv_at hl 1 rfl) ?_
  refine lv_iconst (v := 1) hx hb dL_law_1087 (by decide) ?_
  refine lv_iadd hx hb dL_law_1088 ?_
  refine hp_top (show nI (7 * j) + 1 = nI (7 * j + 1) from nI_add _ _) ?_
  refine hp_sld hx hb hX hbl hbA hS1 (show 7 * j + 1 < L by omega) (by omega) dL_law_1089 ?_
  refine lv_aload_n hx hb dL_law_1090 rfl (lv_at hl 2 rfl) ?_
  refine lv_iload hx hb dL_law_1091 (lv_at hl 1 rfl) ?_
  refine lv_iconst (v := 2) hx hb dL_law_1093 (by decide) ?_
  refine lv_iadd hx hb dL_law_1094 ?_
  refine hp_top (show nI (7 * j) + 2 = nI (7 * j + 2) from nI_add _ _) ?_
  refine hp_sld hx hb hX hbl hbA hS1 (show 7 * j + 2 < L by omega) (by omega) dL_law_1095 ?_
  have hFm := hp_free (hDM (va_up v 0 t) r n) hS1 hA
  refine va_calli (va_runV (As := [.int (xs (7 * j + 1)), .int (xs (7 * j + 2))]) (rest := []) ⟨hx, hb, hml, hown, hts⟩ (c_X2_clash l dC dI cI cZ cO cJ om am (va_up v 0 t) r n H1.size (xs (7 * j + 1)) (xs (7 * j + 2)) (hp_inv_up t hinv)) (cwV 2 hts gL_law_X2_clash rfl rfl rfl (by decide +kernel) ⟨(Nat.le_of_ble_eq_true rfl), (Nat.le_of_ble_eq_true rfl)⟩) ⟨hp_mfb, va_recv hK hPM1 (ci := 2) (q0 := 0) rfl hp_M_o, fun U hU hW => ⟨rfl, hp_mto hPM1 hK (hDM _ _ _) hU hW⟩⟩ rfl rfl hl.1 rfl (lv_room (Nat.le_of_ble_eq_true rfl)) dL_law_1096 ⟨show 22 + j + 1 + 0 ≤ 639101 by omega, show 505 + 10 * j + 6 + 0 ≤ 7178800 by omega⟩) hS1 (fun q _ h => hFm q h) hFm (fun r9 u9 t9 H2 locs2 ht _ hw hB _ hkk hS2 => ?_)
  have hPM2 : va_P (dC, dI) vwCl (hp_M cI cZ om am (va_up v 0 (hp_c_clash n (xs (7 * j + 1)) (xs (7 * j + 2)))) r n) H2 := hp_cP (by exact congrArg (fun z => hp_M cI cZ om am z r n) (bx_uu v 0 t _)) (hp_th ht hB)
  have hP2 := hp_sepP hP1 (hp_sep_sym hsep1) hkk
  obtain rfl : r9 = hp_b (hp_b_clash r n (xs (7 * j + 1)) (xs (7 * j + 2))) := hw
  clear hPM1 hP1 hB hkk ht hFm hS1
  refine lv_istore (lv' := [(6, .int (hp_b (hp_b_clash r n (xs (7 * j + 1)) (xs (7 * j + 2))))), (5, .int (hp_c_clash n (xs (7 * j + 1)) (xs (7 * j + 2)))), (4, .int (nI (7 * j))), (0, .ref b), (1, .ref ox), (2, .ref om), (3, .ref oq)]) hx hb dL_law_1099 hl (by decide) rfl (fun ls hl => ?_)
  refine lv_aload_n hx hb dL_law_1101 rfl (lv_at hl 5 rfl) ?_
  refine vp_callSi (W.runV (As := []) (rest := []) ⟨hx, hb, hml, hown, hts⟩ (c_X2_thrown l dC dI cI cZ cO cJ om am (va_up v 0 (hp_c_clash n (xs (7 * j + 1)) (xs (7 * j + 2)))) r n) (cwV 0 hts gL_law_X2_thrown rfl rfl rfl (by decide +kernel) ⟨(Nat.le_of_ble_eq_true rfl), (Nat.le_of_ble_eq_true rfl)⟩) ⟨hp_fb, va_recv hK hPM2 (ci := 2) (q0 := 0) rfl hp_M_o, fun U hU hW => ⟨rfl, hp_to hPM2 hK hU hW⟩⟩ rfl rfl hl.1 rfl (lv_room (Nat.le_of_ble_eq_true rfl)) dL_law_1102 ⟨show 22 + j + 1 + 0 + 0 ≤ 639101 by omega, show 505 + 10 * j + 6 + 0 + 0 ≤ 7178800 by omega⟩) (fun r_1 hr_1 => ?_)
  subst hr_1
  refine hp_top (va_up_self _ _ _) ?_
  refine lv_iload hx hb dL_law_1105 (lv_at hl 1 rfl) ?_
  refine lv_icmp_eq (tgt := 1112) hx hb dL_law_1107 (by decide) (fun _ => ?_) (fun c9 => absurd rfl c9)
  refine lv_iload hx hb dL_law_1112 (lv_at hl 1 rfl) ?_
  have hend : ∀ ls : Array Slot, lv_has ls 7 [(6, .int (hp_b (hp_b_clash r n (xs (7 * j + 1)) (xs (7 * j + 2))))), (5, .int (hp_c_clash n (xs (7 * j + 1)) (xs (7 * j + 2)))), (4, .int (nI (7 * j))), (0, .ref b), (1, .ref ox), (2, .ref om), (3, .ref oq)] → W p l e room_1 s m #[Value.ref b] below meth c H2 locs2 (22 + j + 1 + 0) (505 + 10 * j + 6 + 0) Q (F0 m 1136 ls []) := by
    intro ls hl
    refine lv_goto (tgt := 1581) hx hb dL_law_1136 (by decide) ?_
    refine lv_iinc (v := nI (7 * (j + 1))) (lv' := [(4, .int (nI (7 * (j + 1)))), (6, .int (hp_b (hp_b_clash r n (xs (7 * j + 1)) (xs (7 * j + 2))))), (5, .int (hp_c_clash n (xs (7 * j + 1)) (xs (7 * j + 2)))), (0, .ref b), (1, .ref ox), (2, .ref om), (3, .ref oq)]) hx hb dL_law_1581 hl (k := 2) rfl (hp_i7 j) (by decide) rfl (fun ls hl => ?_)
    refine lv_goto (tgt := 23) hx hb dL_law_1584 (by decide) ?_
    refine W.widen (k := 22 + (j + 1)) (n := 505 + 10 * (j + 1)) (by omega) (by omega) ?_
    exact ih H2 _ ls u.1 u.2 v r n (hp_c_clash n (xs (7 * j + 1)) (xs (7 * j + 2))) ⟨hP2, hD1, hPM2, hDM, hp_sepM hsep1, hinv⟩ hS2 (lv_sub hl [0, 3, 4, 5, 6] rfl)
  refine lv_if_ne (tgt := 1136) hx hb dL_law_1114 (by decide) (fun _ => hend ls hl) (fun c0 => ?_)
  have ha := hans c0
  refine lv_aload_n hx hb dL_law_1117 rfl (lv_at hl 6 rfl) ?_
  refine lv_iconst (v := 0) hx hb dL_law_1118 (by decide) ?_
  refine va_lald (f := u.2) hx hb hK hP2 0 3 rfl rfl (i := 0) (by unfold vp_in; decide) dL_law_1119 ?_
  refine hp_topl (y := (hp_b (hp_b_clash r n (xs (7 * j + 1)) (xs (7 * j + 2)))).toInt64) (by rw [sb_cl0]; exact ha) ?_
  refine lv_iload hx hb dL_law_1120 (lv_at hl 0 rfl) ?_
  refine lv_if_eq (tgt := 1129) hx hb dL_law_1122 (by decide) (fun q => ?_) (fun q => ?_)
  · refine lv_lconst (v := 0) hx hb dL_law_1129 (by decide) ?_
    refine hp_lcmp hx hb dL_law_1130 (by rw [q]; rfl) ?_
    refine lv_if_eq (tgt := 1136) hx hb dL_law_1131 (by decide) (fun _ => hend ls hl) (fun c9 => absurd rfl c9)
  · refine lv_lconst (v := 1) hx hb dL_law_1125 (by decide) ?_
    refine lv_goto (tgt := 1130) hx hb dL_law_1126 (by decide) ?_
    refine hp_lcmp hx hb dL_law_1130 (by rw [hp_bt (hp_bn q)]; rfl) ?_
    refine lv_if_eq (tgt := 1136) hx hb dL_law_1131 (by decide) (fun _ => hend ls hl) (fun c9 => absurd rfl c9)
set_option maxHeartbeats 400000 in
set_option maxRecDepth 100000 in
theorem law_clashes {p : Program} {e : Env} {s : State} {m : MethodId} {below : List Frame} {meth : Method} {c : Code} (l : Launch) (hl0 : l.stackTraces = false) {b L : Nat} {xs : Nat → Int32} (hx : p.tables.exec = Jvm.exec) (hb : c.code = code) (hml : c.maxLocals = 7) (hown : s.vm.findClass RL = some m.cls) (hts : ∀ w ∈ wsL_law, w.before #[Value.ref b] s = true) (hX : va_X b L xs s s.heap) (hbl : b < s.heap.size) (hL : L ≤ 3584) {dC : Nat → ClassId} {dI : Nat → Nat → Nat} {cI cZ cO cJ : ClassId} (hK : va_K (dC, dI) vwCl (hp_ty cI cZ cO cJ) s) (hN : hp_ex s) (hstr : hp_str s) (hZu : hp_Zu (hp_A s) s s.heap) (hZn : hp_Zn (hp_A s) s s.heap) (hnc : hp_nc s) {ox om oq : Nat} {bx am : Nat → Nat} {Q : State → Prop} {j : Nat} (hj : 7 * j + 7 ≤ L)
    (ih : ∀ (H : Heap) (locs : List Loc) (ls : Array Slot) (ad : Nat → Nat) (g : Nat → Int64) (v : Nat → Int32) (r : Nat → Nat → Int32) (n : Nat) (t : Int32), hp_LI (dC, dI) cI cZ cO cJ (hp_A s) ox om oq bx am ad g v r n t H → va_S (hp_A s) s.heap H locs → lv_has ls 7 [(4, .int (nI (7 * (j + 1)))), (0, .ref b), (1, .ref ox), (2, .ref om), (3, .ref oq)] → W p l e room_1 s m #[Value.ref b] below meth c H locs (22 + (j + 1)) (505 + 10 * (j + 1)) Q (F0 m 23 ls []))
    {H : Heap} {locs : List Loc} {ls : Array Slot} {ad : Nat → Nat} {g : Nat → Int64} {v : Nat → Int32} {r : Nat → Nat → Int32} {n : Nat} {t : Int32} (hI : hp_LI (dC, dI) cI cZ cO cJ (hp_A s) ox om oq bx am ad g v r n t H) (hS : va_S (hp_A s) s.heap H locs) (hl : lv_has ls 7 [(4, .int (nI (7 * j))), (0, .ref b), (1, .ref ox), (2, .ref om), (3, .ref oq)]) : W p l e room_1 s m #[Value.ref b] below meth c H locs (22 + j) (505 + 10 * j) Q (F0 m 1139 ls []) := by
  obtain ⟨hP, hD, hPM, hDM, hsep, hinv⟩ := hI
  have hA : ∀ q : Nat, s.heap.size ≤ q → hp_A s q := fun _ h => h
  have hbA : ¬ hp_A s b := Nat.not_le.mpr hbl
  have hb7 : 7 * j + 7 < 2 ^ 31 := by omega
  refine lv_aload_n hx hb dL_law_1139 rfl (lv_at hl 2 rfl) ?_
  refine lv_aload_n hx hb dL_law_1140 rfl (lv_at hl 1 rfl) ?_
  refine lv_iload hx hb dL_law_1141 (lv_at hl 0 rfl) ?_
  refine lv_iconst (v := 1) hx hb dL_law_1143 (by decide) ?_
  refine lv_iadd hx hb dL_law_1144 ?_
  refine hp_top (show nI (7 * j) + 1 = nI (7 * j + 1) from nI_add _ _) ?_
  refine hp_sld hx hb hX hbl hbA hS (show 7 * j + 1 < L by omega) (by omega) dL_law_1145 ?_
  refine lv_aload_n hx hb dL_law_1146 rfl (lv_at hl 4 rfl) ?_
  have hFc := hp_free hD hS hA
  refine vx_calli (vx_runSX (As := [.ref ox, .int (xs (7 * j + 1)), .ref oq]) (rest := []) ⟨hx, hb, hml, hown, hts⟩ (c_L_clashes l hl0 dC dI cI cZ cO cJ ox bx ad v r n oq g H.size (xs (7 * j + 1)) hinv) (vx_cwSW 3 hts gL_law_L_clashes rfl rfl rfl (by decide +kernel) ⟨(Nat.le_of_ble_eq_true rfl), (Nat.le_of_ble_eq_true rfl)⟩) ⟨hp_fbL, fun U hU hW => ⟨rfl, hp_toT hP hK hD hN hstr hZu hZn hS hA hU hW, hp_nc_mv hW.alike hnc⟩⟩ rfl rfl hl.1 rfl (lv_room (Nat.le_of_ble_eq_true rfl)) dL_law_1147 ⟨show 22 + j + 1 ≤ 639101 by omega, show 505 + 10 * j + 6 ≤ 7178800 by omega⟩) hS (fun q _ h => hFc q h) hFc (fun q _ h => hFc q h) (fun _ _ _ _ _ _ _ _ _ hpx _ _ _ _ _ _ _ => False.elim hpx) (fun r9 u t9 H1 locs1 ht _ hw hB hsz1 hkk hS1 => ?_)
  obtain ⟨rfl, hans⟩ := hw
  obtain ⟨hPx, hDx⟩ := hB
  have hPM1 := hp_sepP hPM hsep hkk
  have hsep1 := hp_sepN hPM hsep hDx
  have hP1 := hp_th ht hPx
  have hD1 := hDx.weaken (fun k q _ h => hFc q.1 h)
  clear hP hD hPM hPx hDx hkk ht hFc hS
  refine lv_istore (lv' := [(5, .int (hp_c_st (xs (7 * j + 1)))), (4, .int (nI (7 * j))), (0, .ref b), (1, .ref ox), (2, .ref om), (3, .ref oq)]) hx hb dL_law_1150 hl (by decide) rfl (fun ls hl => ?_)
  refine lv_aload_n hx hb dL_law_1152 rfl (lv_at hl 4 rfl) ?_
  refine lv_aload_n hx hb dL_law_1153 rfl (lv_at hl 2 rfl) ?_
  refine lv_iload hx hb dL_law_1154 (lv_at hl 1 rfl) ?_
  refine lv_iconst (v := 1) hx hb dL_law_1156 (by decide) ?_
  refine lv_iadd hx hb dL_law_1157 ?_
  refine hp_top (show nI (7 * j) + 1 = nI (7 * j + 1) from nI_add _ _) ?_
  refine hp_sld hx hb hX hbl hbA hS1 (show 7 * j + 1 < L by omega) (by omega) dL_law_1158 ?_
  have hFm := hp_free (hDM (va_up v 0 t) r n) hS1 hA
  refine va_calli (va_runV (As := [.int (xs (7 * j + 1))]) (rest := []) ⟨hx, hb, hml, hown, hts⟩ (c_X2_clashes l dC dI cI cZ cO cJ om am (va_up v 0 t) r n H1.size (xs (7 * j + 1)) (hp_inv_up t hinv)) (cwV 1 hts gL_law_X2_clashes rfl rfl rfl (by decide +kernel) ⟨(Nat.le_of_ble_eq_true rfl), (Nat.le_of_ble_eq_true rfl)⟩) ⟨hp_mfb, va_recv hK hPM1 (ci := 2) (q0 := 0) rfl hp_M_o, fun U hU hW => ⟨rfl, hp_mto hPM1 hK (hDM _ _ _) hU hW⟩⟩ rfl rfl hl.1 rfl (lv_room (Nat.le_of_ble_eq_true rfl)) dL_law_1159 ⟨show 22 + j + 1 + 0 ≤ 639101 by omega, show 505 + 10 * j + 6 + 0 ≤ 7178800 by omega⟩) hS1 (fun q _ h => hFm q h) hFm (fun r9 u9 t9 H2 locs2 ht _ hw hB _ hkk hS2 => ?_)
  have hPM2 : va_P (dC, dI) vwCl (hp_M cI cZ om am (va_up v 0 (hp_c_st (xs (7 * j + 1)))) r n) H2 := hp_cP (by exact congrArg (fun z => hp_M cI cZ om am z r n) (bx_uu v 0 t _)) (hp_th ht hB)
  have hP2 := hp_sepP hP1 (hp_sep_sym hsep1) hkk
  obtain rfl : r9 = hp_a_clashes r n (xs (7 * j + 1)) := hw
  clear hPM1 hP1 hB hkk ht hFm hS1
  refine lv_istore (lv' := [(6, .int (hp_a_clashes r n (xs (7 * j + 1)))), (5, .int (hp_c_st (xs (7 * j + 1)))), (4, .int (nI (7 * j))), (0, .ref b), (1, .ref ox), (2, .ref om), (3, .ref oq)]) hx hb dL_law_1162 hl (by decide) rfl (fun ls hl => ?_)
  refine lv_aload_n hx hb dL_law_1164 rfl (lv_at hl 5 rfl) ?_
  refine vp_callSi (W.runV (As := []) (rest := []) ⟨hx, hb, hml, hown, hts⟩ (c_X2_thrown l dC dI cI cZ cO cJ om am (va_up v 0 (hp_c_st (xs (7 * j + 1)))) r n) (cwV 0 hts gL_law_X2_thrown rfl rfl rfl (by decide +kernel) ⟨(Nat.le_of_ble_eq_true rfl), (Nat.le_of_ble_eq_true rfl)⟩) ⟨hp_fb, va_recv hK hPM2 (ci := 2) (q0 := 0) rfl hp_M_o, fun U hU hW => ⟨rfl, hp_to hPM2 hK hU hW⟩⟩ rfl rfl hl.1 rfl (lv_room (Nat.le_of_ble_eq_true rfl)) dL_law_1165 ⟨show 22 + j + 1 + 0 + 0 ≤ 639101 by omega, show 505 + 10 * j + 6 + 0 + 0 ≤ 7178800 by omega⟩) (fun r_1 hr_1 => ?_)
  subst hr_1
  refine hp_top (va_up_self _ _ _) ?_
  refine lv_iload hx hb dL_law_1168 (lv_at hl 1 rfl) ?_
  refine lv_icmp_eq (tgt := 1175) hx hb dL_law_1170 (by decide) (fun _ => ?_) (fun c9 => absurd rfl c9)
  refine lv_iload hx hb dL_law_1175 (lv_at hl 1 rfl) ?_
  have hend : ∀ ls : Array Slot, lv_has ls 7 [(6, .int (hp_a_clashes r n (xs (7 * j + 1)))), (5, .int (hp_c_st (xs (7 * j + 1)))), (4, .int (nI (7 * j))), (0, .ref b), (1, .ref ox), (2, .ref om), (3, .ref oq)] → W p l e room_1 s m #[Value.ref b] below meth c H2 locs2 (22 + j + 1 + 0) (505 + 10 * j + 6 + 0) Q (F0 m 1192 ls []) := by
    intro ls hl
    refine lv_goto (tgt := 1581) hx hb dL_law_1192 (by decide) ?_
    refine lv_iinc (v := nI (7 * (j + 1))) (lv' := [(4, .int (nI (7 * (j + 1)))), (6, .int (hp_a_clashes r n (xs (7 * j + 1)))), (5, .int (hp_c_st (xs (7 * j + 1)))), (0, .ref b), (1, .ref ox), (2, .ref om), (3, .ref oq)]) hx hb dL_law_1581 hl (k := 2) rfl (hp_i7 j) (by decide) rfl (fun ls hl => ?_)
    refine lv_goto (tgt := 23) hx hb dL_law_1584 (by decide) ?_
    refine W.widen (k := 22 + (j + 1)) (n := 505 + 10 * (j + 1)) (by omega) (by omega) ?_
    exact ih H2 _ ls u.1 u.2 v r n (hp_c_st (xs (7 * j + 1))) ⟨hP2, hD1, hPM2, hDM, hp_sepM hsep1, hinv⟩ hS2 (lv_sub hl [0, 3, 4, 5, 6] rfl)
  refine lv_if_ne (tgt := 1192) hx hb dL_law_1177 (by decide) (fun _ => hend ls hl) (fun c0 => ?_)
  have ha := hans c0
  refine lv_aload_n hx hb dL_law_1180 rfl (lv_at hl 6 rfl) ?_
  refine lv_iconst (v := 0) hx hb dL_law_1181 (by decide) ?_
  refine va_lald (f := u.2) hx hb hK hP2 0 3 rfl rfl (i := 0) (by unfold vp_in; decide) dL_law_1182 ?_
  refine hp_topl (y := (hp_a_clashes r n (xs (7 * j + 1))).toInt64) (by rw [sb_cl0]; exact ha) ?_
  refine lv_iload hx hb dL_law_1183 (lv_at hl 0 rfl) ?_
  refine lv_i2l hx hb dL_law_1185 rfl ?_
  refine hp_lcmp hx hb dL_law_1186 (rfl) ?_
  refine lv_if_eq (tgt := 1192) hx hb dL_law_1187 (by decide) (fun _ => hend ls hl) (fun c9 => absurd rfl c9)
set_option maxHeartbeats 400000 in
set_option maxRecDepth 100000 in
theorem law_isStopped {p : Program} {e : Env} {s : State} {m : MethodId} {below : List Frame} {meth : Method} {c : Code} (l : Launch) (hl0 : l.stackTraces = false) {b L : Nat} {xs : Nat → Int32} (hx : p.tables.exec = Jvm.exec) (hb : c.code = code) (hml : c.maxLocals = 7) (hown : s.vm.findClass RL = some m.cls) (hts : ∀ w ∈ wsL_law, w.before #[Value.ref b] s = true) (hX : va_X b L xs s s.heap) (hbl : b < s.heap.size) (hL : L ≤ 3584) {dC : Nat → ClassId} {dI : Nat → Nat → Nat} {cI cZ cO cJ : ClassId} (hK : va_K (dC, dI) vwCl (hp_ty cI cZ cO cJ) s) (hN : hp_ex s) (hstr : hp_str s) (hZu : hp_Zu (hp_A s) s s.heap) (hZn : hp_Zn (hp_A s) s s.heap) (hnc : hp_nc s) {ox om oq : Nat} {bx am : Nat → Nat} {Q : State → Prop} {j : Nat} (hj : 7 * j + 7 ≤ L)
    (ih : ∀ (H : Heap) (locs : List Loc) (ls : Array Slot) (ad : Nat → Nat) (g : Nat → Int64) (v : Nat → Int32) (r : Nat → Nat → Int32) (n : Nat) (t : Int32), hp_LI (dC, dI) cI cZ cO cJ (hp_A s) ox om oq bx am ad g v r n t H → va_S (hp_A s) s.heap H locs → lv_has ls 7 [(4, .int (nI (7 * (j + 1)))), (0, .ref b), (1, .ref ox), (2, .ref om), (3, .ref oq)] → W p l e room_1 s m #[Value.ref b] below meth c H locs (22 + (j + 1)) (505 + 10 * (j + 1)) Q (F0 m 23 ls []))
    {H : Heap} {locs : List Loc} {ls : Array Slot} {ad : Nat → Nat} {g : Nat → Int64} {v : Nat → Int32} {r : Nat → Nat → Int32} {n : Nat} {t : Int32} (hI : hp_LI (dC, dI) cI cZ cO cJ (hp_A s) ox om oq bx am ad g v r n t H) (hS : va_S (hp_A s) s.heap H locs) (hl : lv_has ls 7 [(4, .int (nI (7 * j))), (0, .ref b), (1, .ref ox), (2, .ref om), (3, .ref oq)]) : W p l e room_1 s m #[Value.ref b] below meth c H locs (22 + j) (505 + 10 * j) Q (F0 m 1195 ls []) := by
  obtain ⟨hP, hD, hPM, hDM, hsep, hinv⟩ := hI
  have hA : ∀ q : Nat, s.heap.size ≤ q → hp_A s q := fun _ h => h
  have hbA : ¬ hp_A s b := Nat.not_le.mpr hbl
  have hb7 : 7 * j + 7 < 2 ^ 31 := by omega
  refine lv_aload_n hx hb dL_law_1195 rfl (lv_at hl 2 rfl) ?_
  refine lv_aload_n hx hb dL_law_1196 rfl (lv_at hl 1 rfl) ?_
  refine lv_iload hx hb dL_law_1197 (lv_at hl 0 rfl) ?_
  refine lv_iconst (v := 1) hx hb dL_law_1199 (by decide) ?_
  refine lv_iadd hx hb dL_law_1200 ?_
  refine hp_top (show nI (7 * j) + 1 = nI (7 * j + 1) from nI_add _ _) ?_
  refine hp_sld hx hb hX hbl hbA hS (show 7 * j + 1 < L by omega) (by omega) dL_law_1201 ?_
  refine lv_aload_n hx hb dL_law_1202 rfl (lv_at hl 1 rfl) ?_
  refine lv_iload hx hb dL_law_1203 (lv_at hl 0 rfl) ?_
  refine lv_iconst (v := 2) hx hb dL_law_1205 (by decide) ?_
  refine lv_iadd hx hb dL_law_1206 ?_
  refine hp_top (show nI (7 * j) + 2 = nI (7 * j + 2) from nI_add _ _) ?_
  refine hp_sld hx hb hX hbl hbA hS (show 7 * j + 2 < L by omega) (by omega) dL_law_1207 ?_
  refine lv_aload_n hx hb dL_law_1208 rfl (lv_at hl 4 rfl) ?_
  have hFc := hp_free hD hS hA
  refine vx_calli (vx_runSX (As := [.ref ox, .int (xs (7 * j + 1)), .int (xs (7 * j + 2)), .ref oq]) (rest := []) ⟨hx, hb, hml, hown, hts⟩ (c_L_isStopped l hl0 dC dI cI cZ cO cJ ox bx ad v r n oq g H.size (xs (7 * j + 1)) (xs (7 * j + 2)) hinv) (vx_cwSW 4 hts gL_law_L_isStopped rfl rfl rfl (by decide +kernel) ⟨(Nat.le_of_ble_eq_true rfl), (Nat.le_of_ble_eq_true rfl)⟩) ⟨hp_fbL, fun U hU hW => ⟨rfl, hp_toT hP hK hD hN hstr hZu hZn hS hA hU hW, hp_nc_mv hW.alike hnc⟩⟩ rfl rfl hl.1 rfl (lv_room (Nat.le_of_ble_eq_true rfl)) dL_law_1209 ⟨show 22 + j + 1 ≤ 639101 by omega, show 505 + 10 * j + 6 ≤ 7178800 by omega⟩) hS (fun q _ h => hFc q h) hFc (fun q _ h => hFc q h) (fun _ _ _ _ _ _ _ _ _ hpx _ _ _ _ _ _ _ => False.elim hpx) (fun r9 u t9 H1 locs1 ht _ hw hB hsz1 hkk hS1 => ?_)
  obtain ⟨rfl, hans⟩ := hw
  obtain ⟨hPx, hDx⟩ := hB
  have hPM1 := hp_sepP hPM hsep hkk
  have hsep1 := hp_sepN hPM hsep hDx
  have hP1 := hp_th ht hPx
  have hD1 := hDx.weaken (fun k q _ h => hFc q.1 h)
  clear hP hD hPM hPx hDx hkk ht hFc hS
  refine lv_istore (lv' := [(5, .int (hp_c_stopped (xs (7 * j + 1)) (xs (7 * j + 2)))), (4, .int (nI (7 * j))), (0, .ref b), (1, .ref ox), (2, .ref om), (3, .ref oq)]) hx hb dL_law_1212 hl (by decide) rfl (fun ls hl => ?_)
  refine lv_aload_n hx hb dL_law_1214 rfl (lv_at hl 4 rfl) ?_
  refine lv_aload_n hx hb dL_law_1215 rfl (lv_at hl 2 rfl) ?_
  refine lv_iload hx hb dL_law_1216 (lv_at hl 1 rfl) ?_
  refine lv_iconst (v := 1) hx hb dL_law_1218 (by decide) ?_
  refine lv_iadd hx hb dL_law_1219 ?_
  refine hp_top (show nI (7 * j) + 1 = nI (7 * j + 1) from nI_add _ _) ?_
  refine hp_sld hx hb hX hbl hbA hS1 (show 7 * j + 1 < L by omega) (by omega) dL_law_1220 ?_
  refine lv_aload_n hx hb dL_law_1221 rfl (lv_at hl 2 rfl) ?_
  refine lv_iload hx hb dL_law_1222 (lv_at hl 1 rfl) ?_
  refine lv_iconst (v := 2) hx hb dL_law_1224 (by decide) ?_
  refine lv_iadd hx hb dL_law_1225 ?_
  refine hp_top (show nI (7 * j) + 2 = nI (7 * j + 2) from nI_add _ _) ?_
  refine hp_sld hx hb hX hbl hbA hS1 (show 7 * j + 2 < L by omega) (by omega) dL_law_1226 ?_
  have hFm := hp_free (hDM (va_up v 0 t) r n) hS1 hA
  refine va_calli (va_runV (As := [.int (xs (7 * j + 1)), .int (xs (7 * j + 2))]) (rest := []) ⟨hx, hb, hml, hown, hts⟩ (c_X2_isStopped l dC dI cI cZ cO cJ om am (va_up v 0 t) r n H1.size (xs (7 * j + 1)) (xs (7 * j + 2)) (hp_inv_up t hinv)) (cwV 2 hts gL_law_X2_isStopped rfl rfl rfl (by decide +kernel) ⟨(Nat.le_of_ble_eq_true rfl), (Nat.le_of_ble_eq_true rfl)⟩) ⟨hp_mfb, va_recv hK hPM1 (ci := 2) (q0 := 0) rfl hp_M_o, fun U hU hW => ⟨rfl, hp_mto hPM1 hK (hDM _ _ _) hU hW⟩⟩ rfl rfl hl.1 rfl (lv_room (Nat.le_of_ble_eq_true rfl)) dL_law_1227 ⟨show 22 + j + 1 + 0 ≤ 639101 by omega, show 505 + 10 * j + 6 + 0 ≤ 7178800 by omega⟩) hS1 (fun q _ h => hFm q h) hFm (fun r9 u9 t9 H2 locs2 ht _ hw hB _ hkk hS2 => ?_)
  have hPM2 : va_P (dC, dI) vwCl (hp_M cI cZ om am (va_up v 0 (hp_c_stopped (xs (7 * j + 1)) (xs (7 * j + 2)))) r n) H2 := hp_cP (by exact congrArg (fun z => hp_M cI cZ om am z r n) (bx_uu v 0 t _)) (hp_th ht hB)
  have hP2 := hp_sepP hP1 (hp_sep_sym hsep1) hkk
  obtain rfl : r9 = hp_b (hp_b_stopped r n (xs (7 * j + 1)) (xs (7 * j + 2))) := hw
  clear hPM1 hP1 hB hkk ht hFm hS1
  refine lv_istore (lv' := [(6, .int (hp_b (hp_b_stopped r n (xs (7 * j + 1)) (xs (7 * j + 2))))), (5, .int (hp_c_stopped (xs (7 * j + 1)) (xs (7 * j + 2)))), (4, .int (nI (7 * j))), (0, .ref b), (1, .ref ox), (2, .ref om), (3, .ref oq)]) hx hb dL_law_1230 hl (by decide) rfl (fun ls hl => ?_)
  refine lv_aload_n hx hb dL_law_1232 rfl (lv_at hl 5 rfl) ?_
  refine vp_callSi (W.runV (As := []) (rest := []) ⟨hx, hb, hml, hown, hts⟩ (c_X2_thrown l dC dI cI cZ cO cJ om am (va_up v 0 (hp_c_stopped (xs (7 * j + 1)) (xs (7 * j + 2)))) r n) (cwV 0 hts gL_law_X2_thrown rfl rfl rfl (by decide +kernel) ⟨(Nat.le_of_ble_eq_true rfl), (Nat.le_of_ble_eq_true rfl)⟩) ⟨hp_fb, va_recv hK hPM2 (ci := 2) (q0 := 0) rfl hp_M_o, fun U hU hW => ⟨rfl, hp_to hPM2 hK hU hW⟩⟩ rfl rfl hl.1 rfl (lv_room (Nat.le_of_ble_eq_true rfl)) dL_law_1233 ⟨show 22 + j + 1 + 0 + 0 ≤ 639101 by omega, show 505 + 10 * j + 6 + 0 + 0 ≤ 7178800 by omega⟩) (fun r_1 hr_1 => ?_)
  subst hr_1
  refine hp_top (va_up_self _ _ _) ?_
  refine lv_iload hx hb dL_law_1236 (lv_at hl 1 rfl) ?_
  refine lv_icmp_eq (tgt := 1243) hx hb dL_law_1238 (by decide) (fun _ => ?_) (fun c9 => absurd rfl c9)
  refine lv_iload hx hb dL_law_1243 (lv_at hl 1 rfl) ?_
  have hend : ∀ ls : Array Slot, lv_has ls 7 [(6, .int (hp_b (hp_b_stopped r n (xs (7 * j + 1)) (xs (7 * j + 2))))), (5, .int (hp_c_stopped (xs (7 * j + 1)) (xs (7 * j + 2)))), (4, .int (nI (7 * j))), (0, .ref b), (1, .ref ox), (2, .ref om), (3, .ref oq)] → W p l e room_1 s m #[Value.ref b] below meth c H2 locs2 (22 + j + 1 + 0) (505 + 10 * j + 6 + 0) Q (F0 m 1267 ls []) := by
    intro ls hl
    refine lv_goto (tgt := 1581) hx hb dL_law_1267 (by decide) ?_
    refine lv_iinc (v := nI (7 * (j + 1))) (lv' := [(4, .int (nI (7 * (j + 1)))), (6, .int (hp_b (hp_b_stopped r n (xs (7 * j + 1)) (xs (7 * j + 2))))), (5, .int (hp_c_stopped (xs (7 * j + 1)) (xs (7 * j + 2)))), (0, .ref b), (1, .ref ox), (2, .ref om), (3, .ref oq)]) hx hb dL_law_1581 hl (k := 2) rfl (hp_i7 j) (by decide) rfl (fun ls hl => ?_)
    refine lv_goto (tgt := 23) hx hb dL_law_1584 (by decide) ?_
    refine W.widen (k := 22 + (j + 1)) (n := 505 + 10 * (j + 1)) (by omega) (by omega) ?_
    exact ih H2 _ ls u.1 u.2 v r n (hp_c_stopped (xs (7 * j + 1)) (xs (7 * j + 2))) ⟨hP2, hD1, hPM2, hDM, hp_sepM hsep1, hinv⟩ hS2 (lv_sub hl [0, 3, 4, 5, 6] rfl)
  refine lv_if_ne (tgt := 1267) hx hb dL_law_1245 (by decide) (fun _ => hend ls hl) (fun c0 => ?_)
  have ha := hans c0
  refine lv_aload_n hx hb dL_law_1248 rfl (lv_at hl 6 rfl) ?_
  refine lv_iconst (v := 0) hx hb dL_law_1249 (by decide) ?_
  refine va_lald (f := u.2) hx hb hK hP2 0 3 rfl rfl (i := 0) (by unfold vp_in; decide) dL_law_1250 ?_
  refine hp_topl (y := (hp_b (hp_b_stopped r n (xs (7 * j + 1)) (xs (7 * j + 2)))).toInt64) (by rw [sb_cl0]; exact ha) ?_
  refine lv_iload hx hb dL_law_1251 (lv_at hl 0 rfl) ?_
  refine lv_if_eq (tgt := 1260) hx hb dL_law_1253 (by decide) (fun q => ?_) (fun q => ?_)
  · refine lv_lconst (v := 0) hx hb dL_law_1260 (by decide) ?_
    refine hp_lcmp hx hb dL_law_1261 (by rw [q]; rfl) ?_
    refine lv_if_eq (tgt := 1267) hx hb dL_law_1262 (by decide) (fun _ => hend ls hl) (fun c9 => absurd rfl c9)
  · refine lv_lconst (v := 1) hx hb dL_law_1256 (by decide) ?_
    refine lv_goto (tgt := 1261) hx hb dL_law_1257 (by decide) ?_
    refine hp_lcmp hx hb dL_law_1261 (by rw [hp_bt (hp_bn q)]; rfl) ?_
    refine lv_if_eq (tgt := 1267) hx hb dL_law_1262 (by decide) (fun _ => hend ls hl) (fun c9 => absurd rfl c9)
