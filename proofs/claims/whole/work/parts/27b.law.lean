/-! the law, call by call -/
set_option maxHeartbeats 400000 in
set_option maxRecDepth 100000 in
theorem law_order {p : Program} {e : Env} {s : State} {m : MethodId} {below : List Frame} {meth : Method} {c : Code} (l : Launch) (hl0 : l.stackTraces = false) {b L : Nat} {xs : Nat → Int32} (hx : p.tables.exec = Jvm.exec) (hb : c.code = code) (hml : c.maxLocals = 7) (hown : s.vm.findClass RL = some m.cls) (hts : ∀ w ∈ wsL_law, w.before #[Value.ref b] s = true) (hX : va_X b L xs s s.heap) (hbl : b < s.heap.size) (hL : L ≤ 3584) {dC : Nat → ClassId} {dI : Nat → Nat → Nat} {cI cZ cO cJ : ClassId} (hK : va_K (dC, dI) vwCl (hp_ty cI cZ cO cJ) s) (hN : hp_ex s) (hstr : hp_str s) (hZu : hp_Zu (hp_A s) s s.heap) (hZn : hp_Zn (hp_A s) s s.heap) (hnc : hp_nc s) {ox om oq : Nat} {bx am : Nat → Nat} {Q : State → Prop} {j : Nat} (hj : 7 * j + 7 ≤ L)
    (ih : ∀ (H : Heap) (locs : List Loc) (ls : Array Slot) (ad : Nat → Nat) (g : Nat → Int64) (v : Nat → Int32) (r : Nat → Nat → Int32) (n : Nat) (t : Int32), hp_LI (dC, dI) cI cZ cO cJ (hp_A s) ox om oq bx am ad g v r n t H → va_S (hp_A s) s.heap H locs → lv_has ls 7 [(4, .int (nI (7 * (j + 1)))), (0, .ref b), (1, .ref ox), (2, .ref om), (3, .ref oq)] → W p l e room_1 s m #[Value.ref b] below meth c H locs (22 + (j + 1)) (505 + 10 * (j + 1)) Q (F0 m 23 ls []))
    {H : Heap} {locs : List Loc} {ls : Array Slot} {ad : Nat → Nat} {g : Nat → Int64} {v : Nat → Int32} {r : Nat → Nat → Int32} {n : Nat} {t : Int32} (hI : hp_LI (dC, dI) cI cZ cO cJ (hp_A s) ox om oq bx am ad g v r n t H) (hS : va_S (hp_A s) s.heap H locs) (hl : lv_has ls 7 [(4, .int (nI (7 * j))), (0, .ref b), (1, .ref ox), (2, .ref om), (3, .ref oq)]) : W p l e room_1 s m #[Value.ref b] below meth c H locs (22 + j) (505 + 10 * j) Q (F0 m 676 ls []) := by
  obtain ⟨hP, hD, hPM, hDM, hsep, hinv⟩ := hI
  have hA : ∀ q : Nat, s.heap.size ≤ q → hp_A s q := fun _ h => h
  have hbA : ¬ hp_A s b := Nat.not_le.mpr hbl
  have hb7 : 7 * j + 7 < 2 ^ 31 := by omega
  refine lv_aload_n hx hb dL_law_676 rfl (lv_at hl 2 rfl) ?_
  refine lv_aload_n hx hb dL_law_677 rfl (lv_at hl 1 rfl) ?_
  refine lv_iload hx hb dL_law_678 (lv_at hl 0 rfl) ?_
  refine lv_iconst (v := 1) hx hb dL_law_680 (by decide) ?_
  refine lv_iadd hx hb dL_law_681 ?_
  refine hp_top (show nI (7 * j) + 1 = nI (7 * j + 1) from nI_add _ _) ?_
  refine hp_sld hx hb hX hbl hbA hS (show 7 * j + 1 < L by omega) (by omega) dL_law_682 ?_
  refine lv_aload_n hx hb dL_law_683 rfl (lv_at hl 4 rfl) ?_
  have hFc := hp_free hD hS hA
  refine vx_calli (vx_runSX (As := [.ref ox, .int (xs (7 * j + 1)), .ref oq]) (rest := []) ⟨hx, hb, hml, hown, hts⟩ (c_L_order l hl0 dC dI cI cZ cO cJ ox bx ad v r n oq g H.size (xs (7 * j + 1)) hinv) (vx_cwSW 3 hts gL_law_L_order rfl rfl rfl (by decide +kernel) ⟨(Nat.le_of_ble_eq_true rfl), (Nat.le_of_ble_eq_true rfl)⟩) ⟨hp_fbL, fun U hU hW => ⟨rfl, hp_toT hP hK hD hN hstr hZu hZn hS hA hU hW, hp_nc_mv hW.alike hnc⟩⟩ rfl rfl hl.1 rfl (lv_room (Nat.le_of_ble_eq_true rfl)) dL_law_684 ⟨show 22 + j + 1 ≤ 639101 by omega, show 505 + 10 * j + 6 ≤ 7178800 by omega⟩) hS (fun q _ h => hFc q h) hFc (fun q _ h => hFc q h) (fun _ _ _ _ _ _ _ _ _ hpx _ _ _ _ _ _ _ => False.elim hpx) (fun r9 u t9 H1 locs1 ht _ hw hB hsz1 hkk hS1 => ?_)
  obtain ⟨rfl, hans⟩ := hw
  obtain ⟨hPx, hDx⟩ := hB
  have hPM1 := hp_sepP hPM hsep hkk
  have hsep1 := hp_sepN hPM hsep hDx
  have hP1 := hp_th ht hPx
  have hD1 := hDx.weaken (fun k q _ h => hFc q.1 h)
  clear hP hD hPM hPx hDx hkk ht hFc hS
  refine lv_istore (lv' := [(5, .int (hp_c_sta r n (xs (7 * j + 1)) 0)), (4, .int (nI (7 * j))), (0, .ref b), (1, .ref ox), (2, .ref om), (3, .ref oq)]) hx hb dL_law_687 hl (by decide) rfl (fun ls hl => ?_)
  refine lv_aload_n hx hb dL_law_689 rfl (lv_at hl 4 rfl) ?_
  refine lv_aload_n hx hb dL_law_690 rfl (lv_at hl 2 rfl) ?_
  refine lv_iload hx hb dL_law_691 (lv_at hl 1 rfl) ?_
  refine lv_iconst (v := 1) hx hb dL_law_693 (by decide) ?_
  refine lv_iadd hx hb dL_law_694 ?_
  refine hp_top (show nI (7 * j) + 1 = nI (7 * j + 1) from nI_add _ _) ?_
  refine hp_sld hx hb hX hbl hbA hS1 (show 7 * j + 1 < L by omega) (by omega) dL_law_695 ?_
  have hFm := hp_free (hDM (va_up v 0 t) r n) hS1 hA
  refine va_calli (va_runV (As := [.int (xs (7 * j + 1))]) (rest := []) ⟨hx, hb, hml, hown, hts⟩ (c_X2_order l dC dI cI cZ cO cJ om am (va_up v 0 t) r n H1.size (xs (7 * j + 1)) (hp_inv_up t hinv)) (cwV 1 hts gL_law_X2_order rfl rfl rfl (by decide +kernel) ⟨(Nat.le_of_ble_eq_true rfl), (Nat.le_of_ble_eq_true rfl)⟩) ⟨hp_mfb, va_recv hK hPM1 (ci := 2) (q0 := 0) rfl hp_M_o, fun U hU hW => ⟨rfl, hp_mto hPM1 hK (hDM _ _ _) hU hW⟩⟩ rfl rfl hl.1 rfl (lv_room (Nat.le_of_ble_eq_true rfl)) dL_law_696 ⟨show 22 + j + 1 + 0 ≤ 639101 by omega, show 505 + 10 * j + 6 + 0 ≤ 7178800 by omega⟩) hS1 (fun q _ h => hFm q h) hFm (fun r9 u9 t9 H2 locs2 ht _ hw hB _ hkk hS2 => ?_)
  have hPM2 : va_P (dC, dI) vwCl (hp_M cI cZ om am (va_up v 0 (hp_c_sta r n (xs (7 * j + 1)) 0)) (hp_r_order v r n (xs (7 * j + 1))) n) H2 := hp_cP (by exact congrArg (fun z => hp_M cI cZ om am z (hp_r_order v r n (xs (7 * j + 1))) n) (bx_uu v 0 t _)) (hp_th ht hB)
  have hP2 := hp_sepP hP1 (hp_sep_sym hsep1) hkk
  obtain rfl : r9 = hp_a_order r n (xs (7 * j + 1)) := hw
  clear hPM1 hP1 hB hkk ht hFm hS1
  refine lv_istore (lv' := [(6, .int (hp_a_order r n (xs (7 * j + 1)))), (5, .int (hp_c_sta r n (xs (7 * j + 1)) 0)), (4, .int (nI (7 * j))), (0, .ref b), (1, .ref ox), (2, .ref om), (3, .ref oq)]) hx hb dL_law_699 hl (by decide) rfl (fun ls hl => ?_)
  refine lv_aload_n hx hb dL_law_701 rfl (lv_at hl 5 rfl) ?_
  refine vp_callSi (W.runV (As := []) (rest := []) ⟨hx, hb, hml, hown, hts⟩ (c_X2_thrown l dC dI cI cZ cO cJ om am (va_up v 0 (hp_c_sta r n (xs (7 * j + 1)) 0)) (hp_r_order v r n (xs (7 * j + 1))) n) (cwV 0 hts gL_law_X2_thrown rfl rfl rfl (by decide +kernel) ⟨(Nat.le_of_ble_eq_true rfl), (Nat.le_of_ble_eq_true rfl)⟩) ⟨hp_fb, va_recv hK hPM2 (ci := 2) (q0 := 0) rfl hp_M_o, fun U hU hW => ⟨rfl, hp_to hPM2 hK hU hW⟩⟩ rfl rfl hl.1 rfl (lv_room (Nat.le_of_ble_eq_true rfl)) dL_law_702 ⟨show 22 + j + 1 + 0 + 0 ≤ 639101 by omega, show 505 + 10 * j + 6 + 0 + 0 ≤ 7178800 by omega⟩) (fun r_1 hr_1 => ?_)
  subst hr_1
  refine hp_top (va_up_self _ _ _) ?_
  refine lv_iload hx hb dL_law_705 (lv_at hl 1 rfl) ?_
  refine lv_icmp_eq (tgt := 712) hx hb dL_law_707 (by decide) (fun _ => ?_) (fun c9 => absurd rfl c9)
  refine lv_iload hx hb dL_law_712 (lv_at hl 1 rfl) ?_
  have hend : ∀ ls : Array Slot, lv_has ls 7 [(6, .int (hp_a_order r n (xs (7 * j + 1)))), (5, .int (hp_c_sta r n (xs (7 * j + 1)) 0)), (4, .int (nI (7 * j))), (0, .ref b), (1, .ref ox), (2, .ref om), (3, .ref oq)] → W p l e room_1 s m #[Value.ref b] below meth c H2 locs2 (22 + j + 1 + 0) (505 + 10 * j + 6 + 0) Q (F0 m 729 ls []) := by
    intro ls hl
    refine lv_goto (tgt := 1581) hx hb dL_law_729 (by decide) ?_
    refine lv_iinc (v := nI (7 * (j + 1))) (lv' := [(4, .int (nI (7 * (j + 1)))), (6, .int (hp_a_order r n (xs (7 * j + 1)))), (5, .int (hp_c_sta r n (xs (7 * j + 1)) 0)), (0, .ref b), (1, .ref ox), (2, .ref om), (3, .ref oq)]) hx hb dL_law_1581 hl (k := 2) rfl (hp_i7 j) (by decide) rfl (fun ls hl => ?_)
    refine lv_goto (tgt := 23) hx hb dL_law_1584 (by decide) ?_
    refine W.widen (k := 22 + (j + 1)) (n := 505 + 10 * (j + 1)) (by omega) (by omega) ?_
    exact ih H2 _ ls u.1 u.2 v (hp_r_order v r n (xs (7 * j + 1))) n (hp_c_sta r n (xs (7 * j + 1)) 0) ⟨hP2, hD1, hPM2, hDM, hp_sepM hsep1, hp_i_order hinv (xs (7 * j + 1))⟩ hS2 (lv_sub hl [0, 3, 4, 5, 6] rfl)
  refine lv_if_ne (tgt := 729) hx hb dL_law_714 (by decide) (fun _ => hend ls hl) (fun c0 => ?_)
  have ha := hans c0
  refine lv_aload_n hx hb dL_law_717 rfl (lv_at hl 6 rfl) ?_
  refine lv_iconst (v := 0) hx hb dL_law_718 (by decide) ?_
  refine va_lald (f := u.2) hx hb hK hP2 0 3 rfl rfl (i := 0) (by unfold vp_in; decide) dL_law_719 ?_
  refine hp_topl (y := (hp_a_order r n (xs (7 * j + 1))).toInt64) (by rw [sb_cl0]; exact ha) ?_
  refine lv_iload hx hb dL_law_720 (lv_at hl 0 rfl) ?_
  refine lv_i2l hx hb dL_law_722 rfl ?_
  refine hp_lcmp hx hb dL_law_723 (rfl) ?_
  refine lv_if_eq (tgt := 729) hx hb dL_law_724 (by decide) (fun _ => hend ls hl) (fun c9 => absurd rfl c9)
set_option maxHeartbeats 400000 in
set_option maxRecDepth 100000 in
theorem law_cancel {p : Program} {e : Env} {s : State} {m : MethodId} {below : List Frame} {meth : Method} {c : Code} (l : Launch) (hl0 : l.stackTraces = false) {b L : Nat} {xs : Nat → Int32} (hx : p.tables.exec = Jvm.exec) (hb : c.code = code) (hml : c.maxLocals = 7) (hown : s.vm.findClass RL = some m.cls) (hts : ∀ w ∈ wsL_law, w.before #[Value.ref b] s = true) (hX : va_X b L xs s s.heap) (hbl : b < s.heap.size) (hL : L ≤ 3584) {dC : Nat → ClassId} {dI : Nat → Nat → Nat} {cI cZ cO cJ : ClassId} (hK : va_K (dC, dI) vwCl (hp_ty cI cZ cO cJ) s) (hN : hp_ex s) (hstr : hp_str s) (hZu : hp_Zu (hp_A s) s s.heap) (hZn : hp_Zn (hp_A s) s s.heap) (hnc : hp_nc s) {ox om oq : Nat} {bx am : Nat → Nat} {Q : State → Prop} {j : Nat} (hj : 7 * j + 7 ≤ L)
    (ih : ∀ (H : Heap) (locs : List Loc) (ls : Array Slot) (ad : Nat → Nat) (g : Nat → Int64) (v : Nat → Int32) (r : Nat → Nat → Int32) (n : Nat) (t : Int32), hp_LI (dC, dI) cI cZ cO cJ (hp_A s) ox om oq bx am ad g v r n t H → va_S (hp_A s) s.heap H locs → lv_has ls 7 [(4, .int (nI (7 * (j + 1)))), (0, .ref b), (1, .ref ox), (2, .ref om), (3, .ref oq)] → W p l e room_1 s m #[Value.ref b] below meth c H locs (22 + (j + 1)) (505 + 10 * (j + 1)) Q (F0 m 23 ls []))
    {H : Heap} {locs : List Loc} {ls : Array Slot} {ad : Nat → Nat} {g : Nat → Int64} {v : Nat → Int32} {r : Nat → Nat → Int32} {n : Nat} {t : Int32} (hI : hp_LI (dC, dI) cI cZ cO cJ (hp_A s) ox om oq bx am ad g v r n t H) (hS : va_S (hp_A s) s.heap H locs) (hl : lv_has ls 7 [(4, .int (nI (7 * j))), (0, .ref b), (1, .ref ox), (2, .ref om), (3, .ref oq)]) : W p l e room_1 s m #[Value.ref b] below meth c H locs (22 + j) (505 + 10 * j) Q (F0 m 732 ls []) := by
  obtain ⟨hP, hD, hPM, hDM, hsep, hinv⟩ := hI
  have hA : ∀ q : Nat, s.heap.size ≤ q → hp_A s q := fun _ h => h
  have hbA : ¬ hp_A s b := Nat.not_le.mpr hbl
  have hb7 : 7 * j + 7 < 2 ^ 31 := by omega
  refine lv_aload_n hx hb dL_law_732 rfl (lv_at hl 2 rfl) ?_
  refine lv_aload_n hx hb dL_law_733 rfl (lv_at hl 1 rfl) ?_
  refine lv_iload hx hb dL_law_734 (lv_at hl 0 rfl) ?_
  refine lv_iconst (v := 1) hx hb dL_law_736 (by decide) ?_
  refine lv_iadd hx hb dL_law_737 ?_
  refine hp_top (show nI (7 * j) + 1 = nI (7 * j + 1) from nI_add _ _) ?_
  refine hp_sld hx hb hX hbl hbA hS (show 7 * j + 1 < L by omega) (by omega) dL_law_738 ?_
  refine lv_aload_n hx hb dL_law_739 rfl (lv_at hl 4 rfl) ?_
  have hFc := hp_free hD hS hA
  refine vx_calli (vx_runSX (As := [.ref ox, .int (xs (7 * j + 1)), .ref oq]) (rest := []) ⟨hx, hb, hml, hown, hts⟩ (c_L_cancel l hl0 dC dI cI cZ cO cJ ox bx ad v r n oq g H.size (xs (7 * j + 1)) hinv) (vx_cwSW 3 hts gL_law_L_cancel rfl rfl rfl (by decide +kernel) ⟨(Nat.le_of_ble_eq_true rfl), (Nat.le_of_ble_eq_true rfl)⟩) ⟨hp_fbL, fun U hU hW => ⟨rfl, hp_toT hP hK hD hN hstr hZu hZn hS hA hU hW, hp_nc_mv hW.alike hnc⟩⟩ rfl rfl hl.1 rfl (lv_room (Nat.le_of_ble_eq_true rfl)) dL_law_740 ⟨show 22 + j + 1 ≤ 639101 by omega, show 505 + 10 * j + 6 ≤ 7178800 by omega⟩) hS (fun q _ h => hFc q h) hFc (fun q _ h => hFc q h) (fun _ _ _ _ _ _ _ _ _ hpx _ _ _ _ _ _ _ => False.elim hpx) (fun r9 u t9 H1 locs1 ht _ hw hB hsz1 hkk hS1 => ?_)
  obtain ⟨rfl, hans⟩ := hw
  obtain ⟨hPx, hDx⟩ := hB
  have hPM1 := hp_sepP hPM hsep hkk
  have hsep1 := hp_sepN hPM hsep hDx
  have hP1 := hp_th ht hPx
  have hD1 := hDx.weaken (fun k q _ h => hFc q.1 h)
  clear hP hD hPM hPx hDx hkk ht hFc hS
  refine lv_istore (lv' := [(5, .int (hp_c_sta r n (xs (7 * j + 1)) 1)), (4, .int (nI (7 * j))), (0, .ref b), (1, .ref ox), (2, .ref om), (3, .ref oq)]) hx hb dL_law_743 hl (by decide) rfl (fun ls hl => ?_)
  refine lv_aload_n hx hb dL_law_745 rfl (lv_at hl 4 rfl) ?_
  refine lv_aload_n hx hb dL_law_746 rfl (lv_at hl 2 rfl) ?_
  refine lv_iload hx hb dL_law_747 (lv_at hl 1 rfl) ?_
  refine lv_iconst (v := 1) hx hb dL_law_749 (by decide) ?_
  refine lv_iadd hx hb dL_law_750 ?_
  refine hp_top (show nI (7 * j) + 1 = nI (7 * j + 1) from nI_add _ _) ?_
  refine hp_sld hx hb hX hbl hbA hS1 (show 7 * j + 1 < L by omega) (by omega) dL_law_751 ?_
  have hFm := hp_free (hDM (va_up v 0 t) r n) hS1 hA
  refine va_calli (va_runV (As := [.int (xs (7 * j + 1))]) (rest := []) ⟨hx, hb, hml, hown, hts⟩ (c_X2_cancel l dC dI cI cZ cO cJ om am (va_up v 0 t) r n H1.size (xs (7 * j + 1)) (hp_inv_up t hinv)) (cwV 1 hts gL_law_X2_cancel rfl rfl rfl (by decide +kernel) ⟨(Nat.le_of_ble_eq_true rfl), (Nat.le_of_ble_eq_true rfl)⟩) ⟨hp_mfb, va_recv hK hPM1 (ci := 2) (q0 := 0) rfl hp_M_o, fun U hU hW => ⟨rfl, hp_mto hPM1 hK (hDM _ _ _) hU hW⟩⟩ rfl rfl hl.1 rfl (lv_room (Nat.le_of_ble_eq_true rfl)) dL_law_752 ⟨show 22 + j + 1 + 0 ≤ 639101 by omega, show 505 + 10 * j + 6 + 0 ≤ 7178800 by omega⟩) hS1 (fun q _ h => hFm q h) hFm (fun r9 u9 t9 H2 locs2 ht _ hw hB _ hkk hS2 => ?_)
  have hPM2 : va_P (dC, dI) vwCl (hp_M cI cZ om am (va_up v 0 (hp_c_sta r n (xs (7 * j + 1)) 1)) (hp_r_cancel r n (xs (7 * j + 1))) n) H2 := hp_cP (by exact congrArg (fun z => hp_M cI cZ om am z (hp_r_cancel r n (xs (7 * j + 1))) n) (bx_uu v 0 t _)) (hp_th ht hB)
  have hP2 := hp_sepP hP1 (hp_sep_sym hsep1) hkk
  obtain rfl : r9 = hp_a_cancel v r n (xs (7 * j + 1)) := hw
  clear hPM1 hP1 hB hkk ht hFm hS1
  refine lv_istore (lv' := [(6, .int (hp_a_cancel v r n (xs (7 * j + 1)))), (5, .int (hp_c_sta r n (xs (7 * j + 1)) 1)), (4, .int (nI (7 * j))), (0, .ref b), (1, .ref ox), (2, .ref om), (3, .ref oq)]) hx hb dL_law_755 hl (by decide) rfl (fun ls hl => ?_)
  refine lv_aload_n hx hb dL_law_757 rfl (lv_at hl 5 rfl) ?_
  refine vp_callSi (W.runV (As := []) (rest := []) ⟨hx, hb, hml, hown, hts⟩ (c_X2_thrown l dC dI cI cZ cO cJ om am (va_up v 0 (hp_c_sta r n (xs (7 * j + 1)) 1)) (hp_r_cancel r n (xs (7 * j + 1))) n) (cwV 0 hts gL_law_X2_thrown rfl rfl rfl (by decide +kernel) ⟨(Nat.le_of_ble_eq_true rfl), (Nat.le_of_ble_eq_true rfl)⟩) ⟨hp_fb, va_recv hK hPM2 (ci := 2) (q0 := 0) rfl hp_M_o, fun U hU hW => ⟨rfl, hp_to hPM2 hK hU hW⟩⟩ rfl rfl hl.1 rfl (lv_room (Nat.le_of_ble_eq_true rfl)) dL_law_758 ⟨show 22 + j + 1 + 0 + 0 ≤ 639101 by omega, show 505 + 10 * j + 6 + 0 + 0 ≤ 7178800 by omega⟩) (fun r_1 hr_1 => ?_)
  subst hr_1
  refine hp_top (va_up_self _ _ _) ?_
  refine lv_iload hx hb dL_law_761 (lv_at hl 1 rfl) ?_
  refine lv_icmp_eq (tgt := 768) hx hb dL_law_763 (by decide) (fun _ => ?_) (fun c9 => absurd rfl c9)
  refine lv_iload hx hb dL_law_768 (lv_at hl 1 rfl) ?_
  have hend : ∀ ls : Array Slot, lv_has ls 7 [(6, .int (hp_a_cancel v r n (xs (7 * j + 1)))), (5, .int (hp_c_sta r n (xs (7 * j + 1)) 1)), (4, .int (nI (7 * j))), (0, .ref b), (1, .ref ox), (2, .ref om), (3, .ref oq)] → W p l e room_1 s m #[Value.ref b] below meth c H2 locs2 (22 + j + 1 + 0) (505 + 10 * j + 6 + 0) Q (F0 m 785 ls []) := by
    intro ls hl
    refine lv_goto (tgt := 1581) hx hb dL_law_785 (by decide) ?_
    refine lv_iinc (v := nI (7 * (j + 1))) (lv' := [(4, .int (nI (7 * (j + 1)))), (6, .int (hp_a_cancel v r n (xs (7 * j + 1)))), (5, .int (hp_c_sta r n (xs (7 * j + 1)) 1)), (0, .ref b), (1, .ref ox), (2, .ref om), (3, .ref oq)]) hx hb dL_law_1581 hl (k := 2) rfl (hp_i7 j) (by decide) rfl (fun ls hl => ?_)
    refine lv_goto (tgt := 23) hx hb dL_law_1584 (by decide) ?_
    refine W.widen (k := 22 + (j + 1)) (n := 505 + 10 * (j + 1)) (by omega) (by omega) ?_
    exact ih H2 _ ls u.1 u.2 v (hp_r_cancel r n (xs (7 * j + 1))) n (hp_c_sta r n (xs (7 * j + 1)) 1) ⟨hP2, hD1, hPM2, hDM, hp_sepM hsep1, hp_i_cancel hinv (xs (7 * j + 1))⟩ hS2 (lv_sub hl [0, 3, 4, 5, 6] rfl)
  refine lv_if_ne (tgt := 785) hx hb dL_law_770 (by decide) (fun _ => hend ls hl) (fun c0 => ?_)
  have ha := hans c0
  refine lv_aload_n hx hb dL_law_773 rfl (lv_at hl 6 rfl) ?_
  refine lv_iconst (v := 0) hx hb dL_law_774 (by decide) ?_
  refine va_lald (f := u.2) hx hb hK hP2 0 3 rfl rfl (i := 0) (by unfold vp_in; decide) dL_law_775 ?_
  refine hp_topl (y := (hp_a_cancel v r n (xs (7 * j + 1))).toInt64) (by rw [sb_cl0]; exact ha) ?_
  refine lv_iload hx hb dL_law_776 (lv_at hl 0 rfl) ?_
  refine lv_i2l hx hb dL_law_778 rfl ?_
  refine hp_lcmp hx hb dL_law_779 (rfl) ?_
  refine lv_if_eq (tgt := 785) hx hb dL_law_780 (by decide) (fun _ => hend ls hl) (fun c9 => absurd rfl c9)
set_option maxHeartbeats 400000 in
set_option maxRecDepth 100000 in
theorem law_build {p : Program} {e : Env} {s : State} {m : MethodId} {below : List Frame} {meth : Method} {c : Code} (l : Launch) (hl0 : l.stackTraces = false) {b L : Nat} {xs : Nat → Int32} (hx : p.tables.exec = Jvm.exec) (hb : c.code = code) (hml : c.maxLocals = 7) (hown : s.vm.findClass RL = some m.cls) (hts : ∀ w ∈ wsL_law, w.before #[Value.ref b] s = true) (hX : va_X b L xs s s.heap) (hbl : b < s.heap.size) (hL : L ≤ 3584) {dC : Nat → ClassId} {dI : Nat → Nat → Nat} {cI cZ cO cJ : ClassId} (hK : va_K (dC, dI) vwCl (hp_ty cI cZ cO cJ) s) (hN : hp_ex s) (hstr : hp_str s) (hZu : hp_Zu (hp_A s) s s.heap) (hZn : hp_Zn (hp_A s) s s.heap) (hnc : hp_nc s) {ox om oq : Nat} {bx am : Nat → Nat} {Q : State → Prop} {j : Nat} (hj : 7 * j + 7 ≤ L)
    (ih : ∀ (H : Heap) (locs : List Loc) (ls : Array Slot) (ad : Nat → Nat) (g : Nat → Int64) (v : Nat → Int32) (r : Nat → Nat → Int32) (n : Nat) (t : Int32), hp_LI (dC, dI) cI cZ cO cJ (hp_A s) ox om oq bx am ad g v r n t H → va_S (hp_A s) s.heap H locs → lv_has ls 7 [(4, .int (nI (7 * (j + 1)))), (0, .ref b), (1, .ref ox), (2, .ref om), (3, .ref oq)] → W p l e room_1 s m #[Value.ref b] below meth c H locs (22 + (j + 1)) (505 + 10 * (j + 1)) Q (F0 m 23 ls []))
    {H : Heap} {locs : List Loc} {ls : Array Slot} {ad : Nat → Nat} {g : Nat → Int64} {v : Nat → Int32} {r : Nat → Nat → Int32} {n : Nat} {t : Int32} (hI : hp_LI (dC, dI) cI cZ cO cJ (hp_A s) ox om oq bx am ad g v r n t H) (hS : va_S (hp_A s) s.heap H locs) (hl : lv_has ls 7 [(4, .int (nI (7 * j))), (0, .ref b), (1, .ref ox), (2, .ref om), (3, .ref oq)]) : W p l e room_1 s m #[Value.ref b] below meth c H locs (22 + j) (505 + 10 * j) Q (F0 m 788 ls []) := by
  obtain ⟨hP, hD, hPM, hDM, hsep, hinv⟩ := hI
  have hA : ∀ q : Nat, s.heap.size ≤ q → hp_A s q := fun _ h => h
  have hbA : ¬ hp_A s b := Nat.not_le.mpr hbl
  have hb7 : 7 * j + 7 < 2 ^ 31 := by omega
  refine lv_aload_n hx hb dL_law_788 rfl (lv_at hl 2 rfl) ?_
  refine lv_aload_n hx hb dL_law_789 rfl (lv_at hl 1 rfl) ?_
  refine lv_iload hx hb dL_law_790 (lv_at hl 0 rfl) ?_
  refine lv_iconst (v := 1) hx hb dL_law_792 (by decide) ?_
  refine lv_iadd hx hb dL_law_793 ?_
  refine hp_top (show nI (7 * j) + 1 = nI (7 * j + 1) from nI_add _ _) ?_
  refine hp_sld hx hb hX hbl hbA hS (show 7 * j + 1 < L by omega) (by omega) dL_law_794 ?_
  refine lv_aload_n hx hb dL_law_795 rfl (lv_at hl 4 rfl) ?_
  have hFc := hp_free hD hS hA
  refine vx_calli (vx_runSX (As := [.ref ox, .int (xs (7 * j + 1)), .ref oq]) (rest := []) ⟨hx, hb, hml, hown, hts⟩ (c_L_build l hl0 dC dI cI cZ cO cJ ox bx ad v r n oq g H.size (xs (7 * j + 1)) hinv) (vx_cwSW 3 hts gL_law_L_build rfl rfl rfl (by decide +kernel) ⟨(Nat.le_of_ble_eq_true rfl), (Nat.le_of_ble_eq_true rfl)⟩) ⟨hp_fbL, fun U hU hW => ⟨rfl, hp_toT hP hK hD hN hstr hZu hZn hS hA hU hW, hp_nc_mv hW.alike hnc⟩⟩ rfl rfl hl.1 rfl (lv_room (Nat.le_of_ble_eq_true rfl)) dL_law_796 ⟨show 22 + j + 1 ≤ 639101 by omega, show 505 + 10 * j + 6 ≤ 7178800 by omega⟩) hS (fun q _ h => hFc q h) hFc (fun q _ h => hFc q h) (fun _ _ _ _ _ _ _ _ _ hpx _ _ _ _ _ _ _ => False.elim hpx) (fun r9 u t9 H1 locs1 ht _ hw hB hsz1 hkk hS1 => ?_)
  obtain ⟨rfl, hans⟩ := hw
  obtain ⟨hPx, hDx⟩ := hB
  have hPM1 := hp_sepP hPM hsep hkk
  have hsep1 := hp_sepN hPM hsep hDx
  have hP1 := hp_th ht hPx
  have hD1 := hDx.weaken (fun k q _ h => hFc q.1 h)
  clear hP hD hPM hPx hDx hkk ht hFc hS
  refine lv_istore (lv' := [(5, .int (hp_c_sta r n (xs (7 * j + 1)) 2)), (4, .int (nI (7 * j))), (0, .ref b), (1, .ref ox), (2, .ref om), (3, .ref oq)]) hx hb dL_law_799 hl (by decide) rfl (fun ls hl => ?_)
  refine lv_aload_n hx hb dL_law_801 rfl (lv_at hl 4 rfl) ?_
  refine lv_aload_n hx hb dL_law_802 rfl (lv_at hl 2 rfl) ?_
  refine lv_iload hx hb dL_law_803 (lv_at hl 1 rfl) ?_
  refine lv_iconst (v := 1) hx hb dL_law_805 (by decide) ?_
  refine lv_iadd hx hb dL_law_806 ?_
  refine hp_top (show nI (7 * j) + 1 = nI (7 * j + 1) from nI_add _ _) ?_
  refine hp_sld hx hb hX hbl hbA hS1 (show 7 * j + 1 < L by omega) (by omega) dL_law_807 ?_
  have hFm := hp_free (hDM (va_up v 0 t) r n) hS1 hA
  refine va_calli (va_runV (As := [.int (xs (7 * j + 1))]) (rest := []) ⟨hx, hb, hml, hown, hts⟩ (c_X2_build l dC dI cI cZ cO cJ om am (va_up v 0 t) r n H1.size (xs (7 * j + 1)) (hp_inv_up t hinv)) (cwV 1 hts gL_law_X2_build rfl rfl rfl (by decide +kernel) ⟨(Nat.le_of_ble_eq_true rfl), (Nat.le_of_ble_eq_true rfl)⟩) ⟨hp_mfb, va_recv hK hPM1 (ci := 2) (q0 := 0) rfl hp_M_o, fun U hU hW => ⟨rfl, hp_mto hPM1 hK (hDM _ _ _) hU hW⟩⟩ rfl rfl hl.1 rfl (lv_room (Nat.le_of_ble_eq_true rfl)) dL_law_808 ⟨show 22 + j + 1 + 0 ≤ 639101 by omega, show 505 + 10 * j + 6 + 0 ≤ 7178800 by omega⟩) hS1 (fun q _ h => hFm q h) hFm (fun r9 u9 t9 H2 locs2 ht _ hw hB _ hkk hS2 => ?_)
  have hPM2 : va_P (dC, dI) vwCl (hp_M cI cZ om am (va_up v 0 (hp_c_sta r n (xs (7 * j + 1)) 2)) (hp_r_build r n (xs (7 * j + 1))) n) H2 := hp_cP (by exact congrArg (fun z => hp_M cI cZ om am z (hp_r_build r n (xs (7 * j + 1))) n) (bx_uu v 0 t _)) (hp_th ht hB)
  have hP2 := hp_sepP hP1 (hp_sep_sym hsep1) hkk
  obtain rfl : r9 = hp_b (hp_b_build r n (xs (7 * j + 1))) := hw
  clear hPM1 hP1 hB hkk ht hFm hS1
  refine lv_istore (lv' := [(6, .int (hp_b (hp_b_build r n (xs (7 * j + 1))))), (5, .int (hp_c_sta r n (xs (7 * j + 1)) 2)), (4, .int (nI (7 * j))), (0, .ref b), (1, .ref ox), (2, .ref om), (3, .ref oq)]) hx hb dL_law_811 hl (by decide) rfl (fun ls hl => ?_)
  refine lv_aload_n hx hb dL_law_813 rfl (lv_at hl 5 rfl) ?_
  refine vp_callSi (W.runV (As := []) (rest := []) ⟨hx, hb, hml, hown, hts⟩ (c_X2_thrown l dC dI cI cZ cO cJ om am (va_up v 0 (hp_c_sta r n (xs (7 * j + 1)) 2)) (hp_r_build r n (xs (7 * j + 1))) n) (cwV 0 hts gL_law_X2_thrown rfl rfl rfl (by decide +kernel) ⟨(Nat.le_of_ble_eq_true rfl), (Nat.le_of_ble_eq_true rfl)⟩) ⟨hp_fb, va_recv hK hPM2 (ci := 2) (q0 := 0) rfl hp_M_o, fun U hU hW => ⟨rfl, hp_to hPM2 hK hU hW⟩⟩ rfl rfl hl.1 rfl (lv_room (Nat.le_of_ble_eq_true rfl)) dL_law_814 ⟨show 22 + j + 1 + 0 + 0 ≤ 639101 by omega, show 505 + 10 * j + 6 + 0 + 0 ≤ 7178800 by omega⟩) (fun r_1 hr_1 => ?_)
  subst hr_1
  refine hp_top (va_up_self _ _ _) ?_
  refine lv_iload hx hb dL_law_817 (lv_at hl 1 rfl) ?_
  refine lv_icmp_eq (tgt := 824) hx hb dL_law_819 (by decide) (fun _ => ?_) (fun c9 => absurd rfl c9)
  refine lv_iload hx hb dL_law_824 (lv_at hl 1 rfl) ?_
  have hend : ∀ ls : Array Slot, lv_has ls 7 [(6, .int (hp_b (hp_b_build r n (xs (7 * j + 1))))), (5, .int (hp_c_sta r n (xs (7 * j + 1)) 2)), (4, .int (nI (7 * j))), (0, .ref b), (1, .ref ox), (2, .ref om), (3, .ref oq)] → W p l e room_1 s m #[Value.ref b] below meth c H2 locs2 (22 + j + 1 + 0) (505 + 10 * j + 6 + 0) Q (F0 m 848 ls []) := by
    intro ls hl
    refine lv_goto (tgt := 1581) hx hb dL_law_848 (by decide) ?_
    refine lv_iinc (v := nI (7 * (j + 1))) (lv' := [(4, .int (nI (7 * (j + 1)))), (6, .int (hp_b (hp_b_build r n (xs (7 * j + 1))))), (5, .int (hp_c_sta r n (xs (7 * j + 1)) 2)), (0, .ref b), (1, .ref ox), (2, .ref om), (3, .ref oq)]) hx hb dL_law_1581 hl (k := 2) rfl (hp_i7 j) (by decide) rfl (fun ls hl => ?_)
    refine lv_goto (tgt := 23) hx hb dL_law_1584 (by decide) ?_
    refine W.widen (k := 22 + (j + 1)) (n := 505 + 10 * (j + 1)) (by omega) (by omega) ?_
    exact ih H2 _ ls u.1 u.2 v (hp_r_build r n (xs (7 * j + 1))) n (hp_c_sta r n (xs (7 * j + 1)) 2) ⟨hP2, hD1, hPM2, hDM, hp_sepM hsep1, hp_i_build hinv (xs (7 * j + 1))⟩ hS2 (lv_sub hl [0, 3, 4, 5, 6] rfl)
  refine lv_if_ne (tgt := 848) hx hb dL_law_826 (by decide) (fun _ => hend ls hl) (fun c0 => ?_)
  have ha := hans c0
  refine lv_aload_n hx hb dL_law_829 rfl (lv_at hl 6 rfl) ?_
  refine lv_iconst (v := 0) hx hb dL_law_830 (by decide) ?_
  refine va_lald (f := u.2) hx hb hK hP2 0 3 rfl rfl (i := 0) (by unfold vp_in; decide) dL_law_831 ?_
  refine hp_topl (y := (hp_b (hp_b_build r n (xs (7 * j + 1)))).toInt64) (by rw [sb_cl0]; exact ha) ?_
  refine lv_iload hx hb dL_law_832 (lv_at hl 0 rfl) ?_
  refine lv_if_eq (tgt := 841) hx hb dL_law_834 (by decide) (fun q => ?_) (fun q => ?_)
  · refine lv_lconst (v := 0) hx hb dL_law_841 (by decide) ?_
    refine hp_lcmp hx hb dL_law_842 (by rw [q]; rfl) ?_
    refine lv_if_eq (tgt := 848) hx hb dL_law_843 (by decide) (fun _ => hend ls hl) (fun c9 => absurd rfl c9)
  · refine lv_lconst (v := 1) hx hb dL_law_837 (by decide) ?_
    refine lv_goto (tgt := 842) hx hb dL_law_838 (by decide) ?_
    refine hp_lcmp hx hb dL_law_842 (by rw [hp_bt (hp_bn q)]; rfl) ?_
    refine lv_if_eq (tgt := 848) hx hb dL_law_843 (by decide) (fun _ => hend ls hl) (fun c9 => absurd rfl c9)
set_option maxHeartbeats 400000 in
set_option maxRecDepth 100000 in
theorem law_inspect {p : Program} {e : Env} {s : State} {m : MethodId} {below : List Frame} {meth : Method} {c : Code} (l : Launch) (hl0 : l.stackTraces = false) {b L : Nat} {xs : Nat → Int32} (hx : p.tables.exec = Jvm.exec) (hb : c.code = code) (hml : c.maxLocals = 7) (hown : s.vm.findClass RL = some m.cls) (hts : ∀ w ∈ wsL_law, w.before #[Value.ref b] s = true) (hX : va_X b L xs s s.heap) (hbl : b < s.heap.size) (hL : L ≤ 3584) {dC : Nat → ClassId} {dI : Nat → Nat → Nat} {cI cZ cO cJ : ClassId} (hK : va_K (dC, dI) vwCl (hp_ty cI cZ cO cJ) s) (hN : hp_ex s) (hstr : hp_str s) (hZu : hp_Zu (hp_A s) s s.heap) (hZn : hp_Zn (hp_A s) s s.heap) (hnc : hp_nc s) {ox om oq : Nat} {bx am : Nat → Nat} {Q : State → Prop} {j : Nat} (hj : 7 * j + 7 ≤ L)
    (ih : ∀ (H : Heap) (locs : List Loc) (ls : Array Slot) (ad : Nat → Nat) (g : Nat → Int64) (v : Nat → Int32) (r : Nat → Nat → Int32) (n : Nat) (t : Int32), hp_LI (dC, dI) cI cZ cO cJ (hp_A s) ox om oq bx am ad g v r n t H → va_S (hp_A s) s.heap H locs → lv_has ls 7 [(4, .int (nI (7 * (j + 1)))), (0, .ref b), (1, .ref ox), (2, .ref om), (3, .ref oq)] → W p l e room_1 s m #[Value.ref b] below meth c H locs (22 + (j + 1)) (505 + 10 * (j + 1)) Q (F0 m 23 ls []))
    {H : Heap} {locs : List Loc} {ls : Array Slot} {ad : Nat → Nat} {g : Nat → Int64} {v : Nat → Int32} {r : Nat → Nat → Int32} {n : Nat} {t : Int32} (hI : hp_LI (dC, dI) cI cZ cO cJ (hp_A s) ox om oq bx am ad g v r n t H) (hS : va_S (hp_A s) s.heap H locs) (hl : lv_has ls 7 [(4, .int (nI (7 * j))), (0, .ref b), (1, .ref ox), (2, .ref om), (3, .ref oq)]) : W p l e room_1 s m #[Value.ref b] below meth c H locs (22 + j) (505 + 10 * j) Q (F0 m 851 ls []) := by
  obtain ⟨hP, hD, hPM, hDM, hsep, hinv⟩ := hI
  have hA : ∀ q : Nat, s.heap.size ≤ q → hp_A s q := fun _ h => h
  have hbA : ¬ hp_A s b := Nat.not_le.mpr hbl
  have hb7 : 7 * j + 7 < 2 ^ 31 := by omega
  refine lv_aload_n hx hb dL_law_851 rfl (lv_at hl 2 rfl) ?_
  refine lv_aload_n hx hb dL_law_852 rfl (lv_at hl 1 rfl) ?_
  refine lv_iload hx hb dL_law_853 (lv_at hl 0 rfl) ?_
  refine lv_iconst (v := 1) hx hb dL_law_855 (by decide) ?_
  refine lv_iadd hx hb dL_law_856 ?_
  refine hp_top (show nI (7 * j) + 1 = nI (7 * j + 1) from nI_add _ _) ?_
  refine hp_sld hx hb hX hbl hbA hS (show 7 * j + 1 < L by omega) (by omega) dL_law_857 ?_
  refine lv_aload_n hx hb dL_law_858 rfl (lv_at hl 4 rfl) ?_
  have hFc := hp_free hD hS hA
  refine vx_calli (vx_runSX (As := [.ref ox, .int (xs (7 * j + 1)), .ref oq]) (rest := []) ⟨hx, hb, hml, hown, hts⟩ (c_L_inspect l hl0 dC dI cI cZ cO cJ ox bx ad v r n oq g H.size (xs (7 * j + 1)) hinv) (vx_cwSW 3 hts gL_law_L_inspect rfl rfl rfl (by decide +kernel) ⟨(Nat.le_of_ble_eq_true rfl), (Nat.le_of_ble_eq_true rfl)⟩) ⟨hp_fbL, fun U hU hW => ⟨rfl, hp_toT hP hK hD hN hstr hZu hZn hS hA hU hW, hp_nc_mv hW.alike hnc⟩⟩ rfl rfl hl.1 rfl (lv_room (Nat.le_of_ble_eq_true rfl)) dL_law_859 ⟨show 22 + j + 1 ≤ 639101 by omega, show 505 + 10 * j + 6 ≤ 7178800 by omega⟩) hS (fun q _ h => hFc q h) hFc (fun q _ h => hFc q h) (fun _ _ _ _ _ _ _ _ _ hpx _ _ _ _ _ _ _ => False.elim hpx) (fun r9 u t9 H1 locs1 ht _ hw hB hsz1 hkk hS1 => ?_)
  obtain ⟨rfl, hans⟩ := hw
  obtain ⟨hPx, hDx⟩ := hB
  have hPM1 := hp_sepP hPM hsep hkk
  have hsep1 := hp_sepN hPM hsep hDx
  have hP1 := hp_th ht hPx
  have hD1 := hDx.weaken (fun k q _ h => hFc q.1 h)
  clear hP hD hPM hPx hDx hkk ht hFc hS
  refine lv_istore (lv' := [(5, .int (hp_c_inspect r (xs (7 * j + 1)))), (4, .int (nI (7 * j))), (0, .ref b), (1, .ref ox), (2, .ref om), (3, .ref oq)]) hx hb dL_law_862 hl (by decide) rfl (fun ls hl => ?_)
  refine lv_aload_n hx hb dL_law_864 rfl (lv_at hl 4 rfl) ?_
  refine lv_aload_n hx hb dL_law_865 rfl (lv_at hl 2 rfl) ?_
  refine lv_iload hx hb dL_law_866 (lv_at hl 1 rfl) ?_
  refine lv_iconst (v := 1) hx hb dL_law_868 (by decide) ?_
  refine lv_iadd hx hb dL_law_869 ?_
  refine hp_top (show nI (7 * j) + 1 = nI (7 * j + 1) from nI_add _ _) ?_
  refine hp_sld hx hb hX hbl hbA hS1 (show 7 * j + 1 < L by omega) (by omega) dL_law_870 ?_
  have hFm := hp_free (hDM (va_up v 0 t) r n) hS1 hA
  refine va_calli (va_runV (As := [.int (xs (7 * j + 1))]) (rest := []) ⟨hx, hb, hml, hown, hts⟩ (c_X2_inspect l dC dI cI cZ cO cJ om am (va_up v 0 t) r n H1.size (xs (7 * j + 1)) (hp_inv_up t hinv)) (cwV 1 hts gL_law_X2_inspect rfl rfl rfl (by decide +kernel) ⟨(Nat.le_of_ble_eq_true rfl), (Nat.le_of_ble_eq_true rfl)⟩) ⟨hp_mfb, va_recv hK hPM1 (ci := 2) (q0 := 0) rfl hp_M_o, fun U hU hW => ⟨rfl, hp_mto hPM1 hK (hDM _ _ _) hU hW⟩⟩ rfl rfl hl.1 rfl (lv_room (Nat.le_of_ble_eq_true rfl)) dL_law_871 ⟨show 22 + j + 1 + 0 ≤ 639101 by omega, show 505 + 10 * j + 6 + 0 ≤ 7178800 by omega⟩) hS1 (fun q _ h => hFm q h) hFm (fun r9 u9 t9 H2 locs2 ht _ hw hB _ hkk hS2 => ?_)
  have hPM2 : va_P (dC, dI) vwCl (hp_M cI cZ om am (va_up v 0 (hp_c_inspect r (xs (7 * j + 1)))) (hp_r_inspect r n (xs (7 * j + 1))) n) H2 := hp_cP (by exact congrArg (fun z => hp_M cI cZ om am z (hp_r_inspect r n (xs (7 * j + 1))) n) (bx_uu v 0 t _)) (hp_th ht hB)
  have hP2 := hp_sepP hP1 (hp_sep_sym hsep1) hkk
  obtain rfl : r9 = hp_b (hp_b_inspect r n (xs (7 * j + 1))) := hw
  clear hPM1 hP1 hB hkk ht hFm hS1
  refine lv_istore (lv' := [(6, .int (hp_b (hp_b_inspect r n (xs (7 * j + 1))))), (5, .int (hp_c_inspect r (xs (7 * j + 1)))), (4, .int (nI (7 * j))), (0, .ref b), (1, .ref ox), (2, .ref om), (3, .ref oq)]) hx hb dL_law_874 hl (by decide) rfl (fun ls hl => ?_)
  refine lv_aload_n hx hb dL_law_876 rfl (lv_at hl 5 rfl) ?_
  refine vp_callSi (W.runV (As := []) (rest := []) ⟨hx, hb, hml, hown, hts⟩ (c_X2_thrown l dC dI cI cZ cO cJ om am (va_up v 0 (hp_c_inspect r (xs (7 * j + 1)))) (hp_r_inspect r n (xs (7 * j + 1))) n) (cwV 0 hts gL_law_X2_thrown rfl rfl rfl (by decide +kernel) ⟨(Nat.le_of_ble_eq_true rfl), (Nat.le_of_ble_eq_true rfl)⟩) ⟨hp_fb, va_recv hK hPM2 (ci := 2) (q0 := 0) rfl hp_M_o, fun U hU hW => ⟨rfl, hp_to hPM2 hK hU hW⟩⟩ rfl rfl hl.1 rfl (lv_room (Nat.le_of_ble_eq_true rfl)) dL_law_877 ⟨show 22 + j + 1 + 0 + 0 ≤ 639101 by omega, show 505 + 10 * j + 6 + 0 + 0 ≤ 7178800 by omega⟩) (fun r_1 hr_1 => ?_)
  subst hr_1
  refine hp_top (va_up_self _ _ _) ?_
  refine lv_iload hx hb dL_law_880 (lv_at hl 1 rfl) ?_
  refine lv_icmp_eq (tgt := 887) hx hb dL_law_882 (by decide) (fun _ => ?_) (fun c9 => absurd rfl c9)
  refine lv_iload hx hb dL_law_887 (lv_at hl 1 rfl) ?_
  have hend : ∀ ls : Array Slot, lv_has ls 7 [(6, .int (hp_b (hp_b_inspect r n (xs (7 * j + 1))))), (5, .int (hp_c_inspect r (xs (7 * j + 1)))), (4, .int (nI (7 * j))), (0, .ref b), (1, .ref ox), (2, .ref om), (3, .ref oq)] → W p l e room_1 s m #[Value.ref b] below meth c H2 locs2 (22 + j + 1 + 0) (505 + 10 * j + 6 + 0) Q (F0 m 911 ls []) := by
    intro ls hl
    refine lv_goto (tgt := 1581) hx hb dL_law_911 (by decide) ?_
    refine lv_iinc (v := nI (7 * (j + 1))) (lv' := [(4, .int (nI (7 * (j + 1)))), (6, .int (hp_b (hp_b_inspect r n (xs (7 * j + 1))))), (5, .int (hp_c_inspect r (xs (7 * j + 1)))), (0, .ref b), (1, .ref ox), (2, .ref om), (3, .ref oq)]) hx hb dL_law_1581 hl (k := 2) rfl (hp_i7 j) (by decide) rfl (fun ls hl => ?_)
    refine lv_goto (tgt := 23) hx hb dL_law_1584 (by decide) ?_
    refine W.widen (k := 22 + (j + 1)) (n := 505 + 10 * (j + 1)) (by omega) (by omega) ?_
    exact ih H2 _ ls u.1 u.2 v (hp_r_inspect r n (xs (7 * j + 1))) n (hp_c_inspect r (xs (7 * j + 1))) ⟨hP2, hD1, hPM2, hDM, hp_sepM hsep1, hp_i_inspect hinv (xs (7 * j + 1))⟩ hS2 (lv_sub hl [0, 3, 4, 5, 6] rfl)
  refine lv_if_ne (tgt := 911) hx hb dL_law_889 (by decide) (fun _ => hend ls hl) (fun c0 => ?_)
  have ha := hans c0
  refine lv_aload_n hx hb dL_law_892 rfl (lv_at hl 6 rfl) ?_
  refine lv_iconst (v := 0) hx hb dL_law_893 (by decide) ?_
  refine va_lald (f := u.2) hx hb hK hP2 0 3 rfl rfl (i := 0) (by unfold vp_in; decide) dL_law_894 ?_
  refine hp_topl (y := (hp_b (hp_b_inspect r n (xs (7 * j + 1)))).toInt64) (by rw [sb_cl0]; exact ha) ?_
  refine lv_iload hx hb dL_law_895 (lv_at hl 0 rfl) ?_
  refine lv_if_eq (tgt := 904) hx hb dL_law_897 (by decide) (fun q => ?_) (fun q => ?_)
  · refine lv_lconst (v := 0) hx hb dL_law_904 (by decide) ?_
    refine hp_lcmp hx hb dL_law_905 (by rw [q]; rfl) ?_
    refine lv_if_eq (tgt := 911) hx hb dL_law_906 (by decide) (fun _ => hend ls hl) (fun c9 => absurd rfl c9)
  · refine lv_lconst (v := 1) hx hb dL_law_900 (by decide) ?_
    refine lv_goto (tgt := 905) hx hb dL_law_901 (by decide) ?_
    refine hp_lcmp hx hb dL_law_905 (by rw [hp_bt (hp_bn q)]; rfl) ?_
    refine lv_if_eq (tgt := 911) hx hb dL_law_906 (by decide) (fun _ => hend ls hl) (fun c9 => absurd rfl c9)
set_option maxHeartbeats 400000 in
set_option maxRecDepth 100000 in
theorem law_pass {p : Program} {e : Env} {s : State} {m : MethodId} {below : List Frame} {meth : Method} {c : Code} (l : Launch) (hl0 : l.stackTraces = false) {b L : Nat} {xs : Nat → Int32} (hx : p.tables.exec = Jvm.exec) (hb : c.code = code) (hml : c.maxLocals = 7) (hown : s.vm.findClass RL = some m.cls) (hts : ∀ w ∈ wsL_law, w.before #[Value.ref b] s = true) (hX : va_X b L xs s s.heap) (hbl : b < s.heap.size) (hL : L ≤ 3584) {dC : Nat → ClassId} {dI : Nat → Nat → Nat} {cI cZ cO cJ : ClassId} (hK : va_K (dC, dI) vwCl (hp_ty cI cZ cO cJ) s) (hN : hp_ex s) (hstr : hp_str s) (hZu : hp_Zu (hp_A s) s s.heap) (hZn : hp_Zn (hp_A s) s s.heap) (hnc : hp_nc s) {ox om oq : Nat} {bx am : Nat → Nat} {Q : State → Prop} {j : Nat} (hj : 7 * j + 7 ≤ L)
    (ih : ∀ (H : Heap) (locs : List Loc) (ls : Array Slot) (ad : Nat → Nat) (g : Nat → Int64) (v : Nat → Int32) (r : Nat → Nat → Int32) (n : Nat) (t : Int32), hp_LI (dC, dI) cI cZ cO cJ (hp_A s) ox om oq bx am ad g v r n t H → va_S (hp_A s) s.heap H locs → lv_has ls 7 [(4, .int (nI (7 * (j + 1)))), (0, .ref b), (1, .ref ox), (2, .ref om), (3, .ref oq)] → W p l e room_1 s m #[Value.ref b] below meth c H locs (22 + (j + 1)) (505 + 10 * (j + 1)) Q (F0 m 23 ls []))
    {H : Heap} {locs : List Loc} {ls : Array Slot} {ad : Nat → Nat} {g : Nat → Int64} {v : Nat → Int32} {r : Nat → Nat → Int32} {n : Nat} {t : Int32} (hI : hp_LI (dC, dI) cI cZ cO cJ (hp_A s) ox om oq bx am ad g v r n t H) (hS : va_S (hp_A s) s.heap H locs) (hl : lv_has ls 7 [(4, .int (nI (7 * j))), (0, .ref b), (1, .ref ox), (2, .ref om), (3, .ref oq)]) : W p l e room_1 s m #[Value.ref b] below meth c H locs (22 + j) (505 + 10 * j) Q (F0 m 914 ls []) := by
  obtain ⟨hP, hD, hPM, hDM, hsep, hinv⟩ := hI
  have hA : ∀ q : Nat, s.heap.size ≤ q → hp_A s q := fun _ h => h
  have hbA : ¬ hp_A s b := Nat.not_le.mpr hbl
  have hb7 : 7 * j + 7 < 2 ^ 31 := by omega
  refine lv_aload_n hx hb dL_law_914 rfl (lv_at hl 2 rfl) ?_
  refine lv_aload_n hx hb dL_law_915 rfl (lv_at hl 1 rfl) ?_
  refine lv_iload hx hb dL_law_916 (lv_at hl 0 rfl) ?_
  refine lv_iconst (v := 1) hx hb dL_law_918 (by decide) ?_
  refine lv_iadd hx hb dL_law_919 ?_
  refine hp_top (show nI (7 * j) + 1 = nI (7 * j + 1) from nI_add _ _) ?_
  refine hp_sld hx hb hX hbl hbA hS (show 7 * j + 1 < L by omega) (by omega) dL_law_920 ?_
  refine lv_aload_n hx hb dL_law_921 rfl (lv_at hl 4 rfl) ?_
  have hFc := hp_free hD hS hA
  refine vx_calli (vx_runSX (As := [.ref ox, .int (xs (7 * j + 1)), .ref oq]) (rest := []) ⟨hx, hb, hml, hown, hts⟩ (c_L_pass l hl0 dC dI cI cZ cO cJ ox bx ad v r n oq g H.size (xs (7 * j + 1)) hinv) (vx_cwSW 3 hts gL_law_L_pass rfl rfl rfl (by decide +kernel) ⟨(Nat.le_of_ble_eq_true rfl), (Nat.le_of_ble_eq_true rfl)⟩) ⟨hp_fbL, fun U hU hW => ⟨rfl, hp_toT hP hK hD hN hstr hZu hZn hS hA hU hW, hp_nc_mv hW.alike hnc⟩⟩ rfl rfl hl.1 rfl (lv_room (Nat.le_of_ble_eq_true rfl)) dL_law_922 ⟨show 22 + j + 1 ≤ 639101 by omega, show 505 + 10 * j + 6 ≤ 7178800 by omega⟩) hS (fun q _ h => hFc q h) hFc (fun q _ h => hFc q h) (fun _ _ _ _ _ _ _ _ _ hpx _ _ _ _ _ _ _ => False.elim hpx) (fun r9 u t9 H1 locs1 ht _ hw hB hsz1 hkk hS1 => ?_)
  obtain ⟨rfl, hans⟩ := hw
  obtain ⟨hPx, hDx⟩ := hB
  have hPM1 := hp_sepP hPM hsep hkk
  have hsep1 := hp_sepN hPM hsep hDx
  have hP1 := hp_th ht hPx
  have hD1 := hDx.weaken (fun k q _ h => hFc q.1 h)
  clear hP hD hPM hPx hDx hkk ht hFc hS
  refine lv_istore (lv' := [(5, .int (hp_c_pass v (xs (7 * j + 1)))), (4, .int (nI (7 * j))), (0, .ref b), (1, .ref ox), (2, .ref om), (3, .ref oq)]) hx hb dL_law_925 hl (by decide) rfl (fun ls hl => ?_)
  refine lv_aload_n hx hb dL_law_927 rfl (lv_at hl 4 rfl) ?_
  refine lv_aload_n hx hb dL_law_928 rfl (lv_at hl 2 rfl) ?_
  refine lv_iload hx hb dL_law_929 (lv_at hl 1 rfl) ?_
  refine lv_iconst (v := 1) hx hb dL_law_931 (by decide) ?_
  refine lv_iadd hx hb dL_law_932 ?_
  refine hp_top (show nI (7 * j) + 1 = nI (7 * j + 1) from nI_add _ _) ?_
  refine hp_sld hx hb hX hbl hbA hS1 (show 7 * j + 1 < L by omega) (by omega) dL_law_933 ?_
  have hFm := hp_free (hDM (va_up v 0 t) r n) hS1 hA
  refine va_calli (va_runV (As := [.int (xs (7 * j + 1))]) (rest := []) ⟨hx, hb, hml, hown, hts⟩ (c_X2_pass l dC dI cI cZ cO cJ om am (va_up v 0 t) r n H1.size (xs (7 * j + 1)) (hp_inv_up t hinv)) (cwV 1 hts gL_law_X2_pass rfl rfl rfl (by decide +kernel) ⟨(Nat.le_of_ble_eq_true rfl), (Nat.le_of_ble_eq_true rfl)⟩) ⟨hp_mfb, va_recv hK hPM1 (ci := 2) (q0 := 0) rfl hp_M_o, fun U hU hW => ⟨rfl, hp_mto hPM1 hK (hDM _ _ _) hU hW⟩⟩ rfl rfl hl.1 rfl (lv_room (Nat.le_of_ble_eq_true rfl)) dL_law_934 ⟨show 22 + j + 1 + 0 ≤ 639101 by omega, show 505 + 10 * j + 6 + 0 ≤ 7178800 by omega⟩) hS1 (fun q _ h => hFm q h) hFm (fun r9 u9 t9 H2 locs2 ht _ hw hB _ hkk hS2 => ?_)
  have hPM2 : va_P (dC, dI) vwCl (hp_M cI cZ om am (va_up (hp_v_pass v (xs (7 * j + 1))) 0 (hp_c_pass v (xs (7 * j + 1)))) (hp_r_pass v r n (xs (7 * j + 1))) n) H2 := hp_cP (by exact congrArg (fun z => hp_M cI cZ om am z (hp_r_pass v r n (xs (7 * j + 1))) n) hp_vu_pass) (hp_th ht hB)
  have hP2 := hp_sepP hP1 (hp_sep_sym hsep1) hkk
  obtain rfl : r9 = hp_a_pass v (xs (7 * j + 1)) := hw
  clear hPM1 hP1 hB hkk ht hFm hS1
  refine lv_istore (lv' := [(6, .int (hp_a_pass v (xs (7 * j + 1)))), (5, .int (hp_c_pass v (xs (7 * j + 1)))), (4, .int (nI (7 * j))), (0, .ref b), (1, .ref ox), (2, .ref om), (3, .ref oq)]) hx hb dL_law_937 hl (by decide) rfl (fun ls hl => ?_)
  refine lv_aload_n hx hb dL_law_939 rfl (lv_at hl 5 rfl) ?_
  refine vp_callSi (W.runV (As := []) (rest := []) ⟨hx, hb, hml, hown, hts⟩ (c_X2_thrown l dC dI cI cZ cO cJ om am (va_up (hp_v_pass v (xs (7 * j + 1))) 0 (hp_c_pass v (xs (7 * j + 1)))) (hp_r_pass v r n (xs (7 * j + 1))) n) (cwV 0 hts gL_law_X2_thrown rfl rfl rfl (by decide +kernel) ⟨(Nat.le_of_ble_eq_true rfl), (Nat.le_of_ble_eq_true rfl)⟩) ⟨hp_fb, va_recv hK hPM2 (ci := 2) (q0 := 0) rfl hp_M_o, fun U hU hW => ⟨rfl, hp_to hPM2 hK hU hW⟩⟩ rfl rfl hl.1 rfl (lv_room (Nat.le_of_ble_eq_true rfl)) dL_law_940 ⟨show 22 + j + 1 + 0 + 0 ≤ 639101 by omega, show 505 + 10 * j + 6 + 0 + 0 ≤ 7178800 by omega⟩) (fun r_1 hr_1 => ?_)
  subst hr_1
  refine hp_top (va_up_self _ _ _) ?_
  refine lv_iload hx hb dL_law_943 (lv_at hl 1 rfl) ?_
  refine lv_icmp_eq (tgt := 950) hx hb dL_law_945 (by decide) (fun _ => ?_) (fun c9 => absurd rfl c9)
  refine lv_iload hx hb dL_law_950 (lv_at hl 1 rfl) ?_
  have hend : ∀ ls : Array Slot, lv_has ls 7 [(6, .int (hp_a_pass v (xs (7 * j + 1)))), (5, .int (hp_c_pass v (xs (7 * j + 1)))), (4, .int (nI (7 * j))), (0, .ref b), (1, .ref ox), (2, .ref om), (3, .ref oq)] → W p l e room_1 s m #[Value.ref b] below meth c H2 locs2 (22 + j + 1 + 0) (505 + 10 * j + 6 + 0) Q (F0 m 967 ls []) := by
    intro ls hl
    refine lv_goto (tgt := 1581) hx hb dL_law_967 (by decide) ?_
    refine lv_iinc (v := nI (7 * (j + 1))) (lv' := [(4, .int (nI (7 * (j + 1)))), (6, .int (hp_a_pass v (xs (7 * j + 1)))), (5, .int (hp_c_pass v (xs (7 * j + 1)))), (0, .ref b), (1, .ref ox), (2, .ref om), (3, .ref oq)]) hx hb dL_law_1581 hl (k := 2) rfl (hp_i7 j) (by decide) rfl (fun ls hl => ?_)
    refine lv_goto (tgt := 23) hx hb dL_law_1584 (by decide) ?_
    refine W.widen (k := 22 + (j + 1)) (n := 505 + 10 * (j + 1)) (by omega) (by omega) ?_
    exact ih H2 _ ls u.1 u.2 (hp_v_pass v (xs (7 * j + 1))) (hp_r_pass v r n (xs (7 * j + 1))) n (hp_c_pass v (xs (7 * j + 1))) ⟨hP2, hD1, hPM2, hDM, hp_sepM hsep1, hp_i_pass hinv (xs (7 * j + 1))⟩ hS2 (lv_sub hl [0, 3, 4, 5, 6] rfl)
  refine lv_if_ne (tgt := 967) hx hb dL_law_952 (by decide) (fun _ => hend ls hl) (fun c0 => ?_)
  have ha := hans c0
  refine lv_aload_n hx hb dL_law_955 rfl (lv_at hl 6 rfl) ?_
  refine lv_iconst (v := 0) hx hb dL_law_956 (by decide) ?_
  refine va_lald (f := u.2) hx hb hK hP2 0 3 rfl rfl (i := 0) (by unfold vp_in; decide) dL_law_957 ?_
  refine hp_topl (y := (hp_a_pass v (xs (7 * j + 1))).toInt64) (by rw [sb_cl0]; exact ha) ?_
  refine lv_iload hx hb dL_law_958 (lv_at hl 0 rfl) ?_
  refine lv_i2l hx hb dL_law_960 rfl ?_
  refine hp_lcmp hx hb dL_law_961 (rfl) ?_
  refine lv_if_eq (tgt := 967) hx hb dL_law_962 (by decide) (fun _ => hend ls hl) (fun c9 => absurd rfl c9)
set_option maxHeartbeats 400000 in
set_option maxRecDepth 100000 in
theorem law_day {p : Program} {e : Env} {s : State} {m : MethodId} {below : List Frame} {meth : Method} {c : Code} (l : Launch) (hl0 : l.stackTraces = false) {b L : Nat} {xs : Nat → Int32} (hx : p.tables.exec = Jvm.exec) (hb : c.code = code) (hml : c.maxLocals = 7) (hown : s.vm.findClass RL = some m.cls) (hts : ∀ w ∈ wsL_law, w.before #[Value.ref b] s = true) (hX : va_X b L xs s s.heap) (hbl : b < s.heap.size) (hL : L ≤ 3584) {dC : Nat → ClassId} {dI : Nat → Nat → Nat} {cI cZ cO cJ : ClassId} (hK : va_K (dC, dI) vwCl (hp_ty cI cZ cO cJ) s) (hN : hp_ex s) (hstr : hp_str s) (hZu : hp_Zu (hp_A s) s s.heap) (hZn : hp_Zn (hp_A s) s s.heap) (hnc : hp_nc s) {ox om oq : Nat} {bx am : Nat → Nat} {Q : State → Prop} {j : Nat} (hj : 7 * j + 7 ≤ L)
    (ih : ∀ (H : Heap) (locs : List Loc) (ls : Array Slot) (ad : Nat → Nat) (g : Nat → Int64) (v : Nat → Int32) (r : Nat → Nat → Int32) (n : Nat) (t : Int32), hp_LI (dC, dI) cI cZ cO cJ (hp_A s) ox om oq bx am ad g v r n t H → va_S (hp_A s) s.heap H locs → lv_has ls 7 [(4, .int (nI (7 * (j + 1)))), (0, .ref b), (1, .ref ox), (2, .ref om), (3, .ref oq)] → W p l e room_1 s m #[Value.ref b] below meth c H locs (22 + (j + 1)) (505 + 10 * (j + 1)) Q (F0 m 23 ls []))
    {H : Heap} {locs : List Loc} {ls : Array Slot} {ad : Nat → Nat} {g : Nat → Int64} {v : Nat → Int32} {r : Nat → Nat → Int32} {n : Nat} {t : Int32} (hI : hp_LI (dC, dI) cI cZ cO cJ (hp_A s) ox om oq bx am ad g v r n t H) (hS : va_S (hp_A s) s.heap H locs) (hl : lv_has ls 7 [(4, .int (nI (7 * j))), (0, .ref b), (1, .ref ox), (2, .ref om), (3, .ref oq)]) : W p l e room_1 s m #[Value.ref b] below meth c H locs (22 + j) (505 + 10 * j) Q (F0 m 970 ls []) := by
  obtain ⟨hP, hD, hPM, hDM, hsep, hinv⟩ := hI
  have hA : ∀ q : Nat, s.heap.size ≤ q → hp_A s q := fun _ h => h
  have hbA : ¬ hp_A s b := Nat.not_le.mpr hbl
  have hb7 : 7 * j + 7 < 2 ^ 31 := by omega
  refine lv_aload_n hx hb dL_law_970 rfl (lv_at hl 2 rfl) ?_
  have hPX := (hp_Pc.mp hP).2
  refine vp_callSi (W.runV (As := []) (rest := []) ⟨hx, hb, hml, hown, hts⟩ (c_X1_day l dC dI cI cZ cO cJ ox bx ad v r n) (cwV 0 hts gL_law_X1_day rfl rfl rfl (by decide +kernel) ⟨(Nat.le_of_ble_eq_true rfl), (Nat.le_of_ble_eq_true rfl)⟩) ⟨hp_fbX, va_recv hK hPX (ci := 1) (q0 := 0) rfl hp_X_o, fun U hU hW => ⟨rfl, hp_toX hPX hK hN hU hW⟩⟩ rfl rfl hl.1 rfl (lv_room (Nat.le_of_ble_eq_true rfl)) dL_law_971 ⟨show 22 + j + 0 ≤ 639101 by omega, show 505 + 10 * j + 0 ≤ 7178800 by omega⟩) (fun r_1 hr_1 => ?_)
  subst hr_1
  refine lv_aload_n hx hb dL_law_974 rfl (lv_at hl 3 rfl) ?_
  have hFm := hp_free (hDM (va_up v 0 t) r n) hS hA
  refine va_calli (va_runV (As := []) (rest := [.int (v 1)]) ⟨hx, hb, hml, hown, hts⟩ (c_X2_day l dC dI cI cZ cO cJ om am (va_up v 0 t) r n H.size) (cwV 0 hts gL_law_X2_day rfl rfl rfl (by decide +kernel) ⟨(Nat.le_of_ble_eq_true rfl), (Nat.le_of_ble_eq_true rfl)⟩) ⟨hp_mfb, va_recv hK hPM (ci := 2) (q0 := 0) rfl hp_M_o, fun U hU hW => ⟨rfl, hp_mto hPM hK (hDM _ _ _) hU hW⟩⟩ rfl rfl hl.1 rfl (lv_room (Nat.le_of_ble_eq_true rfl)) dL_law_975 ⟨show 22 + j + 0 ≤ 639101 by omega, show 505 + 10 * j + 0 ≤ 7178800 by omega⟩) hS (fun q _ h => hFm q h) hFm (fun r9 u t9 H2 locs2 ht _ hw hB _ hkk hS2 => ?_)
  have hPM2 : va_P (dC, dI) vwCl (hp_M cI cZ om am (va_up v 0 0) r n) H2 := hp_cP (congrArg (fun z => hp_M cI cZ om am z r n) (bx_uu v 0 t 0)) (hp_th ht hB)
  have hP2 := hp_sepP hP (hp_sep_sym hsep) hkk
  subst hw
  refine lv_icmp_eq (tgt := 1581) hx hb dL_law_978 (by decide) (fun _ => ?_) (fun c9 => absurd rfl c9)
  refine lv_iinc (v := nI (7 * (j + 1))) (lv' := [(4, .int (nI (7 * (j + 1)))), (0, .ref b), (1, .ref ox), (2, .ref om), (3, .ref oq)]) hx hb dL_law_1581 hl (k := 0) rfl (hp_i7 j) (by decide) rfl (fun ls hl => ?_)
  refine lv_goto (tgt := 23) hx hb dL_law_1584 (by decide) ?_
  refine W.widen (k := 22 + (j + 1)) (n := 505 + 10 * (j + 1)) (by omega) (by omega) ?_
  exact ih H2 _ ls ad g v r n 0 ⟨hP2, hD, hPM2, hDM, hp_sepM hsep, hinv⟩ hS2 hl
