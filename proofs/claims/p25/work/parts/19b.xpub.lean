/-! the class: its public methods -/
set_option maxHeartbeats 400000 in
set_option maxRecDepth 100000 in
theorem c_X1_remove (l : Launch) (hl0 : l.stackTraces = false) (dC : Nat → ClassId) (dI : Nat → Nat → Nat) (cI cZ cO cJ : ClassId) (o : Nat) (b ad : Nat → Nat) (v : Nat → Int32) (r : Nat → Nat → Int32) (n : Nat) (sz : Nat)  (p0 p1 p2 : Int32) (hinv : hp_inv v r n) : vx_Met l yX1_remove wsX1_remove ({ frames := 6, cells := 1, slots := 6, locals := 82 }) (va_Pc [.ref o, .int p0, .int p1, .int p2] (hp_prT (dC, dI) cI cZ cO cJ (hp_X cI cZ cO o b ad v r n) sz)) (va_Qi (S := Nat → Nat) (fun x9 _ => hp_c_remove v r n p0 p1 p2 = 0 ∧ x9 = 1) (fun u9 t9 => va_P (dC, dI) vwCl (hp_X cI cZ cO o b u9 (hp_v_remove v r n p0 p1 p2) (hp_r_remove v r n p0 p1 p2) n) t9.heap ∧ va_D (va_A (hp_X cI cZ cO o b ad v r n) sz) (hp_X cI cZ cO o b u9 (hp_v_remove v r n p0 p1 p2) (hp_r_remove v r n p0 p1 p2) n)) (va_A (hp_X cI cZ cO o b ad v r n) sz)) (vx_X (S := Unit) (fun _ => True) (fun E9 _ t9 => hp_xc [hp_E1, hp_E2, hp_E3] (hp_c_remove v r n p0 p1 p2) E9 ∧ va_P (dC, dI) vwCl (hp_X cI cZ cO o b ad v r n) t9.heap) (va_A (hp_X cI cZ cO o b ad v r n) sz)) 1 6 (va_A (hp_X cI cZ cO o b ad v r n) sz) := by
  refine vx_ofW (cc := cX1_remove) (maxL := 5) (ret := (some .boolean)) (by decide) rfl ?_
  intro p e s m args below meth c s₁ B hml htab hv
  obtain ⟨rfl, hsz, hP, hK, hD0, hN, hstr, hZu, hZn⟩ := hv
  have hx := B.exec
  have hb := B.bytes
  have hr := B.returns
  have hts := atoms_spec (ws := wsX1_remove) B.pre
  have hown : s.vm.findClass RX1 = some m.cls := findClass_of_methodNamed B.named
  have hlocks := B.notSynchronized
  subst hsz
  have hD := hD0.self (sz := s.heap.size)
  generalize hAe : va_A (hp_X cI cZ cO o b ad v r n) s.heap.size = A at hD hZu hZn ⊢
  replace hD : ∀ v r, va_D A (hp_X cI cZ cO o b ad v r n) := fun _ _ => hp_dX hD
  have hA : ∀ q : Nat, s.heap.size ≤ q → A q := fun q h => by rw [← hAe]; exact Or.inr h
  have hS : va_S A s.heap s.heap [] := va_S.rf
  have hk_1 := hts (.classLink RX1 46 hp_E1) (by decide +kernel)
  have hi_1 := hts (.initialized hp_E1) (by decide +kernel)
  have hm_E1 : ∀ w ∈ (vx_atS RX1 50 hp_E1 hp_nm).filter goodWord, w ∈ wsX1_remove := by decide +kernel
  have hat_1 : ∀ w ∈ vx_atS RX1 50 hp_E1 hp_nm, w.before _ s = true := vx_hat (fun w h => hts w (hm_E1 w h)) hp_nb1 (hp_nB_of hN)
  have hk_2 := hts (.classLink RX1 57 hp_E2) (by decide +kernel)
  have hi_2 := hts (.initialized hp_E2) (by decide +kernel)
  have hm_E2 : ∀ w ∈ (vx_atS RX1 61 hp_E2 hp_nm).filter goodWord, w ∈ wsX1_remove := by decide +kernel
  have hat_2 : ∀ w ∈ vx_atS RX1 61 hp_E2 hp_nm, w.before _ s = true := vx_hat (fun w h => hts w (hm_E2 w h)) hp_nb2 (hp_nB_of hN)
  have hk_3 := hts (.classLink RX1 64 hp_E3) (by decide +kernel)
  have hi_3 := hts (.initialized hp_E3) (by decide +kernel)
  have hm_E3 : ∀ w ∈ (vx_atS RX1 68 hp_E3 hp_nm).filter goodWord, w ∈ wsX1_remove := by decide +kernel
  have hat_3 : ∀ w ∈ vx_atS RX1 68 hp_E3 hp_nm, w.before _ s = true := vx_hat (fun w h => hts w (hm_E3 w h)) hp_nb3 (hp_nB_of hN)
  have hf_93 := hts (.fieldLink RX1 93 "Wallplan$Element" "state" "I") (by decide +kernel)
  have hinX0 : ∀ w ∈ wsX00, w ∈ wsX1_remove := by decide +kernel
  have hl := lv_entry ([.ref o, .int p0, .int p1, .int p2]) (n := 5) (Nat.le_of_ble_eq_true rfl)
  rw [lg_entry_eq]
  generalize (lg_sl ([.ref o, .int p0, .int p1, .int p2]) ++ List.replicate (5 - (lg_sl ([.ref o, .int p0, .int p1, .int p2])).length) Slot.unset).toArray = ls at hl ⊢
  have hl : lv_has ls 5 [(0, .ref o), (1, .int p0), (2, .int p1), (3, .int p2)] := hl
  have hn := hinv.1
  rcases hp_el_or n p2 with h9_p2 | h9_p2
  · skip
    refine lv_aload_n hx hb dX1_remove_0 rfl (lv_at hl 0 rfl) ?_
    refine lv_iload_n hx hb dX1_remove_1 rfl (lv_at hl 3 rfl) ?_
    refine va_csq (W.runV (As := [.int p2]) (rest := []) ⟨hx, hb, hml, hown, hts⟩ (c_X1_find_no l dC dI cI cZ cO cJ o b ad v r n p2 hn h9_p2) (cwV 1 hts gX1_remove_X1_find rfl rfl rfl (by decide +kernel) ⟨(Nat.le_of_ble_eq_true rfl), (Nat.le_of_ble_eq_true rfl)⟩) ⟨hp_fbX, va_recv hK hP (ci := 1) (q0 := 0) rfl hp_X_o, fun U hU hW => ⟨rfl, hp_toX hP hK hN hU hW⟩⟩ rfl rfl hl.1 rfl (lv_room (Nat.le_of_ble_eq_true rfl)) dX1_remove_2 ⟨(Nat.zero_le _), (Nat.zero_le _)⟩) (fun r_1 hr_1 => ?_)
    subst hr_1
    refine W.eq (g2 := F0 m 5 ls [.null]) rfl ?_
    refine lv_astoreN (lv' := [(4, .null), (0, .ref o), (1, .int p0), (2, .int p1), (3, .int p2)]) hx hb dX1_remove_5 hl (by decide) rfl (fun ls hl => ?_)
    refine lv_iload_n hx hb dX1_remove_7 rfl (lv_at hl 2 rfl) ?_
    refine vp_callSi (W.runS (As := [.int p0]) (rest := []) ⟨hx, hb, hml, hown, hts⟩ (c_X1_isKind l p0) (va_cwS 1 hts gX1_remove_X1_isKind rfl rfl rfl (by decide +kernel) ⟨(Nat.le_of_ble_eq_true rfl), (Nat.le_of_ble_eq_true rfl)⟩) ⟨hp_nfb, fun _ _ _ => ⟨rfl, trivial⟩⟩ rfl rfl hl.1 rfl (lv_room (Nat.le_of_ble_eq_true rfl)) dX1_remove_8 ⟨(Nat.zero_le _), (Nat.zero_le _)⟩) (fun r_2 hr_2 => ?_)
    subst hr_2
    refine lv_if_eq (tgt := 19) hx hb dX1_remove_11 (by decide) (fun c_3 => ?_) (fun c_3 => ?_)
    · skip
      have c_3 := hp_bz c_3
      exact hp_thr (mc := 1) (ms := 6) (k := 0) (nL := 5) hx hb hl0 hml htab hlocks hown hk_1 hi_1 hstr (List.mem_of_getElem? (i := 15) rfl) hat_1 hp_gd1 (by decide +kernel) hZu hZn hP hl dX1_remove_19 dX1_remove_22 dX1_remove_23 dX1_remove_25 dX1_remove_28 ⟨(Nat.le_of_ble_eq_true rfl), (Nat.le_of_ble_eq_true rfl), (Nat.le_of_ble_eq_true rfl), (Nat.le_of_ble_eq_true rfl)⟩ ⟨(Nat.le_of_ble_eq_true rfl), (Nat.le_of_ble_eq_true rfl)⟩ rfl ((hp_cd1 (by first | assumption | (simp [h9_p2, c_3]; done))).symm)
    · skip
      have c_3 := hp_bn c_3
      refine lv_aloadN hx hb dX1_remove_14 (lv_at hl 0 rfl) ?_
      refine lv_ifnonnullN hx hb dX1_remove_16 ?_
      exact hp_thr (mc := 1) (ms := 6) (k := 0) (nL := 5) hx hb hl0 hml htab hlocks hown hk_1 hi_1 hstr (List.mem_of_getElem? (i := 15) rfl) hat_1 hp_gd1 (by decide +kernel) hZu hZn hP hl dX1_remove_19 dX1_remove_22 dX1_remove_23 dX1_remove_25 dX1_remove_28 ⟨(Nat.le_of_ble_eq_true rfl), (Nat.le_of_ble_eq_true rfl), (Nat.le_of_ble_eq_true rfl), (Nat.le_of_ble_eq_true rfl)⟩ ⟨(Nat.le_of_ble_eq_true rfl), (Nat.le_of_ble_eq_true rfl)⟩ rfl ((hp_cd1 (by first | assumption | (simp [h9_p2, c_3]; done))).symm)
  · skip
    obtain ⟨i_p2, hi_p2, rfl⟩ := hp_el_of hn h9_p2
    have hcl_p2 : (nI i_p2).toNatClampNeg = i_p2 := nI_clamp (by omega)
    refine lv_aload_n hx hb dX1_remove_0 rfl (lv_at hl 0 rfl) ?_
    refine lv_iload_n hx hb dX1_remove_1 rfl (lv_at hl 3 rfl) ?_
    refine va_csq (W.runV (As := [.int (nI i_p2)]) (rest := []) ⟨hx, hb, hml, hown, hts⟩ (c_X1_find l dC dI cI cZ cO cJ o b ad v r n i_p2 (nI i_p2) rfl hn (by omega)) (cwV 1 hts gX1_remove_X1_find rfl rfl rfl (by decide +kernel) ⟨(Nat.le_of_ble_eq_true rfl), (Nat.le_of_ble_eq_true rfl)⟩) ⟨hp_fbX, va_recv hK hP (ci := 1) (q0 := 0) rfl hp_X_o, fun U hU hW => ⟨rfl, hp_toX hP hK hN hU hW⟩⟩ rfl rfl hl.1 rfl (lv_room (Nat.le_of_ble_eq_true rfl)) dX1_remove_2 ⟨(Nat.zero_le _), (Nat.zero_le _)⟩) (fun r_4 hr_4 => ?_)
    subst hr_4
    refine W.eq (g2 := F0 m 5 ls [.ref (ad i_p2)]) rfl ?_
    refine lv_astore (lv' := [(4, .ref (ad i_p2)), (0, .ref o), (1, .int p0), (2, .int p1), (3, .int (nI i_p2))]) hx hb dX1_remove_5 hl (by decide) rfl (fun ls hl => ?_)
    refine lv_iload_n hx hb dX1_remove_7 rfl (lv_at hl 2 rfl) ?_
    refine vp_callSi (W.runS (As := [.int p0]) (rest := []) ⟨hx, hb, hml, hown, hts⟩ (c_X1_isKind l p0) (va_cwS 1 hts gX1_remove_X1_isKind rfl rfl rfl (by decide +kernel) ⟨(Nat.le_of_ble_eq_true rfl), (Nat.le_of_ble_eq_true rfl)⟩) ⟨hp_nfb, fun _ _ _ => ⟨rfl, trivial⟩⟩ rfl rfl hl.1 rfl (lv_room (Nat.le_of_ble_eq_true rfl)) dX1_remove_8 ⟨(Nat.zero_le _), (Nat.zero_le _)⟩) (fun r_5 hr_5 => ?_)
    subst hr_5
    refine lv_if_eq (tgt := 19) hx hb dX1_remove_11 (by decide) (fun c_6 => ?_) (fun c_6 => ?_)
    · skip
      have c_6 := hp_bz c_6
      exact hp_thr (mc := 1) (ms := 6) (k := 0) (nL := 5) hx hb hl0 hml htab hlocks hown hk_1 hi_1 hstr (List.mem_of_getElem? (i := 15) rfl) hat_1 hp_gd1 (by decide +kernel) hZu hZn hP hl dX1_remove_19 dX1_remove_22 dX1_remove_23 dX1_remove_25 dX1_remove_28 ⟨(Nat.le_of_ble_eq_true rfl), (Nat.le_of_ble_eq_true rfl), (Nat.le_of_ble_eq_true rfl), (Nat.le_of_ble_eq_true rfl)⟩ ⟨(Nat.le_of_ble_eq_true rfl), (Nat.le_of_ble_eq_true rfl)⟩ rfl ((hp_cd1 (by first | assumption | (simp [h9_p2, hcl_p2, c_6]; done))).symm)
    · skip
      have c_6 := hp_bn c_6
      refine lv_aload hx hb dX1_remove_14 (lv_at hl 0 rfl) ?_
      refine lv_ifnonnull (tgt := 29) hx hb dX1_remove_16 (by decide) ?_
      refine lv_aload_n hx hb dX1_remove_29 rfl (lv_at hl 1 rfl) ?_
      refine lv_iload_n hx hb dX1_remove_30 rfl (lv_at hl 3 rfl) ?_
      refine vp_callSi (W.runV (As := [.int p1]) (rest := []) ⟨hx, hb, hml, hown, hts⟩ (c_X1_isBase l dC dI cI cZ cO cJ o b ad v r n p1) (cwV 1 hts gX1_remove_X1_isBase rfl rfl rfl (by decide +kernel) ⟨(Nat.le_of_ble_eq_true rfl), (Nat.le_of_ble_eq_true rfl)⟩) ⟨hp_fbX, va_recv hK hP (ci := 1) (q0 := 0) rfl hp_X_o, fun U hU hW => ⟨rfl, hp_toX hP hK hN hU hW⟩⟩ rfl rfl hl.1 rfl (lv_room (Nat.le_of_ble_eq_true rfl)) dX1_remove_31 ⟨(Nat.zero_le _), (Nat.zero_le _)⟩) (fun r_7 hr_7 => ?_)
      subst hr_7
      refine lv_if_ne (tgt := 47) hx hb dX1_remove_34 (by decide) (fun c_8 => ?_) (fun c_8 => ?_)
      · skip
        have c_8 := hp_bn c_8
        refine lv_aload hx hb dX1_remove_47 (lv_at hl 0 rfl) ?_
        refine va_get (D := (dC, dI)) (ci := 0) (v := .int (r 10 i_p2)) (C := RX0) (T := TX0) (N := 10) hx hb hts hinX0 hown hK hP (6 + i_p2) (hp_X_e (by omega)) rfl 6 (by decide) hf_93 (fun _ h9 => h9) rfl dX1_remove_49 ?_
        refine lv_if_eq (tgt := 65) hx hb dX1_remove_52 (by decide) (fun c_9 => ?_) (fun c_9 => ?_)
        · skip
          refine lv_aload hx hb dX1_remove_65 (lv_at hl 0 rfl) ?_
          refine lv_iconst (v := 4) hx hb dX1_remove_67 (by decide) ?_
          refine va_put (D := (dC, dI)) (ci := 0) (v := .int 4) (ty := .int) (C := RX0) (T := TX0) (N := 10) hx hb hts hinX0 tyX0 tyX0_ok nmX0 hown hK hP (hD _ _) hS (6 + i_p2) (hp_X_e (by omega)) rfl 6 (by decide) hf_93 (fun _ h9 => h9) rfl (by decide +kernel) rfl rfl (Nat.le_of_ble_eq_true rfl) dX1_remove_68 (fun H_10 locs_10 hP1 _ hS1 => ?_)
          replace hP : va_P (dC, dI) vwCl (hp_X cI cZ cO o b ad v (hp_set r 10 i_p2 4) n) H_10 := hp_cP (hp_X_f6 (by omega)) hP1
          replace hS := hS1
          clear hP1 hS1
          refine lv_aload_n hx hb dX1_remove_71 rfl (lv_at hl 1 rfl) ?_
          refine lv_aload hx hb dX1_remove_72 (lv_at hl 0 rfl) ?_
          refine lv_iload_n hx hb dX1_remove_74 rfl (lv_at hl 2 rfl) ?_
          have hFc := hp_free (hD v (hp_set r 10 i_p2 4)) hS hA
          refine va_callv (va_runV (As := [.ref (ad i_p2), .int p0]) (rest := []) ⟨hx, hb, hml, hown, hts⟩ (c_X1_noteChange l dC dI cI cZ cO cJ o b ad v (hp_set r 10 i_p2 4) n H_10.size i_p2 (by omega) p0) (cwV 2 hts gX1_remove_X1_noteChange rfl rfl rfl (by decide +kernel) ⟨(Nat.le_of_ble_eq_true rfl), (Nat.le_of_ble_eq_true rfl)⟩) ⟨hp_mfbX, va_recv hK hP (ci := 1) (q0 := 0) rfl hp_X_o, fun U hU hW => ⟨rfl, hp_mtoX hP hK (hD _ _) hN hU hW⟩⟩ rfl rfl hl.1 rfl (lv_room (Nat.le_of_ble_eq_true rfl)) dX1_remove_75 ⟨(Nat.zero_le _), (Nat.zero_le _)⟩) hS (fun q _ h => hFc q h) hFc (fun u_11 t_11 H_11 locs_11 ht _ hr_11 hB _ _ hS1 => ?_)
          replace hP : va_P (dC, dI) vwCl (hp_X cI cZ cO o b ad (hp_rv v) (hp_chg (hp_set r 10 i_p2 4) i_p2 ((v 2) + 1) p0) n) H_11 := hp_th ht hB
          replace hS := hS1
          clear hS1 hB ht hFc
          refine lv_iconst (v := 1) hx hb dX1_remove_78 (by decide) ?_
          have hc : hp_c_remove v r n p0 p1 (nI i_p2) = 0 := (hp_cdz (by first | assumption | (simp [h9_p2, hcl_p2, c_6, c_8, c_9]; done)) (by first | assumption | (simp [h9_p2, hcl_p2, c_6, c_8, c_9]; done)) (by first | assumption | (simp [h9_p2, hcl_p2, c_6, c_8, c_9]; done))).symm
          have hP9 : va_P (dC, dI) vwCl (hp_X cI cZ cO o b ad (hp_v_remove v r n p0 p1 (nI i_p2)) (hp_r_remove v r n p0 p1 (nI i_p2)) n) H_11 := by simp only [hp_v_remove, hp_r_remove, if_pos hc, hcl_p2]; exact hP
          refine W.widen (k := 1) (n := 6) (Nat.le_of_ble_eq_true rfl) (Nat.le_of_ble_eq_true rfl) ?_
          exact vx_ret (W.zret (ty := .boolean) (v := 1) hx hb hr rfl (fun t ht hW => ⟨⟨1, ad, rfl, ⟨hc, (by rfl)⟩, hp_ht ht hP9, hD _ _⟩, hS.F ht⟩) hS.2.2 dX1_remove_79)
        · skip
          exact hp_thr (mc := 1) (ms := 6) (k := 2) (nL := 5) hx hb hl0 hml htab hlocks hown hk_3 hi_3 hstr (List.mem_of_getElem? (i := 18) rfl) hat_3 hp_gd3 (by decide +kernel) hZu hZn hP hl dX1_remove_55 dX1_remove_58 dX1_remove_59 dX1_remove_61 dX1_remove_64 ⟨(Nat.le_of_ble_eq_true rfl), (Nat.le_of_ble_eq_true rfl), (Nat.le_of_ble_eq_true rfl), (Nat.le_of_ble_eq_true rfl)⟩ ⟨(Nat.le_of_ble_eq_true rfl), (Nat.le_of_ble_eq_true rfl)⟩ rfl ((hp_cd3 (by first | assumption | (simp [h9_p2, hcl_p2, c_6, c_8, c_9]; done)) (by first | assumption | (simp [h9_p2, hcl_p2, c_6, c_8, c_9]; done)) (by first | assumption | (simp [h9_p2, hcl_p2, c_6, c_8, c_9]; done))).symm)
      · skip
        have c_8 := hp_bz c_8
        exact hp_thr (mc := 1) (ms := 6) (k := 1) (nL := 5) hx hb hl0 hml htab hlocks hown hk_2 hi_2 hstr (List.mem_of_getElem? (i := 16) rfl) hat_2 hp_gd2 (by decide +kernel) hZu hZn hP hl dX1_remove_37 dX1_remove_40 dX1_remove_41 dX1_remove_43 dX1_remove_46 ⟨(Nat.le_of_ble_eq_true rfl), (Nat.le_of_ble_eq_true rfl), (Nat.le_of_ble_eq_true rfl), (Nat.le_of_ble_eq_true rfl)⟩ ⟨(Nat.le_of_ble_eq_true rfl), (Nat.le_of_ble_eq_true rfl)⟩ rfl ((hp_cd2 (by first | assumption | (simp [h9_p2, hcl_p2, c_6, c_8]; done)) (by first | assumption | (simp [h9_p2, hcl_p2, c_6, c_8]; done))).symm)
set_option maxHeartbeats 400000 in
set_option maxRecDepth 100000 in
theorem c_X1_move (l : Launch) (hl0 : l.stackTraces = false) (dC : Nat → ClassId) (dI : Nat → Nat → Nat) (cI cZ cO cJ : ClassId) (o : Nat) (b ad : Nat → Nat) (v : Nat → Int32) (r : Nat → Nat → Int32) (n : Nat) (sz : Nat)  (p0 p1 p2 p3 p4 : Int32) (hinv : hp_inv v r n) : vx_Met l yX1_move wsX1_move ({ frames := 6, cells := 1, slots := 6, locals := 82 }) (va_Pc [.ref o, .int p0, .int p1, .int p2, .int p3, .int p4] (hp_prT (dC, dI) cI cZ cO cJ (hp_X cI cZ cO o b ad v r n) sz)) (va_Qi (S := Nat → Nat) (fun x9 _ => hp_c_move v r n p0 p1 p2 p3 p4 = 0 ∧ x9 = hp_b (hp_b_move v r n p0 p1 p2 p3 p4)) (fun u9 t9 => va_P (dC, dI) vwCl (hp_X cI cZ cO o b u9 (hp_v_move v r n p0 p1 p2 p3 p4) (hp_r_move v r n p0 p1 p2 p3 p4) n) t9.heap ∧ va_D (va_A (hp_X cI cZ cO o b ad v r n) sz) (hp_X cI cZ cO o b u9 (hp_v_move v r n p0 p1 p2 p3 p4) (hp_r_move v r n p0 p1 p2 p3 p4) n)) (va_A (hp_X cI cZ cO o b ad v r n) sz)) (vx_X (S := Unit) (fun _ => True) (fun E9 _ t9 => hp_xc [hp_E1, hp_E2, hp_E3] (hp_c_move v r n p0 p1 p2 p3 p4) E9 ∧ va_P (dC, dI) vwCl (hp_X cI cZ cO o b ad v r n) t9.heap) (va_A (hp_X cI cZ cO o b ad v r n) sz)) 1 6 (va_A (hp_X cI cZ cO o b ad v r n) sz) := by
  refine vx_ofW (cc := cX1_move) (maxL := 7) (ret := (some .boolean)) (by decide) rfl ?_
  intro p e s m args below meth c s₁ B hml htab hv
  obtain ⟨rfl, hsz, hP, hK, hD0, hN, hstr, hZu, hZn⟩ := hv
  have hx := B.exec
  have hb := B.bytes
  have hr := B.returns
  have hts := atoms_spec (ws := wsX1_move) B.pre
  have hown : s.vm.findClass RX1 = some m.cls := findClass_of_methodNamed B.named
  have hlocks := B.notSynchronized
  subst hsz
  have hD := hD0.self (sz := s.heap.size)
  generalize hAe : va_A (hp_X cI cZ cO o b ad v r n) s.heap.size = A at hD hZu hZn ⊢
  replace hD : ∀ v r, va_D A (hp_X cI cZ cO o b ad v r n) := fun _ _ => hp_dX hD
  have hA : ∀ q : Nat, s.heap.size ≤ q → A q := fun q h => by rw [← hAe]; exact Or.inr h
  have hS : va_S A s.heap s.heap [] := va_S.rf
  have hk_1 := hts (.classLink RX1 46 hp_E1) (by decide +kernel)
  have hi_1 := hts (.initialized hp_E1) (by decide +kernel)
  have hm_E1 : ∀ w ∈ (vx_atS RX1 50 hp_E1 hp_nm).filter goodWord, w ∈ wsX1_move := by decide +kernel
  have hat_1 : ∀ w ∈ vx_atS RX1 50 hp_E1 hp_nm, w.before _ s = true := vx_hat (fun w h => hts w (hm_E1 w h)) hp_nb1 (hp_nB_of hN)
  have hk_2 := hts (.classLink RX1 57 hp_E2) (by decide +kernel)
  have hi_2 := hts (.initialized hp_E2) (by decide +kernel)
  have hm_E2 : ∀ w ∈ (vx_atS RX1 61 hp_E2 hp_nm).filter goodWord, w ∈ wsX1_move := by decide +kernel
  have hat_2 : ∀ w ∈ vx_atS RX1 61 hp_E2 hp_nm, w.before _ s = true := vx_hat (fun w h => hts w (hm_E2 w h)) hp_nb2 (hp_nB_of hN)
  have hk_3 := hts (.classLink RX1 64 hp_E3) (by decide +kernel)
  have hi_3 := hts (.initialized hp_E3) (by decide +kernel)
  have hm_E3 : ∀ w ∈ (vx_atS RX1 68 hp_E3 hp_nm).filter goodWord, w ∈ wsX1_move := by decide +kernel
  have hat_3 : ∀ w ∈ vx_atS RX1 68 hp_E3 hp_nm, w.before _ s = true := vx_hat (fun w h => hts w (hm_E3 w h)) hp_nb3 (hp_nB_of hN)
  have hf_93 := hts (.fieldLink RX1 93 "Wallplan$Element" "state" "I") (by decide +kernel)
  have hinX0 : ∀ w ∈ wsX00, w ∈ wsX1_move := by decide +kernel
  have hl := lv_entry ([.ref o, .int p0, .int p1, .int p2, .int p3, .int p4]) (n := 7) (Nat.le_of_ble_eq_true rfl)
  rw [lg_entry_eq]
  generalize (lg_sl ([.ref o, .int p0, .int p1, .int p2, .int p3, .int p4]) ++ List.replicate (7 - (lg_sl ([.ref o, .int p0, .int p1, .int p2, .int p3, .int p4])).length) Slot.unset).toArray = ls at hl ⊢
  have hl : lv_has ls 7 [(0, .ref o), (1, .int p0), (2, .int p1), (3, .int p2), (4, .int p3), (5, .int p4)] := hl
  have hn := hinv.1
  rcases hp_el_or n p2 with h9_p2 | h9_p2
  · skip
    refine lv_aload_n hx hb dX1_move_0 rfl (lv_at hl 0 rfl) ?_
    refine lv_iload_n hx hb dX1_move_1 rfl (lv_at hl 3 rfl) ?_
    refine va_csq (W.runV (As := [.int p2]) (rest := []) ⟨hx, hb, hml, hown, hts⟩ (c_X1_find_no l dC dI cI cZ cO cJ o b ad v r n p2 hn h9_p2) (cwV 1 hts gX1_move_X1_find rfl rfl rfl (by decide +kernel) ⟨(Nat.le_of_ble_eq_true rfl), (Nat.le_of_ble_eq_true rfl)⟩) ⟨hp_fbX, va_recv hK hP (ci := 1) (q0 := 0) rfl hp_X_o, fun U hU hW => ⟨rfl, hp_toX hP hK hN hU hW⟩⟩ rfl rfl hl.1 rfl (lv_room (Nat.le_of_ble_eq_true rfl)) dX1_move_2 ⟨(Nat.zero_le _), (Nat.zero_le _)⟩) (fun r_1 hr_1 => ?_)
    subst hr_1
    refine W.eq (g2 := F0 m 5 ls [.null]) rfl ?_
    refine lv_astoreN (lv' := [(6, .null), (0, .ref o), (1, .int p0), (2, .int p1), (3, .int p2), (4, .int p3), (5, .int p4)]) hx hb dX1_move_5 hl (by decide) rfl (fun ls hl => ?_)
    refine lv_iload_n hx hb dX1_move_7 rfl (lv_at hl 2 rfl) ?_
    refine vp_callSi (W.runS (As := [.int p0]) (rest := []) ⟨hx, hb, hml, hown, hts⟩ (c_X1_isKind l p0) (va_cwS 1 hts gX1_move_X1_isKind rfl rfl rfl (by decide +kernel) ⟨(Nat.le_of_ble_eq_true rfl), (Nat.le_of_ble_eq_true rfl)⟩) ⟨hp_nfb, fun _ _ _ => ⟨rfl, trivial⟩⟩ rfl rfl hl.1 rfl (lv_room (Nat.le_of_ble_eq_true rfl)) dX1_move_8 ⟨(Nat.zero_le _), (Nat.zero_le _)⟩) (fun r_2 hr_2 => ?_)
    subst hr_2
    refine lv_if_eq (tgt := 19) hx hb dX1_move_11 (by decide) (fun c_3 => ?_) (fun c_3 => ?_)
    · skip
      have c_3 := hp_bz c_3
      exact hp_thr (mc := 1) (ms := 6) (k := 0) (nL := 7) hx hb hl0 hml htab hlocks hown hk_1 hi_1 hstr (List.mem_of_getElem? (i := 15) rfl) hat_1 hp_gd1 (by decide +kernel) hZu hZn hP hl dX1_move_19 dX1_move_22 dX1_move_23 dX1_move_25 dX1_move_28 ⟨(Nat.le_of_ble_eq_true rfl), (Nat.le_of_ble_eq_true rfl), (Nat.le_of_ble_eq_true rfl), (Nat.le_of_ble_eq_true rfl)⟩ ⟨(Nat.le_of_ble_eq_true rfl), (Nat.le_of_ble_eq_true rfl)⟩ rfl ((hp_cd1 (by first | assumption | (simp [h9_p2, c_3]; done))).symm)
    · skip
      have c_3 := hp_bn c_3
      refine lv_aloadN hx hb dX1_move_14 (lv_at hl 0 rfl) ?_
      refine lv_ifnonnullN hx hb dX1_move_16 ?_
      exact hp_thr (mc := 1) (ms := 6) (k := 0) (nL := 7) hx hb hl0 hml htab hlocks hown hk_1 hi_1 hstr (List.mem_of_getElem? (i := 15) rfl) hat_1 hp_gd1 (by decide +kernel) hZu hZn hP hl dX1_move_19 dX1_move_22 dX1_move_23 dX1_move_25 dX1_move_28 ⟨(Nat.le_of_ble_eq_true rfl), (Nat.le_of_ble_eq_true rfl), (Nat.le_of_ble_eq_true rfl), (Nat.le_of_ble_eq_true rfl)⟩ ⟨(Nat.le_of_ble_eq_true rfl), (Nat.le_of_ble_eq_true rfl)⟩ rfl ((hp_cd1 (by first | assumption | (simp [h9_p2, c_3]; done))).symm)
  · skip
    obtain ⟨i_p2, hi_p2, rfl⟩ := hp_el_of hn h9_p2
    have hcl_p2 : (nI i_p2).toNatClampNeg = i_p2 := nI_clamp (by omega)
    refine lv_aload_n hx hb dX1_move_0 rfl (lv_at hl 0 rfl) ?_
    refine lv_iload_n hx hb dX1_move_1 rfl (lv_at hl 3 rfl) ?_
    refine va_csq (W.runV (As := [.int (nI i_p2)]) (rest := []) ⟨hx, hb, hml, hown, hts⟩ (c_X1_find l dC dI cI cZ cO cJ o b ad v r n i_p2 (nI i_p2) rfl hn (by omega)) (cwV 1 hts gX1_move_X1_find rfl rfl rfl (by decide +kernel) ⟨(Nat.le_of_ble_eq_true rfl), (Nat.le_of_ble_eq_true rfl)⟩) ⟨hp_fbX, va_recv hK hP (ci := 1) (q0 := 0) rfl hp_X_o, fun U hU hW => ⟨rfl, hp_toX hP hK hN hU hW⟩⟩ rfl rfl hl.1 rfl (lv_room (Nat.le_of_ble_eq_true rfl)) dX1_move_2 ⟨(Nat.zero_le _), (Nat.zero_le _)⟩) (fun r_4 hr_4 => ?_)
    subst hr_4
    refine W.eq (g2 := F0 m 5 ls [.ref (ad i_p2)]) rfl ?_
    refine lv_astore (lv' := [(6, .ref (ad i_p2)), (0, .ref o), (1, .int p0), (2, .int p1), (3, .int (nI i_p2)), (4, .int p3), (5, .int p4)]) hx hb dX1_move_5 hl (by decide) rfl (fun ls hl => ?_)
    refine lv_iload_n hx hb dX1_move_7 rfl (lv_at hl 2 rfl) ?_
    refine vp_callSi (W.runS (As := [.int p0]) (rest := []) ⟨hx, hb, hml, hown, hts⟩ (c_X1_isKind l p0) (va_cwS 1 hts gX1_move_X1_isKind rfl rfl rfl (by decide +kernel) ⟨(Nat.le_of_ble_eq_true rfl), (Nat.le_of_ble_eq_true rfl)⟩) ⟨hp_nfb, fun _ _ _ => ⟨rfl, trivial⟩⟩ rfl rfl hl.1 rfl (lv_room (Nat.le_of_ble_eq_true rfl)) dX1_move_8 ⟨(Nat.zero_le _), (Nat.zero_le _)⟩) (fun r_5 hr_5 => ?_)
    subst hr_5
    refine lv_if_eq (tgt := 19) hx hb dX1_move_11 (by decide) (fun c_6 => ?_) (fun c_6 => ?_)
    · skip
      have c_6 := hp_bz c_6
      exact hp_thr (mc := 1) (ms := 6) (k := 0) (nL := 7) hx hb hl0 hml htab hlocks hown hk_1 hi_1 hstr (List.mem_of_getElem? (i := 15) rfl) hat_1 hp_gd1 (by decide +kernel) hZu hZn hP hl dX1_move_19 dX1_move_22 dX1_move_23 dX1_move_25 dX1_move_28 ⟨(Nat.le_of_ble_eq_true rfl), (Nat.le_of_ble_eq_true rfl), (Nat.le_of_ble_eq_true rfl), (Nat.le_of_ble_eq_true rfl)⟩ ⟨(Nat.le_of_ble_eq_true rfl), (Nat.le_of_ble_eq_true rfl)⟩ rfl ((hp_cd1 (by first | assumption | (simp [h9_p2, hcl_p2, c_6]; done))).symm)
    · skip
      have c_6 := hp_bn c_6
      refine lv_aload hx hb dX1_move_14 (lv_at hl 0 rfl) ?_
      refine lv_ifnonnull (tgt := 29) hx hb dX1_move_16 (by decide) ?_
      refine lv_aload_n hx hb dX1_move_29 rfl (lv_at hl 1 rfl) ?_
      refine lv_iload_n hx hb dX1_move_30 rfl (lv_at hl 3 rfl) ?_
      refine vp_callSi (W.runV (As := [.int p1]) (rest := []) ⟨hx, hb, hml, hown, hts⟩ (c_X1_isBase l dC dI cI cZ cO cJ o b ad v r n p1) (cwV 1 hts gX1_move_X1_isBase rfl rfl rfl (by decide +kernel) ⟨(Nat.le_of_ble_eq_true rfl), (Nat.le_of_ble_eq_true rfl)⟩) ⟨hp_fbX, va_recv hK hP (ci := 1) (q0 := 0) rfl hp_X_o, fun U hU hW => ⟨rfl, hp_toX hP hK hN hU hW⟩⟩ rfl rfl hl.1 rfl (lv_room (Nat.le_of_ble_eq_true rfl)) dX1_move_31 ⟨(Nat.zero_le _), (Nat.zero_le _)⟩) (fun r_7 hr_7 => ?_)
      subst hr_7
      refine lv_if_ne (tgt := 47) hx hb dX1_move_34 (by decide) (fun c_8 => ?_) (fun c_8 => ?_)
      · skip
        have c_8 := hp_bn c_8
        refine lv_iload hx hb dX1_move_47 (lv_at hl 5 rfl) ?_
        refine vp_callSi (W.runS (As := [.int p3]) (rest := []) ⟨hx, hb, hml, hown, hts⟩ (c_X1_isStep l p3) (va_cwS 1 hts gX1_move_X1_isStep rfl rfl rfl (by decide +kernel) ⟨(Nat.le_of_ble_eq_true rfl), (Nat.le_of_ble_eq_true rfl)⟩) ⟨hp_nfb, fun _ _ _ => ⟨rfl, trivial⟩⟩ rfl rfl hl.1 rfl (lv_room (Nat.le_of_ble_eq_true rfl)) dX1_move_49 ⟨(Nat.zero_le _), (Nat.zero_le _)⟩) (fun r_9 hr_9 => ?_)
        subst hr_9
        refine lv_if_eq (tgt := 75) hx hb dX1_move_52 (by decide) (fun c_10 => ?_) (fun c_10 => ?_)
        · skip
          have c_10 := hp_bz c_10
          exact hp_thr (mc := 1) (ms := 6) (k := 1) (nL := 7) hx hb hl0 hml htab hlocks hown hk_2 hi_2 hstr (List.mem_of_getElem? (i := 17) rfl) hat_2 hp_gd2 (by decide +kernel) hZu hZn hP hl dX1_move_75 dX1_move_78 dX1_move_79 dX1_move_81 dX1_move_84 ⟨(Nat.le_of_ble_eq_true rfl), (Nat.le_of_ble_eq_true rfl), (Nat.le_of_ble_eq_true rfl), (Nat.le_of_ble_eq_true rfl)⟩ ⟨(Nat.le_of_ble_eq_true rfl), (Nat.le_of_ble_eq_true rfl)⟩ rfl (by rw [hp_c_move, hcl_p2]; exact (hp_cd2 (by first | assumption | (simp [h9_p2, hcl_p2, c_6, c_8, c_10]; done)) (by first | exact hp_mvG hst9 | (simp [h9_p2, hcl_p2, c_6, c_8, c_10]; done))).symm)
        · skip
          have c_10 := hp_bn c_10
          refine lv_iload hx hb dX1_move_55 (lv_at hl 6 rfl) ?_
          refine vp_callSi (W.runS (As := [.int p4]) (rest := []) ⟨hx, hb, hml, hown, hts⟩ (c_X1_isStep l p4) (va_cwS 1 hts gX1_move_X1_isStep rfl rfl rfl (by decide +kernel) ⟨(Nat.le_of_ble_eq_true rfl), (Nat.le_of_ble_eq_true rfl)⟩) ⟨hp_nfb, fun _ _ _ => ⟨rfl, trivial⟩⟩ rfl rfl hl.1 rfl (lv_room (Nat.le_of_ble_eq_true rfl)) dX1_move_57 ⟨(Nat.zero_le _), (Nat.zero_le _)⟩) (fun r_11 hr_11 => ?_)
          subst hr_11
          refine lv_if_eq (tgt := 75) hx hb dX1_move_60 (by decide) (fun c_12 => ?_) (fun c_12 => ?_)
          · skip
            have c_12 := hp_bz c_12
            exact hp_thr (mc := 1) (ms := 6) (k := 1) (nL := 7) hx hb hl0 hml htab hlocks hown hk_2 hi_2 hstr (List.mem_of_getElem? (i := 17) rfl) hat_2 hp_gd2 (by decide +kernel) hZu hZn hP hl dX1_move_75 dX1_move_78 dX1_move_79 dX1_move_81 dX1_move_84 ⟨(Nat.le_of_ble_eq_true rfl), (Nat.le_of_ble_eq_true rfl), (Nat.le_of_ble_eq_true rfl), (Nat.le_of_ble_eq_true rfl)⟩ ⟨(Nat.le_of_ble_eq_true rfl), (Nat.le_of_ble_eq_true rfl)⟩ rfl (by rw [hp_c_move, hcl_p2]; exact (hp_cd2 (by first | assumption | (simp [h9_p2, hcl_p2, c_6, c_8, c_10, c_12]; done)) (by first | exact hp_mvG hst9 | (simp [h9_p2, hcl_p2, c_6, c_8, c_10, c_12]; done))).symm)
          · skip
            have c_12 := hp_bn c_12
            refine lv_aload hx hb dX1_move_63 (lv_at hl 0 rfl) ?_
            refine lv_iload hx hb dX1_move_65 (lv_at hl 5 rfl) ?_
            refine lv_iload hx hb dX1_move_67 (lv_at hl 6 rfl) ?_
            refine vp_callSi (W.runV (As := [.int p3, .int p4]) (rest := []) ⟨hx, hb, hml, hown, hts⟩ (c_X0_staysInside l dC dI cI cZ cO cJ o b ad v r n i_p2 (by omega) p3 p4) (cwV 2 hts gX1_move_X0_staysInside rfl rfl rfl (by decide +kernel) ⟨(Nat.le_of_ble_eq_true rfl), (Nat.le_of_ble_eq_true rfl)⟩) ⟨hp_fbX, va_recv hK hP (ci := 0) (q0 := 6 + i_p2) rfl (hp_X_e (by omega)), fun U hU hW => ⟨rfl, hp_toX hP hK hN hU hW⟩⟩ rfl rfl hl.1 rfl (lv_room (Nat.le_of_ble_eq_true rfl)) dX1_move_69 ⟨(Nat.zero_le _), (Nat.zero_le _)⟩) (fun r_13 hr_13 => ?_)
            subst hr_13
            refine lv_if_ne (tgt := 85) hx hb dX1_move_72 (by decide) (fun c_14 => ?_) (fun c_14 => ?_)
            · skip
              have c_14 := hp_bn c_14
              obtain ⟨s6, s7, s8, s9⟩ := hp_mvT c_14
              refine lv_aload hx hb dX1_move_85 (lv_at hl 0 rfl) ?_
              refine va_get (D := (dC, dI)) (ci := 0) (v := .int (r 10 i_p2)) (C := RX0) (T := TX0) (N := 10) hx hb hts hinX0 hown hK hP (6 + i_p2) (hp_X_e (by omega)) rfl 6 (by decide) hf_93 (fun _ h9 => h9) rfl dX1_move_87 ?_
              refine lv_if_eq (tgt := 103) hx hb dX1_move_90 (by decide) (fun c_15 => ?_) (fun c_15 => ?_)
              · skip
                refine lv_aload hx hb dX1_move_103 (lv_at hl 0 rfl) ?_
                refine lv_iload_n hx hb dX1_move_105 rfl (lv_at hl 2 rfl) ?_
                refine lv_iload_n hx hb dX1_move_106 rfl (lv_at hl 3 rfl) ?_
                refine vp_callSi (W.runS (As := [.ref (ad i_p2), .int p0, .int p1]) (rest := []) ⟨hx, hb, hml, hown, hts⟩ (c_X1_losesAgainstLastChange l dC dI cI cZ cO cJ o b ad v r n i_p2 (by omega) p0 p1) (va_cwS 3 hts gX1_move_X1_losesAgainstLastChange rfl rfl rfl (by decide +kernel) ⟨(Nat.le_of_ble_eq_true rfl), (Nat.le_of_ble_eq_true rfl)⟩) ⟨hp_fbX, fun U hU hW => ⟨rfl, hp_toX hP hK hN hU hW⟩⟩ rfl rfl hl.1 rfl (lv_room (Nat.le_of_ble_eq_true rfl)) dX1_move_107 ⟨(Nat.zero_le _), (Nat.zero_le _)⟩) (fun r_16 hr_16 => ?_)
                subst hr_16
                refine lv_if_eq (tgt := 115) hx hb dX1_move_110 (by decide) (fun c_17 => ?_) (fun c_17 => ?_)
                · skip
                  have c_17 := hp_bz c_17
                  have hk9 : hp_tk r p0 p1 i_p2 = true := by simpa using c_17
                  refine lv_aload hx hb dX1_move_115 (lv_at hl 0 rfl) ?_
                  refine lv_iload hx hb dX1_move_117 (lv_at hl 5 rfl) ?_
                  refine lv_iload hx hb dX1_move_119 (lv_at hl 6 rfl) ?_
                  have hFc := hp_free (hD v r) hS hA
                  refine va_callv (va_runV (As := [.int p3, .int p4]) (rest := []) ⟨hx, hb, hml, hown, hts⟩ (c_X0_shift l dC dI cI cZ cO cJ o b ad v r n s.heap.size i_p2 (by omega) p3 p4) (cwV 2 hts gX1_move_X0_shift rfl rfl rfl (by decide +kernel) ⟨(Nat.le_of_ble_eq_true rfl), (Nat.le_of_ble_eq_true rfl)⟩) ⟨hp_mfbX, va_recv hK hP (ci := 0) (q0 := 6 + i_p2) rfl (hp_X_e (by omega)), fun U hU hW => ⟨rfl, hp_mtoX hP hK (hD _ _) hN hU hW⟩⟩ rfl rfl hl.1 rfl (lv_room (Nat.le_of_ble_eq_true rfl)) dX1_move_121 ⟨(Nat.zero_le _), (Nat.zero_le _)⟩) hS (fun q _ h => hFc q h) hFc (fun u_18 t_18 H_18 locs_18 ht _ hr_18 hB _ _ hS1 => ?_)
                  replace hP : va_P (dC, dI) vwCl (hp_X cI cZ cO o b ad v (hp_shf r i_p2 p3 p4) n) H_18 := hp_th ht hB
                  replace hS := hS1
                  clear hS1 hB ht hFc
                  refine lv_aload_n hx hb dX1_move_124 rfl (lv_at hl 1 rfl) ?_
                  refine lv_aload hx hb dX1_move_125 (lv_at hl 0 rfl) ?_
                  refine lv_iload_n hx hb dX1_move_127 rfl (lv_at hl 2 rfl) ?_
                  have hFc := hp_free (hD v (hp_shf r i_p2 p3 p4)) hS hA
                  refine va_callv (va_runV (As := [.ref (ad i_p2), .int p0]) (rest := []) ⟨hx, hb, hml, hown, hts⟩ (c_X1_noteChange l dC dI cI cZ cO cJ o b ad v (hp_shf r i_p2 p3 p4) n H_18.size i_p2 (by omega) p0) (cwV 2 hts gX1_move_X1_noteChange rfl rfl rfl (by decide +kernel) ⟨(Nat.le_of_ble_eq_true rfl), (Nat.le_of_ble_eq_true rfl)⟩) ⟨hp_mfbX, va_recv hK hP (ci := 1) (q0 := 0) rfl hp_X_o, fun U hU hW => ⟨rfl, hp_mtoX hP hK (hD _ _) hN hU hW⟩⟩ rfl rfl hl.1 rfl (lv_room (Nat.le_of_ble_eq_true rfl)) dX1_move_128 ⟨(Nat.zero_le _), (Nat.zero_le _)⟩) hS (fun q _ h => hFc q h) hFc (fun u_19 t_19 H_19 locs_19 ht _ hr_19 hB _ _ hS1 => ?_)
                  replace hP : va_P (dC, dI) vwCl (hp_X cI cZ cO o b ad (hp_rv v) (hp_chg (hp_shf r i_p2 p3 p4) i_p2 ((v 2) + 1) p0) n) H_19 := hp_th ht hB
                  replace hS := hS1
                  clear hS1 hB ht hFc
                  refine lv_iconst (v := 1) hx hb dX1_move_131 (by decide) ?_
                  have hc : hp_c_move v r n p0 p1 (nI i_p2) p3 p4 = 0 := (hp_cdz (by first | assumption | (simp [h9_p2, hcl_p2, c_6, c_8, c_10, c_12, c_14, s6, s7, s8, s9, c_15, c_17, hk9]; done)) (by first | assumption | (simp [h9_p2, hcl_p2, c_6, c_8, c_10, c_12, c_14, s6, s7, s8, s9, c_15, c_17, hk9]; done)) (by first | assumption | (simp [h9_p2, hcl_p2, c_6, c_8, c_10, c_12, c_14, s6, s7, s8, s9, c_15, c_17, hk9]; done))).symm
                  have hP9 : va_P (dC, dI) vwCl (hp_X cI cZ cO o b ad (hp_v_move v r n p0 p1 (nI i_p2) p3 p4) (hp_r_move v r n p0 p1 (nI i_p2) p3 p4) n) H_19 := by have hb9 : hp_b_move v r n p0 p1 (nI i_p2) p3 p4 = true := (by simp [hp_b_move, h9_p2, hcl_p2, c_6, c_8, c_10, c_12, c_14, s6, s7, s8, s9, c_15, c_17, hk9, hc]); simp only [hp_v_move, hp_r_move, if_pos hb9, hcl_p2, ← hp_shf_mov]; exact hP
                  refine W.widen (k := 1) (n := 6) (Nat.le_of_ble_eq_true rfl) (Nat.le_of_ble_eq_true rfl) ?_
                  exact vx_ret (W.zret (ty := .boolean) (v := 1) hx hb hr rfl (fun t ht hW => ⟨⟨1, ad, rfl, ⟨hc, (by exact hp_bt2 (by simp [hp_b_move, h9_p2, hcl_p2, c_6, c_8, c_10, c_12, c_14, s6, s7, s8, s9, c_15, c_17, hk9, hc]))⟩, hp_ht ht hP9, hD _ _⟩, hS.F ht⟩) hS.2.2 dX1_move_132)
                · skip
                  have c_17 := hp_bn c_17
                  have hk9 : hp_tk r p0 p1 i_p2 = false := by simpa using c_17
                  refine lv_iconst (v := 0) hx hb dX1_move_113 (by decide) ?_
                  have hc : hp_c_move v r n p0 p1 (nI i_p2) p3 p4 = 0 := (hp_cdz (by first | assumption | (simp [h9_p2, hcl_p2, c_6, c_8, c_10, c_12, c_14, s6, s7, s8, s9, c_15, c_17, hk9]; done)) (by first | assumption | (simp [h9_p2, hcl_p2, c_6, c_8, c_10, c_12, c_14, s6, s7, s8, s9, c_15, c_17, hk9]; done)) (by first | assumption | (simp [h9_p2, hcl_p2, c_6, c_8, c_10, c_12, c_14, s6, s7, s8, s9, c_15, c_17, hk9]; done))).symm
                  have hP9 : va_P (dC, dI) vwCl (hp_X cI cZ cO o b ad (hp_v_move v r n p0 p1 (nI i_p2) p3 p4) (hp_r_move v r n p0 p1 (nI i_p2) p3 p4) n) s.heap := by have hb9 : ¬ hp_b_move v r n p0 p1 (nI i_p2) p3 p4 = true := (by simp [hp_b_move, h9_p2, hcl_p2, c_6, c_8, c_10, c_12, c_14, s6, s7, s8, s9, c_15, c_17, hk9, hc]); simp only [hp_v_move, hp_r_move, if_neg hb9]; exact hP
                  refine W.widen (k := 1) (n := 6) (Nat.le_of_ble_eq_true rfl) (Nat.le_of_ble_eq_true rfl) ?_
                  exact vx_ret (W.zret (ty := .boolean) (v := 0) hx hb hr rfl (fun t ht hW => ⟨⟨0, ad, rfl, ⟨hc, (by exact hp_bf2 (by simp [hp_b_move, h9_p2, hcl_p2, c_6, c_8, c_10, c_12, c_14, s6, s7, s8, s9, c_15, c_17, hk9, hc]))⟩, hp_ht ht hP9, hD _ _⟩, hS.F ht⟩) hS.2.2 dX1_move_114)
              · skip
                exact hp_thr (mc := 1) (ms := 6) (k := 2) (nL := 7) hx hb hl0 hml htab hlocks hown hk_3 hi_3 hstr (List.mem_of_getElem? (i := 18) rfl) hat_3 hp_gd3 (by decide +kernel) hZu hZn hP hl dX1_move_93 dX1_move_96 dX1_move_97 dX1_move_99 dX1_move_102 ⟨(Nat.le_of_ble_eq_true rfl), (Nat.le_of_ble_eq_true rfl), (Nat.le_of_ble_eq_true rfl), (Nat.le_of_ble_eq_true rfl)⟩ ⟨(Nat.le_of_ble_eq_true rfl), (Nat.le_of_ble_eq_true rfl)⟩ rfl ((hp_cd3 (by first | assumption | (simp [h9_p2, hcl_p2, c_6, c_8, c_10, c_12, c_14, s6, s7, s8, s9, c_15]; done)) (by first | assumption | (simp [h9_p2, hcl_p2, c_6, c_8, c_10, c_12, c_14, s6, s7, s8, s9, c_15]; done)) (by first | assumption | (simp [h9_p2, hcl_p2, c_6, c_8, c_10, c_12, c_14, s6, s7, s8, s9, c_15]; done))).symm)
            · skip
              have c_14 := hp_bz c_14
              have hst9 := c_14
              exact hp_thr (mc := 1) (ms := 6) (k := 1) (nL := 7) hx hb hl0 hml htab hlocks hown hk_2 hi_2 hstr (List.mem_of_getElem? (i := 17) rfl) hat_2 hp_gd2 (by decide +kernel) hZu hZn hP hl dX1_move_75 dX1_move_78 dX1_move_79 dX1_move_81 dX1_move_84 ⟨(Nat.le_of_ble_eq_true rfl), (Nat.le_of_ble_eq_true rfl), (Nat.le_of_ble_eq_true rfl), (Nat.le_of_ble_eq_true rfl)⟩ ⟨(Nat.le_of_ble_eq_true rfl), (Nat.le_of_ble_eq_true rfl)⟩ rfl (by rw [hp_c_move, hcl_p2]; exact (hp_cd2 (by first | assumption | (simp [h9_p2, hcl_p2, c_6, c_8, c_10, c_12]; done)) (by first | exact hp_mvG hst9 | (simp [h9_p2, hcl_p2, c_6, c_8, c_10, c_12]; done))).symm)
      · skip
        have c_8 := hp_bz c_8
        exact hp_thr (mc := 1) (ms := 6) (k := 1) (nL := 7) hx hb hl0 hml htab hlocks hown hk_2 hi_2 hstr (List.mem_of_getElem? (i := 16) rfl) hat_2 hp_gd2 (by decide +kernel) hZu hZn hP hl dX1_move_37 dX1_move_40 dX1_move_41 dX1_move_43 dX1_move_46 ⟨(Nat.le_of_ble_eq_true rfl), (Nat.le_of_ble_eq_true rfl), (Nat.le_of_ble_eq_true rfl), (Nat.le_of_ble_eq_true rfl)⟩ ⟨(Nat.le_of_ble_eq_true rfl), (Nat.le_of_ble_eq_true rfl)⟩ rfl ((hp_cd2 (by first | assumption | (simp [h9_p2, hcl_p2, c_6, c_8]; done)) (by first | assumption | (simp [h9_p2, hcl_p2, c_6, c_8]; done))).symm)
set_option maxHeartbeats 400000 in
set_option maxRecDepth 100000 in
theorem c_X1_order (l : Launch) (hl0 : l.stackTraces = false) (dC : Nat → ClassId) (dI : Nat → Nat → Nat) (cI cZ cO cJ : ClassId) (o : Nat) (b ad : Nat → Nat) (v : Nat → Int32) (r : Nat → Nat → Int32) (n : Nat) (sz : Nat)  (p0 : Int32) (hinv : hp_inv v r n) : vx_Met l yX1_order wsX1_order ({ frames := 6, cells := 1, slots := 6, locals := 82 }) (va_Pc [.ref o, .int p0] (hp_prT (dC, dI) cI cZ cO cJ (hp_X cI cZ cO o b ad v r n) sz)) (va_Qi (S := Nat → Nat) (fun x9 _ => hp_c_sta r n p0 0 = 0 ∧ x9 = hp_a_order r n p0) (fun u9 t9 => va_P (dC, dI) vwCl (hp_X cI cZ cO o b u9 v (hp_r_order v r n p0) n) t9.heap ∧ va_D (va_A (hp_X cI cZ cO o b ad v r n) sz) (hp_X cI cZ cO o b u9 v (hp_r_order v r n p0) n)) (va_A (hp_X cI cZ cO o b ad v r n) sz)) (vx_X (S := Unit) (fun _ => True) (fun E9 _ t9 => hp_xc [hp_E1, hp_E3] (hp_c_sta r n p0 0) E9 ∧ va_P (dC, dI) vwCl (hp_X cI cZ cO o b ad v r n) t9.heap) (va_A (hp_X cI cZ cO o b ad v r n) sz)) 1 6 (va_A (hp_X cI cZ cO o b ad v r n) sz) := by
  refine vx_ofW (cc := cX1_order) (maxL := 3) (ret := (some .int)) (by decide) rfl ?_
  intro p e s m args below meth c s₁ B hml htab hv
  obtain ⟨rfl, hsz, hP, hK, hD0, hN, hstr, hZu, hZn⟩ := hv
  have hx := B.exec
  have hb := B.bytes
  have hr := B.returns
  have hts := atoms_spec (ws := wsX1_order) B.pre
  have hown : s.vm.findClass RX1 = some m.cls := findClass_of_methodNamed B.named
  have hlocks := B.notSynchronized
  subst hsz
  have hD := hD0.self (sz := s.heap.size)
  generalize hAe : va_A (hp_X cI cZ cO o b ad v r n) s.heap.size = A at hD hZu hZn ⊢
  replace hD : ∀ v r, va_D A (hp_X cI cZ cO o b ad v r n) := fun _ _ => hp_dX hD
  have hA : ∀ q : Nat, s.heap.size ≤ q → A q := fun q h => by rw [← hAe]; exact Or.inr h
  have hS : va_S A s.heap s.heap [] := va_S.rf
  have hk_1 := hts (.classLink RX1 46 hp_E1) (by decide +kernel)
  have hi_1 := hts (.initialized hp_E1) (by decide +kernel)
  have hm_E1 : ∀ w ∈ (vx_atS RX1 50 hp_E1 hp_nm).filter goodWord, w ∈ wsX1_order := by decide +kernel
  have hat_1 : ∀ w ∈ vx_atS RX1 50 hp_E1 hp_nm, w.before _ s = true := vx_hat (fun w h => hts w (hm_E1 w h)) hp_nb1 (hp_nB_of hN)
  have hk_3 := hts (.classLink RX1 64 hp_E3) (by decide +kernel)
  have hi_3 := hts (.initialized hp_E3) (by decide +kernel)
  have hm_E3 : ∀ w ∈ (vx_atS RX1 68 hp_E3 hp_nm).filter goodWord, w ∈ wsX1_order := by decide +kernel
  have hat_3 : ∀ w ∈ vx_atS RX1 68 hp_E3 hp_nm, w.before _ s = true := vx_hat (fun w h => hts w (hm_E3 w h)) hp_nb3 (hp_nB_of hN)
  have hf_36 := hts (.fieldLink RX1 36 "Wallplan" "today" "I") (by decide +kernel)
  have hf_93 := hts (.fieldLink RX1 93 "Wallplan$Element" "state" "I") (by decide +kernel)
  have hf_122 := hts (.fieldLink RX1 122 "Wallplan$Element" "kind" "I") (by decide +kernel)
  have hf_129 := hts (.fieldLink RX1 129 "Wallplan$Element" "deliveryDay" "I") (by decide +kernel)
  have hinX0 : ∀ w ∈ wsX00, w ∈ wsX1_order := by decide +kernel
  have hinX1 : ∀ w ∈ wsX10, w ∈ wsX1_order := by decide +kernel
  have hl := lv_entry ([.ref o, .int p0]) (n := 3) (Nat.le_of_ble_eq_true rfl)
  rw [lg_entry_eq]
  generalize (lg_sl ([.ref o, .int p0]) ++ List.replicate (3 - (lg_sl ([.ref o, .int p0])).length) Slot.unset).toArray = ls at hl ⊢
  have hl : lv_has ls 3 [(0, .ref o), (1, .int p0)] := hl
  have hn := hinv.1
  rcases hp_el_or n p0 with h9_p0 | h9_p0
  · skip
    refine lv_aload_n hx hb dX1_order_0 rfl (lv_at hl 0 rfl) ?_
    refine lv_iload_n hx hb dX1_order_1 rfl (lv_at hl 1 rfl) ?_
    refine va_csq (W.runV (As := [.int p0]) (rest := []) ⟨hx, hb, hml, hown, hts⟩ (c_X1_find_no l dC dI cI cZ cO cJ o b ad v r n p0 hn h9_p0) (cwV 1 hts gX1_order_X1_find rfl rfl rfl (by decide +kernel) ⟨(Nat.le_of_ble_eq_true rfl), (Nat.le_of_ble_eq_true rfl)⟩) ⟨hp_fbX, va_recv hK hP (ci := 1) (q0 := 0) rfl hp_X_o, fun U hU hW => ⟨rfl, hp_toX hP hK hN hU hW⟩⟩ rfl rfl hl.1 rfl (lv_room (Nat.le_of_ble_eq_true rfl)) dX1_order_2 ⟨(Nat.zero_le _), (Nat.zero_le _)⟩) (fun r_1 hr_1 => ?_)
    subst hr_1
    refine W.eq (g2 := F0 m 5 ls [.null]) rfl ?_
    refine lv_astore_nN (lv' := [(2, .null), (0, .ref o), (1, .int p0)]) hx hb dX1_order_5 rfl hl (by decide) rfl (fun ls hl => ?_)
    refine lv_aload_nN hx hb dX1_order_6 rfl (lv_at hl 0 rfl) ?_
    refine lv_ifnonnullN hx hb dX1_order_7 ?_
    exact hp_thr (mc := 1) (ms := 6) (k := 0) (nL := 3) hx hb hl0 hml htab hlocks hown hk_1 hi_1 hstr (List.mem_of_getElem? (i := 3) rfl) hat_1 hp_gd1 (by decide +kernel) hZu hZn hP hl dX1_order_10 dX1_order_13 dX1_order_14 dX1_order_16 dX1_order_19 ⟨(Nat.le_of_ble_eq_true rfl), (Nat.le_of_ble_eq_true rfl), (Nat.le_of_ble_eq_true rfl), (Nat.le_of_ble_eq_true rfl)⟩ ⟨(Nat.le_of_ble_eq_true rfl), (Nat.le_of_ble_eq_true rfl)⟩ rfl ((hp_cd1 (by first | assumption | (simp [h9_p0]; done))).symm)
  · skip
    obtain ⟨i_p0, hi_p0, rfl⟩ := hp_el_of hn h9_p0
    have hcl_p0 : (nI i_p0).toNatClampNeg = i_p0 := nI_clamp (by omega)
    refine lv_aload_n hx hb dX1_order_0 rfl (lv_at hl 0 rfl) ?_
    refine lv_iload_n hx hb dX1_order_1 rfl (lv_at hl 1 rfl) ?_
    refine va_csq (W.runV (As := [.int (nI i_p0)]) (rest := []) ⟨hx, hb, hml, hown, hts⟩ (c_X1_find l dC dI cI cZ cO cJ o b ad v r n i_p0 (nI i_p0) rfl hn (by omega)) (cwV 1 hts gX1_order_X1_find rfl rfl rfl (by decide +kernel) ⟨(Nat.le_of_ble_eq_true rfl), (Nat.le_of_ble_eq_true rfl)⟩) ⟨hp_fbX, va_recv hK hP (ci := 1) (q0 := 0) rfl hp_X_o, fun U hU hW => ⟨rfl, hp_toX hP hK hN hU hW⟩⟩ rfl rfl hl.1 rfl (lv_room (Nat.le_of_ble_eq_true rfl)) dX1_order_2 ⟨(Nat.zero_le _), (Nat.zero_le _)⟩) (fun r_2 hr_2 => ?_)
    subst hr_2
    refine W.eq (g2 := F0 m 5 ls [.ref (ad i_p0)]) rfl ?_
    refine lv_astore_n (lv' := [(2, .ref (ad i_p0)), (0, .ref o), (1, .int (nI i_p0))]) hx hb dX1_order_5 rfl hl (by decide) rfl (fun ls hl => ?_)
    refine lv_aload_n hx hb dX1_order_6 rfl (lv_at hl 0 rfl) ?_
    refine lv_ifnonnull (tgt := 20) hx hb dX1_order_7 (by decide) ?_
    refine lv_aload_n hx hb dX1_order_20 rfl (lv_at hl 0 rfl) ?_
    refine va_get (D := (dC, dI)) (ci := 0) (v := .int (r 10 i_p0)) (C := RX0) (T := TX0) (N := 10) hx hb hts hinX0 hown hK hP (6 + i_p0) (hp_X_e (by omega)) rfl 6 (by decide) hf_93 (fun _ h9 => h9) rfl dX1_order_21 ?_
    refine lv_if_eq (tgt := 37) hx hb dX1_order_24 (by decide) (fun c_3 => ?_) (fun c_3 => ?_)
    · skip
      refine lv_aload_n hx hb dX1_order_37 rfl (lv_at hl 0 rfl) ?_
      refine lv_iconst (v := 1) hx hb dX1_order_38 (by decide) ?_
      refine va_put (D := (dC, dI)) (ci := 0) (v := .int 1) (ty := .int) (C := RX0) (T := TX0) (N := 10) hx hb hts hinX0 tyX0 tyX0_ok nmX0 hown hK hP (hD _ _) hS (6 + i_p0) (hp_X_e (by omega)) rfl 6 (by decide) hf_93 (fun _ h9 => h9) rfl (by decide +kernel) rfl rfl (Nat.le_of_ble_eq_true rfl) dX1_order_39 (fun H_4 locs_4 hP1 _ hS1 => ?_)
      replace hP : va_P (dC, dI) vwCl (hp_X cI cZ cO o b ad v (hp_set r 10 i_p0 1) n) H_4 := hp_cP (hp_X_f6 (by omega)) hP1
      replace hS := hS1
      clear hP1 hS1
      refine lv_aload_n hx hb dX1_order_42 rfl (lv_at hl 0 rfl) ?_
      refine lv_aload_n hx hb dX1_order_43 rfl (lv_at hl 1 rfl) ?_
      refine va_get (D := (dC, dI)) (ci := 1) (v := .int (v 1)) (C := RX1) (T := TX1) (N := 8) hx hb hts hinX1 hown hK hP 0 hp_X_o rfl 7 (by decide) hf_36 (fun _ h9 => h9) rfl dX1_order_44 ?_
      refine lv_aload_n hx hb dX1_order_47 rfl (lv_at hl 1 rfl) ?_
      refine lv_aload_n hx hb dX1_order_48 rfl (lv_at hl 0 rfl) ?_
      refine va_get (D := (dC, dI)) (ci := 0) (v := .int (r 4 i_p0)) (C := RX0) (T := TX0) (N := 10) hx hb hts hinX0 hown hK hP (6 + i_p0) (hp_X_e (by omega)) rfl 0 (by decide) hf_122 (fun _ h9 => h9) rfl dX1_order_49 ?_
      refine vp_callSi (W.runV (As := [.int (r 4 i_p0)]) (rest := [.int (v 1), .ref (ad i_p0)]) ⟨hx, hb, hml, hown, hts⟩ (c_X1_leadDaysOf l dC dI cI cZ cO cJ o b ad v (hp_set r 10 i_p0 1) n (r 4 i_p0) (hp_kdr (r := r) (hinv.2.1 _ hi_p0))) (cwV 1 hts gX1_order_X1_leadDaysOf rfl rfl rfl (by decide +kernel) ⟨(Nat.le_of_ble_eq_true rfl), (Nat.le_of_ble_eq_true rfl)⟩) ⟨hp_fbX, va_recv hK hP (ci := 1) (q0 := 0) rfl hp_X_o, fun U hU hW => ⟨rfl, hp_toX hP hK hN hU hW⟩⟩ rfl rfl hl.1 rfl (lv_room (Nat.le_of_ble_eq_true rfl)) dX1_order_52 ⟨(Nat.zero_le _), (Nat.zero_le _)⟩) (fun r_5 hr_5 => ?_)
      subst hr_5
      refine lv_iadd hx hb dX1_order_55 ?_
      refine va_put (D := (dC, dI)) (ci := 0) (v := .int ((v 1) + ((hp_set r 10 i_p0 1) 16 (r 4 i_p0).toNatClampNeg))) (ty := .int) (C := RX0) (T := TX0) (N := 10) hx hb hts hinX0 tyX0 tyX0_ok nmX0 hown hK hP (hD _ _) hS (6 + i_p0) (hp_X_e (by omega)) rfl 9 (by decide) hf_129 (fun _ h9 => h9) rfl (by decide +kernel) rfl rfl (Nat.le_of_ble_eq_true rfl) dX1_order_56 (fun H_6 locs_6 hP1 _ hS1 => ?_)
      replace hP : va_P (dC, dI) vwCl (hp_X cI cZ cO o b ad v (hp_set (hp_set r 10 i_p0 1) 13 i_p0 ((v 1) + ((hp_set r 10 i_p0 1) 16 (r 4 i_p0).toNatClampNeg))) n) H_6 := hp_cP (hp_X_f9 (by omega)) hP1
      replace hS := hS1
      clear hP1 hS1
      refine lv_aload_n hx hb dX1_order_59 rfl (lv_at hl 0 rfl) ?_
      refine lv_aload_n hx hb dX1_order_60 rfl (lv_at hl 1 rfl) ?_
      refine va_get (D := (dC, dI)) (ci := 1) (v := .int (v 1)) (C := RX1) (T := TX1) (N := 8) hx hb hts hinX1 hown hK hP 0 hp_X_o rfl 7 (by decide) hf_36 (fun _ h9 => h9) rfl dX1_order_61 ?_
      have hFc := hp_free (hD v (hp_set (hp_set r 10 i_p0 1) 13 i_p0 ((v 1) + ((hp_set r 10 i_p0 1) 16 (r 4 i_p0).toNatClampNeg)))) hS hA
      refine va_callv (va_runV (As := [.int (v 1)]) (rest := []) ⟨hx, hb, hml, hown, hts⟩ (c_X0_deliverIfDue l dC dI cI cZ cO cJ o b ad v (hp_set (hp_set r 10 i_p0 1) 13 i_p0 ((v 1) + ((hp_set r 10 i_p0 1) 16 (r 4 i_p0).toNatClampNeg))) n H_6.size i_p0 (by omega) (v 1)) (cwV 1 hts gX1_order_X0_deliverIfDue rfl rfl rfl (by decide +kernel) ⟨(Nat.le_of_ble_eq_true rfl), (Nat.le_of_ble_eq_true rfl)⟩) ⟨hp_mfbX, va_recv hK hP (ci := 0) (q0 := 6 + i_p0) rfl (hp_X_e (by omega)), fun U hU hW => ⟨rfl, hp_mtoX hP hK (hD _ _) hN hU hW⟩⟩ rfl rfl hl.1 rfl (lv_room (Nat.le_of_ble_eq_true rfl)) dX1_order_64 ⟨(Nat.zero_le _), (Nat.zero_le _)⟩) hS (fun q _ h => hFc q h) hFc (fun u_7 t_7 H_7 locs_7 ht _ hr_7 hB _ _ hS1 => ?_)
      replace hP : va_P (dC, dI) vwCl (hp_X cI cZ cO o b ad v (hp_dif (hp_set (hp_set r 10 i_p0 1) 13 i_p0 ((v 1) + ((hp_set r 10 i_p0 1) 16 (r 4 i_p0).toNatClampNeg))) i_p0 (v 1)) n) H_7 := hp_th ht hB
      replace hS := hS1
      clear hS1 hB ht hFc
      have hdu := hp_due_le hinv hi_p0
      have eor : hp_dif (hp_set (hp_set r 10 i_p0 1) 13 i_p0 ((v 1) + ((hp_set r 10 i_p0 1) 16 (r 4 i_p0).toNatClampNeg))) i_p0 (v 1) = hp_set (hp_set r 13 i_p0 (hp_due v r i_p0)) 10 i_p0 (if hp_due v r i_p0 = v 1 then 2 else 1) := hp_ord hdu
      rw [eor] at hP
      refine lv_aload_n hx hb dX1_order_67 rfl (lv_at hl 1 rfl) ?_
      refine lv_aload_n hx hb dX1_order_68 rfl (lv_at hl 0 rfl) ?_
      refine vp_callSi (W.runV (As := [.ref (ad i_p0)]) (rest := []) ⟨hx, hb, hml, hown, hts⟩ (c_X1_partsOf l dC dI cI cZ cO cJ o b ad v (hp_set (hp_set r 13 i_p0 (hp_due v r i_p0)) 10 i_p0 (if hp_due v r i_p0 = v 1 then 2 else 1)) n i_p0 hi_p0 (hp_kdr (r := r) (hinv.2.1 _ hi_p0)) (hp_pc_pos (r := r) hinv hi_p0)) (cwV 1 hts gX1_order_X1_partsOf rfl rfl rfl (by decide +kernel) ⟨(Nat.le_of_ble_eq_true rfl), (Nat.le_of_ble_eq_true rfl)⟩) ⟨hp_fbX, va_recv hK hP (ci := 1) (q0 := 0) rfl hp_X_o, fun U hU hW => ⟨rfl, hp_toX hP hK hN hU hW⟩⟩ rfl rfl hl.1 rfl (lv_room (Nat.le_of_ble_eq_true rfl)) dX1_order_69 ⟨(Nat.zero_le _), (Nat.zero_le _)⟩) (fun r_8 hr_8 => ?_)
      subst hr_8
      have hc : hp_c_sta r n (nI i_p0) 0 = 0 := (hp_cdz (by first | assumption | (simp [h9_p0, hcl_p0, c_3]; done)) (by first | assumption | (simp [h9_p0, hcl_p0, c_3]; done)) (by first | assumption | (simp [h9_p0, hcl_p0, c_3]; done))).symm
      have hP9 : va_P (dC, dI) vwCl (hp_X cI cZ cO o b ad v (hp_r_order v r n (nI i_p0)) n) H_7 := by simp only [hp_r_order, if_pos hc, hcl_p0]; exact hP
      refine W.widen (k := 1) (n := 6) (Nat.le_of_ble_eq_true rfl) (Nat.le_of_ble_eq_true rfl) ?_
      exact vx_ret (W.iret (v := hp_par (hp_set (hp_set r 13 i_p0 (hp_due v r i_p0)) 10 i_p0 (if hp_due v r i_p0 = v 1 then 2 else 1)) i_p0) hx hb hr (fun t ht hW => ⟨⟨hp_par (hp_set (hp_set r 13 i_p0 (hp_due v r i_p0)) 10 i_p0 (if hp_due v r i_p0 = v 1 then 2 else 1)) i_p0, ad, rfl, ⟨hc, (by rw [hp_a_order, if_pos hc, hcl_p0]; rfl)⟩, hp_ht ht hP9, hD _ _⟩, hS.F ht⟩) hS.2.2 dX1_order_72)
    · skip
      exact hp_thr (mc := 1) (ms := 6) (k := 1) (nL := 3) hx hb hl0 hml htab hlocks hown hk_3 hi_3 hstr (List.mem_of_getElem? (i := 18) rfl) hat_3 hp_gd3 (by decide +kernel) hZu hZn hP hl dX1_order_27 dX1_order_30 dX1_order_31 dX1_order_33 dX1_order_36 ⟨(Nat.le_of_ble_eq_true rfl), (Nat.le_of_ble_eq_true rfl), (Nat.le_of_ble_eq_true rfl), (Nat.le_of_ble_eq_true rfl)⟩ ⟨(Nat.le_of_ble_eq_true rfl), (Nat.le_of_ble_eq_true rfl)⟩ rfl ((hp_cd2 (by first | assumption | (simp [h9_p0, hcl_p0, c_3]; done)) (by first | assumption | (simp [h9_p0, hcl_p0, c_3]; done))).symm)
set_option maxHeartbeats 400000 in
set_option maxRecDepth 100000 in
theorem c_X1_cancel (l : Launch) (hl0 : l.stackTraces = false) (dC : Nat → ClassId) (dI : Nat → Nat → Nat) (cI cZ cO cJ : ClassId) (o : Nat) (b ad : Nat → Nat) (v : Nat → Int32) (r : Nat → Nat → Int32) (n : Nat) (sz : Nat)  (p0 : Int32) (hinv : hp_inv v r n) : vx_Met l yX1_cancel wsX1_cancel ({ frames := 6, cells := 1, slots := 6, locals := 82 }) (va_Pc [.ref o, .int p0] (hp_prT (dC, dI) cI cZ cO cJ (hp_X cI cZ cO o b ad v r n) sz)) (va_Qi (S := Nat → Nat) (fun x9 _ => hp_c_sta r n p0 1 = 0 ∧ x9 = hp_a_cancel v r n p0) (fun u9 t9 => va_P (dC, dI) vwCl (hp_X cI cZ cO o b u9 v (hp_r_cancel r n p0) n) t9.heap ∧ va_D (va_A (hp_X cI cZ cO o b ad v r n) sz) (hp_X cI cZ cO o b u9 v (hp_r_cancel r n p0) n)) (va_A (hp_X cI cZ cO o b ad v r n) sz)) (vx_X (S := Unit) (fun _ => True) (fun E9 _ t9 => hp_xc [hp_E1, hp_E3] (hp_c_sta r n p0 1) E9 ∧ va_P (dC, dI) vwCl (hp_X cI cZ cO o b ad v r n) t9.heap) (va_A (hp_X cI cZ cO o b ad v r n) sz)) 1 6 (va_A (hp_X cI cZ cO o b ad v r n) sz) := by
  refine vx_ofW (cc := cX1_cancel) (maxL := 3) (ret := (some .int)) (by decide) rfl ?_
  intro p e s m args below meth c s₁ B hml htab hv
  obtain ⟨rfl, hsz, hP, hK, hD0, hN, hstr, hZu, hZn⟩ := hv
  have hx := B.exec
  have hb := B.bytes
  have hr := B.returns
  have hts := atoms_spec (ws := wsX1_cancel) B.pre
  have hown : s.vm.findClass RX1 = some m.cls := findClass_of_methodNamed B.named
  have hlocks := B.notSynchronized
  subst hsz
  have hD := hD0.self (sz := s.heap.size)
  generalize hAe : va_A (hp_X cI cZ cO o b ad v r n) s.heap.size = A at hD hZu hZn ⊢
  replace hD : ∀ v r, va_D A (hp_X cI cZ cO o b ad v r n) := fun _ _ => hp_dX hD
  have hA : ∀ q : Nat, s.heap.size ≤ q → A q := fun q h => by rw [← hAe]; exact Or.inr h
  have hS : va_S A s.heap s.heap [] := va_S.rf
  have hk_1 := hts (.classLink RX1 46 hp_E1) (by decide +kernel)
  have hi_1 := hts (.initialized hp_E1) (by decide +kernel)
  have hm_E1 : ∀ w ∈ (vx_atS RX1 50 hp_E1 hp_nm).filter goodWord, w ∈ wsX1_cancel := by decide +kernel
  have hat_1 : ∀ w ∈ vx_atS RX1 50 hp_E1 hp_nm, w.before _ s = true := vx_hat (fun w h => hts w (hm_E1 w h)) hp_nb1 (hp_nB_of hN)
  have hk_3 := hts (.classLink RX1 64 hp_E3) (by decide +kernel)
  have hi_3 := hts (.initialized hp_E3) (by decide +kernel)
  have hm_E3 : ∀ w ∈ (vx_atS RX1 68 hp_E3 hp_nm).filter goodWord, w ∈ wsX1_cancel := by decide +kernel
  have hat_3 : ∀ w ∈ vx_atS RX1 68 hp_E3 hp_nm, w.before _ s = true := vx_hat (fun w h => hts w (hm_E3 w h)) hp_nb3 (hp_nB_of hN)
  have hf_36 := hts (.fieldLink RX1 36 "Wallplan" "today" "I") (by decide +kernel)
  have hf_93 := hts (.fieldLink RX1 93 "Wallplan$Element" "state" "I") (by decide +kernel)
  have hf_129 := hts (.fieldLink RX1 129 "Wallplan$Element" "deliveryDay" "I") (by decide +kernel)
  have hinX0 : ∀ w ∈ wsX00, w ∈ wsX1_cancel := by decide +kernel
  have hinX1 : ∀ w ∈ wsX10, w ∈ wsX1_cancel := by decide +kernel
  have hl := lv_entry ([.ref o, .int p0]) (n := 3) (Nat.le_of_ble_eq_true rfl)
  rw [lg_entry_eq]
  generalize (lg_sl ([.ref o, .int p0]) ++ List.replicate (3 - (lg_sl ([.ref o, .int p0])).length) Slot.unset).toArray = ls at hl ⊢
  have hl : lv_has ls 3 [(0, .ref o), (1, .int p0)] := hl
  have hn := hinv.1
  rcases hp_el_or n p0 with h9_p0 | h9_p0
  · skip
    refine lv_aload_n hx hb dX1_cancel_0 rfl (lv_at hl 0 rfl) ?_
    refine lv_iload_n hx hb dX1_cancel_1 rfl (lv_at hl 1 rfl) ?_
    refine va_csq (W.runV (As := [.int p0]) (rest := []) ⟨hx, hb, hml, hown, hts⟩ (c_X1_find_no l dC dI cI cZ cO cJ o b ad v r n p0 hn h9_p0) (cwV 1 hts gX1_cancel_X1_find rfl rfl rfl (by decide +kernel) ⟨(Nat.le_of_ble_eq_true rfl), (Nat.le_of_ble_eq_true rfl)⟩) ⟨hp_fbX, va_recv hK hP (ci := 1) (q0 := 0) rfl hp_X_o, fun U hU hW => ⟨rfl, hp_toX hP hK hN hU hW⟩⟩ rfl rfl hl.1 rfl (lv_room (Nat.le_of_ble_eq_true rfl)) dX1_cancel_2 ⟨(Nat.zero_le _), (Nat.zero_le _)⟩) (fun r_1 hr_1 => ?_)
    subst hr_1
    refine W.eq (g2 := F0 m 5 ls [.null]) rfl ?_
    refine lv_astore_nN (lv' := [(2, .null), (0, .ref o), (1, .int p0)]) hx hb dX1_cancel_5 rfl hl (by decide) rfl (fun ls hl => ?_)
    refine lv_aload_nN hx hb dX1_cancel_6 rfl (lv_at hl 0 rfl) ?_
    refine lv_ifnonnullN hx hb dX1_cancel_7 ?_
    exact hp_thr (mc := 1) (ms := 6) (k := 0) (nL := 3) hx hb hl0 hml htab hlocks hown hk_1 hi_1 hstr (List.mem_of_getElem? (i := 3) rfl) hat_1 hp_gd1 (by decide +kernel) hZu hZn hP hl dX1_cancel_10 dX1_cancel_13 dX1_cancel_14 dX1_cancel_16 dX1_cancel_19 ⟨(Nat.le_of_ble_eq_true rfl), (Nat.le_of_ble_eq_true rfl), (Nat.le_of_ble_eq_true rfl), (Nat.le_of_ble_eq_true rfl)⟩ ⟨(Nat.le_of_ble_eq_true rfl), (Nat.le_of_ble_eq_true rfl)⟩ rfl ((hp_cd1 (by first | assumption | (simp [h9_p0]; done))).symm)
  · skip
    obtain ⟨i_p0, hi_p0, rfl⟩ := hp_el_of hn h9_p0
    have hcl_p0 : (nI i_p0).toNatClampNeg = i_p0 := nI_clamp (by omega)
    refine lv_aload_n hx hb dX1_cancel_0 rfl (lv_at hl 0 rfl) ?_
    refine lv_iload_n hx hb dX1_cancel_1 rfl (lv_at hl 1 rfl) ?_
    refine va_csq (W.runV (As := [.int (nI i_p0)]) (rest := []) ⟨hx, hb, hml, hown, hts⟩ (c_X1_find l dC dI cI cZ cO cJ o b ad v r n i_p0 (nI i_p0) rfl hn (by omega)) (cwV 1 hts gX1_cancel_X1_find rfl rfl rfl (by decide +kernel) ⟨(Nat.le_of_ble_eq_true rfl), (Nat.le_of_ble_eq_true rfl)⟩) ⟨hp_fbX, va_recv hK hP (ci := 1) (q0 := 0) rfl hp_X_o, fun U hU hW => ⟨rfl, hp_toX hP hK hN hU hW⟩⟩ rfl rfl hl.1 rfl (lv_room (Nat.le_of_ble_eq_true rfl)) dX1_cancel_2 ⟨(Nat.zero_le _), (Nat.zero_le _)⟩) (fun r_2 hr_2 => ?_)
    subst hr_2
    refine W.eq (g2 := F0 m 5 ls [.ref (ad i_p0)]) rfl ?_
    refine lv_astore_n (lv' := [(2, .ref (ad i_p0)), (0, .ref o), (1, .int (nI i_p0))]) hx hb dX1_cancel_5 rfl hl (by decide) rfl (fun ls hl => ?_)
    refine lv_aload_n hx hb dX1_cancel_6 rfl (lv_at hl 0 rfl) ?_
    refine lv_ifnonnull (tgt := 20) hx hb dX1_cancel_7 (by decide) ?_
    refine lv_aload_n hx hb dX1_cancel_20 rfl (lv_at hl 0 rfl) ?_
    refine va_get (D := (dC, dI)) (ci := 0) (v := .int (r 10 i_p0)) (C := RX0) (T := TX0) (N := 10) hx hb hts hinX0 hown hK hP (6 + i_p0) (hp_X_e (by omega)) rfl 6 (by decide) hf_93 (fun _ h9 => h9) rfl dX1_cancel_21 ?_
    refine lv_iconst (v := 1) hx hb dX1_cancel_24 (by decide) ?_
    refine lv_icmp_eq (tgt := 38) hx hb dX1_cancel_25 (by decide) (fun c_3 => ?_) (fun c_3 => ?_)
    · skip
      refine lv_aload_n hx hb dX1_cancel_38 rfl (lv_at hl 0 rfl) ?_
      refine lv_iconst (v := 0) hx hb dX1_cancel_39 (by decide) ?_
      refine va_put (D := (dC, dI)) (ci := 0) (v := .int 0) (ty := .int) (C := RX0) (T := TX0) (N := 10) hx hb hts hinX0 tyX0 tyX0_ok nmX0 hown hK hP (hD _ _) hS (6 + i_p0) (hp_X_e (by omega)) rfl 6 (by decide) hf_93 (fun _ h9 => h9) rfl (by decide +kernel) rfl rfl (Nat.le_of_ble_eq_true rfl) dX1_cancel_40 (fun H_4 locs_4 hP1 _ hS1 => ?_)
      replace hP : va_P (dC, dI) vwCl (hp_X cI cZ cO o b ad v (hp_set r 10 i_p0 0) n) H_4 := hp_cP (hp_X_f6 (by omega)) hP1
      replace hS := hS1
      clear hP1 hS1
      refine lv_aload_n hx hb dX1_cancel_43 rfl (lv_at hl 0 rfl) ?_
      refine va_get (D := (dC, dI)) (ci := 0) (v := .int (r 13 i_p0)) (C := RX0) (T := TX0) (N := 10) hx hb hts hinX0 hown hK hP (6 + i_p0) (hp_X_e (by omega)) rfl 9 (by decide) hf_129 (fun _ h9 => h9) rfl dX1_cancel_44 ?_
      refine lv_aload_n hx hb dX1_cancel_47 rfl (lv_at hl 1 rfl) ?_
      refine va_get (D := (dC, dI)) (ci := 1) (v := .int (v 1)) (C := RX1) (T := TX1) (N := 8) hx hb hts hinX1 hown hK hP 0 hp_X_o rfl 7 (by decide) hf_36 (fun _ h9 => h9) rfl dX1_cancel_48 ?_
      refine lv_isub hx hb dX1_cancel_51 ?_
      have hc : hp_c_sta r n (nI i_p0) 1 = 0 := (hp_cdz (by first | assumption | (simp [h9_p0, hcl_p0, c_3]; done)) (by first | assumption | (simp [h9_p0, hcl_p0, c_3]; done)) (by first | assumption | (simp [h9_p0, hcl_p0, c_3]; done))).symm
      have hP9 : va_P (dC, dI) vwCl (hp_X cI cZ cO o b ad v (hp_r_cancel r n (nI i_p0)) n) H_4 := by simp only [hp_r_cancel, if_pos hc, hcl_p0]; exact hP
      refine W.widen (k := 1) (n := 6) (Nat.le_of_ble_eq_true rfl) (Nat.le_of_ble_eq_true rfl) ?_
      exact vx_ret (W.iret (v := (r 13 i_p0) - (v 1)) hx hb hr (fun t ht hW => ⟨⟨(r 13 i_p0) - (v 1), ad, rfl, ⟨hc, (by rw [hp_a_cancel, if_pos hc, hcl_p0])⟩, hp_ht ht hP9, hD _ _⟩, hS.F ht⟩) hS.2.2 dX1_cancel_52)
    · skip
      exact hp_thr (mc := 1) (ms := 6) (k := 1) (nL := 3) hx hb hl0 hml htab hlocks hown hk_3 hi_3 hstr (List.mem_of_getElem? (i := 4) rfl) hat_3 hp_gd3 (by decide +kernel) hZu hZn hP hl dX1_cancel_28 dX1_cancel_31 dX1_cancel_32 dX1_cancel_34 dX1_cancel_37 ⟨(Nat.le_of_ble_eq_true rfl), (Nat.le_of_ble_eq_true rfl), (Nat.le_of_ble_eq_true rfl), (Nat.le_of_ble_eq_true rfl)⟩ ⟨(Nat.le_of_ble_eq_true rfl), (Nat.le_of_ble_eq_true rfl)⟩ rfl ((hp_cd2 (by first | assumption | (simp [h9_p0, hcl_p0, c_3]; done)) (by first | assumption | (simp [h9_p0, hcl_p0, c_3]; done))).symm)
set_option maxHeartbeats 400000 in
set_option maxRecDepth 100000 in
theorem c_X1_build (l : Launch) (hl0 : l.stackTraces = false) (dC : Nat → ClassId) (dI : Nat → Nat → Nat) (cI cZ cO cJ : ClassId) (o : Nat) (b ad : Nat → Nat) (v : Nat → Int32) (r : Nat → Nat → Int32) (n : Nat) (sz : Nat)  (p0 : Int32) (hinv : hp_inv v r n) : vx_Met l yX1_build wsX1_build ({ frames := 6, cells := 1, slots := 6, locals := 115 }) (va_Pc [.ref o, .int p0] (hp_prT (dC, dI) cI cZ cO cJ (hp_X cI cZ cO o b ad v r n) sz)) (va_Qi (S := Nat → Nat) (fun x9 _ => hp_c_sta r n p0 2 = 0 ∧ x9 = hp_b (hp_b_build r n p0)) (fun u9 t9 => va_P (dC, dI) vwCl (hp_X cI cZ cO o b u9 v (hp_r_build r n p0) n) t9.heap ∧ va_D (va_A (hp_X cI cZ cO o b ad v r n) sz) (hp_X cI cZ cO o b u9 v (hp_r_build r n p0) n)) (va_A (hp_X cI cZ cO o b ad v r n) sz)) (vx_X (S := Unit) (fun _ => True) (fun E9 _ t9 => hp_xc [hp_E1, hp_E3] (hp_c_sta r n p0 2) E9 ∧ va_P (dC, dI) vwCl (hp_X cI cZ cO o b ad v r n) t9.heap) (va_A (hp_X cI cZ cO o b ad v r n) sz)) 1 6 (va_A (hp_X cI cZ cO o b ad v r n) sz) := by
  refine vx_ofW (cc := cX1_build) (maxL := 3) (ret := (some .boolean)) (by decide) rfl ?_
  intro p e s m args below meth c s₁ B hml htab hv
  obtain ⟨rfl, hsz, hP, hK, hD0, hN, hstr, hZu, hZn⟩ := hv
  have hx := B.exec
  have hb := B.bytes
  have hr := B.returns
  have hts := atoms_spec (ws := wsX1_build) B.pre
  have hown : s.vm.findClass RX1 = some m.cls := findClass_of_methodNamed B.named
  have hlocks := B.notSynchronized
  subst hsz
  have hD := hD0.self (sz := s.heap.size)
  generalize hAe : va_A (hp_X cI cZ cO o b ad v r n) s.heap.size = A at hD hZu hZn ⊢
  replace hD : ∀ v r, va_D A (hp_X cI cZ cO o b ad v r n) := fun _ _ => hp_dX hD
  have hA : ∀ q : Nat, s.heap.size ≤ q → A q := fun q h => by rw [← hAe]; exact Or.inr h
  have hS : va_S A s.heap s.heap [] := va_S.rf
  have hk_1 := hts (.classLink RX1 46 hp_E1) (by decide +kernel)
  have hi_1 := hts (.initialized hp_E1) (by decide +kernel)
  have hm_E1 : ∀ w ∈ (vx_atS RX1 50 hp_E1 hp_nm).filter goodWord, w ∈ wsX1_build := by decide +kernel
  have hat_1 : ∀ w ∈ vx_atS RX1 50 hp_E1 hp_nm, w.before _ s = true := vx_hat (fun w h => hts w (hm_E1 w h)) hp_nb1 (hp_nB_of hN)
  have hk_3 := hts (.classLink RX1 64 hp_E3) (by decide +kernel)
  have hi_3 := hts (.initialized hp_E3) (by decide +kernel)
  have hm_E3 : ∀ w ∈ (vx_atS RX1 68 hp_E3 hp_nm).filter goodWord, w ∈ wsX1_build := by decide +kernel
  have hat_3 : ∀ w ∈ vx_atS RX1 68 hp_E3 hp_nm, w.before _ s = true := vx_hat (fun w h => hts w (hm_E3 w h)) hp_nb3 (hp_nB_of hN)
  have hf_93 := hts (.fieldLink RX1 93 "Wallplan$Element" "state" "I") (by decide +kernel)
  have hinX0 : ∀ w ∈ wsX00, w ∈ wsX1_build := by decide +kernel
  have hl := lv_entry ([.ref o, .int p0]) (n := 3) (Nat.le_of_ble_eq_true rfl)
  rw [lg_entry_eq]
  generalize (lg_sl ([.ref o, .int p0]) ++ List.replicate (3 - (lg_sl ([.ref o, .int p0])).length) Slot.unset).toArray = ls at hl ⊢
  have hl : lv_has ls 3 [(0, .ref o), (1, .int p0)] := hl
  have hn := hinv.1
  rcases hp_el_or n p0 with h9_p0 | h9_p0
  · skip
    refine lv_aload_n hx hb dX1_build_0 rfl (lv_at hl 0 rfl) ?_
    refine lv_iload_n hx hb dX1_build_1 rfl (lv_at hl 1 rfl) ?_
    refine va_csq (W.runV (As := [.int p0]) (rest := []) ⟨hx, hb, hml, hown, hts⟩ (c_X1_find_no l dC dI cI cZ cO cJ o b ad v r n p0 hn h9_p0) (cwV 1 hts gX1_build_X1_find rfl rfl rfl (by decide +kernel) ⟨(Nat.le_of_ble_eq_true rfl), (Nat.le_of_ble_eq_true rfl)⟩) ⟨hp_fbX, va_recv hK hP (ci := 1) (q0 := 0) rfl hp_X_o, fun U hU hW => ⟨rfl, hp_toX hP hK hN hU hW⟩⟩ rfl rfl hl.1 rfl (lv_room (Nat.le_of_ble_eq_true rfl)) dX1_build_2 ⟨(Nat.zero_le _), (Nat.zero_le _)⟩) (fun r_1 hr_1 => ?_)
    subst hr_1
    refine W.eq (g2 := F0 m 5 ls [.null]) rfl ?_
    refine lv_astore_nN (lv' := [(2, .null), (0, .ref o), (1, .int p0)]) hx hb dX1_build_5 rfl hl (by decide) rfl (fun ls hl => ?_)
    refine lv_aload_nN hx hb dX1_build_6 rfl (lv_at hl 0 rfl) ?_
    refine lv_ifnonnullN hx hb dX1_build_7 ?_
    exact hp_thr (mc := 1) (ms := 6) (k := 0) (nL := 3) hx hb hl0 hml htab hlocks hown hk_1 hi_1 hstr (List.mem_of_getElem? (i := 3) rfl) hat_1 hp_gd1 (by decide +kernel) hZu hZn hP hl dX1_build_10 dX1_build_13 dX1_build_14 dX1_build_16 dX1_build_19 ⟨(Nat.le_of_ble_eq_true rfl), (Nat.le_of_ble_eq_true rfl), (Nat.le_of_ble_eq_true rfl), (Nat.le_of_ble_eq_true rfl)⟩ ⟨(Nat.le_of_ble_eq_true rfl), (Nat.le_of_ble_eq_true rfl)⟩ rfl ((hp_cd1 (by first | assumption | (simp [h9_p0]; done))).symm)
  · skip
    obtain ⟨i_p0, hi_p0, rfl⟩ := hp_el_of hn h9_p0
    have hcl_p0 : (nI i_p0).toNatClampNeg = i_p0 := nI_clamp (by omega)
    refine lv_aload_n hx hb dX1_build_0 rfl (lv_at hl 0 rfl) ?_
    refine lv_iload_n hx hb dX1_build_1 rfl (lv_at hl 1 rfl) ?_
    refine va_csq (W.runV (As := [.int (nI i_p0)]) (rest := []) ⟨hx, hb, hml, hown, hts⟩ (c_X1_find l dC dI cI cZ cO cJ o b ad v r n i_p0 (nI i_p0) rfl hn (by omega)) (cwV 1 hts gX1_build_X1_find rfl rfl rfl (by decide +kernel) ⟨(Nat.le_of_ble_eq_true rfl), (Nat.le_of_ble_eq_true rfl)⟩) ⟨hp_fbX, va_recv hK hP (ci := 1) (q0 := 0) rfl hp_X_o, fun U hU hW => ⟨rfl, hp_toX hP hK hN hU hW⟩⟩ rfl rfl hl.1 rfl (lv_room (Nat.le_of_ble_eq_true rfl)) dX1_build_2 ⟨(Nat.zero_le _), (Nat.zero_le _)⟩) (fun r_2 hr_2 => ?_)
    subst hr_2
    refine W.eq (g2 := F0 m 5 ls [.ref (ad i_p0)]) rfl ?_
    refine lv_astore_n (lv' := [(2, .ref (ad i_p0)), (0, .ref o), (1, .int (nI i_p0))]) hx hb dX1_build_5 rfl hl (by decide) rfl (fun ls hl => ?_)
    refine lv_aload_n hx hb dX1_build_6 rfl (lv_at hl 0 rfl) ?_
    refine lv_ifnonnull (tgt := 20) hx hb dX1_build_7 (by decide) ?_
    refine lv_aload_n hx hb dX1_build_20 rfl (lv_at hl 0 rfl) ?_
    refine va_get (D := (dC, dI)) (ci := 0) (v := .int (r 10 i_p0)) (C := RX0) (T := TX0) (N := 10) hx hb hts hinX0 hown hK hP (6 + i_p0) (hp_X_e (by omega)) rfl 6 (by decide) hf_93 (fun _ h9 => h9) rfl dX1_build_21 ?_
    refine lv_iconst (v := 2) hx hb dX1_build_24 (by decide) ?_
    refine lv_icmp_eq (tgt := 38) hx hb dX1_build_25 (by decide) (fun c_3 => ?_) (fun c_3 => ?_)
    · skip
      refine lv_aload_n hx hb dX1_build_38 rfl (lv_at hl 1 rfl) ?_
      refine lv_iload_n hx hb dX1_build_39 rfl (lv_at hl 2 rfl) ?_
      refine vp_callSi (W.runV (As := [.int (nI i_p0)]) (rest := []) ⟨hx, hb, hml, hown, hts⟩ (c_X1_clashesWithAny l dC dI cI cZ cO cJ o b ad v r n i_p0 (nI i_p0) rfl (by omega) hinv) (cwV 1 hts gX1_build_X1_clashesWithAny rfl rfl rfl (by decide +kernel) ⟨(Nat.le_of_ble_eq_true rfl), (Nat.le_of_ble_eq_true rfl)⟩) ⟨hp_fbX, va_recv hK hP (ci := 1) (q0 := 0) rfl hp_X_o, fun U hU hW => ⟨rfl, hp_toX hP hK hN hU hW⟩⟩ rfl rfl hl.1 rfl (lv_room (Nat.le_of_ble_eq_true rfl)) dX1_build_40 ⟨(Nat.zero_le _), (Nat.zero_le _)⟩) (fun r_4 hr_4 => ?_)
      subst hr_4
      refine lv_if_eq (tgt := 48) hx hb dX1_build_43 (by decide) (fun c_5 => ?_) (fun c_5 => ?_)
      · skip
        have c_5 := hp_bz c_5
        refine lv_aload_n hx hb dX1_build_48 rfl (lv_at hl 0 rfl) ?_
        refine lv_iconst (v := 3) hx hb dX1_build_49 (by decide) ?_
        refine va_put (D := (dC, dI)) (ci := 0) (v := .int 3) (ty := .int) (C := RX0) (T := TX0) (N := 10) hx hb hts hinX0 tyX0 tyX0_ok nmX0 hown hK hP (hD _ _) hS (6 + i_p0) (hp_X_e (by omega)) rfl 6 (by decide) hf_93 (fun _ h9 => h9) rfl (by decide +kernel) rfl rfl (Nat.le_of_ble_eq_true rfl) dX1_build_50 (fun H_6 locs_6 hP1 _ hS1 => ?_)
        replace hP : va_P (dC, dI) vwCl (hp_X cI cZ cO o b ad v (hp_set r 10 i_p0 3) n) H_6 := hp_cP (hp_X_f6 (by omega)) hP1
        replace hS := hS1
        clear hP1 hS1
        refine lv_iconst (v := 1) hx hb dX1_build_53 (by decide) ?_
        have hc : hp_c_sta r n (nI i_p0) 2 = 0 := (hp_cdz (by first | assumption | (simp [h9_p0, hcl_p0, c_3, c_5]; done)) (by first | assumption | (simp [h9_p0, hcl_p0, c_3, c_5]; done)) (by first | assumption | (simp [h9_p0, hcl_p0, c_3, c_5]; done))).symm
        have hP9 : va_P (dC, dI) vwCl (hp_X cI cZ cO o b ad v (hp_r_build r n (nI i_p0)) n) H_6 := by have hb9 : hp_b_build r n (nI i_p0) = true := (by simp [hp_b_build, h9_p0, hcl_p0, c_3, c_5, hc]); simp only [hp_r_build, if_pos hb9, hcl_p0]; exact hP
        refine W.widen (k := 1) (n := 6) (Nat.le_of_ble_eq_true rfl) (Nat.le_of_ble_eq_true rfl) ?_
        exact vx_ret (W.zret (ty := .boolean) (v := 1) hx hb hr rfl (fun t ht hW => ⟨⟨1, ad, rfl, ⟨hc, (by exact hp_bt2 (by simp [hp_b_build, h9_p0, hcl_p0, c_3, c_5, hc]))⟩, hp_ht ht hP9, hD _ _⟩, hS.F ht⟩) hS.2.2 dX1_build_54)
      · skip
        have c_5 := hp_bn c_5
        refine lv_iconst (v := 0) hx hb dX1_build_46 (by decide) ?_
        have hc : hp_c_sta r n (nI i_p0) 2 = 0 := (hp_cdz (by first | assumption | (simp [h9_p0, hcl_p0, c_3, c_5]; done)) (by first | assumption | (simp [h9_p0, hcl_p0, c_3, c_5]; done)) (by first | assumption | (simp [h9_p0, hcl_p0, c_3, c_5]; done))).symm
        have hP9 : va_P (dC, dI) vwCl (hp_X cI cZ cO o b ad v (hp_r_build r n (nI i_p0)) n) s.heap := by have hb9 : ¬ hp_b_build r n (nI i_p0) = true := (by simp [hp_b_build, h9_p0, hcl_p0, c_3, c_5, hc]); simp only [hp_r_build, if_neg hb9]; exact hP
        refine W.widen (k := 1) (n := 6) (Nat.le_of_ble_eq_true rfl) (Nat.le_of_ble_eq_true rfl) ?_
        exact vx_ret (W.zret (ty := .boolean) (v := 0) hx hb hr rfl (fun t ht hW => ⟨⟨0, ad, rfl, ⟨hc, (by exact hp_bf2 (by simp [hp_b_build, h9_p0, hcl_p0, c_3, c_5, hc]))⟩, hp_ht ht hP9, hD _ _⟩, hS.F ht⟩) hS.2.2 dX1_build_47)
    · skip
      exact hp_thr (mc := 1) (ms := 6) (k := 1) (nL := 3) hx hb hl0 hml htab hlocks hown hk_3 hi_3 hstr (List.mem_of_getElem? (i := 5) rfl) hat_3 hp_gd3 (by decide +kernel) hZu hZn hP hl dX1_build_28 dX1_build_31 dX1_build_32 dX1_build_34 dX1_build_37 ⟨(Nat.le_of_ble_eq_true rfl), (Nat.le_of_ble_eq_true rfl), (Nat.le_of_ble_eq_true rfl), (Nat.le_of_ble_eq_true rfl)⟩ ⟨(Nat.le_of_ble_eq_true rfl), (Nat.le_of_ble_eq_true rfl)⟩ rfl ((hp_cd2 (by first | assumption | (simp [h9_p0, hcl_p0, c_3]; done)) (by first | assumption | (simp [h9_p0, hcl_p0, c_3]; done))).symm)
