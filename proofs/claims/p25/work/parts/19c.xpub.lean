/-! the class: its public methods -/
set_option maxHeartbeats 400000 in
set_option maxRecDepth 100000 in
theorem c_X1_inspect (l : Launch) (hl0 : l.stackTraces = false) (dC : Nat → ClassId) (dI : Nat → Nat → Nat) (cI cZ cO cJ : ClassId) (o : Nat) (b ad : Nat → Nat) (v : Nat → Int32) (r : Nat → Nat → Int32) (n : Nat) (sz : Nat)  (p0 : Int32) (hinv : hp_inv v r n) : vx_Met l yX1_inspect wsX1_inspect ({ frames := 6, cells := 1, slots := 6, locals := 139 }) (va_Pc [.ref o, .int p0] (hp_prT (dC, dI) cI cZ cO cJ (hp_X cI cZ cO o b ad v r n) sz)) (va_Qi (S := Nat → Nat) (fun x9 _ => hp_c_inspect r p0 = 0 ∧ x9 = hp_b (hp_b_inspect r n p0)) (fun u9 t9 => va_P (dC, dI) vwCl (hp_X cI cZ cO o b u9 v (hp_r_inspect r n p0) n) t9.heap ∧ va_D (va_A (hp_X cI cZ cO o b ad v r n) sz) (hp_X cI cZ cO o b u9 v (hp_r_inspect r n p0) n)) (va_A (hp_X cI cZ cO o b ad v r n) sz)) (vx_X (S := Unit) (fun _ => True) (fun E9 _ t9 => hp_xc [hp_E1, hp_E3] (hp_c_inspect r p0) E9 ∧ va_P (dC, dI) vwCl (hp_X cI cZ cO o b ad v r n) t9.heap) (va_A (hp_X cI cZ cO o b ad v r n) sz)) 1 6 (va_A (hp_X cI cZ cO o b ad v r n) sz) := by
  refine vx_ofW (cc := cX1_inspect) (maxL := 2) (ret := (some .boolean)) (by decide) rfl ?_
  intro p e s m args below meth c s₁ B hml htab hv
  obtain ⟨rfl, hsz, hP, hK, hD0, hN, hstr, hZu, hZn⟩ := hv
  have hx := B.exec
  have hb := B.bytes
  have hr := B.returns
  have hts := atoms_spec (ws := wsX1_inspect) B.pre
  have hown : s.vm.findClass RX1 = some m.cls := findClass_of_methodNamed B.named
  have hlocks := B.notSynchronized
  subst hsz
  have hD := hD0.self (sz := s.heap.size)
  generalize hAe : va_A (hp_X cI cZ cO o b ad v r n) s.heap.size = A at hD hZu hZn ⊢
  replace hD : ∀ v r, va_D A (hp_X cI cZ cO o b ad v r n) := fun _ _ => hp_dX hD
  have hA : ∀ q : Nat, s.heap.size ≤ q → A q := fun q h => by rw [← hAe]; exact Or.inr h
  have hS : va_S A s.heap s.heap [] := va_S.rf
  have hk_1 := hts (.classLink RX1 46 hp_E1) (by decide +kernel)
  have hi_1 := hts (.initialized hp_E1) (by decide +kernel)
  have hm_E1 : ∀ w ∈ (vx_atS RX1 50 hp_E1 hp_nm).filter goodWord, w ∈ wsX1_inspect := by decide +kernel
  have hat_1 : ∀ w ∈ vx_atS RX1 50 hp_E1 hp_nm, w.before _ s = true := vx_hat (fun w h => hts w (hm_E1 w h)) hp_nb1 (hp_nB_of hN)
  have hk_3 := hts (.classLink RX1 64 hp_E3) (by decide +kernel)
  have hi_3 := hts (.initialized hp_E3) (by decide +kernel)
  have hm_E3 : ∀ w ∈ (vx_atS RX1 68 hp_E3 hp_nm).filter goodWord, w ∈ wsX1_inspect := by decide +kernel
  have hat_3 : ∀ w ∈ vx_atS RX1 68 hp_E3 hp_nm, w.before _ s = true := vx_hat (fun w h => hts w (hm_E3 w h)) hp_nb3 (hp_nB_of hN)
  have hf_29 := hts (.fieldLink RX1 29 "Wallplan" "locked" "[Z") (by decide +kernel)
  have hinX1 : ∀ w ∈ wsX10, w ∈ wsX1_inspect := by decide +kernel
  have hl := lv_entry ([.ref o, .int p0]) (n := 2) (Nat.le_of_ble_eq_true rfl)
  rw [lg_entry_eq]
  generalize (lg_sl ([.ref o, .int p0]) ++ List.replicate (2 - (lg_sl ([.ref o, .int p0])).length) Slot.unset).toArray = ls at hl ⊢
  have hl : lv_has ls 2 [(0, .ref o), (1, .int p0)] := hl
  have hn := hinv.1
  refine lv_iload_n hx hb dX1_inspect_0 rfl (lv_at hl 1 rfl) ?_
  refine vp_callSi (W.runS (As := [.int p0]) (rest := []) ⟨hx, hb, hml, hown, hts⟩ (c_X1_isStorey l p0) (va_cwS 1 hts gX1_inspect_X1_isStorey rfl rfl rfl (by decide +kernel) ⟨(Nat.le_of_ble_eq_true rfl), (Nat.le_of_ble_eq_true rfl)⟩) ⟨hp_nfb, fun _ _ _ => ⟨rfl, trivial⟩⟩ rfl rfl hl.1 rfl (lv_room (Nat.le_of_ble_eq_true rfl)) dX1_inspect_1 ⟨(Nat.zero_le _), (Nat.zero_le _)⟩) (fun r_1 hr_1 => ?_)
  subst hr_1
  refine lv_if_ne (tgt := 17) hx hb dX1_inspect_4 (by decide) (fun c_2 => ?_) (fun c_2 => ?_)
  · skip
    have c_2 := hp_bn c_2
    have xf := hp_st_ix c_2
    refine lv_aload_n hx hb dX1_inspect_17 rfl (lv_at hl 0 rfl) ?_
    refine va_get (D := (dC, dI)) (ci := 1) (v := .ref (b 5)) (C := RX1) (T := TX1) (N := 8) hx hb hts hinX1 hown hK hP 0 hp_X_o rfl 5 (by decide) hf_29 (fun _ h9 => h9) rfl dX1_inspect_18 ?_
    refine lv_iload_n hx hb dX1_inspect_21 rfl (lv_at hl 1 rfl) ?_
    refine hp_zaldx (v := r 17 p0.toNatClampNeg) hx hb hK hP 5 1 hp_X_17 rfl (i := p0) (hp_vin xf (by decide) (by decide)) rfl dX1_inspect_22 ?_
    refine lv_if_eq (tgt := 36) hx hb dX1_inspect_23 (by decide) (fun c_3 => ?_) (fun c_3 => ?_)
    · skip
      refine lv_aload_n hx hb dX1_inspect_36 rfl (lv_at hl 0 rfl) ?_
      refine va_get (D := (dC, dI)) (ci := 1) (v := .ref (b 5)) (C := RX1) (T := TX1) (N := 8) hx hb hts hinX1 hown hK hP 0 hp_X_o rfl 5 (by decide) hf_29 (fun _ h9 => h9) rfl dX1_inspect_37 ?_
      refine lv_iload_n hx hb dX1_inspect_40 rfl (lv_at hl 1 rfl) ?_
      refine lv_aload_n hx hb dX1_inspect_41 rfl (lv_at hl 0 rfl) ?_
      refine lv_iload_n hx hb dX1_inspect_42 rfl (lv_at hl 1 rfl) ?_
      refine vp_callSi (W.runV (As := [.int p0]) (rest := [.int p0, .ref (b 5)]) ⟨hx, hb, hml, hown, hts⟩ (c_X1_isFinished l dC dI cI cZ cO cJ o b ad v r n p0 hinv) (cwV 1 hts gX1_inspect_X1_isFinished rfl rfl rfl (by decide +kernel) ⟨(Nat.le_of_ble_eq_true rfl), (Nat.le_of_ble_eq_true rfl)⟩) ⟨hp_fbX, va_recv hK hP (ci := 1) (q0 := 0) rfl hp_X_o, fun U hU hW => ⟨rfl, hp_toX hP hK hN hU hW⟩⟩ rfl rfl hl.1 rfl (lv_room (Nat.le_of_ble_eq_true rfl)) dX1_inspect_43 ⟨(Nat.zero_le _), (Nat.zero_le _)⟩) (fun r_4 hr_4 => ?_)
      subst hr_4
      refine hp_zastx hx hb hK hP (hD _ _) hS 5 1 hp_X_17 rfl (i := p0) (x := hp_b (hp_fin r n p0)) (hp_vin xf (by decide) (by decide)) (by exact hp_nz _) dX1_inspect_46 (fun H_5 locs_5 hP1 _ hS1 => ?_)
      replace hP : va_P (dC, dI) vwCl (hp_X cI cZ cO o b ad v (hp_set r 17 p0.toNatClampNeg (hp_b (hp_fin r n p0))) n) H_5 := hp_cP hp_X_s17 hP1
      replace hS := hS1
      clear hP1 hS1
      refine lv_aload_n hx hb dX1_inspect_47 rfl (lv_at hl 0 rfl) ?_
      refine va_get (D := (dC, dI)) (ci := 1) (v := .ref (b 5)) (C := RX1) (T := TX1) (N := 8) hx hb hts hinX1 hown hK hP 0 hp_X_o rfl 5 (by decide) hf_29 (fun _ h9 => h9) rfl dX1_inspect_48 ?_
      refine lv_iload_n hx hb dX1_inspect_51 rfl (lv_at hl 1 rfl) ?_
      refine hp_zaldx (v := (hp_b (hp_fin r n p0))) hx hb hK hP 5 1 hp_X_17 rfl (i := p0) (hp_vin xf (by decide) (by decide)) pk_us dX1_inspect_52 ?_
      have hc : hp_c_inspect r p0 = 0 := (hp_cdz (by first | assumption | (simp [c_2, c_3]; done)) (by first | assumption | (simp [c_2, c_3]; done)) (by first | assumption | (simp [c_2, c_3]; done))).symm
      have hP9 : va_P (dC, dI) vwCl (hp_X cI cZ cO o b ad v (hp_r_inspect r n p0) n) H_5 := by simp only [hp_r_inspect, if_pos hc]; exact hP
      refine W.widen (k := 1) (n := 6) (Nat.le_of_ble_eq_true rfl) (Nat.le_of_ble_eq_true rfl) ?_
      exact vx_ret (W.zret (ty := .boolean) (v := (hp_b (hp_fin r n p0))) hx hb hr (by exact hp_nar _) (fun t ht hW => ⟨⟨(hp_b (hp_fin r n p0)), ad, rfl, ⟨hc, (by rw [hp_b_inspect, decide_eq_true hc, Bool.true_and])⟩, hp_ht ht hP9, hD _ _⟩, hS.F ht⟩) hS.2.2 dX1_inspect_53)
    · skip
      exact hp_thr (mc := 1) (ms := 6) (k := 1) (nL := 2) hx hb hl0 hml htab hlocks hown hk_3 hi_3 hstr (List.mem_of_getElem? (i := 13) rfl) hat_3 hp_gd3 (by decide +kernel) hZu hZn hP hl dX1_inspect_26 dX1_inspect_29 dX1_inspect_30 dX1_inspect_32 dX1_inspect_35 ⟨(Nat.le_of_ble_eq_true rfl), (Nat.le_of_ble_eq_true rfl), (Nat.le_of_ble_eq_true rfl), (Nat.le_of_ble_eq_true rfl)⟩ ⟨(Nat.le_of_ble_eq_true rfl), (Nat.le_of_ble_eq_true rfl)⟩ rfl ((hp_cd2 (by first | assumption | (simp [c_2, c_3]; done)) (by first | assumption | (simp [c_2, c_3]; done))).symm)
  · skip
    have c_2 := hp_bz c_2
    exact hp_thr (mc := 1) (ms := 6) (k := 0) (nL := 2) hx hb hl0 hml htab hlocks hown hk_1 hi_1 hstr (List.mem_of_getElem? (i := 6) rfl) hat_1 hp_gd1 (by decide +kernel) hZu hZn hP hl dX1_inspect_7 dX1_inspect_10 dX1_inspect_11 dX1_inspect_13 dX1_inspect_16 ⟨(Nat.le_of_ble_eq_true rfl), (Nat.le_of_ble_eq_true rfl), (Nat.le_of_ble_eq_true rfl), (Nat.le_of_ble_eq_true rfl)⟩ ⟨(Nat.le_of_ble_eq_true rfl), (Nat.le_of_ble_eq_true rfl)⟩ rfl ((hp_cd1 (by first | assumption | (simp [c_2]; done))).symm)
set_option maxHeartbeats 400000 in
set_option maxRecDepth 100000 in
theorem c_X1_pass (l : Launch) (hl0 : l.stackTraces = false) (dC : Nat → ClassId) (dI : Nat → Nat → Nat) (cI cZ cO cJ : ClassId) (o : Nat) (b ad : Nat → Nat) (v : Nat → Int32) (r : Nat → Nat → Int32) (n : Nat) (sz : Nat)  (p0 : Int32) (hinv : hp_inv v r n) : vx_Met l yX1_pass wsX1_pass ({ frames := 6, cells := 1, slots := 6, locals := 82 }) (va_Pc [.ref o, .int p0] (hp_prT (dC, dI) cI cZ cO cJ (hp_X cI cZ cO o b ad v r n) sz)) (va_Qi (S := Nat → Nat) (fun x9 _ => hp_c_pass v p0 = 0 ∧ x9 = hp_a_pass v p0) (fun u9 t9 => va_P (dC, dI) vwCl (hp_X cI cZ cO o b u9 (hp_v_pass v p0) (hp_r_pass v r n p0) n) t9.heap ∧ va_D (va_A (hp_X cI cZ cO o b ad v r n) sz) (hp_X cI cZ cO o b u9 (hp_v_pass v p0) (hp_r_pass v r n p0) n)) (va_A (hp_X cI cZ cO o b ad v r n) sz)) (vx_X (S := Unit) (fun _ => True) (fun E9 _ t9 => hp_xc [hp_E2, hp_E3] (hp_c_pass v p0) E9 ∧ va_P (dC, dI) vwCl (hp_X cI cZ cO o b ad v r n) t9.heap) (va_A (hp_X cI cZ cO o b ad v r n) sz)) 1 6 (va_A (hp_X cI cZ cO o b ad v r n) sz) := by
  refine vx_ofW (cc := cX1_pass) (maxL := 4) (ret := (some .int)) (by decide) rfl ?_
  intro p e s m args below meth c s₁ B hml htab hv
  obtain ⟨rfl, hsz, hP, hK, hD0, hN, hstr, hZu, hZn⟩ := hv
  have hx := B.exec
  have hb := B.bytes
  have hr := B.returns
  have hts := atoms_spec (ws := wsX1_pass) B.pre
  have hown : s.vm.findClass RX1 = some m.cls := findClass_of_methodNamed B.named
  have hlocks := B.notSynchronized
  subst hsz
  have hD := hD0.self (sz := s.heap.size)
  generalize hAe : va_A (hp_X cI cZ cO o b ad v r n) s.heap.size = A at hD hZu hZn ⊢
  replace hD : ∀ v r, va_D A (hp_X cI cZ cO o b ad v r n) := fun _ _ => hp_dX hD
  have hA : ∀ q : Nat, s.heap.size ≤ q → A q := fun q h => by rw [← hAe]; exact Or.inr h
  have hS : va_S A s.heap s.heap [] := va_S.rf
  have hk_2 := hts (.classLink RX1 57 hp_E2) (by decide +kernel)
  have hi_2 := hts (.initialized hp_E2) (by decide +kernel)
  have hm_E2 : ∀ w ∈ (vx_atS RX1 61 hp_E2 hp_nm).filter goodWord, w ∈ wsX1_pass := by decide +kernel
  have hat_2 : ∀ w ∈ vx_atS RX1 61 hp_E2 hp_nm, w.before _ s = true := vx_hat (fun w h => hts w (hm_E2 w h)) hp_nb2 (hp_nB_of hN)
  have hk_3 := hts (.classLink RX1 64 hp_E3) (by decide +kernel)
  have hi_3 := hts (.initialized hp_E3) (by decide +kernel)
  have hm_E3 : ∀ w ∈ (vx_atS RX1 68 hp_E3 hp_nm).filter goodWord, w ∈ wsX1_pass := by decide +kernel
  have hat_3 : ∀ w ∈ vx_atS RX1 68 hp_E3 hp_nm, w.before _ s = true := vx_hat (fun w h => hts w (hm_E3 w h)) hp_nb3 (hp_nB_of hN)
  have hf_15 := hts (.fieldLink RX1 15 "Wallplan" "count" "I") (by decide +kernel)
  have hf_36 := hts (.fieldLink RX1 36 "Wallplan" "today" "I") (by decide +kernel)
  have hinX1 : ∀ w ∈ wsX10, w ∈ wsX1_pass := by decide +kernel
  have hl := lv_entry ([.ref o, .int p0]) (n := 4) (Nat.le_of_ble_eq_true rfl)
  rw [lg_entry_eq]
  generalize (lg_sl ([.ref o, .int p0]) ++ List.replicate (4 - (lg_sl ([.ref o, .int p0])).length) Slot.unset).toArray = ls at hl ⊢
  have hl : lv_has ls 4 [(0, .ref o), (1, .int p0)] := hl
  have hn := hinv.1
  refine lv_iload_n hx hb dX1_pass_0 rfl (lv_at hl 1 rfl) ?_
  refine lv_iconst (v := 1) hx hb dX1_pass_1 (by decide) ?_
  refine lv_bipush (v := 100) hx hb dX1_pass_2 (by decide) ?_
  refine vp_callSi (W.runS (As := [.int p0, .int 1, .int 100]) (rest := []) ⟨hx, hb, hml, hown, hts⟩ (c_X1_isWithin l p0 1 100) (va_cwS 3 hts gX1_pass_X1_isWithin rfl rfl rfl (by decide +kernel) ⟨(Nat.le_of_ble_eq_true rfl), (Nat.le_of_ble_eq_true rfl)⟩) ⟨hp_nfb, fun _ _ _ => ⟨rfl, trivial⟩⟩ rfl rfl hl.1 rfl (lv_room (Nat.le_of_ble_eq_true rfl)) dX1_pass_4 ⟨(Nat.zero_le _), (Nat.zero_le _)⟩) (fun r_1 hr_1 => ?_)
  subst hr_1
  refine lv_if_ne (tgt := 20) hx hb dX1_pass_7 (by decide) (fun c_2 => ?_) (fun c_2 => ?_)
  · skip
    have c_2 := hp_bn c_2
    refine lv_aload_n hx hb dX1_pass_20 rfl (lv_at hl 0 rfl) ?_
    refine va_get (D := (dC, dI)) (ci := 1) (v := .int (v 1)) (C := RX1) (T := TX1) (N := 8) hx hb hts hinX1 hown hK hP 0 hp_X_o rfl 7 (by decide) hf_36 (fun _ h9 => h9) rfl dX1_pass_21 ?_
    refine lv_iload_n hx hb dX1_pass_24 rfl (lv_at hl 1 rfl) ?_
    refine lv_iadd hx hb dX1_pass_25 ?_
    refine lv_sipush (v := 500) hx hb dX1_pass_26 (by decide) ?_
    refine lv_icmp_le (tgt := 42) hx hb dX1_pass_29 (by decide) (fun c_3 => ?_) (fun c_3 => ?_)
    · skip
      have c_3n := hp_len c_3
      refine lv_aload_n hx hb dX1_pass_42 rfl (lv_at hl 0 rfl) ?_
      refine lv_dup hx hb dX1_pass_43 rfl ?_
      refine va_get (D := (dC, dI)) (ci := 1) (v := .int (v 1)) (C := RX1) (T := TX1) (N := 8) hx hb hts hinX1 hown hK hP 0 hp_X_o rfl 7 (by decide) hf_36 (fun _ h9 => h9) rfl dX1_pass_44 ?_
      refine lv_iload_n hx hb dX1_pass_47 rfl (lv_at hl 1 rfl) ?_
      refine lv_iadd hx hb dX1_pass_48 ?_
      refine va_put (D := (dC, dI)) (ci := 1) (v := .int ((v 1) + p0)) (ty := .int) (C := RX1) (T := TX1) (N := 8) hx hb hts hinX1 tyX1 tyX1_ok nmX1 hown hK hP (hD _ _) hS 0 hp_X_o rfl 7 (by decide) hf_36 (fun _ h9 => h9) rfl (by decide +kernel) rfl rfl (Nat.le_of_ble_eq_true rfl) dX1_pass_49 (fun H_4 locs_4 hP1 _ hS1 => ?_)
      replace hP : va_P (dC, dI) vwCl (hp_X cI cZ cO o b ad (va_up v 1 ((v 1) + p0)) r n) H_4 := hp_cP hp_X_p1 hP1
      replace hS := hS1
      clear hP1 hS1
      refine lv_iconst (v := 0) hx hb dX1_pass_52 (by decide) ?_
      refine lv_istore_n (lv' := [(2, .int 0), (0, .ref o), (1, .int p0)]) hx hb dX1_pass_53 rfl hl (by decide) rfl (fun ls hl => ?_)
      replace hP : va_P (dC, dI) vwCl (hp_X cI cZ cO o b ad (va_up v 1 ((v 1) + p0)) (hp_dl r ((v 1) + p0) 0) n) H_4 := by rw [hp_dl0]; exact hP
      refine hp_loopM (fun k => [(2, .int (nI k)), (0, .ref o), (1, .int p0)]) (fun k => hp_X cI cZ cO o b ad (va_up v 1 ((v 1) + p0)) (hp_dl r ((v 1) + p0) k) n) n (fun k hk_5 ih_5 H_5 locs_5 ls hP1 hS1 hl => ?_) hP hS (lv_sub hl [0, 1, 2] rfl)
      clear hP hS
      have hP := hP1
      have hS := hS1
      clear hP1 hS1
      refine lv_iload_n hx hb dX1_pass_54 rfl (lv_at hl 0 rfl) ?_
      refine lv_aload_n hx hb dX1_pass_55 rfl (lv_at hl 1 rfl) ?_
      refine va_get (D := (dC, dI)) (ci := 1) (v := .int (nI n)) (C := RX1) (T := TX1) (N := 8) hx hb hts hinX1 hown hK hP 0 hp_X_o rfl 1 (by decide) hf_15 (fun _ h9 => h9) rfl dX1_pass_56 ?_
      refine lv_icmp_ge (tgt := 86) hx hb dX1_pass_59 (by decide) (fun c_6 => ?_) (fun c_6 => ?_)
      · skip
        have c_6n := hp_len c_6
        have ek : k = n := Nat.le_antisymm (by omega) ((nI_leI (by omega) (by omega)).mp c_6)
        refine lv_aload_n hx hb dX1_pass_86 rfl (lv_at hl 1 rfl) ?_
        refine va_get (D := (dC, dI)) (ci := 1) (v := .int ((v 1) + p0)) (C := RX1) (T := TX1) (N := 8) hx hb hts hinX1 hown hK hP 0 hp_X_o rfl 7 (by decide) hf_36 (fun _ h9 => h9) rfl dX1_pass_87 ?_
        have hc : hp_c_pass v p0 = 0 := (hp_cdz (by first | assumption | (simp [c_2, c_3, c_3n, c_6, c_6n]; done)) (by first | assumption | (simp [c_2, c_3, c_3n, c_6, c_6n]; done)) (by first | assumption | (simp [c_2, c_3, c_3n, c_6, c_6n]; done))).symm
        have hP9 : va_P (dC, dI) vwCl (hp_X cI cZ cO o b ad (hp_v_pass v p0) (hp_r_pass v r n p0) n) H_5 := by simp only [hp_v_pass, hp_r_pass, if_pos hc]; rw [ek] at hP; exact hP
        refine W.widen (k := 1) (n := 6) (Nat.le_of_ble_eq_true rfl) (Nat.le_of_ble_eq_true rfl) ?_
        exact vx_ret (W.iret (v := (v 1) + p0) hx hb hr (fun t ht hW => ⟨⟨(v 1) + p0, ad, rfl, ⟨hc, (by rw [hp_a_pass, if_pos hc])⟩, hp_ht ht hP9, hD _ _⟩, hS.F ht⟩) hS.2.2 dX1_pass_90)
      · skip
        have c_6p := hp_nle c_6
        have hkn : k < n := Nat.lt_of_not_le (fun h => c_6 (nI_le h (by omega)))
        refine lv_aload_n hx hb dX1_pass_62 rfl (lv_at hl 1 rfl) ?_
        refine lv_iload_n hx hb dX1_pass_63 rfl (lv_at hl 0 rfl) ?_
        refine va_csq (W.runV (As := [.int (nI k)]) (rest := []) ⟨hx, hb, hml, hown, hts⟩ (c_X1_find l dC dI cI cZ cO cJ o b ad (va_up v 1 ((v 1) + p0)) (hp_dl r ((v 1) + p0) k) n k (nI k) rfl hn (by omega)) (cwV 1 hts gX1_pass_X1_find rfl rfl rfl (by decide +kernel) ⟨(Nat.le_of_ble_eq_true rfl), (Nat.le_of_ble_eq_true rfl)⟩) ⟨hp_fbX, va_recv hK hP (ci := 1) (q0 := 0) rfl hp_X_o, fun U hU hW => ⟨rfl, hp_toX hP hK hN hU hW⟩⟩ rfl rfl hl.1 rfl (lv_room (Nat.le_of_ble_eq_true rfl)) dX1_pass_64 ⟨(Nat.zero_le _), (Nat.zero_le _)⟩) (fun r_7 hr_7 => ?_)
        subst hr_7
        refine W.eq (g2 := F0 m 67 ls [.ref (ad k)]) rfl ?_
        refine lv_astore_n (lv' := [(3, .ref (ad k)), (2, .int (nI k)), (0, .ref o), (1, .int p0)]) hx hb dX1_pass_67 rfl hl (by decide) rfl (fun ls hl => ?_)
        refine lv_aload_n hx hb dX1_pass_68 rfl (lv_at hl 0 rfl) ?_
        refine lv_ifnull hx hb dX1_pass_69 ?_
        refine lv_aload_n hx hb dX1_pass_72 rfl (lv_at hl 0 rfl) ?_
        refine lv_aload_n hx hb dX1_pass_73 rfl (lv_at hl 2 rfl) ?_
        refine va_get (D := (dC, dI)) (ci := 1) (v := .int ((v 1) + p0)) (C := RX1) (T := TX1) (N := 8) hx hb hts hinX1 hown hK hP 0 hp_X_o rfl 7 (by decide) hf_36 (fun _ h9 => h9) rfl dX1_pass_74 ?_
        have hFc := hp_free (hD (va_up v 1 ((v 1) + p0)) (hp_dl r ((v 1) + p0) k)) hS hA
        refine va_callv (va_runV (As := [.int ((v 1) + p0)]) (rest := []) ⟨hx, hb, hml, hown, hts⟩ (c_X0_deliverIfDue l dC dI cI cZ cO cJ o b ad (va_up v 1 ((v 1) + p0)) (hp_dl r ((v 1) + p0) k) n H_5.size k (by omega) ((v 1) + p0)) (cwV 1 hts gX1_pass_X0_deliverIfDue rfl rfl rfl (by decide +kernel) ⟨(Nat.le_of_ble_eq_true rfl), (Nat.le_of_ble_eq_true rfl)⟩) ⟨hp_mfbX, va_recv hK hP (ci := 0) (q0 := 6 + k) rfl (hp_X_e (by omega)), fun U hU hW => ⟨rfl, hp_mtoX hP hK (hD _ _) hN hU hW⟩⟩ rfl rfl hl.1 rfl (lv_room (Nat.le_of_ble_eq_true rfl)) dX1_pass_77 ⟨(Nat.zero_le _), (Nat.zero_le _)⟩) hS (fun q _ h => hFc q h) hFc (fun u_8 t_8 H_8 locs_8 ht _ hr_8 hB _ _ hS1 => ?_)
        replace hP : va_P (dC, dI) vwCl (hp_X cI cZ cO o b ad (va_up v 1 ((v 1) + p0)) (hp_dif (hp_dl r ((v 1) + p0) k) k ((v 1) + p0)) n) H_8 := hp_th ht hB
        replace hS := hS1
        clear hS1 hB ht hFc
        refine lv_iinc (v := nI (k + 1)) (lv' := [(2, .int (nI (k + 1))), (3, .ref (ad k)), (0, .ref o), (1, .int p0)]) hx hb dX1_pass_80 hl (k := 1) rfl (nI_1 _) (by decide) rfl (fun ls hl => ?_)
        refine lv_goto (tgt := 54) hx hb dX1_pass_83 (by decide) ?_
        replace hP : va_P (dC, dI) vwCl (hp_X cI cZ cO o b ad (va_up v 1 ((v 1) + p0)) (hp_dl r ((v 1) + p0) (k + 1)) n) H_8 := by rw [hp_dif_dl] at hP; exact hP
        exact ih_5 hkn _ _ _ hP hS (lv_sub hl [0, 2, 3] rfl)
    · skip
      have c_3p := hp_nle c_3
      exact hp_thr (mc := 1) (ms := 6) (k := 1) (nL := 4) hx hb hl0 hml htab hlocks hown hk_3 hi_3 hstr (List.mem_of_getElem? (i := 7) rfl) hat_3 hp_gd3 (by decide +kernel) hZu hZn hP hl dX1_pass_32 dX1_pass_35 dX1_pass_36 dX1_pass_38 dX1_pass_41 ⟨(Nat.le_of_ble_eq_true rfl), (Nat.le_of_ble_eq_true rfl), (Nat.le_of_ble_eq_true rfl), (Nat.le_of_ble_eq_true rfl)⟩ ⟨(Nat.le_of_ble_eq_true rfl), (Nat.le_of_ble_eq_true rfl)⟩ rfl ((hp_cd2 (by first | assumption | (simp [c_2, c_3, c_3p]; done)) (by first | assumption | (simp [c_2, c_3, c_3p]; done))).symm)
  · skip
    have c_2 := hp_bz c_2
    exact hp_thr (mc := 1) (ms := 6) (k := 0) (nL := 4) hx hb hl0 hml htab hlocks hown hk_2 hi_2 hstr (List.mem_of_getElem? (i := 2) rfl) hat_2 hp_gd2 (by decide +kernel) hZu hZn hP hl dX1_pass_10 dX1_pass_13 dX1_pass_14 dX1_pass_16 dX1_pass_19 ⟨(Nat.le_of_ble_eq_true rfl), (Nat.le_of_ble_eq_true rfl), (Nat.le_of_ble_eq_true rfl), (Nat.le_of_ble_eq_true rfl)⟩ ⟨(Nat.le_of_ble_eq_true rfl), (Nat.le_of_ble_eq_true rfl)⟩ rfl ((hp_cd1 (by first | assumption | (simp [c_2]; done))).symm)
set_option maxHeartbeats 400000 in
set_option maxRecDepth 100000 in
theorem c_X1_day (l : Launch) (dC : Nat → ClassId) (dI : Nat → Nat → Nat) (cI cZ cO cJ : ClassId) (o : Nat) (b ad : Nat → Nat) (v : Nat → Int32) (r : Nat → Nat → Int32) (n : Nat)   : Met l yX1_day wsX1_day ({ frames := 0, cells := 0, slots := 0, locals := 0 }) (va_Pc [.ref o] (hp_prX (dC, dI) cI cZ cO cJ (hp_X cI cZ cO o b ad v r n))) (vp_Si (fun x9 => x9 = v 1)) 0 0 (fun _ => False) := by
  refine Met.ofW (cc := cX1_day) (maxL := 1) (ret := (some .int)) (by decide) rfl ?_
  intro p e s m args below meth c s₁ B hml hv
  obtain ⟨rfl, hP, hK, hN⟩ := hv
  have hx := B.exec
  have hb := B.bytes
  have hr := B.returns
  have hts := atoms_spec (ws := wsX1_day) B.pre
  have hown : s.vm.findClass RX1 = some m.cls := findClass_of_methodNamed B.named
  have hlocks := B.notSynchronized
  have hf_36 := hts (.fieldLink RX1 36 "Wallplan" "today" "I") (by decide +kernel)
  have hinX1 : ∀ w ∈ wsX10, w ∈ wsX1_day := by decide +kernel
  have hl := lv_entry ([.ref o]) (n := 1) (Nat.le_of_ble_eq_true rfl)
  rw [lg_entry_eq]
  generalize (lg_sl ([.ref o]) ++ List.replicate (1 - (lg_sl ([.ref o])).length) Slot.unset).toArray = ls at hl ⊢
  have hl : lv_has ls 1 [(0, .ref o)] := hl
  refine lv_aload_n hx hb dX1_day_0 rfl (lv_at hl 0 rfl) ?_
  refine va_get (D := (dC, dI)) (ci := 1) (v := .int (v 1)) (C := RX1) (T := TX1) (N := 8) hx hb hts hinX1 hown hK hP 0 hp_X_o rfl 7 (by decide) hf_36 (fun _ h9 => h9) rfl dX1_day_1 ?_
  exact W.iret (v := v 1) hx hb hr (fun t ht hW => ⟨_, rfl, (by rfl), ht⟩) (fun _ h => nomatch h) dX1_day_4
set_option maxHeartbeats 400000 in
set_option maxRecDepth 100000 in
theorem c_X1_revision (l : Launch) (dC : Nat → ClassId) (dI : Nat → Nat → Nat) (cI cZ cO cJ : ClassId) (o : Nat) (b ad : Nat → Nat) (v : Nat → Int32) (r : Nat → Nat → Int32) (n : Nat)   : Met l yX1_revision wsX1_revision ({ frames := 0, cells := 0, slots := 0, locals := 0 }) (va_Pc [.ref o] (hp_prX (dC, dI) cI cZ cO cJ (hp_X cI cZ cO o b ad v r n))) (vp_Si (fun x9 => x9 = v 2)) 0 0 (fun _ => False) := by
  refine Met.ofW (cc := cX1_revision) (maxL := 1) (ret := (some .int)) (by decide) rfl ?_
  intro p e s m args below meth c s₁ B hml hv
  obtain ⟨rfl, hP, hK, hN⟩ := hv
  have hx := B.exec
  have hb := B.bytes
  have hr := B.returns
  have hts := atoms_spec (ws := wsX1_revision) B.pre
  have hown : s.vm.findClass RX1 = some m.cls := findClass_of_methodNamed B.named
  have hlocks := B.notSynchronized
  have hf_33 := hts (.fieldLink RX1 33 "Wallplan" "latestRevision" "I") (by decide +kernel)
  have hinX1 : ∀ w ∈ wsX10, w ∈ wsX1_revision := by decide +kernel
  have hl := lv_entry ([.ref o]) (n := 1) (Nat.le_of_ble_eq_true rfl)
  rw [lg_entry_eq]
  generalize (lg_sl ([.ref o]) ++ List.replicate (1 - (lg_sl ([.ref o])).length) Slot.unset).toArray = ls at hl ⊢
  have hl : lv_has ls 1 [(0, .ref o)] := hl
  refine lv_aload_n hx hb dX1_revision_0 rfl (lv_at hl 0 rfl) ?_
  refine va_get (D := (dC, dI)) (ci := 1) (v := .int (v 2)) (C := RX1) (T := TX1) (N := 8) hx hb hts hinX1 hown hK hP 0 hp_X_o rfl 6 (by decide) hf_33 (fun _ h9 => h9) rfl dX1_revision_1 ?_
  exact W.iret (v := v 2) hx hb hr (fun t ht hW => ⟨_, rfl, (by rfl), ht⟩) (fun _ h => nomatch h) dX1_revision_4
set_option maxHeartbeats 400000 in
set_option maxRecDepth 100000 in
theorem c_X1_elementOf (l : Launch) (hl0 : l.stackTraces = false) (dC : Nat → ClassId) (dI : Nat → Nat → Nat) (cI cZ cO cJ : ClassId) (o : Nat) (b ad : Nat → Nat) (v : Nat → Int32) (r : Nat → Nat → Int32) (n : Nat) (sz : Nat)  (p0 p1 : Int32) (hinv : hp_inv v r n) : vx_Met l yX1_elementOf wsX1_elementOf ({ frames := 6, cells := 1, slots := 6, locals := 82 }) (va_Pc [.ref o, .int p0, .int p1] (hp_prT (dC, dI) cI cZ cO cJ (hp_X cI cZ cO o b ad v r n) sz)) (va_Qi (S := Nat → Nat) (fun x9 _ => hp_c_elementOf n p0 p1 = 0 ∧ x9 = hp_a_elementOf r n p0 p1) (fun u9 t9 => va_P (dC, dI) vwCl (hp_X cI cZ cO o b u9 v r n) t9.heap ∧ va_D (va_A (hp_X cI cZ cO o b ad v r n) sz) (hp_X cI cZ cO o b u9 v r n)) (va_A (hp_X cI cZ cO o b ad v r n) sz)) (vx_X (S := Unit) (fun _ => True) (fun E9 _ t9 => hp_xc [hp_E1, hp_E2] (hp_c_elementOf n p0 p1) E9 ∧ va_P (dC, dI) vwCl (hp_X cI cZ cO o b ad v r n) t9.heap) (va_A (hp_X cI cZ cO o b ad v r n) sz)) 1 6 (va_A (hp_X cI cZ cO o b ad v r n) sz) := by
  refine vx_ofW (cc := cX1_elementOf) (maxL := 4) (ret := (some .int)) (by decide) rfl ?_
  intro p e s m args below meth c s₁ B hml htab hv
  obtain ⟨rfl, hsz, hP, hK, hD0, hN, hstr, hZu, hZn⟩ := hv
  have hx := B.exec
  have hb := B.bytes
  have hr := B.returns
  have hts := atoms_spec (ws := wsX1_elementOf) B.pre
  have hown : s.vm.findClass RX1 = some m.cls := findClass_of_methodNamed B.named
  have hlocks := B.notSynchronized
  subst hsz
  have hD := hD0.self (sz := s.heap.size)
  generalize hAe : va_A (hp_X cI cZ cO o b ad v r n) s.heap.size = A at hD hZu hZn ⊢
  replace hD : ∀ v r, va_D A (hp_X cI cZ cO o b ad v r n) := fun _ _ => hp_dX hD
  have hA : ∀ q : Nat, s.heap.size ≤ q → A q := fun q h => by rw [← hAe]; exact Or.inr h
  have hS : va_S A s.heap s.heap [] := va_S.rf
  have hk_1 := hts (.classLink RX1 46 hp_E1) (by decide +kernel)
  have hi_1 := hts (.initialized hp_E1) (by decide +kernel)
  have hm_E1 : ∀ w ∈ (vx_atS RX1 50 hp_E1 hp_nm).filter goodWord, w ∈ wsX1_elementOf := by decide +kernel
  have hat_1 : ∀ w ∈ vx_atS RX1 50 hp_E1 hp_nm, w.before _ s = true := vx_hat (fun w h => hts w (hm_E1 w h)) hp_nb1 (hp_nB_of hN)
  have hk_2 := hts (.classLink RX1 57 hp_E2) (by decide +kernel)
  have hi_2 := hts (.initialized hp_E2) (by decide +kernel)
  have hm_E2 : ∀ w ∈ (vx_atS RX1 61 hp_E2 hp_nm).filter goodWord, w ∈ wsX1_elementOf := by decide +kernel
  have hat_2 : ∀ w ∈ vx_atS RX1 61 hp_E2 hp_nm, w.before _ s = true := vx_hat (fun w h => hts w (hm_E2 w h)) hp_nb2 (hp_nB_of hN)
  have hf_93 := hts (.fieldLink RX1 93 "Wallplan$Element" "state" "I") (by decide +kernel)
  have hf_122 := hts (.fieldLink RX1 122 "Wallplan$Element" "kind" "I") (by decide +kernel)
  have hf_154 := hts (.fieldLink RX1 154 "Wallplan$Element" "storey" "I") (by decide +kernel)
  have hf_157 := hts (.fieldLink RX1 157 "Wallplan$Element" "fromX" "I") (by decide +kernel)
  have hf_160 := hts (.fieldLink RX1 160 "Wallplan$Element" "fromY" "I") (by decide +kernel)
  have hf_163 := hts (.fieldLink RX1 163 "Wallplan$Element" "toX" "I") (by decide +kernel)
  have hf_166 := hts (.fieldLink RX1 166 "Wallplan$Element" "toY" "I") (by decide +kernel)
  have hf_169 := hts (.fieldLink RX1 169 "Wallplan$Element" "changeRevision" "I") (by decide +kernel)
  have hf_172 := hts (.fieldLink RX1 172 "Wallplan$Element" "changeTrade" "I") (by decide +kernel)
  have hinX0 : ∀ w ∈ wsX00, w ∈ wsX1_elementOf := by decide +kernel
  have hl := lv_entry ([.ref o, .int p0, .int p1]) (n := 4) (Nat.le_of_ble_eq_true rfl)
  rw [lg_entry_eq]
  generalize (lg_sl ([.ref o, .int p0, .int p1]) ++ List.replicate (4 - (lg_sl ([.ref o, .int p0, .int p1])).length) Slot.unset).toArray = ls at hl ⊢
  have hl : lv_has ls 4 [(0, .ref o), (1, .int p0), (2, .int p1)] := hl
  have hn := hinv.1
  rcases hp_el_or n p0 with h9_p0 | h9_p0
  · skip
    refine lv_aload_n hx hb dX1_elementOf_0 rfl (lv_at hl 0 rfl) ?_
    refine lv_iload_n hx hb dX1_elementOf_1 rfl (lv_at hl 1 rfl) ?_
    refine va_csq (W.runV (As := [.int p0]) (rest := []) ⟨hx, hb, hml, hown, hts⟩ (c_X1_find_no l dC dI cI cZ cO cJ o b ad v r n p0 hn h9_p0) (cwV 1 hts gX1_elementOf_X1_find rfl rfl rfl (by decide +kernel) ⟨(Nat.le_of_ble_eq_true rfl), (Nat.le_of_ble_eq_true rfl)⟩) ⟨hp_fbX, va_recv hK hP (ci := 1) (q0 := 0) rfl hp_X_o, fun U hU hW => ⟨rfl, hp_toX hP hK hN hU hW⟩⟩ rfl rfl hl.1 rfl (lv_room (Nat.le_of_ble_eq_true rfl)) dX1_elementOf_2 ⟨(Nat.zero_le _), (Nat.zero_le _)⟩) (fun r_1 hr_1 => ?_)
    subst hr_1
    refine W.eq (g2 := F0 m 5 ls [.null]) rfl ?_
    refine lv_astore_nN (lv' := [(3, .null), (0, .ref o), (1, .int p0), (2, .int p1)]) hx hb dX1_elementOf_5 rfl hl (by decide) rfl (fun ls hl => ?_)
    refine lv_aload_nN hx hb dX1_elementOf_6 rfl (lv_at hl 0 rfl) ?_
    refine lv_ifnonnullN hx hb dX1_elementOf_7 ?_
    exact hp_thr (mc := 1) (ms := 6) (k := 0) (nL := 4) hx hb hl0 hml htab hlocks hown hk_1 hi_1 hstr (List.mem_of_getElem? (i := 3) rfl) hat_1 hp_gd1 (by decide +kernel) hZu hZn hP hl dX1_elementOf_10 dX1_elementOf_13 dX1_elementOf_14 dX1_elementOf_16 dX1_elementOf_19 ⟨(Nat.le_of_ble_eq_true rfl), (Nat.le_of_ble_eq_true rfl), (Nat.le_of_ble_eq_true rfl), (Nat.le_of_ble_eq_true rfl)⟩ ⟨(Nat.le_of_ble_eq_true rfl), (Nat.le_of_ble_eq_true rfl)⟩ rfl ((hp_cd1 (by first | assumption | (simp [h9_p0]; done))).symm)
  · skip
    obtain ⟨i_p0, hi_p0, rfl⟩ := hp_el_of hn h9_p0
    have hcl_p0 : (nI i_p0).toNatClampNeg = i_p0 := nI_clamp (by omega)
    refine lv_aload_n hx hb dX1_elementOf_0 rfl (lv_at hl 0 rfl) ?_
    refine lv_iload_n hx hb dX1_elementOf_1 rfl (lv_at hl 1 rfl) ?_
    refine va_csq (W.runV (As := [.int (nI i_p0)]) (rest := []) ⟨hx, hb, hml, hown, hts⟩ (c_X1_find l dC dI cI cZ cO cJ o b ad v r n i_p0 (nI i_p0) rfl hn (by omega)) (cwV 1 hts gX1_elementOf_X1_find rfl rfl rfl (by decide +kernel) ⟨(Nat.le_of_ble_eq_true rfl), (Nat.le_of_ble_eq_true rfl)⟩) ⟨hp_fbX, va_recv hK hP (ci := 1) (q0 := 0) rfl hp_X_o, fun U hU hW => ⟨rfl, hp_toX hP hK hN hU hW⟩⟩ rfl rfl hl.1 rfl (lv_room (Nat.le_of_ble_eq_true rfl)) dX1_elementOf_2 ⟨(Nat.zero_le _), (Nat.zero_le _)⟩) (fun r_2 hr_2 => ?_)
    subst hr_2
    refine W.eq (g2 := F0 m 5 ls [.ref (ad i_p0)]) rfl ?_
    refine lv_astore_n (lv' := [(3, .ref (ad i_p0)), (0, .ref o), (1, .int (nI i_p0)), (2, .int p1)]) hx hb dX1_elementOf_5 rfl hl (by decide) rfl (fun ls hl => ?_)
    refine lv_aload_n hx hb dX1_elementOf_6 rfl (lv_at hl 0 rfl) ?_
    refine lv_ifnonnull (tgt := 20) hx hb dX1_elementOf_7 (by decide) ?_
    refine lv_iload_n hx hb dX1_elementOf_20 rfl (lv_at hl 3 rfl) ?_
    rcases hp_w9or p1 with hw9 | ⟨w, hw, rfl⟩
    · skip
      refine lv_tableOut (x := p1) (tgt := 126) hx hb dX1_elementOf_21 (hp_out9 hw9) (by decide) ?_
      exact hp_thr (mc := 1) (ms := 6) (k := 1) (nL := 4) hx hb hl0 hml htab hlocks hown hk_2 hi_2 hstr (List.mem_of_getElem? (i := 8) rfl) hat_2 hp_gd2 (by decide +kernel) hZu hZn hP hl dX1_elementOf_126 dX1_elementOf_129 dX1_elementOf_130 dX1_elementOf_132 dX1_elementOf_135 ⟨(Nat.le_of_ble_eq_true rfl), (Nat.le_of_ble_eq_true rfl), (Nat.le_of_ble_eq_true rfl), (Nat.le_of_ble_eq_true rfl)⟩ ⟨(Nat.le_of_ble_eq_true rfl), (Nat.le_of_ble_eq_true rfl)⟩ rfl ((hp_cd2 (by first | assumption | (simp [h9_p0, hcl_p0, hw9]; done)) (by first | assumption | (simp [h9_p0, hcl_p0, hw9]; done))).symm)
    · skip
      have hw9 : hp_in (nI w) 0 9 = true := hp_in_nI (N := 9) (by decide) hw (by decide)
      rcases hp_w9 hw with rfl | rfl | rfl | rfl | rfl | rfl | rfl | rfl | rfl | rfl
      · skip
        refine lv_tableIn (x := (nI 0)) (off := 55) (tgt := 76) hx hb dX1_elementOf_21 (by decide) (by decide) (by decide) (by decide) ?_
        refine lv_aload_n hx hb dX1_elementOf_76 rfl (lv_at hl 0 rfl) ?_
        refine va_get (D := (dC, dI)) (ci := 0) (v := .int (r 4 i_p0)) (C := RX0) (T := TX0) (N := 10) hx hb hts hinX0 hown hK hP (6 + i_p0) (hp_X_e (by omega)) rfl 0 (by decide) hf_122 (fun _ h9 => h9) rfl dX1_elementOf_77 ?_
        have hc : hp_c_elementOf n (nI i_p0) (nI 0) = 0 := (hp_cdz (by first | assumption | (simp [h9_p0, hcl_p0, hw9]; done)) (by first | assumption | (simp [h9_p0, hcl_p0, hw9]; done)) (by first | assumption | (simp [h9_p0, hcl_p0, hw9]; done))).symm
        have hP9 : va_P (dC, dI) vwCl (hp_X cI cZ cO o b ad v r n) s.heap := by exact hP
        refine W.widen (k := 1) (n := 6) (Nat.le_of_ble_eq_true rfl) (Nat.le_of_ble_eq_true rfl) ?_
        exact vx_ret (W.iret (v := r 4 i_p0) hx hb hr (fun t ht hW => ⟨⟨r 4 i_p0, ad, rfl, ⟨hc, (by rw [hp_a_elementOf, if_pos hc, hcl_p0]; rfl)⟩, hp_ht ht hP9, hD _ _⟩, hS.F ht⟩) hS.2.2 dX1_elementOf_80)
      · skip
        refine lv_tableIn (x := (nI 1)) (off := 60) (tgt := 81) hx hb dX1_elementOf_21 (by decide) (by decide) (by decide) (by decide) ?_
        refine lv_aload_n hx hb dX1_elementOf_81 rfl (lv_at hl 0 rfl) ?_
        refine va_get (D := (dC, dI)) (ci := 0) (v := .int (r 5 i_p0)) (C := RX0) (T := TX0) (N := 10) hx hb hts hinX0 hown hK hP (6 + i_p0) (hp_X_e (by omega)) rfl 1 (by decide) hf_154 (fun _ h9 => h9) rfl dX1_elementOf_82 ?_
        have hc : hp_c_elementOf n (nI i_p0) (nI 1) = 0 := (hp_cdz (by first | assumption | (simp [h9_p0, hcl_p0, hw9]; done)) (by first | assumption | (simp [h9_p0, hcl_p0, hw9]; done)) (by first | assumption | (simp [h9_p0, hcl_p0, hw9]; done))).symm
        have hP9 : va_P (dC, dI) vwCl (hp_X cI cZ cO o b ad v r n) s.heap := by exact hP
        refine W.widen (k := 1) (n := 6) (Nat.le_of_ble_eq_true rfl) (Nat.le_of_ble_eq_true rfl) ?_
        exact vx_ret (W.iret (v := r 5 i_p0) hx hb hr (fun t ht hW => ⟨⟨r 5 i_p0, ad, rfl, ⟨hc, (by rw [hp_a_elementOf, if_pos hc, hcl_p0]; rfl)⟩, hp_ht ht hP9, hD _ _⟩, hS.F ht⟩) hS.2.2 dX1_elementOf_85)
      · skip
        refine lv_tableIn (x := (nI 2)) (off := 65) (tgt := 86) hx hb dX1_elementOf_21 (by decide) (by decide) (by decide) (by decide) ?_
        refine lv_aload_n hx hb dX1_elementOf_86 rfl (lv_at hl 0 rfl) ?_
        refine va_get (D := (dC, dI)) (ci := 0) (v := .int (r 6 i_p0)) (C := RX0) (T := TX0) (N := 10) hx hb hts hinX0 hown hK hP (6 + i_p0) (hp_X_e (by omega)) rfl 2 (by decide) hf_157 (fun _ h9 => h9) rfl dX1_elementOf_87 ?_
        have hc : hp_c_elementOf n (nI i_p0) (nI 2) = 0 := (hp_cdz (by first | assumption | (simp [h9_p0, hcl_p0, hw9]; done)) (by first | assumption | (simp [h9_p0, hcl_p0, hw9]; done)) (by first | assumption | (simp [h9_p0, hcl_p0, hw9]; done))).symm
        have hP9 : va_P (dC, dI) vwCl (hp_X cI cZ cO o b ad v r n) s.heap := by exact hP
        refine W.widen (k := 1) (n := 6) (Nat.le_of_ble_eq_true rfl) (Nat.le_of_ble_eq_true rfl) ?_
        exact vx_ret (W.iret (v := r 6 i_p0) hx hb hr (fun t ht hW => ⟨⟨r 6 i_p0, ad, rfl, ⟨hc, (by rw [hp_a_elementOf, if_pos hc, hcl_p0]; rfl)⟩, hp_ht ht hP9, hD _ _⟩, hS.F ht⟩) hS.2.2 dX1_elementOf_90)
      · skip
        refine lv_tableIn (x := (nI 3)) (off := 70) (tgt := 91) hx hb dX1_elementOf_21 (by decide) (by decide) (by decide) (by decide) ?_
        refine lv_aload_n hx hb dX1_elementOf_91 rfl (lv_at hl 0 rfl) ?_
        refine va_get (D := (dC, dI)) (ci := 0) (v := .int (r 7 i_p0)) (C := RX0) (T := TX0) (N := 10) hx hb hts hinX0 hown hK hP (6 + i_p0) (hp_X_e (by omega)) rfl 3 (by decide) hf_160 (fun _ h9 => h9) rfl dX1_elementOf_92 ?_
        have hc : hp_c_elementOf n (nI i_p0) (nI 3) = 0 := (hp_cdz (by first | assumption | (simp [h9_p0, hcl_p0, hw9]; done)) (by first | assumption | (simp [h9_p0, hcl_p0, hw9]; done)) (by first | assumption | (simp [h9_p0, hcl_p0, hw9]; done))).symm
        have hP9 : va_P (dC, dI) vwCl (hp_X cI cZ cO o b ad v r n) s.heap := by exact hP
        refine W.widen (k := 1) (n := 6) (Nat.le_of_ble_eq_true rfl) (Nat.le_of_ble_eq_true rfl) ?_
        exact vx_ret (W.iret (v := r 7 i_p0) hx hb hr (fun t ht hW => ⟨⟨r 7 i_p0, ad, rfl, ⟨hc, (by rw [hp_a_elementOf, if_pos hc, hcl_p0]; rfl)⟩, hp_ht ht hP9, hD _ _⟩, hS.F ht⟩) hS.2.2 dX1_elementOf_95)
      · skip
        refine lv_tableIn (x := (nI 4)) (off := 75) (tgt := 96) hx hb dX1_elementOf_21 (by decide) (by decide) (by decide) (by decide) ?_
        refine lv_aload_n hx hb dX1_elementOf_96 rfl (lv_at hl 0 rfl) ?_
        refine va_get (D := (dC, dI)) (ci := 0) (v := .int (r 8 i_p0)) (C := RX0) (T := TX0) (N := 10) hx hb hts hinX0 hown hK hP (6 + i_p0) (hp_X_e (by omega)) rfl 4 (by decide) hf_163 (fun _ h9 => h9) rfl dX1_elementOf_97 ?_
        have hc : hp_c_elementOf n (nI i_p0) (nI 4) = 0 := (hp_cdz (by first | assumption | (simp [h9_p0, hcl_p0, hw9]; done)) (by first | assumption | (simp [h9_p0, hcl_p0, hw9]; done)) (by first | assumption | (simp [h9_p0, hcl_p0, hw9]; done))).symm
        have hP9 : va_P (dC, dI) vwCl (hp_X cI cZ cO o b ad v r n) s.heap := by exact hP
        refine W.widen (k := 1) (n := 6) (Nat.le_of_ble_eq_true rfl) (Nat.le_of_ble_eq_true rfl) ?_
        exact vx_ret (W.iret (v := r 8 i_p0) hx hb hr (fun t ht hW => ⟨⟨r 8 i_p0, ad, rfl, ⟨hc, (by rw [hp_a_elementOf, if_pos hc, hcl_p0]; rfl)⟩, hp_ht ht hP9, hD _ _⟩, hS.F ht⟩) hS.2.2 dX1_elementOf_100)
      · skip
        refine lv_tableIn (x := (nI 5)) (off := 80) (tgt := 101) hx hb dX1_elementOf_21 (by decide) (by decide) (by decide) (by decide) ?_
        refine lv_aload_n hx hb dX1_elementOf_101 rfl (lv_at hl 0 rfl) ?_
        refine va_get (D := (dC, dI)) (ci := 0) (v := .int (r 9 i_p0)) (C := RX0) (T := TX0) (N := 10) hx hb hts hinX0 hown hK hP (6 + i_p0) (hp_X_e (by omega)) rfl 5 (by decide) hf_166 (fun _ h9 => h9) rfl dX1_elementOf_102 ?_
        have hc : hp_c_elementOf n (nI i_p0) (nI 5) = 0 := (hp_cdz (by first | assumption | (simp [h9_p0, hcl_p0, hw9]; done)) (by first | assumption | (simp [h9_p0, hcl_p0, hw9]; done)) (by first | assumption | (simp [h9_p0, hcl_p0, hw9]; done))).symm
        have hP9 : va_P (dC, dI) vwCl (hp_X cI cZ cO o b ad v r n) s.heap := by exact hP
        refine W.widen (k := 1) (n := 6) (Nat.le_of_ble_eq_true rfl) (Nat.le_of_ble_eq_true rfl) ?_
        exact vx_ret (W.iret (v := r 9 i_p0) hx hb hr (fun t ht hW => ⟨⟨r 9 i_p0, ad, rfl, ⟨hc, (by rw [hp_a_elementOf, if_pos hc, hcl_p0]; rfl)⟩, hp_ht ht hP9, hD _ _⟩, hS.F ht⟩) hS.2.2 dX1_elementOf_105)
      · skip
        refine lv_tableIn (x := (nI 6)) (off := 85) (tgt := 106) hx hb dX1_elementOf_21 (by decide) (by decide) (by decide) (by decide) ?_
        refine lv_aload_n hx hb dX1_elementOf_106 rfl (lv_at hl 0 rfl) ?_
        refine va_get (D := (dC, dI)) (ci := 0) (v := .int (r 10 i_p0)) (C := RX0) (T := TX0) (N := 10) hx hb hts hinX0 hown hK hP (6 + i_p0) (hp_X_e (by omega)) rfl 6 (by decide) hf_93 (fun _ h9 => h9) rfl dX1_elementOf_107 ?_
        have hc : hp_c_elementOf n (nI i_p0) (nI 6) = 0 := (hp_cdz (by first | assumption | (simp [h9_p0, hcl_p0, hw9]; done)) (by first | assumption | (simp [h9_p0, hcl_p0, hw9]; done)) (by first | assumption | (simp [h9_p0, hcl_p0, hw9]; done))).symm
        have hP9 : va_P (dC, dI) vwCl (hp_X cI cZ cO o b ad v r n) s.heap := by exact hP
        refine W.widen (k := 1) (n := 6) (Nat.le_of_ble_eq_true rfl) (Nat.le_of_ble_eq_true rfl) ?_
        exact vx_ret (W.iret (v := r 10 i_p0) hx hb hr (fun t ht hW => ⟨⟨r 10 i_p0, ad, rfl, ⟨hc, (by rw [hp_a_elementOf, if_pos hc, hcl_p0]; rfl)⟩, hp_ht ht hP9, hD _ _⟩, hS.F ht⟩) hS.2.2 dX1_elementOf_110)
      · skip
        refine lv_tableIn (x := (nI 7)) (off := 90) (tgt := 111) hx hb dX1_elementOf_21 (by decide) (by decide) (by decide) (by decide) ?_
        refine lv_aload_n hx hb dX1_elementOf_111 rfl (lv_at hl 0 rfl) ?_
        refine va_get (D := (dC, dI)) (ci := 0) (v := .int (r 11 i_p0)) (C := RX0) (T := TX0) (N := 10) hx hb hts hinX0 hown hK hP (6 + i_p0) (hp_X_e (by omega)) rfl 7 (by decide) hf_169 (fun _ h9 => h9) rfl dX1_elementOf_112 ?_
        have hc : hp_c_elementOf n (nI i_p0) (nI 7) = 0 := (hp_cdz (by first | assumption | (simp [h9_p0, hcl_p0, hw9]; done)) (by first | assumption | (simp [h9_p0, hcl_p0, hw9]; done)) (by first | assumption | (simp [h9_p0, hcl_p0, hw9]; done))).symm
        have hP9 : va_P (dC, dI) vwCl (hp_X cI cZ cO o b ad v r n) s.heap := by exact hP
        refine W.widen (k := 1) (n := 6) (Nat.le_of_ble_eq_true rfl) (Nat.le_of_ble_eq_true rfl) ?_
        exact vx_ret (W.iret (v := r 11 i_p0) hx hb hr (fun t ht hW => ⟨⟨r 11 i_p0, ad, rfl, ⟨hc, (by rw [hp_a_elementOf, if_pos hc, hcl_p0]; rfl)⟩, hp_ht ht hP9, hD _ _⟩, hS.F ht⟩) hS.2.2 dX1_elementOf_115)
      · skip
        refine lv_tableIn (x := (nI 8)) (off := 95) (tgt := 116) hx hb dX1_elementOf_21 (by decide) (by decide) (by decide) (by decide) ?_
        refine lv_aload_n hx hb dX1_elementOf_116 rfl (lv_at hl 0 rfl) ?_
        refine va_get (D := (dC, dI)) (ci := 0) (v := .int (r 12 i_p0)) (C := RX0) (T := TX0) (N := 10) hx hb hts hinX0 hown hK hP (6 + i_p0) (hp_X_e (by omega)) rfl 8 (by decide) hf_172 (fun _ h9 => h9) rfl dX1_elementOf_117 ?_
        have hc : hp_c_elementOf n (nI i_p0) (nI 8) = 0 := (hp_cdz (by first | assumption | (simp [h9_p0, hcl_p0, hw9]; done)) (by first | assumption | (simp [h9_p0, hcl_p0, hw9]; done)) (by first | assumption | (simp [h9_p0, hcl_p0, hw9]; done))).symm
        have hP9 : va_P (dC, dI) vwCl (hp_X cI cZ cO o b ad v r n) s.heap := by exact hP
        refine W.widen (k := 1) (n := 6) (Nat.le_of_ble_eq_true rfl) (Nat.le_of_ble_eq_true rfl) ?_
        exact vx_ret (W.iret (v := r 12 i_p0) hx hb hr (fun t ht hW => ⟨⟨r 12 i_p0, ad, rfl, ⟨hc, (by rw [hp_a_elementOf, if_pos hc, hcl_p0]; rfl)⟩, hp_ht ht hP9, hD _ _⟩, hS.F ht⟩) hS.2.2 dX1_elementOf_120)
      · skip
        refine lv_tableIn (x := (nI 9)) (off := 100) (tgt := 121) hx hb dX1_elementOf_21 (by decide) (by decide) (by decide) (by decide) ?_
        refine lv_aload_n hx hb dX1_elementOf_121 rfl (lv_at hl 0 rfl) ?_
        refine vp_callSi (W.runV (As := []) (rest := []) ⟨hx, hb, hml, hown, hts⟩ (c_X0_cells l dC dI cI cZ cO cJ o b ad v r n i_p0 (by omega) ) (cwV 0 hts gX1_elementOf_X0_cells rfl rfl rfl (by decide +kernel) ⟨(Nat.le_of_ble_eq_true rfl), (Nat.le_of_ble_eq_true rfl)⟩) ⟨hp_fbX, va_recv hK hP (ci := 0) (q0 := 6 + i_p0) rfl (hp_X_e (by omega)), fun U hU hW => ⟨rfl, hp_toX hP hK hN hU hW⟩⟩ rfl rfl hl.1 rfl (lv_room (Nat.le_of_ble_eq_true rfl)) dX1_elementOf_122 ⟨(Nat.zero_le _), (Nat.zero_le _)⟩) (fun r_3 hr_3 => ?_)
        subst hr_3
        have hc : hp_c_elementOf n (nI i_p0) (nI 9) = 0 := (hp_cdz (by first | assumption | (simp [h9_p0, hcl_p0, hw9]; done)) (by first | assumption | (simp [h9_p0, hcl_p0, hw9]; done)) (by first | assumption | (simp [h9_p0, hcl_p0, hw9]; done))).symm
        have hP9 : va_P (dC, dI) vwCl (hp_X cI cZ cO o b ad v r n) s.heap := by exact hP
        refine W.widen (k := 1) (n := 6) (Nat.le_of_ble_eq_true rfl) (Nat.le_of_ble_eq_true rfl) ?_
        exact vx_ret (W.iret (v := hp_cel r i_p0) hx hb hr (fun t ht hW => ⟨⟨hp_cel r i_p0, ad, rfl, ⟨hc, (by rw [hp_a_elementOf, if_pos hc, hcl_p0]; rfl)⟩, hp_ht ht hP9, hD _ _⟩, hS.F ht⟩) hS.2.2 dX1_elementOf_125)
set_option maxHeartbeats 400000 in
set_option maxRecDepth 100000 in
theorem c_X1_clash (l : Launch) (hl0 : l.stackTraces = false) (dC : Nat → ClassId) (dI : Nat → Nat → Nat) (cI cZ cO cJ : ClassId) (o : Nat) (b ad : Nat → Nat) (v : Nat → Int32) (r : Nat → Nat → Int32) (n : Nat) (sz : Nat)  (p0 p1 : Int32) (hinv : hp_inv v r n) : vx_Met l yX1_clash wsX1_clash ({ frames := 6, cells := 1, slots := 6, locals := 93 }) (va_Pc [.ref o, .int p0, .int p1] (hp_prT (dC, dI) cI cZ cO cJ (hp_X cI cZ cO o b ad v r n) sz)) (va_Qi (S := Nat → Nat) (fun x9 _ => hp_c_clash n p0 p1 = 0 ∧ x9 = hp_b (hp_b_clash r n p0 p1)) (fun u9 t9 => va_P (dC, dI) vwCl (hp_X cI cZ cO o b u9 v r n) t9.heap ∧ va_D (va_A (hp_X cI cZ cO o b ad v r n) sz) (hp_X cI cZ cO o b u9 v r n)) (va_A (hp_X cI cZ cO o b ad v r n) sz)) (vx_X (S := Unit) (fun _ => True) (fun E9 _ t9 => hp_xc [hp_E1] (hp_c_clash n p0 p1) E9 ∧ va_P (dC, dI) vwCl (hp_X cI cZ cO o b ad v r n) t9.heap) (va_A (hp_X cI cZ cO o b ad v r n) sz)) 1 6 (va_A (hp_X cI cZ cO o b ad v r n) sz) := by
  refine vx_ofW (cc := cX1_clash) (maxL := 3) (ret := (some .boolean)) (by decide) rfl ?_
  intro p e s m args below meth c s₁ B hml htab hv
  obtain ⟨rfl, hsz, hP, hK, hD0, hN, hstr, hZu, hZn⟩ := hv
  have hx := B.exec
  have hb := B.bytes
  have hr := B.returns
  have hts := atoms_spec (ws := wsX1_clash) B.pre
  have hown : s.vm.findClass RX1 = some m.cls := findClass_of_methodNamed B.named
  have hlocks := B.notSynchronized
  subst hsz
  have hD := hD0.self (sz := s.heap.size)
  generalize hAe : va_A (hp_X cI cZ cO o b ad v r n) s.heap.size = A at hD hZu hZn ⊢
  replace hD : ∀ v r, va_D A (hp_X cI cZ cO o b ad v r n) := fun _ _ => hp_dX hD
  have hA : ∀ q : Nat, s.heap.size ≤ q → A q := fun q h => by rw [← hAe]; exact Or.inr h
  have hS : va_S A s.heap s.heap [] := va_S.rf
  have hk_1 := hts (.classLink RX1 46 hp_E1) (by decide +kernel)
  have hi_1 := hts (.initialized hp_E1) (by decide +kernel)
  have hm_E1 : ∀ w ∈ (vx_atS RX1 50 hp_E1 hp_nm).filter goodWord, w ∈ wsX1_clash := by decide +kernel
  have hat_1 : ∀ w ∈ vx_atS RX1 50 hp_E1 hp_nm, w.before _ s = true := vx_hat (fun w h => hts w (hm_E1 w h)) hp_nb1 (hp_nB_of hN)
  have hl := lv_entry ([.ref o, .int p0, .int p1]) (n := 3) (Nat.le_of_ble_eq_true rfl)
  rw [lg_entry_eq]
  generalize (lg_sl ([.ref o, .int p0, .int p1]) ++ List.replicate (3 - (lg_sl ([.ref o, .int p0, .int p1])).length) Slot.unset).toArray = ls at hl ⊢
  have hl : lv_has ls 3 [(0, .ref o), (1, .int p0), (2, .int p1)] := hl
  have hn := hinv.1
  rcases hp_el_or n p0 with h9_p0 | h9_p0
  · skip
    rcases hp_el_or n p1 with h9_p1 | h9_p1
    · skip
      refine lv_aload_n hx hb dX1_clash_0 rfl (lv_at hl 0 rfl) ?_
      refine lv_iload_n hx hb dX1_clash_1 rfl (lv_at hl 1 rfl) ?_
      refine va_csq (W.runV (As := [.int p0]) (rest := []) ⟨hx, hb, hml, hown, hts⟩ (c_X1_find_no l dC dI cI cZ cO cJ o b ad v r n p0 hn h9_p0) (cwV 1 hts gX1_clash_X1_find rfl rfl rfl (by decide +kernel) ⟨(Nat.le_of_ble_eq_true rfl), (Nat.le_of_ble_eq_true rfl)⟩) ⟨hp_fbX, va_recv hK hP (ci := 1) (q0 := 0) rfl hp_X_o, fun U hU hW => ⟨rfl, hp_toX hP hK hN hU hW⟩⟩ rfl rfl hl.1 rfl (lv_room (Nat.le_of_ble_eq_true rfl)) dX1_clash_2 ⟨(Nat.zero_le _), (Nat.zero_le _)⟩) (fun r_1 hr_1 => ?_)
      subst hr_1
      refine W.eq (g2 := F0 m 5 ls [.null]) rfl ?_
      refine lv_ifnullN (tgt := 16) hx hb dX1_clash_5 (by decide) ?_
      exact hp_thr (mc := 1) (ms := 6) (k := 0) (nL := 3) hx hb hl0 hml htab hlocks hown hk_1 hi_1 hstr (List.mem_of_getElem? (i := 3) rfl) hat_1 hp_gd1 (by decide +kernel) hZu hZn hP hl dX1_clash_16 dX1_clash_19 dX1_clash_20 dX1_clash_22 dX1_clash_25 ⟨(Nat.le_of_ble_eq_true rfl), (Nat.le_of_ble_eq_true rfl), (Nat.le_of_ble_eq_true rfl), (Nat.le_of_ble_eq_true rfl)⟩ ⟨(Nat.le_of_ble_eq_true rfl), (Nat.le_of_ble_eq_true rfl)⟩ rfl ((hp_cd1 (by first | assumption | (simp [h9_p0, h9_p1]; done))).symm)
    · skip
      obtain ⟨i_p1, hi_p1, rfl⟩ := hp_el_of hn h9_p1
      have hcl_p1 : (nI i_p1).toNatClampNeg = i_p1 := nI_clamp (by omega)
      refine lv_aload_n hx hb dX1_clash_0 rfl (lv_at hl 0 rfl) ?_
      refine lv_iload_n hx hb dX1_clash_1 rfl (lv_at hl 1 rfl) ?_
      refine va_csq (W.runV (As := [.int p0]) (rest := []) ⟨hx, hb, hml, hown, hts⟩ (c_X1_find_no l dC dI cI cZ cO cJ o b ad v r n p0 hn h9_p0) (cwV 1 hts gX1_clash_X1_find rfl rfl rfl (by decide +kernel) ⟨(Nat.le_of_ble_eq_true rfl), (Nat.le_of_ble_eq_true rfl)⟩) ⟨hp_fbX, va_recv hK hP (ci := 1) (q0 := 0) rfl hp_X_o, fun U hU hW => ⟨rfl, hp_toX hP hK hN hU hW⟩⟩ rfl rfl hl.1 rfl (lv_room (Nat.le_of_ble_eq_true rfl)) dX1_clash_2 ⟨(Nat.zero_le _), (Nat.zero_le _)⟩) (fun r_2 hr_2 => ?_)
      subst hr_2
      refine W.eq (g2 := F0 m 5 ls [.null]) rfl ?_
      refine lv_ifnullN (tgt := 16) hx hb dX1_clash_5 (by decide) ?_
      exact hp_thr (mc := 1) (ms := 6) (k := 0) (nL := 3) hx hb hl0 hml htab hlocks hown hk_1 hi_1 hstr (List.mem_of_getElem? (i := 3) rfl) hat_1 hp_gd1 (by decide +kernel) hZu hZn hP hl dX1_clash_16 dX1_clash_19 dX1_clash_20 dX1_clash_22 dX1_clash_25 ⟨(Nat.le_of_ble_eq_true rfl), (Nat.le_of_ble_eq_true rfl), (Nat.le_of_ble_eq_true rfl), (Nat.le_of_ble_eq_true rfl)⟩ ⟨(Nat.le_of_ble_eq_true rfl), (Nat.le_of_ble_eq_true rfl)⟩ rfl ((hp_cd1 (by first | assumption | (simp [h9_p0, h9_p1, hcl_p1]; done))).symm)
  · skip
    obtain ⟨i_p0, hi_p0, rfl⟩ := hp_el_of hn h9_p0
    have hcl_p0 : (nI i_p0).toNatClampNeg = i_p0 := nI_clamp (by omega)
    rcases hp_el_or n p1 with h9_p1 | h9_p1
    · skip
      refine lv_aload_n hx hb dX1_clash_0 rfl (lv_at hl 0 rfl) ?_
      refine lv_iload_n hx hb dX1_clash_1 rfl (lv_at hl 1 rfl) ?_
      refine va_csq (W.runV (As := [.int (nI i_p0)]) (rest := []) ⟨hx, hb, hml, hown, hts⟩ (c_X1_find l dC dI cI cZ cO cJ o b ad v r n i_p0 (nI i_p0) rfl hn (by omega)) (cwV 1 hts gX1_clash_X1_find rfl rfl rfl (by decide +kernel) ⟨(Nat.le_of_ble_eq_true rfl), (Nat.le_of_ble_eq_true rfl)⟩) ⟨hp_fbX, va_recv hK hP (ci := 1) (q0 := 0) rfl hp_X_o, fun U hU hW => ⟨rfl, hp_toX hP hK hN hU hW⟩⟩ rfl rfl hl.1 rfl (lv_room (Nat.le_of_ble_eq_true rfl)) dX1_clash_2 ⟨(Nat.zero_le _), (Nat.zero_le _)⟩) (fun r_3 hr_3 => ?_)
      subst hr_3
      refine W.eq (g2 := F0 m 5 ls [.ref (ad i_p0)]) rfl ?_
      refine lv_ifnull hx hb dX1_clash_5 ?_
      refine lv_aload_n hx hb dX1_clash_8 rfl (lv_at hl 0 rfl) ?_
      refine lv_iload_n hx hb dX1_clash_9 rfl (lv_at hl 2 rfl) ?_
      refine va_csq (W.runV (As := [.int p1]) (rest := []) ⟨hx, hb, hml, hown, hts⟩ (c_X1_find_no l dC dI cI cZ cO cJ o b ad v r n p1 hn h9_p1) (cwV 1 hts gX1_clash_X1_find rfl rfl rfl (by decide +kernel) ⟨(Nat.le_of_ble_eq_true rfl), (Nat.le_of_ble_eq_true rfl)⟩) ⟨hp_fbX, va_recv hK hP (ci := 1) (q0 := 0) rfl hp_X_o, fun U hU hW => ⟨rfl, hp_toX hP hK hN hU hW⟩⟩ rfl rfl hl.1 rfl (lv_room (Nat.le_of_ble_eq_true rfl)) dX1_clash_10 ⟨(Nat.zero_le _), (Nat.zero_le _)⟩) (fun r_4 hr_4 => ?_)
      subst hr_4
      refine W.eq (g2 := F0 m 13 ls [.null]) rfl ?_
      refine lv_ifnonnullN hx hb dX1_clash_13 ?_
      exact hp_thr (mc := 1) (ms := 6) (k := 0) (nL := 3) hx hb hl0 hml htab hlocks hown hk_1 hi_1 hstr (List.mem_of_getElem? (i := 3) rfl) hat_1 hp_gd1 (by decide +kernel) hZu hZn hP hl dX1_clash_16 dX1_clash_19 dX1_clash_20 dX1_clash_22 dX1_clash_25 ⟨(Nat.le_of_ble_eq_true rfl), (Nat.le_of_ble_eq_true rfl), (Nat.le_of_ble_eq_true rfl), (Nat.le_of_ble_eq_true rfl)⟩ ⟨(Nat.le_of_ble_eq_true rfl), (Nat.le_of_ble_eq_true rfl)⟩ rfl ((hp_cd1 (by first | assumption | (simp [h9_p0, hcl_p0, h9_p1]; done))).symm)
    · skip
      obtain ⟨i_p1, hi_p1, rfl⟩ := hp_el_of hn h9_p1
      have hcl_p1 : (nI i_p1).toNatClampNeg = i_p1 := nI_clamp (by omega)
      refine lv_aload_n hx hb dX1_clash_0 rfl (lv_at hl 0 rfl) ?_
      refine lv_iload_n hx hb dX1_clash_1 rfl (lv_at hl 1 rfl) ?_
      refine va_csq (W.runV (As := [.int (nI i_p0)]) (rest := []) ⟨hx, hb, hml, hown, hts⟩ (c_X1_find l dC dI cI cZ cO cJ o b ad v r n i_p0 (nI i_p0) rfl hn (by omega)) (cwV 1 hts gX1_clash_X1_find rfl rfl rfl (by decide +kernel) ⟨(Nat.le_of_ble_eq_true rfl), (Nat.le_of_ble_eq_true rfl)⟩) ⟨hp_fbX, va_recv hK hP (ci := 1) (q0 := 0) rfl hp_X_o, fun U hU hW => ⟨rfl, hp_toX hP hK hN hU hW⟩⟩ rfl rfl hl.1 rfl (lv_room (Nat.le_of_ble_eq_true rfl)) dX1_clash_2 ⟨(Nat.zero_le _), (Nat.zero_le _)⟩) (fun r_5 hr_5 => ?_)
      subst hr_5
      refine W.eq (g2 := F0 m 5 ls [.ref (ad i_p0)]) rfl ?_
      refine lv_ifnull hx hb dX1_clash_5 ?_
      refine lv_aload_n hx hb dX1_clash_8 rfl (lv_at hl 0 rfl) ?_
      refine lv_iload_n hx hb dX1_clash_9 rfl (lv_at hl 2 rfl) ?_
      refine va_csq (W.runV (As := [.int (nI i_p1)]) (rest := []) ⟨hx, hb, hml, hown, hts⟩ (c_X1_find l dC dI cI cZ cO cJ o b ad v r n i_p1 (nI i_p1) rfl hn (by omega)) (cwV 1 hts gX1_clash_X1_find rfl rfl rfl (by decide +kernel) ⟨(Nat.le_of_ble_eq_true rfl), (Nat.le_of_ble_eq_true rfl)⟩) ⟨hp_fbX, va_recv hK hP (ci := 1) (q0 := 0) rfl hp_X_o, fun U hU hW => ⟨rfl, hp_toX hP hK hN hU hW⟩⟩ rfl rfl hl.1 rfl (lv_room (Nat.le_of_ble_eq_true rfl)) dX1_clash_10 ⟨(Nat.zero_le _), (Nat.zero_le _)⟩) (fun r_6 hr_6 => ?_)
      subst hr_6
      refine W.eq (g2 := F0 m 13 ls [.ref (ad i_p1)]) rfl ?_
      refine lv_ifnonnull (tgt := 26) hx hb dX1_clash_13 (by decide) ?_
      refine lv_aload_n hx hb dX1_clash_26 rfl (lv_at hl 0 rfl) ?_
      refine lv_iload_n hx hb dX1_clash_27 rfl (lv_at hl 1 rfl) ?_
      refine lv_iload_n hx hb dX1_clash_28 rfl (lv_at hl 2 rfl) ?_
      refine vp_callSi (W.runV (As := [.int (nI i_p0), .int (nI i_p1)]) (rest := []) ⟨hx, hb, hml, hown, hts⟩ (c_X1_isClashingPair l dC dI cI cZ cO cJ o b ad v r n i_p0 (nI i_p0) rfl i_p1 (nI i_p1) rfl (by omega) (by omega) hinv) (cwV 2 hts gX1_clash_X1_isClashingPair rfl rfl rfl (by decide +kernel) ⟨(Nat.le_of_ble_eq_true rfl), (Nat.le_of_ble_eq_true rfl)⟩) ⟨hp_fbX, va_recv hK hP (ci := 1) (q0 := 0) rfl hp_X_o, fun U hU hW => ⟨rfl, hp_toX hP hK hN hU hW⟩⟩ rfl rfl hl.1 rfl (lv_room (Nat.le_of_ble_eq_true rfl)) dX1_clash_29 ⟨(Nat.zero_le _), (Nat.zero_le _)⟩) (fun r_7 hr_7 => ?_)
      subst hr_7
      have hc : hp_c_clash n (nI i_p0) (nI i_p1) = 0 := (hp_cdz (by first | assumption | (simp [h9_p0, hcl_p0, h9_p1, hcl_p1]; done)) (by first | assumption | (simp [h9_p0, hcl_p0, h9_p1, hcl_p1]; done)) (by first | assumption | (simp [h9_p0, hcl_p0, h9_p1, hcl_p1]; done))).symm
      have hP9 : va_P (dC, dI) vwCl (hp_X cI cZ cO o b ad v r n) s.heap := by exact hP
      refine W.widen (k := 1) (n := 6) (Nat.le_of_ble_eq_true rfl) (Nat.le_of_ble_eq_true rfl) ?_
      exact vx_ret (W.zret (ty := .boolean) (v := hp_b (hp_cla r i_p0 i_p1)) hx hb hr (hp_nar _) (fun t ht hW => ⟨⟨hp_b (hp_cla r i_p0 i_p1), ad, rfl, ⟨hc, (by rw [hp_b_clash, decide_eq_true hc, Bool.true_and, hcl_p0, hcl_p1])⟩, hp_ht ht hP9, hD _ _⟩, hS.F ht⟩) hS.2.2 dX1_clash_32)
