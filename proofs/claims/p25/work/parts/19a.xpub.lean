/-! the class: its public methods -/
set_option maxHeartbeats 400000 in
set_option maxRecDepth 100000 in
theorem c_X1_clear (l : Launch) (hl0 : l.stackTraces = false) (dC : Nat → ClassId) (dI : Nat → Nat → Nat) (cI cZ cO cJ : ClassId) (o : Nat) (b ad : Nat → Nat) (v : Nat → Int32) (r : Nat → Nat → Int32) (n : Nat) (sz : Nat)  (p0 p1 p2 : Int32) : vx_Met l yX1_clear wsX1_clear ({ frames := 6, cells := 1, slots := 6, locals := 82 }) (va_Pc [.ref o, .int p0, .int p1, .int p2] (hp_prT (dC, dI) cI cZ cO cJ (hp_X cI cZ cO o b ad v r n) sz)) (va_Qi (S := Nat → Nat) (fun x9 _ => hp_c_clear p0 p1 p2 = 0 ∧ x9 = hp_a_clear r p0 p1 p2) (fun u9 t9 => va_P (dC, dI) vwCl (hp_X cI cZ cO o b u9 v (hp_r_clear r p0 p1 p2) n) t9.heap ∧ va_D (va_A (hp_X cI cZ cO o b ad v r n) sz) (hp_X cI cZ cO o b u9 v (hp_r_clear r p0 p1 p2) n)) (va_A (hp_X cI cZ cO o b ad v r n) sz)) (vx_X (S := Unit) (fun _ => True) (fun E9 _ t9 => hp_xc [hp_E1, hp_E2] (hp_c_clear p0 p1 p2) E9 ∧ va_P (dC, dI) vwCl (hp_X cI cZ cO o b ad v r n) t9.heap) (va_A (hp_X cI cZ cO o b ad v r n) sz)) 1 6 (va_A (hp_X cI cZ cO o b ad v r n) sz) := by
  refine vx_ofW (cc := cX1_clear) (maxL := 5) (ret := (some .int)) (by decide) rfl ?_
  intro p e s m args below meth c s₁ B hml htab hv
  obtain ⟨rfl, hsz, hP, hK, hD0, hN, hstr, hZu, hZn⟩ := hv
  have hx := B.exec
  have hb := B.bytes
  have hr := B.returns
  have hts := atoms_spec (ws := wsX1_clear) B.pre
  have hown : s.vm.findClass RX1 = some m.cls := findClass_of_methodNamed B.named
  have hlocks := B.notSynchronized
  subst hsz
  have hD := hD0.self (sz := s.heap.size)
  generalize hAe : va_A (hp_X cI cZ cO o b ad v r n) s.heap.size = A at hD hZu hZn ⊢
  replace hD : ∀ v r, va_D A (hp_X cI cZ cO o b ad v r n) := fun _ _ => hp_dX hD
  have hA : ∀ q : Nat, s.heap.size ≤ q → A q := fun q h => by rw [← hAe]; exact Or.inr h
  have hS : va_S A s.heap s.heap [] := va_S.rf
  have hk_1 := hts (.classLink RX1 46 hp_E1) (by decide +kernel)
  have hi_1 := hts (.initialized hp_E1) (by decide +kernel)
  have hm_E1 : ∀ w ∈ (vx_atS RX1 50 hp_E1 hp_nm).filter goodWord, w ∈ wsX1_clear := by decide +kernel
  have hat_1 : ∀ w ∈ vx_atS RX1 50 hp_E1 hp_nm, w.before _ s = true := vx_hat (fun w h => hts w (hm_E1 w h)) hp_nb1 (hp_nB_of hN)
  have hk_2 := hts (.classLink RX1 57 hp_E2) (by decide +kernel)
  have hi_2 := hts (.initialized hp_E2) (by decide +kernel)
  have hm_E2 : ∀ w ∈ (vx_atS RX1 61 hp_E2 hp_nm).filter goodWord, w ∈ wsX1_clear := by decide +kernel
  have hat_2 : ∀ w ∈ vx_atS RX1 61 hp_E2 hp_nm, w.before _ s = true := vx_hat (fun w h => hts w (hm_E2 w h)) hp_nb2 (hp_nB_of hN)
  have hf_19 := hts (.fieldLink RX1 19 "Wallplan" "clearances" "[I") (by decide +kernel)
  have hinX1 : ∀ w ∈ wsX10, w ∈ wsX1_clear := by decide +kernel
  have hl := lv_entry ([.ref o, .int p0, .int p1, .int p2]) (n := 5) (Nat.le_of_ble_eq_true rfl)
  rw [lg_entry_eq]
  generalize (lg_sl ([.ref o, .int p0, .int p1, .int p2]) ++ List.replicate (5 - (lg_sl ([.ref o, .int p0, .int p1, .int p2])).length) Slot.unset).toArray = ls at hl ⊢
  have hl : lv_has ls 5 [(0, .ref o), (1, .int p0), (2, .int p1), (3, .int p2)] := hl
  refine lv_iload_n hx hb dX1_clear_0 rfl (lv_at hl 1 rfl) ?_
  refine vp_callSi (W.runS (As := [.int p0]) (rest := []) ⟨hx, hb, hml, hown, hts⟩ (c_X1_isKind l p0) (va_cwS 1 hts gX1_clear_X1_isKind rfl rfl rfl (by decide +kernel) ⟨(Nat.le_of_ble_eq_true rfl), (Nat.le_of_ble_eq_true rfl)⟩) ⟨hp_nfb, fun _ _ _ => ⟨rfl, trivial⟩⟩ rfl rfl hl.1 rfl (lv_room (Nat.le_of_ble_eq_true rfl)) dX1_clear_1 ⟨(Nat.zero_le _), (Nat.zero_le _)⟩) (fun r_1 hr_1 => ?_)
  subst hr_1
  refine lv_if_eq (tgt := 14) hx hb dX1_clear_4 (by decide) (fun c_2 => ?_) (fun c_2 => ?_)
  · skip
    have c_2 := hp_bz c_2
    exact hp_thr (mc := 1) (ms := 6) (k := 0) (nL := 5) hx hb hl0 hml htab hlocks hown hk_1 hi_1 hstr (List.mem_of_getElem? (i := 0) rfl) hat_1 hp_gd1 (by decide +kernel) hZu hZn hP hl dX1_clear_14 dX1_clear_17 dX1_clear_18 dX1_clear_20 dX1_clear_23 ⟨(Nat.le_of_ble_eq_true rfl), (Nat.le_of_ble_eq_true rfl), (Nat.le_of_ble_eq_true rfl), (Nat.le_of_ble_eq_true rfl)⟩ ⟨(Nat.le_of_ble_eq_true rfl), (Nat.le_of_ble_eq_true rfl)⟩ rfl ((hp_cd1 (by first | assumption | (simp [c_2]; done))).symm)
  · skip
    have c_2 := hp_bn c_2
    have hk0 := c_2
    refine lv_iload_n hx hb dX1_clear_7 rfl (lv_at hl 2 rfl) ?_
    refine vp_callSi (W.runS (As := [.int p1]) (rest := []) ⟨hx, hb, hml, hown, hts⟩ (c_X1_isKind l p1) (va_cwS 1 hts gX1_clear_X1_isKind rfl rfl rfl (by decide +kernel) ⟨(Nat.le_of_ble_eq_true rfl), (Nat.le_of_ble_eq_true rfl)⟩) ⟨hp_nfb, fun _ _ _ => ⟨rfl, trivial⟩⟩ rfl rfl hl.1 rfl (lv_room (Nat.le_of_ble_eq_true rfl)) dX1_clear_8 ⟨(Nat.zero_le _), (Nat.zero_le _)⟩) (fun r_3 hr_3 => ?_)
    subst hr_3
    refine lv_if_ne (tgt := 24) hx hb dX1_clear_11 (by decide) (fun c_4 => ?_) (fun c_4 => ?_)
    · skip
      have c_4 := hp_bn c_4
      have hk1 := c_4
      refine lv_iload_n hx hb dX1_clear_24 rfl (lv_at hl 3 rfl) ?_
      refine lv_iconst (v := 0) hx hb dX1_clear_25 (by decide) ?_
      refine lv_iconst (v := 3) hx hb dX1_clear_26 (by decide) ?_
      refine vp_callSi (W.runS (As := [.int p2, .int 0, .int 3]) (rest := []) ⟨hx, hb, hml, hown, hts⟩ (c_X1_isWithin l p2 0 3) (va_cwS 3 hts gX1_clear_X1_isWithin rfl rfl rfl (by decide +kernel) ⟨(Nat.le_of_ble_eq_true rfl), (Nat.le_of_ble_eq_true rfl)⟩) ⟨hp_nfb, fun _ _ _ => ⟨rfl, trivial⟩⟩ rfl rfl hl.1 rfl (lv_room (Nat.le_of_ble_eq_true rfl)) dX1_clear_27 ⟨(Nat.zero_le _), (Nat.zero_le _)⟩) (fun r_5 hr_5 => ?_)
      subst hr_5
      refine lv_if_ne (tgt := 43) hx hb dX1_clear_30 (by decide) (fun c_6 => ?_) (fun c_6 => ?_)
      · skip
        have c_6 := hp_bn c_6
        refine lv_aload_n hx hb dX1_clear_43 rfl (lv_at hl 0 rfl) ?_
        refine va_get (D := (dC, dI)) (ci := 1) (v := .ref (b 2)) (C := RX1) (T := TX1) (N := 8) hx hb hts hinX1 hown hK hP 0 hp_X_o rfl 2 (by decide) hf_19 (fun _ h9 => h9) rfl dX1_clear_44 ?_
        refine lv_iload_n hx hb dX1_clear_47 rfl (lv_at hl 1 rfl) ?_
        refine lv_iconst (v := 3) hx hb dX1_clear_48 (by decide) ?_
        refine lv_imul hx hb dX1_clear_49 ?_
        refine lv_iload_n hx hb dX1_clear_50 rfl (lv_at hl 2 rfl) ?_
        refine lv_iadd hx hb dX1_clear_51 ?_
        refine hp_ialdx (v := r 14 (((p0 * 3) + p1).toNatClampNeg)) hx hb hK hP 2 0 hp_X_14 rfl (i := (p0 * 3) + p1) (by rw [Int32.mul_comm]; exact hp_ci_in hk0 hk1) rfl dX1_clear_52 ?_
        refine lv_istore (lv' := [(4, .int (r 14 (((p0 * 3) + p1).toNatClampNeg))), (0, .ref o), (1, .int p0), (2, .int p1), (3, .int p2)]) hx hb dX1_clear_53 hl (by decide) rfl (fun ls hl => ?_)
        refine lv_aload_n hx hb dX1_clear_55 rfl (lv_at hl 1 rfl) ?_
        refine va_get (D := (dC, dI)) (ci := 1) (v := .ref (b 2)) (C := RX1) (T := TX1) (N := 8) hx hb hts hinX1 hown hK hP 0 hp_X_o rfl 2 (by decide) hf_19 (fun _ h9 => h9) rfl dX1_clear_56 ?_
        refine lv_iload_n hx hb dX1_clear_59 rfl (lv_at hl 2 rfl) ?_
        refine lv_iconst (v := 3) hx hb dX1_clear_60 (by decide) ?_
        refine lv_imul hx hb dX1_clear_61 ?_
        refine lv_iload_n hx hb dX1_clear_62 rfl (lv_at hl 3 rfl) ?_
        refine lv_iadd hx hb dX1_clear_63 ?_
        refine lv_iload_n hx hb dX1_clear_64 rfl (lv_at hl 4 rfl) ?_
        refine va_iast hx hb hK hP (hD _ _) hS 2 0 hp_X_14 rfl (i := (p0 * 3) + p1) (x := p2) (by rw [Int32.mul_comm]; exact hp_ci_in hk0 hk1) dX1_clear_65 (fun H_7 locs_7 hP1 _ hS1 => ?_)
        replace hP : va_P (dC, dI) vwCl (hp_X cI cZ cO o b ad v (hp_set r 14 (((p0 * 3) + p1).toNatClampNeg) p2) n) H_7 := hp_cP hp_X_s14 hP1
        replace hS := hS1
        clear hP1 hS1
        refine lv_aload_n hx hb dX1_clear_66 rfl (lv_at hl 1 rfl) ?_
        refine va_get (D := (dC, dI)) (ci := 1) (v := .ref (b 2)) (C := RX1) (T := TX1) (N := 8) hx hb hts hinX1 hown hK hP 0 hp_X_o rfl 2 (by decide) hf_19 (fun _ h9 => h9) rfl dX1_clear_67 ?_
        refine lv_iload_n hx hb dX1_clear_70 rfl (lv_at hl 3 rfl) ?_
        refine lv_iconst (v := 3) hx hb dX1_clear_71 (by decide) ?_
        refine lv_imul hx hb dX1_clear_72 ?_
        refine lv_iload_n hx hb dX1_clear_73 rfl (lv_at hl 2 rfl) ?_
        refine lv_iadd hx hb dX1_clear_74 ?_
        refine lv_iload_n hx hb dX1_clear_75 rfl (lv_at hl 4 rfl) ?_
        refine va_iast hx hb hK hP (hD _ _) hS 2 0 hp_X_14 rfl (i := (p1 * 3) + p0) (x := p2) (by rw [Int32.mul_comm]; exact hp_ci_in hk1 hk0) dX1_clear_76 (fun H_8 locs_8 hP1 _ hS1 => ?_)
        replace hP : va_P (dC, dI) vwCl (hp_X cI cZ cO o b ad v (hp_set (hp_set r 14 (((p0 * 3) + p1).toNatClampNeg) p2) 14 (((p1 * 3) + p0).toNatClampNeg) p2) n) H_8 := hp_cP hp_X_s14 hP1
        replace hS := hS1
        clear hP1 hS1
        refine lv_iload hx hb dX1_clear_77 (lv_at hl 0 rfl) ?_
        have hc : hp_c_clear p0 p1 p2 = 0 := (hp_cdz (by first | assumption | (simp [c_2, c_4, c_6]; done)) (by first | assumption | (simp [c_2, c_4, c_6]; done)) (by first | assumption | (simp [c_2, c_4, c_6]; done))).symm
        have hP9 : va_P (dC, dI) vwCl (hp_X cI cZ cO o b ad v (hp_r_clear r p0 p1 p2) n) H_8 := by simp only [hp_r_clear, if_pos hc, hp_ci]; rw [Int32.mul_comm 3 p0, Int32.mul_comm 3 p1]; exact hP
        refine W.widen (k := 1) (n := 6) (Nat.le_of_ble_eq_true rfl) (Nat.le_of_ble_eq_true rfl) ?_
        exact vx_ret (W.iret (v := r 14 (((p0 * 3) + p1).toNatClampNeg)) hx hb hr (fun t ht hW => ⟨⟨r 14 (((p0 * 3) + p1).toNatClampNeg), ad, rfl, ⟨hc, (by rw [hp_a_clear, if_pos hc, hp_ci, Int32.mul_comm])⟩, hp_ht ht hP9, hD _ _⟩, hS.F ht⟩) hS.2.2 dX1_clear_79)
      · skip
        have c_6 := hp_bz c_6
        exact hp_thr (mc := 1) (ms := 6) (k := 1) (nL := 5) hx hb hl0 hml htab hlocks hown hk_2 hi_2 hstr (List.mem_of_getElem? (i := 1) rfl) hat_2 hp_gd2 (by decide +kernel) hZu hZn hP hl dX1_clear_33 dX1_clear_36 dX1_clear_37 dX1_clear_39 dX1_clear_42 ⟨(Nat.le_of_ble_eq_true rfl), (Nat.le_of_ble_eq_true rfl), (Nat.le_of_ble_eq_true rfl), (Nat.le_of_ble_eq_true rfl)⟩ ⟨(Nat.le_of_ble_eq_true rfl), (Nat.le_of_ble_eq_true rfl)⟩ rfl ((hp_cd2 (by first | assumption | (simp [c_2, c_4, c_6]; done)) (by first | assumption | (simp [c_2, c_4, c_6]; done))).symm)
    · skip
      have c_4 := hp_bz c_4
      exact hp_thr (mc := 1) (ms := 6) (k := 0) (nL := 5) hx hb hl0 hml htab hlocks hown hk_1 hi_1 hstr (List.mem_of_getElem? (i := 0) rfl) hat_1 hp_gd1 (by decide +kernel) hZu hZn hP hl dX1_clear_14 dX1_clear_17 dX1_clear_18 dX1_clear_20 dX1_clear_23 ⟨(Nat.le_of_ble_eq_true rfl), (Nat.le_of_ble_eq_true rfl), (Nat.le_of_ble_eq_true rfl), (Nat.le_of_ble_eq_true rfl)⟩ ⟨(Nat.le_of_ble_eq_true rfl), (Nat.le_of_ble_eq_true rfl)⟩ rfl ((hp_cd1 (by first | assumption | (simp [c_2, c_4]; done))).symm)
set_option maxHeartbeats 400000 in
set_option maxRecDepth 100000 in
theorem c_X1_part (l : Launch) (hl0 : l.stackTraces = false) (dC : Nat → ClassId) (dI : Nat → Nat → Nat) (cI cZ cO cJ : ClassId) (o : Nat) (b ad : Nat → Nat) (v : Nat → Int32) (r : Nat → Nat → Int32) (n : Nat) (sz : Nat)  (p0 p1 : Int32) : vx_Met l yX1_part wsX1_part ({ frames := 6, cells := 1, slots := 6, locals := 82 }) (va_Pc [.ref o, .int p0, .int p1] (hp_prT (dC, dI) cI cZ cO cJ (hp_X cI cZ cO o b ad v r n) sz)) (va_Qi (S := Nat → Nat) (fun x9 _ => hp_c_part p0 p1 = 0 ∧ x9 = hp_a_part r p0 p1) (fun u9 t9 => va_P (dC, dI) vwCl (hp_X cI cZ cO o b u9 v (hp_r_part r p0 p1) n) t9.heap ∧ va_D (va_A (hp_X cI cZ cO o b ad v r n) sz) (hp_X cI cZ cO o b u9 v (hp_r_part r p0 p1) n)) (va_A (hp_X cI cZ cO o b ad v r n) sz)) (vx_X (S := Unit) (fun _ => True) (fun E9 _ t9 => hp_xc [hp_E1, hp_E2] (hp_c_part p0 p1) E9 ∧ va_P (dC, dI) vwCl (hp_X cI cZ cO o b ad v r n) t9.heap) (va_A (hp_X cI cZ cO o b ad v r n) sz)) 1 6 (va_A (hp_X cI cZ cO o b ad v r n) sz) := by
  refine vx_ofW (cc := cX1_part) (maxL := 4) (ret := (some .int)) (by decide) rfl ?_
  intro p e s m args below meth c s₁ B hml htab hv
  obtain ⟨rfl, hsz, hP, hK, hD0, hN, hstr, hZu, hZn⟩ := hv
  have hx := B.exec
  have hb := B.bytes
  have hr := B.returns
  have hts := atoms_spec (ws := wsX1_part) B.pre
  have hown : s.vm.findClass RX1 = some m.cls := findClass_of_methodNamed B.named
  have hlocks := B.notSynchronized
  subst hsz
  have hD := hD0.self (sz := s.heap.size)
  generalize hAe : va_A (hp_X cI cZ cO o b ad v r n) s.heap.size = A at hD hZu hZn ⊢
  replace hD : ∀ v r, va_D A (hp_X cI cZ cO o b ad v r n) := fun _ _ => hp_dX hD
  have hA : ∀ q : Nat, s.heap.size ≤ q → A q := fun q h => by rw [← hAe]; exact Or.inr h
  have hS : va_S A s.heap s.heap [] := va_S.rf
  have hk_1 := hts (.classLink RX1 46 hp_E1) (by decide +kernel)
  have hi_1 := hts (.initialized hp_E1) (by decide +kernel)
  have hm_E1 : ∀ w ∈ (vx_atS RX1 50 hp_E1 hp_nm).filter goodWord, w ∈ wsX1_part := by decide +kernel
  have hat_1 : ∀ w ∈ vx_atS RX1 50 hp_E1 hp_nm, w.before _ s = true := vx_hat (fun w h => hts w (hm_E1 w h)) hp_nb1 (hp_nB_of hN)
  have hk_2 := hts (.classLink RX1 57 hp_E2) (by decide +kernel)
  have hi_2 := hts (.initialized hp_E2) (by decide +kernel)
  have hm_E2 : ∀ w ∈ (vx_atS RX1 61 hp_E2 hp_nm).filter goodWord, w ∈ wsX1_part := by decide +kernel
  have hat_2 : ∀ w ∈ vx_atS RX1 61 hp_E2 hp_nm, w.before _ s = true := vx_hat (fun w h => hts w (hm_E2 w h)) hp_nb2 (hp_nB_of hN)
  have hf_23 := hts (.fieldLink RX1 23 "Wallplan" "partCells" "[I") (by decide +kernel)
  have hinX1 : ∀ w ∈ wsX10, w ∈ wsX1_part := by decide +kernel
  have hl := lv_entry ([.ref o, .int p0, .int p1]) (n := 4) (Nat.le_of_ble_eq_true rfl)
  rw [lg_entry_eq]
  generalize (lg_sl ([.ref o, .int p0, .int p1]) ++ List.replicate (4 - (lg_sl ([.ref o, .int p0, .int p1])).length) Slot.unset).toArray = ls at hl ⊢
  have hl : lv_has ls 4 [(0, .ref o), (1, .int p0), (2, .int p1)] := hl
  refine lv_iload_n hx hb dX1_part_0 rfl (lv_at hl 1 rfl) ?_
  refine vp_callSi (W.runS (As := [.int p0]) (rest := []) ⟨hx, hb, hml, hown, hts⟩ (c_X1_isKind l p0) (va_cwS 1 hts gX1_part_X1_isKind rfl rfl rfl (by decide +kernel) ⟨(Nat.le_of_ble_eq_true rfl), (Nat.le_of_ble_eq_true rfl)⟩) ⟨hp_nfb, fun _ _ _ => ⟨rfl, trivial⟩⟩ rfl rfl hl.1 rfl (lv_room (Nat.le_of_ble_eq_true rfl)) dX1_part_1 ⟨(Nat.zero_le _), (Nat.zero_le _)⟩) (fun r_1 hr_1 => ?_)
  subst hr_1
  refine lv_if_ne (tgt := 17) hx hb dX1_part_4 (by decide) (fun c_2 => ?_) (fun c_2 => ?_)
  · skip
    have c_2 := hp_bn c_2
    have hk0 := c_2
    refine lv_iload_n hx hb dX1_part_17 rfl (lv_at hl 2 rfl) ?_
    refine lv_iconst (v := 1) hx hb dX1_part_18 (by decide) ?_
    refine lv_bipush (v := 12) hx hb dX1_part_19 (by decide) ?_
    refine vp_callSi (W.runS (As := [.int p1, .int 1, .int 12]) (rest := []) ⟨hx, hb, hml, hown, hts⟩ (c_X1_isWithin l p1 1 12) (va_cwS 3 hts gX1_part_X1_isWithin rfl rfl rfl (by decide +kernel) ⟨(Nat.le_of_ble_eq_true rfl), (Nat.le_of_ble_eq_true rfl)⟩) ⟨hp_nfb, fun _ _ _ => ⟨rfl, trivial⟩⟩ rfl rfl hl.1 rfl (lv_room (Nat.le_of_ble_eq_true rfl)) dX1_part_21 ⟨(Nat.zero_le _), (Nat.zero_le _)⟩) (fun r_3 hr_3 => ?_)
    subst hr_3
    refine lv_if_ne (tgt := 37) hx hb dX1_part_24 (by decide) (fun c_4 => ?_) (fun c_4 => ?_)
    · skip
      have c_4 := hp_bn c_4
      refine lv_aload_n hx hb dX1_part_37 rfl (lv_at hl 0 rfl) ?_
      refine va_get (D := (dC, dI)) (ci := 1) (v := .ref (b 3)) (C := RX1) (T := TX1) (N := 8) hx hb hts hinX1 hown hK hP 0 hp_X_o rfl 3 (by decide) hf_23 (fun _ h9 => h9) rfl dX1_part_38 ?_
      refine lv_iload_n hx hb dX1_part_41 rfl (lv_at hl 1 rfl) ?_
      refine hp_ialdx (v := r 15 p0.toNatClampNeg) hx hb hK hP 3 0 hp_X_15 rfl (i := p0) (hp_vin (hp_kd_ix hk0) (by decide) (by decide)) rfl dX1_part_42 ?_
      refine lv_istore_n (lv' := [(3, .int (r 15 p0.toNatClampNeg)), (0, .ref o), (1, .int p0), (2, .int p1)]) hx hb dX1_part_43 rfl hl (by decide) rfl (fun ls hl => ?_)
      refine lv_aload_n hx hb dX1_part_44 rfl (lv_at hl 1 rfl) ?_
      refine va_get (D := (dC, dI)) (ci := 1) (v := .ref (b 3)) (C := RX1) (T := TX1) (N := 8) hx hb hts hinX1 hown hK hP 0 hp_X_o rfl 3 (by decide) hf_23 (fun _ h9 => h9) rfl dX1_part_45 ?_
      refine lv_iload_n hx hb dX1_part_48 rfl (lv_at hl 2 rfl) ?_
      refine lv_iload_n hx hb dX1_part_49 rfl (lv_at hl 3 rfl) ?_
      refine va_iast hx hb hK hP (hD _ _) hS 3 0 hp_X_15 rfl (i := p0) (x := p1) (hp_vin (hp_kd_ix hk0) (by decide) (by decide)) dX1_part_50 (fun H_5 locs_5 hP1 _ hS1 => ?_)
      replace hP : va_P (dC, dI) vwCl (hp_X cI cZ cO o b ad v (hp_set r 15 p0.toNatClampNeg p1) n) H_5 := hp_cP hp_X_s15 hP1
      replace hS := hS1
      clear hP1 hS1
      refine lv_iload_n hx hb dX1_part_51 rfl (lv_at hl 0 rfl) ?_
      have hc : hp_c_part p0 p1 = 0 := (hp_cdz (by first | assumption | (simp [c_2, c_4]; done)) (by first | assumption | (simp [c_2, c_4]; done)) (by first | assumption | (simp [c_2, c_4]; done))).symm
      have hP9 : va_P (dC, dI) vwCl (hp_X cI cZ cO o b ad v (hp_r_part r p0 p1) n) H_5 := by simp only [hp_r_part, if_pos hc]; exact hP
      refine W.widen (k := 1) (n := 6) (Nat.le_of_ble_eq_true rfl) (Nat.le_of_ble_eq_true rfl) ?_
      exact vx_ret (W.iret (v := r 15 p0.toNatClampNeg) hx hb hr (fun t ht hW => ⟨⟨r 15 p0.toNatClampNeg, ad, rfl, ⟨hc, (by rw [hp_a_part, if_pos hc])⟩, hp_ht ht hP9, hD _ _⟩, hS.F ht⟩) hS.2.2 dX1_part_52)
    · skip
      have c_4 := hp_bz c_4
      exact hp_thr (mc := 1) (ms := 6) (k := 1) (nL := 4) hx hb hl0 hml htab hlocks hown hk_2 hi_2 hstr (List.mem_of_getElem? (i := 1) rfl) hat_2 hp_gd2 (by decide +kernel) hZu hZn hP hl dX1_part_27 dX1_part_30 dX1_part_31 dX1_part_33 dX1_part_36 ⟨(Nat.le_of_ble_eq_true rfl), (Nat.le_of_ble_eq_true rfl), (Nat.le_of_ble_eq_true rfl), (Nat.le_of_ble_eq_true rfl)⟩ ⟨(Nat.le_of_ble_eq_true rfl), (Nat.le_of_ble_eq_true rfl)⟩ rfl ((hp_cd2 (by first | assumption | (simp [c_2, c_4]; done)) (by first | assumption | (simp [c_2, c_4]; done))).symm)
  · skip
    have c_2 := hp_bz c_2
    exact hp_thr (mc := 1) (ms := 6) (k := 0) (nL := 4) hx hb hl0 hml htab hlocks hown hk_1 hi_1 hstr (List.mem_of_getElem? (i := 0) rfl) hat_1 hp_gd1 (by decide +kernel) hZu hZn hP hl dX1_part_7 dX1_part_10 dX1_part_11 dX1_part_13 dX1_part_16 ⟨(Nat.le_of_ble_eq_true rfl), (Nat.le_of_ble_eq_true rfl), (Nat.le_of_ble_eq_true rfl), (Nat.le_of_ble_eq_true rfl)⟩ ⟨(Nat.le_of_ble_eq_true rfl), (Nat.le_of_ble_eq_true rfl)⟩ rfl ((hp_cd1 (by first | assumption | (simp [c_2]; done))).symm)
set_option maxHeartbeats 400000 in
set_option maxRecDepth 100000 in
theorem c_X1_lead (l : Launch) (hl0 : l.stackTraces = false) (dC : Nat → ClassId) (dI : Nat → Nat → Nat) (cI cZ cO cJ : ClassId) (o : Nat) (b ad : Nat → Nat) (v : Nat → Int32) (r : Nat → Nat → Int32) (n : Nat) (sz : Nat)  (p0 p1 : Int32) : vx_Met l yX1_lead wsX1_lead ({ frames := 6, cells := 1, slots := 6, locals := 82 }) (va_Pc [.ref o, .int p0, .int p1] (hp_prT (dC, dI) cI cZ cO cJ (hp_X cI cZ cO o b ad v r n) sz)) (va_Qi (S := Nat → Nat) (fun x9 _ => hp_c_lead p0 p1 = 0 ∧ x9 = hp_a_lead r p0 p1) (fun u9 t9 => va_P (dC, dI) vwCl (hp_X cI cZ cO o b u9 v (hp_r_lead r p0 p1) n) t9.heap ∧ va_D (va_A (hp_X cI cZ cO o b ad v r n) sz) (hp_X cI cZ cO o b u9 v (hp_r_lead r p0 p1) n)) (va_A (hp_X cI cZ cO o b ad v r n) sz)) (vx_X (S := Unit) (fun _ => True) (fun E9 _ t9 => hp_xc [hp_E1, hp_E2] (hp_c_lead p0 p1) E9 ∧ va_P (dC, dI) vwCl (hp_X cI cZ cO o b ad v r n) t9.heap) (va_A (hp_X cI cZ cO o b ad v r n) sz)) 1 6 (va_A (hp_X cI cZ cO o b ad v r n) sz) := by
  refine vx_ofW (cc := cX1_lead) (maxL := 4) (ret := (some .int)) (by decide) rfl ?_
  intro p e s m args below meth c s₁ B hml htab hv
  obtain ⟨rfl, hsz, hP, hK, hD0, hN, hstr, hZu, hZn⟩ := hv
  have hx := B.exec
  have hb := B.bytes
  have hr := B.returns
  have hts := atoms_spec (ws := wsX1_lead) B.pre
  have hown : s.vm.findClass RX1 = some m.cls := findClass_of_methodNamed B.named
  have hlocks := B.notSynchronized
  subst hsz
  have hD := hD0.self (sz := s.heap.size)
  generalize hAe : va_A (hp_X cI cZ cO o b ad v r n) s.heap.size = A at hD hZu hZn ⊢
  replace hD : ∀ v r, va_D A (hp_X cI cZ cO o b ad v r n) := fun _ _ => hp_dX hD
  have hA : ∀ q : Nat, s.heap.size ≤ q → A q := fun q h => by rw [← hAe]; exact Or.inr h
  have hS : va_S A s.heap s.heap [] := va_S.rf
  have hk_1 := hts (.classLink RX1 46 hp_E1) (by decide +kernel)
  have hi_1 := hts (.initialized hp_E1) (by decide +kernel)
  have hm_E1 : ∀ w ∈ (vx_atS RX1 50 hp_E1 hp_nm).filter goodWord, w ∈ wsX1_lead := by decide +kernel
  have hat_1 : ∀ w ∈ vx_atS RX1 50 hp_E1 hp_nm, w.before _ s = true := vx_hat (fun w h => hts w (hm_E1 w h)) hp_nb1 (hp_nB_of hN)
  have hk_2 := hts (.classLink RX1 57 hp_E2) (by decide +kernel)
  have hi_2 := hts (.initialized hp_E2) (by decide +kernel)
  have hm_E2 : ∀ w ∈ (vx_atS RX1 61 hp_E2 hp_nm).filter goodWord, w ∈ wsX1_lead := by decide +kernel
  have hat_2 : ∀ w ∈ vx_atS RX1 61 hp_E2 hp_nm, w.before _ s = true := vx_hat (fun w h => hts w (hm_E2 w h)) hp_nb2 (hp_nB_of hN)
  have hf_26 := hts (.fieldLink RX1 26 "Wallplan" "leadDays" "[I") (by decide +kernel)
  have hinX1 : ∀ w ∈ wsX10, w ∈ wsX1_lead := by decide +kernel
  have hl := lv_entry ([.ref o, .int p0, .int p1]) (n := 4) (Nat.le_of_ble_eq_true rfl)
  rw [lg_entry_eq]
  generalize (lg_sl ([.ref o, .int p0, .int p1]) ++ List.replicate (4 - (lg_sl ([.ref o, .int p0, .int p1])).length) Slot.unset).toArray = ls at hl ⊢
  have hl : lv_has ls 4 [(0, .ref o), (1, .int p0), (2, .int p1)] := hl
  refine lv_iload_n hx hb dX1_lead_0 rfl (lv_at hl 1 rfl) ?_
  refine vp_callSi (W.runS (As := [.int p0]) (rest := []) ⟨hx, hb, hml, hown, hts⟩ (c_X1_isKind l p0) (va_cwS 1 hts gX1_lead_X1_isKind rfl rfl rfl (by decide +kernel) ⟨(Nat.le_of_ble_eq_true rfl), (Nat.le_of_ble_eq_true rfl)⟩) ⟨hp_nfb, fun _ _ _ => ⟨rfl, trivial⟩⟩ rfl rfl hl.1 rfl (lv_room (Nat.le_of_ble_eq_true rfl)) dX1_lead_1 ⟨(Nat.zero_le _), (Nat.zero_le _)⟩) (fun r_1 hr_1 => ?_)
  subst hr_1
  refine lv_if_ne (tgt := 17) hx hb dX1_lead_4 (by decide) (fun c_2 => ?_) (fun c_2 => ?_)
  · skip
    have c_2 := hp_bn c_2
    have hk0 := c_2
    refine lv_iload_n hx hb dX1_lead_17 rfl (lv_at hl 2 rfl) ?_
    refine lv_iconst (v := 0) hx hb dX1_lead_18 (by decide) ?_
    refine lv_bipush (v := 100) hx hb dX1_lead_19 (by decide) ?_
    refine vp_callSi (W.runS (As := [.int p1, .int 0, .int 100]) (rest := []) ⟨hx, hb, hml, hown, hts⟩ (c_X1_isWithin l p1 0 100) (va_cwS 3 hts gX1_lead_X1_isWithin rfl rfl rfl (by decide +kernel) ⟨(Nat.le_of_ble_eq_true rfl), (Nat.le_of_ble_eq_true rfl)⟩) ⟨hp_nfb, fun _ _ _ => ⟨rfl, trivial⟩⟩ rfl rfl hl.1 rfl (lv_room (Nat.le_of_ble_eq_true rfl)) dX1_lead_21 ⟨(Nat.zero_le _), (Nat.zero_le _)⟩) (fun r_3 hr_3 => ?_)
    subst hr_3
    refine lv_if_ne (tgt := 37) hx hb dX1_lead_24 (by decide) (fun c_4 => ?_) (fun c_4 => ?_)
    · skip
      have c_4 := hp_bn c_4
      refine lv_aload_n hx hb dX1_lead_37 rfl (lv_at hl 0 rfl) ?_
      refine va_get (D := (dC, dI)) (ci := 1) (v := .ref (b 4)) (C := RX1) (T := TX1) (N := 8) hx hb hts hinX1 hown hK hP 0 hp_X_o rfl 4 (by decide) hf_26 (fun _ h9 => h9) rfl dX1_lead_38 ?_
      refine lv_iload_n hx hb dX1_lead_41 rfl (lv_at hl 1 rfl) ?_
      refine hp_ialdx (v := r 16 p0.toNatClampNeg) hx hb hK hP 4 0 hp_X_16 rfl (i := p0) (hp_vin (hp_kd_ix hk0) (by decide) (by decide)) rfl dX1_lead_42 ?_
      refine lv_istore_n (lv' := [(3, .int (r 16 p0.toNatClampNeg)), (0, .ref o), (1, .int p0), (2, .int p1)]) hx hb dX1_lead_43 rfl hl (by decide) rfl (fun ls hl => ?_)
      refine lv_aload_n hx hb dX1_lead_44 rfl (lv_at hl 1 rfl) ?_
      refine va_get (D := (dC, dI)) (ci := 1) (v := .ref (b 4)) (C := RX1) (T := TX1) (N := 8) hx hb hts hinX1 hown hK hP 0 hp_X_o rfl 4 (by decide) hf_26 (fun _ h9 => h9) rfl dX1_lead_45 ?_
      refine lv_iload_n hx hb dX1_lead_48 rfl (lv_at hl 2 rfl) ?_
      refine lv_iload_n hx hb dX1_lead_49 rfl (lv_at hl 3 rfl) ?_
      refine va_iast hx hb hK hP (hD _ _) hS 4 0 hp_X_16 rfl (i := p0) (x := p1) (hp_vin (hp_kd_ix hk0) (by decide) (by decide)) dX1_lead_50 (fun H_5 locs_5 hP1 _ hS1 => ?_)
      replace hP : va_P (dC, dI) vwCl (hp_X cI cZ cO o b ad v (hp_set r 16 p0.toNatClampNeg p1) n) H_5 := hp_cP hp_X_s16 hP1
      replace hS := hS1
      clear hP1 hS1
      refine lv_iload_n hx hb dX1_lead_51 rfl (lv_at hl 0 rfl) ?_
      have hc : hp_c_lead p0 p1 = 0 := (hp_cdz (by first | assumption | (simp [c_2, c_4]; done)) (by first | assumption | (simp [c_2, c_4]; done)) (by first | assumption | (simp [c_2, c_4]; done))).symm
      have hP9 : va_P (dC, dI) vwCl (hp_X cI cZ cO o b ad v (hp_r_lead r p0 p1) n) H_5 := by simp only [hp_r_lead, if_pos hc]; exact hP
      refine W.widen (k := 1) (n := 6) (Nat.le_of_ble_eq_true rfl) (Nat.le_of_ble_eq_true rfl) ?_
      exact vx_ret (W.iret (v := r 16 p0.toNatClampNeg) hx hb hr (fun t ht hW => ⟨⟨r 16 p0.toNatClampNeg, ad, rfl, ⟨hc, (by rw [hp_a_lead, if_pos hc])⟩, hp_ht ht hP9, hD _ _⟩, hS.F ht⟩) hS.2.2 dX1_lead_52)
    · skip
      have c_4 := hp_bz c_4
      exact hp_thr (mc := 1) (ms := 6) (k := 1) (nL := 4) hx hb hl0 hml htab hlocks hown hk_2 hi_2 hstr (List.mem_of_getElem? (i := 2) rfl) hat_2 hp_gd2 (by decide +kernel) hZu hZn hP hl dX1_lead_27 dX1_lead_30 dX1_lead_31 dX1_lead_33 dX1_lead_36 ⟨(Nat.le_of_ble_eq_true rfl), (Nat.le_of_ble_eq_true rfl), (Nat.le_of_ble_eq_true rfl), (Nat.le_of_ble_eq_true rfl)⟩ ⟨(Nat.le_of_ble_eq_true rfl), (Nat.le_of_ble_eq_true rfl)⟩ rfl ((hp_cd2 (by first | assumption | (simp [c_2, c_4]; done)) (by first | assumption | (simp [c_2, c_4]; done))).symm)
  · skip
    have c_2 := hp_bz c_2
    exact hp_thr (mc := 1) (ms := 6) (k := 0) (nL := 4) hx hb hl0 hml htab hlocks hown hk_1 hi_1 hstr (List.mem_of_getElem? (i := 0) rfl) hat_1 hp_gd1 (by decide +kernel) hZu hZn hP hl dX1_lead_7 dX1_lead_10 dX1_lead_11 dX1_lead_13 dX1_lead_16 ⟨(Nat.le_of_ble_eq_true rfl), (Nat.le_of_ble_eq_true rfl), (Nat.le_of_ble_eq_true rfl), (Nat.le_of_ble_eq_true rfl)⟩ ⟨(Nat.le_of_ble_eq_true rfl), (Nat.le_of_ble_eq_true rfl)⟩ rfl ((hp_cd1 (by first | assumption | (simp [c_2]; done))).symm)
