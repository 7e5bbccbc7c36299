/-! the class: its methods that only read -/
set_option maxHeartbeats 400000 in
set_option maxRecDepth 100000 in
theorem c_X1_isWithin (l : Launch)  (p0 p1 p2 : Int32) : Met l yX1_isWithin wsX1_isWithin ({ frames := 0, cells := 0, slots := 0, locals := 0 }) (va_Pc [.int p0, .int p1, .int p2] hp_no) (vp_Si (fun x9 => x9 = hp_b (hp_in p0 p1 p2))) 0 0 (fun _ => False) := by
  refine Met.ofW (cc := cX1_isWithin) (maxL := 3) (ret := (some .boolean)) (by decide) rfl ?_
  intro p e s m args below meth c s₁ B hml hv
  obtain ⟨rfl, -⟩ := hv
  have hx := B.exec
  have hb := B.bytes
  have hr := B.returns
  have hts := atoms_spec (ws := wsX1_isWithin) B.pre
  have hown : s.vm.findClass RX1 = some m.cls := findClass_of_methodNamed B.named
  have hlocks := B.notSynchronized
  have hl := lv_entry ([.int p0, .int p1, .int p2]) (n := 3) (Nat.le_of_ble_eq_true rfl)
  rw [lg_entry_eq]
  generalize (lg_sl ([.int p0, .int p1, .int p2]) ++ List.replicate (3 - (lg_sl ([.int p0, .int p1, .int p2])).length) Slot.unset).toArray = ls at hl ⊢
  have hl : lv_has ls 3 [(0, .int p0), (1, .int p1), (2, .int p2)] := hl
  refine lv_iload_n hx hb dX1_isWithin_0 rfl (lv_at hl 0 rfl) ?_
  refine lv_iload_n hx hb dX1_isWithin_1 rfl (lv_at hl 1 rfl) ?_
  refine lv_icmp_lt (tgt := 14) hx hb dX1_isWithin_2 (by decide) (fun c_1 => ?_) (fun c_1 => ?_)
  · skip
    have c_1n := hp_ltn c_1
    refine lv_iconst (v := 0) hx hb dX1_isWithin_14 (by decide) ?_
    exact W.zret (ty := .boolean) (v := 0) hx hb hr rfl (fun t ht hW => ⟨_, rfl, (by simp [hp_b, hp_in, c_1, c_1n]), ht⟩) (fun _ h => nomatch h) dX1_isWithin_15
  · skip
    have c_1p := hp_nlt c_1
    refine lv_iload_n hx hb dX1_isWithin_5 rfl (lv_at hl 0 rfl) ?_
    refine lv_iload_n hx hb dX1_isWithin_6 rfl (lv_at hl 2 rfl) ?_
    refine lv_icmp_gt (tgt := 14) hx hb dX1_isWithin_7 (by decide) (fun c_2 => ?_) (fun c_2 => ?_)
    · skip
      have c_2n := hp_ltn c_2
      refine lv_iconst (v := 0) hx hb dX1_isWithin_14 (by decide) ?_
      exact W.zret (ty := .boolean) (v := 0) hx hb hr rfl (fun t ht hW => ⟨_, rfl, (by simp [hp_b, hp_in, c_1, c_1p, c_2, c_2n]), ht⟩) (fun _ h => nomatch h) dX1_isWithin_15
    · skip
      have c_2p := hp_nlt c_2
      refine lv_iconst (v := 1) hx hb dX1_isWithin_10 (by decide) ?_
      refine lv_goto (tgt := 15) hx hb dX1_isWithin_11 (by decide) ?_
      exact W.zret (ty := .boolean) (v := 1) hx hb hr rfl (fun t ht hW => ⟨_, rfl, (by simp [hp_b, hp_in, c_1, c_1p, c_2, c_2p]), ht⟩) (fun _ h => nomatch h) dX1_isWithin_15
set_option maxHeartbeats 400000 in
set_option maxRecDepth 100000 in
theorem c_X1_isKind (l : Launch)  (p0 : Int32) : Met l yX1_isKind wsX1_isKind ({ frames := 1, cells := 0, slots := 0, locals := 22 }) (va_Pc [.int p0] hp_no) (vp_Si (fun x9 => x9 = hp_b (hp_kd p0))) 0 0 (fun _ => False) := by
  refine Met.ofW (cc := cX1_isKind) (maxL := 1) (ret := (some .boolean)) (by decide) rfl ?_
  intro p e s m args below meth c s₁ B hml hv
  obtain ⟨rfl, -⟩ := hv
  have hx := B.exec
  have hb := B.bytes
  have hr := B.returns
  have hts := atoms_spec (ws := wsX1_isKind) B.pre
  have hown : s.vm.findClass RX1 = some m.cls := findClass_of_methodNamed B.named
  have hlocks := B.notSynchronized
  have hl := lv_entry ([.int p0]) (n := 1) (Nat.le_of_ble_eq_true rfl)
  rw [lg_entry_eq]
  generalize (lg_sl ([.int p0]) ++ List.replicate (1 - (lg_sl ([.int p0])).length) Slot.unset).toArray = ls at hl ⊢
  have hl : lv_has ls 1 [(0, .int p0)] := hl
  refine lv_iload_n hx hb dX1_isKind_0 rfl (lv_at hl 0 rfl) ?_
  refine lv_iconst (v := 0) hx hb dX1_isKind_1 (by decide) ?_
  refine lv_iconst (v := 2) hx hb dX1_isKind_2 (by decide) ?_
  refine vp_callSi (W.runS (As := [.int p0, .int 0, .int 2]) (rest := []) ⟨hx, hb, hml, hown, hts⟩ (c_X1_isWithin l p0 0 2) (va_cwS 3 hts gX1_isKind_X1_isWithin rfl rfl rfl (by decide +kernel) ⟨(Nat.le_of_ble_eq_true rfl), (Nat.le_of_ble_eq_true rfl)⟩) ⟨hp_nfb, fun _ _ _ => ⟨rfl, trivial⟩⟩ rfl rfl hl.1 rfl (lv_room (Nat.le_of_ble_eq_true rfl)) dX1_isKind_3 ⟨(Nat.zero_le _), (Nat.zero_le _)⟩) (fun r_1 hr_1 => ?_)
  subst hr_1
  exact W.zret (ty := .boolean) (v := hp_b (hp_in p0 0 2)) hx hb hr (hp_nar _) (fun t ht hW => ⟨_, rfl, (by rfl), ht⟩) (fun _ h => nomatch h) dX1_isKind_6
set_option maxHeartbeats 400000 in
set_option maxRecDepth 100000 in
theorem c_X1_isStorey (l : Launch)  (p0 : Int32) : Met l yX1_isStorey wsX1_isStorey ({ frames := 1, cells := 0, slots := 0, locals := 22 }) (va_Pc [.int p0] hp_no) (vp_Si (fun x9 => x9 = hp_b (hp_st p0))) 0 0 (fun _ => False) := by
  refine Met.ofW (cc := cX1_isStorey) (maxL := 1) (ret := (some .boolean)) (by decide) rfl ?_
  intro p e s m args below meth c s₁ B hml hv
  obtain ⟨rfl, -⟩ := hv
  have hx := B.exec
  have hb := B.bytes
  have hr := B.returns
  have hts := atoms_spec (ws := wsX1_isStorey) B.pre
  have hown : s.vm.findClass RX1 = some m.cls := findClass_of_methodNamed B.named
  have hlocks := B.notSynchronized
  have hl := lv_entry ([.int p0]) (n := 1) (Nat.le_of_ble_eq_true rfl)
  rw [lg_entry_eq]
  generalize (lg_sl ([.int p0]) ++ List.replicate (1 - (lg_sl ([.int p0])).length) Slot.unset).toArray = ls at hl ⊢
  have hl : lv_has ls 1 [(0, .int p0)] := hl
  refine lv_iload_n hx hb dX1_isStorey_0 rfl (lv_at hl 0 rfl) ?_
  refine lv_iconst (v := 0) hx hb dX1_isStorey_1 (by decide) ?_
  refine lv_iconst (v := 3) hx hb dX1_isStorey_2 (by decide) ?_
  refine vp_callSi (W.runS (As := [.int p0, .int 0, .int 3]) (rest := []) ⟨hx, hb, hml, hown, hts⟩ (c_X1_isWithin l p0 0 3) (va_cwS 3 hts gX1_isStorey_X1_isWithin rfl rfl rfl (by decide +kernel) ⟨(Nat.le_of_ble_eq_true rfl), (Nat.le_of_ble_eq_true rfl)⟩) ⟨hp_nfb, fun _ _ _ => ⟨rfl, trivial⟩⟩ rfl rfl hl.1 rfl (lv_room (Nat.le_of_ble_eq_true rfl)) dX1_isStorey_3 ⟨(Nat.zero_le _), (Nat.zero_le _)⟩) (fun r_1 hr_1 => ?_)
  subst hr_1
  exact W.zret (ty := .boolean) (v := hp_b (hp_in p0 0 3)) hx hb hr (hp_nar _) (fun t ht hW => ⟨_, rfl, (by rfl), ht⟩) (fun _ h => nomatch h) dX1_isStorey_6
set_option maxHeartbeats 400000 in
set_option maxRecDepth 100000 in
theorem c_X1_isStep (l : Launch)  (p0 : Int32) : Met l yX1_isStep wsX1_isStep ({ frames := 1, cells := 0, slots := 0, locals := 22 }) (va_Pc [.int p0] hp_no) (vp_Si (fun x9 => x9 = hp_b (hp_in p0 (-11) 11))) 0 0 (fun _ => False) := by
  refine Met.ofW (cc := cX1_isStep) (maxL := 1) (ret := (some .boolean)) (by decide) rfl ?_
  intro p e s m args below meth c s₁ B hml hv
  obtain ⟨rfl, -⟩ := hv
  have hx := B.exec
  have hb := B.bytes
  have hr := B.returns
  have hts := atoms_spec (ws := wsX1_isStep) B.pre
  have hown : s.vm.findClass RX1 = some m.cls := findClass_of_methodNamed B.named
  have hlocks := B.notSynchronized
  have hl := lv_entry ([.int p0]) (n := 1) (Nat.le_of_ble_eq_true rfl)
  rw [lg_entry_eq]
  generalize (lg_sl ([.int p0]) ++ List.replicate (1 - (lg_sl ([.int p0])).length) Slot.unset).toArray = ls at hl ⊢
  have hl : lv_has ls 1 [(0, .int p0)] := hl
  refine lv_iload_n hx hb dX1_isStep_0 rfl (lv_at hl 0 rfl) ?_
  refine lv_bipush (v := (-11)) hx hb dX1_isStep_1 (by decide) ?_
  refine lv_bipush (v := 11) hx hb dX1_isStep_3 (by decide) ?_
  refine vp_callSi (W.runS (As := [.int p0, .int (-11), .int 11]) (rest := []) ⟨hx, hb, hml, hown, hts⟩ (c_X1_isWithin l p0 (-11) 11) (va_cwS 3 hts gX1_isStep_X1_isWithin rfl rfl rfl (by decide +kernel) ⟨(Nat.le_of_ble_eq_true rfl), (Nat.le_of_ble_eq_true rfl)⟩) ⟨hp_nfb, fun _ _ _ => ⟨rfl, trivial⟩⟩ rfl rfl hl.1 rfl (lv_room (Nat.le_of_ble_eq_true rfl)) dX1_isStep_5 ⟨(Nat.zero_le _), (Nat.zero_le _)⟩) (fun r_1 hr_1 => ?_)
  subst hr_1
  exact W.zret (ty := .boolean) (v := hp_b (hp_in p0 (-11) 11)) hx hb hr (hp_nar _) (fun t ht hW => ⟨_, rfl, (by rfl), ht⟩) (fun _ h => nomatch h) dX1_isStep_8
set_option maxHeartbeats 400000 in
set_option maxRecDepth 100000 in
theorem c_X1_isCell (l : Launch)  (p0 p1 : Int32) : Met l yX1_isCell wsX1_isCell ({ frames := 1, cells := 0, slots := 0, locals := 22 }) (va_Pc [.int p0, .int p1] hp_no) (vp_Si (fun x9 => x9 = hp_b (hp_si p0 && hp_si p1))) 0 0 (fun _ => False) := by
  refine Met.ofW (cc := cX1_isCell) (maxL := 2) (ret := (some .boolean)) (by decide) rfl ?_
  intro p e s m args below meth c s₁ B hml hv
  obtain ⟨rfl, -⟩ := hv
  have hx := B.exec
  have hb := B.bytes
  have hr := B.returns
  have hts := atoms_spec (ws := wsX1_isCell) B.pre
  have hown : s.vm.findClass RX1 = some m.cls := findClass_of_methodNamed B.named
  have hlocks := B.notSynchronized
  have hl := lv_entry ([.int p0, .int p1]) (n := 2) (Nat.le_of_ble_eq_true rfl)
  rw [lg_entry_eq]
  generalize (lg_sl ([.int p0, .int p1]) ++ List.replicate (2 - (lg_sl ([.int p0, .int p1])).length) Slot.unset).toArray = ls at hl ⊢
  have hl : lv_has ls 2 [(0, .int p0), (1, .int p1)] := hl
  refine lv_iload_n hx hb dX1_isCell_0 rfl (lv_at hl 0 rfl) ?_
  refine lv_iconst (v := 0) hx hb dX1_isCell_1 (by decide) ?_
  refine lv_bipush (v := 11) hx hb dX1_isCell_2 (by decide) ?_
  refine vp_callSi (W.runS (As := [.int p0, .int 0, .int 11]) (rest := []) ⟨hx, hb, hml, hown, hts⟩ (c_X1_isWithin l p0 0 11) (va_cwS 3 hts gX1_isCell_X1_isWithin rfl rfl rfl (by decide +kernel) ⟨(Nat.le_of_ble_eq_true rfl), (Nat.le_of_ble_eq_true rfl)⟩) ⟨hp_nfb, fun _ _ _ => ⟨rfl, trivial⟩⟩ rfl rfl hl.1 rfl (lv_room (Nat.le_of_ble_eq_true rfl)) dX1_isCell_4 ⟨(Nat.zero_le _), (Nat.zero_le _)⟩) (fun r_1 hr_1 => ?_)
  subst hr_1
  refine lv_if_eq (tgt := 24) hx hb dX1_isCell_7 (by decide) (fun c_2 => ?_) (fun c_2 => ?_)
  · skip
    have c_2 := hp_bz c_2
    refine lv_iconst (v := 0) hx hb dX1_isCell_24 (by decide) ?_
    exact W.zret (ty := .boolean) (v := 0) hx hb hr rfl (fun t ht hW => ⟨_, rfl, (by simp [hp_b, hp_si, c_2]), ht⟩) (fun _ h => nomatch h) dX1_isCell_25
  · skip
    have c_2 := hp_bn c_2
    refine lv_iload_n hx hb dX1_isCell_10 rfl (lv_at hl 1 rfl) ?_
    refine lv_iconst (v := 0) hx hb dX1_isCell_11 (by decide) ?_
    refine lv_bipush (v := 11) hx hb dX1_isCell_12 (by decide) ?_
    refine vp_callSi (W.runS (As := [.int p1, .int 0, .int 11]) (rest := []) ⟨hx, hb, hml, hown, hts⟩ (c_X1_isWithin l p1 0 11) (va_cwS 3 hts gX1_isCell_X1_isWithin rfl rfl rfl (by decide +kernel) ⟨(Nat.le_of_ble_eq_true rfl), (Nat.le_of_ble_eq_true rfl)⟩) ⟨hp_nfb, fun _ _ _ => ⟨rfl, trivial⟩⟩ rfl rfl hl.1 rfl (lv_room (Nat.le_of_ble_eq_true rfl)) dX1_isCell_14 ⟨(Nat.zero_le _), (Nat.zero_le _)⟩) (fun r_3 hr_3 => ?_)
    subst hr_3
    refine lv_if_eq (tgt := 24) hx hb dX1_isCell_17 (by decide) (fun c_4 => ?_) (fun c_4 => ?_)
    · skip
      have c_4 := hp_bz c_4
      refine lv_iconst (v := 0) hx hb dX1_isCell_24 (by decide) ?_
      exact W.zret (ty := .boolean) (v := 0) hx hb hr rfl (fun t ht hW => ⟨_, rfl, (by simp [hp_b, hp_si, c_2, c_4]), ht⟩) (fun _ h => nomatch h) dX1_isCell_25
    · skip
      have c_4 := hp_bn c_4
      refine lv_iconst (v := 1) hx hb dX1_isCell_20 (by decide) ?_
      refine lv_goto (tgt := 25) hx hb dX1_isCell_21 (by decide) ?_
      exact W.zret (ty := .boolean) (v := 1) hx hb hr rfl (fun t ht hW => ⟨_, rfl, (by simp [hp_b, hp_si, c_2, c_4]), ht⟩) (fun _ h => nomatch h) dX1_isCell_25
set_option maxHeartbeats 400000 in
set_option maxRecDepth 100000 in
theorem c_X0_gap (l : Launch)  (p0 p1 p2 p3 : Int32) : Met l yX0_gap wsX0_gap ({ frames := 1, cells := 0, slots := 0, locals := 21 }) (va_Pc [.int p0, .int p1, .int p2, .int p3] hp_no) (vp_Si (fun x9 => x9 = hp_gx p0 p1 p2 p3)) 0 0 (fun _ => False) := by
  refine Met.ofW (cc := cX0_gap) (maxL := 6) (ret := (some .int)) (by decide) rfl ?_
  intro p e s m args below meth c s₁ B hml hv
  obtain ⟨rfl, -⟩ := hv
  have hx := B.exec
  have hb := B.bytes
  have hr := B.returns
  have hts := atoms_spec (ws := wsX0_gap) B.pre
  have hown : s.vm.findClass RX0 = some m.cls := findClass_of_methodNamed B.named
  have hlocks := B.notSynchronized
  have hm_48 := hts (.methodLink RX0 48 Lib.Math.min.name) (by decide +kernel)
  have hm_52 := hts (.methodLink RX0 52 Lib.Math.max.name) (by decide +kernel)
  have ms_max := hts (.static Lib.Math.max.name) (by decide +kernel)
  have mc_max := hts (.code Lib.Math.max.name Lib.Math.max.code 2 (some .int)) (by decide +kernel)
  have ms_min := hts (.static Lib.Math.min.name) (by decide +kernel)
  have mc_min := hts (.code Lib.Math.min.name Lib.Math.min.code 2 (some .int)) (by decide +kernel)
  have mi := hts (.initialized "java/lang/Math") (by decide +kernel)
  have hl := lv_entry ([.int p0, .int p1, .int p2, .int p3]) (n := 6) (Nat.le_of_ble_eq_true rfl)
  rw [lg_entry_eq]
  generalize (lg_sl ([.int p0, .int p1, .int p2, .int p3]) ++ List.replicate (6 - (lg_sl ([.int p0, .int p1, .int p2, .int p3])).length) Slot.unset).toArray = ls at hl ⊢
  have hl : lv_has ls 6 [(0, .int p0), (1, .int p1), (2, .int p2), (3, .int p3)] := hl
  refine lv_iload_n hx hb dX0_gap_0 rfl (lv_at hl 2 rfl) ?_
  refine lv_iload_n hx hb dX0_gap_1 rfl (lv_at hl 3 rfl) ?_
  refine va_mmin hx hb (hml.trans hl.1.symm) hown hm_48 ms_min mi mc_min (Nat.le_of_ble_eq_true rfl) (Nat.le_of_ble_eq_true rfl) (Nat.zero_le _) (Nat.zero_le _) dX0_gap_2 ?_
  refine hp_top (hp_mn2 _ _) ?_
  refine lv_iload_n hx hb dX0_gap_5 rfl (lv_at hl 0 rfl) ?_
  refine lv_iload_n hx hb dX0_gap_6 rfl (lv_at hl 1 rfl) ?_
  refine va_mmax hx hb (hml.trans hl.1.symm) hown hm_52 ms_max mi mc_max (Nat.le_of_ble_eq_true rfl) (Nat.le_of_ble_eq_true rfl) (Nat.zero_le _) (Nat.zero_le _) dX0_gap_7 ?_
  refine hp_top (show _ = hp_mx p0 p1 from rfl) ?_
  refine lv_isub hx hb dX0_gap_10 ?_
  refine lv_istore (lv' := [(4, .int ((hp_mn p2 p3) - (hp_mx p0 p1))), (0, .int p0), (1, .int p1), (2, .int p2), (3, .int p3)]) hx hb dX0_gap_11 hl (by decide) rfl (fun ls hl => ?_)
  refine lv_iload_n hx hb dX0_gap_13 rfl (lv_at hl 1 rfl) ?_
  refine lv_iload_n hx hb dX0_gap_14 rfl (lv_at hl 2 rfl) ?_
  refine va_mmin hx hb (hml.trans hl.1.symm) hown hm_48 ms_min mi mc_min (Nat.le_of_ble_eq_true rfl) (Nat.le_of_ble_eq_true rfl) (Nat.zero_le _) (Nat.zero_le _) dX0_gap_15 ?_
  refine hp_top (hp_mn2 _ _) ?_
  refine lv_iload_n hx hb dX0_gap_18 rfl (lv_at hl 3 rfl) ?_
  refine lv_iload_n hx hb dX0_gap_19 rfl (lv_at hl 4 rfl) ?_
  refine va_mmax hx hb (hml.trans hl.1.symm) hown hm_52 ms_max mi mc_max (Nat.le_of_ble_eq_true rfl) (Nat.le_of_ble_eq_true rfl) (Nat.zero_le _) (Nat.zero_le _) dX0_gap_20 ?_
  refine hp_top (show _ = hp_mx p2 p3 from rfl) ?_
  refine lv_isub hx hb dX0_gap_23 ?_
  refine lv_istore (lv' := [(5, .int ((hp_mn p0 p1) - (hp_mx p2 p3))), (4, .int ((hp_mn p2 p3) - (hp_mx p0 p1))), (0, .int p0), (1, .int p1), (2, .int p2), (3, .int p3)]) hx hb dX0_gap_24 hl (by decide) rfl (fun ls hl => ?_)
  refine lv_iconst (v := 0) hx hb dX0_gap_26 (by decide) ?_
  refine lv_iload hx hb dX0_gap_27 (lv_at hl 1 rfl) ?_
  refine lv_iload hx hb dX0_gap_29 (lv_at hl 0 rfl) ?_
  refine va_mmax hx hb (hml.trans hl.1.symm) hown hm_52 ms_max mi mc_max (Nat.le_of_ble_eq_true rfl) (Nat.le_of_ble_eq_true rfl) (Nat.zero_le _) (Nat.zero_le _) dX0_gap_31 ?_
  refine hp_top (show _ = hp_mx ((hp_mn p2 p3) - (hp_mx p0 p1)) ((hp_mn p0 p1) - (hp_mx p2 p3)) from rfl) ?_
  refine va_mmax hx hb (hml.trans hl.1.symm) hown hm_52 ms_max mi mc_max (Nat.le_of_ble_eq_true rfl) (Nat.le_of_ble_eq_true rfl) (Nat.zero_le _) (Nat.zero_le _) dX0_gap_34 ?_
  refine hp_top (show _ = hp_mx 0 (hp_mx ((hp_mn p2 p3) - (hp_mx p0 p1)) ((hp_mn p0 p1) - (hp_mx p2 p3))) from rfl) ?_
  exact W.iret (v := hp_mx 0 (hp_mx ((hp_mn p2 p3) - (hp_mx p0 p1)) ((hp_mn p0 p1) - (hp_mx p2 p3)))) hx hb hr (fun t ht hW => ⟨_, rfl, (by rfl), ht⟩) (fun _ h => nomatch h) dX0_gap_37
set_option maxHeartbeats 400000 in
set_option maxRecDepth 100000 in
theorem c_X1_isBase (l : Launch) (dC : Nat → ClassId) (dI : Nat → Nat → Nat) (cI cZ cO cJ : ClassId) (o : Nat) (b ad : Nat → Nat) (v : Nat → Int32) (r : Nat → Nat → Int32) (n : Nat)  (p0 : Int32) : Met l yX1_isBase wsX1_isBase ({ frames := 1, cells := 0, slots := 0, locals := 22 }) (va_Pc [.ref o, .int p0] (hp_prX (dC, dI) cI cZ cO cJ (hp_X cI cZ cO o b ad v r n))) (vp_Si (fun x9 => x9 = hp_b (hp_in p0 0 (v 2)))) 0 0 (fun _ => False) := by
  refine Met.ofW (cc := cX1_isBase) (maxL := 2) (ret := (some .boolean)) (by decide) rfl ?_
  intro p e s m args below meth c s₁ B hml hv
  obtain ⟨rfl, hP, hK, hN⟩ := hv
  have hx := B.exec
  have hb := B.bytes
  have hr := B.returns
  have hts := atoms_spec (ws := wsX1_isBase) B.pre
  have hown : s.vm.findClass RX1 = some m.cls := findClass_of_methodNamed B.named
  have hlocks := B.notSynchronized
  have hf_33 := hts (.fieldLink RX1 33 "Wallplan" "latestRevision" "I") (by decide +kernel)
  have hinX1 : ∀ w ∈ wsX10, w ∈ wsX1_isBase := by decide +kernel
  have hl := lv_entry ([.ref o, .int p0]) (n := 2) (Nat.le_of_ble_eq_true rfl)
  rw [lg_entry_eq]
  generalize (lg_sl ([.ref o, .int p0]) ++ List.replicate (2 - (lg_sl ([.ref o, .int p0])).length) Slot.unset).toArray = ls at hl ⊢
  have hl : lv_has ls 2 [(0, .ref o), (1, .int p0)] := hl
  refine lv_iload_n hx hb dX1_isBase_0 rfl (lv_at hl 1 rfl) ?_
  refine lv_iconst (v := 0) hx hb dX1_isBase_1 (by decide) ?_
  refine lv_aload_n hx hb dX1_isBase_2 rfl (lv_at hl 0 rfl) ?_
  refine va_get (D := (dC, dI)) (ci := 1) (v := .int (v 2)) (C := RX1) (T := TX1) (N := 8) hx hb hts hinX1 hown hK hP 0 hp_X_o rfl 6 (by decide) hf_33 (fun _ h9 => h9) rfl dX1_isBase_3 ?_
  refine vp_callSi (W.runS (As := [.int p0, .int 0, .int (v 2)]) (rest := []) ⟨hx, hb, hml, hown, hts⟩ (c_X1_isWithin l p0 0 (v 2)) (va_cwS 3 hts gX1_isBase_X1_isWithin rfl rfl rfl (by decide +kernel) ⟨(Nat.le_of_ble_eq_true rfl), (Nat.le_of_ble_eq_true rfl)⟩) ⟨hp_nfb, fun _ _ _ => ⟨rfl, trivial⟩⟩ rfl rfl hl.1 rfl (lv_room (Nat.le_of_ble_eq_true rfl)) dX1_isBase_6 ⟨(Nat.zero_le _), (Nat.zero_le _)⟩) (fun r_1 hr_1 => ?_)
  subst hr_1
  exact W.zret (ty := .boolean) (v := hp_b (hp_in p0 0 (v 2))) hx hb hr (hp_nar _) (fun t ht hW => ⟨_, rfl, (by rfl), ht⟩) (fun _ h => nomatch h) dX1_isBase_9
set_option maxHeartbeats 400000 in
set_option maxRecDepth 100000 in
theorem c_X0_isThere (l : Launch) (dC : Nat → ClassId) (dI : Nat → Nat → Nat) (cI cZ cO cJ : ClassId) (o : Nat) (b ad : Nat → Nat) (v : Nat → Int32) (r : Nat → Nat → Int32) (n : Nat)  (i : Nat) (hi : i < n)   : Met l yX0_isThere wsX0_isThere ({ frames := 0, cells := 0, slots := 0, locals := 0 }) (va_Pc [.ref (ad i)] (hp_prX (dC, dI) cI cZ cO cJ (hp_X cI cZ cO o b ad v r n))) (vp_Si (fun x9 => x9 = hp_b (!(r 10 i == 4)))) 0 0 (fun _ => False) := by
  refine Met.ofW (cc := cX0_isThere) (maxL := 1) (ret := (some .boolean)) (by decide) rfl ?_
  intro p e s m args below meth c s₁ B hml hv
  obtain ⟨rfl, hP, hK, hN⟩ := hv
  have hx := B.exec
  have hb := B.bytes
  have hr := B.returns
  have hts := atoms_spec (ws := wsX0_isThere) B.pre
  have hown : s.vm.findClass RX0 = some m.cls := findClass_of_methodNamed B.named
  have hlocks := B.notSynchronized
  have hf_9 := hts (.fieldLink RX0 9 "Wallplan$Element" "state" "I") (by decide +kernel)
  have hinX0 : ∀ w ∈ wsX00, w ∈ wsX0_isThere := by decide +kernel
  have hl := lv_entry ([.ref (ad i)]) (n := 1) (Nat.le_of_ble_eq_true rfl)
  rw [lg_entry_eq]
  generalize (lg_sl ([.ref (ad i)]) ++ List.replicate (1 - (lg_sl ([.ref (ad i)])).length) Slot.unset).toArray = ls at hl ⊢
  have hl : lv_has ls 1 [(0, .ref (ad i))] := hl
  refine lv_aload_n hx hb dX0_isThere_0 rfl (lv_at hl 0 rfl) ?_
  refine va_get (D := (dC, dI)) (ci := 0) (v := .int (r 10 i)) (C := RX0) (T := TX0) (N := 10) hx hb hts hinX0 hown hK hP (6 + i) (hp_X_e (by omega)) rfl 6 (by decide) hf_9 (fun _ h9 => h9) rfl dX0_isThere_1 ?_
  refine lv_iconst (v := 4) hx hb dX0_isThere_4 (by decide) ?_
  refine lv_icmp_eq (tgt := 12) hx hb dX0_isThere_5 (by decide) (fun c_1 => ?_) (fun c_1 => ?_)
  · skip
    refine lv_iconst (v := 0) hx hb dX0_isThere_12 (by decide) ?_
    exact W.zret (ty := .boolean) (v := 0) hx hb hr rfl (fun t ht hW => ⟨_, rfl, (by simp [hp_b, c_1]), ht⟩) (fun _ h => nomatch h) dX0_isThere_13
  · skip
    refine lv_iconst (v := 1) hx hb dX0_isThere_8 (by decide) ?_
    refine lv_goto (tgt := 13) hx hb dX0_isThere_9 (by decide) ?_
    exact W.zret (ty := .boolean) (v := 1) hx hb hr rfl (fun t ht hW => ⟨_, rfl, (by simp [hp_b, c_1]), ht⟩) (fun _ h => nomatch h) dX0_isThere_13
set_option maxHeartbeats 400000 in
set_option maxRecDepth 100000 in
theorem c_X0_cells (l : Launch) (dC : Nat → ClassId) (dI : Nat → Nat → Nat) (cI cZ cO cJ : ClassId) (o : Nat) (b ad : Nat → Nat) (v : Nat → Int32) (r : Nat → Nat → Int32) (n : Nat)  (i : Nat) (hi : i < n)   : Met l yX0_cells wsX0_cells ({ frames := 1, cells := 0, slots := 0, locals := 21 }) (va_Pc [.ref (ad i)] (hp_prX (dC, dI) cI cZ cO cJ (hp_X cI cZ cO o b ad v r n))) (vp_Si (fun x9 => x9 = hp_cel r i)) 0 0 (fun _ => False) := by
  refine Met.ofW (cc := cX0_cells) (maxL := 1) (ret := (some .int)) (by decide) rfl ?_
  intro p e s m args below meth c s₁ B hml hv
  obtain ⟨rfl, hP, hK, hN⟩ := hv
  have hx := B.exec
  have hb := B.bytes
  have hr := B.returns
  have hts := atoms_spec (ws := wsX0_cells) B.pre
  have hown : s.vm.findClass RX0 = some m.cls := findClass_of_methodNamed B.named
  have hlocks := B.notSynchronized
  have hf_24 := hts (.fieldLink RX0 24 "Wallplan$Element" "fromX" "I") (by decide +kernel)
  have hf_27 := hts (.fieldLink RX0 27 "Wallplan$Element" "fromY" "I") (by decide +kernel)
  have hf_30 := hts (.fieldLink RX0 30 "Wallplan$Element" "toX" "I") (by decide +kernel)
  have hf_33 := hts (.fieldLink RX0 33 "Wallplan$Element" "toY" "I") (by decide +kernel)
  have hinX0 : ∀ w ∈ wsX00, w ∈ wsX0_cells := by decide +kernel
  have hm_42 := hts (.methodLink RX0 42 Lib.Math.abs.name) (by decide +kernel)
  have ms_abs := hts (.static Lib.Math.abs.name) (by decide +kernel)
  have mc_abs := hts (.code Lib.Math.abs.name Lib.Math.abs.code 1 (some .int)) (by decide +kernel)
  have mi := hts (.initialized "java/lang/Math") (by decide +kernel)
  have hl := lv_entry ([.ref (ad i)]) (n := 1) (Nat.le_of_ble_eq_true rfl)
  rw [lg_entry_eq]
  generalize (lg_sl ([.ref (ad i)]) ++ List.replicate (1 - (lg_sl ([.ref (ad i)])).length) Slot.unset).toArray = ls at hl ⊢
  have hl : lv_has ls 1 [(0, .ref (ad i))] := hl
  refine lv_aload_n hx hb dX0_cells_0 rfl (lv_at hl 0 rfl) ?_
  refine va_get (D := (dC, dI)) (ci := 0) (v := .int (r 8 i)) (C := RX0) (T := TX0) (N := 10) hx hb hts hinX0 hown hK hP (6 + i) (hp_X_e (by omega)) rfl 4 (by decide) hf_30 (fun _ h9 => h9) rfl dX0_cells_1 ?_
  refine lv_aload_n hx hb dX0_cells_4 rfl (lv_at hl 0 rfl) ?_
  refine va_get (D := (dC, dI)) (ci := 0) (v := .int (r 6 i)) (C := RX0) (T := TX0) (N := 10) hx hb hts hinX0 hown hK hP (6 + i) (hp_X_e (by omega)) rfl 2 (by decide) hf_24 (fun _ h9 => h9) rfl dX0_cells_5 ?_
  refine lv_isub hx hb dX0_cells_8 ?_
  refine va_mabs hx hb (hml.trans hl.1.symm) hown hm_42 ms_abs mi mc_abs (Nat.le_of_ble_eq_true rfl) (Nat.le_of_ble_eq_true rfl) (Nat.zero_le _) (Nat.zero_le _) dX0_cells_9 ?_
  refine hp_top (hp_abs2 _) ?_
  refine lv_aload_n hx hb dX0_cells_12 rfl (lv_at hl 0 rfl) ?_
  refine va_get (D := (dC, dI)) (ci := 0) (v := .int (r 9 i)) (C := RX0) (T := TX0) (N := 10) hx hb hts hinX0 hown hK hP (6 + i) (hp_X_e (by omega)) rfl 5 (by decide) hf_33 (fun _ h9 => h9) rfl dX0_cells_13 ?_
  refine lv_aload_n hx hb dX0_cells_16 rfl (lv_at hl 0 rfl) ?_
  refine va_get (D := (dC, dI)) (ci := 0) (v := .int (r 7 i)) (C := RX0) (T := TX0) (N := 10) hx hb hts hinX0 hown hK hP (6 + i) (hp_X_e (by omega)) rfl 3 (by decide) hf_27 (fun _ h9 => h9) rfl dX0_cells_17 ?_
  refine lv_isub hx hb dX0_cells_20 ?_
  refine va_mabs hx hb (hml.trans hl.1.symm) hown hm_42 ms_abs mi mc_abs (Nat.le_of_ble_eq_true rfl) (Nat.le_of_ble_eq_true rfl) (Nat.zero_le _) (Nat.zero_le _) dX0_cells_21 ?_
  refine hp_top (hp_abs2 _) ?_
  refine lv_iadd hx hb dX0_cells_24 ?_
  refine lv_iconst (v := 1) hx hb dX0_cells_25 (by decide) ?_
  refine lv_iadd hx hb dX0_cells_26 ?_
  exact W.iret (v := ((hp_abs ((r 8 i) - (r 6 i))) + (hp_abs ((r 9 i) - (r 7 i)))) + 1) hx hb hr (fun t ht hW => ⟨_, rfl, (by exact hp_comm1 _ _), ht⟩) (fun _ h => nomatch h) dX0_cells_27
set_option maxHeartbeats 400000 in
set_option maxRecDepth 100000 in
theorem c_X0_covers (l : Launch) (dC : Nat → ClassId) (dI : Nat → Nat → Nat) (cI cZ cO cJ : ClassId) (o : Nat) (b ad : Nat → Nat) (v : Nat → Int32) (r : Nat → Nat → Int32) (n : Nat)  (i : Nat) (hi : i < n)  (p1 p2 : Int32) : Met l yX0_covers wsX0_covers ({ frames := 1, cells := 0, slots := 0, locals := 22 }) (va_Pc [.ref (ad i), .int p1, .int p2] (hp_prX (dC, dI) cI cZ cO cJ (hp_X cI cZ cO o b ad v r n))) (vp_Si (fun x9 => x9 = hp_b (hp_cov r i p1 p2))) 0 0 (fun _ => False) := by
  refine Met.ofW (cc := cX0_covers) (maxL := 3) (ret := (some .boolean)) (by decide) rfl ?_
  intro p e s m args below meth c s₁ B hml hv
  obtain ⟨rfl, hP, hK, hN⟩ := hv
  have hx := B.exec
  have hb := B.bytes
  have hr := B.returns
  have hts := atoms_spec (ws := wsX0_covers) B.pre
  have hown : s.vm.findClass RX0 = some m.cls := findClass_of_methodNamed B.named
  have hlocks := B.notSynchronized
  have hf_24 := hts (.fieldLink RX0 24 "Wallplan$Element" "fromX" "I") (by decide +kernel)
  have hf_27 := hts (.fieldLink RX0 27 "Wallplan$Element" "fromY" "I") (by decide +kernel)
  have hf_30 := hts (.fieldLink RX0 30 "Wallplan$Element" "toX" "I") (by decide +kernel)
  have hf_33 := hts (.fieldLink RX0 33 "Wallplan$Element" "toY" "I") (by decide +kernel)
  have hinX0 : ∀ w ∈ wsX00, w ∈ wsX0_covers := by decide +kernel
  have hm_48 := hts (.methodLink RX0 48 Lib.Math.min.name) (by decide +kernel)
  have hm_52 := hts (.methodLink RX0 52 Lib.Math.max.name) (by decide +kernel)
  have ms_max := hts (.static Lib.Math.max.name) (by decide +kernel)
  have mc_max := hts (.code Lib.Math.max.name Lib.Math.max.code 2 (some .int)) (by decide +kernel)
  have ms_min := hts (.static Lib.Math.min.name) (by decide +kernel)
  have mc_min := hts (.code Lib.Math.min.name Lib.Math.min.code 2 (some .int)) (by decide +kernel)
  have mi := hts (.initialized "java/lang/Math") (by decide +kernel)
  have hl := lv_entry ([.ref (ad i), .int p1, .int p2]) (n := 3) (Nat.le_of_ble_eq_true rfl)
  rw [lg_entry_eq]
  generalize (lg_sl ([.ref (ad i), .int p1, .int p2]) ++ List.replicate (3 - (lg_sl ([.ref (ad i), .int p1, .int p2])).length) Slot.unset).toArray = ls at hl ⊢
  have hl : lv_has ls 3 [(0, .ref (ad i)), (1, .int p1), (2, .int p2)] := hl
  refine lv_iload_n hx hb dX0_covers_0 rfl (lv_at hl 1 rfl) ?_
  refine lv_aload_n hx hb dX0_covers_1 rfl (lv_at hl 0 rfl) ?_
  refine va_get (D := (dC, dI)) (ci := 0) (v := .int (r 6 i)) (C := RX0) (T := TX0) (N := 10) hx hb hts hinX0 hown hK hP (6 + i) (hp_X_e (by omega)) rfl 2 (by decide) hf_24 (fun _ h9 => h9) rfl dX0_covers_2 ?_
  refine lv_aload_n hx hb dX0_covers_5 rfl (lv_at hl 0 rfl) ?_
  refine va_get (D := (dC, dI)) (ci := 0) (v := .int (r 8 i)) (C := RX0) (T := TX0) (N := 10) hx hb hts hinX0 hown hK hP (6 + i) (hp_X_e (by omega)) rfl 4 (by decide) hf_30 (fun _ h9 => h9) rfl dX0_covers_6 ?_
  refine va_mmin hx hb (hml.trans hl.1.symm) hown hm_48 ms_min mi mc_min (Nat.le_of_ble_eq_true rfl) (Nat.le_of_ble_eq_true rfl) (Nat.zero_le _) (Nat.zero_le _) dX0_covers_9 ?_
  refine hp_top (hp_mn2 _ _) ?_
  refine lv_aload_n hx hb dX0_covers_12 rfl (lv_at hl 0 rfl) ?_
  refine va_get (D := (dC, dI)) (ci := 0) (v := .int (r 6 i)) (C := RX0) (T := TX0) (N := 10) hx hb hts hinX0 hown hK hP (6 + i) (hp_X_e (by omega)) rfl 2 (by decide) hf_24 (fun _ h9 => h9) rfl dX0_covers_13 ?_
  refine lv_aload_n hx hb dX0_covers_16 rfl (lv_at hl 0 rfl) ?_
  refine va_get (D := (dC, dI)) (ci := 0) (v := .int (r 8 i)) (C := RX0) (T := TX0) (N := 10) hx hb hts hinX0 hown hK hP (6 + i) (hp_X_e (by omega)) rfl 4 (by decide) hf_30 (fun _ h9 => h9) rfl dX0_covers_17 ?_
  refine va_mmax hx hb (hml.trans hl.1.symm) hown hm_52 ms_max mi mc_max (Nat.le_of_ble_eq_true rfl) (Nat.le_of_ble_eq_true rfl) (Nat.zero_le _) (Nat.zero_le _) dX0_covers_20 ?_
  refine hp_top (show _ = hp_mx (r 6 i) (r 8 i) from rfl) ?_
  refine vp_callSi (va_Run.run (va_runSN (As := [.int p1, .int (hp_mn (r 6 i) (r 8 i)), .int (hp_mx (r 6 i) (r 8 i))]) (rest := []) ⟨hx, hb, hml, hown, hts⟩ (c_X1_isWithin l p1 (hp_mn (r 6 i) (r 8 i)) (hp_mx (r 6 i) (r 8 i))) ⟨va_cnB 3 hts gX0_covers_X1_isWithin_n55 rfl rfl rfl hN.2.2.2.2.2.2.1 (hts (.initialized RX1) (by decide +kernel)) (by decide +kernel) ⟨(Nat.le_of_ble_eq_true rfl), (Nat.le_of_ble_eq_true rfl)⟩, hts (.static yX1_isWithin) (by decide +kernel), trivial⟩ ⟨hp_nfb, fun _ _ _ => ⟨rfl, trivial⟩⟩ rfl rfl hl.1 rfl (lv_room (Nat.le_of_ble_eq_true rfl)) dX0_covers_23 ⟨(Nat.zero_le _), (Nat.zero_le _)⟩)) (fun r_1 hr_1 => ?_)
  subst hr_1
  refine lv_if_eq (tgt := 62) hx hb dX0_covers_26 (by decide) (fun c_2 => ?_) (fun c_2 => ?_)
  · skip
    have c_2 := hp_bz c_2
    refine lv_iconst (v := 0) hx hb dX0_covers_62 (by decide) ?_
    exact W.zret (ty := .boolean) (v := 0) hx hb hr rfl (fun t ht hW => ⟨_, rfl, (by simp [hp_b, hp_cov, c_2]), ht⟩) (fun _ h => nomatch h) dX0_covers_63
  · skip
    have c_2 := hp_bn c_2
    refine lv_iload_n hx hb dX0_covers_29 rfl (lv_at hl 2 rfl) ?_
    refine lv_aload_n hx hb dX0_covers_30 rfl (lv_at hl 0 rfl) ?_
    refine va_get (D := (dC, dI)) (ci := 0) (v := .int (r 7 i)) (C := RX0) (T := TX0) (N := 10) hx hb hts hinX0 hown hK hP (6 + i) (hp_X_e (by omega)) rfl 3 (by decide) hf_27 (fun _ h9 => h9) rfl dX0_covers_31 ?_
    refine lv_aload_n hx hb dX0_covers_34 rfl (lv_at hl 0 rfl) ?_
    refine va_get (D := (dC, dI)) (ci := 0) (v := .int (r 9 i)) (C := RX0) (T := TX0) (N := 10) hx hb hts hinX0 hown hK hP (6 + i) (hp_X_e (by omega)) rfl 5 (by decide) hf_33 (fun _ h9 => h9) rfl dX0_covers_35 ?_
    refine va_mmin hx hb (hml.trans hl.1.symm) hown hm_48 ms_min mi mc_min (Nat.le_of_ble_eq_true rfl) (Nat.le_of_ble_eq_true rfl) (Nat.zero_le _) (Nat.zero_le _) dX0_covers_38 ?_
    refine hp_top (hp_mn2 _ _) ?_
    refine lv_aload_n hx hb dX0_covers_41 rfl (lv_at hl 0 rfl) ?_
    refine va_get (D := (dC, dI)) (ci := 0) (v := .int (r 7 i)) (C := RX0) (T := TX0) (N := 10) hx hb hts hinX0 hown hK hP (6 + i) (hp_X_e (by omega)) rfl 3 (by decide) hf_27 (fun _ h9 => h9) rfl dX0_covers_42 ?_
    refine lv_aload_n hx hb dX0_covers_45 rfl (lv_at hl 0 rfl) ?_
    refine va_get (D := (dC, dI)) (ci := 0) (v := .int (r 9 i)) (C := RX0) (T := TX0) (N := 10) hx hb hts hinX0 hown hK hP (6 + i) (hp_X_e (by omega)) rfl 5 (by decide) hf_33 (fun _ h9 => h9) rfl dX0_covers_46 ?_
    refine va_mmax hx hb (hml.trans hl.1.symm) hown hm_52 ms_max mi mc_max (Nat.le_of_ble_eq_true rfl) (Nat.le_of_ble_eq_true rfl) (Nat.zero_le _) (Nat.zero_le _) dX0_covers_49 ?_
    refine hp_top (show _ = hp_mx (r 7 i) (r 9 i) from rfl) ?_
    refine vp_callSi (va_Run.run (va_runSN (As := [.int p2, .int (hp_mn (r 7 i) (r 9 i)), .int (hp_mx (r 7 i) (r 9 i))]) (rest := []) ⟨hx, hb, hml, hown, hts⟩ (c_X1_isWithin l p2 (hp_mn (r 7 i) (r 9 i)) (hp_mx (r 7 i) (r 9 i))) ⟨va_cnB 3 hts gX0_covers_X1_isWithin_n55 rfl rfl rfl hN.2.2.2.2.2.2.1 (hts (.initialized RX1) (by decide +kernel)) (by decide +kernel) ⟨(Nat.le_of_ble_eq_true rfl), (Nat.le_of_ble_eq_true rfl)⟩, hts (.static yX1_isWithin) (by decide +kernel), trivial⟩ ⟨hp_nfb, fun _ _ _ => ⟨rfl, trivial⟩⟩ rfl rfl hl.1 rfl (lv_room (Nat.le_of_ble_eq_true rfl)) dX0_covers_52 ⟨(Nat.zero_le _), (Nat.zero_le _)⟩)) (fun r_3 hr_3 => ?_)
    subst hr_3
    refine lv_if_eq (tgt := 62) hx hb dX0_covers_55 (by decide) (fun c_4 => ?_) (fun c_4 => ?_)
    · skip
      have c_4 := hp_bz c_4
      refine lv_iconst (v := 0) hx hb dX0_covers_62 (by decide) ?_
      exact W.zret (ty := .boolean) (v := 0) hx hb hr rfl (fun t ht hW => ⟨_, rfl, (by simp [hp_b, hp_cov, c_2, c_4]), ht⟩) (fun _ h => nomatch h) dX0_covers_63
    · skip
      have c_4 := hp_bn c_4
      refine lv_iconst (v := 1) hx hb dX0_covers_58 (by decide) ?_
      refine lv_goto (tgt := 63) hx hb dX0_covers_59 (by decide) ?_
      exact W.zret (ty := .boolean) (v := 1) hx hb hr rfl (fun t ht hW => ⟨_, rfl, (by simp [hp_b, hp_cov, c_2, c_4]), ht⟩) (fun _ h => nomatch h) dX0_covers_63
set_option maxHeartbeats 400000 in
set_option maxRecDepth 100000 in
theorem c_X0_staysInside (l : Launch) (dC : Nat → ClassId) (dI : Nat → Nat → Nat) (cI cZ cO cJ : ClassId) (o : Nat) (b ad : Nat → Nat) (v : Nat → Int32) (r : Nat → Nat → Int32) (n : Nat)  (i : Nat) (hi : i < n)  (p1 p2 : Int32) : Met l yX0_staysInside wsX0_staysInside ({ frames := 2, cells := 0, slots := 0, locals := 43 }) (va_Pc [.ref (ad i), .int p1, .int p2] (hp_prX (dC, dI) cI cZ cO cJ (hp_X cI cZ cO o b ad v r n))) (vp_Si (fun x9 => x9 = hp_b ((hp_si (r 6 i + p1) && hp_si (r 7 i + p2)) && (hp_si (r 8 i + p1) && hp_si (r 9 i + p2))))) 0 0 (fun _ => False) := by
  refine Met.ofW (cc := cX0_staysInside) (maxL := 3) (ret := (some .boolean)) (by decide) rfl ?_
  intro p e s m args below meth c s₁ B hml hv
  obtain ⟨rfl, hP, hK, hN⟩ := hv
  have hx := B.exec
  have hb := B.bytes
  have hr := B.returns
  have hts := atoms_spec (ws := wsX0_staysInside) B.pre
  have hown : s.vm.findClass RX0 = some m.cls := findClass_of_methodNamed B.named
  have hlocks := B.notSynchronized
  have hf_24 := hts (.fieldLink RX0 24 "Wallplan$Element" "fromX" "I") (by decide +kernel)
  have hf_27 := hts (.fieldLink RX0 27 "Wallplan$Element" "fromY" "I") (by decide +kernel)
  have hf_30 := hts (.fieldLink RX0 30 "Wallplan$Element" "toX" "I") (by decide +kernel)
  have hf_33 := hts (.fieldLink RX0 33 "Wallplan$Element" "toY" "I") (by decide +kernel)
  have hinX0 : ∀ w ∈ wsX00, w ∈ wsX0_staysInside := by decide +kernel
  have hl := lv_entry ([.ref (ad i), .int p1, .int p2]) (n := 3) (Nat.le_of_ble_eq_true rfl)
  rw [lg_entry_eq]
  generalize (lg_sl ([.ref (ad i), .int p1, .int p2]) ++ List.replicate (3 - (lg_sl ([.ref (ad i), .int p1, .int p2])).length) Slot.unset).toArray = ls at hl ⊢
  have hl : lv_has ls 3 [(0, .ref (ad i)), (1, .int p1), (2, .int p2)] := hl
  refine lv_aload_n hx hb dX0_staysInside_0 rfl (lv_at hl 0 rfl) ?_
  refine va_get (D := (dC, dI)) (ci := 0) (v := .int (r 6 i)) (C := RX0) (T := TX0) (N := 10) hx hb hts hinX0 hown hK hP (6 + i) (hp_X_e (by omega)) rfl 2 (by decide) hf_24 (fun _ h9 => h9) rfl dX0_staysInside_1 ?_
  refine lv_iload_n hx hb dX0_staysInside_4 rfl (lv_at hl 1 rfl) ?_
  refine lv_iadd hx hb dX0_staysInside_5 ?_
  refine lv_aload_n hx hb dX0_staysInside_6 rfl (lv_at hl 0 rfl) ?_
  refine va_get (D := (dC, dI)) (ci := 0) (v := .int (r 7 i)) (C := RX0) (T := TX0) (N := 10) hx hb hts hinX0 hown hK hP (6 + i) (hp_X_e (by omega)) rfl 3 (by decide) hf_27 (fun _ h9 => h9) rfl dX0_staysInside_7 ?_
  refine lv_iload_n hx hb dX0_staysInside_10 rfl (lv_at hl 2 rfl) ?_
  refine lv_iadd hx hb dX0_staysInside_11 ?_
  refine vp_callSi (va_Run.run (va_runSN (As := [.int ((r 6 i) + p1), .int ((r 7 i) + p2)]) (rest := []) ⟨hx, hb, hml, hown, hts⟩ (c_X1_isCell l ((r 6 i) + p1) ((r 7 i) + p2)) ⟨va_cnB 2 hts gX0_staysInside_X1_isCell_n59 rfl rfl rfl hN.2.2.2.2.2.2.2 (hts (.initialized RX1) (by decide +kernel)) (by decide +kernel) ⟨(Nat.le_of_ble_eq_true rfl), (Nat.le_of_ble_eq_true rfl)⟩, hts (.static yX1_isCell) (by decide +kernel), trivial⟩ ⟨hp_nfb, fun _ _ _ => ⟨rfl, trivial⟩⟩ rfl rfl hl.1 rfl (lv_room (Nat.le_of_ble_eq_true rfl)) dX0_staysInside_12 ⟨(Nat.zero_le _), (Nat.zero_le _)⟩)) (fun r_1 hr_1 => ?_)
  subst hr_1
  refine lv_if_eq (tgt := 40) hx hb dX0_staysInside_15 (by decide) (fun c_2 => ?_) (fun c_2 => ?_)
  · skip
    have c_2 := hp_bz c_2
    refine lv_iconst (v := 0) hx hb dX0_staysInside_40 (by decide) ?_
    exact W.zret (ty := .boolean) (v := 0) hx hb hr rfl (fun t ht hW => ⟨_, rfl, (by simp only [hp_b, c_2]; rfl), ht⟩) (fun _ h => nomatch h) dX0_staysInside_41
  · skip
    have c_2 := hp_bn c_2
    refine lv_aload_n hx hb dX0_staysInside_18 rfl (lv_at hl 0 rfl) ?_
    refine va_get (D := (dC, dI)) (ci := 0) (v := .int (r 8 i)) (C := RX0) (T := TX0) (N := 10) hx hb hts hinX0 hown hK hP (6 + i) (hp_X_e (by omega)) rfl 4 (by decide) hf_30 (fun _ h9 => h9) rfl dX0_staysInside_19 ?_
    refine lv_iload_n hx hb dX0_staysInside_22 rfl (lv_at hl 1 rfl) ?_
    refine lv_iadd hx hb dX0_staysInside_23 ?_
    refine lv_aload_n hx hb dX0_staysInside_24 rfl (lv_at hl 0 rfl) ?_
    refine va_get (D := (dC, dI)) (ci := 0) (v := .int (r 9 i)) (C := RX0) (T := TX0) (N := 10) hx hb hts hinX0 hown hK hP (6 + i) (hp_X_e (by omega)) rfl 5 (by decide) hf_33 (fun _ h9 => h9) rfl dX0_staysInside_25 ?_
    refine lv_iload_n hx hb dX0_staysInside_28 rfl (lv_at hl 2 rfl) ?_
    refine lv_iadd hx hb dX0_staysInside_29 ?_
    refine vp_callSi (va_Run.run (va_runSN (As := [.int ((r 8 i) + p1), .int ((r 9 i) + p2)]) (rest := []) ⟨hx, hb, hml, hown, hts⟩ (c_X1_isCell l ((r 8 i) + p1) ((r 9 i) + p2)) ⟨va_cnB 2 hts gX0_staysInside_X1_isCell_n59 rfl rfl rfl hN.2.2.2.2.2.2.2 (hts (.initialized RX1) (by decide +kernel)) (by decide +kernel) ⟨(Nat.le_of_ble_eq_true rfl), (Nat.le_of_ble_eq_true rfl)⟩, hts (.static yX1_isCell) (by decide +kernel), trivial⟩ ⟨hp_nfb, fun _ _ _ => ⟨rfl, trivial⟩⟩ rfl rfl hl.1 rfl (lv_room (Nat.le_of_ble_eq_true rfl)) dX0_staysInside_30 ⟨(Nat.zero_le _), (Nat.zero_le _)⟩)) (fun r_3 hr_3 => ?_)
    subst hr_3
    refine lv_if_eq (tgt := 40) hx hb dX0_staysInside_33 (by decide) (fun c_4 => ?_) (fun c_4 => ?_)
    · skip
      have c_4 := hp_bz c_4
      refine lv_iconst (v := 0) hx hb dX0_staysInside_40 (by decide) ?_
      exact W.zret (ty := .boolean) (v := 0) hx hb hr rfl (fun t ht hW => ⟨_, rfl, (by simp only [hp_b, c_2, c_4]; rfl), ht⟩) (fun _ h => nomatch h) dX0_staysInside_41
    · skip
      have c_4 := hp_bn c_4
      refine lv_iconst (v := 1) hx hb dX0_staysInside_36 (by decide) ?_
      refine lv_goto (tgt := 41) hx hb dX0_staysInside_37 (by decide) ?_
      exact W.zret (ty := .boolean) (v := 1) hx hb hr rfl (fun t ht hW => ⟨_, rfl, (by simp only [hp_b, c_2, c_4]; rfl), ht⟩) (fun _ h => nomatch h) dX0_staysInside_41
set_option maxHeartbeats 400000 in
set_option maxRecDepth 100000 in
theorem c_X0_distanceTo (l : Launch) (dC : Nat → ClassId) (dI : Nat → Nat → Nat) (cI cZ cO cJ : ClassId) (o : Nat) (b ad : Nat → Nat) (v : Nat → Int32) (r : Nat → Nat → Int32) (n : Nat)  (i : Nat) (hi : i < n)  (j : Nat) (hj : j < n) (he : hp_elm r i) (hf : hp_elm r j) : Met l yX0_distanceTo wsX0_distanceTo ({ frames := 2, cells := 0, slots := 0, locals := 46 }) (va_Pc [.ref (ad i), .ref (ad j)] (hp_prX (dC, dI) cI cZ cO cJ (hp_X cI cZ cO o b ad v r n))) (vp_Si (fun x9 => x9 = hp_max (hp_gap (r 6 i) (r 8 i) (r 6 j) (r 8 j)) (hp_gap (r 7 i) (r 9 i) (r 7 j) (r 9 j)))) 0 0 (fun _ => False) := by
  refine Met.ofW (cc := cX0_distanceTo) (maxL := 4) (ret := (some .int)) (by decide) rfl ?_
  intro p e s m args below meth c s₁ B hml hv
  obtain ⟨rfl, hP, hK, hN⟩ := hv
  have hx := B.exec
  have hb := B.bytes
  have hr := B.returns
  have hts := atoms_spec (ws := wsX0_distanceTo) B.pre
  have hown : s.vm.findClass RX0 = some m.cls := findClass_of_methodNamed B.named
  have hlocks := B.notSynchronized
  have hf_24 := hts (.fieldLink RX0 24 "Wallplan$Element" "fromX" "I") (by decide +kernel)
  have hf_27 := hts (.fieldLink RX0 27 "Wallplan$Element" "fromY" "I") (by decide +kernel)
  have hf_30 := hts (.fieldLink RX0 30 "Wallplan$Element" "toX" "I") (by decide +kernel)
  have hf_33 := hts (.fieldLink RX0 33 "Wallplan$Element" "toY" "I") (by decide +kernel)
  have hinX0 : ∀ w ∈ wsX00, w ∈ wsX0_distanceTo := by decide +kernel
  have hm_52 := hts (.methodLink RX0 52 Lib.Math.max.name) (by decide +kernel)
  have ms_max := hts (.static Lib.Math.max.name) (by decide +kernel)
  have mc_max := hts (.code Lib.Math.max.name Lib.Math.max.code 2 (some .int)) (by decide +kernel)
  have mi := hts (.initialized "java/lang/Math") (by decide +kernel)
  have hl := lv_entry ([.ref (ad i), .ref (ad j)]) (n := 4) (Nat.le_of_ble_eq_true rfl)
  rw [lg_entry_eq]
  generalize (lg_sl ([.ref (ad i), .ref (ad j)]) ++ List.replicate (4 - (lg_sl ([.ref (ad i), .ref (ad j)])).length) Slot.unset).toArray = ls at hl ⊢
  have hl : lv_has ls 4 [(0, .ref (ad i)), (1, .ref (ad j))] := hl
  refine lv_aload_n hx hb dX0_distanceTo_0 rfl (lv_at hl 0 rfl) ?_
  refine va_get (D := (dC, dI)) (ci := 0) (v := .int (r 6 i)) (C := RX0) (T := TX0) (N := 10) hx hb hts hinX0 hown hK hP (6 + i) (hp_X_e (by omega)) rfl 2 (by decide) hf_24 (fun _ h9 => h9) rfl dX0_distanceTo_1 ?_
  refine lv_aload_n hx hb dX0_distanceTo_4 rfl (lv_at hl 0 rfl) ?_
  refine va_get (D := (dC, dI)) (ci := 0) (v := .int (r 8 i)) (C := RX0) (T := TX0) (N := 10) hx hb hts hinX0 hown hK hP (6 + i) (hp_X_e (by omega)) rfl 4 (by decide) hf_30 (fun _ h9 => h9) rfl dX0_distanceTo_5 ?_
  refine lv_aload_n hx hb dX0_distanceTo_8 rfl (lv_at hl 1 rfl) ?_
  refine va_get (D := (dC, dI)) (ci := 0) (v := .int (r 6 j)) (C := RX0) (T := TX0) (N := 10) hx hb hts hinX0 hown hK hP (6 + j) (hp_X_e (by omega)) rfl 2 (by decide) hf_24 (fun _ h9 => h9) rfl dX0_distanceTo_9 ?_
  refine lv_aload_n hx hb dX0_distanceTo_12 rfl (lv_at hl 1 rfl) ?_
  refine va_get (D := (dC, dI)) (ci := 0) (v := .int (r 8 j)) (C := RX0) (T := TX0) (N := 10) hx hb hts hinX0 hown hK hP (6 + j) (hp_X_e (by omega)) rfl 4 (by decide) hf_30 (fun _ h9 => h9) rfl dX0_distanceTo_13 ?_
  refine vp_callSi (W.runS (As := [.int (r 6 i), .int (r 8 i), .int (r 6 j), .int (r 8 j)]) (rest := []) ⟨hx, hb, hml, hown, hts⟩ (c_X0_gap l (r 6 i) (r 8 i) (r 6 j) (r 8 j)) (va_cwS 4 hts gX0_distanceTo_X0_gap rfl rfl rfl (by decide +kernel) ⟨(Nat.le_of_ble_eq_true rfl), (Nat.le_of_ble_eq_true rfl)⟩) ⟨hp_nfb, fun _ _ _ => ⟨rfl, trivial⟩⟩ rfl rfl hl.1 rfl (lv_room (Nat.le_of_ble_eq_true rfl)) dX0_distanceTo_16 ⟨(Nat.zero_le _), (Nat.zero_le _)⟩) (fun r_1 hr_1 => ?_)
  subst hr_1
  refine lv_istore_n (lv' := [(2, .int (hp_gx (r 6 i) (r 8 i) (r 6 j) (r 8 j))), (0, .ref (ad i)), (1, .ref (ad j))]) hx hb dX0_distanceTo_19 rfl hl (by decide) rfl (fun ls hl => ?_)
  refine lv_aload_n hx hb dX0_distanceTo_20 rfl (lv_at hl 1 rfl) ?_
  refine va_get (D := (dC, dI)) (ci := 0) (v := .int (r 7 i)) (C := RX0) (T := TX0) (N := 10) hx hb hts hinX0 hown hK hP (6 + i) (hp_X_e (by omega)) rfl 3 (by decide) hf_27 (fun _ h9 => h9) rfl dX0_distanceTo_21 ?_
  refine lv_aload_n hx hb dX0_distanceTo_24 rfl (lv_at hl 1 rfl) ?_
  refine va_get (D := (dC, dI)) (ci := 0) (v := .int (r 9 i)) (C := RX0) (T := TX0) (N := 10) hx hb hts hinX0 hown hK hP (6 + i) (hp_X_e (by omega)) rfl 5 (by decide) hf_33 (fun _ h9 => h9) rfl dX0_distanceTo_25 ?_
  refine lv_aload_n hx hb dX0_distanceTo_28 rfl (lv_at hl 2 rfl) ?_
  refine va_get (D := (dC, dI)) (ci := 0) (v := .int (r 7 j)) (C := RX0) (T := TX0) (N := 10) hx hb hts hinX0 hown hK hP (6 + j) (hp_X_e (by omega)) rfl 3 (by decide) hf_27 (fun _ h9 => h9) rfl dX0_distanceTo_29 ?_
  refine lv_aload_n hx hb dX0_distanceTo_32 rfl (lv_at hl 2 rfl) ?_
  refine va_get (D := (dC, dI)) (ci := 0) (v := .int (r 9 j)) (C := RX0) (T := TX0) (N := 10) hx hb hts hinX0 hown hK hP (6 + j) (hp_X_e (by omega)) rfl 5 (by decide) hf_33 (fun _ h9 => h9) rfl dX0_distanceTo_33 ?_
  refine vp_callSi (W.runS (As := [.int (r 7 i), .int (r 9 i), .int (r 7 j), .int (r 9 j)]) (rest := []) ⟨hx, hb, hml, hown, hts⟩ (c_X0_gap l (r 7 i) (r 9 i) (r 7 j) (r 9 j)) (va_cwS 4 hts gX0_distanceTo_X0_gap rfl rfl rfl (by decide +kernel) ⟨(Nat.le_of_ble_eq_true rfl), (Nat.le_of_ble_eq_true rfl)⟩) ⟨hp_nfb, fun _ _ _ => ⟨rfl, trivial⟩⟩ rfl rfl hl.1 rfl (lv_room (Nat.le_of_ble_eq_true rfl)) dX0_distanceTo_36 ⟨(Nat.zero_le _), (Nat.zero_le _)⟩) (fun r_2 hr_2 => ?_)
  subst hr_2
  refine lv_istore_n (lv' := [(3, .int (hp_gx (r 7 i) (r 9 i) (r 7 j) (r 9 j))), (2, .int (hp_gx (r 6 i) (r 8 i) (r 6 j) (r 8 j))), (0, .ref (ad i)), (1, .ref (ad j))]) hx hb dX0_distanceTo_39 rfl hl (by decide) rfl (fun ls hl => ?_)
  refine lv_iload_n hx hb dX0_distanceTo_40 rfl (lv_at hl 1 rfl) ?_
  refine lv_iload_n hx hb dX0_distanceTo_41 rfl (lv_at hl 0 rfl) ?_
  refine va_mmax hx hb (hml.trans hl.1.symm) hown hm_52 ms_max mi mc_max (Nat.le_of_ble_eq_true rfl) (Nat.le_of_ble_eq_true rfl) (Nat.zero_le _) (Nat.zero_le _) dX0_distanceTo_42 ?_
  refine hp_top (show _ = hp_mx (hp_gx (r 6 i) (r 8 i) (r 6 j) (r 8 j)) (hp_gx (r 7 i) (r 9 i) (r 7 j) (r 9 j)) from rfl) ?_
  exact W.iret (v := hp_mx (hp_gx (r 6 i) (r 8 i) (r 6 j) (r 8 j)) (hp_gx (r 7 i) (r 9 i) (r 7 j) (r 9 j))) hx hb hr (fun t ht hW => ⟨_, rfl, (by rw [hp_gx_eq he.2.2.1 he.2.2.2.2.1 hf.2.2.1 hf.2.2.2.2.1, hp_gx_eq he.2.2.2.1 he.2.2.2.2.2.1 hf.2.2.2.1 hf.2.2.2.2.2.1]; exact hp_mxx _ _), ht⟩) (fun _ h => nomatch h) dX0_distanceTo_45
set_option maxHeartbeats 400000 in
set_option maxRecDepth 100000 in
theorem c_X1_losesAgainstLastChange (l : Launch) (dC : Nat → ClassId) (dI : Nat → Nat → Nat) (cI cZ cO cJ : ClassId) (o : Nat) (b ad : Nat → Nat) (v : Nat → Int32) (r : Nat → Nat → Int32) (n : Nat)  (i : Nat) (hi : i < n) (p1 p2 : Int32) : Met l yX1_losesAgainstLastChange wsX1_losesAgainstLastChange ({ frames := 0, cells := 0, slots := 0, locals := 0 }) (va_Pc [.ref (ad i), .int p1, .int p2] (hp_prX (dC, dI) cI cZ cO cJ (hp_X cI cZ cO o b ad v r n))) (vp_Si (fun x9 => x9 = hp_b (!(hp_tk r p1 p2 i)))) 0 0 (fun _ => False) := by
  refine Met.ofW (cc := cX1_losesAgainstLastChange) (maxL := 3) (ret := (some .boolean)) (by decide) rfl ?_
  intro p e s m args below meth c s₁ B hml hv
  obtain ⟨rfl, hP, hK, hN⟩ := hv
  have hx := B.exec
  have hb := B.bytes
  have hr := B.returns
  have hts := atoms_spec (ws := wsX1_losesAgainstLastChange) B.pre
  have hown : s.vm.findClass RX1 = some m.cls := findClass_of_methodNamed B.named
  have hlocks := B.notSynchronized
  have hf_169 := hts (.fieldLink RX1 169 "Wallplan$Element" "changeRevision" "I") (by decide +kernel)
  have hf_172 := hts (.fieldLink RX1 172 "Wallplan$Element" "changeTrade" "I") (by decide +kernel)
  have hinX0 : ∀ w ∈ wsX00, w ∈ wsX1_losesAgainstLastChange := by decide +kernel
  have hl := lv_entry ([.ref (ad i), .int p1, .int p2]) (n := 3) (Nat.le_of_ble_eq_true rfl)
  rw [lg_entry_eq]
  generalize (lg_sl ([.ref (ad i), .int p1, .int p2]) ++ List.replicate (3 - (lg_sl ([.ref (ad i), .int p1, .int p2])).length) Slot.unset).toArray = ls at hl ⊢
  have hl : lv_has ls 3 [(0, .ref (ad i)), (1, .int p1), (2, .int p2)] := hl
  refine lv_aload_n hx hb dX1_losesAgainstLastChange_0 rfl (lv_at hl 0 rfl) ?_
  refine va_get (D := (dC, dI)) (ci := 0) (v := .int (r 11 i)) (C := RX0) (T := TX0) (N := 10) hx hb hts hinX0 hown hK hP (6 + i) (hp_X_e (by omega)) rfl 7 (by decide) hf_169 (fun _ h9 => h9) rfl dX1_losesAgainstLastChange_1 ?_
  refine lv_iload_n hx hb dX1_losesAgainstLastChange_4 rfl (lv_at hl 2 rfl) ?_
  refine lv_icmp_le (tgt := 20) hx hb dX1_losesAgainstLastChange_5 (by decide) (fun c_1 => ?_) (fun c_1 => ?_)
  · skip
    have c_1n := hp_len c_1
    refine lv_iconst (v := 0) hx hb dX1_losesAgainstLastChange_20 (by decide) ?_
    exact W.zret (ty := .boolean) (v := 0) hx hb hr rfl (fun t ht hW => ⟨_, rfl, (by rw [← hp_los]; simp [hp_b, c_1, c_1n]), ht⟩) (fun _ h => nomatch h) dX1_losesAgainstLastChange_21
  · skip
    have c_1p := hp_nle c_1
    refine lv_iload_n hx hb dX1_losesAgainstLastChange_8 rfl (lv_at hl 1 rfl) ?_
    refine lv_aload_n hx hb dX1_losesAgainstLastChange_9 rfl (lv_at hl 0 rfl) ?_
    refine va_get (D := (dC, dI)) (ci := 0) (v := .int (r 12 i)) (C := RX0) (T := TX0) (N := 10) hx hb hts hinX0 hown hK hP (6 + i) (hp_X_e (by omega)) rfl 8 (by decide) hf_172 (fun _ h9 => h9) rfl dX1_losesAgainstLastChange_10 ?_
    refine lv_icmp_le (tgt := 20) hx hb dX1_losesAgainstLastChange_13 (by decide) (fun c_2 => ?_) (fun c_2 => ?_)
    · skip
      have c_2n := hp_len c_2
      refine lv_iconst (v := 0) hx hb dX1_losesAgainstLastChange_20 (by decide) ?_
      exact W.zret (ty := .boolean) (v := 0) hx hb hr rfl (fun t ht hW => ⟨_, rfl, (by rw [← hp_los]; simp [hp_b, c_1, c_1p, c_2, c_2n]), ht⟩) (fun _ h => nomatch h) dX1_losesAgainstLastChange_21
    · skip
      have c_2p := hp_nle c_2
      refine lv_iconst (v := 1) hx hb dX1_losesAgainstLastChange_16 (by decide) ?_
      refine lv_goto (tgt := 21) hx hb dX1_losesAgainstLastChange_17 (by decide) ?_
      exact W.zret (ty := .boolean) (v := 1) hx hb hr rfl (fun t ht hW => ⟨_, rfl, (by rw [← hp_los]; simp [hp_b, c_1, c_1p, c_2, c_2p]), ht⟩) (fun _ h => nomatch h) dX1_losesAgainstLastChange_21
set_option maxHeartbeats 400000 in
set_option maxRecDepth 100000 in
theorem c_X1_find (l : Launch) (dC : Nat → ClassId) (dI : Nat → Nat → Nat) (cI cZ cO cJ : ClassId) (o : Nat) (b ad : Nat → Nat) (v : Nat → Int32) (r : Nat → Nat → Int32) (n : Nat) (i : Nat) (x_i : Int32) (hx_i : x_i = nI i) (hn : n ≤ 40) (hi : i < n) : Met l yX1_find wsX1_find ({ frames := 1, cells := 0, slots := 0, locals := 22 }) (va_Pc [.ref o, .int x_i] (hp_prX (dC, dI) cI cZ cO cJ (hp_X cI cZ cO o b ad v r n))) (va_Sq (fun x9 => x9 = some (ad i))) 0 0 (fun _ => False) := by
  refine Met.ofW (cc := cX1_find) (maxL := 2) (ret := (some (.object "Wallplan$Element"))) (by decide) rfl ?_
  intro p e s m args below meth c s₁ B hml hv
  obtain ⟨rfl, hP, hK, hN⟩ := hv
  have hx := B.exec
  have hb := B.bytes
  have hr := B.returns
  have hts := atoms_spec (ws := wsX1_find) B.pre
  have hown : s.vm.findClass RX1 = some m.cls := findClass_of_methodNamed B.named
  have hlocks := B.notSynchronized
  subst hx_i
  have hf_11 := hts (.fieldLink RX1 11 "Wallplan" "elements" "[LWallplan$Element;") (by decide +kernel)
  have hinX1 : ∀ w ∈ wsX10, w ∈ wsX1_find := by decide +kernel
  have hl := lv_entry ([.ref o, .int (nI i)]) (n := 2) (Nat.le_of_ble_eq_true rfl)
  rw [lg_entry_eq]
  generalize (lg_sl ([.ref o, .int (nI i)]) ++ List.replicate (2 - (lg_sl ([.ref o, .int (nI i)])).length) Slot.unset).toArray = ls at hl ⊢
  have hl : lv_has ls 2 [(0, .ref o), (1, .int (nI i))] := hl
  refine lv_iload_n hx hb dX1_find_0 rfl (lv_at hl 1 rfl) ?_
  refine lv_iconst (v := 0) hx hb dX1_find_1 (by decide) ?_
  refine lv_aload_n hx hb dX1_find_2 rfl (lv_at hl 0 rfl) ?_
  refine va_get (D := (dC, dI)) (ci := 1) (v := .ref (b 0)) (C := RX1) (T := TX1) (N := 8) hx hb hts hinX1 hown hK hP 0 hp_X_o rfl 0 (by decide) hf_11 (fun _ h9 => h9) rfl dX1_find_3 ?_
  refine va_alen (v := 40) hx hb hK hP 1 2 hp_X_0 rfl (by rfl) dX1_find_6 ?_
  refine lv_iconst (v := 1) hx hb dX1_find_7 (by decide) ?_
  refine lv_isub hx hb dX1_find_8 ?_
  refine vp_callSi (W.runS (As := [.int (nI i), .int 0, .int (40 - 1)]) (rest := []) ⟨hx, hb, hml, hown, hts⟩ (c_X1_isWithin l (nI i) 0 (40 - 1)) (va_cwS 3 hts gX1_find_X1_isWithin rfl rfl rfl (by decide +kernel) ⟨(Nat.le_of_ble_eq_true rfl), (Nat.le_of_ble_eq_true rfl)⟩) ⟨hp_nfb, fun _ _ _ => ⟨rfl, trivial⟩⟩ rfl rfl hl.1 rfl (lv_room (Nat.le_of_ble_eq_true rfl)) dX1_find_9 ⟨(Nat.zero_le _), (Nat.zero_le _)⟩) (fun r_1 hr_1 => ?_)
  subst hr_1
  refine lv_if_eq (tgt := 24) hx hb dX1_find_12 (by decide) (fun c_2 => (hp_tf (hp_in_nI (N := 39) (by decide) (by omega) (by decide)) (hp_bz c_2)).elim) (fun _ => ?_)
  refine lv_aload_n hx hb dX1_find_15 rfl (lv_at hl 0 rfl) ?_
  refine va_get (D := (dC, dI)) (ci := 1) (v := .ref (b 0)) (C := RX1) (T := TX1) (N := 8) hx hb hts hinX1 hown hK hP 0 hp_X_o rfl 0 (by decide) hf_11 (fun _ h9 => h9) rfl dX1_find_16 ?_
  refine lv_iload_n hx hb dX1_find_19 rfl (lv_at hl 1 rfl) ?_
  refine hp_aald (C := RX0) hx hb hK hP 1 2 hp_X_0 rfl (k := i) (by omega) (by decide) dX1_find_20 ?_
  refine lv_goto (tgt := 25) hx hb dX1_find_21 (by decide) ?_
  exact W.aret (v := va_rf (if i < n then some (ad i) else none)) hx hb hr (Or.inl ⟨_, rfl⟩) (va_rf_or _) (fun t ht hW => ⟨_, rfl, (by exact if_pos hi), ht⟩) (fun _ h => nomatch h) dX1_find_25
set_option maxHeartbeats 400000 in
set_option maxRecDepth 100000 in
theorem c_X1_find_no (l : Launch) (dC : Nat → ClassId) (dI : Nat → Nat → Nat) (cI cZ cO cJ : ClassId) (o : Nat) (b ad : Nat → Nat) (v : Nat → Int32) (r : Nat → Nat → Int32) (n : Nat)  (p0 : Int32) (hn : n ≤ 40) (h9 : hp_el n p0 = false) : Met l yX1_find wsX1_find ({ frames := 1, cells := 0, slots := 0, locals := 22 }) (va_Pc [.ref o, .int p0] (hp_prX (dC, dI) cI cZ cO cJ (hp_X cI cZ cO o b ad v r n))) (va_Sq (fun x9 => x9 = none)) 0 0 (fun _ => False) := by
  refine Met.ofW (cc := cX1_find) (maxL := 2) (ret := (some (.object "Wallplan$Element"))) (by decide) rfl ?_
  intro p e s m args below meth c s₁ B hml hv
  obtain ⟨rfl, hP, hK, hN⟩ := hv
  have hx := B.exec
  have hb := B.bytes
  have hr := B.returns
  have hts := atoms_spec (ws := wsX1_find) B.pre
  have hown : s.vm.findClass RX1 = some m.cls := findClass_of_methodNamed B.named
  have hlocks := B.notSynchronized
  have hf_11 := hts (.fieldLink RX1 11 "Wallplan" "elements" "[LWallplan$Element;") (by decide +kernel)
  have hinX1 : ∀ w ∈ wsX10, w ∈ wsX1_find := by decide +kernel
  have hl := lv_entry ([.ref o, .int p0]) (n := 2) (Nat.le_of_ble_eq_true rfl)
  rw [lg_entry_eq]
  generalize (lg_sl ([.ref o, .int p0]) ++ List.replicate (2 - (lg_sl ([.ref o, .int p0])).length) Slot.unset).toArray = ls at hl ⊢
  have hl : lv_has ls 2 [(0, .ref o), (1, .int p0)] := hl
  refine lv_iload_n hx hb dX1_find_0 rfl (lv_at hl 1 rfl) ?_
  refine lv_iconst (v := 0) hx hb dX1_find_1 (by decide) ?_
  refine lv_aload_n hx hb dX1_find_2 rfl (lv_at hl 0 rfl) ?_
  refine va_get (D := (dC, dI)) (ci := 1) (v := .ref (b 0)) (C := RX1) (T := TX1) (N := 8) hx hb hts hinX1 hown hK hP 0 hp_X_o rfl 0 (by decide) hf_11 (fun _ h9 => h9) rfl dX1_find_3 ?_
  refine va_alen (v := 40) hx hb hK hP 1 2 hp_X_0 rfl (by rfl) dX1_find_6 ?_
  refine lv_iconst (v := 1) hx hb dX1_find_7 (by decide) ?_
  refine lv_isub hx hb dX1_find_8 ?_
  refine vp_callSi (W.runS (As := [.int p0, .int 0, .int (40 - 1)]) (rest := []) ⟨hx, hb, hml, hown, hts⟩ (c_X1_isWithin l p0 0 (40 - 1)) (va_cwS 3 hts gX1_find_X1_isWithin rfl rfl rfl (by decide +kernel) ⟨(Nat.le_of_ble_eq_true rfl), (Nat.le_of_ble_eq_true rfl)⟩) ⟨hp_nfb, fun _ _ _ => ⟨rfl, trivial⟩⟩ rfl rfl hl.1 rfl (lv_room (Nat.le_of_ble_eq_true rfl)) dX1_find_9 ⟨(Nat.zero_le _), (Nat.zero_le _)⟩) (fun r_1 hr_1 => ?_)
  subst hr_1
  refine lv_if_eq (tgt := 24) hx hb dX1_find_12 (by decide) (fun c_2 => ?_) (fun c_2 => ?_)
  · skip
    have c_2 := hp_bz c_2
    refine lv_null hx hb dX1_find_24 ?_
    exact W.aret (v := va_rf (none)) hx hb hr (Or.inl ⟨_, rfl⟩) (va_rf_or _) (fun t ht hW => ⟨_, rfl, (by rfl), ht⟩) (fun _ h => nomatch h) dX1_find_25
  · skip
    have c_2 := hp_bn c_2
    obtain ⟨j, hj, rfl⟩ := hp_in_of (N := 39) (by decide) c_2
    have hj2 : ¬ j < n := fun q => hp_tf (hp_el_nI hn q) h9
    refine lv_aload_n hx hb dX1_find_15 rfl (lv_at hl 0 rfl) ?_
    refine va_get (D := (dC, dI)) (ci := 1) (v := .ref (b 0)) (C := RX1) (T := TX1) (N := 8) hx hb hts hinX1 hown hK hP 0 hp_X_o rfl 0 (by decide) hf_11 (fun _ h9 => h9) rfl dX1_find_16 ?_
    refine lv_iload_n hx hb dX1_find_19 rfl (lv_at hl 1 rfl) ?_
    refine hp_aald (C := RX0) hx hb hK hP 1 2 hp_X_0 rfl (k := j) (by omega) (by decide) dX1_find_20 ?_
    refine lv_goto (tgt := 25) hx hb dX1_find_21 (by decide) ?_
    exact W.aret (v := va_rf (if j < n then some (ad j) else none)) hx hb hr (Or.inl ⟨_, rfl⟩) (va_rf_or _) (fun t ht hW => ⟨_, rfl, (by exact if_neg hj2), ht⟩) (fun _ h => nomatch h) dX1_find_25
set_option maxHeartbeats 400000 in
set_option maxRecDepth 100000 in
theorem c_X1_isOnStorey (l : Launch) (dC : Nat → ClassId) (dI : Nat → Nat → Nat) (cI cZ cO cJ : ClassId) (o : Nat) (b ad : Nat → Nat) (v : Nat → Int32) (r : Nat → Nat → Int32) (n : Nat) (i : Nat) (x_i : Int32) (hx_i : x_i = nI i) (p1 : Int32) (hn : n ≤ 40) (hi : i < n) : Met l yX1_isOnStorey wsX1_isOnStorey ({ frames := 2, cells := 0, slots := 0, locals := 43 }) (va_Pc [.ref o, .int x_i, .int p1] (hp_prX (dC, dI) cI cZ cO cJ (hp_X cI cZ cO o b ad v r n))) (vp_Si (fun x9 => x9 = hp_b (r 5 i == p1))) 0 0 (fun _ => False) := by
  refine Met.ofW (cc := cX1_isOnStorey) (maxL := 4) (ret := (some .boolean)) (by decide) rfl ?_
  intro p e s m args below meth c s₁ B hml hv
  obtain ⟨rfl, hP, hK, hN⟩ := hv
  have hx := B.exec
  have hb := B.bytes
  have hr := B.returns
  have hts := atoms_spec (ws := wsX1_isOnStorey) B.pre
  have hown : s.vm.findClass RX1 = some m.cls := findClass_of_methodNamed B.named
  have hlocks := B.notSynchronized
  subst hx_i
  have hf_154 := hts (.fieldLink RX1 154 "Wallplan$Element" "storey" "I") (by decide +kernel)
  have hinX0 : ∀ w ∈ wsX00, w ∈ wsX1_isOnStorey := by decide +kernel
  have hl := lv_entry ([.ref o, .int (nI i), .int p1]) (n := 4) (Nat.le_of_ble_eq_true rfl)
  rw [lg_entry_eq]
  generalize (lg_sl ([.ref o, .int (nI i), .int p1]) ++ List.replicate (4 - (lg_sl ([.ref o, .int (nI i), .int p1])).length) Slot.unset).toArray = ls at hl ⊢
  have hl : lv_has ls 4 [(0, .ref o), (1, .int (nI i)), (2, .int p1)] := hl
  refine lv_aload_n hx hb dX1_isOnStorey_0 rfl (lv_at hl 0 rfl) ?_
  refine lv_iload_n hx hb dX1_isOnStorey_1 rfl (lv_at hl 1 rfl) ?_
  refine va_csq (W.runV (As := [.int (nI i)]) (rest := []) ⟨hx, hb, hml, hown, hts⟩ (c_X1_find l dC dI cI cZ cO cJ o b ad v r n i (nI i) rfl hn (by omega)) (cwV 1 hts gX1_isOnStorey_X1_find rfl rfl rfl (by decide +kernel) ⟨(Nat.le_of_ble_eq_true rfl), (Nat.le_of_ble_eq_true rfl)⟩) ⟨hp_fbX, va_recv hK hP (ci := 1) (q0 := 0) rfl hp_X_o, fun U hU hW => ⟨rfl, hp_toX hP hK hN hU hW⟩⟩ rfl rfl hl.1 rfl (lv_room (Nat.le_of_ble_eq_true rfl)) dX1_isOnStorey_2 ⟨(Nat.zero_le _), (Nat.zero_le _)⟩) (fun r_1 hr_1 => ?_)
  subst hr_1
  refine W.eq (g2 := F0 m 5 ls [.ref (ad i)]) rfl ?_
  refine lv_astore_n (lv' := [(3, .ref (ad i)), (0, .ref o), (1, .int (nI i)), (2, .int p1)]) hx hb dX1_isOnStorey_5 rfl hl (by decide) rfl (fun ls hl => ?_)
  refine lv_aload_n hx hb dX1_isOnStorey_6 rfl (lv_at hl 0 rfl) ?_
  refine lv_ifnull hx hb dX1_isOnStorey_7 ?_
  refine lv_aload_n hx hb dX1_isOnStorey_10 rfl (lv_at hl 0 rfl) ?_
  refine va_get (D := (dC, dI)) (ci := 0) (v := .int (r 5 i)) (C := RX0) (T := TX0) (N := 10) hx hb hts hinX0 hown hK hP (6 + i) (hp_X_e (by omega)) rfl 1 (by decide) hf_154 (fun _ h9 => h9) rfl dX1_isOnStorey_11 ?_
  refine lv_iload_n hx hb dX1_isOnStorey_14 rfl (lv_at hl 3 rfl) ?_
  refine lv_icmp_ne (tgt := 22) hx hb dX1_isOnStorey_15 (by decide) (fun c_2 => ?_) (fun c_2 => ?_)
  · skip
    refine lv_iconst (v := 0) hx hb dX1_isOnStorey_22 (by decide) ?_
    exact W.zret (ty := .boolean) (v := 0) hx hb hr rfl (fun t ht hW => ⟨_, rfl, (by simp [hp_b, c_2]), ht⟩) (fun _ h => nomatch h) dX1_isOnStorey_23
  · skip
    refine lv_iconst (v := 1) hx hb dX1_isOnStorey_18 (by decide) ?_
    refine lv_goto (tgt := 23) hx hb dX1_isOnStorey_19 (by decide) ?_
    exact W.zret (ty := .boolean) (v := 1) hx hb hr rfl (fun t ht hW => ⟨_, rfl, (by simp [hp_b, c_2]), ht⟩) (fun _ h => nomatch h) dX1_isOnStorey_23
set_option maxHeartbeats 400000 in
set_option maxRecDepth 100000 in
theorem c_X1_clearanceOf (l : Launch) (dC : Nat → ClassId) (dI : Nat → Nat → Nat) (cI cZ cO cJ : ClassId) (o : Nat) (b ad : Nat → Nat) (v : Nat → Int32) (r : Nat → Nat → Int32) (n : Nat)  (p0 p1 : Int32) (h0 : hp_kd p0 = true) (h1 : hp_kd p1 = true) : Met l yX1_clearanceOf wsX1_clearanceOf ({ frames := 2, cells := 0, slots := 0, locals := 42 }) (va_Pc [.ref o, .int p0, .int p1] (hp_prX (dC, dI) cI cZ cO cJ (hp_X cI cZ cO o b ad v r n))) (vp_Si (fun x9 => x9 = r 14 (hp_ci p0 p1))) 0 0 (fun _ => False) := by
  refine Met.ofW (cc := cX1_clearanceOf) (maxL := 3) (ret := (some .int)) (by decide) rfl ?_
  intro p e s m args below meth c s₁ B hml hv
  obtain ⟨rfl, hP, hK, hN⟩ := hv
  have hx := B.exec
  have hb := B.bytes
  have hr := B.returns
  have hts := atoms_spec (ws := wsX1_clearanceOf) B.pre
  have hown : s.vm.findClass RX1 = some m.cls := findClass_of_methodNamed B.named
  have hlocks := B.notSynchronized
  have hf_19 := hts (.fieldLink RX1 19 "Wallplan" "clearances" "[I") (by decide +kernel)
  have hinX1 : ∀ w ∈ wsX10, w ∈ wsX1_clearanceOf := by decide +kernel
  have hl := lv_entry ([.ref o, .int p0, .int p1]) (n := 3) (Nat.le_of_ble_eq_true rfl)
  rw [lg_entry_eq]
  generalize (lg_sl ([.ref o, .int p0, .int p1]) ++ List.replicate (3 - (lg_sl ([.ref o, .int p0, .int p1])).length) Slot.unset).toArray = ls at hl ⊢
  have hl : lv_has ls 3 [(0, .ref o), (1, .int p0), (2, .int p1)] := hl
  refine lv_iload_n hx hb dX1_clearanceOf_0 rfl (lv_at hl 1 rfl) ?_
  refine vp_callSi (W.runS (As := [.int p0]) (rest := []) ⟨hx, hb, hml, hown, hts⟩ (c_X1_isKind l p0) (va_cwS 1 hts gX1_clearanceOf_X1_isKind rfl rfl rfl (by decide +kernel) ⟨(Nat.le_of_ble_eq_true rfl), (Nat.le_of_ble_eq_true rfl)⟩) ⟨hp_nfb, fun _ _ _ => ⟨rfl, trivial⟩⟩ rfl rfl hl.1 rfl (lv_room (Nat.le_of_ble_eq_true rfl)) dX1_clearanceOf_1 ⟨(Nat.zero_le _), (Nat.zero_le _)⟩) (fun r_1 hr_1 => ?_)
  subst hr_1
  refine lv_if_eq (tgt := 27) hx hb dX1_clearanceOf_4 (by decide) (fun c9 => (hp_tf h0 (hp_bz c9)).elim) (fun _ => ?_)
  refine lv_iload_n hx hb dX1_clearanceOf_7 rfl (lv_at hl 2 rfl) ?_
  refine vp_callSi (W.runS (As := [.int p1]) (rest := []) ⟨hx, hb, hml, hown, hts⟩ (c_X1_isKind l p1) (va_cwS 1 hts gX1_clearanceOf_X1_isKind rfl rfl rfl (by decide +kernel) ⟨(Nat.le_of_ble_eq_true rfl), (Nat.le_of_ble_eq_true rfl)⟩) ⟨hp_nfb, fun _ _ _ => ⟨rfl, trivial⟩⟩ rfl rfl hl.1 rfl (lv_room (Nat.le_of_ble_eq_true rfl)) dX1_clearanceOf_8 ⟨(Nat.zero_le _), (Nat.zero_le _)⟩) (fun r_3 hr_3 => ?_)
  subst hr_3
  refine lv_if_eq (tgt := 27) hx hb dX1_clearanceOf_11 (by decide) (fun c9 => (hp_tf h1 (hp_bz c9)).elim) (fun _ => ?_)
  refine lv_aload_n hx hb dX1_clearanceOf_14 rfl (lv_at hl 0 rfl) ?_
  refine va_get (D := (dC, dI)) (ci := 1) (v := .ref (b 2)) (C := RX1) (T := TX1) (N := 8) hx hb hts hinX1 hown hK hP 0 hp_X_o rfl 2 (by decide) hf_19 (fun _ h9 => h9) rfl dX1_clearanceOf_15 ?_
  refine lv_iload_n hx hb dX1_clearanceOf_18 rfl (lv_at hl 1 rfl) ?_
  refine lv_iconst (v := 3) hx hb dX1_clearanceOf_19 (by decide) ?_
  refine lv_imul hx hb dX1_clearanceOf_20 ?_
  refine lv_iload_n hx hb dX1_clearanceOf_21 rfl (lv_at hl 2 rfl) ?_
  refine lv_iadd hx hb dX1_clearanceOf_22 ?_
  refine hp_ialdx (v := r 14 (((p0 * 3) + p1).toNatClampNeg)) hx hb hK hP 2 0 hp_X_14 rfl (i := (p0 * 3) + p1) (by rw [Int32.mul_comm]; exact hp_ci_in h0 h1) rfl dX1_clearanceOf_23 ?_
  refine lv_goto (tgt := 28) hx hb dX1_clearanceOf_24 (by decide) ?_
  exact W.iret (v := r 14 (((p0 * 3) + p1).toNatClampNeg)) hx hb hr (fun t ht hW => ⟨_, rfl, (by rw [hp_ci, Int32.mul_comm]), ht⟩) (fun _ h => nomatch h) dX1_clearanceOf_28
set_option maxHeartbeats 400000 in
set_option maxRecDepth 100000 in
theorem c_X1_isClashingPair (l : Launch) (dC : Nat → ClassId) (dI : Nat → Nat → Nat) (cI cZ cO cJ : ClassId) (o : Nat) (b ad : Nat → Nat) (v : Nat → Int32) (r : Nat → Nat → Int32) (n : Nat) (i : Nat) (x_i : Int32) (hx_i : x_i = nI i) (j : Nat) (x_j : Int32) (hx_j : x_j = nI j) (hi : i < n) (hj : j < n) (hinv : hp_inv v r n) : Met l yX1_isClashingPair wsX1_isClashingPair ({ frames := 3, cells := 0, slots := 0, locals := 69 }) (va_Pc [.ref o, .int x_i, .int x_j] (hp_prX (dC, dI) cI cZ cO cJ (hp_X cI cZ cO o b ad v r n))) (vp_Si (fun x9 => x9 = hp_b (hp_cla r i j))) 0 0 (fun _ => False) := by
  refine Met.ofW (cc := cX1_isClashingPair) (maxL := 5) (ret := (some .boolean)) (by decide) rfl ?_
  intro p e s m args below meth c s₁ B hml hv
  obtain ⟨rfl, hP, hK, hN⟩ := hv
  have hx := B.exec
  have hb := B.bytes
  have hr := B.returns
  have hts := atoms_spec (ws := wsX1_isClashingPair) B.pre
  have hown : s.vm.findClass RX1 = some m.cls := findClass_of_methodNamed B.named
  have hlocks := B.notSynchronized
  subst hx_i
  subst hx_j
  have hf_122 := hts (.fieldLink RX1 122 "Wallplan$Element" "kind" "I") (by decide +kernel)
  have hf_154 := hts (.fieldLink RX1 154 "Wallplan$Element" "storey" "I") (by decide +kernel)
  have hinX0 : ∀ w ∈ wsX00, w ∈ wsX1_isClashingPair := by decide +kernel
  have hl := lv_entry ([.ref o, .int (nI i), .int (nI j)]) (n := 5) (Nat.le_of_ble_eq_true rfl)
  rw [lg_entry_eq]
  generalize (lg_sl ([.ref o, .int (nI i), .int (nI j)]) ++ List.replicate (5 - (lg_sl ([.ref o, .int (nI i), .int (nI j)])).length) Slot.unset).toArray = ls at hl ⊢
  have hl : lv_has ls 5 [(0, .ref o), (1, .int (nI i)), (2, .int (nI j))] := hl
  have hn := hinv.1
  refine lv_aload_n hx hb dX1_isClashingPair_0 rfl (lv_at hl 0 rfl) ?_
  refine lv_iload_n hx hb dX1_isClashingPair_1 rfl (lv_at hl 1 rfl) ?_
  refine va_csq (W.runV (As := [.int (nI i)]) (rest := []) ⟨hx, hb, hml, hown, hts⟩ (c_X1_find l dC dI cI cZ cO cJ o b ad v r n i (nI i) rfl hn (by omega)) (cwV 1 hts gX1_isClashingPair_X1_find rfl rfl rfl (by decide +kernel) ⟨(Nat.le_of_ble_eq_true rfl), (Nat.le_of_ble_eq_true rfl)⟩) ⟨hp_fbX, va_recv hK hP (ci := 1) (q0 := 0) rfl hp_X_o, fun U hU hW => ⟨rfl, hp_toX hP hK hN hU hW⟩⟩ rfl rfl hl.1 rfl (lv_room (Nat.le_of_ble_eq_true rfl)) dX1_isClashingPair_2 ⟨(Nat.zero_le _), (Nat.zero_le _)⟩) (fun r_1 hr_1 => ?_)
  subst hr_1
  refine W.eq (g2 := F0 m 5 ls [.ref (ad i)]) rfl ?_
  refine lv_astore_n (lv' := [(3, .ref (ad i)), (0, .ref o), (1, .int (nI i)), (2, .int (nI j))]) hx hb dX1_isClashingPair_5 rfl hl (by decide) rfl (fun ls hl => ?_)
  refine lv_aload_n hx hb dX1_isClashingPair_6 rfl (lv_at hl 1 rfl) ?_
  refine lv_iload_n hx hb dX1_isClashingPair_7 rfl (lv_at hl 3 rfl) ?_
  refine va_csq (W.runV (As := [.int (nI j)]) (rest := []) ⟨hx, hb, hml, hown, hts⟩ (c_X1_find l dC dI cI cZ cO cJ o b ad v r n j (nI j) rfl hn (by omega)) (cwV 1 hts gX1_isClashingPair_X1_find rfl rfl rfl (by decide +kernel) ⟨(Nat.le_of_ble_eq_true rfl), (Nat.le_of_ble_eq_true rfl)⟩) ⟨hp_fbX, va_recv hK hP (ci := 1) (q0 := 0) rfl hp_X_o, fun U hU hW => ⟨rfl, hp_toX hP hK hN hU hW⟩⟩ rfl rfl hl.1 rfl (lv_room (Nat.le_of_ble_eq_true rfl)) dX1_isClashingPair_8 ⟨(Nat.zero_le _), (Nat.zero_le _)⟩) (fun r_2 hr_2 => ?_)
  subst hr_2
  refine W.eq (g2 := F0 m 11 ls [.ref (ad j)]) rfl ?_
  refine lv_astore (lv' := [(4, .ref (ad j)), (3, .ref (ad i)), (0, .ref o), (1, .int (nI i)), (2, .int (nI j))]) hx hb dX1_isClashingPair_11 hl (by decide) rfl (fun ls hl => ?_)
  refine lv_aload_n hx hb dX1_isClashingPair_13 rfl (lv_at hl 1 rfl) ?_
  refine lv_ifnull hx hb dX1_isClashingPair_14 ?_
  refine lv_aload hx hb dX1_isClashingPair_17 (lv_at hl 0 rfl) ?_
  refine lv_ifnull hx hb dX1_isClashingPair_19 ?_
  refine lv_iload_n hx hb dX1_isClashingPair_22 rfl (lv_at hl 3 rfl) ?_
  refine lv_iload_n hx hb dX1_isClashingPair_23 rfl (lv_at hl 4 rfl) ?_
  refine lv_icmp_ne (tgt := 29) hx hb dX1_isClashingPair_24 (by decide) (fun c_3 => ?_) (fun c_3 => ?_)
  · skip
    have c_3 : ¬ i = j := fun h9 => c_3 ((nI_eq (a := i) (b := j) (by omega) (by omega)).mpr h9)
    refine lv_aload_n hx hb dX1_isClashingPair_29 rfl (lv_at hl 1 rfl) ?_
    refine va_get (D := (dC, dI)) (ci := 0) (v := .int (r 5 i)) (C := RX0) (T := TX0) (N := 10) hx hb hts hinX0 hown hK hP (6 + i) (hp_X_e (by omega)) rfl 1 (by decide) hf_154 (fun _ h9 => h9) rfl dX1_isClashingPair_30 ?_
    refine lv_aload hx hb dX1_isClashingPair_33 (lv_at hl 0 rfl) ?_
    refine va_get (D := (dC, dI)) (ci := 0) (v := .int (r 5 j)) (C := RX0) (T := TX0) (N := 10) hx hb hts hinX0 hown hK hP (6 + j) (hp_X_e (by omega)) rfl 1 (by decide) hf_154 (fun _ h9 => h9) rfl dX1_isClashingPair_35 ?_
    refine lv_icmp_ne (tgt := 82) hx hb dX1_isClashingPair_38 (by decide) (fun c_4 => ?_) (fun c_4 => ?_)
    · skip
      refine lv_iconst (v := 0) hx hb dX1_isClashingPair_82 (by decide) ?_
      exact W.zret (ty := .boolean) (v := 0) hx hb hr rfl (fun t ht hW => ⟨_, rfl, (by simp [hp_cla, hp_cixe, hp_b, c_3, c_4]), ht⟩) (fun _ h => nomatch h) dX1_isClashingPair_83
    · skip
      refine lv_aload_n hx hb dX1_isClashingPair_41 rfl (lv_at hl 1 rfl) ?_
      refine vp_callSi (W.runV (As := []) (rest := []) ⟨hx, hb, hml, hown, hts⟩ (c_X0_isThere l dC dI cI cZ cO cJ o b ad v r n i (by omega) ) (cwV 0 hts gX1_isClashingPair_X0_isThere rfl rfl rfl (by decide +kernel) ⟨(Nat.le_of_ble_eq_true rfl), (Nat.le_of_ble_eq_true rfl)⟩) ⟨hp_fbX, va_recv hK hP (ci := 0) (q0 := 6 + i) rfl (hp_X_e (by omega)), fun U hU hW => ⟨rfl, hp_toX hP hK hN hU hW⟩⟩ rfl rfl hl.1 rfl (lv_room (Nat.le_of_ble_eq_true rfl)) dX1_isClashingPair_42 ⟨(Nat.zero_le _), (Nat.zero_le _)⟩) (fun r_5 hr_5 => ?_)
      subst hr_5
      refine lv_if_eq (tgt := 82) hx hb dX1_isClashingPair_45 (by decide) (fun c_6 => ?_) (fun c_6 => ?_)
      · skip
        have c_6 := hp_bz c_6
        refine lv_iconst (v := 0) hx hb dX1_isClashingPair_82 (by decide) ?_
        exact W.zret (ty := .boolean) (v := 0) hx hb hr rfl (fun t ht hW => ⟨_, rfl, (by simp [hp_cla, hp_cixe, hp_b, c_3, c_4, c_6]), ht⟩) (fun _ h => nomatch h) dX1_isClashingPair_83
      · skip
        have c_6 := hp_bn c_6
        refine lv_aload hx hb dX1_isClashingPair_48 (lv_at hl 0 rfl) ?_
        refine vp_callSi (W.runV (As := []) (rest := []) ⟨hx, hb, hml, hown, hts⟩ (c_X0_isThere l dC dI cI cZ cO cJ o b ad v r n j (by omega) ) (cwV 0 hts gX1_isClashingPair_X0_isThere rfl rfl rfl (by decide +kernel) ⟨(Nat.le_of_ble_eq_true rfl), (Nat.le_of_ble_eq_true rfl)⟩) ⟨hp_fbX, va_recv hK hP (ci := 0) (q0 := 6 + j) rfl (hp_X_e (by omega)), fun U hU hW => ⟨rfl, hp_toX hP hK hN hU hW⟩⟩ rfl rfl hl.1 rfl (lv_room (Nat.le_of_ble_eq_true rfl)) dX1_isClashingPair_50 ⟨(Nat.zero_le _), (Nat.zero_le _)⟩) (fun r_7 hr_7 => ?_)
        subst hr_7
        refine lv_if_eq (tgt := 82) hx hb dX1_isClashingPair_53 (by decide) (fun c_8 => ?_) (fun c_8 => ?_)
        · skip
          have c_8 := hp_bz c_8
          refine lv_iconst (v := 0) hx hb dX1_isClashingPair_82 (by decide) ?_
          exact W.zret (ty := .boolean) (v := 0) hx hb hr rfl (fun t ht hW => ⟨_, rfl, (by simp [hp_cla, hp_cixe, hp_b, c_3, c_4, c_6, c_8]), ht⟩) (fun _ h => nomatch h) dX1_isClashingPair_83
        · skip
          have c_8 := hp_bn c_8
          refine lv_aload_n hx hb dX1_isClashingPair_56 rfl (lv_at hl 1 rfl) ?_
          refine lv_aload hx hb dX1_isClashingPair_57 (lv_at hl 0 rfl) ?_
          refine vp_callSi (W.runV (As := [.ref (ad j)]) (rest := []) ⟨hx, hb, hml, hown, hts⟩ (c_X0_distanceTo l dC dI cI cZ cO cJ o b ad v r n i (by omega) j (by omega) (hinv.2.1 _ (by omega)) (hinv.2.1 _ (by omega))) (cwV 1 hts gX1_isClashingPair_X0_distanceTo rfl rfl rfl (by decide +kernel) ⟨(Nat.le_of_ble_eq_true rfl), (Nat.le_of_ble_eq_true rfl)⟩) ⟨hp_fbX, va_recv hK hP (ci := 0) (q0 := 6 + i) rfl (hp_X_e (by omega)), fun U hU hW => ⟨rfl, hp_toX hP hK hN hU hW⟩⟩ rfl rfl hl.1 rfl (lv_room (Nat.le_of_ble_eq_true rfl)) dX1_isClashingPair_59 ⟨(Nat.zero_le _), (Nat.zero_le _)⟩) (fun r_9 hr_9 => ?_)
          subst hr_9
          refine lv_aload_n hx hb dX1_isClashingPair_62 rfl (lv_at hl 2 rfl) ?_
          refine lv_aload_n hx hb dX1_isClashingPair_63 rfl (lv_at hl 1 rfl) ?_
          refine va_get (D := (dC, dI)) (ci := 0) (v := .int (r 4 i)) (C := RX0) (T := TX0) (N := 10) hx hb hts hinX0 hown hK hP (6 + i) (hp_X_e (by omega)) rfl 0 (by decide) hf_122 (fun _ h9 => h9) rfl dX1_isClashingPair_64 ?_
          refine lv_aload hx hb dX1_isClashingPair_67 (lv_at hl 0 rfl) ?_
          refine va_get (D := (dC, dI)) (ci := 0) (v := .int (r 4 j)) (C := RX0) (T := TX0) (N := 10) hx hb hts hinX0 hown hK hP (6 + j) (hp_X_e (by omega)) rfl 0 (by decide) hf_122 (fun _ h9 => h9) rfl dX1_isClashingPair_69 ?_
          refine vp_callSi (W.runV (As := [.int (r 4 i), .int (r 4 j)]) (rest := [.int (hp_max (hp_gap (r 6 i) (r 8 i) (r 6 j) (r 8 j)) (hp_gap (r 7 i) (r 9 i) (r 7 j) (r 9 j)))]) ⟨hx, hb, hml, hown, hts⟩ (c_X1_clearanceOf l dC dI cI cZ cO cJ o b ad v r n (r 4 i) (r 4 j) (hp_kdr (hinv.2.1 _ (by omega))) (hp_kdr (hinv.2.1 _ (by omega)))) (cwV 2 hts gX1_isClashingPair_X1_clearanceOf rfl rfl rfl (by decide +kernel) ⟨(Nat.le_of_ble_eq_true rfl), (Nat.le_of_ble_eq_true rfl)⟩) ⟨hp_fbX, va_recv hK hP (ci := 1) (q0 := 0) rfl hp_X_o, fun U hU hW => ⟨rfl, hp_toX hP hK hN hU hW⟩⟩ rfl rfl hl.1 rfl (lv_room (Nat.le_of_ble_eq_true rfl)) dX1_isClashingPair_72 ⟨(Nat.zero_le _), (Nat.zero_le _)⟩) (fun r_10 hr_10 => ?_)
          subst hr_10
          refine lv_icmp_ge (tgt := 82) hx hb dX1_isClashingPair_75 (by decide) (fun c_11 => ?_) (fun c_11 => ?_)
          · skip
            have c_11n := hp_len c_11
            refine lv_iconst (v := 0) hx hb dX1_isClashingPair_82 (by decide) ?_
            exact W.zret (ty := .boolean) (v := 0) hx hb hr rfl (fun t ht hW => ⟨_, rfl, (by simp [hp_cla, hp_cixe, hp_b, c_3, c_4, c_6, c_8, c_11, c_11n]), ht⟩) (fun _ h => nomatch h) dX1_isClashingPair_83
          · skip
            have c_11p := hp_nle c_11
            refine lv_iconst (v := 1) hx hb dX1_isClashingPair_78 (by decide) ?_
            refine lv_goto (tgt := 83) hx hb dX1_isClashingPair_79 (by decide) ?_
            exact W.zret (ty := .boolean) (v := 1) hx hb hr rfl (fun t ht hW => ⟨_, rfl, (by simp [hp_cla, hp_cixe, hp_b, c_3, c_4, c_6, c_8, c_11, c_11p]), ht⟩) (fun _ h => nomatch h) dX1_isClashingPair_83
  · skip
    have c_3 := (nI_eq (a := i) (b := j) (by omega) (by omega)).mp c_3
    refine lv_iconst (v := 0) hx hb dX1_isClashingPair_27 (by decide) ?_
    exact W.zret (ty := .boolean) (v := 0) hx hb hr rfl (fun t ht hW => ⟨_, rfl, (by simp [hp_cla, hp_cixe, hp_b, c_3]), ht⟩) (fun _ h => nomatch h) dX1_isClashingPair_28
set_option maxHeartbeats 400000 in
set_option maxRecDepth 100000 in
theorem c_X1_clashesWithAny (l : Launch) (dC : Nat → ClassId) (dI : Nat → Nat → Nat) (cI cZ cO cJ : ClassId) (o : Nat) (b ad : Nat → Nat) (v : Nat → Int32) (r : Nat → Nat → Int32) (n : Nat) (i : Nat) (x_i : Int32) (hx_i : x_i = nI i) (hi : i < n) (hinv : hp_inv v r n) : Met l yX1_clashesWithAny wsX1_clashesWithAny ({ frames := 4, cells := 0, slots := 0, locals := 93 }) (va_Pc [.ref o, .int x_i] (hp_prX (dC, dI) cI cZ cO cJ (hp_X cI cZ cO o b ad v r n))) (vp_Si (fun x9 => x9 = hp_b (hp_has r n i))) 0 0 (fun _ => False) := by
  refine Met.ofW (cc := cX1_clashesWithAny) (maxL := 3) (ret := (some .boolean)) (by decide) rfl ?_
  intro p e s m args below meth c s₁ B hml hv
  obtain ⟨rfl, hP, hK, hN⟩ := hv
  have hx := B.exec
  have hb := B.bytes
  have hr := B.returns
  have hts := atoms_spec (ws := wsX1_clashesWithAny) B.pre
  have hown : s.vm.findClass RX1 = some m.cls := findClass_of_methodNamed B.named
  have hlocks := B.notSynchronized
  subst hx_i
  have hf_15 := hts (.fieldLink RX1 15 "Wallplan" "count" "I") (by decide +kernel)
  have hinX1 : ∀ w ∈ wsX10, w ∈ wsX1_clashesWithAny := by decide +kernel
  have hl := lv_entry ([.ref o, .int (nI i)]) (n := 3) (Nat.le_of_ble_eq_true rfl)
  rw [lg_entry_eq]
  generalize (lg_sl ([.ref o, .int (nI i)]) ++ List.replicate (3 - (lg_sl ([.ref o, .int (nI i)])).length) Slot.unset).toArray = ls at hl ⊢
  have hl : lv_has ls 3 [(0, .ref o), (1, .int (nI i))] := hl
  have hn := hinv.1
  refine lv_iconst (v := 0) hx hb dX1_clashesWithAny_0 (by decide) ?_
  refine lv_istore_n (lv' := [(2, .int 0), (0, .ref o), (1, .int (nI i))]) hx hb dX1_clashesWithAny_1 rfl hl (by decide) rfl (fun ls hl => ?_)
  refine hp_loopI (fun k => [(2, .int (nI k)), (0, .ref o), (1, .int (nI i))]) (fun k => hp_any (fun j => hp_cla r i j) (k) = false) n (fun k hk_1 hI_1 ih_1 ls hl => ?_) (by rfl) (lv_sub hl [0, 1, 2] rfl)
  refine lv_iload_n hx hb dX1_clashesWithAny_2 rfl (lv_at hl 0 rfl) ?_
  refine lv_aload_n hx hb dX1_clashesWithAny_3 rfl (lv_at hl 1 rfl) ?_
  refine va_get (D := (dC, dI)) (ci := 1) (v := .int (nI n)) (C := RX1) (T := TX1) (N := 8) hx hb hts hinX1 hown hK hP 0 hp_X_o rfl 1 (by decide) hf_15 (fun _ h9 => h9) rfl dX1_clashesWithAny_4 ?_
  refine lv_icmp_ge (tgt := 27) hx hb dX1_clashesWithAny_7 (by decide) (fun c_2 => ?_) (fun c_2 => ?_)
  · skip
    have c_2n := hp_len c_2
    have ek : k = n := Nat.le_antisymm (by omega) ((nI_leI (by omega) (by omega)).mp c_2)
    refine lv_iconst (v := 0) hx hb dX1_clashesWithAny_27 (by decide) ?_
    exact W.zret (ty := .boolean) (v := 0) hx hb hr rfl (fun t ht hW => ⟨_, rfl, (by subst ek; exact hp_bf2 hI_1), ht⟩) (fun _ h => nomatch h) dX1_clashesWithAny_28
  · skip
    have c_2p := hp_nle c_2
    have hkn : k < n := Nat.lt_of_not_le (fun h => c_2 (nI_le h (by omega)))
    refine lv_aload_n hx hb dX1_clashesWithAny_10 rfl (lv_at hl 1 rfl) ?_
    refine lv_iload_n hx hb dX1_clashesWithAny_11 rfl (lv_at hl 2 rfl) ?_
    refine lv_iload_n hx hb dX1_clashesWithAny_12 rfl (lv_at hl 0 rfl) ?_
    refine vp_callSi (W.runV (As := [.int (nI i), .int (nI k)]) (rest := []) ⟨hx, hb, hml, hown, hts⟩ (c_X1_isClashingPair l dC dI cI cZ cO cJ o b ad v r n i (nI i) rfl k (nI k) rfl (by omega) (by omega) hinv) (cwV 2 hts gX1_clashesWithAny_X1_isClashingPair rfl rfl rfl (by decide +kernel) ⟨(Nat.le_of_ble_eq_true rfl), (Nat.le_of_ble_eq_true rfl)⟩) ⟨hp_fbX, va_recv hK hP (ci := 1) (q0 := 0) rfl hp_X_o, fun U hU hW => ⟨rfl, hp_toX hP hK hN hU hW⟩⟩ rfl rfl hl.1 rfl (lv_room (Nat.le_of_ble_eq_true rfl)) dX1_clashesWithAny_13 ⟨(Nat.zero_le _), (Nat.zero_le _)⟩) (fun r_3 hr_3 => ?_)
    subst hr_3
    refine lv_if_eq (tgt := 21) hx hb dX1_clashesWithAny_16 (by decide) (fun c_4 => ?_) (fun c_4 => ?_)
    · skip
      have c_4 := hp_bz c_4
      refine lv_iinc (v := nI (k + 1)) (lv' := [(2, .int (nI (k + 1))), (0, .ref o), (1, .int (nI i))]) hx hb dX1_clashesWithAny_21 hl (k := 0) rfl (nI_1 _) (by decide) rfl (fun ls hl => ?_)
      refine lv_goto (tgt := 2) hx hb dX1_clashesWithAny_24 (by decide) ?_
      exact ih_1 hkn (by simp [hp_any, hI_1, c_2, c_2p, c_4]) _ (lv_sub hl [0, 1, 2] rfl)
    · skip
      have c_4 := hp_bn c_4
      refine lv_iconst (v := 1) hx hb dX1_clashesWithAny_19 (by decide) ?_
      exact W.zret (ty := .boolean) (v := 1) hx hb hr rfl (fun t ht hW => ⟨_, rfl, (by exact hp_bt2 (hp_any_of hkn c_4)), ht⟩) (fun _ h => nomatch h) dX1_clashesWithAny_20
set_option maxHeartbeats 400000 in
set_option maxRecDepth 100000 in
theorem c_X1_clashesWithEarlier (l : Launch) (dC : Nat → ClassId) (dI : Nat → Nat → Nat) (cI cZ cO cJ : ClassId) (o : Nat) (b ad : Nat → Nat) (v : Nat → Int32) (r : Nat → Nat → Int32) (n : Nat) (i : Nat) (x_i : Int32) (hx_i : x_i = nI i) (hi : i < n) (hinv : hp_inv v r n) : Met l yX1_clashesWithEarlier wsX1_clashesWithEarlier ({ frames := 4, cells := 0, slots := 0, locals := 93 }) (va_Pc [.ref o, .int x_i] (hp_prX (dC, dI) cI cZ cO cJ (hp_X cI cZ cO o b ad v r n))) (vp_Si (fun x9 => x9 = hp_sum (fun j => if hp_cla r i j = true then 1 else 0) i)) 0 0 (fun _ => False) := by
  refine Met.ofW (cc := cX1_clashesWithEarlier) (maxL := 4) (ret := (some .int)) (by decide) rfl ?_
  intro p e s m args below meth c s₁ B hml hv
  obtain ⟨rfl, hP, hK, hN⟩ := hv
  have hx := B.exec
  have hb := B.bytes
  have hr := B.returns
  have hts := atoms_spec (ws := wsX1_clashesWithEarlier) B.pre
  have hown : s.vm.findClass RX1 = some m.cls := findClass_of_methodNamed B.named
  have hlocks := B.notSynchronized
  subst hx_i
  have hl := lv_entry ([.ref o, .int (nI i)]) (n := 4) (Nat.le_of_ble_eq_true rfl)
  rw [lg_entry_eq]
  generalize (lg_sl ([.ref o, .int (nI i)]) ++ List.replicate (4 - (lg_sl ([.ref o, .int (nI i)])).length) Slot.unset).toArray = ls at hl ⊢
  have hl : lv_has ls 4 [(0, .ref o), (1, .int (nI i))] := hl
  have hn := hinv.1
  refine lv_iconst (v := 0) hx hb dX1_clashesWithEarlier_0 (by decide) ?_
  refine lv_istore_n (lv' := [(2, .int 0), (0, .ref o), (1, .int (nI i))]) hx hb dX1_clashesWithEarlier_1 rfl hl (by decide) rfl (fun ls hl => ?_)
  refine lv_iconst (v := 0) hx hb dX1_clashesWithEarlier_2 (by decide) ?_
  refine lv_istore_n (lv' := [(3, .int 0), (2, .int 0), (0, .ref o), (1, .int (nI i))]) hx hb dX1_clashesWithEarlier_3 rfl hl (by decide) rfl (fun ls hl => ?_)
  refine hp_loop (fun k => [(2, .int (hp_sum (fun j => if hp_cla r i j = true then 1 else 0) (k))), (3, .int (nI k)), (0, .ref o), (1, .int (nI i))]) i (fun k hk_1 ih_1 ls hl => ?_) (lv_sub hl [1, 0, 2, 3] rfl)
  refine lv_iload_n hx hb dX1_clashesWithEarlier_4 rfl (lv_at hl 1 rfl) ?_
  refine lv_iload_n hx hb dX1_clashesWithEarlier_5 rfl (lv_at hl 3 rfl) ?_
  refine lv_icmp_ge (tgt := 27) hx hb dX1_clashesWithEarlier_6 (by decide) (fun c_2 => ?_) (fun c_2 => ?_)
  · skip
    have c_2n := hp_len c_2
    have ek : k = i := Nat.le_antisymm (by omega) ((nI_leI (by omega) (by omega)).mp c_2)
    refine lv_iload_n hx hb dX1_clashesWithEarlier_27 rfl (lv_at hl 0 rfl) ?_
    exact W.iret (v := hp_sum (fun j => if hp_cla r i j = true then 1 else 0) (k)) hx hb hr (fun t ht hW => ⟨_, rfl, (by rw [ek]), ht⟩) (fun _ h => nomatch h) dX1_clashesWithEarlier_28
  · skip
    have c_2p := hp_nle c_2
    have hkn : k < i := Nat.lt_of_not_le (fun h => c_2 (nI_le h (by omega)))
    refine lv_aload_n hx hb dX1_clashesWithEarlier_9 rfl (lv_at hl 2 rfl) ?_
    refine lv_iload_n hx hb dX1_clashesWithEarlier_10 rfl (lv_at hl 3 rfl) ?_
    refine lv_iload_n hx hb dX1_clashesWithEarlier_11 rfl (lv_at hl 1 rfl) ?_
    refine vp_callSi (W.runV (As := [.int (nI i), .int (nI k)]) (rest := []) ⟨hx, hb, hml, hown, hts⟩ (c_X1_isClashingPair l dC dI cI cZ cO cJ o b ad v r n i (nI i) rfl k (nI k) rfl (by omega) (by omega) hinv) (cwV 2 hts gX1_clashesWithEarlier_X1_isClashingPair rfl rfl rfl (by decide +kernel) ⟨(Nat.le_of_ble_eq_true rfl), (Nat.le_of_ble_eq_true rfl)⟩) ⟨hp_fbX, va_recv hK hP (ci := 1) (q0 := 0) rfl hp_X_o, fun U hU hW => ⟨rfl, hp_toX hP hK hN hU hW⟩⟩ rfl rfl hl.1 rfl (lv_room (Nat.le_of_ble_eq_true rfl)) dX1_clashesWithEarlier_12 ⟨(Nat.zero_le _), (Nat.zero_le _)⟩) (fun r_3 hr_3 => ?_)
    subst hr_3
    refine lv_if_eq (tgt := 21) hx hb dX1_clashesWithEarlier_15 (by decide) (fun c_4 => ?_) (fun c_4 => ?_)
    · skip
      have c_4 := hp_bz c_4
      refine lv_iinc (v := nI (k + 1)) (lv' := [(3, .int (nI (k + 1))), (2, .int (hp_sum (fun j => if hp_cla r i j = true then 1 else 0) (k))), (0, .ref o), (1, .int (nI i))]) hx hb dX1_clashesWithEarlier_21 hl (k := 1) rfl (nI_1 _) (by decide) rfl (fun ls hl => ?_)
      refine lv_goto (tgt := 4) hx hb dX1_clashesWithEarlier_24 (by decide) ?_
      have e_5 : hp_sum (fun j => if hp_cla r i j = true then 1 else 0) (k) = hp_sum (fun j => if hp_cla r i j = true then 1 else 0) (k + 1) := by simp [hp_sum, c_2, c_2p, c_4]
      exact ih_1 hkn _ (by have h9 := lv_sub (l' := [(2, .int (hp_sum (fun j => if hp_cla r i j = true then 1 else 0) (k))), (3, .int (nI (k + 1))), (0, .ref o), (1, .int (nI i))]) hl [1, 0, 2, 3] rfl; rw [e_5] at h9; exact h9)
    · skip
      have c_4 := hp_bn c_4
      refine lv_iinc (v := (hp_sum (fun j => if hp_cla r i j = true then 1 else 0) (k)) + 1) (lv' := [(2, .int ((hp_sum (fun j => if hp_cla r i j = true then 1 else 0) (k)) + 1)), (3, .int (nI k)), (0, .ref o), (1, .int (nI i))]) hx hb dX1_clashesWithEarlier_18 hl (k := 0) rfl rfl (by decide) rfl (fun ls hl => ?_)
      refine lv_iinc (v := nI (k + 1)) (lv' := [(3, .int (nI (k + 1))), (2, .int ((hp_sum (fun j => if hp_cla r i j = true then 1 else 0) (k)) + 1)), (0, .ref o), (1, .int (nI i))]) hx hb dX1_clashesWithEarlier_21 hl (k := 1) rfl (nI_1 _) (by decide) rfl (fun ls hl => ?_)
      refine lv_goto (tgt := 4) hx hb dX1_clashesWithEarlier_24 (by decide) ?_
      have e_6 : (hp_sum (fun j => if hp_cla r i j = true then 1 else 0) (k)) + 1 = hp_sum (fun j => if hp_cla r i j = true then 1 else 0) (k + 1) := by simp [hp_sum, c_2, c_2p, c_4]
      exact ih_1 hkn _ (by have h9 := lv_sub (l' := [(2, .int ((hp_sum (fun j => if hp_cla r i j = true then 1 else 0) (k)) + 1)), (3, .int (nI (k + 1))), (0, .ref o), (1, .int (nI i))]) hl [1, 0, 2, 3] rfl; rw [e_6] at h9; exact h9)
set_option maxHeartbeats 400000 in
set_option maxRecDepth 100000 in
theorem c_X1_isFinished (l : Launch) (dC : Nat → ClassId) (dI : Nat → Nat → Nat) (cI cZ cO cJ : ClassId) (o : Nat) (b ad : Nat → Nat) (v : Nat → Int32) (r : Nat → Nat → Int32) (n : Nat)  (p0 : Int32) (hinv : hp_inv v r n) : Met l yX1_isFinished wsX1_isFinished ({ frames := 5, cells := 0, slots := 0, locals := 115 }) (va_Pc [.ref o, .int p0] (hp_prX (dC, dI) cI cZ cO cJ (hp_X cI cZ cO o b ad v r n))) (vp_Si (fun x9 => x9 = hp_b (hp_fin r n p0))) 0 0 (fun _ => False) := by
  refine Met.ofW (cc := cX1_isFinished) (maxL := 5) (ret := (some .boolean)) (by decide) rfl ?_
  intro p e s m args below meth c s₁ B hml hv
  obtain ⟨rfl, hP, hK, hN⟩ := hv
  have hx := B.exec
  have hb := B.bytes
  have hr := B.returns
  have hts := atoms_spec (ws := wsX1_isFinished) B.pre
  have hown : s.vm.findClass RX1 = some m.cls := findClass_of_methodNamed B.named
  have hlocks := B.notSynchronized
  have hf_15 := hts (.fieldLink RX1 15 "Wallplan" "count" "I") (by decide +kernel)
  have hf_93 := hts (.fieldLink RX1 93 "Wallplan$Element" "state" "I") (by decide +kernel)
  have hf_154 := hts (.fieldLink RX1 154 "Wallplan$Element" "storey" "I") (by decide +kernel)
  have hinX0 : ∀ w ∈ wsX00, w ∈ wsX1_isFinished := by decide +kernel
  have hinX1 : ∀ w ∈ wsX10, w ∈ wsX1_isFinished := by decide +kernel
  have hl := lv_entry ([.ref o, .int p0]) (n := 5) (Nat.le_of_ble_eq_true rfl)
  rw [lg_entry_eq]
  generalize (lg_sl ([.ref o, .int p0]) ++ List.replicate (5 - (lg_sl ([.ref o, .int p0])).length) Slot.unset).toArray = ls at hl ⊢
  have hl : lv_has ls 5 [(0, .ref o), (1, .int p0)] := hl
  have hn := hinv.1
  refine lv_iconst (v := 0) hx hb dX1_isFinished_0 (by decide) ?_
  refine lv_istore_n (lv' := [(2, .int 0), (0, .ref o), (1, .int p0)]) hx hb dX1_isFinished_1 rfl hl (by decide) rfl (fun ls hl => ?_)
  refine lv_iconst (v := 0) hx hb dX1_isFinished_2 (by decide) ?_
  refine lv_istore_n (lv' := [(3, .int 0), (2, .int 0), (0, .ref o), (1, .int p0)]) hx hb dX1_isFinished_3 rfl hl (by decide) rfl (fun ls hl => ?_)
  refine hp_loopI (fun k => [(2, .int (hp_b (hp_any (hp_on r p0) (k)))), (3, .int (nI k)), (0, .ref o), (1, .int p0)]) (fun k => hp_all (hp_oki r n p0) (k) = true) n (fun k hk_1 hI_1 ih_1 ls hl => ?_) (by rfl) (lv_sub hl [1, 0, 2, 3] rfl)
  refine lv_iload_n hx hb dX1_isFinished_4 rfl (lv_at hl 1 rfl) ?_
  refine lv_aload_n hx hb dX1_isFinished_5 rfl (lv_at hl 2 rfl) ?_
  refine va_get (D := (dC, dI)) (ci := 1) (v := .int (nI n)) (C := RX1) (T := TX1) (N := 8) hx hb hts hinX1 hown hK hP 0 hp_X_o rfl 1 (by decide) hf_15 (fun _ h9 => h9) rfl dX1_isFinished_6 ?_
  refine lv_icmp_ge (tgt := 68) hx hb dX1_isFinished_9 (by decide) (fun c_2 => ?_) (fun c_2 => ?_)
  · skip
    have c_2n := hp_len c_2
    have ek : k = n := Nat.le_antisymm (by omega) ((nI_leI (by omega) (by omega)).mp c_2)
    refine lv_iload_n hx hb dX1_isFinished_68 rfl (lv_at hl 0 rfl) ?_
    exact W.zret (ty := .boolean) (v := hp_b (hp_any (hp_on r p0) (k))) hx hb hr (hp_nar _) (fun t ht hW => ⟨_, rfl, (by subst ek; simp [hp_fin, hI_1, c_2, c_2n]), ht⟩) (fun _ h => nomatch h) dX1_isFinished_69
  · skip
    have c_2p := hp_nle c_2
    have hkn : k < n := Nat.lt_of_not_le (fun h => c_2 (nI_le h (by omega)))
    refine lv_aload_n hx hb dX1_isFinished_12 rfl (lv_at hl 2 rfl) ?_
    refine lv_iload_n hx hb dX1_isFinished_13 rfl (lv_at hl 1 rfl) ?_
    refine va_csq (W.runV (As := [.int (nI k)]) (rest := []) ⟨hx, hb, hml, hown, hts⟩ (c_X1_find l dC dI cI cZ cO cJ o b ad v r n k (nI k) rfl hn (by omega)) (cwV 1 hts gX1_isFinished_X1_find rfl rfl rfl (by decide +kernel) ⟨(Nat.le_of_ble_eq_true rfl), (Nat.le_of_ble_eq_true rfl)⟩) ⟨hp_fbX, va_recv hK hP (ci := 1) (q0 := 0) rfl hp_X_o, fun U hU hW => ⟨rfl, hp_toX hP hK hN hU hW⟩⟩ rfl rfl hl.1 rfl (lv_room (Nat.le_of_ble_eq_true rfl)) dX1_isFinished_14 ⟨(Nat.zero_le _), (Nat.zero_le _)⟩) (fun r_3 hr_3 => ?_)
    subst hr_3
    refine W.eq (g2 := F0 m 17 ls [.ref (ad k)]) rfl ?_
    refine lv_astore (lv' := [(4, .ref (ad k)), (2, .int (hp_b (hp_any (hp_on r p0) (k)))), (3, .int (nI k)), (0, .ref o), (1, .int p0)]) hx hb dX1_isFinished_17 hl (by decide) rfl (fun ls hl => ?_)
    refine lv_aload hx hb dX1_isFinished_19 (lv_at hl 0 rfl) ?_
    refine lv_ifnull hx hb dX1_isFinished_21 ?_
    refine lv_aload hx hb dX1_isFinished_24 (lv_at hl 0 rfl) ?_
    refine va_get (D := (dC, dI)) (ci := 0) (v := .int (r 5 k)) (C := RX0) (T := TX0) (N := 10) hx hb hts hinX0 hown hK hP (6 + k) (hp_X_e (by omega)) rfl 1 (by decide) hf_154 (fun _ h9 => h9) rfl dX1_isFinished_26 ?_
    refine lv_iload_n hx hb dX1_isFinished_29 rfl (lv_at hl 4 rfl) ?_
    refine lv_icmp_ne (tgt := 62) hx hb dX1_isFinished_30 (by decide) (fun c_4 => ?_) (fun c_4 => ?_)
    · skip
      refine lv_iinc (v := nI (k + 1)) (lv' := [(3, .int (nI (k + 1))), (4, .ref (ad k)), (2, .int (hp_b (hp_any (hp_on r p0) (k)))), (0, .ref o), (1, .int p0)]) hx hb dX1_isFinished_62 hl (k := 2) rfl (nI_1 _) (by decide) rfl (fun ls hl => ?_)
      refine lv_goto (tgt := 4) hx hb dX1_isFinished_65 (by decide) ?_
      have e_5 : hp_b (hp_any (hp_on r p0) (k)) = hp_b (hp_any (hp_on r p0) (k + 1)) := by first | (have h9 : hp_on r p0 k = true := (by simp [hp_on, hI_1, c_2, c_2p, c_4]); simp [hp_any, h9, hp_b]; done) | (have h9 : hp_on r p0 k = false := (by simp [hp_on, hI_1, c_2, c_2p, c_4]); simp [hp_any, h9]; done)
      exact ih_1 hkn (by have h9 : hp_oki r n p0 k = true := (by simp [hp_oki, hp_on, hI_1, c_2, c_2p, c_4]); simp [hp_all, h9, hI_1, c_2, c_2p, c_4]) _ (by have h9 := lv_sub (l' := [(2, .int (hp_b (hp_any (hp_on r p0) (k)))), (3, .int (nI (k + 1))), (0, .ref o), (1, .int p0)]) hl [2, 0, 3, 4] rfl; rw [e_5] at h9; exact h9)
    · skip
      refine lv_aload hx hb dX1_isFinished_33 (lv_at hl 0 rfl) ?_
      refine vp_callSi (W.runV (As := []) (rest := []) ⟨hx, hb, hml, hown, hts⟩ (c_X0_isThere l dC dI cI cZ cO cJ o b ad v r n k (by omega) ) (cwV 0 hts gX1_isFinished_X0_isThere rfl rfl rfl (by decide +kernel) ⟨(Nat.le_of_ble_eq_true rfl), (Nat.le_of_ble_eq_true rfl)⟩) ⟨hp_fbX, va_recv hK hP (ci := 0) (q0 := 6 + k) rfl (hp_X_e (by omega)), fun U hU hW => ⟨rfl, hp_toX hP hK hN hU hW⟩⟩ rfl rfl hl.1 rfl (lv_room (Nat.le_of_ble_eq_true rfl)) dX1_isFinished_35 ⟨(Nat.zero_le _), (Nat.zero_le _)⟩) (fun r_6 hr_6 => ?_)
      subst hr_6
      refine lv_if_eq (tgt := 62) hx hb dX1_isFinished_38 (by decide) (fun c_7 => ?_) (fun c_7 => ?_)
      · skip
        have c_7 := hp_bz c_7
        refine lv_iinc (v := nI (k + 1)) (lv' := [(3, .int (nI (k + 1))), (4, .ref (ad k)), (2, .int (hp_b (hp_any (hp_on r p0) (k)))), (0, .ref o), (1, .int p0)]) hx hb dX1_isFinished_62 hl (k := 2) rfl (nI_1 _) (by decide) rfl (fun ls hl => ?_)
        refine lv_goto (tgt := 4) hx hb dX1_isFinished_65 (by decide) ?_
        have e_8 : hp_b (hp_any (hp_on r p0) (k)) = hp_b (hp_any (hp_on r p0) (k + 1)) := by first | (have h9 : hp_on r p0 k = true := (by simp [hp_on, hI_1, c_2, c_2p, c_4, c_7]); simp [hp_any, h9, hp_b]; done) | (have h9 : hp_on r p0 k = false := (by simp [hp_on, hI_1, c_2, c_2p, c_4, c_7]); simp [hp_any, h9]; done)
        exact ih_1 hkn (by have h9 : hp_oki r n p0 k = true := (by simp [hp_oki, hp_on, hI_1, c_2, c_2p, c_4, c_7]); simp [hp_all, h9, hI_1, c_2, c_2p, c_4, c_7]) _ (by have h9 := lv_sub (l' := [(2, .int (hp_b (hp_any (hp_on r p0) (k)))), (3, .int (nI (k + 1))), (0, .ref o), (1, .int p0)]) hl [2, 0, 3, 4] rfl; rw [e_8] at h9; exact h9)
      · skip
        have c_7 := hp_bn c_7
        refine lv_iconst (v := 1) hx hb dX1_isFinished_41 (by decide) ?_
        refine lv_istore_n (lv' := [(2, .int 1), (4, .ref (ad k)), (3, .int (nI k)), (0, .ref o), (1, .int p0)]) hx hb dX1_isFinished_42 rfl hl (by decide) rfl (fun ls hl => ?_)
        refine lv_aload hx hb dX1_isFinished_43 (lv_at hl 1 rfl) ?_
        refine va_get (D := (dC, dI)) (ci := 0) (v := .int (r 10 k)) (C := RX0) (T := TX0) (N := 10) hx hb hts hinX0 hown hK hP (6 + k) (hp_X_e (by omega)) rfl 6 (by decide) hf_93 (fun _ h9 => h9) rfl dX1_isFinished_45 ?_
        refine lv_iconst (v := 3) hx hb dX1_isFinished_48 (by decide) ?_
        refine lv_icmp_ne (tgt := 60) hx hb dX1_isFinished_49 (by decide) (fun c_9 => ?_) (fun c_9 => ?_)
        · skip
          refine lv_iconst (v := 0) hx hb dX1_isFinished_60 (by decide) ?_
          exact W.zret (ty := .boolean) (v := 0) hx hb hr rfl (fun t ht hW => ⟨_, rfl, (by exact hp_bf2 (hp_fin_no hkn (by simp [hp_oki, hp_on, hI_1, c_2, c_2p, c_4, c_7, c_9]))), ht⟩) (fun _ h => nomatch h) dX1_isFinished_61
        · skip
          refine lv_aload_n hx hb dX1_isFinished_52 rfl (lv_at hl 3 rfl) ?_
          refine lv_iload_n hx hb dX1_isFinished_53 rfl (lv_at hl 2 rfl) ?_
          refine vp_callSi (W.runV (As := [.int (nI k)]) (rest := []) ⟨hx, hb, hml, hown, hts⟩ (c_X1_clashesWithAny l dC dI cI cZ cO cJ o b ad v r n k (nI k) rfl (by omega) hinv) (cwV 1 hts gX1_isFinished_X1_clashesWithAny rfl rfl rfl (by decide +kernel) ⟨(Nat.le_of_ble_eq_true rfl), (Nat.le_of_ble_eq_true rfl)⟩) ⟨hp_fbX, va_recv hK hP (ci := 1) (q0 := 0) rfl hp_X_o, fun U hU hW => ⟨rfl, hp_toX hP hK hN hU hW⟩⟩ rfl rfl hl.1 rfl (lv_room (Nat.le_of_ble_eq_true rfl)) dX1_isFinished_54 ⟨(Nat.zero_le _), (Nat.zero_le _)⟩) (fun r_10 hr_10 => ?_)
          subst hr_10
          refine lv_if_eq (tgt := 62) hx hb dX1_isFinished_57 (by decide) (fun c_11 => ?_) (fun c_11 => ?_)
          · skip
            have c_11 := hp_bz c_11
            refine lv_iinc (v := nI (k + 1)) (lv' := [(3, .int (nI (k + 1))), (2, .int 1), (4, .ref (ad k)), (0, .ref o), (1, .int p0)]) hx hb dX1_isFinished_62 hl (k := 2) rfl (nI_1 _) (by decide) rfl (fun ls hl => ?_)
            refine lv_goto (tgt := 4) hx hb dX1_isFinished_65 (by decide) ?_
            have e_12 : 1 = hp_b (hp_any (hp_on r p0) (k + 1)) := by first | (have h9 : hp_on r p0 k = true := (by simp [hp_on, hI_1, c_2, c_2p, c_4, c_7, c_9, c_11]); simp [hp_any, h9, hp_b]; done) | (have h9 : hp_on r p0 k = false := (by simp [hp_on, hI_1, c_2, c_2p, c_4, c_7, c_9, c_11]); simp [hp_any, h9]; done)
            exact ih_1 hkn (by have h9 : hp_oki r n p0 k = true := (by simp [hp_oki, hp_on, hI_1, c_2, c_2p, c_4, c_7, c_9, c_11]); simp [hp_all, h9, hI_1, c_2, c_2p, c_4, c_7, c_9, c_11]) _ (by have h9 := lv_sub (l' := [(2, .int 1), (3, .int (nI (k + 1))), (0, .ref o), (1, .int p0)]) hl [1, 0, 3, 4] rfl; rw [e_12] at h9; exact h9)
          · skip
            have c_11 := hp_bn c_11
            refine lv_iconst (v := 0) hx hb dX1_isFinished_60 (by decide) ?_
            exact W.zret (ty := .boolean) (v := 0) hx hb hr rfl (fun t ht hW => ⟨_, rfl, (by exact hp_bf2 (hp_fin_no hkn (by simp [hp_oki, hp_on, hI_1, c_2, c_2p, c_4, c_7, c_9, c_11]))), ht⟩) (fun _ h => nomatch h) dX1_isFinished_61
set_option maxHeartbeats 400000 in
set_option maxRecDepth 100000 in
theorem c_X1_leadDaysOf (l : Launch) (dC : Nat → ClassId) (dI : Nat → Nat → Nat) (cI cZ cO cJ : ClassId) (o : Nat) (b ad : Nat → Nat) (v : Nat → Int32) (r : Nat → Nat → Int32) (n : Nat)  (p0 : Int32) (h0 : hp_kd p0 = true) : Met l yX1_leadDaysOf wsX1_leadDaysOf ({ frames := 2, cells := 0, slots := 0, locals := 42 }) (va_Pc [.ref o, .int p0] (hp_prX (dC, dI) cI cZ cO cJ (hp_X cI cZ cO o b ad v r n))) (vp_Si (fun x9 => x9 = r 16 p0.toNatClampNeg)) 0 0 (fun _ => False) := by
  refine Met.ofW (cc := cX1_leadDaysOf) (maxL := 2) (ret := (some .int)) (by decide) rfl ?_
  intro p e s m args below meth c s₁ B hml hv
  obtain ⟨rfl, hP, hK, hN⟩ := hv
  have hx := B.exec
  have hb := B.bytes
  have hr := B.returns
  have hts := atoms_spec (ws := wsX1_leadDaysOf) B.pre
  have hown : s.vm.findClass RX1 = some m.cls := findClass_of_methodNamed B.named
  have hlocks := B.notSynchronized
  have hf_26 := hts (.fieldLink RX1 26 "Wallplan" "leadDays" "[I") (by decide +kernel)
  have hinX1 : ∀ w ∈ wsX10, w ∈ wsX1_leadDaysOf := by decide +kernel
  have hl := lv_entry ([.ref o, .int p0]) (n := 2) (Nat.le_of_ble_eq_true rfl)
  rw [lg_entry_eq]
  generalize (lg_sl ([.ref o, .int p0]) ++ List.replicate (2 - (lg_sl ([.ref o, .int p0])).length) Slot.unset).toArray = ls at hl ⊢
  have hl : lv_has ls 2 [(0, .ref o), (1, .int p0)] := hl
  refine lv_iload_n hx hb dX1_leadDaysOf_0 rfl (lv_at hl 1 rfl) ?_
  refine vp_callSi (W.runS (As := [.int p0]) (rest := []) ⟨hx, hb, hml, hown, hts⟩ (c_X1_isKind l p0) (va_cwS 1 hts gX1_leadDaysOf_X1_isKind rfl rfl rfl (by decide +kernel) ⟨(Nat.le_of_ble_eq_true rfl), (Nat.le_of_ble_eq_true rfl)⟩) ⟨hp_nfb, fun _ _ _ => ⟨rfl, trivial⟩⟩ rfl rfl hl.1 rfl (lv_room (Nat.le_of_ble_eq_true rfl)) dX1_leadDaysOf_1 ⟨(Nat.zero_le _), (Nat.zero_le _)⟩) (fun r_1 hr_1 => ?_)
  subst hr_1
  refine lv_if_eq (tgt := 16) hx hb dX1_leadDaysOf_4 (by decide) (fun c9 => (hp_tf h0 (hp_bz c9)).elim) (fun _ => ?_)
  refine lv_aload_n hx hb dX1_leadDaysOf_7 rfl (lv_at hl 0 rfl) ?_
  refine va_get (D := (dC, dI)) (ci := 1) (v := .ref (b 4)) (C := RX1) (T := TX1) (N := 8) hx hb hts hinX1 hown hK hP 0 hp_X_o rfl 4 (by decide) hf_26 (fun _ h9 => h9) rfl dX1_leadDaysOf_8 ?_
  refine lv_iload_n hx hb dX1_leadDaysOf_11 rfl (lv_at hl 1 rfl) ?_
  refine hp_ialdx (v := r 16 p0.toNatClampNeg) hx hb hK hP 4 0 hp_X_16 rfl (i := p0) (hp_vin (hp_kd_ix h0) (by decide) (by decide)) rfl dX1_leadDaysOf_12 ?_
  refine lv_goto (tgt := 17) hx hb dX1_leadDaysOf_13 (by decide) ?_
  exact W.iret (v := r 16 p0.toNatClampNeg) hx hb hr (fun t ht hW => ⟨_, rfl, (by rfl), ht⟩) (fun _ h => nomatch h) dX1_leadDaysOf_17
set_option maxHeartbeats 400000 in
set_option maxRecDepth 100000 in
theorem c_X1_partsOf (l : Launch) (dC : Nat → ClassId) (dI : Nat → Nat → Nat) (cI cZ cO cJ : ClassId) (o : Nat) (b ad : Nat → Nat) (v : Nat → Int32) (r : Nat → Nat → Int32) (n : Nat)  (i : Nat) (hi : i < n) (h0 : hp_kd (r 4 i) = true) (hd : ∃ c, 1 ≤ c ∧ c ≤ 12 ∧ r 15 (r 4 i).toNatClampNeg = nI c) : Met l yX1_partsOf wsX1_partsOf ({ frames := 2, cells := 0, slots := 0, locals := 42 }) (va_Pc [.ref o, .ref (ad i)] (hp_prX (dC, dI) cI cZ cO cJ (hp_X cI cZ cO o b ad v r n))) (vp_Si (fun x9 => x9 = hp_par r i)) 0 0 (fun _ => False) := by
  refine Met.ofW (cc := cX1_partsOf) (maxL := 3) (ret := (some .int)) (by decide) rfl ?_
  intro p e s m args below meth c s₁ B hml hv
  obtain ⟨rfl, hP, hK, hN⟩ := hv
  have hx := B.exec
  have hb := B.bytes
  have hr := B.returns
  have hts := atoms_spec (ws := wsX1_partsOf) B.pre
  have hown : s.vm.findClass RX1 = some m.cls := findClass_of_methodNamed B.named
  have hlocks := B.notSynchronized
  have hf_23 := hts (.fieldLink RX1 23 "Wallplan" "partCells" "[I") (by decide +kernel)
  have hf_122 := hts (.fieldLink RX1 122 "Wallplan$Element" "kind" "I") (by decide +kernel)
  have hinX0 : ∀ w ∈ wsX00, w ∈ wsX1_partsOf := by decide +kernel
  have hinX1 : ∀ w ∈ wsX10, w ∈ wsX1_partsOf := by decide +kernel
  have hl := lv_entry ([.ref o, .ref (ad i)]) (n := 3) (Nat.le_of_ble_eq_true rfl)
  rw [lg_entry_eq]
  generalize (lg_sl ([.ref o, .ref (ad i)]) ++ List.replicate (3 - (lg_sl ([.ref o, .ref (ad i)])).length) Slot.unset).toArray = ls at hl ⊢
  have hl : lv_has ls 3 [(0, .ref o), (1, .ref (ad i))] := hl
  have hd1 : ¬ r 15 (r 4 i).toNatClampNeg ≤ 0 := by obtain ⟨c9, h1, h2, e9⟩ := hd; rw [e9]; exact nI_nle (by omega) (by omega)
  have hd0 : ¬ r 15 (r 4 i).toNatClampNeg = 0 := fun q => hd1 (by rw [q]; decide)
  refine lv_aload_n hx hb dX1_partsOf_0 rfl (lv_at hl 1 rfl) ?_
  refine va_get (D := (dC, dI)) (ci := 0) (v := .int (r 4 i)) (C := RX0) (T := TX0) (N := 10) hx hb hts hinX0 hown hK hP (6 + i) (hp_X_e (by omega)) rfl 0 (by decide) hf_122 (fun _ h9 => h9) rfl dX1_partsOf_1 ?_
  refine vp_callSi (W.runS (As := [.int (r 4 i)]) (rest := []) ⟨hx, hb, hml, hown, hts⟩ (c_X1_isKind l (r 4 i)) (va_cwS 1 hts gX1_partsOf_X1_isKind rfl rfl rfl (by decide +kernel) ⟨(Nat.le_of_ble_eq_true rfl), (Nat.le_of_ble_eq_true rfl)⟩) ⟨hp_nfb, fun _ _ _ => ⟨rfl, trivial⟩⟩ rfl rfl hl.1 rfl (lv_room (Nat.le_of_ble_eq_true rfl)) dX1_partsOf_4 ⟨(Nat.zero_le _), (Nat.zero_le _)⟩) (fun r_1 hr_1 => ?_)
  subst hr_1
  refine lv_if_eq (tgt := 22) hx hb dX1_partsOf_7 (by decide) (fun c9 => (hp_tf h0 (hp_bz c9)).elim) (fun _ => ?_)
  refine lv_aload_n hx hb dX1_partsOf_10 rfl (lv_at hl 0 rfl) ?_
  refine va_get (D := (dC, dI)) (ci := 1) (v := .ref (b 3)) (C := RX1) (T := TX1) (N := 8) hx hb hts hinX1 hown hK hP 0 hp_X_o rfl 3 (by decide) hf_23 (fun _ h9 => h9) rfl dX1_partsOf_11 ?_
  refine lv_aload_n hx hb dX1_partsOf_14 rfl (lv_at hl 1 rfl) ?_
  refine va_get (D := (dC, dI)) (ci := 0) (v := .int (r 4 i)) (C := RX0) (T := TX0) (N := 10) hx hb hts hinX0 hown hK hP (6 + i) (hp_X_e (by omega)) rfl 0 (by decide) hf_122 (fun _ h9 => h9) rfl dX1_partsOf_15 ?_
  refine hp_ialdx (v := r 15 ((r 4 i).toNatClampNeg)) hx hb hK hP 3 0 hp_X_15 rfl (i := r 4 i) (by exact hp_vin (hp_kd_ix h0) (by decide) (by decide)) rfl dX1_partsOf_18 ?_
  refine lv_goto (tgt := 23) hx hb dX1_partsOf_19 (by decide) ?_
  refine lv_istore_n (lv' := [(2, .int (r 15 ((r 4 i).toNatClampNeg))), (0, .ref o), (1, .ref (ad i))]) hx hb dX1_partsOf_23 rfl hl (by decide) rfl (fun ls hl => ?_)
  refine lv_iload_n hx hb dX1_partsOf_24 rfl (lv_at hl 0 rfl) ?_
  refine lv_if_le (tgt := 41) hx hb dX1_partsOf_25 (by decide) (fun c_3 => absurd c_3 hd1) (fun _ => ?_)
  refine lv_aload_n hx hb dX1_partsOf_28 rfl (lv_at hl 2 rfl) ?_
  refine vp_callSi (W.runV (As := []) (rest := []) ⟨hx, hb, hml, hown, hts⟩ (c_X0_cells l dC dI cI cZ cO cJ o b ad v r n i (by omega) ) (cwV 0 hts gX1_partsOf_X0_cells rfl rfl rfl (by decide +kernel) ⟨(Nat.le_of_ble_eq_true rfl), (Nat.le_of_ble_eq_true rfl)⟩) ⟨hp_fbX, va_recv hK hP (ci := 0) (q0 := 6 + i) rfl (hp_X_e (by omega)), fun U hU hW => ⟨rfl, hp_toX hP hK hN hU hW⟩⟩ rfl rfl hl.1 rfl (lv_room (Nat.le_of_ble_eq_true rfl)) dX1_partsOf_29 ⟨(Nat.zero_le _), (Nat.zero_le _)⟩) (fun r_4 hr_4 => ?_)
  subst hr_4
  refine lv_iload_n hx hb dX1_partsOf_32 rfl (lv_at hl 0 rfl) ?_
  refine lv_iadd hx hb dX1_partsOf_33 ?_
  refine lv_iconst (v := 1) hx hb dX1_partsOf_34 (by decide) ?_
  refine lv_isub hx hb dX1_partsOf_35 ?_
  refine lv_iload_n hx hb dX1_partsOf_36 rfl (lv_at hl 0 rfl) ?_
  refine lv_idiv hx hb dX1_partsOf_37 (by exact hd0) ?_
  refine lv_goto (tgt := 42) hx hb dX1_partsOf_38 (by decide) ?_
  exact W.iret (v := (((hp_cel r i) + (r 15 ((r 4 i).toNatClampNeg))) - 1) / (r 15 ((r 4 i).toNatClampNeg))) hx hb hr (fun t ht hW => ⟨_, rfl, (by rfl), ht⟩) (fun _ h => nomatch h) dX1_partsOf_42
set_option maxHeartbeats 400000 in
set_option maxRecDepth 100000 in
theorem c_X1_partsInStates (l : Launch) (dC : Nat → ClassId) (dI : Nat → Nat → Nat) (cI cZ cO cJ : ClassId) (o : Nat) (b ad : Nat → Nat) (v : Nat → Int32) (r : Nat → Nat → Int32) (n : Nat)  (p0 p1 : Int32) (hinv : hp_inv v r n) : Met l yX1_partsInStates wsX1_partsInStates ({ frames := 3, cells := 0, slots := 0, locals := 64 }) (va_Pc [.ref o, .int p0, .int p1, .int 3] (hp_prX (dC, dI) cI cZ cO cJ (hp_X cI cZ cO o b ad v r n))) (vp_Si (fun x9 => x9 = hp_lst r n p0 p1)) 0 0 (fun _ => False) := by
  refine Met.ofW (cc := cX1_partsInStates) (maxL := 7) (ret := (some .int)) (by decide) rfl ?_
  intro p e s m args below meth c s₁ B hml hv
  obtain ⟨rfl, hP, hK, hN⟩ := hv
  have hx := B.exec
  have hb := B.bytes
  have hr := B.returns
  have hts := atoms_spec (ws := wsX1_partsInStates) B.pre
  have hown : s.vm.findClass RX1 = some m.cls := findClass_of_methodNamed B.named
  have hlocks := B.notSynchronized
  have hf_15 := hts (.fieldLink RX1 15 "Wallplan" "count" "I") (by decide +kernel)
  have hf_93 := hts (.fieldLink RX1 93 "Wallplan$Element" "state" "I") (by decide +kernel)
  have hf_122 := hts (.fieldLink RX1 122 "Wallplan$Element" "kind" "I") (by decide +kernel)
  have hinX0 : ∀ w ∈ wsX00, w ∈ wsX1_partsInStates := by decide +kernel
  have hinX1 : ∀ w ∈ wsX10, w ∈ wsX1_partsInStates := by decide +kernel
  have hl := lv_entry ([.ref o, .int p0, .int p1, .int 3]) (n := 7) (Nat.le_of_ble_eq_true rfl)
  rw [lg_entry_eq]
  generalize (lg_sl ([.ref o, .int p0, .int p1, .int 3]) ++ List.replicate (7 - (lg_sl ([.ref o, .int p0, .int p1, .int 3])).length) Slot.unset).toArray = ls at hl ⊢
  have hl : lv_has ls 7 [(0, .ref o), (1, .int p0), (2, .int p1), (3, .int 3)] := hl
  have hn := hinv.1
  refine lv_iconst (v := 0) hx hb dX1_partsInStates_0 (by decide) ?_
  refine lv_istore (lv' := [(4, .int 0), (0, .ref o), (1, .int p0), (2, .int p1), (3, .int 3)]) hx hb dX1_partsInStates_1 hl (by decide) rfl (fun ls hl => ?_)
  refine lv_iconst (v := 0) hx hb dX1_partsInStates_3 (by decide) ?_
  refine lv_istore (lv' := [(5, .int 0), (4, .int 0), (0, .ref o), (1, .int p0), (2, .int p1), (3, .int 3)]) hx hb dX1_partsInStates_4 hl (by decide) rfl (fun ls hl => ?_)
  refine hp_loop (fun k => [(4, .int (hp_sum (fun i => if (r 4 i == p0) && hp_in (r 10 i) p1 3 then hp_par r i else 0) (k))), (5, .int (nI k)), (0, .ref o), (1, .int p0), (2, .int p1), (3, .int 3)]) n (fun k hk_1 ih_1 ls hl => ?_) (lv_sub hl [1, 0, 2, 3, 4, 5] rfl)
  refine lv_iload hx hb dX1_partsInStates_6 (lv_at hl 1 rfl) ?_
  refine lv_aload_n hx hb dX1_partsInStates_8 rfl (lv_at hl 2 rfl) ?_
  refine va_get (D := (dC, dI)) (ci := 1) (v := .int (nI n)) (C := RX1) (T := TX1) (N := 8) hx hb hts hinX1 hown hK hP 0 hp_X_o rfl 1 (by decide) hf_15 (fun _ h9 => h9) rfl dX1_partsInStates_9 ?_
  refine lv_icmp_ge (tgt := 67) hx hb dX1_partsInStates_12 (by decide) (fun c_2 => ?_) (fun c_2 => ?_)
  · skip
    have c_2n := hp_len c_2
    have ek : k = n := Nat.le_antisymm (by omega) ((nI_leI (by omega) (by omega)).mp c_2)
    refine lv_iload hx hb dX1_partsInStates_67 (lv_at hl 0 rfl) ?_
    exact W.iret (v := hp_sum (fun i => if (r 4 i == p0) && hp_in (r 10 i) p1 3 then hp_par r i else 0) (k)) hx hb hr (fun t ht hW => ⟨_, rfl, (by exact congrArg (fun z => hp_sum (fun i => if (r 4 i == p0) && hp_in (r 10 i) p1 3 then hp_par r i else 0) z) ek), ht⟩) (fun _ h => nomatch h) dX1_partsInStates_69
  · skip
    have c_2p := hp_nle c_2
    have hkn : k < n := Nat.lt_of_not_le (fun h => c_2 (nI_le h (by omega)))
    refine lv_aload_n hx hb dX1_partsInStates_15 rfl (lv_at hl 2 rfl) ?_
    refine lv_iload hx hb dX1_partsInStates_16 (lv_at hl 1 rfl) ?_
    refine va_csq (W.runV (As := [.int (nI k)]) (rest := []) ⟨hx, hb, hml, hown, hts⟩ (c_X1_find l dC dI cI cZ cO cJ o b ad v r n k (nI k) rfl hn (by omega)) (cwV 1 hts gX1_partsInStates_X1_find rfl rfl rfl (by decide +kernel) ⟨(Nat.le_of_ble_eq_true rfl), (Nat.le_of_ble_eq_true rfl)⟩) ⟨hp_fbX, va_recv hK hP (ci := 1) (q0 := 0) rfl hp_X_o, fun U hU hW => ⟨rfl, hp_toX hP hK hN hU hW⟩⟩ rfl rfl hl.1 rfl (lv_room (Nat.le_of_ble_eq_true rfl)) dX1_partsInStates_18 ⟨(Nat.zero_le _), (Nat.zero_le _)⟩) (fun r_3 hr_3 => ?_)
    subst hr_3
    refine W.eq (g2 := F0 m 21 ls [.ref (ad k)]) rfl ?_
    refine lv_astore (lv' := [(6, .ref (ad k)), (4, .int (hp_sum (fun i => if (r 4 i == p0) && hp_in (r 10 i) p1 3 then hp_par r i else 0) (k))), (5, .int (nI k)), (0, .ref o), (1, .int p0), (2, .int p1), (3, .int 3)]) hx hb dX1_partsInStates_21 hl (by decide) rfl (fun ls hl => ?_)
    refine lv_aload hx hb dX1_partsInStates_23 (lv_at hl 0 rfl) ?_
    refine lv_ifnull hx hb dX1_partsInStates_25 ?_
    refine lv_aload hx hb dX1_partsInStates_28 (lv_at hl 0 rfl) ?_
    refine va_get (D := (dC, dI)) (ci := 0) (v := .int (r 4 k)) (C := RX0) (T := TX0) (N := 10) hx hb hts hinX0 hown hK hP (6 + k) (hp_X_e (by omega)) rfl 0 (by decide) hf_122 (fun _ h9 => h9) rfl dX1_partsInStates_30 ?_
    refine lv_iload_n hx hb dX1_partsInStates_33 rfl (lv_at hl 4 rfl) ?_
    refine lv_icmp_ne (tgt := 61) hx hb dX1_partsInStates_34 (by decide) (fun c_4 => ?_) (fun c_4 => ?_)
    · skip
      refine lv_iinc (v := nI (k + 1)) (lv' := [(5, .int (nI (k + 1))), (6, .ref (ad k)), (4, .int (hp_sum (fun i => if (r 4 i == p0) && hp_in (r 10 i) p1 3 then hp_par r i else 0) (k))), (0, .ref o), (1, .int p0), (2, .int p1), (3, .int 3)]) hx hb dX1_partsInStates_61 hl (k := 2) rfl (nI_1 _) (by decide) rfl (fun ls hl => ?_)
      refine lv_goto (tgt := 6) hx hb dX1_partsInStates_64 (by decide) ?_
      have e_5 : hp_sum (fun i => if (r 4 i == p0) && hp_in (r 10 i) p1 3 then hp_par r i else 0) (k) = hp_sum (fun i => if (r 4 i == p0) && hp_in (r 10 i) p1 3 then hp_par r i else 0) (k + 1) := by simp [hp_sum, c_2, c_2p, c_4]
      exact ih_1 hkn _ (by have h9 := lv_sub (l' := [(4, .int (hp_sum (fun i => if (r 4 i == p0) && hp_in (r 10 i) p1 3 then hp_par r i else 0) (k))), (5, .int (nI (k + 1))), (0, .ref o), (1, .int p0), (2, .int p1), (3, .int 3)]) hl [2, 0, 3, 4, 5, 6] rfl; rw [e_5] at h9; exact h9)
    · skip
      refine lv_aload hx hb dX1_partsInStates_37 (lv_at hl 0 rfl) ?_
      refine va_get (D := (dC, dI)) (ci := 0) (v := .int (r 10 k)) (C := RX0) (T := TX0) (N := 10) hx hb hts hinX0 hown hK hP (6 + k) (hp_X_e (by omega)) rfl 6 (by decide) hf_93 (fun _ h9 => h9) rfl dX1_partsInStates_39 ?_
      refine lv_iload_n hx hb dX1_partsInStates_42 rfl (lv_at hl 5 rfl) ?_
      refine lv_iload_n hx hb dX1_partsInStates_43 rfl (lv_at hl 6 rfl) ?_
      refine vp_callSi (W.runS (As := [.int (r 10 k), .int p1, .int 3]) (rest := []) ⟨hx, hb, hml, hown, hts⟩ (c_X1_isWithin l (r 10 k) p1 3) (va_cwS 3 hts gX1_partsInStates_X1_isWithin rfl rfl rfl (by decide +kernel) ⟨(Nat.le_of_ble_eq_true rfl), (Nat.le_of_ble_eq_true rfl)⟩) ⟨hp_nfb, fun _ _ _ => ⟨rfl, trivial⟩⟩ rfl rfl hl.1 rfl (lv_room (Nat.le_of_ble_eq_true rfl)) dX1_partsInStates_44 ⟨(Nat.zero_le _), (Nat.zero_le _)⟩) (fun r_6 hr_6 => ?_)
      subst hr_6
      refine lv_if_eq (tgt := 61) hx hb dX1_partsInStates_47 (by decide) (fun c_7 => ?_) (fun c_7 => ?_)
      · skip
        have c_7 := hp_bz c_7
        refine lv_iinc (v := nI (k + 1)) (lv' := [(5, .int (nI (k + 1))), (6, .ref (ad k)), (4, .int (hp_sum (fun i => if (r 4 i == p0) && hp_in (r 10 i) p1 3 then hp_par r i else 0) (k))), (0, .ref o), (1, .int p0), (2, .int p1), (3, .int 3)]) hx hb dX1_partsInStates_61 hl (k := 2) rfl (nI_1 _) (by decide) rfl (fun ls hl => ?_)
        refine lv_goto (tgt := 6) hx hb dX1_partsInStates_64 (by decide) ?_
        have e_8 : hp_sum (fun i => if (r 4 i == p0) && hp_in (r 10 i) p1 3 then hp_par r i else 0) (k) = hp_sum (fun i => if (r 4 i == p0) && hp_in (r 10 i) p1 3 then hp_par r i else 0) (k + 1) := by simp [hp_sum, c_2, c_2p, c_4, c_7]
        exact ih_1 hkn _ (by have h9 := lv_sub (l' := [(4, .int (hp_sum (fun i => if (r 4 i == p0) && hp_in (r 10 i) p1 3 then hp_par r i else 0) (k))), (5, .int (nI (k + 1))), (0, .ref o), (1, .int p0), (2, .int p1), (3, .int 3)]) hl [2, 0, 3, 4, 5, 6] rfl; rw [e_8] at h9; exact h9)
      · skip
        have c_7 := hp_bn c_7
        refine lv_iload hx hb dX1_partsInStates_50 (lv_at hl 1 rfl) ?_
        refine lv_aload_n hx hb dX1_partsInStates_52 rfl (lv_at hl 3 rfl) ?_
        refine lv_aload hx hb dX1_partsInStates_53 (lv_at hl 0 rfl) ?_
        refine vp_callSi (W.runV (As := [.ref (ad k)]) (rest := [.int (hp_sum (fun i => if (r 4 i == p0) && hp_in (r 10 i) p1 3 then hp_par r i else 0) (k))]) ⟨hx, hb, hml, hown, hts⟩ (c_X1_partsOf l dC dI cI cZ cO cJ o b ad v r n k hkn (hp_kdr (r := r) (hinv.2.1 _ hkn)) (hp_pc_pos (r := r) hinv hkn)) (cwV 1 hts gX1_partsInStates_X1_partsOf rfl rfl rfl (by decide +kernel) ⟨(Nat.le_of_ble_eq_true rfl), (Nat.le_of_ble_eq_true rfl)⟩) ⟨hp_fbX, va_recv hK hP (ci := 1) (q0 := 0) rfl hp_X_o, fun U hU hW => ⟨rfl, hp_toX hP hK hN hU hW⟩⟩ rfl rfl hl.1 rfl (lv_room (Nat.le_of_ble_eq_true rfl)) dX1_partsInStates_55 ⟨(Nat.zero_le _), (Nat.zero_le _)⟩) (fun r_9 hr_9 => ?_)
        subst hr_9
        refine lv_iadd hx hb dX1_partsInStates_58 ?_
        refine lv_istore (lv' := [(4, .int ((hp_sum (fun i => if (r 4 i == p0) && hp_in (r 10 i) p1 3 then hp_par r i else 0) (k)) + (hp_par r k))), (6, .ref (ad k)), (5, .int (nI k)), (0, .ref o), (1, .int p0), (2, .int p1), (3, .int 3)]) hx hb dX1_partsInStates_59 hl (by decide) rfl (fun ls hl => ?_)
        refine lv_iinc (v := nI (k + 1)) (lv' := [(5, .int (nI (k + 1))), (4, .int ((hp_sum (fun i => if (r 4 i == p0) && hp_in (r 10 i) p1 3 then hp_par r i else 0) (k)) + (hp_par r k))), (6, .ref (ad k)), (0, .ref o), (1, .int p0), (2, .int p1), (3, .int 3)]) hx hb dX1_partsInStates_61 hl (k := 2) rfl (nI_1 _) (by decide) rfl (fun ls hl => ?_)
        refine lv_goto (tgt := 6) hx hb dX1_partsInStates_64 (by decide) ?_
        have e_10 : (hp_sum (fun i => if (r 4 i == p0) && hp_in (r 10 i) p1 3 then hp_par r i else 0) (k)) + (hp_par r k) = hp_sum (fun i => if (r 4 i == p0) && hp_in (r 10 i) p1 3 then hp_par r i else 0) (k + 1) := by simp [hp_sum, c_2, c_2p, c_4, c_7]
        exact ih_1 hkn _ (by have h9 := lv_sub (l' := [(4, .int ((hp_sum (fun i => if (r 4 i == p0) && hp_in (r 10 i) p1 3 then hp_par r i else 0) (k)) + (hp_par r k))), (5, .int (nI (k + 1))), (0, .ref o), (1, .int p0), (2, .int p1), (3, .int 3)]) hl [1, 0, 3, 4, 5, 6] rfl; rw [e_10] at h9; exact h9)
