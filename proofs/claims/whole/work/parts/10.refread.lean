/-! the reference: its methods that only read -/
set_option maxHeartbeats 400000 in
set_option maxRecDepth 100000 in
theorem c_X2_in (l : Launch)  (p0 p1 p2 : Int32) : Met l yX2_in wsX2_in ({ frames := 0, cells := 0, slots := 0, locals := 0 }) (va_Pc [.int p0, .int p1, .int p2] hp_no) (vp_Si (fun x9 => x9 = hp_b (hp_in p0 p1 p2))) 0 0 (fun _ => False) := by
  refine Met.ofW (cc := cX2_in) (maxL := 3) (ret := (some .boolean)) (by decide) rfl ?_
  intro p e s m args below meth c s₁ B hml hv
  obtain ⟨rfl, -⟩ := hv
  have hx := B.exec
  have hb := B.bytes
  have hr := B.returns
  have hts := atoms_spec (ws := wsX2_in) B.pre
  have hown : s.vm.findClass RX2 = some m.cls := findClass_of_methodNamed B.named
  have hlocks := B.notSynchronized
  have hl := lv_entry ([.int p0, .int p1, .int p2]) (n := 3) (Nat.le_of_ble_eq_true rfl)
  rw [lg_entry_eq]
  generalize (lg_sl ([.int p0, .int p1, .int p2]) ++ List.replicate (3 - (lg_sl ([.int p0, .int p1, .int p2])).length) Slot.unset).toArray = ls at hl ⊢
  have hl : lv_has ls 3 [(0, .int p0), (1, .int p1), (2, .int p2)] := hl
  refine lv_iload_n hx hb dX2_in_0 rfl (lv_at hl 0 rfl) ?_
  refine lv_iload_n hx hb dX2_in_1 rfl (lv_at hl 1 rfl) ?_
  refine lv_icmp_lt (tgt := 14) hx hb dX2_in_2 (by decide) (fun c_1 => ?_) (fun c_1 => ?_)
  · skip
    have c_1n := hp_ltn c_1
    refine lv_iconst (v := 0) hx hb dX2_in_14 (by decide) ?_
    exact W.zret (ty := .boolean) (v := 0) hx hb hr rfl (fun t ht hW => ⟨_, rfl, (by simp [hp_b, hp_in, c_1, c_1n]), ht⟩) (fun _ h => nomatch h) dX2_in_15
  · skip
    have c_1p := hp_nlt c_1
    refine lv_iload_n hx hb dX2_in_5 rfl (lv_at hl 0 rfl) ?_
    refine lv_iload_n hx hb dX2_in_6 rfl (lv_at hl 2 rfl) ?_
    refine lv_icmp_gt (tgt := 14) hx hb dX2_in_7 (by decide) (fun c_2 => ?_) (fun c_2 => ?_)
    · skip
      have c_2n := hp_ltn c_2
      refine lv_iconst (v := 0) hx hb dX2_in_14 (by decide) ?_
      exact W.zret (ty := .boolean) (v := 0) hx hb hr rfl (fun t ht hW => ⟨_, rfl, (by simp [hp_b, hp_in, c_1, c_1p, c_2, c_2n]), ht⟩) (fun _ h => nomatch h) dX2_in_15
    · skip
      have c_2p := hp_nlt c_2
      refine lv_iconst (v := 1) hx hb dX2_in_10 (by decide) ?_
      refine lv_goto (tgt := 15) hx hb dX2_in_11 (by decide) ?_
      exact W.zret (ty := .boolean) (v := 1) hx hb hr rfl (fun t ht hW => ⟨_, rfl, (by simp [hp_b, hp_in, c_1, c_1p, c_2, c_2p]), ht⟩) (fun _ h => nomatch h) dX2_in_15
set_option maxHeartbeats 400000 in
set_option maxRecDepth 100000 in
theorem c_X2_isTrade (l : Launch)  (p0 : Int32) : Met l yX2_isTrade wsX2_isTrade ({ frames := 1, cells := 0, slots := 0, locals := 22 }) (va_Pc [.int p0] hp_no) (vp_Si (fun x9 => x9 = hp_b (hp_kd p0))) 0 0 (fun _ => False) := by
  refine Met.ofW (cc := cX2_isTrade) (maxL := 1) (ret := (some .boolean)) (by decide) rfl ?_
  intro p e s m args below meth c s₁ B hml hv
  obtain ⟨rfl, -⟩ := hv
  have hx := B.exec
  have hb := B.bytes
  have hr := B.returns
  have hts := atoms_spec (ws := wsX2_isTrade) B.pre
  have hown : s.vm.findClass RX2 = some m.cls := findClass_of_methodNamed B.named
  have hlocks := B.notSynchronized
  have hl := lv_entry ([.int p0]) (n := 1) (Nat.le_of_ble_eq_true rfl)
  rw [lg_entry_eq]
  generalize (lg_sl ([.int p0]) ++ List.replicate (1 - (lg_sl ([.int p0])).length) Slot.unset).toArray = ls at hl ⊢
  have hl : lv_has ls 1 [(0, .int p0)] := hl
  refine lv_iload_n hx hb dX2_isTrade_0 rfl (lv_at hl 0 rfl) ?_
  refine lv_iconst (v := 0) hx hb dX2_isTrade_1 (by decide) ?_
  refine lv_iconst (v := 2) hx hb dX2_isTrade_2 (by decide) ?_
  refine vp_callSi (W.runS (As := [.int p0, .int 0, .int 2]) (rest := []) ⟨hx, hb, hml, hown, hts⟩ (c_X2_in l p0 0 2) (va_cwS 3 hts gX2_isTrade_X2_in rfl rfl rfl (by decide +kernel) ⟨(Nat.le_of_ble_eq_true rfl), (Nat.le_of_ble_eq_true rfl)⟩) ⟨hp_nfb, fun _ _ _ => ⟨rfl, trivial⟩⟩ rfl rfl hl.1 rfl (lv_room (Nat.le_of_ble_eq_true rfl)) dX2_isTrade_3 ⟨(Nat.zero_le _), (Nat.zero_le _)⟩) (fun r_1 hr_1 => ?_)
  subst hr_1
  exact W.zret (ty := .boolean) (v := hp_b (hp_in p0 0 2)) hx hb hr (hp_nar _) (fun t ht hW => ⟨_, rfl, (by rfl), ht⟩) (fun _ h => nomatch h) dX2_isTrade_6
set_option maxHeartbeats 400000 in
set_option maxRecDepth 100000 in
theorem c_X2_isStorey (l : Launch)  (p0 : Int32) : Met l yX2_isStorey wsX2_isStorey ({ frames := 1, cells := 0, slots := 0, locals := 22 }) (va_Pc [.int p0] hp_no) (vp_Si (fun x9 => x9 = hp_b (hp_st p0))) 0 0 (fun _ => False) := by
  refine Met.ofW (cc := cX2_isStorey) (maxL := 1) (ret := (some .boolean)) (by decide) rfl ?_
  intro p e s m args below meth c s₁ B hml hv
  obtain ⟨rfl, -⟩ := hv
  have hx := B.exec
  have hb := B.bytes
  have hr := B.returns
  have hts := atoms_spec (ws := wsX2_isStorey) B.pre
  have hown : s.vm.findClass RX2 = some m.cls := findClass_of_methodNamed B.named
  have hlocks := B.notSynchronized
  have hl := lv_entry ([.int p0]) (n := 1) (Nat.le_of_ble_eq_true rfl)
  rw [lg_entry_eq]
  generalize (lg_sl ([.int p0]) ++ List.replicate (1 - (lg_sl ([.int p0])).length) Slot.unset).toArray = ls at hl ⊢
  have hl : lv_has ls 1 [(0, .int p0)] := hl
  refine lv_iload_n hx hb dX2_isStorey_0 rfl (lv_at hl 0 rfl) ?_
  refine lv_iconst (v := 0) hx hb dX2_isStorey_1 (by decide) ?_
  refine lv_iconst (v := 3) hx hb dX2_isStorey_2 (by decide) ?_
  refine vp_callSi (W.runS (As := [.int p0, .int 0, .int 3]) (rest := []) ⟨hx, hb, hml, hown, hts⟩ (c_X2_in l p0 0 3) (va_cwS 3 hts gX2_isStorey_X2_in rfl rfl rfl (by decide +kernel) ⟨(Nat.le_of_ble_eq_true rfl), (Nat.le_of_ble_eq_true rfl)⟩) ⟨hp_nfb, fun _ _ _ => ⟨rfl, trivial⟩⟩ rfl rfl hl.1 rfl (lv_room (Nat.le_of_ble_eq_true rfl)) dX2_isStorey_3 ⟨(Nat.zero_le _), (Nat.zero_le _)⟩) (fun r_1 hr_1 => ?_)
  subst hr_1
  exact W.zret (ty := .boolean) (v := hp_b (hp_in p0 0 3)) hx hb hr (hp_nar _) (fun t ht hW => ⟨_, rfl, (by rfl), ht⟩) (fun _ h => nomatch h) dX2_isStorey_6
set_option maxHeartbeats 400000 in
set_option maxRecDepth 100000 in
theorem c_X2_isSide (l : Launch)  (p0 : Int32) : Met l yX2_isSide wsX2_isSide ({ frames := 1, cells := 0, slots := 0, locals := 22 }) (va_Pc [.int p0] hp_no) (vp_Si (fun x9 => x9 = hp_b (hp_si p0))) 0 0 (fun _ => False) := by
  refine Met.ofW (cc := cX2_isSide) (maxL := 1) (ret := (some .boolean)) (by decide) rfl ?_
  intro p e s m args below meth c s₁ B hml hv
  obtain ⟨rfl, -⟩ := hv
  have hx := B.exec
  have hb := B.bytes
  have hr := B.returns
  have hts := atoms_spec (ws := wsX2_isSide) B.pre
  have hown : s.vm.findClass RX2 = some m.cls := findClass_of_methodNamed B.named
  have hlocks := B.notSynchronized
  have hl := lv_entry ([.int p0]) (n := 1) (Nat.le_of_ble_eq_true rfl)
  rw [lg_entry_eq]
  generalize (lg_sl ([.int p0]) ++ List.replicate (1 - (lg_sl ([.int p0])).length) Slot.unset).toArray = ls at hl ⊢
  have hl : lv_has ls 1 [(0, .int p0)] := hl
  refine lv_iload_n hx hb dX2_isSide_0 rfl (lv_at hl 0 rfl) ?_
  refine lv_iconst (v := 0) hx hb dX2_isSide_1 (by decide) ?_
  refine lv_bipush (v := 11) hx hb dX2_isSide_2 (by decide) ?_
  refine vp_callSi (W.runS (As := [.int p0, .int 0, .int 11]) (rest := []) ⟨hx, hb, hml, hown, hts⟩ (c_X2_in l p0 0 11) (va_cwS 3 hts gX2_isSide_X2_in rfl rfl rfl (by decide +kernel) ⟨(Nat.le_of_ble_eq_true rfl), (Nat.le_of_ble_eq_true rfl)⟩) ⟨hp_nfb, fun _ _ _ => ⟨rfl, trivial⟩⟩ rfl rfl hl.1 rfl (lv_room (Nat.le_of_ble_eq_true rfl)) dX2_isSide_4 ⟨(Nat.zero_le _), (Nat.zero_le _)⟩) (fun r_1 hr_1 => ?_)
  subst hr_1
  exact W.zret (ty := .boolean) (v := hp_b (hp_in p0 0 11)) hx hb hr (hp_nar _) (fun t ht hW => ⟨_, rfl, (by rfl), ht⟩) (fun _ h => nomatch h) dX2_isSide_7
set_option maxHeartbeats 400000 in
set_option maxRecDepth 100000 in
theorem c_X2_size (l : Launch)  (p0 : Int32) : Met l yX2_size wsX2_size ({ frames := 0, cells := 0, slots := 0, locals := 0 }) (va_Pc [.int p0] hp_no) (vp_Si (fun x9 => x9 = hp_abs p0)) 0 0 (fun _ => False) := by
  refine Met.ofW (cc := cX2_size) (maxL := 1) (ret := (some .int)) (by decide) rfl ?_
  intro p e s m args below meth c s₁ B hml hv
  obtain ⟨rfl, -⟩ := hv
  have hx := B.exec
  have hb := B.bytes
  have hr := B.returns
  have hts := atoms_spec (ws := wsX2_size) B.pre
  have hown : s.vm.findClass RX2 = some m.cls := findClass_of_methodNamed B.named
  have hlocks := B.notSynchronized
  have hl := lv_entry ([.int p0]) (n := 1) (Nat.le_of_ble_eq_true rfl)
  rw [lg_entry_eq]
  generalize (lg_sl ([.int p0]) ++ List.replicate (1 - (lg_sl ([.int p0])).length) Slot.unset).toArray = ls at hl ⊢
  have hl : lv_has ls 1 [(0, .int p0)] := hl
  refine lv_iload_n hx hb dX2_size_0 rfl (lv_at hl 0 rfl) ?_
  refine lv_if_ge (tgt := 9) hx hb dX2_size_1 (by decide) (fun c_1 => ?_) (fun c_1 => ?_)
  · skip
    have c_1n := hp_len c_1
    refine lv_iload_n hx hb dX2_size_9 rfl (lv_at hl 0 rfl) ?_
    exact W.iret (v := p0) hx hb hr (fun t ht hW => ⟨_, rfl, (by simp [hp_abs, c_1, c_1n]), ht⟩) (fun _ h => nomatch h) dX2_size_10
  · skip
    have c_1p := hp_nle c_1
    refine lv_iload_n hx hb dX2_size_4 rfl (lv_at hl 0 rfl) ?_
    refine lv_ineg hx hb dX2_size_5 ?_
    refine lv_goto (tgt := 10) hx hb dX2_size_6 (by decide) ?_
    exact W.iret (v := -p0) hx hb hr (fun t ht hW => ⟨_, rfl, (by simp [hp_abs, c_1, c_1p]), ht⟩) (fun _ h => nomatch h) dX2_size_10
set_option maxHeartbeats 400000 in
set_option maxRecDepth 100000 in
theorem c_X2_gap (l : Launch)  (p0 p1 p2 p3 : Int32) : Met l yX2_gap wsX2_gap ({ frames := 0, cells := 0, slots := 0, locals := 0 }) (va_Pc [.int p0, .int p1, .int p2, .int p3] hp_no) (vp_Si (fun x9 => x9 = hp_gap p0 p1 p2 p3)) 0 0 (fun _ => False) := by
  refine Met.ofW (cc := cX2_gap) (maxL := 8) (ret := (some .int)) (by decide) rfl ?_
  intro p e s m args below meth c s₁ B hml hv
  obtain ⟨rfl, -⟩ := hv
  have hx := B.exec
  have hb := B.bytes
  have hr := B.returns
  have hts := atoms_spec (ws := wsX2_gap) B.pre
  have hown : s.vm.findClass RX2 = some m.cls := findClass_of_methodNamed B.named
  have hlocks := B.notSynchronized
  have hl := lv_entry ([.int p0, .int p1, .int p2, .int p3]) (n := 8) (Nat.le_of_ble_eq_true rfl)
  rw [lg_entry_eq]
  generalize (lg_sl ([.int p0, .int p1, .int p2, .int p3]) ++ List.replicate (8 - (lg_sl ([.int p0, .int p1, .int p2, .int p3])).length) Slot.unset).toArray = ls at hl ⊢
  have hl : lv_has ls 8 [(0, .int p0), (1, .int p1), (2, .int p2), (3, .int p3)] := hl
  refine hp_join 10 8 (fun x1 : Int32 => x1 = (if p0 < p1 then p0 else p1)) (fun x1 => [(0, .int p0), (1, .int p1), (2, .int p2), (3, .int p3)]) (fun x1 => [.int x1]) (fun x1 hx_2 ls hl => ?_) (fun jn_2 => ?_)
  · skip
    subst hx_2
    refine lv_istore (lv' := [(4, .int (if p0 < p1 then p0 else p1)), (0, .int p0), (1, .int p1), (2, .int p2), (3, .int p3)]) hx hb dX2_gap_10 hl (by decide) rfl (fun ls hl => ?_)
    refine hp_join 22 8 (fun x3 : Int32 => x3 = (if p0 < p1 then p1 else p0)) (fun x3 => [(4, .int (if p0 < p1 then p0 else p1)), (0, .int p0), (1, .int p1), (2, .int p2), (3, .int p3)]) (fun x3 => [.int x3]) (fun x3 hx_4 ls hl => ?_) (fun jn_4 => ?_)
    · skip
      subst hx_4
      refine lv_istore (lv' := [(5, .int (if p0 < p1 then p1 else p0)), (4, .int (if p0 < p1 then p0 else p1)), (0, .int p0), (1, .int p1), (2, .int p2), (3, .int p3)]) hx hb dX2_gap_22 hl (by decide) rfl (fun ls hl => ?_)
      refine hp_join 34 8 (fun x5 : Int32 => x5 = (if p2 < p3 then p2 else p3)) (fun x5 => [(5, .int (if p0 < p1 then p1 else p0)), (4, .int (if p0 < p1 then p0 else p1)), (0, .int p0), (1, .int p1), (2, .int p2), (3, .int p3)]) (fun x5 => [.int x5]) (fun x5 hx_6 ls hl => ?_) (fun jn_6 => ?_)
      · skip
        subst hx_6
        refine lv_istore (lv' := [(6, .int (if p2 < p3 then p2 else p3)), (5, .int (if p0 < p1 then p1 else p0)), (4, .int (if p0 < p1 then p0 else p1)), (0, .int p0), (1, .int p1), (2, .int p2), (3, .int p3)]) hx hb dX2_gap_34 hl (by decide) rfl (fun ls hl => ?_)
        refine hp_join 46 8 (fun x7 : Int32 => x7 = (if p2 < p3 then p3 else p2)) (fun x7 => [(6, .int (if p2 < p3 then p2 else p3)), (5, .int (if p0 < p1 then p1 else p0)), (4, .int (if p0 < p1 then p0 else p1)), (0, .int p0), (1, .int p1), (2, .int p2), (3, .int p3)]) (fun x7 => [.int x7]) (fun x7 hx_8 ls hl => ?_) (fun jn_8 => ?_)
        · skip
          subst hx_8
          refine lv_istore (lv' := [(7, .int (if p2 < p3 then p3 else p2)), (6, .int (if p2 < p3 then p2 else p3)), (5, .int (if p0 < p1 then p1 else p0)), (4, .int (if p0 < p1 then p0 else p1)), (0, .int p0), (1, .int p1), (2, .int p2), (3, .int p3)]) hx hb dX2_gap_46 hl (by decide) rfl (fun ls hl => ?_)
          refine lv_iload hx hb dX2_gap_48 (lv_at hl 1 rfl) ?_
          refine lv_iload hx hb dX2_gap_50 (lv_at hl 2 rfl) ?_
          refine lv_icmp_le (tgt := 63) hx hb dX2_gap_52 (by decide) (fun c_9 => ?_) (fun c_9 => ?_)
          · skip
            have c_9n := hp_len c_9
            refine lv_iload hx hb dX2_gap_63 (lv_at hl 3 rfl) ?_
            refine lv_iload hx hb dX2_gap_65 (lv_at hl 0 rfl) ?_
            refine lv_icmp_le (tgt := 78) hx hb dX2_gap_67 (by decide) (fun c_10 => ?_) (fun c_10 => ?_)
            · skip
              have c_10n := hp_len c_10
              refine lv_iconst (v := 0) hx hb dX2_gap_78 (by decide) ?_
              exact W.iret (v := 0) hx hb hr (fun t ht hW => ⟨_, rfl, (by simp only [hp_gap]; simp [c_9, c_9n, c_10, c_10n]), ht⟩) (fun _ h => nomatch h) dX2_gap_79
            · skip
              have c_10p := hp_nle c_10
              refine lv_iload hx hb dX2_gap_70 (lv_at hl 3 rfl) ?_
              refine lv_iload hx hb dX2_gap_72 (lv_at hl 0 rfl) ?_
              refine lv_isub hx hb dX2_gap_74 ?_
              refine lv_goto (tgt := 79) hx hb dX2_gap_75 (by decide) ?_
              exact W.iret (v := (if p0 < p1 then p0 else p1) - (if p2 < p3 then p3 else p2)) hx hb hr (fun t ht hW => ⟨_, rfl, (by simp only [hp_gap]; simp [c_9, c_9n, c_10, c_10p]), ht⟩) (fun _ h => nomatch h) dX2_gap_79
          · skip
            have c_9p := hp_nle c_9
            refine lv_iload hx hb dX2_gap_55 (lv_at hl 1 rfl) ?_
            refine lv_iload hx hb dX2_gap_57 (lv_at hl 2 rfl) ?_
            refine lv_isub hx hb dX2_gap_59 ?_
            refine lv_goto (tgt := 79) hx hb dX2_gap_60 (by decide) ?_
            exact W.iret (v := (if p2 < p3 then p2 else p3) - (if p0 < p1 then p1 else p0)) hx hb hr (fun t ht hW => ⟨_, rfl, (by simp only [hp_gap]; simp [c_9, c_9p]), ht⟩) (fun _ h => nomatch h) dX2_gap_79
        · skip
          refine lv_iload_n hx hb dX2_gap_36 rfl (lv_at hl 5 rfl) ?_
          refine lv_iload_n hx hb dX2_gap_37 rfl (lv_at hl 6 rfl) ?_
          refine lv_icmp_ge (tgt := 45) hx hb dX2_gap_38 (by decide) (fun c_11 => ?_) (fun c_11 => ?_)
          · skip
            have c_11n := hp_len c_11
            refine lv_iload_n hx hb dX2_gap_45 rfl (lv_at hl 5 rfl) ?_
            exact jn_8 p2 (by simp [c_11, c_11n]) _ (lv_sub hl [0, 1, 2, 3, 4, 5, 6] rfl)
          · skip
            have c_11p := hp_nle c_11
            refine lv_iload_n hx hb dX2_gap_41 rfl (lv_at hl 6 rfl) ?_
            refine lv_goto (tgt := 46) hx hb dX2_gap_42 (by decide) ?_
            exact jn_8 p3 (by simp [c_11, c_11p]) _ (lv_sub hl [0, 1, 2, 3, 4, 5, 6] rfl)
      · skip
        refine lv_iload_n hx hb dX2_gap_24 rfl (lv_at hl 4 rfl) ?_
        refine lv_iload_n hx hb dX2_gap_25 rfl (lv_at hl 5 rfl) ?_
        refine lv_icmp_ge (tgt := 33) hx hb dX2_gap_26 (by decide) (fun c_12 => ?_) (fun c_12 => ?_)
        · skip
          have c_12n := hp_len c_12
          refine lv_iload_n hx hb dX2_gap_33 rfl (lv_at hl 5 rfl) ?_
          exact jn_6 p3 (by simp [c_12, c_12n]) _ (lv_sub hl [0, 1, 2, 3, 4, 5] rfl)
        · skip
          have c_12p := hp_nle c_12
          refine lv_iload_n hx hb dX2_gap_29 rfl (lv_at hl 4 rfl) ?_
          refine lv_goto (tgt := 34) hx hb dX2_gap_30 (by decide) ?_
          exact jn_6 p2 (by simp [c_12, c_12p]) _ (lv_sub hl [0, 1, 2, 3, 4, 5] rfl)
    · skip
      refine lv_iload_n hx hb dX2_gap_12 rfl (lv_at hl 1 rfl) ?_
      refine lv_iload_n hx hb dX2_gap_13 rfl (lv_at hl 2 rfl) ?_
      refine lv_icmp_ge (tgt := 21) hx hb dX2_gap_14 (by decide) (fun c_13 => ?_) (fun c_13 => ?_)
      · skip
        have c_13n := hp_len c_13
        refine lv_iload_n hx hb dX2_gap_21 rfl (lv_at hl 1 rfl) ?_
        exact jn_4 p0 (by simp [c_13, c_13n]) _ (lv_sub hl [0, 1, 2, 3, 4] rfl)
      · skip
        have c_13p := hp_nle c_13
        refine lv_iload_n hx hb dX2_gap_17 rfl (lv_at hl 2 rfl) ?_
        refine lv_goto (tgt := 22) hx hb dX2_gap_18 (by decide) ?_
        exact jn_4 p1 (by simp [c_13, c_13p]) _ (lv_sub hl [0, 1, 2, 3, 4] rfl)
  · skip
    refine lv_iload_n hx hb dX2_gap_0 rfl (lv_at hl 0 rfl) ?_
    refine lv_iload_n hx hb dX2_gap_1 rfl (lv_at hl 1 rfl) ?_
    refine lv_icmp_ge (tgt := 9) hx hb dX2_gap_2 (by decide) (fun c_14 => ?_) (fun c_14 => ?_)
    · skip
      have c_14n := hp_len c_14
      refine lv_iload_n hx hb dX2_gap_9 rfl (lv_at hl 1 rfl) ?_
      exact jn_2 p1 (by simp [c_14, c_14n]) _ (lv_sub hl [0, 1, 2, 3] rfl)
    · skip
      have c_14p := hp_nle c_14
      refine lv_iload_n hx hb dX2_gap_5 rfl (lv_at hl 0 rfl) ?_
      refine lv_goto (tgt := 10) hx hb dX2_gap_6 (by decide) ?_
      exact jn_2 p0 (by simp [c_14, c_14p]) _ (lv_sub hl [0, 1, 2, 3] rfl)
set_option maxHeartbeats 400000 in
set_option maxRecDepth 100000 in
theorem c_X2_isElement (l : Launch) (dC : Nat → ClassId) (dI : Nat → Nat → Nat) (cI cZ cO cJ : ClassId) (o : Nat) (a : Nat → Nat) (v : Nat → Int32) (r : Nat → Nat → Int32) (n : Nat)  (p0 : Int32) : Met l yX2_isElement wsX2_isElement ({ frames := 1, cells := 0, slots := 0, locals := 22 }) (va_Pc [.ref o, .int p0] (hp_pre (dC, dI) cI cZ cO cJ (hp_M cI cZ o a v r n))) (vp_Si (fun x9 => x9 = hp_b (hp_el n p0))) 0 0 (fun _ => False) := by
  refine Met.ofW (cc := cX2_isElement) (maxL := 2) (ret := (some .boolean)) (by decide) rfl ?_
  intro p e s m args below meth c s₁ B hml hv
  obtain ⟨rfl, hP, hK⟩ := hv
  have hx := B.exec
  have hb := B.bytes
  have hr := B.returns
  have hts := atoms_spec (ws := wsX2_isElement) B.pre
  have hown : s.vm.findClass RX2 = some m.cls := findClass_of_methodNamed B.named
  have hlocks := B.notSynchronized
  have hf_61 := hts (.fieldLink RX2 61 "WallplanModel" "elements" "I") (by decide +kernel)
  have hinX2 : ∀ w ∈ wsX20, w ∈ wsX2_isElement := by decide +kernel
  have hl := lv_entry ([.ref o, .int p0]) (n := 2) (Nat.le_of_ble_eq_true rfl)
  rw [lg_entry_eq]
  generalize (lg_sl ([.ref o, .int p0]) ++ List.replicate (2 - (lg_sl ([.ref o, .int p0])).length) Slot.unset).toArray = ls at hl ⊢
  have hl : lv_has ls 2 [(0, .ref o), (1, .int p0)] := hl
  refine lv_iload_n hx hb dX2_isElement_0 rfl (lv_at hl 1 rfl) ?_
  refine lv_iconst (v := 0) hx hb dX2_isElement_1 (by decide) ?_
  refine lv_aload_n hx hb dX2_isElement_2 rfl (lv_at hl 0 rfl) ?_
  refine va_get (D := (dC, dI)) (ci := 2) (v := .int (nI n)) (C := RX2) (T := TX2) (N := 18) hx hb hts hinX2 hown hK hP 0 hp_M_o rfl 3 (by decide) hf_61 (fun _ h9 => h9) rfl dX2_isElement_3 ?_
  refine lv_iconst (v := 1) hx hb dX2_isElement_6 (by decide) ?_
  refine lv_isub hx hb dX2_isElement_7 ?_
  refine vp_callSi (W.runS (As := [.int p0, .int 0, .int ((nI n) - 1)]) (rest := []) ⟨hx, hb, hml, hown, hts⟩ (c_X2_in l p0 0 ((nI n) - 1)) (va_cwS 3 hts gX2_isElement_X2_in rfl rfl rfl (by decide +kernel) ⟨(Nat.le_of_ble_eq_true rfl), (Nat.le_of_ble_eq_true rfl)⟩) ⟨hp_nfb, fun _ _ _ => ⟨rfl, trivial⟩⟩ rfl rfl hl.1 rfl (lv_room (Nat.le_of_ble_eq_true rfl)) dX2_isElement_8 ⟨(Nat.zero_le _), (Nat.zero_le _)⟩) (fun r_1 hr_1 => ?_)
  subst hr_1
  exact W.zret (ty := .boolean) (v := hp_b (hp_in p0 0 ((nI n) - 1))) hx hb hr (hp_nar _) (fun t ht hW => ⟨_, rfl, (by rfl), ht⟩) (fun _ h => nomatch h) dX2_isElement_11
set_option maxHeartbeats 400000 in
set_option maxRecDepth 100000 in
theorem c_X2_isTaken (l : Launch) (dC : Nat → ClassId) (dI : Nat → Nat → Nat) (cI cZ cO cJ : ClassId) (o : Nat) (a : Nat → Nat) (v : Nat → Int32) (r : Nat → Nat → Int32) (n : Nat) (i : Nat) (x_i : Int32) (hx_i : x_i = nI i) (p0 p1 : Int32) (hi : i < 40) : Met l yX2_isTaken wsX2_isTaken ({ frames := 0, cells := 0, slots := 0, locals := 0 }) (va_Pc [.ref o, .int p0, .int p1, .int x_i] (hp_pre (dC, dI) cI cZ cO cJ (hp_M cI cZ o a v r n))) (vp_Si (fun x9 => x9 = hp_b (decide (r 11 i ≤ p1) || r 12 i == p0 || decide (p0 < r 12 i)))) 0 0 (fun _ => False) := by
  refine Met.ofW (cc := cX2_isTaken) (maxL := 4) (ret := (some .boolean)) (by decide) rfl ?_
  intro p e s m args below meth c s₁ B hml hv
  obtain ⟨rfl, hP, hK⟩ := hv
  have hx := B.exec
  have hb := B.bytes
  have hr := B.returns
  have hts := atoms_spec (ws := wsX2_isTaken) B.pre
  have hown : s.vm.findClass RX2 = some m.cls := findClass_of_methodNamed B.named
  have hlocks := B.notSynchronized
  subst hx_i
  have hf_31 := hts (.fieldLink RX2 31 "WallplanModel" "changed" "[I") (by decide +kernel)
  have hf_34 := hts (.fieldLink RX2 34 "WallplanModel" "by" "[I") (by decide +kernel)
  have hinX2 : ∀ w ∈ wsX20, w ∈ wsX2_isTaken := by decide +kernel
  have hl := lv_entry ([.ref o, .int p0, .int p1, .int (nI i)]) (n := 4) (Nat.le_of_ble_eq_true rfl)
  rw [lg_entry_eq]
  generalize (lg_sl ([.ref o, .int p0, .int p1, .int (nI i)]) ++ List.replicate (4 - (lg_sl ([.ref o, .int p0, .int p1, .int (nI i)])).length) Slot.unset).toArray = ls at hl ⊢
  have hl : lv_has ls 4 [(0, .ref o), (1, .int p0), (2, .int p1), (3, .int (nI i))] := hl
  refine lv_aload_n hx hb dX2_isTaken_0 rfl (lv_at hl 0 rfl) ?_
  refine va_get (D := (dC, dI)) (ci := 2) (v := .ref (a 11)) (C := RX2) (T := TX2) (N := 18) hx hb hts hinX2 hown hK hP 0 hp_M_o rfl 11 (by decide) hf_31 (fun _ h9 => h9) rfl dX2_isTaken_1 ?_
  refine lv_iload_n hx hb dX2_isTaken_4 rfl (lv_at hl 3 rfl) ?_
  refine hp_iald (v := r 11 i) hx hb hK hP 8 0 hp_M_11 rfl (k := i) (by omega) (by decide) rfl dX2_isTaken_5 ?_
  refine lv_iload_n hx hb dX2_isTaken_6 rfl (lv_at hl 2 rfl) ?_
  refine lv_icmp_le (tgt := 30) hx hb dX2_isTaken_7 (by decide) (fun c_1 => ?_) (fun c_1 => ?_)
  · skip
    have c_1n := hp_len c_1
    refine lv_iconst (v := 1) hx hb dX2_isTaken_30 (by decide) ?_
    refine lv_goto (tgt := 35) hx hb dX2_isTaken_31 (by decide) ?_
    exact W.zret (ty := .boolean) (v := 1) hx hb hr rfl (fun t ht hW => ⟨_, rfl, (by simp [hp_b, c_1, c_1n]), ht⟩) (fun _ h => nomatch h) dX2_isTaken_35
  · skip
    have c_1p := hp_nle c_1
    refine lv_aload_n hx hb dX2_isTaken_10 rfl (lv_at hl 0 rfl) ?_
    refine va_get (D := (dC, dI)) (ci := 2) (v := .ref (a 12)) (C := RX2) (T := TX2) (N := 18) hx hb hts hinX2 hown hK hP 0 hp_M_o rfl 12 (by decide) hf_34 (fun _ h9 => h9) rfl dX2_isTaken_11 ?_
    refine lv_iload_n hx hb dX2_isTaken_14 rfl (lv_at hl 3 rfl) ?_
    refine hp_iald (v := r 12 i) hx hb hK hP 9 0 hp_M_12 rfl (k := i) (by omega) (by decide) rfl dX2_isTaken_15 ?_
    refine lv_iload_n hx hb dX2_isTaken_16 rfl (lv_at hl 1 rfl) ?_
    refine lv_icmp_eq (tgt := 30) hx hb dX2_isTaken_17 (by decide) (fun c_2 => ?_) (fun c_2 => ?_)
    · skip
      refine lv_iconst (v := 1) hx hb dX2_isTaken_30 (by decide) ?_
      refine lv_goto (tgt := 35) hx hb dX2_isTaken_31 (by decide) ?_
      exact W.zret (ty := .boolean) (v := 1) hx hb hr rfl (fun t ht hW => ⟨_, rfl, (by simp [hp_b, c_1, c_1p, c_2]), ht⟩) (fun _ h => nomatch h) dX2_isTaken_35
    · skip
      refine lv_iload_n hx hb dX2_isTaken_20 rfl (lv_at hl 1 rfl) ?_
      refine lv_aload_n hx hb dX2_isTaken_21 rfl (lv_at hl 0 rfl) ?_
      refine va_get (D := (dC, dI)) (ci := 2) (v := .ref (a 12)) (C := RX2) (T := TX2) (N := 18) hx hb hts hinX2 hown hK hP 0 hp_M_o rfl 12 (by decide) hf_34 (fun _ h9 => h9) rfl dX2_isTaken_22 ?_
      refine lv_iload_n hx hb dX2_isTaken_25 rfl (lv_at hl 3 rfl) ?_
      refine hp_iald (v := r 12 i) hx hb hK hP 9 0 hp_M_12 rfl (k := i) (by omega) (by decide) rfl dX2_isTaken_26 ?_
      refine lv_icmp_ge (tgt := 34) hx hb dX2_isTaken_27 (by decide) (fun c_3 => ?_) (fun c_3 => ?_)
      · skip
        have c_3n := hp_len c_3
        refine lv_iconst (v := 0) hx hb dX2_isTaken_34 (by decide) ?_
        exact W.zret (ty := .boolean) (v := 0) hx hb hr rfl (fun t ht hW => ⟨_, rfl, (by simp [hp_b, c_1, c_1p, c_2, c_3, c_3n]), ht⟩) (fun _ h => nomatch h) dX2_isTaken_35
      · skip
        have c_3p := hp_nle c_3
        refine lv_iconst (v := 1) hx hb dX2_isTaken_30 (by decide) ?_
        refine lv_goto (tgt := 35) hx hb dX2_isTaken_31 (by decide) ?_
        exact W.zret (ty := .boolean) (v := 1) hx hb hr rfl (fun t ht hW => ⟨_, rfl, (by simp [hp_b, c_1, c_1p, c_2, c_3, c_3p]), ht⟩) (fun _ h => nomatch h) dX2_isTaken_35
set_option maxHeartbeats 400000 in
set_option maxRecDepth 100000 in
theorem c_X2_cellsOf (l : Launch) (dC : Nat → ClassId) (dI : Nat → Nat → Nat) (cI cZ cO cJ : ClassId) (o : Nat) (a : Nat → Nat) (v : Nat → Int32) (r : Nat → Nat → Int32) (n : Nat) (i : Nat) (x_i : Int32) (hx_i : x_i = nI i) (hi : i < 40) : Met l yX2_cellsOf wsX2_cellsOf ({ frames := 1, cells := 0, slots := 0, locals := 20 }) (va_Pc [.ref o, .int x_i] (hp_pre (dC, dI) cI cZ cO cJ (hp_M cI cZ o a v r n))) (vp_Si (fun x9 => x9 = hp_cel r i)) 0 0 (fun _ => False) := by
  refine Met.ofW (cc := cX2_cellsOf) (maxL := 2) (ret := (some .int)) (by decide) rfl ?_
  intro p e s m args below meth c s₁ B hml hv
  obtain ⟨rfl, hP, hK⟩ := hv
  have hx := B.exec
  have hb := B.bytes
  have hr := B.returns
  have hts := atoms_spec (ws := wsX2_cellsOf) B.pre
  have hown : s.vm.findClass RX2 = some m.cls := findClass_of_methodNamed B.named
  have hlocks := B.notSynchronized
  subst hx_i
  have hf_16 := hts (.fieldLink RX2 16 "WallplanModel" "fromX" "[I") (by decide +kernel)
  have hf_19 := hts (.fieldLink RX2 19 "WallplanModel" "fromY" "[I") (by decide +kernel)
  have hf_22 := hts (.fieldLink RX2 22 "WallplanModel" "toX" "[I") (by decide +kernel)
  have hf_25 := hts (.fieldLink RX2 25 "WallplanModel" "toY" "[I") (by decide +kernel)
  have hinX2 : ∀ w ∈ wsX20, w ∈ wsX2_cellsOf := by decide +kernel
  have hl := lv_entry ([.ref o, .int (nI i)]) (n := 2) (Nat.le_of_ble_eq_true rfl)
  rw [lg_entry_eq]
  generalize (lg_sl ([.ref o, .int (nI i)]) ++ List.replicate (2 - (lg_sl ([.ref o, .int (nI i)])).length) Slot.unset).toArray = ls at hl ⊢
  have hl : lv_has ls 2 [(0, .ref o), (1, .int (nI i))] := hl
  refine lv_iconst (v := 1) hx hb dX2_cellsOf_0 (by decide) ?_
  refine lv_aload_n hx hb dX2_cellsOf_1 rfl (lv_at hl 0 rfl) ?_
  refine va_get (D := (dC, dI)) (ci := 2) (v := .ref (a 8)) (C := RX2) (T := TX2) (N := 18) hx hb hts hinX2 hown hK hP 0 hp_M_o rfl 8 (by decide) hf_22 (fun _ h9 => h9) rfl dX2_cellsOf_2 ?_
  refine lv_iload_n hx hb dX2_cellsOf_5 rfl (lv_at hl 1 rfl) ?_
  refine hp_iald (v := r 8 i) hx hb hK hP 5 0 hp_M_8 rfl (k := i) (by omega) (by decide) rfl dX2_cellsOf_6 ?_
  refine lv_aload_n hx hb dX2_cellsOf_7 rfl (lv_at hl 0 rfl) ?_
  refine va_get (D := (dC, dI)) (ci := 2) (v := .ref (a 6)) (C := RX2) (T := TX2) (N := 18) hx hb hts hinX2 hown hK hP 0 hp_M_o rfl 6 (by decide) hf_16 (fun _ h9 => h9) rfl dX2_cellsOf_8 ?_
  refine lv_iload_n hx hb dX2_cellsOf_11 rfl (lv_at hl 1 rfl) ?_
  refine hp_iald (v := r 6 i) hx hb hK hP 3 0 hp_M_6 rfl (k := i) (by omega) (by decide) rfl dX2_cellsOf_12 ?_
  refine lv_isub hx hb dX2_cellsOf_13 ?_
  refine vp_callSi (W.runS (As := [.int ((r 8 i) - (r 6 i))]) (rest := [.int 1]) ⟨hx, hb, hml, hown, hts⟩ (c_X2_size l ((r 8 i) - (r 6 i))) (va_cwS 1 hts gX2_cellsOf_X2_size rfl rfl rfl (by decide +kernel) ⟨(Nat.le_of_ble_eq_true rfl), (Nat.le_of_ble_eq_true rfl)⟩) ⟨hp_nfb, fun _ _ _ => ⟨rfl, trivial⟩⟩ rfl rfl hl.1 rfl (lv_room (Nat.le_of_ble_eq_true rfl)) dX2_cellsOf_14 ⟨(Nat.zero_le _), (Nat.zero_le _)⟩) (fun r_1 hr_1 => ?_)
  subst hr_1
  refine lv_iadd hx hb dX2_cellsOf_17 ?_
  refine lv_aload_n hx hb dX2_cellsOf_18 rfl (lv_at hl 0 rfl) ?_
  refine va_get (D := (dC, dI)) (ci := 2) (v := .ref (a 9)) (C := RX2) (T := TX2) (N := 18) hx hb hts hinX2 hown hK hP 0 hp_M_o rfl 9 (by decide) hf_25 (fun _ h9 => h9) rfl dX2_cellsOf_19 ?_
  refine lv_iload_n hx hb dX2_cellsOf_22 rfl (lv_at hl 1 rfl) ?_
  refine hp_iald (v := r 9 i) hx hb hK hP 6 0 hp_M_9 rfl (k := i) (by omega) (by decide) rfl dX2_cellsOf_23 ?_
  refine lv_aload_n hx hb dX2_cellsOf_24 rfl (lv_at hl 0 rfl) ?_
  refine va_get (D := (dC, dI)) (ci := 2) (v := .ref (a 7)) (C := RX2) (T := TX2) (N := 18) hx hb hts hinX2 hown hK hP 0 hp_M_o rfl 7 (by decide) hf_19 (fun _ h9 => h9) rfl dX2_cellsOf_25 ?_
  refine lv_iload_n hx hb dX2_cellsOf_28 rfl (lv_at hl 1 rfl) ?_
  refine hp_iald (v := r 7 i) hx hb hK hP 4 0 hp_M_7 rfl (k := i) (by omega) (by decide) rfl dX2_cellsOf_29 ?_
  refine lv_isub hx hb dX2_cellsOf_30 ?_
  refine vp_callSi (W.runS (As := [.int ((r 9 i) - (r 7 i))]) (rest := [.int (1 + (hp_abs ((r 8 i) - (r 6 i))))]) ⟨hx, hb, hml, hown, hts⟩ (c_X2_size l ((r 9 i) - (r 7 i))) (va_cwS 1 hts gX2_cellsOf_X2_size rfl rfl rfl (by decide +kernel) ⟨(Nat.le_of_ble_eq_true rfl), (Nat.le_of_ble_eq_true rfl)⟩) ⟨hp_nfb, fun _ _ _ => ⟨rfl, trivial⟩⟩ rfl rfl hl.1 rfl (lv_room (Nat.le_of_ble_eq_true rfl)) dX2_cellsOf_31 ⟨(Nat.zero_le _), (Nat.zero_le _)⟩) (fun r_2 hr_2 => ?_)
  subst hr_2
  refine lv_iadd hx hb dX2_cellsOf_34 ?_
  exact W.iret (v := (1 + (hp_abs ((r 8 i) - (r 6 i)))) + (hp_abs ((r 9 i) - (r 7 i)))) hx hb hr (fun t ht hW => ⟨_, rfl, (by rfl), ht⟩) (fun _ h => nomatch h) dX2_cellsOf_35
set_option maxHeartbeats 400000 in
set_option maxRecDepth 100000 in
theorem c_X2_partsOf (l : Launch) (dC : Nat → ClassId) (dI : Nat → Nat → Nat) (cI cZ cO cJ : ClassId) (o : Nat) (a : Nat → Nat) (v : Nat → Int32) (r : Nat → Nat → Int32) (n : Nat) (i : Nat) (x_i : Int32) (hx_i : x_i = nI i) (hi : i < 40) (hk : vp_in (r 4 i) 3) (hd : ¬ r 15 (r 4 i).toNatClampNeg = 0) : Met l yX2_partsOf wsX2_partsOf ({ frames := 2, cells := 0, slots := 0, locals := 41 }) (va_Pc [.ref o, .int x_i] (hp_pre (dC, dI) cI cZ cO cJ (hp_M cI cZ o a v r n))) (vp_Si (fun x9 => x9 = hp_par r i)) 0 0 (fun _ => False) := by
  refine Met.ofW (cc := cX2_partsOf) (maxL := 2) (ret := (some .int)) (by decide) rfl ?_
  intro p e s m args below meth c s₁ B hml hv
  obtain ⟨rfl, hP, hK⟩ := hv
  have hx := B.exec
  have hb := B.bytes
  have hr := B.returns
  have hts := atoms_spec (ws := wsX2_partsOf) B.pre
  have hown : s.vm.findClass RX2 = some m.cls := findClass_of_methodNamed B.named
  have hlocks := B.notSynchronized
  subst hx_i
  have hf_7 := hts (.fieldLink RX2 7 "WallplanModel" "kind" "[I") (by decide +kernel)
  have hf_43 := hts (.fieldLink RX2 43 "WallplanModel" "cells" "[I") (by decide +kernel)
  have hinX2 : ∀ w ∈ wsX20, w ∈ wsX2_partsOf := by decide +kernel
  have hl := lv_entry ([.ref o, .int (nI i)]) (n := 2) (Nat.le_of_ble_eq_true rfl)
  rw [lg_entry_eq]
  generalize (lg_sl ([.ref o, .int (nI i)]) ++ List.replicate (2 - (lg_sl ([.ref o, .int (nI i)])).length) Slot.unset).toArray = ls at hl ⊢
  have hl : lv_has ls 2 [(0, .ref o), (1, .int (nI i))] := hl
  refine lv_aload_n hx hb dX2_partsOf_0 rfl (lv_at hl 0 rfl) ?_
  refine lv_iload_n hx hb dX2_partsOf_1 rfl (lv_at hl 1 rfl) ?_
  refine vp_callSi (W.runV (As := [.int (nI i)]) (rest := []) ⟨hx, hb, hml, hown, hts⟩ (c_X2_cellsOf l dC dI cI cZ cO cJ o a v r n i (nI i) rfl (by omega)) (cwV 1 hts gX2_partsOf_X2_cellsOf rfl rfl rfl (by decide +kernel) ⟨(Nat.le_of_ble_eq_true rfl), (Nat.le_of_ble_eq_true rfl)⟩) ⟨hp_fb, va_recv hK hP (ci := 2) (q0 := 0) rfl hp_M_o, fun U hU hW => ⟨rfl, hp_to hP hK hU hW⟩⟩ rfl rfl hl.1 rfl (lv_room (Nat.le_of_ble_eq_true rfl)) dX2_partsOf_2 ⟨(Nat.zero_le _), (Nat.zero_le _)⟩) (fun r_1 hr_1 => ?_)
  subst hr_1
  refine lv_aload_n hx hb dX2_partsOf_5 rfl (lv_at hl 0 rfl) ?_
  refine va_get (D := (dC, dI)) (ci := 2) (v := .ref (a 15)) (C := RX2) (T := TX2) (N := 18) hx hb hts hinX2 hown hK hP 0 hp_M_o rfl 15 (by decide) hf_43 (fun _ h9 => h9) rfl dX2_partsOf_6 ?_
  refine lv_aload_n hx hb dX2_partsOf_9 rfl (lv_at hl 0 rfl) ?_
  refine va_get (D := (dC, dI)) (ci := 2) (v := .ref (a 4)) (C := RX2) (T := TX2) (N := 18) hx hb hts hinX2 hown hK hP 0 hp_M_o rfl 4 (by decide) hf_7 (fun _ h9 => h9) rfl dX2_partsOf_10 ?_
  refine lv_iload_n hx hb dX2_partsOf_13 rfl (lv_at hl 1 rfl) ?_
  refine hp_iald (v := r 4 i) hx hb hK hP 1 0 hp_M_4 rfl (k := i) (by omega) (by decide) rfl dX2_partsOf_14 ?_
  refine hp_ialdx (v := r 15 ((r 4 i).toNatClampNeg)) hx hb hK hP 12 0 hp_M_15 rfl (i := r 4 i) (by exact hk) rfl dX2_partsOf_15 ?_
  refine lv_iadd hx hb dX2_partsOf_16 ?_
  refine lv_iconst (v := 1) hx hb dX2_partsOf_17 (by decide) ?_
  refine lv_isub hx hb dX2_partsOf_18 ?_
  refine lv_aload_n hx hb dX2_partsOf_19 rfl (lv_at hl 0 rfl) ?_
  refine va_get (D := (dC, dI)) (ci := 2) (v := .ref (a 15)) (C := RX2) (T := TX2) (N := 18) hx hb hts hinX2 hown hK hP 0 hp_M_o rfl 15 (by decide) hf_43 (fun _ h9 => h9) rfl dX2_partsOf_20 ?_
  refine lv_aload_n hx hb dX2_partsOf_23 rfl (lv_at hl 0 rfl) ?_
  refine va_get (D := (dC, dI)) (ci := 2) (v := .ref (a 4)) (C := RX2) (T := TX2) (N := 18) hx hb hts hinX2 hown hK hP 0 hp_M_o rfl 4 (by decide) hf_7 (fun _ h9 => h9) rfl dX2_partsOf_24 ?_
  refine lv_iload_n hx hb dX2_partsOf_27 rfl (lv_at hl 1 rfl) ?_
  refine hp_iald (v := r 4 i) hx hb hK hP 1 0 hp_M_4 rfl (k := i) (by omega) (by decide) rfl dX2_partsOf_28 ?_
  refine hp_ialdx (v := r 15 ((r 4 i).toNatClampNeg)) hx hb hK hP 12 0 hp_M_15 rfl (i := r 4 i) (by exact hk) rfl dX2_partsOf_29 ?_
  refine lv_idiv hx hb dX2_partsOf_30 (by exact hd) ?_
  exact W.iret (v := (((hp_cel r i) + (r 15 ((r 4 i).toNatClampNeg))) - 1) / (r 15 ((r 4 i).toNatClampNeg))) hx hb hr (fun t ht hW => ⟨_, rfl, (by rfl), ht⟩) (fun _ h => nomatch h) dX2_partsOf_31
set_option maxHeartbeats 400000 in
set_option maxRecDepth 100000 in
theorem c_X2_doClash (l : Launch) (dC : Nat → ClassId) (dI : Nat → Nat → Nat) (cI cZ cO cJ : ClassId) (o : Nat) (a : Nat → Nat) (v : Nat → Int32) (r : Nat → Nat → Int32) (n : Nat) (i : Nat) (x_i : Int32) (hx_i : x_i = nI i) (j : Nat) (x_j : Int32) (hx_j : x_j = nI j) (hi : i < n) (hj : j < n) (hinv : hp_inv v r n) : Met l yX2_doClash wsX2_doClash ({ frames := 1, cells := 0, slots := 0, locals := 27 }) (va_Pc [.ref o, .int x_i, .int x_j] (hp_pre (dC, dI) cI cZ cO cJ (hp_M cI cZ o a v r n))) (vp_Si (fun x9 => x9 = hp_b (hp_cla r i j))) 0 0 (fun _ => False) := by
  refine Met.ofW (cc := cX2_doClash) (maxL := 5) (ret := (some .boolean)) (by decide) rfl ?_
  intro p e s m args below meth c s₁ B hml hv
  obtain ⟨rfl, hP, hK⟩ := hv
  have hx := B.exec
  have hb := B.bytes
  have hr := B.returns
  have hts := atoms_spec (ws := wsX2_doClash) B.pre
  have hown : s.vm.findClass RX2 = some m.cls := findClass_of_methodNamed B.named
  have hlocks := B.notSynchronized
  subst hx_i
  subst hx_j
  have hf_7 := hts (.fieldLink RX2 7 "WallplanModel" "kind" "[I") (by decide +kernel)
  have hf_13 := hts (.fieldLink RX2 13 "WallplanModel" "storey" "[I") (by decide +kernel)
  have hf_16 := hts (.fieldLink RX2 16 "WallplanModel" "fromX" "[I") (by decide +kernel)
  have hf_19 := hts (.fieldLink RX2 19 "WallplanModel" "fromY" "[I") (by decide +kernel)
  have hf_22 := hts (.fieldLink RX2 22 "WallplanModel" "toX" "[I") (by decide +kernel)
  have hf_25 := hts (.fieldLink RX2 25 "WallplanModel" "toY" "[I") (by decide +kernel)
  have hf_28 := hts (.fieldLink RX2 28 "WallplanModel" "state" "[I") (by decide +kernel)
  have hf_40 := hts (.fieldLink RX2 40 "WallplanModel" "clearance" "[I") (by decide +kernel)
  have hinX2 : ∀ w ∈ wsX20, w ∈ wsX2_doClash := by decide +kernel
  have hl := lv_entry ([.ref o, .int (nI i), .int (nI j)]) (n := 5) (Nat.le_of_ble_eq_true rfl)
  rw [lg_entry_eq]
  generalize (lg_sl ([.ref o, .int (nI i), .int (nI j)]) ++ List.replicate (5 - (lg_sl ([.ref o, .int (nI i), .int (nI j)])).length) Slot.unset).toArray = ls at hl ⊢
  have hl : lv_has ls 5 [(0, .ref o), (1, .int (nI i)), (2, .int (nI j))] := hl
  have hn := hinv.1
  refine lv_iload_n hx hb dX2_doClash_0 rfl (lv_at hl 1 rfl) ?_
  refine lv_iload_n hx hb dX2_doClash_1 rfl (lv_at hl 2 rfl) ?_
  refine lv_icmp_eq (tgt := 40) hx hb dX2_doClash_2 (by decide) (fun c_1 => ?_) (fun c_1 => ?_)
  · skip
    have c_1 := (nI_eq (a := i) (b := j) (by omega) (by omega)).mp c_1
    refine lv_iconst (v := 0) hx hb dX2_doClash_40 (by decide) ?_
    exact W.zret (ty := .boolean) (v := 0) hx hb hr rfl (fun t ht hW => ⟨_, rfl, (by simp [hp_cla, hp_cix, hp_b, c_1]), ht⟩) (fun _ h => nomatch h) dX2_doClash_41
  · skip
    have c_1 : ¬ i = j := fun h9 => c_1 ((nI_eq (a := i) (b := j) (by omega) (by omega)).mpr h9)
    refine lv_aload_n hx hb dX2_doClash_5 rfl (lv_at hl 0 rfl) ?_
    refine va_get (D := (dC, dI)) (ci := 2) (v := .ref (a 10)) (C := RX2) (T := TX2) (N := 18) hx hb hts hinX2 hown hK hP 0 hp_M_o rfl 10 (by decide) hf_28 (fun _ h9 => h9) rfl dX2_doClash_6 ?_
    refine lv_iload_n hx hb dX2_doClash_9 rfl (lv_at hl 1 rfl) ?_
    refine hp_iald (v := r 10 i) hx hb hK hP 7 0 hp_M_10 rfl (k := i) (by omega) (by decide) rfl dX2_doClash_10 ?_
    refine lv_iconst (v := 4) hx hb dX2_doClash_11 (by decide) ?_
    refine lv_icmp_eq (tgt := 40) hx hb dX2_doClash_12 (by decide) (fun c_2 => ?_) (fun c_2 => ?_)
    · skip
      refine lv_iconst (v := 0) hx hb dX2_doClash_40 (by decide) ?_
      exact W.zret (ty := .boolean) (v := 0) hx hb hr rfl (fun t ht hW => ⟨_, rfl, (by simp [hp_cla, hp_cix, hp_b, c_1, c_2]), ht⟩) (fun _ h => nomatch h) dX2_doClash_41
    · skip
      refine lv_aload_n hx hb dX2_doClash_15 rfl (lv_at hl 0 rfl) ?_
      refine va_get (D := (dC, dI)) (ci := 2) (v := .ref (a 10)) (C := RX2) (T := TX2) (N := 18) hx hb hts hinX2 hown hK hP 0 hp_M_o rfl 10 (by decide) hf_28 (fun _ h9 => h9) rfl dX2_doClash_16 ?_
      refine lv_iload_n hx hb dX2_doClash_19 rfl (lv_at hl 2 rfl) ?_
      refine hp_iald (v := r 10 j) hx hb hK hP 7 0 hp_M_10 rfl (k := j) (by omega) (by decide) rfl dX2_doClash_20 ?_
      refine lv_iconst (v := 4) hx hb dX2_doClash_21 (by decide) ?_
      refine lv_icmp_eq (tgt := 40) hx hb dX2_doClash_22 (by decide) (fun c_3 => ?_) (fun c_3 => ?_)
      · skip
        refine lv_iconst (v := 0) hx hb dX2_doClash_40 (by decide) ?_
        exact W.zret (ty := .boolean) (v := 0) hx hb hr rfl (fun t ht hW => ⟨_, rfl, (by simp [hp_cla, hp_cix, hp_b, c_1, c_2, c_3]), ht⟩) (fun _ h => nomatch h) dX2_doClash_41
      · skip
        refine lv_aload_n hx hb dX2_doClash_25 rfl (lv_at hl 0 rfl) ?_
        refine va_get (D := (dC, dI)) (ci := 2) (v := .ref (a 5)) (C := RX2) (T := TX2) (N := 18) hx hb hts hinX2 hown hK hP 0 hp_M_o rfl 5 (by decide) hf_13 (fun _ h9 => h9) rfl dX2_doClash_26 ?_
        refine lv_iload_n hx hb dX2_doClash_29 rfl (lv_at hl 1 rfl) ?_
        refine hp_iald (v := r 5 i) hx hb hK hP 2 0 hp_M_5 rfl (k := i) (by omega) (by decide) rfl dX2_doClash_30 ?_
        refine lv_aload_n hx hb dX2_doClash_31 rfl (lv_at hl 0 rfl) ?_
        refine va_get (D := (dC, dI)) (ci := 2) (v := .ref (a 5)) (C := RX2) (T := TX2) (N := 18) hx hb hts hinX2 hown hK hP 0 hp_M_o rfl 5 (by decide) hf_13 (fun _ h9 => h9) rfl dX2_doClash_32 ?_
        refine lv_iload_n hx hb dX2_doClash_35 rfl (lv_at hl 2 rfl) ?_
        refine hp_iald (v := r 5 j) hx hb hK hP 2 0 hp_M_5 rfl (k := j) (by omega) (by decide) rfl dX2_doClash_36 ?_
        refine lv_icmp_eq (tgt := 42) hx hb dX2_doClash_37 (by decide) (fun c_4 => ?_) (fun c_4 => ?_)
        · skip
          refine lv_aload_n hx hb dX2_doClash_42 rfl (lv_at hl 0 rfl) ?_
          refine va_get (D := (dC, dI)) (ci := 2) (v := .ref (a 6)) (C := RX2) (T := TX2) (N := 18) hx hb hts hinX2 hown hK hP 0 hp_M_o rfl 6 (by decide) hf_16 (fun _ h9 => h9) rfl dX2_doClash_43 ?_
          refine lv_iload_n hx hb dX2_doClash_46 rfl (lv_at hl 1 rfl) ?_
          refine hp_iald (v := r 6 i) hx hb hK hP 3 0 hp_M_6 rfl (k := i) (by omega) (by decide) rfl dX2_doClash_47 ?_
          refine lv_aload_n hx hb dX2_doClash_48 rfl (lv_at hl 0 rfl) ?_
          refine va_get (D := (dC, dI)) (ci := 2) (v := .ref (a 8)) (C := RX2) (T := TX2) (N := 18) hx hb hts hinX2 hown hK hP 0 hp_M_o rfl 8 (by decide) hf_22 (fun _ h9 => h9) rfl dX2_doClash_49 ?_
          refine lv_iload_n hx hb dX2_doClash_52 rfl (lv_at hl 1 rfl) ?_
          refine hp_iald (v := r 8 i) hx hb hK hP 5 0 hp_M_8 rfl (k := i) (by omega) (by decide) rfl dX2_doClash_53 ?_
          refine lv_aload_n hx hb dX2_doClash_54 rfl (lv_at hl 0 rfl) ?_
          refine va_get (D := (dC, dI)) (ci := 2) (v := .ref (a 6)) (C := RX2) (T := TX2) (N := 18) hx hb hts hinX2 hown hK hP 0 hp_M_o rfl 6 (by decide) hf_16 (fun _ h9 => h9) rfl dX2_doClash_55 ?_
          refine lv_iload_n hx hb dX2_doClash_58 rfl (lv_at hl 2 rfl) ?_
          refine hp_iald (v := r 6 j) hx hb hK hP 3 0 hp_M_6 rfl (k := j) (by omega) (by decide) rfl dX2_doClash_59 ?_
          refine lv_aload_n hx hb dX2_doClash_60 rfl (lv_at hl 0 rfl) ?_
          refine va_get (D := (dC, dI)) (ci := 2) (v := .ref (a 8)) (C := RX2) (T := TX2) (N := 18) hx hb hts hinX2 hown hK hP 0 hp_M_o rfl 8 (by decide) hf_22 (fun _ h9 => h9) rfl dX2_doClash_61 ?_
          refine lv_iload_n hx hb dX2_doClash_64 rfl (lv_at hl 2 rfl) ?_
          refine hp_iald (v := r 8 j) hx hb hK hP 5 0 hp_M_8 rfl (k := j) (by omega) (by decide) rfl dX2_doClash_65 ?_
          refine vp_callSi (W.runS (As := [.int (r 6 i), .int (r 8 i), .int (r 6 j), .int (r 8 j)]) (rest := []) ⟨hx, hb, hml, hown, hts⟩ (c_X2_gap l (r 6 i) (r 8 i) (r 6 j) (r 8 j)) (va_cwS 4 hts gX2_doClash_X2_gap rfl rfl rfl (by decide +kernel) ⟨(Nat.le_of_ble_eq_true rfl), (Nat.le_of_ble_eq_true rfl)⟩) ⟨hp_nfb, fun _ _ _ => ⟨rfl, trivial⟩⟩ rfl rfl hl.1 rfl (lv_room (Nat.le_of_ble_eq_true rfl)) dX2_doClash_66 ⟨(Nat.zero_le _), (Nat.zero_le _)⟩) (fun r_5 hr_5 => ?_)
          subst hr_5
          refine lv_istore_n (lv' := [(3, .int (hp_gap (r 6 i) (r 8 i) (r 6 j) (r 8 j))), (0, .ref o), (1, .int (nI i)), (2, .int (nI j))]) hx hb dX2_doClash_69 rfl hl (by decide) rfl (fun ls hl => ?_)
          refine lv_aload_n hx hb dX2_doClash_70 rfl (lv_at hl 1 rfl) ?_
          refine va_get (D := (dC, dI)) (ci := 2) (v := .ref (a 7)) (C := RX2) (T := TX2) (N := 18) hx hb hts hinX2 hown hK hP 0 hp_M_o rfl 7 (by decide) hf_19 (fun _ h9 => h9) rfl dX2_doClash_71 ?_
          refine lv_iload_n hx hb dX2_doClash_74 rfl (lv_at hl 2 rfl) ?_
          refine hp_iald (v := r 7 i) hx hb hK hP 4 0 hp_M_7 rfl (k := i) (by omega) (by decide) rfl dX2_doClash_75 ?_
          refine lv_aload_n hx hb dX2_doClash_76 rfl (lv_at hl 1 rfl) ?_
          refine va_get (D := (dC, dI)) (ci := 2) (v := .ref (a 9)) (C := RX2) (T := TX2) (N := 18) hx hb hts hinX2 hown hK hP 0 hp_M_o rfl 9 (by decide) hf_25 (fun _ h9 => h9) rfl dX2_doClash_77 ?_
          refine lv_iload_n hx hb dX2_doClash_80 rfl (lv_at hl 2 rfl) ?_
          refine hp_iald (v := r 9 i) hx hb hK hP 6 0 hp_M_9 rfl (k := i) (by omega) (by decide) rfl dX2_doClash_81 ?_
          refine lv_aload_n hx hb dX2_doClash_82 rfl (lv_at hl 1 rfl) ?_
          refine va_get (D := (dC, dI)) (ci := 2) (v := .ref (a 7)) (C := RX2) (T := TX2) (N := 18) hx hb hts hinX2 hown hK hP 0 hp_M_o rfl 7 (by decide) hf_19 (fun _ h9 => h9) rfl dX2_doClash_83 ?_
          refine lv_iload_n hx hb dX2_doClash_86 rfl (lv_at hl 3 rfl) ?_
          refine hp_iald (v := r 7 j) hx hb hK hP 4 0 hp_M_7 rfl (k := j) (by omega) (by decide) rfl dX2_doClash_87 ?_
          refine lv_aload_n hx hb dX2_doClash_88 rfl (lv_at hl 1 rfl) ?_
          refine va_get (D := (dC, dI)) (ci := 2) (v := .ref (a 9)) (C := RX2) (T := TX2) (N := 18) hx hb hts hinX2 hown hK hP 0 hp_M_o rfl 9 (by decide) hf_25 (fun _ h9 => h9) rfl dX2_doClash_89 ?_
          refine lv_iload_n hx hb dX2_doClash_92 rfl (lv_at hl 3 rfl) ?_
          refine hp_iald (v := r 9 j) hx hb hK hP 6 0 hp_M_9 rfl (k := j) (by omega) (by decide) rfl dX2_doClash_93 ?_
          refine vp_callSi (W.runS (As := [.int (r 7 i), .int (r 9 i), .int (r 7 j), .int (r 9 j)]) (rest := []) ⟨hx, hb, hml, hown, hts⟩ (c_X2_gap l (r 7 i) (r 9 i) (r 7 j) (r 9 j)) (va_cwS 4 hts gX2_doClash_X2_gap rfl rfl rfl (by decide +kernel) ⟨(Nat.le_of_ble_eq_true rfl), (Nat.le_of_ble_eq_true rfl)⟩) ⟨hp_nfb, fun _ _ _ => ⟨rfl, trivial⟩⟩ rfl rfl hl.1 rfl (lv_room (Nat.le_of_ble_eq_true rfl)) dX2_doClash_94 ⟨(Nat.zero_le _), (Nat.zero_le _)⟩) (fun r_6 hr_6 => ?_)
          subst hr_6
          refine lv_istore (lv' := [(4, .int (hp_gap (r 7 i) (r 9 i) (r 7 j) (r 9 j))), (3, .int (hp_gap (r 6 i) (r 8 i) (r 6 j) (r 8 j))), (0, .ref o), (1, .int (nI i)), (2, .int (nI j))]) hx hb dX2_doClash_97 hl (by decide) rfl (fun ls hl => ?_)
          refine hp_join 111 5 (fun x7 : Int32 => x7 = hp_max (hp_gap (r 6 i) (r 8 i) (r 6 j) (r 8 j)) (hp_gap (r 7 i) (r 9 i) (r 7 j) (r 9 j))) (fun x7 => [(4, .int (hp_gap (r 7 i) (r 9 i) (r 7 j) (r 9 j))), (3, .int (hp_gap (r 6 i) (r 8 i) (r 6 j) (r 8 j))), (0, .ref o), (1, .int (nI i)), (2, .int (nI j))]) (fun x7 => [.int x7]) (fun x7 hx_8 ls hl => ?_) (fun jn_8 => ?_)
          · skip
            subst hx_8
            refine lv_aload_n hx hb dX2_doClash_111 rfl (lv_at hl 2 rfl) ?_
            refine va_get (D := (dC, dI)) (ci := 2) (v := .ref (a 14)) (C := RX2) (T := TX2) (N := 18) hx hb hts hinX2 hown hK hP 0 hp_M_o rfl 14 (by decide) hf_40 (fun _ h9 => h9) rfl dX2_doClash_112 ?_
            refine lv_iconst (v := 3) hx hb dX2_doClash_115 (by decide) ?_
            refine lv_aload_n hx hb dX2_doClash_116 rfl (lv_at hl 2 rfl) ?_
            refine va_get (D := (dC, dI)) (ci := 2) (v := .ref (a 4)) (C := RX2) (T := TX2) (N := 18) hx hb hts hinX2 hown hK hP 0 hp_M_o rfl 4 (by decide) hf_7 (fun _ h9 => h9) rfl dX2_doClash_117 ?_
            refine lv_iload_n hx hb dX2_doClash_120 rfl (lv_at hl 3 rfl) ?_
            refine hp_iald (v := r 4 i) hx hb hK hP 1 0 hp_M_4 rfl (k := i) (by omega) (by decide) rfl dX2_doClash_121 ?_
            refine lv_imul hx hb dX2_doClash_122 ?_
            refine lv_aload_n hx hb dX2_doClash_123 rfl (lv_at hl 2 rfl) ?_
            refine va_get (D := (dC, dI)) (ci := 2) (v := .ref (a 4)) (C := RX2) (T := TX2) (N := 18) hx hb hts hinX2 hown hK hP 0 hp_M_o rfl 4 (by decide) hf_7 (fun _ h9 => h9) rfl dX2_doClash_124 ?_
            refine lv_iload_n hx hb dX2_doClash_127 rfl (lv_at hl 4 rfl) ?_
            refine hp_iald (v := r 4 j) hx hb hK hP 1 0 hp_M_4 rfl (k := j) (by omega) (by decide) rfl dX2_doClash_128 ?_
            refine lv_iadd hx hb dX2_doClash_129 ?_
            refine hp_ialdx (v := r 14 (((3 * (r 4 i)) + (r 4 j)).toNatClampNeg)) hx hb hK hP 11 0 hp_M_14 rfl (i := (3 * (r 4 i)) + (r 4 j)) (by exact hp_cix_in (hinv.2.1 i hi) (hinv.2.1 j hj)) rfl dX2_doClash_130 ?_
            refine lv_icmp_ge (tgt := 138) hx hb dX2_doClash_131 (by decide) (fun c_9 => ?_) (fun c_9 => ?_)
            · skip
              have c_9n := hp_len c_9
              refine lv_iconst (v := 0) hx hb dX2_doClash_138 (by decide) ?_
              exact W.zret (ty := .boolean) (v := 0) hx hb hr rfl (fun t ht hW => ⟨_, rfl, (by simp [hp_cla, hp_cix, hp_b, c_1, c_2, c_3, c_4, c_9, c_9n]), ht⟩) (fun _ h => nomatch h) dX2_doClash_139
            · skip
              have c_9p := hp_nle c_9
              refine lv_iconst (v := 1) hx hb dX2_doClash_134 (by decide) ?_
              refine lv_goto (tgt := 139) hx hb dX2_doClash_135 (by decide) ?_
              exact W.zret (ty := .boolean) (v := 1) hx hb hr rfl (fun t ht hW => ⟨_, rfl, (by simp [hp_cla, hp_cix, hp_b, c_1, c_2, c_3, c_4, c_9, c_9p]), ht⟩) (fun _ h => nomatch h) dX2_doClash_139
          · skip
            refine lv_iload_n hx hb dX2_doClash_99 rfl (lv_at hl 1 rfl) ?_
            refine lv_iload hx hb dX2_doClash_100 (lv_at hl 0 rfl) ?_
            refine lv_icmp_le (tgt := 109) hx hb dX2_doClash_102 (by decide) (fun c_10 => ?_) (fun c_10 => ?_)
            · skip
              have c_10n := hp_len c_10
              refine lv_iload hx hb dX2_doClash_109 (lv_at hl 0 rfl) ?_
              exact jn_8 (hp_gap (r 7 i) (r 9 i) (r 7 j) (r 9 j)) (by simp [hp_max, c_1, c_2, c_3, c_4, c_10, c_10n]) _ (lv_sub hl [0, 1, 2, 3, 4] rfl)
            · skip
              have c_10p := hp_nle c_10
              refine lv_iload_n hx hb dX2_doClash_105 rfl (lv_at hl 1 rfl) ?_
              refine lv_goto (tgt := 111) hx hb dX2_doClash_106 (by decide) ?_
              exact jn_8 (hp_gap (r 6 i) (r 8 i) (r 6 j) (r 8 j)) (by simp [hp_max, c_1, c_2, c_3, c_4, c_10, c_10p]) _ (lv_sub hl [0, 1, 2, 3, 4] rfl)
        · skip
          refine lv_iconst (v := 0) hx hb dX2_doClash_40 (by decide) ?_
          exact W.zret (ty := .boolean) (v := 0) hx hb hr rfl (fun t ht hW => ⟨_, rfl, (by simp [hp_cla, hp_cix, hp_b, c_1, c_2, c_3, c_4]), ht⟩) (fun _ h => nomatch h) dX2_doClash_41
set_option maxHeartbeats 400000 in
set_option maxRecDepth 100000 in
theorem c_X2_hasClash (l : Launch) (dC : Nat → ClassId) (dI : Nat → Nat → Nat) (cI cZ cO cJ : ClassId) (o : Nat) (a : Nat → Nat) (v : Nat → Int32) (r : Nat → Nat → Int32) (n : Nat) (i : Nat) (x_i : Int32) (hx_i : x_i = nI i) (hi : i < n) (hinv : hp_inv v r n) : Met l yX2_hasClash wsX2_hasClash ({ frames := 2, cells := 0, slots := 0, locals := 51 }) (va_Pc [.ref o, .int x_i] (hp_pre (dC, dI) cI cZ cO cJ (hp_M cI cZ o a v r n))) (vp_Si (fun x9 => x9 = hp_b (hp_has r n i))) 0 0 (fun _ => False) := by
  refine Met.ofW (cc := cX2_hasClash) (maxL := 4) (ret := (some .boolean)) (by decide) rfl ?_
  intro p e s m args below meth c s₁ B hml hv
  obtain ⟨rfl, hP, hK⟩ := hv
  have hx := B.exec
  have hb := B.bytes
  have hr := B.returns
  have hts := atoms_spec (ws := wsX2_hasClash) B.pre
  have hown : s.vm.findClass RX2 = some m.cls := findClass_of_methodNamed B.named
  have hlocks := B.notSynchronized
  subst hx_i
  have hf_61 := hts (.fieldLink RX2 61 "WallplanModel" "elements" "I") (by decide +kernel)
  have hinX2 : ∀ w ∈ wsX20, w ∈ wsX2_hasClash := by decide +kernel
  have hl := lv_entry ([.ref o, .int (nI i)]) (n := 4) (Nat.le_of_ble_eq_true rfl)
  rw [lg_entry_eq]
  generalize (lg_sl ([.ref o, .int (nI i)]) ++ List.replicate (4 - (lg_sl ([.ref o, .int (nI i)])).length) Slot.unset).toArray = ls at hl ⊢
  have hl : lv_has ls 4 [(0, .ref o), (1, .int (nI i))] := hl
  have hn := hinv.1
  refine lv_iconst (v := 0) hx hb dX2_hasClash_0 (by decide) ?_
  refine lv_istore_n (lv' := [(2, .int 0), (0, .ref o), (1, .int (nI i))]) hx hb dX2_hasClash_1 rfl hl (by decide) rfl (fun ls hl => ?_)
  refine lv_iconst (v := 0) hx hb dX2_hasClash_2 (by decide) ?_
  refine lv_istore_n (lv' := [(3, .int 0), (2, .int 0), (0, .ref o), (1, .int (nI i))]) hx hb dX2_hasClash_3 rfl hl (by decide) rfl (fun ls hl => ?_)
  refine hp_loop (fun k => [(2, .int (hp_b (hp_any (fun j => hp_cla r i j) (k)))), (3, .int (nI k)), (0, .ref o), (1, .int (nI i))]) n (fun k hk_1 ih_1 ls hl => ?_) (lv_sub hl [1, 0, 2, 3] rfl)
  refine lv_iload_n hx hb dX2_hasClash_4 rfl (lv_at hl 1 rfl) ?_
  refine lv_aload_n hx hb dX2_hasClash_5 rfl (lv_at hl 2 rfl) ?_
  refine va_get (D := (dC, dI)) (ci := 2) (v := .int (nI n)) (C := RX2) (T := TX2) (N := 18) hx hb hts hinX2 hown hK hP 0 hp_M_o rfl 3 (by decide) hf_61 (fun _ h9 => h9) rfl dX2_hasClash_6 ?_
  refine lv_icmp_ge (tgt := 37) hx hb dX2_hasClash_9 (by decide) (fun c_2 => ?_) (fun c_2 => ?_)
  · skip
    have c_2n := hp_len c_2
    have ek : k = n := Nat.le_antisymm (by omega) ((nI_leI (by omega) (by omega)).mp c_2)
    refine lv_iload_n hx hb dX2_hasClash_37 rfl (lv_at hl 0 rfl) ?_
    exact W.zret (ty := .boolean) (v := hp_b (hp_any (fun j => hp_cla r i j) (k))) hx hb hr (hp_nar _) (fun t ht hW => ⟨_, rfl, (by exact congrArg (fun z => hp_b (hp_any (fun j => hp_cla r i j) z)) ek), ht⟩) (fun _ h => nomatch h) dX2_hasClash_38
  · skip
    have c_2p := hp_nle c_2
    have hkn : k < n := Nat.lt_of_not_le (fun h => c_2 (nI_le h (by omega)))
    refine hp_join 30 4 (fun x3 : Int32 => x3 = hp_b (hp_any (fun j => hp_cla r i j) (k + 1))) (fun x3 => [(2, .int (hp_b (hp_any (fun j => hp_cla r i j) (k)))), (3, .int (nI k)), (0, .ref o), (1, .int (nI i))]) (fun x3 => [.int x3]) (fun x3 hx_4 ls hl => ?_) (fun jn_4 => ?_)
    · skip
      subst hx_4
      refine lv_istore_n (lv' := [(2, .int (hp_b (hp_any (fun j => hp_cla r i j) (k + 1)))), (3, .int (nI k)), (0, .ref o), (1, .int (nI i))]) hx hb dX2_hasClash_30 rfl hl (by decide) rfl (fun ls hl => ?_)
      refine lv_iinc (v := nI (k + 1)) (lv' := [(3, .int (nI (k + 1))), (2, .int (hp_b (hp_any (fun j => hp_cla r i j) (k + 1)))), (0, .ref o), (1, .int (nI i))]) hx hb dX2_hasClash_31 hl (k := 1) rfl (nI_1 _) (by decide) rfl (fun ls hl => ?_)
      refine lv_goto (tgt := 4) hx hb dX2_hasClash_34 (by decide) ?_
      exact ih_1 hkn _ (lv_sub hl [1, 0, 2, 3] rfl)
    · skip
      refine lv_iload_n hx hb dX2_hasClash_12 rfl (lv_at hl 0 rfl) ?_
      refine lv_if_ne (tgt := 25) hx hb dX2_hasClash_13 (by decide) (fun c_5 => ?_) (fun c_5 => ?_)
      · skip
        have c_5 := hp_bn c_5
        refine lv_iconst (v := 1) hx hb dX2_hasClash_25 (by decide) ?_
        refine lv_goto (tgt := 30) hx hb dX2_hasClash_26 (by decide) ?_
        exact jn_4 1 (by simp [hp_any, hp_b, c_2, c_2p, c_5]) _ (lv_sub hl [0, 1, 2, 3] rfl)
      · skip
        have c_5 := hp_bz c_5
        refine lv_aload_n hx hb dX2_hasClash_16 rfl (lv_at hl 2 rfl) ?_
        refine lv_iload_n hx hb dX2_hasClash_17 rfl (lv_at hl 3 rfl) ?_
        refine lv_iload_n hx hb dX2_hasClash_18 rfl (lv_at hl 1 rfl) ?_
        refine vp_callSi (W.runV (As := [.int (nI i), .int (nI k)]) (rest := []) ⟨hx, hb, hml, hown, hts⟩ (c_X2_doClash l dC dI cI cZ cO cJ o a v r n i (nI i) rfl k (nI k) rfl (by omega) (by omega) hinv) (cwV 2 hts gX2_hasClash_X2_doClash rfl rfl rfl (by decide +kernel) ⟨(Nat.le_of_ble_eq_true rfl), (Nat.le_of_ble_eq_true rfl)⟩) ⟨hp_fb, va_recv hK hP (ci := 2) (q0 := 0) rfl hp_M_o, fun U hU hW => ⟨rfl, hp_to hP hK hU hW⟩⟩ rfl rfl hl.1 rfl (lv_room (Nat.le_of_ble_eq_true rfl)) dX2_hasClash_19 ⟨(Nat.zero_le _), (Nat.zero_le _)⟩) (fun r_6 hr_6 => ?_)
        subst hr_6
        refine lv_if_eq (tgt := 29) hx hb dX2_hasClash_22 (by decide) (fun c_7 => ?_) (fun c_7 => ?_)
        · skip
          have c_7 := hp_bz c_7
          refine lv_iconst (v := 0) hx hb dX2_hasClash_29 (by decide) ?_
          exact jn_4 0 (by simp [hp_any, hp_b, c_2, c_2p, c_5, c_7]) _ (lv_sub hl [0, 1, 2, 3] rfl)
        · skip
          have c_7 := hp_bn c_7
          refine lv_iconst (v := 1) hx hb dX2_hasClash_25 (by decide) ?_
          refine lv_goto (tgt := 30) hx hb dX2_hasClash_26 (by decide) ?_
          exact jn_4 1 (by simp [hp_any, hp_b, c_2, c_2p, c_5, c_7]) _ (lv_sub hl [0, 1, 2, 3] rfl)
set_option maxHeartbeats 400000 in
set_option maxRecDepth 100000 in
theorem c_X2_partsFrom (l : Launch) (dC : Nat → ClassId) (dI : Nat → Nat → Nat) (cI cZ cO cJ : ClassId) (o : Nat) (a : Nat → Nat) (v : Nat → Int32) (r : Nat → Nat → Int32) (n : Nat)  (p0 p1 : Int32) (hinv : hp_inv v r n) : Met l yX2_partsFrom wsX2_partsFrom ({ frames := 3, cells := 0, slots := 0, locals := 62 }) (va_Pc [.ref o, .int p0, .int p1] (hp_pre (dC, dI) cI cZ cO cJ (hp_M cI cZ o a v r n))) (vp_Si (fun x9 => x9 = hp_lst r n p0 p1)) 0 0 (fun _ => False) := by
  refine Met.ofW (cc := cX2_partsFrom) (maxL := 5) (ret := (some .int)) (by decide) rfl ?_
  intro p e s m args below meth c s₁ B hml hv
  obtain ⟨rfl, hP, hK⟩ := hv
  have hx := B.exec
  have hb := B.bytes
  have hr := B.returns
  have hts := atoms_spec (ws := wsX2_partsFrom) B.pre
  have hown : s.vm.findClass RX2 = some m.cls := findClass_of_methodNamed B.named
  have hlocks := B.notSynchronized
  have hf_7 := hts (.fieldLink RX2 7 "WallplanModel" "kind" "[I") (by decide +kernel)
  have hf_28 := hts (.fieldLink RX2 28 "WallplanModel" "state" "[I") (by decide +kernel)
  have hf_61 := hts (.fieldLink RX2 61 "WallplanModel" "elements" "I") (by decide +kernel)
  have hinX2 : ∀ w ∈ wsX20, w ∈ wsX2_partsFrom := by decide +kernel
  have hl := lv_entry ([.ref o, .int p0, .int p1]) (n := 5) (Nat.le_of_ble_eq_true rfl)
  rw [lg_entry_eq]
  generalize (lg_sl ([.ref o, .int p0, .int p1]) ++ List.replicate (5 - (lg_sl ([.ref o, .int p0, .int p1])).length) Slot.unset).toArray = ls at hl ⊢
  have hl : lv_has ls 5 [(0, .ref o), (1, .int p0), (2, .int p1)] := hl
  have hn := hinv.1
  refine lv_iconst (v := 0) hx hb dX2_partsFrom_0 (by decide) ?_
  refine lv_istore_n (lv' := [(3, .int 0), (0, .ref o), (1, .int p0), (2, .int p1)]) hx hb dX2_partsFrom_1 rfl hl (by decide) rfl (fun ls hl => ?_)
  refine lv_iconst (v := 0) hx hb dX2_partsFrom_2 (by decide) ?_
  refine lv_istore (lv' := [(4, .int 0), (3, .int 0), (0, .ref o), (1, .int p0), (2, .int p1)]) hx hb dX2_partsFrom_3 hl (by decide) rfl (fun ls hl => ?_)
  refine hp_loop (fun k => [(3, .int (hp_sum (fun i => if (r 4 i == p0) && hp_in (r 10 i) p1 3 then hp_par r i else 0) (k))), (4, .int (nI k)), (0, .ref o), (1, .int p0), (2, .int p1)]) n (fun k hk_1 ih_1 ls hl => ?_) (lv_sub hl [1, 0, 2, 3, 4] rfl)
  refine lv_iload hx hb dX2_partsFrom_5 (lv_at hl 1 rfl) ?_
  refine lv_aload_n hx hb dX2_partsFrom_7 rfl (lv_at hl 2 rfl) ?_
  refine va_get (D := (dC, dI)) (ci := 2) (v := .int (nI n)) (C := RX2) (T := TX2) (N := 18) hx hb hts hinX2 hown hK hP 0 hp_M_o rfl 3 (by decide) hf_61 (fun _ h9 => h9) rfl dX2_partsFrom_8 ?_
  refine lv_icmp_ge (tgt := 59) hx hb dX2_partsFrom_11 (by decide) (fun c_2 => ?_) (fun c_2 => ?_)
  · skip
    have c_2n := hp_len c_2
    have ek : k = n := Nat.le_antisymm (by omega) ((nI_leI (by omega) (by omega)).mp c_2)
    refine lv_iload_n hx hb dX2_partsFrom_59 rfl (lv_at hl 0 rfl) ?_
    exact W.iret (v := hp_sum (fun i => if (r 4 i == p0) && hp_in (r 10 i) p1 3 then hp_par r i else 0) (k)) hx hb hr (fun t ht hW => ⟨_, rfl, (by exact congrArg (fun z => hp_sum (fun i => if (r 4 i == p0) && hp_in (r 10 i) p1 3 then hp_par r i else 0) z) ek), ht⟩) (fun _ h => nomatch h) dX2_partsFrom_60
  · skip
    have c_2p := hp_nle c_2
    have hkn : k < n := Nat.lt_of_not_le (fun h => c_2 (nI_le h (by omega)))
    refine lv_iload_n hx hb dX2_partsFrom_14 rfl (lv_at hl 0 rfl) ?_
    refine hp_join 51 5 (fun x3 : Int32 => x3 = (if (r 4 k == p0) && hp_in (r 10 k) p1 3 then hp_par r k else 0)) (fun x3 => [(3, .int (hp_sum (fun i => if (r 4 i == p0) && hp_in (r 10 i) p1 3 then hp_par r i else 0) (k))), (4, .int (nI k)), (0, .ref o), (1, .int p0), (2, .int p1)]) (fun x3 => [.int x3, .int (hp_sum (fun i => if (r 4 i == p0) && hp_in (r 10 i) p1 3 then hp_par r i else 0) (k))]) (fun x3 hx_4 ls hl => ?_) (fun jn_4 => ?_)
    · skip
      subst hx_4
      refine lv_iadd hx hb dX2_partsFrom_51 ?_
      refine lv_istore_n (lv' := [(3, .int ((hp_sum (fun i => if (r 4 i == p0) && hp_in (r 10 i) p1 3 then hp_par r i else 0) (k)) + (if (r 4 k == p0) && hp_in (r 10 k) p1 3 then hp_par r k else 0))), (4, .int (nI k)), (0, .ref o), (1, .int p0), (2, .int p1)]) hx hb dX2_partsFrom_52 rfl hl (by decide) rfl (fun ls hl => ?_)
      refine lv_iinc (v := nI (k + 1)) (lv' := [(4, .int (nI (k + 1))), (3, .int ((hp_sum (fun i => if (r 4 i == p0) && hp_in (r 10 i) p1 3 then hp_par r i else 0) (k)) + (if (r 4 k == p0) && hp_in (r 10 k) p1 3 then hp_par r k else 0))), (0, .ref o), (1, .int p0), (2, .int p1)]) hx hb dX2_partsFrom_53 hl (k := 1) rfl (nI_1 _) (by decide) rfl (fun ls hl => ?_)
      refine lv_goto (tgt := 5) hx hb dX2_partsFrom_56 (by decide) ?_
      exact ih_1 hkn _ (lv_sub hl [1, 0, 2, 3, 4] rfl)
    · skip
      refine lv_aload_n hx hb dX2_partsFrom_15 rfl (lv_at hl 2 rfl) ?_
      refine va_get (D := (dC, dI)) (ci := 2) (v := .ref (a 4)) (C := RX2) (T := TX2) (N := 18) hx hb hts hinX2 hown hK hP 0 hp_M_o rfl 4 (by decide) hf_7 (fun _ h9 => h9) rfl dX2_partsFrom_16 ?_
      refine lv_iload hx hb dX2_partsFrom_19 (lv_at hl 1 rfl) ?_
      refine hp_iald (v := r 4 k) hx hb hK hP 1 0 hp_M_4 rfl (k := k) (by omega) (by decide) rfl dX2_partsFrom_21 ?_
      refine lv_iload_n hx hb dX2_partsFrom_22 rfl (lv_at hl 3 rfl) ?_
      refine lv_icmp_ne (tgt := 50) hx hb dX2_partsFrom_23 (by decide) (fun c_5 => ?_) (fun c_5 => ?_)
      · skip
        refine lv_iconst (v := 0) hx hb dX2_partsFrom_50 (by decide) ?_
        exact jn_4 0 (by simp [c_2, c_2p, c_5]) _ (lv_sub hl [0, 1, 2, 3, 4] rfl)
      · skip
        refine lv_aload_n hx hb dX2_partsFrom_26 rfl (lv_at hl 2 rfl) ?_
        refine va_get (D := (dC, dI)) (ci := 2) (v := .ref (a 10)) (C := RX2) (T := TX2) (N := 18) hx hb hts hinX2 hown hK hP 0 hp_M_o rfl 10 (by decide) hf_28 (fun _ h9 => h9) rfl dX2_partsFrom_27 ?_
        refine lv_iload hx hb dX2_partsFrom_30 (lv_at hl 1 rfl) ?_
        refine hp_iald (v := r 10 k) hx hb hK hP 7 0 hp_M_10 rfl (k := k) (by omega) (by decide) rfl dX2_partsFrom_32 ?_
        refine lv_iload_n hx hb dX2_partsFrom_33 rfl (lv_at hl 4 rfl) ?_
        refine lv_iconst (v := 3) hx hb dX2_partsFrom_34 (by decide) ?_
        refine vp_callSi (W.runS (As := [.int (r 10 k), .int p1, .int 3]) (rest := [.int (hp_sum (fun i => if (r 4 i == p0) && hp_in (r 10 i) p1 3 then hp_par r i else 0) (k))]) ⟨hx, hb, hml, hown, hts⟩ (c_X2_in l (r 10 k) p1 3) (va_cwS 3 hts gX2_partsFrom_X2_in rfl rfl rfl (by decide +kernel) ⟨(Nat.le_of_ble_eq_true rfl), (Nat.le_of_ble_eq_true rfl)⟩) ⟨hp_nfb, fun _ _ _ => ⟨rfl, trivial⟩⟩ rfl rfl hl.1 rfl (lv_room (Nat.le_of_ble_eq_true rfl)) dX2_partsFrom_35 ⟨(Nat.zero_le _), (Nat.zero_le _)⟩) (fun r_6 hr_6 => ?_)
        subst hr_6
        refine lv_if_eq (tgt := 50) hx hb dX2_partsFrom_38 (by decide) (fun c_7 => ?_) (fun c_7 => ?_)
        · skip
          have c_7 := hp_bz c_7
          refine lv_iconst (v := 0) hx hb dX2_partsFrom_50 (by decide) ?_
          exact jn_4 0 (by simp [c_2, c_2p, c_5, c_7]) _ (lv_sub hl [0, 1, 2, 3, 4] rfl)
        · skip
          have c_7 := hp_bn c_7
          refine lv_aload_n hx hb dX2_partsFrom_41 rfl (lv_at hl 2 rfl) ?_
          refine lv_iload hx hb dX2_partsFrom_42 (lv_at hl 1 rfl) ?_
          refine vp_callSi (W.runV (As := [.int (nI k)]) (rest := [.int (hp_sum (fun i => if (r 4 i == p0) && hp_in (r 10 i) p1 3 then hp_par r i else 0) (k))]) ⟨hx, hb, hml, hown, hts⟩ (c_X2_partsOf l dC dI cI cZ cO cJ o a v r n k (nI k) rfl (by have := hkn; omega) (hp_kd_in (r := r) (hinv.2.1 _ hkn)) (hp_pc_ne (r := r) hinv hkn)) (cwV 1 hts gX2_partsFrom_X2_partsOf rfl rfl rfl (by decide +kernel) ⟨(Nat.le_of_ble_eq_true rfl), (Nat.le_of_ble_eq_true rfl)⟩) ⟨hp_fb, va_recv hK hP (ci := 2) (q0 := 0) rfl hp_M_o, fun U hU hW => ⟨rfl, hp_to hP hK hU hW⟩⟩ rfl rfl hl.1 rfl (lv_room (Nat.le_of_ble_eq_true rfl)) dX2_partsFrom_44 ⟨(Nat.zero_le _), (Nat.zero_le _)⟩) (fun r_8 hr_8 => ?_)
          subst hr_8
          refine lv_goto (tgt := 51) hx hb dX2_partsFrom_47 (by decide) ?_
          exact jn_4 (hp_par r k) (by simp [c_2, c_2p, c_5, c_7]) _ (lv_sub hl [0, 1, 2, 3, 4] rfl)
