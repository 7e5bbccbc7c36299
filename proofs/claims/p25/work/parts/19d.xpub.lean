/-! the class: its public methods -/
set_option maxHeartbeats 400000 in
set_option maxRecDepth 100000 in
theorem c_X1_clashes (l : Launch) (hl0 : l.stackTraces = false) (dC : Nat → ClassId) (dI : Nat → Nat → Nat) (cI cZ cO cJ : ClassId) (o : Nat) (b ad : Nat → Nat) (v : Nat → Int32) (r : Nat → Nat → Int32) (n : Nat) (sz : Nat)  (p0 : Int32) (hinv : hp_inv v r n) : vx_Met l yX1_clashes wsX1_clashes ({ frames := 6, cells := 1, slots := 6, locals := 116 }) (va_Pc [.ref o, .int p0] (hp_prT (dC, dI) cI cZ cO cJ (hp_X cI cZ cO o b ad v r n) sz)) (va_Qi (S := Nat → Nat) (fun x9 _ => hp_c_st p0 = 0 ∧ x9 = hp_a_clashes r n p0) (fun u9 t9 => va_P (dC, dI) vwCl (hp_X cI cZ cO o b u9 v r n) t9.heap ∧ va_D (va_A (hp_X cI cZ cO o b ad v r n) sz) (hp_X cI cZ cO o b u9 v r n)) (va_A (hp_X cI cZ cO o b ad v r n) sz)) (vx_X (S := Unit) (fun _ => True) (fun E9 _ t9 => hp_xc [hp_E1] (hp_c_st p0) E9 ∧ va_P (dC, dI) vwCl (hp_X cI cZ cO o b ad v r n) t9.heap) (va_A (hp_X cI cZ cO o b ad v r n) sz)) 1 6 (va_A (hp_X cI cZ cO o b ad v r n) sz) := by
  refine vx_ofW (cc := cX1_clashes) (maxL := 4) (ret := (some .int)) (by decide) rfl ?_
  intro p e s m args below meth c s₁ B hml htab hv
  obtain ⟨rfl, hsz, hP, hK, hD0, hN, hstr, hZu, hZn⟩ := hv
  have hx := B.exec
  have hb := B.bytes
  have hr := B.returns
  have hts := atoms_spec (ws := wsX1_clashes) B.pre
  have hown : s.vm.findClass RX1 = some m.cls := findClass_of_methodNamed B.named
  have hlocks := B.notSynchronized
  subst hsz
  have hD := hD0.self (sz := s.heap.size)
  generalize hAe : va_A (hp_X cI cZ cO o b ad v r n) s.heap.size = A at hD hZu hZn ⊢
  replace hD : ∀ v r, va_D A (hp_X cI cZ cO o b ad v r n) := fun _ _ => hp_dX hD
  have hA : ∀ q : Nat, s.heap.size ≤ q → A q := fun q h => by rw [← hAe]; exact Or.inr h
  have hS : va_S A s.heap s.heap [] := va_S.rf
  have hk_1 := hts (.classLink RX1 46 hp_E1) (by decide +kernel)
  have hi_1 := hts (.initialized hp_E1) (by decide +kernel)
  have hm_E1 : ∀ w ∈ (vx_atS RX1 50 hp_E1 hp_nm).filter goodWord, w ∈ wsX1_clashes := by decide +kernel
  have hat_1 : ∀ w ∈ vx_atS RX1 50 hp_E1 hp_nm, w.before _ s = true := vx_hat (fun w h => hts w (hm_E1 w h)) hp_nb1 (hp_nB_of hN)
  have hf_15 := hts (.fieldLink RX1 15 "Wallplan" "count" "I") (by decide +kernel)
  have hinX1 : ∀ w ∈ wsX10, w ∈ wsX1_clashes := by decide +kernel
  have hl := lv_entry ([.ref o, .int p0]) (n := 4) (Nat.le_of_ble_eq_true rfl)
  rw [lg_entry_eq]
  generalize (lg_sl ([.ref o, .int p0]) ++ List.replicate (4 - (lg_sl ([.ref o, .int p0])).length) Slot.unset).toArray = ls at hl ⊢
  have hl : lv_has ls 4 [(0, .ref o), (1, .int p0)] := hl
  have hn := hinv.1
  refine lv_iload_n hx hb dX1_clashes_0 rfl (lv_at hl 1 rfl) ?_
  refine vp_callSi (W.runS (As := [.int p0]) (rest := []) ⟨hx, hb, hml, hown, hts⟩ (c_X1_isStorey l p0) (va_cwS 1 hts gX1_clashes_X1_isStorey rfl rfl rfl (by decide +kernel) ⟨(Nat.le_of_ble_eq_true rfl), (Nat.le_of_ble_eq_true rfl)⟩) ⟨hp_nfb, fun _ _ _ => ⟨rfl, trivial⟩⟩ rfl rfl hl.1 rfl (lv_room (Nat.le_of_ble_eq_true rfl)) dX1_clashes_1 ⟨(Nat.zero_le _), (Nat.zero_le _)⟩) (fun r_1 hr_1 => ?_)
  subst hr_1
  refine lv_if_ne (tgt := 17) hx hb dX1_clashes_4 (by decide) (fun c_2 => ?_) (fun c_2 => ?_)
  · skip
    have c_2 := hp_bn c_2
    refine lv_iconst (v := 0) hx hb dX1_clashes_17 (by decide) ?_
    refine lv_istore_n (lv' := [(2, .int 0), (0, .ref o), (1, .int p0)]) hx hb dX1_clashes_18 rfl hl (by decide) rfl (fun ls hl => ?_)
    refine lv_iconst (v := 0) hx hb dX1_clashes_19 (by decide) ?_
    refine lv_istore_n (lv' := [(3, .int 0), (2, .int 0), (0, .ref o), (1, .int p0)]) hx hb dX1_clashes_20 rfl hl (by decide) rfl (fun ls hl => ?_)
    refine hp_loop (fun k => [(2, .int (hp_sum (fun i => hp_prs r p0 i i) (k))), (3, .int (nI k)), (0, .ref o), (1, .int p0)]) n (fun k hk_3 ih_3 ls hl => ?_) (lv_sub hl [1, 0, 2, 3] rfl)
    refine lv_iload_n hx hb dX1_clashes_21 rfl (lv_at hl 1 rfl) ?_
    refine lv_aload_n hx hb dX1_clashes_22 rfl (lv_at hl 2 rfl) ?_
    refine va_get (D := (dC, dI)) (ci := 1) (v := .int (nI n)) (C := RX1) (T := TX1) (N := 8) hx hb hts hinX1 hown hK hP 0 hp_X_o rfl 1 (by decide) hf_15 (fun _ h9 => h9) rfl dX1_clashes_23 ?_
    refine lv_icmp_ge (tgt := 52) hx hb dX1_clashes_26 (by decide) (fun c_4 => ?_) (fun c_4 => ?_)
    · skip
      have c_4n := hp_len c_4
      have ek : k = n := Nat.le_antisymm (by omega) ((nI_leI (by omega) (by omega)).mp c_4)
      refine lv_iload_n hx hb dX1_clashes_52 rfl (lv_at hl 0 rfl) ?_
      have hc : hp_c_st p0 = 0 := (hp_cdz (by first | assumption | (simp [c_2, c_4, c_4n]; done)) (by first | assumption | (simp [c_2, c_4, c_4n]; done)) (by first | assumption | (simp [c_2, c_4, c_4n]; done))).symm
      have hP9 : va_P (dC, dI) vwCl (hp_X cI cZ cO o b ad v r n) s.heap := by exact hP
      refine W.widen (k := 1) (n := 6) (Nat.le_of_ble_eq_true rfl) (Nat.le_of_ble_eq_true rfl) ?_
      exact vx_ret (W.iret (v := hp_sum (fun i => hp_prs r p0 i i) (k)) hx hb hr (fun t ht hW => ⟨⟨hp_sum (fun i => hp_prs r p0 i i) (k), ad, rfl, ⟨hc, (by rw [hp_a_clashes, if_pos hc, ek])⟩, hp_ht ht hP9, hD _ _⟩, hS.F ht⟩) hS.2.2 dX1_clashes_53)
    · skip
      have c_4p := hp_nle c_4
      have hkn : k < n := Nat.lt_of_not_le (fun h => c_4 (nI_le h (by omega)))
      refine lv_aload_n hx hb dX1_clashes_29 rfl (lv_at hl 2 rfl) ?_
      refine lv_iload_n hx hb dX1_clashes_30 rfl (lv_at hl 1 rfl) ?_
      refine lv_iload_n hx hb dX1_clashes_31 rfl (lv_at hl 3 rfl) ?_
      refine vp_callSi (W.runV (As := [.int (nI k), .int p0]) (rest := []) ⟨hx, hb, hml, hown, hts⟩ (c_X1_isOnStorey l dC dI cI cZ cO cJ o b ad v r n k (nI k) rfl p0 hn (by omega)) (cwV 2 hts gX1_clashes_X1_isOnStorey rfl rfl rfl (by decide +kernel) ⟨(Nat.le_of_ble_eq_true rfl), (Nat.le_of_ble_eq_true rfl)⟩) ⟨hp_fbX, va_recv hK hP (ci := 1) (q0 := 0) rfl hp_X_o, fun U hU hW => ⟨rfl, hp_toX hP hK hN hU hW⟩⟩ rfl rfl hl.1 rfl (lv_room (Nat.le_of_ble_eq_true rfl)) dX1_clashes_32 ⟨(Nat.zero_le _), (Nat.zero_le _)⟩) (fun r_5 hr_5 => ?_)
      subst hr_5
      refine lv_if_eq (tgt := 46) hx hb dX1_clashes_35 (by decide) (fun c_6 => ?_) (fun c_6 => ?_)
      · skip
        have c_6 := hp_bz c_6
        have hon := c_6
        refine lv_iinc (v := nI (k + 1)) (lv' := [(3, .int (nI (k + 1))), (2, .int (hp_sum (fun i => hp_prs r p0 i i) (k))), (0, .ref o), (1, .int p0)]) hx hb dX1_clashes_46 hl (k := 1) rfl (nI_1 _) (by decide) rfl (fun ls hl => ?_)
        refine lv_goto (tgt := 21) hx hb dX1_clashes_49 (by decide) ?_
        have e_7 : hp_sum (fun i => hp_prs r p0 i i) (k) = hp_sum (fun i => hp_prs r p0 i i) (k + 1) := by first | exact (hp_clf hon).symm | exact (hp_clt hon).symm
        exact ih_3 hkn _ (by have h9 := lv_sub (l' := [(2, .int (hp_sum (fun i => hp_prs r p0 i i) (k))), (3, .int (nI (k + 1))), (0, .ref o), (1, .int p0)]) hl [1, 0, 2, 3] rfl; rw [e_7] at h9; exact h9)
      · skip
        have c_6 := hp_bn c_6
        have hon := c_6
        refine lv_iload_n hx hb dX1_clashes_38 rfl (lv_at hl 0 rfl) ?_
        refine lv_aload_n hx hb dX1_clashes_39 rfl (lv_at hl 2 rfl) ?_
        refine lv_iload_n hx hb dX1_clashes_40 rfl (lv_at hl 1 rfl) ?_
        refine vp_callSi (W.runV (As := [.int (nI k)]) (rest := [.int (hp_sum (fun i => hp_prs r p0 i i) (k))]) ⟨hx, hb, hml, hown, hts⟩ (c_X1_clashesWithEarlier l dC dI cI cZ cO cJ o b ad v r n k (nI k) rfl (by omega) hinv) (cwV 1 hts gX1_clashes_X1_clashesWithEarlier rfl rfl rfl (by decide +kernel) ⟨(Nat.le_of_ble_eq_true rfl), (Nat.le_of_ble_eq_true rfl)⟩) ⟨hp_fbX, va_recv hK hP (ci := 1) (q0 := 0) rfl hp_X_o, fun U hU hW => ⟨rfl, hp_toX hP hK hN hU hW⟩⟩ rfl rfl hl.1 rfl (lv_room (Nat.le_of_ble_eq_true rfl)) dX1_clashes_41 ⟨(Nat.zero_le _), (Nat.zero_le _)⟩) (fun r_8 hr_8 => ?_)
        subst hr_8
        refine lv_iadd hx hb dX1_clashes_44 ?_
        refine lv_istore_n (lv' := [(2, .int ((hp_sum (fun i => hp_prs r p0 i i) (k)) + (hp_sum (fun j => if hp_cla r k j = true then 1 else 0) k))), (3, .int (nI k)), (0, .ref o), (1, .int p0)]) hx hb dX1_clashes_45 rfl hl (by decide) rfl (fun ls hl => ?_)
        refine lv_iinc (v := nI (k + 1)) (lv' := [(3, .int (nI (k + 1))), (2, .int ((hp_sum (fun i => hp_prs r p0 i i) (k)) + (hp_sum (fun j => if hp_cla r k j = true then 1 else 0) k))), (0, .ref o), (1, .int p0)]) hx hb dX1_clashes_46 hl (k := 1) rfl (nI_1 _) (by decide) rfl (fun ls hl => ?_)
        refine lv_goto (tgt := 21) hx hb dX1_clashes_49 (by decide) ?_
        have e_9 : (hp_sum (fun i => hp_prs r p0 i i) (k)) + (hp_sum (fun j => if hp_cla r k j = true then 1 else 0) k) = hp_sum (fun i => hp_prs r p0 i i) (k + 1) := by first | exact (hp_clf hon).symm | exact (hp_clt hon).symm
        exact ih_3 hkn _ (by have h9 := lv_sub (l' := [(2, .int ((hp_sum (fun i => hp_prs r p0 i i) (k)) + (hp_sum (fun j => if hp_cla r k j = true then 1 else 0) k))), (3, .int (nI (k + 1))), (0, .ref o), (1, .int p0)]) hl [1, 0, 2, 3] rfl; rw [e_9] at h9; exact h9)
  · skip
    have c_2 := hp_bz c_2
    exact hp_thr (mc := 1) (ms := 6) (k := 0) (nL := 4) hx hb hl0 hml htab hlocks hown hk_1 hi_1 hstr (List.mem_of_getElem? (i := 6) rfl) hat_1 hp_gd1 (by decide +kernel) hZu hZn hP hl dX1_clashes_7 dX1_clashes_10 dX1_clashes_11 dX1_clashes_13 dX1_clashes_16 ⟨(Nat.le_of_ble_eq_true rfl), (Nat.le_of_ble_eq_true rfl), (Nat.le_of_ble_eq_true rfl), (Nat.le_of_ble_eq_true rfl)⟩ ⟨(Nat.le_of_ble_eq_true rfl), (Nat.le_of_ble_eq_true rfl)⟩ rfl ((hp_cd1 (by first | assumption | (simp [c_2]; done))).symm)
set_option maxHeartbeats 400000 in
set_option maxRecDepth 100000 in
theorem c_X1_isStopped (l : Launch) (hl0 : l.stackTraces = false) (dC : Nat → ClassId) (dI : Nat → Nat → Nat) (cI cZ cO cJ : ClassId) (o : Nat) (b ad : Nat → Nat) (v : Nat → Int32) (r : Nat → Nat → Int32) (n : Nat) (sz : Nat)  (p0 p1 : Int32) (hinv : hp_inv v r n) : vx_Met l yX1_isStopped wsX1_isStopped ({ frames := 6, cells := 1, slots := 6, locals := 115 }) (va_Pc [.ref o, .int p0, .int p1] (hp_prT (dC, dI) cI cZ cO cJ (hp_X cI cZ cO o b ad v r n) sz)) (va_Qi (S := Nat → Nat) (fun x9 _ => hp_c_stopped p0 p1 = 0 ∧ x9 = hp_b (hp_b_stopped r n p0 p1)) (fun u9 t9 => va_P (dC, dI) vwCl (hp_X cI cZ cO o b u9 v r n) t9.heap ∧ va_D (va_A (hp_X cI cZ cO o b ad v r n) sz) (hp_X cI cZ cO o b u9 v r n)) (va_A (hp_X cI cZ cO o b ad v r n) sz)) (vx_X (S := Unit) (fun _ => True) (fun E9 _ t9 => hp_xc [hp_E1] (hp_c_stopped p0 p1) E9 ∧ va_P (dC, dI) vwCl (hp_X cI cZ cO o b ad v r n) t9.heap) (va_A (hp_X cI cZ cO o b ad v r n) sz)) 1 6 (va_A (hp_X cI cZ cO o b ad v r n) sz) := by
  refine vx_ofW (cc := cX1_isStopped) (maxL := 5) (ret := (some .boolean)) (by decide) rfl ?_
  intro p e s m args below meth c s₁ B hml htab hv
  obtain ⟨rfl, hsz, hP, hK, hD0, hN, hstr, hZu, hZn⟩ := hv
  have hx := B.exec
  have hb := B.bytes
  have hr := B.returns
  have hts := atoms_spec (ws := wsX1_isStopped) B.pre
  have hown : s.vm.findClass RX1 = some m.cls := findClass_of_methodNamed B.named
  have hlocks := B.notSynchronized
  subst hsz
  have hD := hD0.self (sz := s.heap.size)
  generalize hAe : va_A (hp_X cI cZ cO o b ad v r n) s.heap.size = A at hD hZu hZn ⊢
  replace hD : ∀ v r, va_D A (hp_X cI cZ cO o b ad v r n) := fun _ _ => hp_dX hD
  have hA : ∀ q : Nat, s.heap.size ≤ q → A q := fun q h => by rw [← hAe]; exact Or.inr h
  have hS : va_S A s.heap s.heap [] := va_S.rf
  have hk_1 := hts (.classLink RX1 46 hp_E1) (by decide +kernel)
  have hi_1 := hts (.initialized hp_E1) (by decide +kernel)
  have hm_E1 : ∀ w ∈ (vx_atS RX1 50 hp_E1 hp_nm).filter goodWord, w ∈ wsX1_isStopped := by decide +kernel
  have hat_1 : ∀ w ∈ vx_atS RX1 50 hp_E1 hp_nm, w.before _ s = true := vx_hat (fun w h => hts w (hm_E1 w h)) hp_nb1 (hp_nB_of hN)
  have hf_15 := hts (.fieldLink RX1 15 "Wallplan" "count" "I") (by decide +kernel)
  have hf_122 := hts (.fieldLink RX1 122 "Wallplan$Element" "kind" "I") (by decide +kernel)
  have hf_154 := hts (.fieldLink RX1 154 "Wallplan$Element" "storey" "I") (by decide +kernel)
  have hinX0 : ∀ w ∈ wsX00, w ∈ wsX1_isStopped := by decide +kernel
  have hinX1 : ∀ w ∈ wsX10, w ∈ wsX1_isStopped := by decide +kernel
  have hl := lv_entry ([.ref o, .int p0, .int p1]) (n := 5) (Nat.le_of_ble_eq_true rfl)
  rw [lg_entry_eq]
  generalize (lg_sl ([.ref o, .int p0, .int p1]) ++ List.replicate (5 - (lg_sl ([.ref o, .int p0, .int p1])).length) Slot.unset).toArray = ls at hl ⊢
  have hl : lv_has ls 5 [(0, .ref o), (1, .int p0), (2, .int p1)] := hl
  have hn := hinv.1
  refine lv_iload_n hx hb dX1_isStopped_0 rfl (lv_at hl 1 rfl) ?_
  refine vp_callSi (W.runS (As := [.int p0]) (rest := []) ⟨hx, hb, hml, hown, hts⟩ (c_X1_isKind l p0) (va_cwS 1 hts gX1_isStopped_X1_isKind rfl rfl rfl (by decide +kernel) ⟨(Nat.le_of_ble_eq_true rfl), (Nat.le_of_ble_eq_true rfl)⟩) ⟨hp_nfb, fun _ _ _ => ⟨rfl, trivial⟩⟩ rfl rfl hl.1 rfl (lv_room (Nat.le_of_ble_eq_true rfl)) dX1_isStopped_1 ⟨(Nat.zero_le _), (Nat.zero_le _)⟩) (fun r_1 hr_1 => ?_)
  subst hr_1
  refine lv_if_eq (tgt := 14) hx hb dX1_isStopped_4 (by decide) (fun c_2 => ?_) (fun c_2 => ?_)
  · skip
    have c_2 := hp_bz c_2
    exact hp_thr (mc := 1) (ms := 6) (k := 0) (nL := 5) hx hb hl0 hml htab hlocks hown hk_1 hi_1 hstr (List.mem_of_getElem? (i := 10) rfl) hat_1 hp_gd1 (by decide +kernel) hZu hZn hP hl dX1_isStopped_14 dX1_isStopped_17 dX1_isStopped_18 dX1_isStopped_20 dX1_isStopped_23 ⟨(Nat.le_of_ble_eq_true rfl), (Nat.le_of_ble_eq_true rfl), (Nat.le_of_ble_eq_true rfl), (Nat.le_of_ble_eq_true rfl)⟩ ⟨(Nat.le_of_ble_eq_true rfl), (Nat.le_of_ble_eq_true rfl)⟩ rfl ((hp_cd1 (by first | assumption | (simp [c_2]; done))).symm)
  · skip
    have c_2 := hp_bn c_2
    refine lv_iload_n hx hb dX1_isStopped_7 rfl (lv_at hl 2 rfl) ?_
    refine vp_callSi (W.runS (As := [.int p1]) (rest := []) ⟨hx, hb, hml, hown, hts⟩ (c_X1_isStorey l p1) (va_cwS 1 hts gX1_isStopped_X1_isStorey rfl rfl rfl (by decide +kernel) ⟨(Nat.le_of_ble_eq_true rfl), (Nat.le_of_ble_eq_true rfl)⟩) ⟨hp_nfb, fun _ _ _ => ⟨rfl, trivial⟩⟩ rfl rfl hl.1 rfl (lv_room (Nat.le_of_ble_eq_true rfl)) dX1_isStopped_8 ⟨(Nat.zero_le _), (Nat.zero_le _)⟩) (fun r_3 hr_3 => ?_)
    subst hr_3
    refine lv_if_ne (tgt := 24) hx hb dX1_isStopped_11 (by decide) (fun c_4 => ?_) (fun c_4 => ?_)
    · skip
      have c_4 := hp_bn c_4
      refine lv_iconst (v := 0) hx hb dX1_isStopped_24 (by decide) ?_
      refine lv_istore_n (lv' := [(3, .int 0), (0, .ref o), (1, .int p0), (2, .int p1)]) hx hb dX1_isStopped_25 rfl hl (by decide) rfl (fun ls hl => ?_)
      refine hp_loopI (fun k => [(3, .int (nI k)), (0, .ref o), (1, .int p0), (2, .int p1)]) (fun k => hp_any (hp_stp r n p0 p1) (k) = false) n (fun k hk_5 hI_5 ih_5 ls hl => ?_) (by rfl) (lv_sub hl [0, 1, 2, 3] rfl)
      refine lv_iload_n hx hb dX1_isStopped_26 rfl (lv_at hl 0 rfl) ?_
      refine lv_aload_n hx hb dX1_isStopped_27 rfl (lv_at hl 1 rfl) ?_
      refine va_get (D := (dC, dI)) (ci := 1) (v := .int (nI n)) (C := RX1) (T := TX1) (N := 8) hx hb hts hinX1 hown hK hP 0 hp_X_o rfl 1 (by decide) hf_15 (fun _ h9 => h9) rfl dX1_isStopped_28 ?_
      refine lv_icmp_ge (tgt := 80) hx hb dX1_isStopped_31 (by decide) (fun c_6 => ?_) (fun c_6 => ?_)
      · skip
        have c_6n := hp_len c_6
        have ek : k = n := Nat.le_antisymm (by omega) ((nI_leI (by omega) (by omega)).mp c_6)
        refine lv_iconst (v := 0) hx hb dX1_isStopped_80 (by decide) ?_
        have hc : hp_c_stopped p0 p1 = 0 := (hp_cdz (by first | assumption | (simp [c_2, c_4, hI_5, c_6, c_6n]; done)) (by first | assumption | (simp [c_2, c_4, hI_5, c_6, c_6n]; done)) (by first | assumption | (simp [c_2, c_4, hI_5, c_6, c_6n]; done))).symm
        have hP9 : va_P (dC, dI) vwCl (hp_X cI cZ cO o b ad v r n) s.heap := by exact hP
        refine W.widen (k := 1) (n := 6) (Nat.le_of_ble_eq_true rfl) (Nat.le_of_ble_eq_true rfl) ?_
        exact vx_ret (W.zret (ty := .boolean) (v := 0) hx hb hr rfl (fun t ht hW => ⟨⟨0, ad, rfl, ⟨hc, (by rw [hp_b_stopped, decide_eq_true hc, Bool.true_and]; subst ek; exact hp_bf2 hI_5)⟩, hp_ht ht hP9, hD _ _⟩, hS.F ht⟩) hS.2.2 dX1_isStopped_81)
      · skip
        have c_6p := hp_nle c_6
        have hkn : k < n := Nat.lt_of_not_le (fun h => c_6 (nI_le h (by omega)))
        refine lv_aload_n hx hb dX1_isStopped_34 rfl (lv_at hl 1 rfl) ?_
        refine lv_iload_n hx hb dX1_isStopped_35 rfl (lv_at hl 0 rfl) ?_
        refine va_csq (W.runV (As := [.int (nI k)]) (rest := []) ⟨hx, hb, hml, hown, hts⟩ (c_X1_find l dC dI cI cZ cO cJ o b ad v r n k (nI k) rfl hn (by omega)) (cwV 1 hts gX1_isStopped_X1_find rfl rfl rfl (by decide +kernel) ⟨(Nat.le_of_ble_eq_true rfl), (Nat.le_of_ble_eq_true rfl)⟩) ⟨hp_fbX, va_recv hK hP (ci := 1) (q0 := 0) rfl hp_X_o, fun U hU hW => ⟨rfl, hp_toX hP hK hN hU hW⟩⟩ rfl rfl hl.1 rfl (lv_room (Nat.le_of_ble_eq_true rfl)) dX1_isStopped_36 ⟨(Nat.zero_le _), (Nat.zero_le _)⟩) (fun r_7 hr_7 => ?_)
        subst hr_7
        refine W.eq (g2 := F0 m 39 ls [.ref (ad k)]) rfl ?_
        refine lv_astore (lv' := [(4, .ref (ad k)), (3, .int (nI k)), (0, .ref o), (1, .int p0), (2, .int p1)]) hx hb dX1_isStopped_39 hl (by decide) rfl (fun ls hl => ?_)
        refine lv_aload hx hb dX1_isStopped_41 (lv_at hl 0 rfl) ?_
        refine lv_ifnull hx hb dX1_isStopped_43 ?_
        refine lv_aload hx hb dX1_isStopped_46 (lv_at hl 0 rfl) ?_
        refine va_get (D := (dC, dI)) (ci := 0) (v := .int (r 4 k)) (C := RX0) (T := TX0) (N := 10) hx hb hts hinX0 hown hK hP (6 + k) (hp_X_e (by omega)) rfl 0 (by decide) hf_122 (fun _ h9 => h9) rfl dX1_isStopped_48 ?_
        refine lv_iload_n hx hb dX1_isStopped_51 rfl (lv_at hl 3 rfl) ?_
        refine lv_icmp_ne (tgt := 74) hx hb dX1_isStopped_52 (by decide) (fun c_8 => ?_) (fun c_8 => ?_)
        · skip
          refine lv_iinc (v := nI (k + 1)) (lv' := [(3, .int (nI (k + 1))), (4, .ref (ad k)), (0, .ref o), (1, .int p0), (2, .int p1)]) hx hb dX1_isStopped_74 hl (k := 1) rfl (nI_1 _) (by decide) rfl (fun ls hl => ?_)
          refine lv_goto (tgt := 26) hx hb dX1_isStopped_77 (by decide) ?_
          exact ih_5 hkn (by simp [hp_any, hp_stp, c_2, c_4, hI_5, c_6, c_6p, c_8]) _ (lv_sub hl [0, 2, 3, 4] rfl)
        · skip
          refine lv_aload hx hb dX1_isStopped_55 (lv_at hl 0 rfl) ?_
          refine va_get (D := (dC, dI)) (ci := 0) (v := .int (r 5 k)) (C := RX0) (T := TX0) (N := 10) hx hb hts hinX0 hown hK hP (6 + k) (hp_X_e (by omega)) rfl 1 (by decide) hf_154 (fun _ h9 => h9) rfl dX1_isStopped_57 ?_
          refine lv_iload_n hx hb dX1_isStopped_60 rfl (lv_at hl 4 rfl) ?_
          refine lv_icmp_ne (tgt := 74) hx hb dX1_isStopped_61 (by decide) (fun c_9 => ?_) (fun c_9 => ?_)
          · skip
            refine lv_iinc (v := nI (k + 1)) (lv' := [(3, .int (nI (k + 1))), (4, .ref (ad k)), (0, .ref o), (1, .int p0), (2, .int p1)]) hx hb dX1_isStopped_74 hl (k := 1) rfl (nI_1 _) (by decide) rfl (fun ls hl => ?_)
            refine lv_goto (tgt := 26) hx hb dX1_isStopped_77 (by decide) ?_
            exact ih_5 hkn (by simp [hp_any, hp_stp, c_2, c_4, hI_5, c_6, c_6p, c_8, c_9]) _ (lv_sub hl [0, 2, 3, 4] rfl)
          · skip
            refine lv_aload_n hx hb dX1_isStopped_64 rfl (lv_at hl 2 rfl) ?_
            refine lv_iload_n hx hb dX1_isStopped_65 rfl (lv_at hl 1 rfl) ?_
            refine vp_callSi (W.runV (As := [.int (nI k)]) (rest := []) ⟨hx, hb, hml, hown, hts⟩ (c_X1_clashesWithAny l dC dI cI cZ cO cJ o b ad v r n k (nI k) rfl (by omega) hinv) (cwV 1 hts gX1_isStopped_X1_clashesWithAny rfl rfl rfl (by decide +kernel) ⟨(Nat.le_of_ble_eq_true rfl), (Nat.le_of_ble_eq_true rfl)⟩) ⟨hp_fbX, va_recv hK hP (ci := 1) (q0 := 0) rfl hp_X_o, fun U hU hW => ⟨rfl, hp_toX hP hK hN hU hW⟩⟩ rfl rfl hl.1 rfl (lv_room (Nat.le_of_ble_eq_true rfl)) dX1_isStopped_66 ⟨(Nat.zero_le _), (Nat.zero_le _)⟩) (fun r_10 hr_10 => ?_)
            subst hr_10
            refine lv_if_eq (tgt := 74) hx hb dX1_isStopped_69 (by decide) (fun c_11 => ?_) (fun c_11 => ?_)
            · skip
              have c_11 := hp_bz c_11
              refine lv_iinc (v := nI (k + 1)) (lv' := [(3, .int (nI (k + 1))), (4, .ref (ad k)), (0, .ref o), (1, .int p0), (2, .int p1)]) hx hb dX1_isStopped_74 hl (k := 1) rfl (nI_1 _) (by decide) rfl (fun ls hl => ?_)
              refine lv_goto (tgt := 26) hx hb dX1_isStopped_77 (by decide) ?_
              exact ih_5 hkn (by simp [hp_any, hp_stp, c_2, c_4, hI_5, c_6, c_6p, c_8, c_9, c_11]) _ (lv_sub hl [0, 2, 3, 4] rfl)
            · skip
              have c_11 := hp_bn c_11
              refine lv_iconst (v := 1) hx hb dX1_isStopped_72 (by decide) ?_
              have hc : hp_c_stopped p0 p1 = 0 := (hp_cdz (by first | assumption | (simp [c_2, c_4, hI_5, c_6, c_6p, c_8, c_9, c_11]; done)) (by first | assumption | (simp [c_2, c_4, hI_5, c_6, c_6p, c_8, c_9, c_11]; done)) (by first | assumption | (simp [c_2, c_4, hI_5, c_6, c_6p, c_8, c_9, c_11]; done))).symm
              have hP9 : va_P (dC, dI) vwCl (hp_X cI cZ cO o b ad v r n) s.heap := by exact hP
              refine W.widen (k := 1) (n := 6) (Nat.le_of_ble_eq_true rfl) (Nat.le_of_ble_eq_true rfl) ?_
              exact vx_ret (W.zret (ty := .boolean) (v := 1) hx hb hr rfl (fun t ht hW => ⟨⟨1, ad, rfl, ⟨hc, (by rw [hp_b_stopped, decide_eq_true hc, Bool.true_and]; exact hp_bt2 (hp_any_of hkn (by simp [hp_stp, c_2, c_4, hI_5, c_6, c_6p, c_8, c_9, c_11, hc])))⟩, hp_ht ht hP9, hD _ _⟩, hS.F ht⟩) hS.2.2 dX1_isStopped_73)
    · skip
      have c_4 := hp_bz c_4
      exact hp_thr (mc := 1) (ms := 6) (k := 0) (nL := 5) hx hb hl0 hml htab hlocks hown hk_1 hi_1 hstr (List.mem_of_getElem? (i := 10) rfl) hat_1 hp_gd1 (by decide +kernel) hZu hZn hP hl dX1_isStopped_14 dX1_isStopped_17 dX1_isStopped_18 dX1_isStopped_20 dX1_isStopped_23 ⟨(Nat.le_of_ble_eq_true rfl), (Nat.le_of_ble_eq_true rfl), (Nat.le_of_ble_eq_true rfl), (Nat.le_of_ble_eq_true rfl)⟩ ⟨(Nat.le_of_ble_eq_true rfl), (Nat.le_of_ble_eq_true rfl)⟩ rfl ((hp_cd1 (by first | assumption | (simp [c_2, c_4]; done))).symm)
set_option maxHeartbeats 400000 in
set_option maxRecDepth 100000 in
theorem c_X1_parts (l : Launch) (hl0 : l.stackTraces = false) (dC : Nat → ClassId) (dI : Nat → Nat → Nat) (cI cZ cO cJ : ClassId) (o : Nat) (b ad : Nat → Nat) (v : Nat → Int32) (r : Nat → Nat → Int32) (n : Nat) (sz : Nat)  (p0 : Int32) (hinv : hp_inv v r n) : vx_Met l yX1_parts wsX1_parts ({ frames := 6, cells := 1, slots := 6, locals := 90 }) (va_Pc [.ref o, .int p0] (hp_prT (dC, dI) cI cZ cO cJ (hp_X cI cZ cO o b ad v r n) sz)) (va_Qi (S := Nat → Nat) (fun x9 _ => hp_c_kd p0 = 0 ∧ x9 = hp_a_parts r n p0 0) (fun u9 t9 => va_P (dC, dI) vwCl (hp_X cI cZ cO o b u9 v r n) t9.heap ∧ va_D (va_A (hp_X cI cZ cO o b ad v r n) sz) (hp_X cI cZ cO o b u9 v r n)) (va_A (hp_X cI cZ cO o b ad v r n) sz)) (vx_X (S := Unit) (fun _ => True) (fun E9 _ t9 => hp_xc [hp_E1] (hp_c_kd p0) E9 ∧ va_P (dC, dI) vwCl (hp_X cI cZ cO o b ad v r n) t9.heap) (va_A (hp_X cI cZ cO o b ad v r n) sz)) 1 6 (va_A (hp_X cI cZ cO o b ad v r n) sz) := by
  refine vx_ofW (cc := cX1_parts) (maxL := 2) (ret := (some .int)) (by decide) rfl ?_
  intro p e s m args below meth c s₁ B hml htab hv
  obtain ⟨rfl, hsz, hP, hK, hD0, hN, hstr, hZu, hZn⟩ := hv
  have hx := B.exec
  have hb := B.bytes
  have hr := B.returns
  have hts := atoms_spec (ws := wsX1_parts) B.pre
  have hown : s.vm.findClass RX1 = some m.cls := findClass_of_methodNamed B.named
  have hlocks := B.notSynchronized
  subst hsz
  have hD := hD0.self (sz := s.heap.size)
  generalize hAe : va_A (hp_X cI cZ cO o b ad v r n) s.heap.size = A at hD hZu hZn ⊢
  replace hD : ∀ v r, va_D A (hp_X cI cZ cO o b ad v r n) := fun _ _ => hp_dX hD
  have hA : ∀ q : Nat, s.heap.size ≤ q → A q := fun q h => by rw [← hAe]; exact Or.inr h
  have hS : va_S A s.heap s.heap [] := va_S.rf
  have hk_1 := hts (.classLink RX1 46 hp_E1) (by decide +kernel)
  have hi_1 := hts (.initialized hp_E1) (by decide +kernel)
  have hm_E1 : ∀ w ∈ (vx_atS RX1 50 hp_E1 hp_nm).filter goodWord, w ∈ wsX1_parts := by decide +kernel
  have hat_1 : ∀ w ∈ vx_atS RX1 50 hp_E1 hp_nm, w.before _ s = true := vx_hat (fun w h => hts w (hm_E1 w h)) hp_nb1 (hp_nB_of hN)
  have hl := lv_entry ([.ref o, .int p0]) (n := 2) (Nat.le_of_ble_eq_true rfl)
  rw [lg_entry_eq]
  generalize (lg_sl ([.ref o, .int p0]) ++ List.replicate (2 - (lg_sl ([.ref o, .int p0])).length) Slot.unset).toArray = ls at hl ⊢
  have hl : lv_has ls 2 [(0, .ref o), (1, .int p0)] := hl
  have hn := hinv.1
  refine lv_iload_n hx hb dX1_parts_0 rfl (lv_at hl 1 rfl) ?_
  refine vp_callSi (W.runS (As := [.int p0]) (rest := []) ⟨hx, hb, hml, hown, hts⟩ (c_X1_isKind l p0) (va_cwS 1 hts gX1_parts_X1_isKind rfl rfl rfl (by decide +kernel) ⟨(Nat.le_of_ble_eq_true rfl), (Nat.le_of_ble_eq_true rfl)⟩) ⟨hp_nfb, fun _ _ _ => ⟨rfl, trivial⟩⟩ rfl rfl hl.1 rfl (lv_room (Nat.le_of_ble_eq_true rfl)) dX1_parts_1 ⟨(Nat.zero_le _), (Nat.zero_le _)⟩) (fun r_1 hr_1 => ?_)
  subst hr_1
  refine lv_if_ne (tgt := 17) hx hb dX1_parts_4 (by decide) (fun c_2 => ?_) (fun c_2 => ?_)
  · skip
    have c_2 := hp_bn c_2
    refine lv_aload_n hx hb dX1_parts_17 rfl (lv_at hl 0 rfl) ?_
    refine lv_iload_n hx hb dX1_parts_18 rfl (lv_at hl 1 rfl) ?_
    refine lv_iconst (v := 0) hx hb dX1_parts_19 (by decide) ?_
    refine lv_iconst (v := 3) hx hb dX1_parts_20 (by decide) ?_
    refine vp_callSi (W.runV (As := [.int p0, .int 0, .int 3]) (rest := []) ⟨hx, hb, hml, hown, hts⟩ (c_X1_partsInStates l dC dI cI cZ cO cJ o b ad v r n p0 0 hinv) (cwV 3 hts gX1_parts_X1_partsInStates rfl rfl rfl (by decide +kernel) ⟨(Nat.le_of_ble_eq_true rfl), (Nat.le_of_ble_eq_true rfl)⟩) ⟨hp_fbX, va_recv hK hP (ci := 1) (q0 := 0) rfl hp_X_o, fun U hU hW => ⟨rfl, hp_toX hP hK hN hU hW⟩⟩ rfl rfl hl.1 rfl (lv_room (Nat.le_of_ble_eq_true rfl)) dX1_parts_21 ⟨(Nat.zero_le _), (Nat.zero_le _)⟩) (fun r_3 hr_3 => ?_)
    subst hr_3
    have hc : hp_c_kd p0 = 0 := (hp_cdz (by first | assumption | (simp [c_2]; done)) (by first | assumption | (simp [c_2]; done)) (by first | assumption | (simp [c_2]; done))).symm
    have hP9 : va_P (dC, dI) vwCl (hp_X cI cZ cO o b ad v r n) s.heap := by exact hP
    refine W.widen (k := 1) (n := 6) (Nat.le_of_ble_eq_true rfl) (Nat.le_of_ble_eq_true rfl) ?_
    exact vx_ret (W.iret (v := hp_lst r n p0 0) hx hb hr (fun t ht hW => ⟨⟨hp_lst r n p0 0, ad, rfl, ⟨hc, (by rw [hp_a_parts, if_pos hc])⟩, hp_ht ht hP9, hD _ _⟩, hS.F ht⟩) hS.2.2 dX1_parts_24)
  · skip
    have c_2 := hp_bz c_2
    exact hp_thr (mc := 1) (ms := 6) (k := 0) (nL := 2) hx hb hl0 hml htab hlocks hown hk_1 hi_1 hstr (List.mem_of_getElem? (i := 0) rfl) hat_1 hp_gd1 (by decide +kernel) hZu hZn hP hl dX1_parts_7 dX1_parts_10 dX1_parts_11 dX1_parts_13 dX1_parts_16 ⟨(Nat.le_of_ble_eq_true rfl), (Nat.le_of_ble_eq_true rfl), (Nat.le_of_ble_eq_true rfl), (Nat.le_of_ble_eq_true rfl)⟩ ⟨(Nat.le_of_ble_eq_true rfl), (Nat.le_of_ble_eq_true rfl)⟩ rfl ((hp_cd1 (by first | assumption | (simp [c_2]; done))).symm)
set_option maxHeartbeats 400000 in
set_option maxRecDepth 100000 in
theorem c_X1_ordered (l : Launch) (hl0 : l.stackTraces = false) (dC : Nat → ClassId) (dI : Nat → Nat → Nat) (cI cZ cO cJ : ClassId) (o : Nat) (b ad : Nat → Nat) (v : Nat → Int32) (r : Nat → Nat → Int32) (n : Nat) (sz : Nat)  (p0 : Int32) (hinv : hp_inv v r n) : vx_Met l yX1_ordered wsX1_ordered ({ frames := 6, cells := 1, slots := 6, locals := 90 }) (va_Pc [.ref o, .int p0] (hp_prT (dC, dI) cI cZ cO cJ (hp_X cI cZ cO o b ad v r n) sz)) (va_Qi (S := Nat → Nat) (fun x9 _ => hp_c_kd p0 = 0 ∧ x9 = hp_a_parts r n p0 1) (fun u9 t9 => va_P (dC, dI) vwCl (hp_X cI cZ cO o b u9 v r n) t9.heap ∧ va_D (va_A (hp_X cI cZ cO o b ad v r n) sz) (hp_X cI cZ cO o b u9 v r n)) (va_A (hp_X cI cZ cO o b ad v r n) sz)) (vx_X (S := Unit) (fun _ => True) (fun E9 _ t9 => hp_xc [hp_E1] (hp_c_kd p0) E9 ∧ va_P (dC, dI) vwCl (hp_X cI cZ cO o b ad v r n) t9.heap) (va_A (hp_X cI cZ cO o b ad v r n) sz)) 1 6 (va_A (hp_X cI cZ cO o b ad v r n) sz) := by
  refine vx_ofW (cc := cX1_ordered) (maxL := 2) (ret := (some .int)) (by decide) rfl ?_
  intro p e s m args below meth c s₁ B hml htab hv
  obtain ⟨rfl, hsz, hP, hK, hD0, hN, hstr, hZu, hZn⟩ := hv
  have hx := B.exec
  have hb := B.bytes
  have hr := B.returns
  have hts := atoms_spec (ws := wsX1_ordered) B.pre
  have hown : s.vm.findClass RX1 = some m.cls := findClass_of_methodNamed B.named
  have hlocks := B.notSynchronized
  subst hsz
  have hD := hD0.self (sz := s.heap.size)
  generalize hAe : va_A (hp_X cI cZ cO o b ad v r n) s.heap.size = A at hD hZu hZn ⊢
  replace hD : ∀ v r, va_D A (hp_X cI cZ cO o b ad v r n) := fun _ _ => hp_dX hD
  have hA : ∀ q : Nat, s.heap.size ≤ q → A q := fun q h => by rw [← hAe]; exact Or.inr h
  have hS : va_S A s.heap s.heap [] := va_S.rf
  have hk_1 := hts (.classLink RX1 46 hp_E1) (by decide +kernel)
  have hi_1 := hts (.initialized hp_E1) (by decide +kernel)
  have hm_E1 : ∀ w ∈ (vx_atS RX1 50 hp_E1 hp_nm).filter goodWord, w ∈ wsX1_ordered := by decide +kernel
  have hat_1 : ∀ w ∈ vx_atS RX1 50 hp_E1 hp_nm, w.before _ s = true := vx_hat (fun w h => hts w (hm_E1 w h)) hp_nb1 (hp_nB_of hN)
  have hl := lv_entry ([.ref o, .int p0]) (n := 2) (Nat.le_of_ble_eq_true rfl)
  rw [lg_entry_eq]
  generalize (lg_sl ([.ref o, .int p0]) ++ List.replicate (2 - (lg_sl ([.ref o, .int p0])).length) Slot.unset).toArray = ls at hl ⊢
  have hl : lv_has ls 2 [(0, .ref o), (1, .int p0)] := hl
  have hn := hinv.1
  refine lv_iload_n hx hb dX1_ordered_0 rfl (lv_at hl 1 rfl) ?_
  refine vp_callSi (W.runS (As := [.int p0]) (rest := []) ⟨hx, hb, hml, hown, hts⟩ (c_X1_isKind l p0) (va_cwS 1 hts gX1_ordered_X1_isKind rfl rfl rfl (by decide +kernel) ⟨(Nat.le_of_ble_eq_true rfl), (Nat.le_of_ble_eq_true rfl)⟩) ⟨hp_nfb, fun _ _ _ => ⟨rfl, trivial⟩⟩ rfl rfl hl.1 rfl (lv_room (Nat.le_of_ble_eq_true rfl)) dX1_ordered_1 ⟨(Nat.zero_le _), (Nat.zero_le _)⟩) (fun r_1 hr_1 => ?_)
  subst hr_1
  refine lv_if_ne (tgt := 17) hx hb dX1_ordered_4 (by decide) (fun c_2 => ?_) (fun c_2 => ?_)
  · skip
    have c_2 := hp_bn c_2
    refine lv_aload_n hx hb dX1_ordered_17 rfl (lv_at hl 0 rfl) ?_
    refine lv_iload_n hx hb dX1_ordered_18 rfl (lv_at hl 1 rfl) ?_
    refine lv_iconst (v := 1) hx hb dX1_ordered_19 (by decide) ?_
    refine lv_iconst (v := 3) hx hb dX1_ordered_20 (by decide) ?_
    refine vp_callSi (W.runV (As := [.int p0, .int 1, .int 3]) (rest := []) ⟨hx, hb, hml, hown, hts⟩ (c_X1_partsInStates l dC dI cI cZ cO cJ o b ad v r n p0 1 hinv) (cwV 3 hts gX1_ordered_X1_partsInStates rfl rfl rfl (by decide +kernel) ⟨(Nat.le_of_ble_eq_true rfl), (Nat.le_of_ble_eq_true rfl)⟩) ⟨hp_fbX, va_recv hK hP (ci := 1) (q0 := 0) rfl hp_X_o, fun U hU hW => ⟨rfl, hp_toX hP hK hN hU hW⟩⟩ rfl rfl hl.1 rfl (lv_room (Nat.le_of_ble_eq_true rfl)) dX1_ordered_21 ⟨(Nat.zero_le _), (Nat.zero_le _)⟩) (fun r_3 hr_3 => ?_)
    subst hr_3
    have hc : hp_c_kd p0 = 0 := (hp_cdz (by first | assumption | (simp [c_2]; done)) (by first | assumption | (simp [c_2]; done)) (by first | assumption | (simp [c_2]; done))).symm
    have hP9 : va_P (dC, dI) vwCl (hp_X cI cZ cO o b ad v r n) s.heap := by exact hP
    refine W.widen (k := 1) (n := 6) (Nat.le_of_ble_eq_true rfl) (Nat.le_of_ble_eq_true rfl) ?_
    exact vx_ret (W.iret (v := hp_lst r n p0 1) hx hb hr (fun t ht hW => ⟨⟨hp_lst r n p0 1, ad, rfl, ⟨hc, (by rw [hp_a_parts, if_pos hc])⟩, hp_ht ht hP9, hD _ _⟩, hS.F ht⟩) hS.2.2 dX1_ordered_24)
  · skip
    have c_2 := hp_bz c_2
    exact hp_thr (mc := 1) (ms := 6) (k := 0) (nL := 2) hx hb hl0 hml htab hlocks hown hk_1 hi_1 hstr (List.mem_of_getElem? (i := 0) rfl) hat_1 hp_gd1 (by decide +kernel) hZu hZn hP hl dX1_ordered_7 dX1_ordered_10 dX1_ordered_11 dX1_ordered_13 dX1_ordered_16 ⟨(Nat.le_of_ble_eq_true rfl), (Nat.le_of_ble_eq_true rfl), (Nat.le_of_ble_eq_true rfl), (Nat.le_of_ble_eq_true rfl)⟩ ⟨(Nat.le_of_ble_eq_true rfl), (Nat.le_of_ble_eq_true rfl)⟩ rfl ((hp_cd1 (by first | assumption | (simp [c_2]; done))).symm)
set_option maxHeartbeats 400000 in
set_option maxRecDepth 100000 in
theorem c_X1_partsAnew (l : Launch) (hl0 : l.stackTraces = false) (dC : Nat → ClassId) (dI : Nat → Nat → Nat) (cI cZ cO cJ : ClassId) (o : Nat) (b ad : Nat → Nat) (v : Nat → Int32) (r : Nat → Nat → Int32) (n : Nat) (sz : Nat)  (p0 : Int32) (hinv : hp_inv v r n) : vx_Met l yX1_partsAnew wsX1_partsAnew ({ frames := 6, cells := 1, slots := 6, locals := 82 }) (va_Pc [.ref o, .int p0] (hp_prT (dC, dI) cI cZ cO cJ (hp_X cI cZ cO o b ad v r n) sz)) (va_Qi (S := Nat → Nat) (fun x9 _ => hp_c_kd p0 = 0 ∧ x9 = hp_a_parts r n p0 0) (fun u9 t9 => va_P (dC, dI) vwCl (hp_X cI cZ cO o b u9 v r n) t9.heap ∧ va_D (va_A (hp_X cI cZ cO o b ad v r n) sz) (hp_X cI cZ cO o b u9 v r n)) (va_A (hp_X cI cZ cO o b ad v r n) sz)) (vx_X (S := Unit) (fun _ => True) (fun E9 _ t9 => hp_xc [hp_E1] (hp_c_kd p0) E9 ∧ va_P (dC, dI) vwCl (hp_X cI cZ cO o b ad v r n) t9.heap) (va_A (hp_X cI cZ cO o b ad v r n) sz)) 1 6 (va_A (hp_X cI cZ cO o b ad v r n) sz) := by
  refine vx_ofW (cc := cX1_partsAnew) (maxL := 5) (ret := (some .int)) (by decide) rfl ?_
  intro p e s m args below meth c s₁ B hml htab hv
  obtain ⟨rfl, hsz, hP, hK, hD0, hN, hstr, hZu, hZn⟩ := hv
  have hx := B.exec
  have hb := B.bytes
  have hr := B.returns
  have hts := atoms_spec (ws := wsX1_partsAnew) B.pre
  have hown : s.vm.findClass RX1 = some m.cls := findClass_of_methodNamed B.named
  have hlocks := B.notSynchronized
  subst hsz
  have hD := hD0.self (sz := s.heap.size)
  generalize hAe : va_A (hp_X cI cZ cO o b ad v r n) s.heap.size = A at hD hZu hZn ⊢
  replace hD : ∀ v r, va_D A (hp_X cI cZ cO o b ad v r n) := fun _ _ => hp_dX hD
  have hA : ∀ q : Nat, s.heap.size ≤ q → A q := fun q h => by rw [← hAe]; exact Or.inr h
  have hS : va_S A s.heap s.heap [] := va_S.rf
  have hk_1 := hts (.classLink RX1 46 hp_E1) (by decide +kernel)
  have hi_1 := hts (.initialized hp_E1) (by decide +kernel)
  have hm_E1 : ∀ w ∈ (vx_atS RX1 50 hp_E1 hp_nm).filter goodWord, w ∈ wsX1_partsAnew := by decide +kernel
  have hat_1 : ∀ w ∈ vx_atS RX1 50 hp_E1 hp_nm, w.before _ s = true := vx_hat (fun w h => hts w (hm_E1 w h)) hp_nb1 (hp_nB_of hN)
  have hf_15 := hts (.fieldLink RX1 15 "Wallplan" "count" "I") (by decide +kernel)
  have hf_23 := hts (.fieldLink RX1 23 "Wallplan" "partCells" "[I") (by decide +kernel)
  have hf_122 := hts (.fieldLink RX1 122 "Wallplan$Element" "kind" "I") (by decide +kernel)
  have hinX0 : ∀ w ∈ wsX00, w ∈ wsX1_partsAnew := by decide +kernel
  have hinX1 : ∀ w ∈ wsX10, w ∈ wsX1_partsAnew := by decide +kernel
  have hl := lv_entry ([.ref o, .int p0]) (n := 5) (Nat.le_of_ble_eq_true rfl)
  rw [lg_entry_eq]
  generalize (lg_sl ([.ref o, .int p0]) ++ List.replicate (5 - (lg_sl ([.ref o, .int p0])).length) Slot.unset).toArray = ls at hl ⊢
  have hl : lv_has ls 5 [(0, .ref o), (1, .int p0)] := hl
  have hn := hinv.1
  refine lv_iload_n hx hb dX1_partsAnew_0 rfl (lv_at hl 1 rfl) ?_
  refine vp_callSi (W.runS (As := [.int p0]) (rest := []) ⟨hx, hb, hml, hown, hts⟩ (c_X1_isKind l p0) (va_cwS 1 hts gX1_partsAnew_X1_isKind rfl rfl rfl (by decide +kernel) ⟨(Nat.le_of_ble_eq_true rfl), (Nat.le_of_ble_eq_true rfl)⟩) ⟨hp_nfb, fun _ _ _ => ⟨rfl, trivial⟩⟩ rfl rfl hl.1 rfl (lv_room (Nat.le_of_ble_eq_true rfl)) dX1_partsAnew_1 ⟨(Nat.zero_le _), (Nat.zero_le _)⟩) (fun r_1 hr_1 => ?_)
  subst hr_1
  refine lv_if_ne (tgt := 17) hx hb dX1_partsAnew_4 (by decide) (fun c_2 => ?_) (fun c_2 => ?_)
  · skip
    have c_2 := hp_bn c_2
    have hk0 := c_2
    refine lv_iconst (v := 0) hx hb dX1_partsAnew_17 (by decide) ?_
    refine lv_istore_n (lv' := [(2, .int 0), (0, .ref o), (1, .int p0)]) hx hb dX1_partsAnew_18 rfl hl (by decide) rfl (fun ls hl => ?_)
    refine lv_iconst (v := 0) hx hb dX1_partsAnew_19 (by decide) ?_
    refine lv_istore_n (lv' := [(3, .int 0), (2, .int 0), (0, .ref o), (1, .int p0)]) hx hb dX1_partsAnew_20 rfl hl (by decide) rfl (fun ls hl => ?_)
    refine hp_loop (fun k => [(2, .int (hp_sum (fun i => if (r 4 i == p0) && hp_in (r 10 i) 0 3 then hp_par r i else 0) (k))), (3, .int (nI k)), (0, .ref o), (1, .int p0)]) n (fun k hk_3 ih_3 ls hl => ?_) (lv_sub hl [1, 0, 2, 3] rfl)
    refine lv_iload_n hx hb dX1_partsAnew_21 rfl (lv_at hl 1 rfl) ?_
    refine lv_aload_n hx hb dX1_partsAnew_22 rfl (lv_at hl 2 rfl) ?_
    refine va_get (D := (dC, dI)) (ci := 1) (v := .int (nI n)) (C := RX1) (T := TX1) (N := 8) hx hb hts hinX1 hown hK hP 0 hp_X_o rfl 1 (by decide) hf_15 (fun _ h9 => h9) rfl dX1_partsAnew_23 ?_
    refine lv_icmp_ge (tgt := 78) hx hb dX1_partsAnew_26 (by decide) (fun c_4 => ?_) (fun c_4 => ?_)
    · skip
      have c_4n := hp_len c_4
      have ek : k = n := Nat.le_antisymm (by omega) ((nI_leI (by omega) (by omega)).mp c_4)
      refine lv_iload_n hx hb dX1_partsAnew_78 rfl (lv_at hl 0 rfl) ?_
      have hc : hp_c_kd p0 = 0 := (hp_cdz (by first | assumption | (simp [c_2, c_4, c_4n]; done)) (by first | assumption | (simp [c_2, c_4, c_4n]; done)) (by first | assumption | (simp [c_2, c_4, c_4n]; done))).symm
      have hP9 : va_P (dC, dI) vwCl (hp_X cI cZ cO o b ad v r n) s.heap := by exact hP
      refine W.widen (k := 1) (n := 6) (Nat.le_of_ble_eq_true rfl) (Nat.le_of_ble_eq_true rfl) ?_
      exact vx_ret (W.iret (v := hp_sum (fun i => if (r 4 i == p0) && hp_in (r 10 i) 0 3 then hp_par r i else 0) (k)) hx hb hr (fun t ht hW => ⟨⟨hp_sum (fun i => if (r 4 i == p0) && hp_in (r 10 i) 0 3 then hp_par r i else 0) (k), ad, rfl, ⟨hc, (by rw [hp_a_parts, if_pos hc, ek]; rfl)⟩, hp_ht ht hP9, hD _ _⟩, hS.F ht⟩) hS.2.2 dX1_partsAnew_79)
    · skip
      have c_4p := hp_nle c_4
      have hkn : k < n := Nat.lt_of_not_le (fun h => c_4 (nI_le h (by omega)))
      have hth := hp_there (hinv.2.1 k hkn)
      obtain ⟨c9, hc1, hc2, ec9⟩ := hinv.2.2.2.1 _ (hp_kd_ix hk0).2
      refine lv_aload_n hx hb dX1_partsAnew_29 rfl (lv_at hl 2 rfl) ?_
      refine lv_iload_n hx hb dX1_partsAnew_30 rfl (lv_at hl 1 rfl) ?_
      refine va_csq (W.runV (As := [.int (nI k)]) (rest := []) ⟨hx, hb, hml, hown, hts⟩ (c_X1_find l dC dI cI cZ cO cJ o b ad v r n k (nI k) rfl hn (by omega)) (cwV 1 hts gX1_partsAnew_X1_find rfl rfl rfl (by decide +kernel) ⟨(Nat.le_of_ble_eq_true rfl), (Nat.le_of_ble_eq_true rfl)⟩) ⟨hp_fbX, va_recv hK hP (ci := 1) (q0 := 0) rfl hp_X_o, fun U hU hW => ⟨rfl, hp_toX hP hK hN hU hW⟩⟩ rfl rfl hl.1 rfl (lv_room (Nat.le_of_ble_eq_true rfl)) dX1_partsAnew_31 ⟨(Nat.zero_le _), (Nat.zero_le _)⟩) (fun r_5 hr_5 => ?_)
      subst hr_5
      refine W.eq (g2 := F0 m 34 ls [.ref (ad k)]) rfl ?_
      refine lv_astore (lv' := [(4, .ref (ad k)), (2, .int (hp_sum (fun i => if (r 4 i == p0) && hp_in (r 10 i) 0 3 then hp_par r i else 0) (k))), (3, .int (nI k)), (0, .ref o), (1, .int p0)]) hx hb dX1_partsAnew_34 hl (by decide) rfl (fun ls hl => ?_)
      refine lv_aload hx hb dX1_partsAnew_36 (lv_at hl 0 rfl) ?_
      refine lv_ifnull hx hb dX1_partsAnew_38 ?_
      refine lv_aload hx hb dX1_partsAnew_41 (lv_at hl 0 rfl) ?_
      refine va_get (D := (dC, dI)) (ci := 0) (v := .int (r 4 k)) (C := RX0) (T := TX0) (N := 10) hx hb hts hinX0 hown hK hP (6 + k) (hp_X_e (by omega)) rfl 0 (by decide) hf_122 (fun _ h9 => h9) rfl dX1_partsAnew_43 ?_
      refine lv_iload_n hx hb dX1_partsAnew_46 rfl (lv_at hl 4 rfl) ?_
      refine lv_icmp_ne (tgt := 72) hx hb dX1_partsAnew_47 (by decide) (fun c_6 => ?_) (fun c_6 => ?_)
      · skip
        refine lv_iinc (v := nI (k + 1)) (lv' := [(3, .int (nI (k + 1))), (4, .ref (ad k)), (2, .int (hp_sum (fun i => if (r 4 i == p0) && hp_in (r 10 i) 0 3 then hp_par r i else 0) (k))), (0, .ref o), (1, .int p0)]) hx hb dX1_partsAnew_72 hl (k := 2) rfl (nI_1 _) (by decide) rfl (fun ls hl => ?_)
        refine lv_goto (tgt := 21) hx hb dX1_partsAnew_75 (by decide) ?_
        have e_7 : hp_sum (fun i => if (r 4 i == p0) && hp_in (r 10 i) 0 3 then hp_par r i else 0) (k) = hp_sum (fun i => if (r 4 i == p0) && hp_in (r 10 i) 0 3 then hp_par r i else 0) (k + 1) := by first | exact (hp_pal hth ec9 (by simp [c_2, c_4, c_4p, c_6])).symm | exact (hp_paf hth (by simp [c_2, c_4, c_4p, c_6])).symm
        exact ih_3 hkn _ (by have h9 := lv_sub (l' := [(2, .int (hp_sum (fun i => if (r 4 i == p0) && hp_in (r 10 i) 0 3 then hp_par r i else 0) (k))), (3, .int (nI (k + 1))), (0, .ref o), (1, .int p0)]) hl [2, 0, 3, 4] rfl; rw [e_7] at h9; exact h9)
      · skip
        refine lv_aload hx hb dX1_partsAnew_50 (lv_at hl 0 rfl) ?_
        refine vp_callSi (W.runV (As := []) (rest := []) ⟨hx, hb, hml, hown, hts⟩ (c_X0_isThere l dC dI cI cZ cO cJ o b ad v r n k (by omega) ) (cwV 0 hts gX1_partsAnew_X0_isThere rfl rfl rfl (by decide +kernel) ⟨(Nat.le_of_ble_eq_true rfl), (Nat.le_of_ble_eq_true rfl)⟩) ⟨hp_fbX, va_recv hK hP (ci := 0) (q0 := 6 + k) rfl (hp_X_e (by omega)), fun U hU hW => ⟨rfl, hp_toX hP hK hN hU hW⟩⟩ rfl rfl hl.1 rfl (lv_room (Nat.le_of_ble_eq_true rfl)) dX1_partsAnew_52 ⟨(Nat.zero_le _), (Nat.zero_le _)⟩) (fun r_8 hr_8 => ?_)
        subst hr_8
        refine lv_if_eq (tgt := 72) hx hb dX1_partsAnew_55 (by decide) (fun c_9 => ?_) (fun c_9 => ?_)
        · skip
          have c_9 := hp_bz c_9
          refine lv_iinc (v := nI (k + 1)) (lv' := [(3, .int (nI (k + 1))), (4, .ref (ad k)), (2, .int (hp_sum (fun i => if (r 4 i == p0) && hp_in (r 10 i) 0 3 then hp_par r i else 0) (k))), (0, .ref o), (1, .int p0)]) hx hb dX1_partsAnew_72 hl (k := 2) rfl (nI_1 _) (by decide) rfl (fun ls hl => ?_)
          refine lv_goto (tgt := 21) hx hb dX1_partsAnew_75 (by decide) ?_
          have e_10 : hp_sum (fun i => if (r 4 i == p0) && hp_in (r 10 i) 0 3 then hp_par r i else 0) (k) = hp_sum (fun i => if (r 4 i == p0) && hp_in (r 10 i) 0 3 then hp_par r i else 0) (k + 1) := by first | exact (hp_pal hth ec9 (by simp [c_2, c_4, c_4p, c_6, c_9])).symm | exact (hp_paf hth (by simp [c_2, c_4, c_4p, c_6, c_9])).symm
          exact ih_3 hkn _ (by have h9 := lv_sub (l' := [(2, .int (hp_sum (fun i => if (r 4 i == p0) && hp_in (r 10 i) 0 3 then hp_par r i else 0) (k))), (3, .int (nI (k + 1))), (0, .ref o), (1, .int p0)]) hl [2, 0, 3, 4] rfl; rw [e_10] at h9; exact h9)
        · skip
          have c_9 := hp_bn c_9
          have hr4 : ¬ r 10 k = 4 := by simpa using c_9
          refine lv_iload_n hx hb dX1_partsAnew_58 rfl (lv_at hl 1 rfl) ?_
          refine lv_aload hx hb dX1_partsAnew_59 (lv_at hl 0 rfl) ?_
          refine lv_aload_n hx hb dX1_partsAnew_61 rfl (lv_at hl 3 rfl) ?_
          refine va_get (D := (dC, dI)) (ci := 1) (v := .ref (b 3)) (C := RX1) (T := TX1) (N := 8) hx hb hts hinX1 hown hK hP 0 hp_X_o rfl 3 (by decide) hf_23 (fun _ h9 => h9) rfl dX1_partsAnew_62 ?_
          refine lv_iload_n hx hb dX1_partsAnew_65 rfl (lv_at hl 4 rfl) ?_
          refine hp_ialdx (v := r 15 p0.toNatClampNeg) hx hb hK hP 3 0 hp_X_15 rfl (i := p0) (hp_vin (hp_kd_ix hk0) (by decide) (by decide)) rfl dX1_partsAnew_66 ?_
          refine vp_callSi (W.runV (As := [.int (r 15 p0.toNatClampNeg)]) (rest := [.int (hp_sum (fun i => if (r 4 i == p0) && hp_in (r 10 i) 0 3 then hp_par r i else 0) (k))]) ⟨hx, hb, hml, hown, hts⟩ (c_X0_partsCellByCell l dC dI cI cZ cO cJ o b ad v r n k (by omega) c9 (r 15 p0.toNatClampNeg) ec9 hc1 hc2 (hinv.2.1 _ hkn)) (cwV 1 hts gX1_partsAnew_X0_partsCellByCell rfl rfl rfl (by decide +kernel) ⟨(Nat.le_of_ble_eq_true rfl), (Nat.le_of_ble_eq_true rfl)⟩) ⟨hp_fbX, va_recv hK hP (ci := 0) (q0 := 6 + k) rfl (hp_X_e (by omega)), fun U hU hW => ⟨rfl, hp_toX hP hK hN hU hW⟩⟩ rfl rfl hl.1 rfl (lv_room (Nat.le_of_ble_eq_true rfl)) dX1_partsAnew_67 ⟨(Nat.zero_le _), (Nat.zero_le _)⟩) (fun r_11 hr_11 => ?_)
          subst hr_11
          refine lv_iadd hx hb dX1_partsAnew_70 ?_
          refine lv_istore_n (lv' := [(2, .int ((hp_sum (fun i => if (r 4 i == p0) && hp_in (r 10 i) 0 3 then hp_par r i else 0) (k)) + ((hp_cel r k + nI c9 - 1) / nI c9))), (4, .ref (ad k)), (3, .int (nI k)), (0, .ref o), (1, .int p0)]) hx hb dX1_partsAnew_71 rfl hl (by decide) rfl (fun ls hl => ?_)
          refine lv_iinc (v := nI (k + 1)) (lv' := [(3, .int (nI (k + 1))), (2, .int ((hp_sum (fun i => if (r 4 i == p0) && hp_in (r 10 i) 0 3 then hp_par r i else 0) (k)) + ((hp_cel r k + nI c9 - 1) / nI c9))), (4, .ref (ad k)), (0, .ref o), (1, .int p0)]) hx hb dX1_partsAnew_72 hl (k := 2) rfl (nI_1 _) (by decide) rfl (fun ls hl => ?_)
          refine lv_goto (tgt := 21) hx hb dX1_partsAnew_75 (by decide) ?_
          have e_12 : (hp_sum (fun i => if (r 4 i == p0) && hp_in (r 10 i) 0 3 then hp_par r i else 0) (k)) + ((hp_cel r k + nI c9 - 1) / nI c9) = hp_sum (fun i => if (r 4 i == p0) && hp_in (r 10 i) 0 3 then hp_par r i else 0) (k + 1) := by first | exact (hp_pal hth ec9 (by simp [c_2, c_4, c_4p, c_6, c_9, hr4])).symm | exact (hp_paf hth (by simp [c_2, c_4, c_4p, c_6, c_9, hr4])).symm
          exact ih_3 hkn _ (by have h9 := lv_sub (l' := [(2, .int ((hp_sum (fun i => if (r 4 i == p0) && hp_in (r 10 i) 0 3 then hp_par r i else 0) (k)) + ((hp_cel r k + nI c9 - 1) / nI c9))), (3, .int (nI (k + 1))), (0, .ref o), (1, .int p0)]) hl [1, 0, 3, 4] rfl; rw [e_12] at h9; exact h9)
  · skip
    have c_2 := hp_bz c_2
    exact hp_thr (mc := 1) (ms := 6) (k := 0) (nL := 5) hx hb hl0 hml htab hlocks hown hk_1 hi_1 hstr (List.mem_of_getElem? (i := 0) rfl) hat_1 hp_gd1 (by decide +kernel) hZu hZn hP hl dX1_partsAnew_7 dX1_partsAnew_10 dX1_partsAnew_11 dX1_partsAnew_13 dX1_partsAnew_16 ⟨(Nat.le_of_ble_eq_true rfl), (Nat.le_of_ble_eq_true rfl), (Nat.le_of_ble_eq_true rfl), (Nat.le_of_ble_eq_true rfl)⟩ ⟨(Nat.le_of_ble_eq_true rfl), (Nat.le_of_ble_eq_true rfl)⟩ rfl ((hp_cd1 (by first | assumption | (simp [c_2]; done))).symm)
set_option maxHeartbeats 400000 in
set_option maxRecDepth 100000 in
theorem c_X1_kindsAt (l : Launch) (hl0 : l.stackTraces = false) (dC : Nat → ClassId) (dI : Nat → Nat → Nat) (cI cZ cO cJ : ClassId) (o : Nat) (b ad : Nat → Nat) (v : Nat → Int32) (r : Nat → Nat → Int32) (n : Nat) (sz : Nat)  (p0 p1 p2 : Int32) (hinv : hp_inv v r n) : vx_Met l yX1_kindsAt wsX1_kindsAt ({ frames := 6, cells := 1, slots := 6, locals := 82 }) (va_Pc [.ref o, .int p0, .int p1, .int p2] (hp_prT (dC, dI) cI cZ cO cJ (hp_X cI cZ cO o b ad v r n) sz)) (va_Qi (S := Nat → Nat) (fun x9 _ => hp_c_kindsAt p0 p1 p2 = 0 ∧ x9 = hp_a_kindsAt r n p0 p1 p2) (fun u9 t9 => va_P (dC, dI) vwCl (hp_X cI cZ cO o b u9 v r n) t9.heap ∧ va_D (va_A (hp_X cI cZ cO o b ad v r n) sz) (hp_X cI cZ cO o b u9 v r n)) (va_A (hp_X cI cZ cO o b ad v r n) sz)) (vx_X (S := Unit) (fun _ => True) (fun E9 _ t9 => hp_xc [hp_E1, hp_E2] (hp_c_kindsAt p0 p1 p2) E9 ∧ va_P (dC, dI) vwCl (hp_X cI cZ cO o b ad v r n) t9.heap) (va_A (hp_X cI cZ cO o b ad v r n) sz)) 1 6 (va_A (hp_X cI cZ cO o b ad v r n) sz) := by
  refine vx_ofW (cc := cX1_kindsAt) (maxL := 7) (ret := (some .int)) (by decide) rfl ?_
  intro p e s m args below meth c s₁ B hml htab hv
  obtain ⟨rfl, hsz, hP, hK, hD0, hN, hstr, hZu, hZn⟩ := hv
  have hx := B.exec
  have hb := B.bytes
  have hr := B.returns
  have hts := atoms_spec (ws := wsX1_kindsAt) B.pre
  have hown : s.vm.findClass RX1 = some m.cls := findClass_of_methodNamed B.named
  have hlocks := B.notSynchronized
  subst hsz
  have hD := hD0.self (sz := s.heap.size)
  generalize hAe : va_A (hp_X cI cZ cO o b ad v r n) s.heap.size = A at hD hZu hZn ⊢
  replace hD : ∀ v r, va_D A (hp_X cI cZ cO o b ad v r n) := fun _ _ => hp_dX hD
  have hA : ∀ q : Nat, s.heap.size ≤ q → A q := fun q h => by rw [← hAe]; exact Or.inr h
  have hS : va_S A s.heap s.heap [] := va_S.rf
  have hk_1 := hts (.classLink RX1 46 hp_E1) (by decide +kernel)
  have hi_1 := hts (.initialized hp_E1) (by decide +kernel)
  have hm_E1 : ∀ w ∈ (vx_atS RX1 50 hp_E1 hp_nm).filter goodWord, w ∈ wsX1_kindsAt := by decide +kernel
  have hat_1 : ∀ w ∈ vx_atS RX1 50 hp_E1 hp_nm, w.before _ s = true := vx_hat (fun w h => hts w (hm_E1 w h)) hp_nb1 (hp_nB_of hN)
  have hk_2 := hts (.classLink RX1 57 hp_E2) (by decide +kernel)
  have hi_2 := hts (.initialized hp_E2) (by decide +kernel)
  have hm_E2 : ∀ w ∈ (vx_atS RX1 61 hp_E2 hp_nm).filter goodWord, w ∈ wsX1_kindsAt := by decide +kernel
  have hat_2 : ∀ w ∈ vx_atS RX1 61 hp_E2 hp_nm, w.before _ s = true := vx_hat (fun w h => hts w (hm_E2 w h)) hp_nb2 (hp_nB_of hN)
  have hf_15 := hts (.fieldLink RX1 15 "Wallplan" "count" "I") (by decide +kernel)
  have hf_122 := hts (.fieldLink RX1 122 "Wallplan$Element" "kind" "I") (by decide +kernel)
  have hf_154 := hts (.fieldLink RX1 154 "Wallplan$Element" "storey" "I") (by decide +kernel)
  have hinX0 : ∀ w ∈ wsX00, w ∈ wsX1_kindsAt := by decide +kernel
  have hinX1 : ∀ w ∈ wsX10, w ∈ wsX1_kindsAt := by decide +kernel
  have hl := lv_entry ([.ref o, .int p0, .int p1, .int p2]) (n := 7) (Nat.le_of_ble_eq_true rfl)
  rw [lg_entry_eq]
  generalize (lg_sl ([.ref o, .int p0, .int p1, .int p2]) ++ List.replicate (7 - (lg_sl ([.ref o, .int p0, .int p1, .int p2])).length) Slot.unset).toArray = ls at hl ⊢
  have hl : lv_has ls 7 [(0, .ref o), (1, .int p0), (2, .int p1), (3, .int p2)] := hl
  have hn := hinv.1
  refine lv_iload_n hx hb dX1_kindsAt_0 rfl (lv_at hl 1 rfl) ?_
  refine vp_callSi (W.runS (As := [.int p0]) (rest := []) ⟨hx, hb, hml, hown, hts⟩ (c_X1_isStorey l p0) (va_cwS 1 hts gX1_kindsAt_X1_isStorey rfl rfl rfl (by decide +kernel) ⟨(Nat.le_of_ble_eq_true rfl), (Nat.le_of_ble_eq_true rfl)⟩) ⟨hp_nfb, fun _ _ _ => ⟨rfl, trivial⟩⟩ rfl rfl hl.1 rfl (lv_room (Nat.le_of_ble_eq_true rfl)) dX1_kindsAt_1 ⟨(Nat.zero_le _), (Nat.zero_le _)⟩) (fun r_1 hr_1 => ?_)
  subst hr_1
  refine lv_if_ne (tgt := 17) hx hb dX1_kindsAt_4 (by decide) (fun c_2 => ?_) (fun c_2 => ?_)
  · skip
    have c_2 := hp_bn c_2
    refine lv_iload_n hx hb dX1_kindsAt_17 rfl (lv_at hl 2 rfl) ?_
    refine lv_iload_n hx hb dX1_kindsAt_18 rfl (lv_at hl 3 rfl) ?_
    refine vp_callSi (W.runS (As := [.int p1, .int p2]) (rest := []) ⟨hx, hb, hml, hown, hts⟩ (c_X1_isCell l p1 p2) (va_cwS 2 hts gX1_kindsAt_X1_isCell rfl rfl rfl (by decide +kernel) ⟨(Nat.le_of_ble_eq_true rfl), (Nat.le_of_ble_eq_true rfl)⟩) ⟨hp_nfb, fun _ _ _ => ⟨rfl, trivial⟩⟩ rfl rfl hl.1 rfl (lv_room (Nat.le_of_ble_eq_true rfl)) dX1_kindsAt_19 ⟨(Nat.zero_le _), (Nat.zero_le _)⟩) (fun r_3 hr_3 => ?_)
    subst hr_3
    refine lv_if_ne (tgt := 35) hx hb dX1_kindsAt_22 (by decide) (fun c_4 => ?_) (fun c_4 => ?_)
    · skip
      have c_4 := hp_bn c_4
      have hsi := c_4
      refine lv_iconst (v := 0) hx hb dX1_kindsAt_35 (by decide) ?_
      refine lv_istore (lv' := [(4, .int 0), (0, .ref o), (1, .int p0), (2, .int p1), (3, .int p2)]) hx hb dX1_kindsAt_36 hl (by decide) rfl (fun ls hl => ?_)
      refine lv_iconst (v := 0) hx hb dX1_kindsAt_38 (by decide) ?_
      refine lv_istore (lv' := [(5, .int 0), (4, .int 0), (0, .ref o), (1, .int p0), (2, .int p1), (3, .int p2)]) hx hb dX1_kindsAt_39 hl (by decide) rfl (fun ls hl => ?_)
      refine hp_loop (fun k => [(4, .int (hp_bits r p0 p1 p2 (k))), (5, .int (nI k)), (0, .ref o), (1, .int p0), (2, .int p1), (3, .int p2)]) n (fun k hk_5 ih_5 ls hl => ?_) (lv_sub hl [1, 0, 2, 3, 4, 5] rfl)
      refine lv_iload hx hb dX1_kindsAt_41 (lv_at hl 1 rfl) ?_
      refine lv_aload_n hx hb dX1_kindsAt_43 rfl (lv_at hl 2 rfl) ?_
      refine va_get (D := (dC, dI)) (ci := 1) (v := .int (nI n)) (C := RX1) (T := TX1) (N := 8) hx hb hts hinX1 hown hK hP 0 hp_X_o rfl 1 (by decide) hf_15 (fun _ h9 => h9) rfl dX1_kindsAt_44 ?_
      refine lv_icmp_ge (tgt := 108) hx hb dX1_kindsAt_47 (by decide) (fun c_6 => ?_) (fun c_6 => ?_)
      · skip
        have c_6n := hp_len c_6
        have ek : k = n := Nat.le_antisymm (by omega) ((nI_leI (by omega) (by omega)).mp c_6)
        refine lv_iload hx hb dX1_kindsAt_108 (lv_at hl 0 rfl) ?_
        have hc : hp_c_kindsAt p0 p1 p2 = 0 := (hp_cdz (by first | assumption | (simp [c_2, c_4, c_6, c_6n]; done)) (by first | assumption | (simp [c_2, c_4, c_6, c_6n]; done)) (by first | assumption | (simp [c_2, c_4, c_6, c_6n]; done))).symm
        have hP9 : va_P (dC, dI) vwCl (hp_X cI cZ cO o b ad v r n) s.heap := by exact hP
        refine W.widen (k := 1) (n := 6) (Nat.le_of_ble_eq_true rfl) (Nat.le_of_ble_eq_true rfl) ?_
        exact vx_ret (W.iret (v := hp_bits r p0 p1 p2 (k)) hx hb hr (fun t ht hW => ⟨⟨hp_bits r p0 p1 p2 (k), ad, rfl, ⟨hc, (by rw [hp_a_kindsAt, if_pos hc, ek])⟩, hp_ht ht hP9, hD _ _⟩, hS.F ht⟩) hS.2.2 dX1_kindsAt_110)
      · skip
        have c_6p := hp_nle c_6
        have hkn : k < n := Nat.lt_of_not_le (fun h => c_6 (nI_le h (by omega)))
        have hcv := hp_cov_at (hinv.2.1 k hkn) (hp_si_of (hp_andl hsi)) (hp_si_of (hp_andr hsi))
        refine lv_aload_n hx hb dX1_kindsAt_50 rfl (lv_at hl 2 rfl) ?_
        refine lv_iload hx hb dX1_kindsAt_51 (lv_at hl 1 rfl) ?_
        refine va_csq (W.runV (As := [.int (nI k)]) (rest := []) ⟨hx, hb, hml, hown, hts⟩ (c_X1_find l dC dI cI cZ cO cJ o b ad v r n k (nI k) rfl hn (by omega)) (cwV 1 hts gX1_kindsAt_X1_find rfl rfl rfl (by decide +kernel) ⟨(Nat.le_of_ble_eq_true rfl), (Nat.le_of_ble_eq_true rfl)⟩) ⟨hp_fbX, va_recv hK hP (ci := 1) (q0 := 0) rfl hp_X_o, fun U hU hW => ⟨rfl, hp_toX hP hK hN hU hW⟩⟩ rfl rfl hl.1 rfl (lv_room (Nat.le_of_ble_eq_true rfl)) dX1_kindsAt_53 ⟨(Nat.zero_le _), (Nat.zero_le _)⟩) (fun r_7 hr_7 => ?_)
        subst hr_7
        refine W.eq (g2 := F0 m 56 ls [.ref (ad k)]) rfl ?_
        refine lv_astore (lv' := [(6, .ref (ad k)), (4, .int (hp_bits r p0 p1 p2 (k))), (5, .int (nI k)), (0, .ref o), (1, .int p0), (2, .int p1), (3, .int p2)]) hx hb dX1_kindsAt_56 hl (by decide) rfl (fun ls hl => ?_)
        refine lv_aload hx hb dX1_kindsAt_58 (lv_at hl 0 rfl) ?_
        refine lv_ifnull hx hb dX1_kindsAt_60 ?_
        refine lv_aload hx hb dX1_kindsAt_63 (lv_at hl 0 rfl) ?_
        refine va_get (D := (dC, dI)) (ci := 0) (v := .int (r 5 k)) (C := RX0) (T := TX0) (N := 10) hx hb hts hinX0 hown hK hP (6 + k) (hp_X_e (by omega)) rfl 1 (by decide) hf_154 (fun _ h9 => h9) rfl dX1_kindsAt_65 ?_
        refine lv_iload_n hx hb dX1_kindsAt_68 rfl (lv_at hl 4 rfl) ?_
        refine lv_icmp_ne (tgt := 102) hx hb dX1_kindsAt_69 (by decide) (fun c_8 => ?_) (fun c_8 => ?_)
        · skip
          refine lv_iinc (v := nI (k + 1)) (lv' := [(5, .int (nI (k + 1))), (6, .ref (ad k)), (4, .int (hp_bits r p0 p1 p2 (k))), (0, .ref o), (1, .int p0), (2, .int p1), (3, .int p2)]) hx hb dX1_kindsAt_102 hl (k := 2) rfl (nI_1 _) (by decide) rfl (fun ls hl => ?_)
          refine lv_goto (tgt := 41) hx hb dX1_kindsAt_105 (by decide) ?_
          have e_9 : hp_bits r p0 p1 p2 (k) = hp_bits r p0 p1 p2 (k + 1) := by first | (have h9 : hp_at r p0 p1 p2 k = true := (by simp [hp_atc hcv, c_2, c_4, c_6, c_6p, c_8]); exact (hp_bits_t h9).symm) | (have h9 : hp_at r p0 p1 p2 k = false := (by simp [hp_atc hcv, c_2, c_4, c_6, c_6p, c_8]); exact (hp_bits_f h9).symm)
          exact ih_5 hkn _ (by have h9 := lv_sub (l' := [(4, .int (hp_bits r p0 p1 p2 (k))), (5, .int (nI (k + 1))), (0, .ref o), (1, .int p0), (2, .int p1), (3, .int p2)]) hl [2, 0, 3, 4, 5, 6] rfl; rw [e_9] at h9; exact h9)
        · skip
          refine lv_aload hx hb dX1_kindsAt_72 (lv_at hl 0 rfl) ?_
          refine vp_callSi (W.runV (As := []) (rest := []) ⟨hx, hb, hml, hown, hts⟩ (c_X0_isThere l dC dI cI cZ cO cJ o b ad v r n k (by omega) ) (cwV 0 hts gX1_kindsAt_X0_isThere rfl rfl rfl (by decide +kernel) ⟨(Nat.le_of_ble_eq_true rfl), (Nat.le_of_ble_eq_true rfl)⟩) ⟨hp_fbX, va_recv hK hP (ci := 0) (q0 := 6 + k) rfl (hp_X_e (by omega)), fun U hU hW => ⟨rfl, hp_toX hP hK hN hU hW⟩⟩ rfl rfl hl.1 rfl (lv_room (Nat.le_of_ble_eq_true rfl)) dX1_kindsAt_74 ⟨(Nat.zero_le _), (Nat.zero_le _)⟩) (fun r_10 hr_10 => ?_)
          subst hr_10
          refine lv_if_eq (tgt := 102) hx hb dX1_kindsAt_77 (by decide) (fun c_11 => ?_) (fun c_11 => ?_)
          · skip
            have c_11 := hp_bz c_11
            refine lv_iinc (v := nI (k + 1)) (lv' := [(5, .int (nI (k + 1))), (6, .ref (ad k)), (4, .int (hp_bits r p0 p1 p2 (k))), (0, .ref o), (1, .int p0), (2, .int p1), (3, .int p2)]) hx hb dX1_kindsAt_102 hl (k := 2) rfl (nI_1 _) (by decide) rfl (fun ls hl => ?_)
            refine lv_goto (tgt := 41) hx hb dX1_kindsAt_105 (by decide) ?_
            have e_12 : hp_bits r p0 p1 p2 (k) = hp_bits r p0 p1 p2 (k + 1) := by first | (have h9 : hp_at r p0 p1 p2 k = true := (by simp [hp_atc hcv, c_2, c_4, c_6, c_6p, c_8, c_11]); exact (hp_bits_t h9).symm) | (have h9 : hp_at r p0 p1 p2 k = false := (by simp [hp_atc hcv, c_2, c_4, c_6, c_6p, c_8, c_11]); exact (hp_bits_f h9).symm)
            exact ih_5 hkn _ (by have h9 := lv_sub (l' := [(4, .int (hp_bits r p0 p1 p2 (k))), (5, .int (nI (k + 1))), (0, .ref o), (1, .int p0), (2, .int p1), (3, .int p2)]) hl [2, 0, 3, 4, 5, 6] rfl; rw [e_12] at h9; exact h9)
          · skip
            have c_11 := hp_bn c_11
            refine lv_aload hx hb dX1_kindsAt_80 (lv_at hl 0 rfl) ?_
            refine lv_iload_n hx hb dX1_kindsAt_82 rfl (lv_at hl 5 rfl) ?_
            refine lv_iload_n hx hb dX1_kindsAt_83 rfl (lv_at hl 6 rfl) ?_
            refine vp_callSi (W.runV (As := [.int p1, .int p2]) (rest := []) ⟨hx, hb, hml, hown, hts⟩ (c_X0_covers l dC dI cI cZ cO cJ o b ad v r n k (by omega) p1 p2) (cwV 2 hts gX1_kindsAt_X0_covers rfl rfl rfl (by decide +kernel) ⟨(Nat.le_of_ble_eq_true rfl), (Nat.le_of_ble_eq_true rfl)⟩) ⟨hp_fbX, va_recv hK hP (ci := 0) (q0 := 6 + k) rfl (hp_X_e (by omega)), fun U hU hW => ⟨rfl, hp_toX hP hK hN hU hW⟩⟩ rfl rfl hl.1 rfl (lv_room (Nat.le_of_ble_eq_true rfl)) dX1_kindsAt_84 ⟨(Nat.zero_le _), (Nat.zero_le _)⟩) (fun r_13 hr_13 => ?_)
            subst hr_13
            refine lv_if_eq (tgt := 102) hx hb dX1_kindsAt_87 (by decide) (fun c_14 => ?_) (fun c_14 => ?_)
            · skip
              have c_14 := hp_bz c_14
              refine lv_iinc (v := nI (k + 1)) (lv' := [(5, .int (nI (k + 1))), (6, .ref (ad k)), (4, .int (hp_bits r p0 p1 p2 (k))), (0, .ref o), (1, .int p0), (2, .int p1), (3, .int p2)]) hx hb dX1_kindsAt_102 hl (k := 2) rfl (nI_1 _) (by decide) rfl (fun ls hl => ?_)
              refine lv_goto (tgt := 41) hx hb dX1_kindsAt_105 (by decide) ?_
              have e_15 : hp_bits r p0 p1 p2 (k) = hp_bits r p0 p1 p2 (k + 1) := by first | (have h9 : hp_at r p0 p1 p2 k = true := (by simp [hp_atc hcv, c_2, c_4, c_6, c_6p, c_8, c_11, c_14]); exact (hp_bits_t h9).symm) | (have h9 : hp_at r p0 p1 p2 k = false := (by simp [hp_atc hcv, c_2, c_4, c_6, c_6p, c_8, c_11, c_14]); exact (hp_bits_f h9).symm)
              exact ih_5 hkn _ (by have h9 := lv_sub (l' := [(4, .int (hp_bits r p0 p1 p2 (k))), (5, .int (nI (k + 1))), (0, .ref o), (1, .int p0), (2, .int p1), (3, .int p2)]) hl [2, 0, 3, 4, 5, 6] rfl; rw [e_15] at h9; exact h9)
            · skip
              have c_14 := hp_bn c_14
              refine lv_iload hx hb dX1_kindsAt_90 (lv_at hl 1 rfl) ?_
              refine lv_iconst (v := 1) hx hb dX1_kindsAt_92 (by decide) ?_
              refine lv_aload hx hb dX1_kindsAt_93 (lv_at hl 0 rfl) ?_
              refine va_get (D := (dC, dI)) (ci := 0) (v := .int (r 4 k)) (C := RX0) (T := TX0) (N := 10) hx hb hts hinX0 hown hK hP (6 + k) (hp_X_e (by omega)) rfl 0 (by decide) hf_122 (fun _ h9 => h9) rfl dX1_kindsAt_95 ?_
              refine lv_ishl hx hb dX1_kindsAt_98 ?_
              refine lv_ior hx hb dX1_kindsAt_99 ?_
              refine lv_istore (lv' := [(4, .int ((hp_bits r p0 p1 p2 (k)) ||| (1 <<< ((r 4 k) &&& 31)))), (6, .ref (ad k)), (5, .int (nI k)), (0, .ref o), (1, .int p0), (2, .int p1), (3, .int p2)]) hx hb dX1_kindsAt_100 hl (by decide) rfl (fun ls hl => ?_)
              refine lv_iinc (v := nI (k + 1)) (lv' := [(5, .int (nI (k + 1))), (4, .int ((hp_bits r p0 p1 p2 (k)) ||| (1 <<< ((r 4 k) &&& 31)))), (6, .ref (ad k)), (0, .ref o), (1, .int p0), (2, .int p1), (3, .int p2)]) hx hb dX1_kindsAt_102 hl (k := 2) rfl (nI_1 _) (by decide) rfl (fun ls hl => ?_)
              refine lv_goto (tgt := 41) hx hb dX1_kindsAt_105 (by decide) ?_
              have e_16 : (hp_bits r p0 p1 p2 (k)) ||| (1 <<< ((r 4 k) &&& 31)) = hp_bits r p0 p1 p2 (k + 1) := by first | (have h9 : hp_at r p0 p1 p2 k = true := (by simp [hp_atc hcv, c_2, c_4, c_6, c_6p, c_8, c_11, c_14]); exact (hp_bits_t h9).symm) | (have h9 : hp_at r p0 p1 p2 k = false := (by simp [hp_atc hcv, c_2, c_4, c_6, c_6p, c_8, c_11, c_14]); exact (hp_bits_f h9).symm)
              exact ih_5 hkn _ (by have h9 := lv_sub (l' := [(4, .int ((hp_bits r p0 p1 p2 (k)) ||| (1 <<< ((r 4 k) &&& 31)))), (5, .int (nI (k + 1))), (0, .ref o), (1, .int p0), (2, .int p1), (3, .int p2)]) hl [1, 0, 3, 4, 5, 6] rfl; rw [e_16] at h9; exact h9)
    · skip
      have c_4 := hp_bz c_4
      exact hp_thr (mc := 1) (ms := 6) (k := 1) (nL := 7) hx hb hl0 hml htab hlocks hown hk_2 hi_2 hstr (List.mem_of_getElem? (i := 9) rfl) hat_2 hp_gd2 (by decide +kernel) hZu hZn hP hl dX1_kindsAt_25 dX1_kindsAt_28 dX1_kindsAt_29 dX1_kindsAt_31 dX1_kindsAt_34 ⟨(Nat.le_of_ble_eq_true rfl), (Nat.le_of_ble_eq_true rfl), (Nat.le_of_ble_eq_true rfl), (Nat.le_of_ble_eq_true rfl)⟩ ⟨(Nat.le_of_ble_eq_true rfl), (Nat.le_of_ble_eq_true rfl)⟩ rfl ((hp_cd2 (by first | assumption | (simp [c_2, c_4]; done)) (by first | assumption | (simp [c_2, c_4]; done))).symm)
  · skip
    have c_2 := hp_bz c_2
    exact hp_thr (mc := 1) (ms := 6) (k := 0) (nL := 7) hx hb hl0 hml htab hlocks hown hk_1 hi_1 hstr (List.mem_of_getElem? (i := 6) rfl) hat_1 hp_gd1 (by decide +kernel) hZu hZn hP hl dX1_kindsAt_7 dX1_kindsAt_10 dX1_kindsAt_11 dX1_kindsAt_13 dX1_kindsAt_16 ⟨(Nat.le_of_ble_eq_true rfl), (Nat.le_of_ble_eq_true rfl), (Nat.le_of_ble_eq_true rfl), (Nat.le_of_ble_eq_true rfl)⟩ ⟨(Nat.le_of_ble_eq_true rfl), (Nat.le_of_ble_eq_true rfl)⟩ rfl ((hp_cd1 (by first | assumption | (simp [c_2]; done))).symm)
set_option maxHeartbeats 400000 in
set_option maxRecDepth 100000 in
theorem c_X1_isLocked (l : Launch) (hl0 : l.stackTraces = false) (dC : Nat → ClassId) (dI : Nat → Nat → Nat) (cI cZ cO cJ : ClassId) (o : Nat) (b ad : Nat → Nat) (v : Nat → Int32) (r : Nat → Nat → Int32) (n : Nat) (sz : Nat)  (p0 : Int32) (hinv : hp_inv v r n) : vx_Met l yX1_isLocked wsX1_isLocked ({ frames := 6, cells := 1, slots := 6, locals := 82 }) (va_Pc [.ref o, .int p0] (hp_prT (dC, dI) cI cZ cO cJ (hp_X cI cZ cO o b ad v r n) sz)) (va_Qi (S := Nat → Nat) (fun x9 _ => hp_c_st p0 = 0 ∧ x9 = hp_b (hp_b_isLocked r p0)) (fun u9 t9 => va_P (dC, dI) vwCl (hp_X cI cZ cO o b u9 v r n) t9.heap ∧ va_D (va_A (hp_X cI cZ cO o b ad v r n) sz) (hp_X cI cZ cO o b u9 v r n)) (va_A (hp_X cI cZ cO o b ad v r n) sz)) (vx_X (S := Unit) (fun _ => True) (fun E9 _ t9 => hp_xc [hp_E1] (hp_c_st p0) E9 ∧ va_P (dC, dI) vwCl (hp_X cI cZ cO o b ad v r n) t9.heap) (va_A (hp_X cI cZ cO o b ad v r n) sz)) 1 6 (va_A (hp_X cI cZ cO o b ad v r n) sz) := by
  refine vx_ofW (cc := cX1_isLocked) (maxL := 2) (ret := (some .boolean)) (by decide) rfl ?_
  intro p e s m args below meth c s₁ B hml htab hv
  obtain ⟨rfl, hsz, hP, hK, hD0, hN, hstr, hZu, hZn⟩ := hv
  have hx := B.exec
  have hb := B.bytes
  have hr := B.returns
  have hts := atoms_spec (ws := wsX1_isLocked) B.pre
  have hown : s.vm.findClass RX1 = some m.cls := findClass_of_methodNamed B.named
  have hlocks := B.notSynchronized
  subst hsz
  have hD := hD0.self (sz := s.heap.size)
  generalize hAe : va_A (hp_X cI cZ cO o b ad v r n) s.heap.size = A at hD hZu hZn ⊢
  replace hD : ∀ v r, va_D A (hp_X cI cZ cO o b ad v r n) := fun _ _ => hp_dX hD
  have hA : ∀ q : Nat, s.heap.size ≤ q → A q := fun q h => by rw [← hAe]; exact Or.inr h
  have hS : va_S A s.heap s.heap [] := va_S.rf
  have hk_1 := hts (.classLink RX1 46 hp_E1) (by decide +kernel)
  have hi_1 := hts (.initialized hp_E1) (by decide +kernel)
  have hm_E1 : ∀ w ∈ (vx_atS RX1 50 hp_E1 hp_nm).filter goodWord, w ∈ wsX1_isLocked := by decide +kernel
  have hat_1 : ∀ w ∈ vx_atS RX1 50 hp_E1 hp_nm, w.before _ s = true := vx_hat (fun w h => hts w (hm_E1 w h)) hp_nb1 (hp_nB_of hN)
  have hf_29 := hts (.fieldLink RX1 29 "Wallplan" "locked" "[Z") (by decide +kernel)
  have hinX1 : ∀ w ∈ wsX10, w ∈ wsX1_isLocked := by decide +kernel
  have hl := lv_entry ([.ref o, .int p0]) (n := 2) (Nat.le_of_ble_eq_true rfl)
  rw [lg_entry_eq]
  generalize (lg_sl ([.ref o, .int p0]) ++ List.replicate (2 - (lg_sl ([.ref o, .int p0])).length) Slot.unset).toArray = ls at hl ⊢
  have hl : lv_has ls 2 [(0, .ref o), (1, .int p0)] := hl
  refine lv_iload_n hx hb dX1_isLocked_0 rfl (lv_at hl 1 rfl) ?_
  refine vp_callSi (W.runS (As := [.int p0]) (rest := []) ⟨hx, hb, hml, hown, hts⟩ (c_X1_isStorey l p0) (va_cwS 1 hts gX1_isLocked_X1_isStorey rfl rfl rfl (by decide +kernel) ⟨(Nat.le_of_ble_eq_true rfl), (Nat.le_of_ble_eq_true rfl)⟩) ⟨hp_nfb, fun _ _ _ => ⟨rfl, trivial⟩⟩ rfl rfl hl.1 rfl (lv_room (Nat.le_of_ble_eq_true rfl)) dX1_isLocked_1 ⟨(Nat.zero_le _), (Nat.zero_le _)⟩) (fun r_1 hr_1 => ?_)
  subst hr_1
  refine lv_if_ne (tgt := 17) hx hb dX1_isLocked_4 (by decide) (fun c_2 => ?_) (fun c_2 => ?_)
  · skip
    have c_2 := hp_bn c_2
    have xf := hp_st_ix c_2
    obtain ⟨b9, eb9⟩ := hinv.2.2.2.2.2.1 _ xf.2
    refine lv_aload_n hx hb dX1_isLocked_17 rfl (lv_at hl 0 rfl) ?_
    refine va_get (D := (dC, dI)) (ci := 1) (v := .ref (b 5)) (C := RX1) (T := TX1) (N := 8) hx hb hts hinX1 hown hK hP 0 hp_X_o rfl 5 (by decide) hf_29 (fun _ h9 => h9) rfl dX1_isLocked_18 ?_
    refine lv_iload_n hx hb dX1_isLocked_21 rfl (lv_at hl 1 rfl) ?_
    refine hp_zaldx (v := r 17 p0.toNatClampNeg) hx hb hK hP 5 1 hp_X_17 rfl (i := p0) (hp_vin xf (by decide) (by decide)) rfl dX1_isLocked_22 ?_
    have hc : hp_c_st p0 = 0 := (hp_cdz (by first | assumption | (simp [c_2]; done)) (by first | assumption | (simp [c_2]; done)) (by first | assumption | (simp [c_2]; done))).symm
    have hP9 : va_P (dC, dI) vwCl (hp_X cI cZ cO o b ad v r n) s.heap := by exact hP
    refine W.widen (k := 1) (n := 6) (Nat.le_of_ble_eq_true rfl) (Nat.le_of_ble_eq_true rfl) ?_
    exact vx_ret (W.zret (ty := .boolean) (v := r 17 p0.toNatClampNeg) hx hb hr (by rw [eb9]; exact hp_nar b9) (fun t ht hW => ⟨⟨r 17 p0.toNatClampNeg, ad, rfl, ⟨hc, (by rw [hp_b_isLocked, decide_eq_true hc, Bool.true_and, eb9]; exact hp_bnn b9)⟩, hp_ht ht hP9, hD _ _⟩, hS.F ht⟩) hS.2.2 dX1_isLocked_23)
  · skip
    have c_2 := hp_bz c_2
    exact hp_thr (mc := 1) (ms := 6) (k := 0) (nL := 2) hx hb hl0 hml htab hlocks hown hk_1 hi_1 hstr (List.mem_of_getElem? (i := 6) rfl) hat_1 hp_gd1 (by decide +kernel) hZu hZn hP hl dX1_isLocked_7 dX1_isLocked_10 dX1_isLocked_11 dX1_isLocked_13 dX1_isLocked_16 ⟨(Nat.le_of_ble_eq_true rfl), (Nat.le_of_ble_eq_true rfl), (Nat.le_of_ble_eq_true rfl), (Nat.le_of_ble_eq_true rfl)⟩ ⟨(Nat.le_of_ble_eq_true rfl), (Nat.le_of_ble_eq_true rfl)⟩ rfl ((hp_cd1 (by first | assumption | (simp [c_2]; done))).symm)
