/-! the class: its private methods that write -/
set_option maxHeartbeats 400000 in
set_option maxRecDepth 100000 in
theorem c_X1_noteChange (l : Launch) (dC : Nat → ClassId) (dI : Nat → Nat → Nat) (cI cZ cO cJ : ClassId) (o : Nat) (b ad : Nat → Nat) (v : Nat → Int32) (r : Nat → Nat → Int32) (n : Nat) (sz : Nat)  (i : Nat) (hi : i < n) (p1 : Int32) : Met l yX1_noteChange wsX1_noteChange ({ frames := 0, cells := 0, slots := 0, locals := 0 }) (va_Pc [.ref o, .ref (ad i), .int p1] (hp_prmX (dC, dI) cI cZ cO cJ (hp_X cI cZ cO o b ad v r n) sz)) (va_Qv (S := Unit) (fun _ => True) (fun _ t9 => va_P (dC, dI) vwCl (hp_X cI cZ cO o b ad (hp_rv v) (hp_chg r i (v 2 + 1) p1) n) t9.heap) (va_A (hp_X cI cZ cO o b ad v r n) sz)) 0 0 (va_A (hp_X cI cZ cO o b ad v r n) sz) := by
  refine Met.ofW (cc := cX1_noteChange) (maxL := 3) (ret := none) (by decide) rfl ?_
  intro p e s m args below meth c s₁ B hml hv
  obtain ⟨rfl, hsz, hP, hK, hD0, hN⟩ := hv
  have hx := B.exec
  have hb := B.bytes
  have hr := B.returns
  have hts := atoms_spec (ws := wsX1_noteChange) B.pre
  have hown : s.vm.findClass RX1 = some m.cls := findClass_of_methodNamed B.named
  have hlocks := B.notSynchronized
  subst hsz
  have hD := hD0.self (sz := s.heap.size)
  generalize hAe : va_A (hp_X cI cZ cO o b ad v r n) s.heap.size = A at hD ⊢
  replace hD : ∀ v r, va_D A (hp_X cI cZ cO o b ad v r n) := fun _ _ => hp_dX hD
  have hA : ∀ q : Nat, s.heap.size ≤ q → A q := fun q h => by rw [← hAe]; exact Or.inr h
  have hS : va_S A s.heap s.heap [] := va_S.rf
  have hf_33 := hts (.fieldLink RX1 33 "Wallplan" "latestRevision" "I") (by decide +kernel)
  have hf_169 := hts (.fieldLink RX1 169 "Wallplan$Element" "changeRevision" "I") (by decide +kernel)
  have hf_172 := hts (.fieldLink RX1 172 "Wallplan$Element" "changeTrade" "I") (by decide +kernel)
  have hinX0 : ∀ w ∈ wsX00, w ∈ wsX1_noteChange := by decide +kernel
  have hinX1 : ∀ w ∈ wsX10, w ∈ wsX1_noteChange := by decide +kernel
  have hl := lv_entry ([.ref o, .ref (ad i), .int p1]) (n := 3) (Nat.le_of_ble_eq_true rfl)
  rw [lg_entry_eq]
  generalize (lg_sl ([.ref o, .ref (ad i), .int p1]) ++ List.replicate (3 - (lg_sl ([.ref o, .ref (ad i), .int p1])).length) Slot.unset).toArray = ls at hl ⊢
  have hl : lv_has ls 3 [(0, .ref o), (1, .ref (ad i)), (2, .int p1)] := hl
  refine lv_aload_n hx hb dX1_noteChange_0 rfl (lv_at hl 0 rfl) ?_
  refine lv_dup hx hb dX1_noteChange_1 rfl ?_
  refine va_get (D := (dC, dI)) (ci := 1) (v := .int (v 2)) (C := RX1) (T := TX1) (N := 8) hx hb hts hinX1 hown hK hP 0 hp_X_o rfl 6 (by decide) hf_33 (fun _ h9 => h9) rfl dX1_noteChange_2 ?_
  refine lv_iconst (v := 1) hx hb dX1_noteChange_5 (by decide) ?_
  refine lv_iadd hx hb dX1_noteChange_6 ?_
  refine va_put (D := (dC, dI)) (ci := 1) (v := .int ((v 2) + 1)) (ty := .int) (C := RX1) (T := TX1) (N := 8) hx hb hts hinX1 tyX1 tyX1_ok nmX1 hown hK hP (hD _ _) hS 0 hp_X_o rfl 6 (by decide) hf_33 (fun _ h9 => h9) rfl (by decide +kernel) rfl rfl (Nat.le_of_ble_eq_true rfl) dX1_noteChange_7 (fun H_1 locs_1 hP1 _ hS1 => ?_)
  replace hP : va_P (dC, dI) vwCl (hp_X cI cZ cO o b ad (va_up v 2 ((v 2) + 1)) r n) H_1 := hp_cP hp_X_p2 hP1
  replace hS := hS1
  clear hP1 hS1
  refine lv_aload_n hx hb dX1_noteChange_10 rfl (lv_at hl 1 rfl) ?_
  refine lv_aload_n hx hb dX1_noteChange_11 rfl (lv_at hl 0 rfl) ?_
  refine va_get (D := (dC, dI)) (ci := 1) (v := .int ((v 2) + 1)) (C := RX1) (T := TX1) (N := 8) hx hb hts hinX1 hown hK hP 0 hp_X_o rfl 6 (by decide) hf_33 (fun _ h9 => h9) rfl dX1_noteChange_12 ?_
  refine va_put (D := (dC, dI)) (ci := 0) (v := .int ((v 2) + 1)) (ty := .int) (C := RX0) (T := TX0) (N := 10) hx hb hts hinX0 tyX0 tyX0_ok nmX0 hown hK hP (hD _ _) hS (6 + i) (hp_X_e (by omega)) rfl 7 (by decide) hf_169 (fun _ h9 => h9) rfl (by decide +kernel) rfl rfl (Nat.le_of_ble_eq_true rfl) dX1_noteChange_15 (fun H_2 locs_2 hP1 _ hS1 => ?_)
  replace hP : va_P (dC, dI) vwCl (hp_X cI cZ cO o b ad (va_up v 2 ((v 2) + 1)) (hp_set r 11 i ((v 2) + 1)) n) H_2 := hp_cP (hp_X_f7 (by omega)) hP1
  replace hS := hS1
  clear hP1 hS1
  refine lv_aload_n hx hb dX1_noteChange_18 rfl (lv_at hl 1 rfl) ?_
  refine lv_iload_n hx hb dX1_noteChange_19 rfl (lv_at hl 2 rfl) ?_
  refine va_put (D := (dC, dI)) (ci := 0) (v := .int p1) (ty := .int) (C := RX0) (T := TX0) (N := 10) hx hb hts hinX0 tyX0 tyX0_ok nmX0 hown hK hP (hD _ _) hS (6 + i) (hp_X_e (by omega)) rfl 8 (by decide) hf_172 (fun _ h9 => h9) rfl (by decide +kernel) rfl rfl (Nat.le_of_ble_eq_true rfl) dX1_noteChange_20 (fun H_3 locs_3 hP1 _ hS1 => ?_)
  replace hP : va_P (dC, dI) vwCl (hp_X cI cZ cO o b ad (va_up v 2 ((v 2) + 1)) (hp_set (hp_set r 11 i ((v 2) + 1)) 12 i p1) n) H_3 := hp_cP (hp_X_f8 (by omega)) hP1
  replace hS := hS1
  clear hP1 hS1
  have hP9 : va_P (dC, dI) vwCl (hp_X cI cZ cO o b ad (hp_rv v) (hp_chg r i (v 2 + 1) p1) n) H_3 := by exact hP
  exact W.vret hx hb hr (fun t ht hW => ⟨⟨(), rfl, trivial, hp_ht ht hP9⟩, hS.F ht⟩) hS.2.2 dX1_noteChange_23
set_option maxHeartbeats 400000 in
set_option maxRecDepth 100000 in
theorem c_X0_shift (l : Launch) (dC : Nat → ClassId) (dI : Nat → Nat → Nat) (cI cZ cO cJ : ClassId) (o : Nat) (b ad : Nat → Nat) (v : Nat → Int32) (r : Nat → Nat → Int32) (n : Nat) (sz : Nat)  (i : Nat) (hi : i < n)  (p1 p2 : Int32) : Met l yX0_shift wsX0_shift ({ frames := 0, cells := 0, slots := 0, locals := 0 }) (va_Pc [.ref (ad i), .int p1, .int p2] (hp_prmX (dC, dI) cI cZ cO cJ (hp_X cI cZ cO o b ad v r n) sz)) (va_Qv (S := Unit) (fun _ => True) (fun _ t9 => va_P (dC, dI) vwCl (hp_X cI cZ cO o b ad v (hp_shf r i p1 p2) n) t9.heap) (va_A (hp_X cI cZ cO o b ad v r n) sz)) 0 0 (va_A (hp_X cI cZ cO o b ad v r n) sz) := by
  refine Met.ofW (cc := cX0_shift) (maxL := 3) (ret := none) (by decide) rfl ?_
  intro p e s m args below meth c s₁ B hml hv
  obtain ⟨rfl, hsz, hP, hK, hD0, hN⟩ := hv
  have hx := B.exec
  have hb := B.bytes
  have hr := B.returns
  have hts := atoms_spec (ws := wsX0_shift) B.pre
  have hown : s.vm.findClass RX0 = some m.cls := findClass_of_methodNamed B.named
  have hlocks := B.notSynchronized
  subst hsz
  have hD := hD0.self (sz := s.heap.size)
  generalize hAe : va_A (hp_X cI cZ cO o b ad v r n) s.heap.size = A at hD ⊢
  replace hD : ∀ v r, va_D A (hp_X cI cZ cO o b ad v r n) := fun _ _ => hp_dX hD
  have hA : ∀ q : Nat, s.heap.size ≤ q → A q := fun q h => by rw [← hAe]; exact Or.inr h
  have hS : va_S A s.heap s.heap [] := va_S.rf
  have hf_24 := hts (.fieldLink RX0 24 "Wallplan$Element" "fromX" "I") (by decide +kernel)
  have hf_27 := hts (.fieldLink RX0 27 "Wallplan$Element" "fromY" "I") (by decide +kernel)
  have hf_30 := hts (.fieldLink RX0 30 "Wallplan$Element" "toX" "I") (by decide +kernel)
  have hf_33 := hts (.fieldLink RX0 33 "Wallplan$Element" "toY" "I") (by decide +kernel)
  have hinX0 : ∀ w ∈ wsX00, w ∈ wsX0_shift := by decide +kernel
  have hl := lv_entry ([.ref (ad i), .int p1, .int p2]) (n := 3) (Nat.le_of_ble_eq_true rfl)
  rw [lg_entry_eq]
  generalize (lg_sl ([.ref (ad i), .int p1, .int p2]) ++ List.replicate (3 - (lg_sl ([.ref (ad i), .int p1, .int p2])).length) Slot.unset).toArray = ls at hl ⊢
  have hl : lv_has ls 3 [(0, .ref (ad i)), (1, .int p1), (2, .int p2)] := hl
  refine lv_aload_n hx hb dX0_shift_0 rfl (lv_at hl 0 rfl) ?_
  refine lv_dup hx hb dX0_shift_1 rfl ?_
  refine va_get (D := (dC, dI)) (ci := 0) (v := .int (r 6 i)) (C := RX0) (T := TX0) (N := 10) hx hb hts hinX0 hown hK hP (6 + i) (hp_X_e (by omega)) rfl 2 (by decide) hf_24 (fun _ h9 => h9) rfl dX0_shift_2 ?_
  refine lv_iload_n hx hb dX0_shift_5 rfl (lv_at hl 1 rfl) ?_
  refine lv_iadd hx hb dX0_shift_6 ?_
  refine va_put (D := (dC, dI)) (ci := 0) (v := .int ((r 6 i) + p1)) (ty := .int) (C := RX0) (T := TX0) (N := 10) hx hb hts hinX0 tyX0 tyX0_ok nmX0 hown hK hP (hD _ _) hS (6 + i) (hp_X_e (by omega)) rfl 2 (by decide) hf_24 (fun _ h9 => h9) rfl (by decide +kernel) rfl rfl (Nat.le_of_ble_eq_true rfl) dX0_shift_7 (fun H_1 locs_1 hP1 _ hS1 => ?_)
  replace hP : va_P (dC, dI) vwCl (hp_X cI cZ cO o b ad v (hp_set r 6 i ((r 6 i) + p1)) n) H_1 := hp_cP (hp_X_f2 (by omega)) hP1
  replace hS := hS1
  clear hP1 hS1
  refine lv_aload_n hx hb dX0_shift_10 rfl (lv_at hl 0 rfl) ?_
  refine lv_dup hx hb dX0_shift_11 rfl ?_
  refine va_get (D := (dC, dI)) (ci := 0) (v := .int (r 7 i)) (C := RX0) (T := TX0) (N := 10) hx hb hts hinX0 hown hK hP (6 + i) (hp_X_e (by omega)) rfl 3 (by decide) hf_27 (fun _ h9 => h9) rfl dX0_shift_12 ?_
  refine lv_iload_n hx hb dX0_shift_15 rfl (lv_at hl 2 rfl) ?_
  refine lv_iadd hx hb dX0_shift_16 ?_
  refine va_put (D := (dC, dI)) (ci := 0) (v := .int ((r 7 i) + p2)) (ty := .int) (C := RX0) (T := TX0) (N := 10) hx hb hts hinX0 tyX0 tyX0_ok nmX0 hown hK hP (hD _ _) hS (6 + i) (hp_X_e (by omega)) rfl 3 (by decide) hf_27 (fun _ h9 => h9) rfl (by decide +kernel) rfl rfl (Nat.le_of_ble_eq_true rfl) dX0_shift_17 (fun H_2 locs_2 hP1 _ hS1 => ?_)
  replace hP : va_P (dC, dI) vwCl (hp_X cI cZ cO o b ad v (hp_set (hp_set r 6 i ((r 6 i) + p1)) 7 i ((r 7 i) + p2)) n) H_2 := hp_cP (hp_X_f3 (by omega)) hP1
  replace hS := hS1
  clear hP1 hS1
  refine lv_aload_n hx hb dX0_shift_20 rfl (lv_at hl 0 rfl) ?_
  refine lv_dup hx hb dX0_shift_21 rfl ?_
  refine va_get (D := (dC, dI)) (ci := 0) (v := .int (r 8 i)) (C := RX0) (T := TX0) (N := 10) hx hb hts hinX0 hown hK hP (6 + i) (hp_X_e (by omega)) rfl 4 (by decide) hf_30 (fun _ h9 => h9) rfl dX0_shift_22 ?_
  refine lv_iload_n hx hb dX0_shift_25 rfl (lv_at hl 1 rfl) ?_
  refine lv_iadd hx hb dX0_shift_26 ?_
  refine va_put (D := (dC, dI)) (ci := 0) (v := .int ((r 8 i) + p1)) (ty := .int) (C := RX0) (T := TX0) (N := 10) hx hb hts hinX0 tyX0 tyX0_ok nmX0 hown hK hP (hD _ _) hS (6 + i) (hp_X_e (by omega)) rfl 4 (by decide) hf_30 (fun _ h9 => h9) rfl (by decide +kernel) rfl rfl (Nat.le_of_ble_eq_true rfl) dX0_shift_27 (fun H_3 locs_3 hP1 _ hS1 => ?_)
  replace hP : va_P (dC, dI) vwCl (hp_X cI cZ cO o b ad v (hp_set (hp_set (hp_set r 6 i ((r 6 i) + p1)) 7 i ((r 7 i) + p2)) 8 i ((r 8 i) + p1)) n) H_3 := hp_cP (hp_X_f4 (by omega)) hP1
  replace hS := hS1
  clear hP1 hS1
  refine lv_aload_n hx hb dX0_shift_30 rfl (lv_at hl 0 rfl) ?_
  refine lv_dup hx hb dX0_shift_31 rfl ?_
  refine va_get (D := (dC, dI)) (ci := 0) (v := .int (r 9 i)) (C := RX0) (T := TX0) (N := 10) hx hb hts hinX0 hown hK hP (6 + i) (hp_X_e (by omega)) rfl 5 (by decide) hf_33 (fun _ h9 => h9) rfl dX0_shift_32 ?_
  refine lv_iload_n hx hb dX0_shift_35 rfl (lv_at hl 2 rfl) ?_
  refine lv_iadd hx hb dX0_shift_36 ?_
  refine va_put (D := (dC, dI)) (ci := 0) (v := .int ((r 9 i) + p2)) (ty := .int) (C := RX0) (T := TX0) (N := 10) hx hb hts hinX0 tyX0 tyX0_ok nmX0 hown hK hP (hD _ _) hS (6 + i) (hp_X_e (by omega)) rfl 5 (by decide) hf_33 (fun _ h9 => h9) rfl (by decide +kernel) rfl rfl (Nat.le_of_ble_eq_true rfl) dX0_shift_37 (fun H_4 locs_4 hP1 _ hS1 => ?_)
  replace hP : va_P (dC, dI) vwCl (hp_X cI cZ cO o b ad v (hp_set (hp_set (hp_set (hp_set r 6 i ((r 6 i) + p1)) 7 i ((r 7 i) + p2)) 8 i ((r 8 i) + p1)) 9 i ((r 9 i) + p2)) n) H_4 := hp_cP (hp_X_f5 (by omega)) hP1
  replace hS := hS1
  clear hP1 hS1
  have hP9 : va_P (dC, dI) vwCl (hp_X cI cZ cO o b ad v (hp_shf r i p1 p2) n) H_4 := by exact hP
  exact W.vret hx hb hr (fun t ht hW => ⟨⟨(), rfl, trivial, hp_ht ht hP9⟩, hS.F ht⟩) hS.2.2 dX0_shift_40
set_option maxHeartbeats 400000 in
set_option maxRecDepth 100000 in
theorem c_X0_deliverIfDue (l : Launch) (dC : Nat → ClassId) (dI : Nat → Nat → Nat) (cI cZ cO cJ : ClassId) (o : Nat) (b ad : Nat → Nat) (v : Nat → Int32) (r : Nat → Nat → Int32) (n : Nat) (sz : Nat)  (i : Nat) (hi : i < n)  (p1 : Int32) : Met l yX0_deliverIfDue wsX0_deliverIfDue ({ frames := 0, cells := 0, slots := 0, locals := 0 }) (va_Pc [.ref (ad i), .int p1] (hp_prmX (dC, dI) cI cZ cO cJ (hp_X cI cZ cO o b ad v r n) sz)) (va_Qv (S := Unit) (fun _ => True) (fun _ t9 => va_P (dC, dI) vwCl (hp_X cI cZ cO o b ad v (hp_dif r i p1) n) t9.heap) (va_A (hp_X cI cZ cO o b ad v r n) sz)) 0 0 (va_A (hp_X cI cZ cO o b ad v r n) sz) := by
  refine Met.ofW (cc := cX0_deliverIfDue) (maxL := 2) (ret := none) (by decide) rfl ?_
  intro p e s m args below meth c s₁ B hml hv
  obtain ⟨rfl, hsz, hP, hK, hD0, hN⟩ := hv
  have hx := B.exec
  have hb := B.bytes
  have hr := B.returns
  have hts := atoms_spec (ws := wsX0_deliverIfDue) B.pre
  have hown : s.vm.findClass RX0 = some m.cls := findClass_of_methodNamed B.named
  have hlocks := B.notSynchronized
  subst hsz
  have hD := hD0.self (sz := s.heap.size)
  generalize hAe : va_A (hp_X cI cZ cO o b ad v r n) s.heap.size = A at hD ⊢
  replace hD : ∀ v r, va_D A (hp_X cI cZ cO o b ad v r n) := fun _ _ => hp_dX hD
  have hA : ∀ q : Nat, s.heap.size ≤ q → A q := fun q h => by rw [← hAe]; exact Or.inr h
  have hS : va_S A s.heap s.heap [] := va_S.rf
  have hf_9 := hts (.fieldLink RX0 9 "Wallplan$Element" "state" "I") (by decide +kernel)
  have hf_15 := hts (.fieldLink RX0 15 "Wallplan$Element" "deliveryDay" "I") (by decide +kernel)
  have hinX0 : ∀ w ∈ wsX00, w ∈ wsX0_deliverIfDue := by decide +kernel
  have hl := lv_entry ([.ref (ad i), .int p1]) (n := 2) (Nat.le_of_ble_eq_true rfl)
  rw [lg_entry_eq]
  generalize (lg_sl ([.ref (ad i), .int p1]) ++ List.replicate (2 - (lg_sl ([.ref (ad i), .int p1])).length) Slot.unset).toArray = ls at hl ⊢
  have hl : lv_has ls 2 [(0, .ref (ad i)), (1, .int p1)] := hl
  refine lv_aload_n hx hb dX0_deliverIfDue_0 rfl (lv_at hl 0 rfl) ?_
  refine va_get (D := (dC, dI)) (ci := 0) (v := .int (r 10 i)) (C := RX0) (T := TX0) (N := 10) hx hb hts hinX0 hown hK hP (6 + i) (hp_X_e (by omega)) rfl 6 (by decide) hf_9 (fun _ h9 => h9) rfl dX0_deliverIfDue_1 ?_
  refine lv_iconst (v := 1) hx hb dX0_deliverIfDue_4 (by decide) ?_
  refine lv_icmp_ne (tgt := 21) hx hb dX0_deliverIfDue_5 (by decide) (fun c_1 => ?_) (fun c_1 => ?_)
  · skip
    have hP9 : va_P (dC, dI) vwCl (hp_X cI cZ cO o b ad v (hp_dif r i p1) n) s.heap := by have h9 : ¬ ((r 10 i == 1) && decide (r 13 i ≤ p1)) = true := (by simp [c_1]); rw [hp_dif, if_neg h9]; exact hP
    exact W.vret hx hb hr (fun t ht hW => ⟨⟨(), rfl, trivial, hp_ht ht hP9⟩, hS.F ht⟩) hS.2.2 dX0_deliverIfDue_21
  · skip
    refine lv_iload_n hx hb dX0_deliverIfDue_8 rfl (lv_at hl 1 rfl) ?_
    refine lv_aload_n hx hb dX0_deliverIfDue_9 rfl (lv_at hl 0 rfl) ?_
    refine va_get (D := (dC, dI)) (ci := 0) (v := .int (r 13 i)) (C := RX0) (T := TX0) (N := 10) hx hb hts hinX0 hown hK hP (6 + i) (hp_X_e (by omega)) rfl 9 (by decide) hf_15 (fun _ h9 => h9) rfl dX0_deliverIfDue_10 ?_
    refine lv_icmp_lt (tgt := 21) hx hb dX0_deliverIfDue_13 (by decide) (fun c_2 => ?_) (fun c_2 => ?_)
    · skip
      have c_2n := hp_ltn c_2
      have hP9 : va_P (dC, dI) vwCl (hp_X cI cZ cO o b ad v (hp_dif r i p1) n) s.heap := by have h9 : ¬ ((r 10 i == 1) && decide (r 13 i ≤ p1)) = true := (by simp [c_1, c_2, c_2n]); rw [hp_dif, if_neg h9]; exact hP
      exact W.vret hx hb hr (fun t ht hW => ⟨⟨(), rfl, trivial, hp_ht ht hP9⟩, hS.F ht⟩) hS.2.2 dX0_deliverIfDue_21
    · skip
      have c_2p := hp_nlt c_2
      refine lv_aload_n hx hb dX0_deliverIfDue_16 rfl (lv_at hl 0 rfl) ?_
      refine lv_iconst (v := 2) hx hb dX0_deliverIfDue_17 (by decide) ?_
      refine va_put (D := (dC, dI)) (ci := 0) (v := .int 2) (ty := .int) (C := RX0) (T := TX0) (N := 10) hx hb hts hinX0 tyX0 tyX0_ok nmX0 hown hK hP (hD _ _) hS (6 + i) (hp_X_e (by omega)) rfl 6 (by decide) hf_9 (fun _ h9 => h9) rfl (by decide +kernel) rfl rfl (Nat.le_of_ble_eq_true rfl) dX0_deliverIfDue_18 (fun H_3 locs_3 hP1 _ hS1 => ?_)
      replace hP : va_P (dC, dI) vwCl (hp_X cI cZ cO o b ad v (hp_set r 10 i 2) n) H_3 := hp_cP (hp_X_f6 (by omega)) hP1
      replace hS := hS1
      clear hP1 hS1
      have hP9 : va_P (dC, dI) vwCl (hp_X cI cZ cO o b ad v (hp_dif r i p1) n) H_3 := by have h9 : ((r 10 i == 1) && decide (r 13 i ≤ p1)) = true := (by simp [c_1, c_2, c_2p]); rw [hp_dif, if_pos h9]; exact hP
      exact W.vret hx hb hr (fun t ht hW => ⟨⟨(), rfl, trivial, hp_ht ht hP9⟩, hS.F ht⟩) hS.2.2 dX0_deliverIfDue_21
