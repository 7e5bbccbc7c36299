/-! the reference: what is asked, inspections and days -/
set_option maxHeartbeats 400000 in
set_option maxRecDepth 100000 in
theorem c_X2_day (l : Launch) (dC : Nat → ClassId) (dI : Nat → Nat → Nat) (cI cZ cO cJ : ClassId) (o : Nat) (a : Nat → Nat) (v : Nat → Int32) (r : Nat → Nat → Int32) (n : Nat) (sz : Nat)   : Met l yX2_day wsX2_day ({ frames := 0, cells := 0, slots := 0, locals := 0 }) (va_Pc [.ref o] (hp_prm (dC, dI) cI cZ cO cJ (hp_M cI cZ o a v r n) sz)) (va_Qi (S := Unit) (fun x9 _ => x9 = v 1) (fun _ t9 => va_P (dC, dI) vwCl (hp_M cI cZ o a (va_up v 0 0) r n) t9.heap) (va_A (hp_M cI cZ o a v r n) sz)) 0 0 (va_A (hp_M cI cZ o a v r n) sz) := by
  refine Met.ofW (cc := cX2_day) (maxL := 1) (ret := (some .int)) (by decide) rfl ?_
  intro p e s m args below meth c s₁ B hml hv
  obtain ⟨rfl, hsz, hP, hK, hD0⟩ := hv
  have hx := B.exec
  have hb := B.bytes
  have hr := B.returns
  have hts := atoms_spec (ws := wsX2_day) B.pre
  have hown : s.vm.findClass RX2 = some m.cls := findClass_of_methodNamed B.named
  have hlocks := B.notSynchronized
  subst hsz
  have hD := hD0.self (sz := s.heap.size)
  generalize hAe : va_A (hp_M cI cZ o a v r n) s.heap.size = A at hD ⊢
  replace hD : ∀ v r n, va_D A (hp_M cI cZ o a v r n) := fun _ _ _ => hp_dM hD
  have hA : ∀ q : Nat, s.heap.size ≤ q → A q := fun q h => by rw [← hAe]; exact Or.inr h
  have hS : va_S A s.heap s.heap [] := va_S.rf
  have hf_53 := hts (.fieldLink RX2 53 "WallplanModel" "thrown" "I") (by decide +kernel)
  have hf_97 := hts (.fieldLink RX2 97 "WallplanModel" "day" "I") (by decide +kernel)
  have hinX2 : ∀ w ∈ wsX20, w ∈ wsX2_day := by decide +kernel
  have hl := lv_entry ([.ref o]) (n := 1) (Nat.le_of_ble_eq_true rfl)
  rw [lg_entry_eq]
  generalize (lg_sl ([.ref o]) ++ List.replicate (1 - (lg_sl ([.ref o])).length) Slot.unset).toArray = ls at hl ⊢
  have hl : lv_has ls 1 [(0, .ref o)] := hl
  refine lv_aload_n hx hb dX2_day_0 rfl (lv_at hl 0 rfl) ?_
  refine lv_iconst (v := 0) hx hb dX2_day_1 (by decide) ?_
  refine va_put (D := (dC, dI)) (ci := 2) (v := .int 0) (ty := .int) (C := RX2) (T := TX2) (N := 18) hx hb hts hinX2 tyX2 tyX2_ok nmX2 hown hK hP (hD _ _ _) hS 0 hp_M_o rfl 0 (by decide) hf_53 (fun _ h9 => h9) rfl (by decide +kernel) rfl rfl (Nat.le_of_ble_eq_true rfl) dX2_day_2 (fun H_1 locs_1 hP1 _ hS1 => ?_)
  replace hP : va_P (dC, dI) vwCl (hp_M cI cZ o a (va_up v 0 0) r n) H_1 := hp_cP hp_M_p0 hP1
  replace hS := hS1
  clear hP1 hS1
  refine lv_aload_n hx hb dX2_day_5 rfl (lv_at hl 0 rfl) ?_
  refine va_get (D := (dC, dI)) (ci := 2) (v := .int (v 1)) (C := RX2) (T := TX2) (N := 18) hx hb hts hinX2 hown hK hP 0 hp_M_o rfl 1 (by decide) hf_97 (fun _ h9 => h9) rfl dX2_day_6 ?_
  have hP9 : va_P (dC, dI) vwCl (hp_M cI cZ o a (va_up v 0 0) r n) H_1 := by exact hP
  exact W.iret (v := v 1) hx hb hr (fun t ht hW => ⟨⟨v 1, (), rfl, (by rfl), hp_ht ht hP9⟩, hS.F ht⟩) hS.2.2 dX2_day_9
set_option maxHeartbeats 400000 in
set_option maxRecDepth 100000 in
theorem c_X2_revision (l : Launch) (dC : Nat → ClassId) (dI : Nat → Nat → Nat) (cI cZ cO cJ : ClassId) (o : Nat) (a : Nat → Nat) (v : Nat → Int32) (r : Nat → Nat → Int32) (n : Nat) (sz : Nat)   : Met l yX2_revision wsX2_revision ({ frames := 0, cells := 0, slots := 0, locals := 0 }) (va_Pc [.ref o] (hp_prm (dC, dI) cI cZ cO cJ (hp_M cI cZ o a v r n) sz)) (va_Qi (S := Unit) (fun x9 _ => x9 = v 2) (fun _ t9 => va_P (dC, dI) vwCl (hp_M cI cZ o a (va_up v 0 0) r n) t9.heap) (va_A (hp_M cI cZ o a v r n) sz)) 0 0 (va_A (hp_M cI cZ o a v r n) sz) := by
  refine Met.ofW (cc := cX2_revision) (maxL := 1) (ret := (some .int)) (by decide) rfl ?_
  intro p e s m args below meth c s₁ B hml hv
  obtain ⟨rfl, hsz, hP, hK, hD0⟩ := hv
  have hx := B.exec
  have hb := B.bytes
  have hr := B.returns
  have hts := atoms_spec (ws := wsX2_revision) B.pre
  have hown : s.vm.findClass RX2 = some m.cls := findClass_of_methodNamed B.named
  have hlocks := B.notSynchronized
  subst hsz
  have hD := hD0.self (sz := s.heap.size)
  generalize hAe : va_A (hp_M cI cZ o a v r n) s.heap.size = A at hD ⊢
  replace hD : ∀ v r n, va_D A (hp_M cI cZ o a v r n) := fun _ _ _ => hp_dM hD
  have hA : ∀ q : Nat, s.heap.size ≤ q → A q := fun q h => by rw [← hAe]; exact Or.inr h
  have hS : va_S A s.heap s.heap [] := va_S.rf
  have hf_53 := hts (.fieldLink RX2 53 "WallplanModel" "thrown" "I") (by decide +kernel)
  have hf_64 := hts (.fieldLink RX2 64 "WallplanModel" "revision" "I") (by decide +kernel)
  have hinX2 : ∀ w ∈ wsX20, w ∈ wsX2_revision := by decide +kernel
  have hl := lv_entry ([.ref o]) (n := 1) (Nat.le_of_ble_eq_true rfl)
  rw [lg_entry_eq]
  generalize (lg_sl ([.ref o]) ++ List.replicate (1 - (lg_sl ([.ref o])).length) Slot.unset).toArray = ls at hl ⊢
  have hl : lv_has ls 1 [(0, .ref o)] := hl
  refine lv_aload_n hx hb dX2_revision_0 rfl (lv_at hl 0 rfl) ?_
  refine lv_iconst (v := 0) hx hb dX2_revision_1 (by decide) ?_
  refine va_put (D := (dC, dI)) (ci := 2) (v := .int 0) (ty := .int) (C := RX2) (T := TX2) (N := 18) hx hb hts hinX2 tyX2 tyX2_ok nmX2 hown hK hP (hD _ _ _) hS 0 hp_M_o rfl 0 (by decide) hf_53 (fun _ h9 => h9) rfl (by decide +kernel) rfl rfl (Nat.le_of_ble_eq_true rfl) dX2_revision_2 (fun H_1 locs_1 hP1 _ hS1 => ?_)
  replace hP : va_P (dC, dI) vwCl (hp_M cI cZ o a (va_up v 0 0) r n) H_1 := hp_cP hp_M_p0 hP1
  replace hS := hS1
  clear hP1 hS1
  refine lv_aload_n hx hb dX2_revision_5 rfl (lv_at hl 0 rfl) ?_
  refine va_get (D := (dC, dI)) (ci := 2) (v := .int (v 2)) (C := RX2) (T := TX2) (N := 18) hx hb hts hinX2 hown hK hP 0 hp_M_o rfl 2 (by decide) hf_64 (fun _ h9 => h9) rfl dX2_revision_6 ?_
  have hP9 : va_P (dC, dI) vwCl (hp_M cI cZ o a (va_up v 0 0) r n) H_1 := by exact hP
  exact W.iret (v := v 2) hx hb hr (fun t ht hW => ⟨⟨v 2, (), rfl, (by rfl), hp_ht ht hP9⟩, hS.F ht⟩) hS.2.2 dX2_revision_9
set_option maxHeartbeats 400000 in
set_option maxRecDepth 100000 in
theorem c_X2_elementOf (l : Launch) (dC : Nat → ClassId) (dI : Nat → Nat → Nat) (cI cZ cO cJ : ClassId) (o : Nat) (a : Nat → Nat) (v : Nat → Int32) (r : Nat → Nat → Int32) (n : Nat) (sz : Nat)  (p0 p1 : Int32) (hinv : hp_inv v r n) : Met l yX2_elementOf wsX2_elementOf ({ frames := 2, cells := 0, slots := 0, locals := 43 }) (va_Pc [.ref o, .int p0, .int p1] (hp_prm (dC, dI) cI cZ cO cJ (hp_M cI cZ o a v r n) sz)) (va_Qi (S := Unit) (fun x9 _ => x9 = hp_a_elementOf r n p0 p1) (fun _ t9 => va_P (dC, dI) vwCl (hp_M cI cZ o a (va_up v 0 (hp_c_elementOf n p0 p1)) r n) t9.heap) (va_A (hp_M cI cZ o a v r n) sz)) 0 0 (va_A (hp_M cI cZ o a v r n) sz) := by
  refine Met.ofW (cc := cX2_elementOf) (maxL := 3) (ret := (some .int)) (by decide) rfl ?_
  intro p e s m args below meth c s₁ B hml hv
  obtain ⟨rfl, hsz, hP, hK, hD0⟩ := hv
  have hx := B.exec
  have hb := B.bytes
  have hr := B.returns
  have hts := atoms_spec (ws := wsX2_elementOf) B.pre
  have hown : s.vm.findClass RX2 = some m.cls := findClass_of_methodNamed B.named
  have hlocks := B.notSynchronized
  subst hsz
  have hD := hD0.self (sz := s.heap.size)
  generalize hAe : va_A (hp_M cI cZ o a v r n) s.heap.size = A at hD ⊢
  replace hD : ∀ v r n, va_D A (hp_M cI cZ o a v r n) := fun _ _ _ => hp_dM hD
  have hA : ∀ q : Nat, s.heap.size ≤ q → A q := fun q h => by rw [← hAe]; exact Or.inr h
  have hS : va_S A s.heap s.heap [] := va_S.rf
  have hf_7 := hts (.fieldLink RX2 7 "WallplanModel" "kind" "[I") (by decide +kernel)
  have hf_13 := hts (.fieldLink RX2 13 "WallplanModel" "storey" "[I") (by decide +kernel)
  have hf_16 := hts (.fieldLink RX2 16 "WallplanModel" "fromX" "[I") (by decide +kernel)
  have hf_19 := hts (.fieldLink RX2 19 "WallplanModel" "fromY" "[I") (by decide +kernel)
  have hf_22 := hts (.fieldLink RX2 22 "WallplanModel" "toX" "[I") (by decide +kernel)
  have hf_25 := hts (.fieldLink RX2 25 "WallplanModel" "toY" "[I") (by decide +kernel)
  have hf_28 := hts (.fieldLink RX2 28 "WallplanModel" "state" "[I") (by decide +kernel)
  have hf_31 := hts (.fieldLink RX2 31 "WallplanModel" "changed" "[I") (by decide +kernel)
  have hf_34 := hts (.fieldLink RX2 34 "WallplanModel" "by" "[I") (by decide +kernel)
  have hinX2 : ∀ w ∈ wsX20, w ∈ wsX2_elementOf := by decide +kernel
  have hl := lv_entry ([.ref o, .int p0, .int p1]) (n := 3) (Nat.le_of_ble_eq_true rfl)
  rw [lg_entry_eq]
  generalize (lg_sl ([.ref o, .int p0, .int p1]) ++ List.replicate (3 - (lg_sl ([.ref o, .int p0, .int p1])).length) Slot.unset).toArray = ls at hl ⊢
  have hl : lv_has ls 3 [(0, .ref o), (1, .int p0), (2, .int p1)] := hl
  have hn := hinv.1
  refine lv_aload_n hx hb dX2_elementOf_0 rfl (lv_at hl 0 rfl) ?_
  refine hp_join 28 3 (fun x1 : Int32 => x1 = hp_c_elementOf n p0 p1) (fun x1 => [(0, .ref o), (1, .int p0), (2, .int p1)]) (fun x1 => [.int x1, .ref o]) (fun x1 hx_2 ls hl => ?_) (fun jn_2 => ?_)
  · skip
    subst hx_2
    have hFc := hp_free (hD v r n) hS hA
    refine va_calli (va_runV (As := [.int (hp_c_elementOf n p0 p1)]) (rest := []) ⟨hx, hb, hml, hown, hts⟩ (c_X2_refused l dC dI cI cZ cO cJ o a v r n s.heap.size (hp_c_elementOf n p0 p1)) (cwV 1 hts gX2_elementOf_X2_refused rfl rfl rfl (by decide +kernel) ⟨(Nat.le_of_ble_eq_true rfl), (Nat.le_of_ble_eq_true rfl)⟩) ⟨hp_mfb, va_recv hK hP (ci := 2) (q0 := 0) rfl hp_M_o, fun U hU hW => ⟨rfl, hp_mto hP hK (hD _ _ _) hU hW⟩⟩ rfl rfl hl.1 rfl (lv_room (Nat.le_of_ble_eq_true rfl)) dX2_elementOf_28 ⟨(Nat.zero_le _), (Nat.zero_le _)⟩) hS (fun q _ h => hFc q h) hFc (fun r_3 u_3 t_3 H_3 locs_3 ht _ hr_3 hB _ _ hS1 => ?_)
    replace hP : va_P (dC, dI) vwCl (hp_M cI cZ o a (va_up v 0 (hp_c_elementOf n p0 p1)) r n) H_3 := hp_th ht hB
    replace hS := hS1
    clear hS1 hB ht hFc
    subst hr_3
    refine lv_if_eq (tgt := 36) hx hb dX2_elementOf_31 (by decide) (fun c_4 => ?_) (fun c_4 => ?_)
    · skip
      have c_4 := hp_bz c_4
      have hc := hp_eq0 c_4
      obtain ⟨g1, g2, g3⟩ := hp_cd0 hc
      have xp := hp_el_ix hn g1
      refine lv_iload_n hx hb dX2_elementOf_36 rfl (lv_at hl 2 rfl) ?_
      obtain ⟨w, hw, rfl⟩ := hp_in_of (N := 9) (by decide) g2
      rcases hp_w9 hw with rfl | rfl | rfl | rfl | rfl | rfl | rfl | rfl | rfl | rfl
      · skip
        refine lv_tableIn (x := (nI 0)) (off := 51) (tgt := 88) hx hb dX2_elementOf_37 (by decide) (by decide) (by decide) (by decide) ?_
        refine lv_aload_n hx hb dX2_elementOf_88 rfl (lv_at hl 0 rfl) ?_
        refine va_get (D := (dC, dI)) (ci := 2) (v := .ref (a 4)) (C := RX2) (T := TX2) (N := 18) hx hb hts hinX2 hown hK hP 0 hp_M_o rfl 4 (by decide) hf_7 (fun _ h9 => h9) rfl dX2_elementOf_89 ?_
        refine lv_iload_n hx hb dX2_elementOf_92 rfl (lv_at hl 1 rfl) ?_
        refine hp_ialdx (v := r 4 p0.toNatClampNeg) hx hb hK hP 1 0 hp_M_4 rfl (i := p0) (hp_vin xp hn (by decide)) rfl dX2_elementOf_93 ?_
        have hP9 : va_P (dC, dI) vwCl (hp_M cI cZ o a (va_up v 0 (hp_c_elementOf n p0 (nI 0))) r n) H_3 := by exact hP
        exact W.iret (v := r 4 p0.toNatClampNeg) hx hb hr (fun t ht hW => ⟨⟨r 4 p0.toNatClampNeg, (), rfl, (by rw [hp_a_elementOf, if_pos hc]; rfl), hp_ht ht hP9⟩, hS.F ht⟩) hS.2.2 dX2_elementOf_94
      · skip
        refine lv_tableIn (x := (nI 1)) (off := 58) (tgt := 95) hx hb dX2_elementOf_37 (by decide) (by decide) (by decide) (by decide) ?_
        refine lv_aload_n hx hb dX2_elementOf_95 rfl (lv_at hl 0 rfl) ?_
        refine va_get (D := (dC, dI)) (ci := 2) (v := .ref (a 5)) (C := RX2) (T := TX2) (N := 18) hx hb hts hinX2 hown hK hP 0 hp_M_o rfl 5 (by decide) hf_13 (fun _ h9 => h9) rfl dX2_elementOf_96 ?_
        refine lv_iload_n hx hb dX2_elementOf_99 rfl (lv_at hl 1 rfl) ?_
        refine hp_ialdx (v := r 5 p0.toNatClampNeg) hx hb hK hP 2 0 hp_M_5 rfl (i := p0) (hp_vin xp hn (by decide)) rfl dX2_elementOf_100 ?_
        have hP9 : va_P (dC, dI) vwCl (hp_M cI cZ o a (va_up v 0 (hp_c_elementOf n p0 (nI 1))) r n) H_3 := by exact hP
        exact W.iret (v := r 5 p0.toNatClampNeg) hx hb hr (fun t ht hW => ⟨⟨r 5 p0.toNatClampNeg, (), rfl, (by rw [hp_a_elementOf, if_pos hc]; rfl), hp_ht ht hP9⟩, hS.F ht⟩) hS.2.2 dX2_elementOf_101
      · skip
        refine lv_tableIn (x := (nI 2)) (off := 65) (tgt := 102) hx hb dX2_elementOf_37 (by decide) (by decide) (by decide) (by decide) ?_
        refine lv_aload_n hx hb dX2_elementOf_102 rfl (lv_at hl 0 rfl) ?_
        refine va_get (D := (dC, dI)) (ci := 2) (v := .ref (a 6)) (C := RX2) (T := TX2) (N := 18) hx hb hts hinX2 hown hK hP 0 hp_M_o rfl 6 (by decide) hf_16 (fun _ h9 => h9) rfl dX2_elementOf_103 ?_
        refine lv_iload_n hx hb dX2_elementOf_106 rfl (lv_at hl 1 rfl) ?_
        refine hp_ialdx (v := r 6 p0.toNatClampNeg) hx hb hK hP 3 0 hp_M_6 rfl (i := p0) (hp_vin xp hn (by decide)) rfl dX2_elementOf_107 ?_
        have hP9 : va_P (dC, dI) vwCl (hp_M cI cZ o a (va_up v 0 (hp_c_elementOf n p0 (nI 2))) r n) H_3 := by exact hP
        exact W.iret (v := r 6 p0.toNatClampNeg) hx hb hr (fun t ht hW => ⟨⟨r 6 p0.toNatClampNeg, (), rfl, (by rw [hp_a_elementOf, if_pos hc]; rfl), hp_ht ht hP9⟩, hS.F ht⟩) hS.2.2 dX2_elementOf_108
      · skip
        refine lv_tableIn (x := (nI 3)) (off := 72) (tgt := 109) hx hb dX2_elementOf_37 (by decide) (by decide) (by decide) (by decide) ?_
        refine lv_aload_n hx hb dX2_elementOf_109 rfl (lv_at hl 0 rfl) ?_
        refine va_get (D := (dC, dI)) (ci := 2) (v := .ref (a 7)) (C := RX2) (T := TX2) (N := 18) hx hb hts hinX2 hown hK hP 0 hp_M_o rfl 7 (by decide) hf_19 (fun _ h9 => h9) rfl dX2_elementOf_110 ?_
        refine lv_iload_n hx hb dX2_elementOf_113 rfl (lv_at hl 1 rfl) ?_
        refine hp_ialdx (v := r 7 p0.toNatClampNeg) hx hb hK hP 4 0 hp_M_7 rfl (i := p0) (hp_vin xp hn (by decide)) rfl dX2_elementOf_114 ?_
        have hP9 : va_P (dC, dI) vwCl (hp_M cI cZ o a (va_up v 0 (hp_c_elementOf n p0 (nI 3))) r n) H_3 := by exact hP
        exact W.iret (v := r 7 p0.toNatClampNeg) hx hb hr (fun t ht hW => ⟨⟨r 7 p0.toNatClampNeg, (), rfl, (by rw [hp_a_elementOf, if_pos hc]; rfl), hp_ht ht hP9⟩, hS.F ht⟩) hS.2.2 dX2_elementOf_115
      · skip
        refine lv_tableIn (x := (nI 4)) (off := 79) (tgt := 116) hx hb dX2_elementOf_37 (by decide) (by decide) (by decide) (by decide) ?_
        refine lv_aload_n hx hb dX2_elementOf_116 rfl (lv_at hl 0 rfl) ?_
        refine va_get (D := (dC, dI)) (ci := 2) (v := .ref (a 8)) (C := RX2) (T := TX2) (N := 18) hx hb hts hinX2 hown hK hP 0 hp_M_o rfl 8 (by decide) hf_22 (fun _ h9 => h9) rfl dX2_elementOf_117 ?_
        refine lv_iload_n hx hb dX2_elementOf_120 rfl (lv_at hl 1 rfl) ?_
        refine hp_ialdx (v := r 8 p0.toNatClampNeg) hx hb hK hP 5 0 hp_M_8 rfl (i := p0) (hp_vin xp hn (by decide)) rfl dX2_elementOf_121 ?_
        have hP9 : va_P (dC, dI) vwCl (hp_M cI cZ o a (va_up v 0 (hp_c_elementOf n p0 (nI 4))) r n) H_3 := by exact hP
        exact W.iret (v := r 8 p0.toNatClampNeg) hx hb hr (fun t ht hW => ⟨⟨r 8 p0.toNatClampNeg, (), rfl, (by rw [hp_a_elementOf, if_pos hc]; rfl), hp_ht ht hP9⟩, hS.F ht⟩) hS.2.2 dX2_elementOf_122
      · skip
        refine lv_tableIn (x := (nI 5)) (off := 86) (tgt := 123) hx hb dX2_elementOf_37 (by decide) (by decide) (by decide) (by decide) ?_
        refine lv_aload_n hx hb dX2_elementOf_123 rfl (lv_at hl 0 rfl) ?_
        refine va_get (D := (dC, dI)) (ci := 2) (v := .ref (a 9)) (C := RX2) (T := TX2) (N := 18) hx hb hts hinX2 hown hK hP 0 hp_M_o rfl 9 (by decide) hf_25 (fun _ h9 => h9) rfl dX2_elementOf_124 ?_
        refine lv_iload_n hx hb dX2_elementOf_127 rfl (lv_at hl 1 rfl) ?_
        refine hp_ialdx (v := r 9 p0.toNatClampNeg) hx hb hK hP 6 0 hp_M_9 rfl (i := p0) (hp_vin xp hn (by decide)) rfl dX2_elementOf_128 ?_
        have hP9 : va_P (dC, dI) vwCl (hp_M cI cZ o a (va_up v 0 (hp_c_elementOf n p0 (nI 5))) r n) H_3 := by exact hP
        exact W.iret (v := r 9 p0.toNatClampNeg) hx hb hr (fun t ht hW => ⟨⟨r 9 p0.toNatClampNeg, (), rfl, (by rw [hp_a_elementOf, if_pos hc]; rfl), hp_ht ht hP9⟩, hS.F ht⟩) hS.2.2 dX2_elementOf_129
      · skip
        refine lv_tableIn (x := (nI 6)) (off := 93) (tgt := 130) hx hb dX2_elementOf_37 (by decide) (by decide) (by decide) (by decide) ?_
        refine lv_aload_n hx hb dX2_elementOf_130 rfl (lv_at hl 0 rfl) ?_
        refine va_get (D := (dC, dI)) (ci := 2) (v := .ref (a 10)) (C := RX2) (T := TX2) (N := 18) hx hb hts hinX2 hown hK hP 0 hp_M_o rfl 10 (by decide) hf_28 (fun _ h9 => h9) rfl dX2_elementOf_131 ?_
        refine lv_iload_n hx hb dX2_elementOf_134 rfl (lv_at hl 1 rfl) ?_
        refine hp_ialdx (v := r 10 p0.toNatClampNeg) hx hb hK hP 7 0 hp_M_10 rfl (i := p0) (hp_vin xp hn (by decide)) rfl dX2_elementOf_135 ?_
        have hP9 : va_P (dC, dI) vwCl (hp_M cI cZ o a (va_up v 0 (hp_c_elementOf n p0 (nI 6))) r n) H_3 := by exact hP
        exact W.iret (v := r 10 p0.toNatClampNeg) hx hb hr (fun t ht hW => ⟨⟨r 10 p0.toNatClampNeg, (), rfl, (by rw [hp_a_elementOf, if_pos hc]; rfl), hp_ht ht hP9⟩, hS.F ht⟩) hS.2.2 dX2_elementOf_136
      · skip
        refine lv_tableIn (x := (nI 7)) (off := 100) (tgt := 137) hx hb dX2_elementOf_37 (by decide) (by decide) (by decide) (by decide) ?_
        refine lv_aload_n hx hb dX2_elementOf_137 rfl (lv_at hl 0 rfl) ?_
        refine va_get (D := (dC, dI)) (ci := 2) (v := .ref (a 11)) (C := RX2) (T := TX2) (N := 18) hx hb hts hinX2 hown hK hP 0 hp_M_o rfl 11 (by decide) hf_31 (fun _ h9 => h9) rfl dX2_elementOf_138 ?_
        refine lv_iload_n hx hb dX2_elementOf_141 rfl (lv_at hl 1 rfl) ?_
        refine hp_ialdx (v := r 11 p0.toNatClampNeg) hx hb hK hP 8 0 hp_M_11 rfl (i := p0) (hp_vin xp hn (by decide)) rfl dX2_elementOf_142 ?_
        have hP9 : va_P (dC, dI) vwCl (hp_M cI cZ o a (va_up v 0 (hp_c_elementOf n p0 (nI 7))) r n) H_3 := by exact hP
        exact W.iret (v := r 11 p0.toNatClampNeg) hx hb hr (fun t ht hW => ⟨⟨r 11 p0.toNatClampNeg, (), rfl, (by rw [hp_a_elementOf, if_pos hc]; rfl), hp_ht ht hP9⟩, hS.F ht⟩) hS.2.2 dX2_elementOf_143
      · skip
        refine lv_tableIn (x := (nI 8)) (off := 107) (tgt := 144) hx hb dX2_elementOf_37 (by decide) (by decide) (by decide) (by decide) ?_
        refine lv_aload_n hx hb dX2_elementOf_144 rfl (lv_at hl 0 rfl) ?_
        refine va_get (D := (dC, dI)) (ci := 2) (v := .ref (a 12)) (C := RX2) (T := TX2) (N := 18) hx hb hts hinX2 hown hK hP 0 hp_M_o rfl 12 (by decide) hf_34 (fun _ h9 => h9) rfl dX2_elementOf_145 ?_
        refine lv_iload_n hx hb dX2_elementOf_148 rfl (lv_at hl 1 rfl) ?_
        refine hp_ialdx (v := r 12 p0.toNatClampNeg) hx hb hK hP 9 0 hp_M_12 rfl (i := p0) (hp_vin xp hn (by decide)) rfl dX2_elementOf_149 ?_
        have hP9 : va_P (dC, dI) vwCl (hp_M cI cZ o a (va_up v 0 (hp_c_elementOf n p0 (nI 8))) r n) H_3 := by exact hP
        exact W.iret (v := r 12 p0.toNatClampNeg) hx hb hr (fun t ht hW => ⟨⟨r 12 p0.toNatClampNeg, (), rfl, (by rw [hp_a_elementOf, if_pos hc]; rfl), hp_ht ht hP9⟩, hS.F ht⟩) hS.2.2 dX2_elementOf_150
      · skip
        refine lv_tableOut (x := (nI 9)) (tgt := 151) hx hb dX2_elementOf_37 (by decide) (by decide) ?_
        refine lv_aload_n hx hb dX2_elementOf_151 rfl (lv_at hl 0 rfl) ?_
        refine lv_iload_n hx hb dX2_elementOf_152 rfl (lv_at hl 1 rfl) ?_
        refine vp_callSi (W.runV (As := [.int p0]) (rest := []) ⟨hx, hb, hml, hown, hts⟩ (c_X2_cellsOf l dC dI cI cZ cO cJ o a (va_up v 0 (hp_c_elementOf n p0 (nI 9))) r n p0.toNatClampNeg p0 (xp.1) (by omega)) (cwV 1 hts gX2_elementOf_X2_cellsOf rfl rfl rfl (by decide +kernel) ⟨(Nat.le_of_ble_eq_true rfl), (Nat.le_of_ble_eq_true rfl)⟩) ⟨hp_fb, va_recv hK hP (ci := 2) (q0 := 0) rfl hp_M_o, fun U hU hW => ⟨rfl, hp_to hP hK hU hW⟩⟩ rfl rfl hl.1 rfl (lv_room (Nat.le_of_ble_eq_true rfl)) dX2_elementOf_153 ⟨(Nat.zero_le _), (Nat.zero_le _)⟩) (fun r_5 hr_5 => ?_)
        subst hr_5
        have hP9 : va_P (dC, dI) vwCl (hp_M cI cZ o a (va_up v 0 (hp_c_elementOf n p0 (nI 9))) r n) H_3 := by exact hP
        exact W.iret (v := hp_cel r p0.toNatClampNeg) hx hb hr (fun t ht hW => ⟨⟨hp_cel r p0.toNatClampNeg, (), rfl, (by rw [hp_a_elementOf, if_pos hc]; rfl), hp_ht ht hP9⟩, hS.F ht⟩) hS.2.2 dX2_elementOf_156
    · skip
      have c_4 := hp_bn c_4
      have hc := hp_ne0 c_4
      refine lv_iconst (v := 0) hx hb dX2_elementOf_34 (by decide) ?_
      have hP9 : va_P (dC, dI) vwCl (hp_M cI cZ o a (va_up v 0 (hp_c_elementOf n p0 p1)) r n) H_3 := by exact hP
      exact W.iret (v := 0) hx hb hr (fun t ht hW => ⟨⟨0, (), rfl, (by rw [hp_a_elementOf, if_neg hc]), hp_ht ht hP9⟩, hS.F ht⟩) hS.2.2 dX2_elementOf_35
  · skip
    refine lv_aload_n hx hb dX2_elementOf_1 rfl (lv_at hl 0 rfl) ?_
    refine lv_iload_n hx hb dX2_elementOf_2 rfl (lv_at hl 1 rfl) ?_
    refine vp_callSi (W.runV (As := [.int p0]) (rest := [.ref o]) ⟨hx, hb, hml, hown, hts⟩ (c_X2_isElement l dC dI cI cZ cO cJ o a v r n p0) (cwV 1 hts gX2_elementOf_X2_isElement rfl rfl rfl (by decide +kernel) ⟨(Nat.le_of_ble_eq_true rfl), (Nat.le_of_ble_eq_true rfl)⟩) ⟨hp_fb, va_recv hK hP (ci := 2) (q0 := 0) rfl hp_M_o, fun U hU hW => ⟨rfl, hp_to hP hK hU hW⟩⟩ rfl rfl hl.1 rfl (lv_room (Nat.le_of_ble_eq_true rfl)) dX2_elementOf_3 ⟨(Nat.zero_le _), (Nat.zero_le _)⟩) (fun r_6 hr_6 => ?_)
    subst hr_6
    refine lv_if_ne (tgt := 13) hx hb dX2_elementOf_6 (by decide) (fun c_7 => ?_) (fun c_7 => ?_)
    · skip
      have c_7 := hp_bn c_7
      refine lv_iload_n hx hb dX2_elementOf_13 rfl (lv_at hl 2 rfl) ?_
      refine lv_iconst (v := 0) hx hb dX2_elementOf_14 (by decide) ?_
      refine lv_bipush (v := 9) hx hb dX2_elementOf_15 (by decide) ?_
      refine vp_callSi (W.runS (As := [.int p1, .int 0, .int 9]) (rest := [.ref o]) ⟨hx, hb, hml, hown, hts⟩ (c_X2_in l p1 0 9) (va_cwS 3 hts gX2_elementOf_X2_in rfl rfl rfl (by decide +kernel) ⟨(Nat.le_of_ble_eq_true rfl), (Nat.le_of_ble_eq_true rfl)⟩) ⟨hp_nfb, fun _ _ _ => ⟨rfl, trivial⟩⟩ rfl rfl hl.1 rfl (lv_room (Nat.le_of_ble_eq_true rfl)) dX2_elementOf_17 ⟨(Nat.zero_le _), (Nat.zero_le _)⟩) (fun r_8 hr_8 => ?_)
      subst hr_8
      refine lv_if_ne (tgt := 27) hx hb dX2_elementOf_20 (by decide) (fun c_9 => ?_) (fun c_9 => ?_)
      · skip
        have c_9 := hp_bn c_9
        refine lv_iconst (v := 0) hx hb dX2_elementOf_27 (by decide) ?_
        exact jn_2 0 (by exact hp_cdz (by (first | assumption | (simp [c_7, c_9]; done))) (by (first | assumption | (simp [c_7, c_9]; done))) (by (first | assumption | (simp [c_7, c_9]; done)))) _ (lv_sub hl [0, 1, 2] rfl)
      · skip
        have c_9 := hp_bz c_9
        refine lv_iconst (v := 2) hx hb dX2_elementOf_23 (by decide) ?_
        refine lv_goto (tgt := 28) hx hb dX2_elementOf_24 (by decide) ?_
        exact jn_2 2 (by exact hp_cd2 (by (first | assumption | (simp [c_7, c_9]; done))) (by (first | assumption | (simp [c_7, c_9]; done)))) _ (lv_sub hl [0, 1, 2] rfl)
    · skip
      have c_7 := hp_bz c_7
      refine lv_iconst (v := 1) hx hb dX2_elementOf_9 (by decide) ?_
      refine lv_goto (tgt := 28) hx hb dX2_elementOf_10 (by decide) ?_
      exact jn_2 1 (by exact hp_cd1 (by (first | assumption | (simp [c_7]; done)))) _ (lv_sub hl [0, 1, 2] rfl)
set_option maxHeartbeats 400000 in
set_option maxRecDepth 100000 in
theorem c_X2_clash (l : Launch) (dC : Nat → ClassId) (dI : Nat → Nat → Nat) (cI cZ cO cJ : ClassId) (o : Nat) (a : Nat → Nat) (v : Nat → Int32) (r : Nat → Nat → Int32) (n : Nat) (sz : Nat)  (p0 p1 : Int32) (hinv : hp_inv v r n) : Met l yX2_clash wsX2_clash ({ frames := 2, cells := 0, slots := 0, locals := 51 }) (va_Pc [.ref o, .int p0, .int p1] (hp_prm (dC, dI) cI cZ cO cJ (hp_M cI cZ o a v r n) sz)) (va_Qi (S := Unit) (fun x9 _ => x9 = hp_b (hp_b_clash r n p0 p1)) (fun _ t9 => va_P (dC, dI) vwCl (hp_M cI cZ o a (va_up v 0 (hp_c_clash n p0 p1)) r n) t9.heap) (va_A (hp_M cI cZ o a v r n) sz)) 0 0 (va_A (hp_M cI cZ o a v r n) sz) := by
  refine Met.ofW (cc := cX2_clash) (maxL := 3) (ret := (some .boolean)) (by decide) rfl ?_
  intro p e s m args below meth c s₁ B hml hv
  obtain ⟨rfl, hsz, hP, hK, hD0⟩ := hv
  have hx := B.exec
  have hb := B.bytes
  have hr := B.returns
  have hts := atoms_spec (ws := wsX2_clash) B.pre
  have hown : s.vm.findClass RX2 = some m.cls := findClass_of_methodNamed B.named
  have hlocks := B.notSynchronized
  subst hsz
  have hD := hD0.self (sz := s.heap.size)
  generalize hAe : va_A (hp_M cI cZ o a v r n) s.heap.size = A at hD ⊢
  replace hD : ∀ v r n, va_D A (hp_M cI cZ o a v r n) := fun _ _ _ => hp_dM hD
  have hA : ∀ q : Nat, s.heap.size ≤ q → A q := fun q h => by rw [← hAe]; exact Or.inr h
  have hS : va_S A s.heap s.heap [] := va_S.rf
  have hl := lv_entry ([.ref o, .int p0, .int p1]) (n := 3) (Nat.le_of_ble_eq_true rfl)
  rw [lg_entry_eq]
  generalize (lg_sl ([.ref o, .int p0, .int p1]) ++ List.replicate (3 - (lg_sl ([.ref o, .int p0, .int p1])).length) Slot.unset).toArray = ls at hl ⊢
  have hl : lv_has ls 3 [(0, .ref o), (1, .int p0), (2, .int p1)] := hl
  have hn := hinv.1
  refine lv_aload_n hx hb dX2_clash_0 rfl (lv_at hl 0 rfl) ?_
  refine hp_join 22 3 (fun x1 : Int32 => x1 = hp_c_clash n p0 p1) (fun x1 => [(0, .ref o), (1, .int p0), (2, .int p1)]) (fun x1 => [.int x1, .ref o]) (fun x1 hx_2 ls hl => ?_) (fun jn_2 => ?_)
  · skip
    subst hx_2
    have hFc := hp_free (hD v r n) hS hA
    refine va_calli (va_runV (As := [.int (hp_c_clash n p0 p1)]) (rest := []) ⟨hx, hb, hml, hown, hts⟩ (c_X2_refused l dC dI cI cZ cO cJ o a v r n s.heap.size (hp_c_clash n p0 p1)) (cwV 1 hts gX2_clash_X2_refused rfl rfl rfl (by decide +kernel) ⟨(Nat.le_of_ble_eq_true rfl), (Nat.le_of_ble_eq_true rfl)⟩) ⟨hp_mfb, va_recv hK hP (ci := 2) (q0 := 0) rfl hp_M_o, fun U hU hW => ⟨rfl, hp_mto hP hK (hD _ _ _) hU hW⟩⟩ rfl rfl hl.1 rfl (lv_room (Nat.le_of_ble_eq_true rfl)) dX2_clash_22 ⟨(Nat.zero_le _), (Nat.zero_le _)⟩) hS (fun q _ h => hFc q h) hFc (fun r_3 u_3 t_3 H_3 locs_3 ht _ hr_3 hB _ _ hS1 => ?_)
    replace hP : va_P (dC, dI) vwCl (hp_M cI cZ o a (va_up v 0 (hp_c_clash n p0 p1)) r n) H_3 := hp_th ht hB
    replace hS := hS1
    clear hS1 hB ht hFc
    subst hr_3
    refine lv_if_ne (tgt := 41) hx hb dX2_clash_25 (by decide) (fun c_4 => ?_) (fun c_4 => ?_)
    · skip
      have c_4 := hp_bn c_4
      have hc := hp_ne0 c_4
      refine lv_iconst (v := 0) hx hb dX2_clash_41 (by decide) ?_
      have hP9 : va_P (dC, dI) vwCl (hp_M cI cZ o a (va_up v 0 (hp_c_clash n p0 p1)) r n) H_3 := by exact hP
      exact W.zret (ty := .boolean) (v := 0) hx hb hr rfl (fun t ht hW => ⟨⟨0, (), rfl, (by exact hp_bf2 (by simp [hp_b_clash, c_4, hc])), hp_ht ht hP9⟩, hS.F ht⟩) hS.2.2 dX2_clash_42
    · skip
      have c_4 := hp_bz c_4
      have hc := hp_eq0 c_4
      obtain ⟨g1, g2, g3⟩ := hp_cd0 hc
      have xp := hp_el_ix hn (hp_andl g1)
      have xq := hp_el_ix hn (hp_andr g1)
      refine lv_aload_n hx hb dX2_clash_28 rfl (lv_at hl 0 rfl) ?_
      refine lv_iload_n hx hb dX2_clash_29 rfl (lv_at hl 1 rfl) ?_
      refine lv_iload_n hx hb dX2_clash_30 rfl (lv_at hl 2 rfl) ?_
      refine vp_callSi (W.runV (As := [.int p0, .int p1]) (rest := []) ⟨hx, hb, hml, hown, hts⟩ (c_X2_doClash l dC dI cI cZ cO cJ o a (va_up v 0 (hp_c_clash n p0 p1)) r n p0.toNatClampNeg p0 (xp.1) p1.toNatClampNeg p1 (xq.1) (by omega) (by omega) hinv) (cwV 2 hts gX2_clash_X2_doClash rfl rfl rfl (by decide +kernel) ⟨(Nat.le_of_ble_eq_true rfl), (Nat.le_of_ble_eq_true rfl)⟩) ⟨hp_fb, va_recv hK hP (ci := 2) (q0 := 0) rfl hp_M_o, fun U hU hW => ⟨rfl, hp_to hP hK hU hW⟩⟩ rfl rfl hl.1 rfl (lv_room (Nat.le_of_ble_eq_true rfl)) dX2_clash_31 ⟨(Nat.zero_le _), (Nat.zero_le _)⟩) (fun r_5 hr_5 => ?_)
      subst hr_5
      refine lv_if_eq (tgt := 41) hx hb dX2_clash_34 (by decide) (fun c_6 => ?_) (fun c_6 => ?_)
      · skip
        have c_6 := hp_bz c_6
        refine lv_iconst (v := 0) hx hb dX2_clash_41 (by decide) ?_
        have hP9 : va_P (dC, dI) vwCl (hp_M cI cZ o a (va_up v 0 (hp_c_clash n p0 p1)) r n) H_3 := by exact hP
        exact W.zret (ty := .boolean) (v := 0) hx hb hr rfl (fun t ht hW => ⟨⟨0, (), rfl, (by exact hp_bf2 (by simp [hp_b_clash, c_4, hc, c_6])), hp_ht ht hP9⟩, hS.F ht⟩) hS.2.2 dX2_clash_42
      · skip
        have c_6 := hp_bn c_6
        refine lv_iconst (v := 1) hx hb dX2_clash_37 (by decide) ?_
        refine lv_goto (tgt := 42) hx hb dX2_clash_38 (by decide) ?_
        have hP9 : va_P (dC, dI) vwCl (hp_M cI cZ o a (va_up v 0 (hp_c_clash n p0 p1)) r n) H_3 := by exact hP
        exact W.zret (ty := .boolean) (v := 1) hx hb hr rfl (fun t ht hW => ⟨⟨1, (), rfl, (by exact hp_bt2 (by simp [hp_b_clash, c_4, hc, c_6])), hp_ht ht hP9⟩, hS.F ht⟩) hS.2.2 dX2_clash_42
  · skip
    refine lv_aload_n hx hb dX2_clash_1 rfl (lv_at hl 0 rfl) ?_
    refine lv_iload_n hx hb dX2_clash_2 rfl (lv_at hl 1 rfl) ?_
    refine vp_callSi (W.runV (As := [.int p0]) (rest := [.ref o]) ⟨hx, hb, hml, hown, hts⟩ (c_X2_isElement l dC dI cI cZ cO cJ o a v r n p0) (cwV 1 hts gX2_clash_X2_isElement rfl rfl rfl (by decide +kernel) ⟨(Nat.le_of_ble_eq_true rfl), (Nat.le_of_ble_eq_true rfl)⟩) ⟨hp_fb, va_recv hK hP (ci := 2) (q0 := 0) rfl hp_M_o, fun U hU hW => ⟨rfl, hp_to hP hK hU hW⟩⟩ rfl rfl hl.1 rfl (lv_room (Nat.le_of_ble_eq_true rfl)) dX2_clash_3 ⟨(Nat.zero_le _), (Nat.zero_le _)⟩) (fun r_7 hr_7 => ?_)
    subst hr_7
    refine lv_if_eq (tgt := 21) hx hb dX2_clash_6 (by decide) (fun c_8 => ?_) (fun c_8 => ?_)
    · skip
      have c_8 := hp_bz c_8
      refine lv_iconst (v := 1) hx hb dX2_clash_21 (by decide) ?_
      exact jn_2 1 (by exact hp_cd1 (by (first | assumption | (simp [c_8]; done)))) _ (lv_sub hl [0, 1, 2] rfl)
    · skip
      have c_8 := hp_bn c_8
      refine lv_aload_n hx hb dX2_clash_9 rfl (lv_at hl 0 rfl) ?_
      refine lv_iload_n hx hb dX2_clash_10 rfl (lv_at hl 2 rfl) ?_
      refine vp_callSi (W.runV (As := [.int p1]) (rest := [.ref o]) ⟨hx, hb, hml, hown, hts⟩ (c_X2_isElement l dC dI cI cZ cO cJ o a v r n p1) (cwV 1 hts gX2_clash_X2_isElement rfl rfl rfl (by decide +kernel) ⟨(Nat.le_of_ble_eq_true rfl), (Nat.le_of_ble_eq_true rfl)⟩) ⟨hp_fb, va_recv hK hP (ci := 2) (q0 := 0) rfl hp_M_o, fun U hU hW => ⟨rfl, hp_to hP hK hU hW⟩⟩ rfl rfl hl.1 rfl (lv_room (Nat.le_of_ble_eq_true rfl)) dX2_clash_11 ⟨(Nat.zero_le _), (Nat.zero_le _)⟩) (fun r_9 hr_9 => ?_)
      subst hr_9
      refine lv_if_eq (tgt := 21) hx hb dX2_clash_14 (by decide) (fun c_10 => ?_) (fun c_10 => ?_)
      · skip
        have c_10 := hp_bz c_10
        refine lv_iconst (v := 1) hx hb dX2_clash_21 (by decide) ?_
        exact jn_2 1 (by exact hp_cd1 (by (first | assumption | (simp [c_8, c_10]; done)))) _ (lv_sub hl [0, 1, 2] rfl)
      · skip
        have c_10 := hp_bn c_10
        refine lv_iconst (v := 0) hx hb dX2_clash_17 (by decide) ?_
        refine lv_goto (tgt := 22) hx hb dX2_clash_18 (by decide) ?_
        exact jn_2 0 (by exact hp_cdz (by (first | assumption | (simp [c_8, c_10]; done))) (by (first | assumption | (simp [c_8, c_10]; done))) (by (first | assumption | (simp [c_8, c_10]; done)))) _ (lv_sub hl [0, 1, 2] rfl)
set_option maxHeartbeats 400000 in
set_option maxRecDepth 100000 in
theorem c_X2_clashes (l : Launch) (dC : Nat → ClassId) (dI : Nat → Nat → Nat) (cI cZ cO cJ : ClassId) (o : Nat) (a : Nat → Nat) (v : Nat → Int32) (r : Nat → Nat → Int32) (n : Nat) (sz : Nat)  (p0 : Int32) (hinv : hp_inv v r n) : Met l yX2_clashes wsX2_clashes ({ frames := 2, cells := 0, slots := 0, locals := 51 }) (va_Pc [.ref o, .int p0] (hp_prm (dC, dI) cI cZ cO cJ (hp_M cI cZ o a v r n) sz)) (va_Qi (S := Unit) (fun x9 _ => x9 = hp_a_clashes r n p0) (fun _ t9 => va_P (dC, dI) vwCl (hp_M cI cZ o a (va_up v 0 (hp_c_st p0)) r n) t9.heap) (va_A (hp_M cI cZ o a v r n) sz)) 0 0 (va_A (hp_M cI cZ o a v r n) sz) := by
  refine Met.ofW (cc := cX2_clashes) (maxL := 5) (ret := (some .int)) (by decide) rfl ?_
  intro p e s m args below meth c s₁ B hml hv
  obtain ⟨rfl, hsz, hP, hK, hD0⟩ := hv
  have hx := B.exec
  have hb := B.bytes
  have hr := B.returns
  have hts := atoms_spec (ws := wsX2_clashes) B.pre
  have hown : s.vm.findClass RX2 = some m.cls := findClass_of_methodNamed B.named
  have hlocks := B.notSynchronized
  subst hsz
  have hD := hD0.self (sz := s.heap.size)
  generalize hAe : va_A (hp_M cI cZ o a v r n) s.heap.size = A at hD ⊢
  replace hD : ∀ v r n, va_D A (hp_M cI cZ o a v r n) := fun _ _ _ => hp_dM hD
  have hA : ∀ q : Nat, s.heap.size ≤ q → A q := fun q h => by rw [← hAe]; exact Or.inr h
  have hS : va_S A s.heap s.heap [] := va_S.rf
  have hf_13 := hts (.fieldLink RX2 13 "WallplanModel" "storey" "[I") (by decide +kernel)
  have hf_61 := hts (.fieldLink RX2 61 "WallplanModel" "elements" "I") (by decide +kernel)
  have hinX2 : ∀ w ∈ wsX20, w ∈ wsX2_clashes := by decide +kernel
  have hl := lv_entry ([.ref o, .int p0]) (n := 5) (Nat.le_of_ble_eq_true rfl)
  rw [lg_entry_eq]
  generalize (lg_sl ([.ref o, .int p0]) ++ List.replicate (5 - (lg_sl ([.ref o, .int p0])).length) Slot.unset).toArray = ls at hl ⊢
  have hl : lv_has ls 5 [(0, .ref o), (1, .int p0)] := hl
  have hn := hinv.1
  refine lv_aload_n hx hb dX2_clashes_0 rfl (lv_at hl 0 rfl) ?_
  refine hp_join 13 5 (fun x1 : Int32 => x1 = hp_c_st p0) (fun x1 => [(0, .ref o), (1, .int p0)]) (fun x1 => [.int x1, .ref o]) (fun x1 hx_2 ls hl => ?_) (fun jn_2 => ?_)
  · skip
    subst hx_2
    have hFc := hp_free (hD v r n) hS hA
    refine va_calli (va_runV (As := [.int (hp_c_st p0)]) (rest := []) ⟨hx, hb, hml, hown, hts⟩ (c_X2_refused l dC dI cI cZ cO cJ o a v r n s.heap.size (hp_c_st p0)) (cwV 1 hts gX2_clashes_X2_refused rfl rfl rfl (by decide +kernel) ⟨(Nat.le_of_ble_eq_true rfl), (Nat.le_of_ble_eq_true rfl)⟩) ⟨hp_mfb, va_recv hK hP (ci := 2) (q0 := 0) rfl hp_M_o, fun U hU hW => ⟨rfl, hp_mto hP hK (hD _ _ _) hU hW⟩⟩ rfl rfl hl.1 rfl (lv_room (Nat.le_of_ble_eq_true rfl)) dX2_clashes_13 ⟨(Nat.zero_le _), (Nat.zero_le _)⟩) hS (fun q _ h => hFc q h) hFc (fun r_3 u_3 t_3 H_3 locs_3 ht _ hr_3 hB _ _ hS1 => ?_)
    replace hP : va_P (dC, dI) vwCl (hp_M cI cZ o a (va_up v 0 (hp_c_st p0)) r n) H_3 := hp_th ht hB
    replace hS := hS1
    clear hS1 hB ht hFc
    subst hr_3
    refine lv_if_eq (tgt := 21) hx hb dX2_clashes_16 (by decide) (fun c_4 => ?_) (fun c_4 => ?_)
    · skip
      have c_4 := hp_bz c_4
      have hc := hp_eq0 c_4
      obtain ⟨g1, g2, g3⟩ := hp_cd0 hc
      refine lv_iconst (v := 0) hx hb dX2_clashes_21 (by decide) ?_
      refine lv_istore_n (lv' := [(2, .int 0), (0, .ref o), (1, .int p0)]) hx hb dX2_clashes_22 rfl hl (by decide) rfl (fun ls hl => ?_)
      refine lv_iconst (v := 0) hx hb dX2_clashes_23 (by decide) ?_
      refine lv_istore_n (lv' := [(3, .int 0), (2, .int 0), (0, .ref o), (1, .int p0)]) hx hb dX2_clashes_24 rfl hl (by decide) rfl (fun ls hl => ?_)
      refine hp_loop (fun k => [(2, .int (hp_sum (fun i => hp_prs r p0 i i) (k))), (3, .int (nI k)), (0, .ref o), (1, .int p0)]) n (fun k hk_5 ih_5 ls hl => ?_) (lv_sub hl [1, 0, 2, 3] rfl)
      refine lv_iload_n hx hb dX2_clashes_25 rfl (lv_at hl 1 rfl) ?_
      refine lv_aload_n hx hb dX2_clashes_26 rfl (lv_at hl 2 rfl) ?_
      refine va_get (D := (dC, dI)) (ci := 2) (v := .int (nI n)) (C := RX2) (T := TX2) (N := 18) hx hb hts hinX2 hown hK hP 0 hp_M_o rfl 3 (by decide) hf_61 (fun _ h9 => h9) rfl dX2_clashes_27 ?_
      refine lv_icmp_ge (tgt := 82) hx hb dX2_clashes_30 (by decide) (fun c_6 => ?_) (fun c_6 => ?_)
      · skip
        have c_6n := hp_len c_6
        have ek : k = n := Nat.le_antisymm (by omega) ((nI_leI (by omega) (by omega)).mp c_6)
        refine lv_iload_n hx hb dX2_clashes_82 rfl (lv_at hl 0 rfl) ?_
        have hP9 : va_P (dC, dI) vwCl (hp_M cI cZ o a (va_up v 0 (hp_c_st p0)) r n) H_3 := by exact hP
        exact W.iret (v := hp_sum (fun i => hp_prs r p0 i i) (k)) hx hb hr (fun t ht hW => ⟨⟨hp_sum (fun i => hp_prs r p0 i i) (k), (), rfl, (by rw [hp_a_clashes, if_pos hc, ek]), hp_ht ht hP9⟩, hS.F ht⟩) hS.2.2 dX2_clashes_83
      · skip
        have c_6p := hp_nle c_6
        have hkn : k < n := Nat.lt_of_not_le (fun h => c_6 (nI_le h (by omega)))
        refine lv_iconst (v := 0) hx hb dX2_clashes_33 (by decide) ?_
        refine lv_istore (lv' := [(4, .int 0), (2, .int (hp_sum (fun i => hp_prs r p0 i i) (k))), (3, .int (nI k)), (0, .ref o), (1, .int p0)]) hx hb dX2_clashes_34 hl (by decide) rfl (fun ls hl => ?_)
        refine hp_loop (fun j => [(2, .int (hp_sum (fun i => hp_prs r p0 i i) k + hp_prs r p0 k (j))), (4, .int (nI j)), (3, .int (nI k)), (0, .ref o), (1, .int p0)]) k (fun j hk_7 ih_7 ls hl => ?_) (hp_lve (lv_sub (l' := [(2, .int (hp_sum (fun i => hp_prs r p0 i i) (k))), (4, .int 0), (3, .int (nI k)), (0, .ref o), (1, .int p0)]) hl [1, 0, 2, 3, 4] rfl) (by simp [hp_prs, hp_sum, nI_0]))
        refine lv_iload hx hb dX2_clashes_36 (lv_at hl 1 rfl) ?_
        refine lv_iload_n hx hb dX2_clashes_38 rfl (lv_at hl 2 rfl) ?_
        refine lv_icmp_ge (tgt := 76) hx hb dX2_clashes_39 (by decide) (fun c_8 => ?_) (fun c_8 => ?_)
        · skip
          have c_8n := hp_len c_8
          have ek : j = k := Nat.le_antisymm (by omega) ((nI_leI (by omega) (by omega)).mp c_8)
          refine lv_iinc (v := nI (k + 1)) (lv' := [(3, .int (nI (k + 1))), (2, .int (hp_sum (fun i => hp_prs r p0 i i) k + hp_prs r p0 k (j))), (4, .int (nI j)), (0, .ref o), (1, .int p0)]) hx hb dX2_clashes_76 hl (k := 2) rfl (nI_1 _) (by decide) rfl (fun ls hl => ?_)
          refine lv_goto (tgt := 25) hx hb dX2_clashes_79 (by decide) ?_
          have e_9 : hp_sum (fun i => hp_prs r p0 i i) k + hp_prs r p0 k (j) = hp_sum (fun i => hp_prs r p0 i i) (k + 1) := by exact congrArg (fun z => hp_sum (fun i => hp_prs r p0 i i) k + hp_prs r p0 k z) ek
          exact ih_5 hkn _ (by have h9 := lv_sub (l' := [(2, .int (hp_sum (fun i => hp_prs r p0 i i) k + hp_prs r p0 k (j))), (3, .int (nI (k + 1))), (0, .ref o), (1, .int p0)]) hl [1, 0, 3, 4] rfl; rw [e_9] at h9; exact h9)
        · skip
          have c_8p := hp_nle c_8
          have hjk : j < k := Nat.lt_of_not_le (fun h => c_8 (nI_le h (by omega)))
          refine lv_iload_n hx hb dX2_clashes_42 rfl (lv_at hl 0 rfl) ?_
          refine hp_join 68 5 (fun x10 : Int32 => x10 = (if (r 5 k == p0 && hp_cla r k j) = true then 1 else 0)) (fun x10 => [(2, .int (hp_sum (fun i => hp_prs r p0 i i) k + hp_prs r p0 k (j))), (4, .int (nI j)), (3, .int (nI k)), (0, .ref o), (1, .int p0)]) (fun x10 => [.int x10, .int (hp_sum (fun i => hp_prs r p0 i i) k + hp_prs r p0 k (j))]) (fun x10 hx_11 ls hl => ?_) (fun jn_11 => ?_)
          · skip
            subst hx_11
            refine lv_iadd hx hb dX2_clashes_68 ?_
            refine lv_istore_n (lv' := [(2, .int ((hp_sum (fun i => hp_prs r p0 i i) k + hp_prs r p0 k (j)) + (if (r 5 k == p0 && hp_cla r k j) = true then 1 else 0))), (4, .int (nI j)), (3, .int (nI k)), (0, .ref o), (1, .int p0)]) hx hb dX2_clashes_69 rfl hl (by decide) rfl (fun ls hl => ?_)
            refine lv_iinc (v := nI (j + 1)) (lv' := [(4, .int (nI (j + 1))), (2, .int ((hp_sum (fun i => hp_prs r p0 i i) k + hp_prs r p0 k (j)) + (if (r 5 k == p0 && hp_cla r k j) = true then 1 else 0))), (3, .int (nI k)), (0, .ref o), (1, .int p0)]) hx hb dX2_clashes_70 hl (k := 1) rfl (nI_1 _) (by decide) rfl (fun ls hl => ?_)
            refine lv_goto (tgt := 36) hx hb dX2_clashes_73 (by decide) ?_
            have e_12 : (hp_sum (fun i => hp_prs r p0 i i) k + hp_prs r p0 k (j)) + (if (r 5 k == p0 && hp_cla r k j) = true then 1 else 0) = hp_sum (fun i => hp_prs r p0 i i) k + hp_prs r p0 k (j + 1) := by exact Int32.add_assoc _ _ _
            exact ih_7 hjk _ (by have h9 := lv_sub (l' := [(2, .int ((hp_sum (fun i => hp_prs r p0 i i) k + hp_prs r p0 k (j)) + (if (r 5 k == p0 && hp_cla r k j) = true then 1 else 0))), (4, .int (nI (j + 1))), (3, .int (nI k)), (0, .ref o), (1, .int p0)]) hl [1, 0, 2, 3, 4] rfl; rw [e_12] at h9; exact h9)
          · skip
            refine lv_aload_n hx hb dX2_clashes_43 rfl (lv_at hl 3 rfl) ?_
            refine va_get (D := (dC, dI)) (ci := 2) (v := .ref (a 5)) (C := RX2) (T := TX2) (N := 18) hx hb hts hinX2 hown hK hP 0 hp_M_o rfl 5 (by decide) hf_13 (fun _ h9 => h9) rfl dX2_clashes_44 ?_
            refine lv_iload_n hx hb dX2_clashes_47 rfl (lv_at hl 2 rfl) ?_
            refine hp_iald (v := r 5 k) hx hb hK hP 2 0 hp_M_5 rfl (k := k) (by omega) (by decide) rfl dX2_clashes_48 ?_
            refine lv_iload_n hx hb dX2_clashes_49 rfl (lv_at hl 4 rfl) ?_
            refine lv_icmp_ne (tgt := 67) hx hb dX2_clashes_50 (by decide) (fun c_13 => ?_) (fun c_13 => ?_)
            · skip
              refine lv_iconst (v := 0) hx hb dX2_clashes_67 (by decide) ?_
              exact jn_11 0 (by simp [c_4, hc, c_6, c_6p, c_8, c_8p, c_13]) _ (lv_sub hl [0, 1, 2, 3, 4] rfl)
            · skip
              refine lv_aload_n hx hb dX2_clashes_53 rfl (lv_at hl 3 rfl) ?_
              refine lv_iload_n hx hb dX2_clashes_54 rfl (lv_at hl 2 rfl) ?_
              refine lv_iload hx hb dX2_clashes_55 (lv_at hl 1 rfl) ?_
              refine vp_callSi (W.runV (As := [.int (nI k), .int (nI j)]) (rest := [.int (hp_sum (fun i => hp_prs r p0 i i) k + hp_prs r p0 k (j))]) ⟨hx, hb, hml, hown, hts⟩ (c_X2_doClash l dC dI cI cZ cO cJ o a (va_up v 0 (hp_c_st p0)) r n k (nI k) rfl j (nI j) rfl (by omega) (by omega) hinv) (cwV 2 hts gX2_clashes_X2_doClash rfl rfl rfl (by decide +kernel) ⟨(Nat.le_of_ble_eq_true rfl), (Nat.le_of_ble_eq_true rfl)⟩) ⟨hp_fb, va_recv hK hP (ci := 2) (q0 := 0) rfl hp_M_o, fun U hU hW => ⟨rfl, hp_to hP hK hU hW⟩⟩ rfl rfl hl.1 rfl (lv_room (Nat.le_of_ble_eq_true rfl)) dX2_clashes_57 ⟨(Nat.zero_le _), (Nat.zero_le _)⟩) (fun r_14 hr_14 => ?_)
              subst hr_14
              refine lv_if_eq (tgt := 67) hx hb dX2_clashes_60 (by decide) (fun c_15 => ?_) (fun c_15 => ?_)
              · skip
                have c_15 := hp_bz c_15
                refine lv_iconst (v := 0) hx hb dX2_clashes_67 (by decide) ?_
                exact jn_11 0 (by simp [c_4, hc, c_6, c_6p, c_8, c_8p, c_13, c_15]) _ (lv_sub hl [0, 1, 2, 3, 4] rfl)
              · skip
                have c_15 := hp_bn c_15
                refine lv_iconst (v := 1) hx hb dX2_clashes_63 (by decide) ?_
                refine lv_goto (tgt := 68) hx hb dX2_clashes_64 (by decide) ?_
                exact jn_11 1 (by simp [c_4, hc, c_6, c_6p, c_8, c_8p, c_13, c_15]) _ (lv_sub hl [0, 1, 2, 3, 4] rfl)
    · skip
      have c_4 := hp_bn c_4
      have hc := hp_ne0 c_4
      refine lv_iconst (v := 0) hx hb dX2_clashes_19 (by decide) ?_
      have hP9 : va_P (dC, dI) vwCl (hp_M cI cZ o a (va_up v 0 (hp_c_st p0)) r n) H_3 := by exact hP
      exact W.iret (v := 0) hx hb hr (fun t ht hW => ⟨⟨0, (), rfl, (by rw [hp_a_clashes, if_neg hc]), hp_ht ht hP9⟩, hS.F ht⟩) hS.2.2 dX2_clashes_20
  · skip
    refine lv_iload_n hx hb dX2_clashes_1 rfl (lv_at hl 1 rfl) ?_
    refine vp_callSi (W.runS (As := [.int p0]) (rest := [.ref o]) ⟨hx, hb, hml, hown, hts⟩ (c_X2_isStorey l p0) (va_cwS 1 hts gX2_clashes_X2_isStorey rfl rfl rfl (by decide +kernel) ⟨(Nat.le_of_ble_eq_true rfl), (Nat.le_of_ble_eq_true rfl)⟩) ⟨hp_nfb, fun _ _ _ => ⟨rfl, trivial⟩⟩ rfl rfl hl.1 rfl (lv_room (Nat.le_of_ble_eq_true rfl)) dX2_clashes_2 ⟨(Nat.zero_le _), (Nat.zero_le _)⟩) (fun r_16 hr_16 => ?_)
    subst hr_16
    refine lv_if_eq (tgt := 12) hx hb dX2_clashes_5 (by decide) (fun c_17 => ?_) (fun c_17 => ?_)
    · skip
      have c_17 := hp_bz c_17
      refine lv_iconst (v := 1) hx hb dX2_clashes_12 (by decide) ?_
      exact jn_2 1 (by exact hp_cd1 (by (first | assumption | (simp [c_17]; done)))) _ (lv_sub hl [0, 1] rfl)
    · skip
      have c_17 := hp_bn c_17
      refine lv_iconst (v := 0) hx hb dX2_clashes_8 (by decide) ?_
      refine lv_goto (tgt := 13) hx hb dX2_clashes_9 (by decide) ?_
      exact jn_2 0 (by exact hp_cdz (by (first | assumption | (simp [c_17]; done))) (by (first | assumption | (simp [c_17]; done))) (by (first | assumption | (simp [c_17]; done)))) _ (lv_sub hl [0, 1] rfl)
set_option maxHeartbeats 400000 in
set_option maxRecDepth 100000 in
theorem c_X2_isStopped (l : Launch) (dC : Nat → ClassId) (dI : Nat → Nat → Nat) (cI cZ cO cJ : ClassId) (o : Nat) (a : Nat → Nat) (v : Nat → Int32) (r : Nat → Nat → Int32) (n : Nat) (sz : Nat)  (p0 p1 : Int32) (hinv : hp_inv v r n) : Met l yX2_isStopped wsX2_isStopped ({ frames := 3, cells := 0, slots := 0, locals := 74 }) (va_Pc [.ref o, .int p0, .int p1] (hp_prm (dC, dI) cI cZ cO cJ (hp_M cI cZ o a v r n) sz)) (va_Qi (S := Unit) (fun x9 _ => x9 = hp_b (hp_b_stopped r n p0 p1)) (fun _ t9 => va_P (dC, dI) vwCl (hp_M cI cZ o a (va_up v 0 (hp_c_stopped p0 p1)) r n) t9.heap) (va_A (hp_M cI cZ o a v r n) sz)) 0 0 (va_A (hp_M cI cZ o a v r n) sz) := by
  refine Met.ofW (cc := cX2_isStopped) (maxL := 5) (ret := (some .boolean)) (by decide) rfl ?_
  intro p e s m args below meth c s₁ B hml hv
  obtain ⟨rfl, hsz, hP, hK, hD0⟩ := hv
  have hx := B.exec
  have hb := B.bytes
  have hr := B.returns
  have hts := atoms_spec (ws := wsX2_isStopped) B.pre
  have hown : s.vm.findClass RX2 = some m.cls := findClass_of_methodNamed B.named
  have hlocks := B.notSynchronized
  subst hsz
  have hD := hD0.self (sz := s.heap.size)
  generalize hAe : va_A (hp_M cI cZ o a v r n) s.heap.size = A at hD ⊢
  replace hD : ∀ v r n, va_D A (hp_M cI cZ o a v r n) := fun _ _ _ => hp_dM hD
  have hA : ∀ q : Nat, s.heap.size ≤ q → A q := fun q h => by rw [← hAe]; exact Or.inr h
  have hS : va_S A s.heap s.heap [] := va_S.rf
  have hf_7 := hts (.fieldLink RX2 7 "WallplanModel" "kind" "[I") (by decide +kernel)
  have hf_13 := hts (.fieldLink RX2 13 "WallplanModel" "storey" "[I") (by decide +kernel)
  have hf_61 := hts (.fieldLink RX2 61 "WallplanModel" "elements" "I") (by decide +kernel)
  have hinX2 : ∀ w ∈ wsX20, w ∈ wsX2_isStopped := by decide +kernel
  have hl := lv_entry ([.ref o, .int p0, .int p1]) (n := 5) (Nat.le_of_ble_eq_true rfl)
  rw [lg_entry_eq]
  generalize (lg_sl ([.ref o, .int p0, .int p1]) ++ List.replicate (5 - (lg_sl ([.ref o, .int p0, .int p1])).length) Slot.unset).toArray = ls at hl ⊢
  have hl : lv_has ls 5 [(0, .ref o), (1, .int p0), (2, .int p1)] := hl
  have hn := hinv.1
  refine lv_aload_n hx hb dX2_isStopped_0 rfl (lv_at hl 0 rfl) ?_
  refine hp_join 20 5 (fun x1 : Int32 => x1 = hp_c_stopped p0 p1) (fun x1 => [(0, .ref o), (1, .int p0), (2, .int p1)]) (fun x1 => [.int x1, .ref o]) (fun x1 hx_2 ls hl => ?_) (fun jn_2 => ?_)
  · skip
    subst hx_2
    have hFc := hp_free (hD v r n) hS hA
    refine va_calli (va_runV (As := [.int (hp_c_stopped p0 p1)]) (rest := []) ⟨hx, hb, hml, hown, hts⟩ (c_X2_refused l dC dI cI cZ cO cJ o a v r n s.heap.size (hp_c_stopped p0 p1)) (cwV 1 hts gX2_isStopped_X2_refused rfl rfl rfl (by decide +kernel) ⟨(Nat.le_of_ble_eq_true rfl), (Nat.le_of_ble_eq_true rfl)⟩) ⟨hp_mfb, va_recv hK hP (ci := 2) (q0 := 0) rfl hp_M_o, fun U hU hW => ⟨rfl, hp_mto hP hK (hD _ _ _) hU hW⟩⟩ rfl rfl hl.1 rfl (lv_room (Nat.le_of_ble_eq_true rfl)) dX2_isStopped_20 ⟨(Nat.zero_le _), (Nat.zero_le _)⟩) hS (fun q _ h => hFc q h) hFc (fun r_3 u_3 t_3 H_3 locs_3 ht _ hr_3 hB _ _ hS1 => ?_)
    replace hP : va_P (dC, dI) vwCl (hp_M cI cZ o a (va_up v 0 (hp_c_stopped p0 p1)) r n) H_3 := hp_th ht hB
    replace hS := hS1
    clear hS1 hB ht hFc
    subst hr_3
    refine lv_if_eq (tgt := 28) hx hb dX2_isStopped_23 (by decide) (fun c_4 => ?_) (fun c_4 => ?_)
    · skip
      have c_4 := hp_bz c_4
      have hc := hp_eq0 c_4
      obtain ⟨g1, g2, g3⟩ := hp_cd0 hc
      refine lv_iconst (v := 0) hx hb dX2_isStopped_28 (by decide) ?_
      refine lv_istore_n (lv' := [(3, .int 0), (0, .ref o), (1, .int p0), (2, .int p1)]) hx hb dX2_isStopped_29 rfl hl (by decide) rfl (fun ls hl => ?_)
      refine lv_iconst (v := 0) hx hb dX2_isStopped_30 (by decide) ?_
      refine lv_istore (lv' := [(4, .int 0), (3, .int 0), (0, .ref o), (1, .int p0), (2, .int p1)]) hx hb dX2_isStopped_31 hl (by decide) rfl (fun ls hl => ?_)
      refine hp_loop (fun k => [(3, .int (hp_b (hp_any (hp_stp r n p0 p1) (k)))), (4, .int (nI k)), (0, .ref o), (1, .int p0), (2, .int p1)]) n (fun k hk_5 ih_5 ls hl => ?_) (lv_sub hl [1, 0, 2, 3, 4] rfl)
      refine lv_iload hx hb dX2_isStopped_33 (lv_at hl 1 rfl) ?_
      refine lv_aload_n hx hb dX2_isStopped_35 rfl (lv_at hl 2 rfl) ?_
      refine va_get (D := (dC, dI)) (ci := 2) (v := .int (nI n)) (C := RX2) (T := TX2) (N := 18) hx hb hts hinX2 hown hK hP 0 hp_M_o rfl 3 (by decide) hf_61 (fun _ h9 => h9) rfl dX2_isStopped_36 ?_
      refine lv_icmp_ge (tgt := 89) hx hb dX2_isStopped_39 (by decide) (fun c_6 => ?_) (fun c_6 => ?_)
      · skip
        have c_6n := hp_len c_6
        have ek : k = n := Nat.le_antisymm (by omega) ((nI_leI (by omega) (by omega)).mp c_6)
        refine lv_iload_n hx hb dX2_isStopped_89 rfl (lv_at hl 0 rfl) ?_
        have hP9 : va_P (dC, dI) vwCl (hp_M cI cZ o a (va_up v 0 (hp_c_stopped p0 p1)) r n) H_3 := by exact hP
        exact W.zret (ty := .boolean) (v := hp_b (hp_any (hp_stp r n p0 p1) (k))) hx hb hr (hp_nar _) (fun t ht hW => ⟨⟨hp_b (hp_any (hp_stp r n p0 p1) (k)), (), rfl, (by rw [hp_b_stopped, decide_eq_true hc, Bool.true_and, ek]), hp_ht ht hP9⟩, hS.F ht⟩) hS.2.2 dX2_isStopped_90
      · skip
        have c_6p := hp_nle c_6
        have hkn : k < n := Nat.lt_of_not_le (fun h => c_6 (nI_le h (by omega)))
        refine hp_join 82 5 (fun x7 : Int32 => x7 = hp_b (hp_any (hp_stp r n p0 p1) (k + 1))) (fun x7 => [(3, .int (hp_b (hp_any (hp_stp r n p0 p1) (k)))), (4, .int (nI k)), (0, .ref o), (1, .int p0), (2, .int p1)]) (fun x7 => [.int x7]) (fun x7 hx_8 ls hl => ?_) (fun jn_8 => ?_)
        · skip
          subst hx_8
          refine lv_istore_n (lv' := [(3, .int (hp_b (hp_any (hp_stp r n p0 p1) (k + 1)))), (4, .int (nI k)), (0, .ref o), (1, .int p0), (2, .int p1)]) hx hb dX2_isStopped_82 rfl hl (by decide) rfl (fun ls hl => ?_)
          refine lv_iinc (v := nI (k + 1)) (lv' := [(4, .int (nI (k + 1))), (3, .int (hp_b (hp_any (hp_stp r n p0 p1) (k + 1)))), (0, .ref o), (1, .int p0), (2, .int p1)]) hx hb dX2_isStopped_83 hl (k := 1) rfl (nI_1 _) (by decide) rfl (fun ls hl => ?_)
          refine lv_goto (tgt := 33) hx hb dX2_isStopped_86 (by decide) ?_
          exact ih_5 hkn _ (lv_sub hl [1, 0, 2, 3, 4] rfl)
        · skip
          refine lv_iload_n hx hb dX2_isStopped_42 rfl (lv_at hl 0 rfl) ?_
          refine lv_if_ne (tgt := 77) hx hb dX2_isStopped_43 (by decide) (fun c_9 => ?_) (fun c_9 => ?_)
          · skip
            have c_9 := hp_bn c_9
            refine lv_iconst (v := 1) hx hb dX2_isStopped_77 (by decide) ?_
            refine lv_goto (tgt := 82) hx hb dX2_isStopped_78 (by decide) ?_
            exact jn_8 1 (by simp [hp_any, hp_stp, hp_b, c_4, hc, c_6, c_6p, c_9]) _ (lv_sub hl [0, 1, 2, 3, 4] rfl)
          · skip
            have c_9 := hp_bz c_9
            refine lv_aload_n hx hb dX2_isStopped_46 rfl (lv_at hl 2 rfl) ?_
            refine va_get (D := (dC, dI)) (ci := 2) (v := .ref (a 4)) (C := RX2) (T := TX2) (N := 18) hx hb hts hinX2 hown hK hP 0 hp_M_o rfl 4 (by decide) hf_7 (fun _ h9 => h9) rfl dX2_isStopped_47 ?_
            refine lv_iload hx hb dX2_isStopped_50 (lv_at hl 1 rfl) ?_
            refine hp_iald (v := r 4 k) hx hb hK hP 1 0 hp_M_4 rfl (k := k) (by omega) (by decide) rfl dX2_isStopped_52 ?_
            refine lv_iload_n hx hb dX2_isStopped_53 rfl (lv_at hl 3 rfl) ?_
            refine lv_icmp_ne (tgt := 81) hx hb dX2_isStopped_54 (by decide) (fun c_10 => ?_) (fun c_10 => ?_)
            · skip
              refine lv_iconst (v := 0) hx hb dX2_isStopped_81 (by decide) ?_
              exact jn_8 0 (by simp [hp_any, hp_stp, hp_b, c_4, hc, c_6, c_6p, c_9, c_10]) _ (lv_sub hl [0, 1, 2, 3, 4] rfl)
            · skip
              refine lv_aload_n hx hb dX2_isStopped_57 rfl (lv_at hl 2 rfl) ?_
              refine va_get (D := (dC, dI)) (ci := 2) (v := .ref (a 5)) (C := RX2) (T := TX2) (N := 18) hx hb hts hinX2 hown hK hP 0 hp_M_o rfl 5 (by decide) hf_13 (fun _ h9 => h9) rfl dX2_isStopped_58 ?_
              refine lv_iload hx hb dX2_isStopped_61 (lv_at hl 1 rfl) ?_
              refine hp_iald (v := r 5 k) hx hb hK hP 2 0 hp_M_5 rfl (k := k) (by omega) (by decide) rfl dX2_isStopped_63 ?_
              refine lv_iload_n hx hb dX2_isStopped_64 rfl (lv_at hl 4 rfl) ?_
              refine lv_icmp_ne (tgt := 81) hx hb dX2_isStopped_65 (by decide) (fun c_11 => ?_) (fun c_11 => ?_)
              · skip
                refine lv_iconst (v := 0) hx hb dX2_isStopped_81 (by decide) ?_
                exact jn_8 0 (by simp [hp_any, hp_stp, hp_b, c_4, hc, c_6, c_6p, c_9, c_10, c_11]) _ (lv_sub hl [0, 1, 2, 3, 4] rfl)
              · skip
                refine lv_aload_n hx hb dX2_isStopped_68 rfl (lv_at hl 2 rfl) ?_
                refine lv_iload hx hb dX2_isStopped_69 (lv_at hl 1 rfl) ?_
                refine vp_callSi (W.runV (As := [.int (nI k)]) (rest := []) ⟨hx, hb, hml, hown, hts⟩ (c_X2_hasClash l dC dI cI cZ cO cJ o a (va_up v 0 (hp_c_stopped p0 p1)) r n k (nI k) rfl (by omega) hinv) (cwV 1 hts gX2_isStopped_X2_hasClash rfl rfl rfl (by decide +kernel) ⟨(Nat.le_of_ble_eq_true rfl), (Nat.le_of_ble_eq_true rfl)⟩) ⟨hp_fb, va_recv hK hP (ci := 2) (q0 := 0) rfl hp_M_o, fun U hU hW => ⟨rfl, hp_to hP hK hU hW⟩⟩ rfl rfl hl.1 rfl (lv_room (Nat.le_of_ble_eq_true rfl)) dX2_isStopped_71 ⟨(Nat.zero_le _), (Nat.zero_le _)⟩) (fun r_12 hr_12 => ?_)
                subst hr_12
                refine lv_if_eq (tgt := 81) hx hb dX2_isStopped_74 (by decide) (fun c_13 => ?_) (fun c_13 => ?_)
                · skip
                  have c_13 := hp_bz c_13
                  refine lv_iconst (v := 0) hx hb dX2_isStopped_81 (by decide) ?_
                  exact jn_8 0 (by simp [hp_any, hp_stp, hp_b, c_4, hc, c_6, c_6p, c_9, c_10, c_11, c_13]) _ (lv_sub hl [0, 1, 2, 3, 4] rfl)
                · skip
                  have c_13 := hp_bn c_13
                  refine lv_iconst (v := 1) hx hb dX2_isStopped_77 (by decide) ?_
                  refine lv_goto (tgt := 82) hx hb dX2_isStopped_78 (by decide) ?_
                  exact jn_8 1 (by simp [hp_any, hp_stp, hp_b, c_4, hc, c_6, c_6p, c_9, c_10, c_11, c_13]) _ (lv_sub hl [0, 1, 2, 3, 4] rfl)
    · skip
      have c_4 := hp_bn c_4
      have hc := hp_ne0 c_4
      refine lv_iconst (v := 0) hx hb dX2_isStopped_26 (by decide) ?_
      have hP9 : va_P (dC, dI) vwCl (hp_M cI cZ o a (va_up v 0 (hp_c_stopped p0 p1)) r n) H_3 := by exact hP
      exact W.zret (ty := .boolean) (v := 0) hx hb hr rfl (fun t ht hW => ⟨⟨0, (), rfl, (by exact hp_bf2 (by simp [hp_b_stopped, c_4, hc])), hp_ht ht hP9⟩, hS.F ht⟩) hS.2.2 dX2_isStopped_27
  · skip
    refine lv_iload_n hx hb dX2_isStopped_1 rfl (lv_at hl 1 rfl) ?_
    refine vp_callSi (W.runS (As := [.int p0]) (rest := [.ref o]) ⟨hx, hb, hml, hown, hts⟩ (c_X2_isTrade l p0) (va_cwS 1 hts gX2_isStopped_X2_isTrade rfl rfl rfl (by decide +kernel) ⟨(Nat.le_of_ble_eq_true rfl), (Nat.le_of_ble_eq_true rfl)⟩) ⟨hp_nfb, fun _ _ _ => ⟨rfl, trivial⟩⟩ rfl rfl hl.1 rfl (lv_room (Nat.le_of_ble_eq_true rfl)) dX2_isStopped_2 ⟨(Nat.zero_le _), (Nat.zero_le _)⟩) (fun r_14 hr_14 => ?_)
    subst hr_14
    refine lv_if_eq (tgt := 19) hx hb dX2_isStopped_5 (by decide) (fun c_15 => ?_) (fun c_15 => ?_)
    · skip
      have c_15 := hp_bz c_15
      refine lv_iconst (v := 1) hx hb dX2_isStopped_19 (by decide) ?_
      exact jn_2 1 (by exact hp_cd1 (by (first | assumption | (simp [c_15]; done)))) _ (lv_sub hl [0, 1, 2] rfl)
    · skip
      have c_15 := hp_bn c_15
      refine lv_iload_n hx hb dX2_isStopped_8 rfl (lv_at hl 2 rfl) ?_
      refine vp_callSi (W.runS (As := [.int p1]) (rest := [.ref o]) ⟨hx, hb, hml, hown, hts⟩ (c_X2_isStorey l p1) (va_cwS 1 hts gX2_isStopped_X2_isStorey rfl rfl rfl (by decide +kernel) ⟨(Nat.le_of_ble_eq_true rfl), (Nat.le_of_ble_eq_true rfl)⟩) ⟨hp_nfb, fun _ _ _ => ⟨rfl, trivial⟩⟩ rfl rfl hl.1 rfl (lv_room (Nat.le_of_ble_eq_true rfl)) dX2_isStopped_9 ⟨(Nat.zero_le _), (Nat.zero_le _)⟩) (fun r_16 hr_16 => ?_)
      subst hr_16
      refine lv_if_eq (tgt := 19) hx hb dX2_isStopped_12 (by decide) (fun c_17 => ?_) (fun c_17 => ?_)
      · skip
        have c_17 := hp_bz c_17
        refine lv_iconst (v := 1) hx hb dX2_isStopped_19 (by decide) ?_
        exact jn_2 1 (by exact hp_cd1 (by (first | assumption | (simp [c_15, c_17]; done)))) _ (lv_sub hl [0, 1, 2] rfl)
      · skip
        have c_17 := hp_bn c_17
        refine lv_iconst (v := 0) hx hb dX2_isStopped_15 (by decide) ?_
        refine lv_goto (tgt := 20) hx hb dX2_isStopped_16 (by decide) ?_
        exact jn_2 0 (by exact hp_cdz (by (first | assumption | (simp [c_15, c_17]; done))) (by (first | assumption | (simp [c_15, c_17]; done))) (by (first | assumption | (simp [c_15, c_17]; done)))) _ (lv_sub hl [0, 1, 2] rfl)
set_option maxHeartbeats 400000 in
set_option maxRecDepth 100000 in
theorem c_X2_parts (l : Launch) (dC : Nat → ClassId) (dI : Nat → Nat → Nat) (cI cZ cO cJ : ClassId) (o : Nat) (a : Nat → Nat) (v : Nat → Int32) (r : Nat → Nat → Int32) (n : Nat) (sz : Nat)  (p0 : Int32) (hinv : hp_inv v r n) : Met l yX2_parts wsX2_parts ({ frames := 4, cells := 0, slots := 0, locals := 86 }) (va_Pc [.ref o, .int p0] (hp_prm (dC, dI) cI cZ cO cJ (hp_M cI cZ o a v r n) sz)) (va_Qi (S := Unit) (fun x9 _ => x9 = hp_a_parts r n p0 0) (fun _ t9 => va_P (dC, dI) vwCl (hp_M cI cZ o a (va_up v 0 (hp_c_kd p0)) r n) t9.heap) (va_A (hp_M cI cZ o a v r n) sz)) 0 0 (va_A (hp_M cI cZ o a v r n) sz) := by
  refine Met.ofW (cc := cX2_parts) (maxL := 2) (ret := (some .int)) (by decide) rfl ?_
  intro p e s m args below meth c s₁ B hml hv
  obtain ⟨rfl, hsz, hP, hK, hD0⟩ := hv
  have hx := B.exec
  have hb := B.bytes
  have hr := B.returns
  have hts := atoms_spec (ws := wsX2_parts) B.pre
  have hown : s.vm.findClass RX2 = some m.cls := findClass_of_methodNamed B.named
  have hlocks := B.notSynchronized
  subst hsz
  have hD := hD0.self (sz := s.heap.size)
  generalize hAe : va_A (hp_M cI cZ o a v r n) s.heap.size = A at hD ⊢
  replace hD : ∀ v r n, va_D A (hp_M cI cZ o a v r n) := fun _ _ _ => hp_dM hD
  have hA : ∀ q : Nat, s.heap.size ≤ q → A q := fun q h => by rw [← hAe]; exact Or.inr h
  have hS : va_S A s.heap s.heap [] := va_S.rf
  have hl := lv_entry ([.ref o, .int p0]) (n := 2) (Nat.le_of_ble_eq_true rfl)
  rw [lg_entry_eq]
  generalize (lg_sl ([.ref o, .int p0]) ++ List.replicate (2 - (lg_sl ([.ref o, .int p0])).length) Slot.unset).toArray = ls at hl ⊢
  have hl : lv_has ls 2 [(0, .ref o), (1, .int p0)] := hl
  have hn := hinv.1
  refine lv_aload_n hx hb dX2_parts_0 rfl (lv_at hl 0 rfl) ?_
  refine hp_join 13 2 (fun x1 : Int32 => x1 = hp_c_kd p0) (fun x1 => [(0, .ref o), (1, .int p0)]) (fun x1 => [.int x1, .ref o]) (fun x1 hx_2 ls hl => ?_) (fun jn_2 => ?_)
  · skip
    subst hx_2
    have hFc := hp_free (hD v r n) hS hA
    refine va_calli (va_runV (As := [.int (hp_c_kd p0)]) (rest := []) ⟨hx, hb, hml, hown, hts⟩ (c_X2_refused l dC dI cI cZ cO cJ o a v r n s.heap.size (hp_c_kd p0)) (cwV 1 hts gX2_parts_X2_refused rfl rfl rfl (by decide +kernel) ⟨(Nat.le_of_ble_eq_true rfl), (Nat.le_of_ble_eq_true rfl)⟩) ⟨hp_mfb, va_recv hK hP (ci := 2) (q0 := 0) rfl hp_M_o, fun U hU hW => ⟨rfl, hp_mto hP hK (hD _ _ _) hU hW⟩⟩ rfl rfl hl.1 rfl (lv_room (Nat.le_of_ble_eq_true rfl)) dX2_parts_13 ⟨(Nat.zero_le _), (Nat.zero_le _)⟩) hS (fun q _ h => hFc q h) hFc (fun r_3 u_3 t_3 H_3 locs_3 ht _ hr_3 hB _ _ hS1 => ?_)
    replace hP : va_P (dC, dI) vwCl (hp_M cI cZ o a (va_up v 0 (hp_c_kd p0)) r n) H_3 := hp_th ht hB
    replace hS := hS1
    clear hS1 hB ht hFc
    subst hr_3
    refine lv_if_eq (tgt := 23) hx hb dX2_parts_16 (by decide) (fun c_4 => ?_) (fun c_4 => ?_)
    · skip
      have c_4 := hp_bz c_4
      have hc := hp_eq0 c_4
      obtain ⟨g1, g2, g3⟩ := hp_cd0 hc
      refine lv_aload_n hx hb dX2_parts_23 rfl (lv_at hl 0 rfl) ?_
      refine lv_iload_n hx hb dX2_parts_24 rfl (lv_at hl 1 rfl) ?_
      refine lv_iconst (v := 0) hx hb dX2_parts_25 (by decide) ?_
      refine vp_callSi (W.runV (As := [.int p0, .int 0]) (rest := []) ⟨hx, hb, hml, hown, hts⟩ (c_X2_partsFrom l dC dI cI cZ cO cJ o a (va_up v 0 (hp_c_kd p0)) r n p0 0 hinv) (cwV 2 hts gX2_parts_X2_partsFrom rfl rfl rfl (by decide +kernel) ⟨(Nat.le_of_ble_eq_true rfl), (Nat.le_of_ble_eq_true rfl)⟩) ⟨hp_fb, va_recv hK hP (ci := 2) (q0 := 0) rfl hp_M_o, fun U hU hW => ⟨rfl, hp_to hP hK hU hW⟩⟩ rfl rfl hl.1 rfl (lv_room (Nat.le_of_ble_eq_true rfl)) dX2_parts_26 ⟨(Nat.zero_le _), (Nat.zero_le _)⟩) (fun r_5 hr_5 => ?_)
      subst hr_5
      have hP9 : va_P (dC, dI) vwCl (hp_M cI cZ o a (va_up v 0 (hp_c_kd p0)) r n) H_3 := by exact hP
      exact W.iret (v := hp_lst r n p0 0) hx hb hr (fun t ht hW => ⟨⟨hp_lst r n p0 0, (), rfl, (by rw [hp_a_parts, if_pos hc]), hp_ht ht hP9⟩, hS.F ht⟩) hS.2.2 dX2_parts_29
    · skip
      have c_4 := hp_bn c_4
      have hc := hp_ne0 c_4
      refine lv_iconst (v := 0) hx hb dX2_parts_19 (by decide) ?_
      refine lv_goto (tgt := 29) hx hb dX2_parts_20 (by decide) ?_
      have hP9 : va_P (dC, dI) vwCl (hp_M cI cZ o a (va_up v 0 (hp_c_kd p0)) r n) H_3 := by exact hP
      exact W.iret (v := 0) hx hb hr (fun t ht hW => ⟨⟨0, (), rfl, (by rw [hp_a_parts, if_neg hc]), hp_ht ht hP9⟩, hS.F ht⟩) hS.2.2 dX2_parts_29
  · skip
    refine lv_iload_n hx hb dX2_parts_1 rfl (lv_at hl 1 rfl) ?_
    refine vp_callSi (W.runS (As := [.int p0]) (rest := [.ref o]) ⟨hx, hb, hml, hown, hts⟩ (c_X2_isTrade l p0) (va_cwS 1 hts gX2_parts_X2_isTrade rfl rfl rfl (by decide +kernel) ⟨(Nat.le_of_ble_eq_true rfl), (Nat.le_of_ble_eq_true rfl)⟩) ⟨hp_nfb, fun _ _ _ => ⟨rfl, trivial⟩⟩ rfl rfl hl.1 rfl (lv_room (Nat.le_of_ble_eq_true rfl)) dX2_parts_2 ⟨(Nat.zero_le _), (Nat.zero_le _)⟩) (fun r_6 hr_6 => ?_)
    subst hr_6
    refine lv_if_eq (tgt := 12) hx hb dX2_parts_5 (by decide) (fun c_7 => ?_) (fun c_7 => ?_)
    · skip
      have c_7 := hp_bz c_7
      refine lv_iconst (v := 1) hx hb dX2_parts_12 (by decide) ?_
      exact jn_2 1 (by exact hp_cd1 (by (first | assumption | (simp [c_7]; done)))) _ (lv_sub hl [0, 1] rfl)
    · skip
      have c_7 := hp_bn c_7
      refine lv_iconst (v := 0) hx hb dX2_parts_8 (by decide) ?_
      refine lv_goto (tgt := 13) hx hb dX2_parts_9 (by decide) ?_
      exact jn_2 0 (by exact hp_cdz (by (first | assumption | (simp [c_7]; done))) (by (first | assumption | (simp [c_7]; done))) (by (first | assumption | (simp [c_7]; done)))) _ (lv_sub hl [0, 1] rfl)
set_option maxHeartbeats 400000 in
set_option maxRecDepth 100000 in
theorem c_X2_ordered (l : Launch) (dC : Nat → ClassId) (dI : Nat → Nat → Nat) (cI cZ cO cJ : ClassId) (o : Nat) (a : Nat → Nat) (v : Nat → Int32) (r : Nat → Nat → Int32) (n : Nat) (sz : Nat)  (p0 : Int32) (hinv : hp_inv v r n) : Met l yX2_ordered wsX2_ordered ({ frames := 4, cells := 0, slots := 0, locals := 86 }) (va_Pc [.ref o, .int p0] (hp_prm (dC, dI) cI cZ cO cJ (hp_M cI cZ o a v r n) sz)) (va_Qi (S := Unit) (fun x9 _ => x9 = hp_a_parts r n p0 1) (fun _ t9 => va_P (dC, dI) vwCl (hp_M cI cZ o a (va_up v 0 (hp_c_kd p0)) r n) t9.heap) (va_A (hp_M cI cZ o a v r n) sz)) 0 0 (va_A (hp_M cI cZ o a v r n) sz) := by
  refine Met.ofW (cc := cX2_ordered) (maxL := 2) (ret := (some .int)) (by decide) rfl ?_
  intro p e s m args below meth c s₁ B hml hv
  obtain ⟨rfl, hsz, hP, hK, hD0⟩ := hv
  have hx := B.exec
  have hb := B.bytes
  have hr := B.returns
  have hts := atoms_spec (ws := wsX2_ordered) B.pre
  have hown : s.vm.findClass RX2 = some m.cls := findClass_of_methodNamed B.named
  have hlocks := B.notSynchronized
  subst hsz
  have hD := hD0.self (sz := s.heap.size)
  generalize hAe : va_A (hp_M cI cZ o a v r n) s.heap.size = A at hD ⊢
  replace hD : ∀ v r n, va_D A (hp_M cI cZ o a v r n) := fun _ _ _ => hp_dM hD
  have hA : ∀ q : Nat, s.heap.size ≤ q → A q := fun q h => by rw [← hAe]; exact Or.inr h
  have hS : va_S A s.heap s.heap [] := va_S.rf
  have hl := lv_entry ([.ref o, .int p0]) (n := 2) (Nat.le_of_ble_eq_true rfl)
  rw [lg_entry_eq]
  generalize (lg_sl ([.ref o, .int p0]) ++ List.replicate (2 - (lg_sl ([.ref o, .int p0])).length) Slot.unset).toArray = ls at hl ⊢
  have hl : lv_has ls 2 [(0, .ref o), (1, .int p0)] := hl
  have hn := hinv.1
  refine lv_aload_n hx hb dX2_ordered_0 rfl (lv_at hl 0 rfl) ?_
  refine hp_join 13 2 (fun x1 : Int32 => x1 = hp_c_kd p0) (fun x1 => [(0, .ref o), (1, .int p0)]) (fun x1 => [.int x1, .ref o]) (fun x1 hx_2 ls hl => ?_) (fun jn_2 => ?_)
  · skip
    subst hx_2
    have hFc := hp_free (hD v r n) hS hA
    refine va_calli (va_runV (As := [.int (hp_c_kd p0)]) (rest := []) ⟨hx, hb, hml, hown, hts⟩ (c_X2_refused l dC dI cI cZ cO cJ o a v r n s.heap.size (hp_c_kd p0)) (cwV 1 hts gX2_ordered_X2_refused rfl rfl rfl (by decide +kernel) ⟨(Nat.le_of_ble_eq_true rfl), (Nat.le_of_ble_eq_true rfl)⟩) ⟨hp_mfb, va_recv hK hP (ci := 2) (q0 := 0) rfl hp_M_o, fun U hU hW => ⟨rfl, hp_mto hP hK (hD _ _ _) hU hW⟩⟩ rfl rfl hl.1 rfl (lv_room (Nat.le_of_ble_eq_true rfl)) dX2_ordered_13 ⟨(Nat.zero_le _), (Nat.zero_le _)⟩) hS (fun q _ h => hFc q h) hFc (fun r_3 u_3 t_3 H_3 locs_3 ht _ hr_3 hB _ _ hS1 => ?_)
    replace hP : va_P (dC, dI) vwCl (hp_M cI cZ o a (va_up v 0 (hp_c_kd p0)) r n) H_3 := hp_th ht hB
    replace hS := hS1
    clear hS1 hB ht hFc
    subst hr_3
    refine lv_if_eq (tgt := 23) hx hb dX2_ordered_16 (by decide) (fun c_4 => ?_) (fun c_4 => ?_)
    · skip
      have c_4 := hp_bz c_4
      have hc := hp_eq0 c_4
      obtain ⟨g1, g2, g3⟩ := hp_cd0 hc
      refine lv_aload_n hx hb dX2_ordered_23 rfl (lv_at hl 0 rfl) ?_
      refine lv_iload_n hx hb dX2_ordered_24 rfl (lv_at hl 1 rfl) ?_
      refine lv_iconst (v := 1) hx hb dX2_ordered_25 (by decide) ?_
      refine vp_callSi (W.runV (As := [.int p0, .int 1]) (rest := []) ⟨hx, hb, hml, hown, hts⟩ (c_X2_partsFrom l dC dI cI cZ cO cJ o a (va_up v 0 (hp_c_kd p0)) r n p0 1 hinv) (cwV 2 hts gX2_ordered_X2_partsFrom rfl rfl rfl (by decide +kernel) ⟨(Nat.le_of_ble_eq_true rfl), (Nat.le_of_ble_eq_true rfl)⟩) ⟨hp_fb, va_recv hK hP (ci := 2) (q0 := 0) rfl hp_M_o, fun U hU hW => ⟨rfl, hp_to hP hK hU hW⟩⟩ rfl rfl hl.1 rfl (lv_room (Nat.le_of_ble_eq_true rfl)) dX2_ordered_26 ⟨(Nat.zero_le _), (Nat.zero_le _)⟩) (fun r_5 hr_5 => ?_)
      subst hr_5
      have hP9 : va_P (dC, dI) vwCl (hp_M cI cZ o a (va_up v 0 (hp_c_kd p0)) r n) H_3 := by exact hP
      exact W.iret (v := hp_lst r n p0 1) hx hb hr (fun t ht hW => ⟨⟨hp_lst r n p0 1, (), rfl, (by rw [hp_a_parts, if_pos hc]), hp_ht ht hP9⟩, hS.F ht⟩) hS.2.2 dX2_ordered_29
    · skip
      have c_4 := hp_bn c_4
      have hc := hp_ne0 c_4
      refine lv_iconst (v := 0) hx hb dX2_ordered_19 (by decide) ?_
      refine lv_goto (tgt := 29) hx hb dX2_ordered_20 (by decide) ?_
      have hP9 : va_P (dC, dI) vwCl (hp_M cI cZ o a (va_up v 0 (hp_c_kd p0)) r n) H_3 := by exact hP
      exact W.iret (v := 0) hx hb hr (fun t ht hW => ⟨⟨0, (), rfl, (by rw [hp_a_parts, if_neg hc]), hp_ht ht hP9⟩, hS.F ht⟩) hS.2.2 dX2_ordered_29
  · skip
    refine lv_iload_n hx hb dX2_ordered_1 rfl (lv_at hl 1 rfl) ?_
    refine vp_callSi (W.runS (As := [.int p0]) (rest := [.ref o]) ⟨hx, hb, hml, hown, hts⟩ (c_X2_isTrade l p0) (va_cwS 1 hts gX2_ordered_X2_isTrade rfl rfl rfl (by decide +kernel) ⟨(Nat.le_of_ble_eq_true rfl), (Nat.le_of_ble_eq_true rfl)⟩) ⟨hp_nfb, fun _ _ _ => ⟨rfl, trivial⟩⟩ rfl rfl hl.1 rfl (lv_room (Nat.le_of_ble_eq_true rfl)) dX2_ordered_2 ⟨(Nat.zero_le _), (Nat.zero_le _)⟩) (fun r_6 hr_6 => ?_)
    subst hr_6
    refine lv_if_eq (tgt := 12) hx hb dX2_ordered_5 (by decide) (fun c_7 => ?_) (fun c_7 => ?_)
    · skip
      have c_7 := hp_bz c_7
      refine lv_iconst (v := 1) hx hb dX2_ordered_12 (by decide) ?_
      exact jn_2 1 (by exact hp_cd1 (by (first | assumption | (simp [c_7]; done)))) _ (lv_sub hl [0, 1] rfl)
    · skip
      have c_7 := hp_bn c_7
      refine lv_iconst (v := 0) hx hb dX2_ordered_8 (by decide) ?_
      refine lv_goto (tgt := 13) hx hb dX2_ordered_9 (by decide) ?_
      exact jn_2 0 (by exact hp_cdz (by (first | assumption | (simp [c_7]; done))) (by (first | assumption | (simp [c_7]; done))) (by (first | assumption | (simp [c_7]; done)))) _ (lv_sub hl [0, 1] rfl)
set_option maxHeartbeats 400000 in
set_option maxRecDepth 100000 in
theorem c_X2_partsAnew (l : Launch) (dC : Nat → ClassId) (dI : Nat → Nat → Nat) (cI cZ cO cJ : ClassId) (o : Nat) (a : Nat → Nat) (v : Nat → Int32) (r : Nat → Nat → Int32) (n : Nat) (sz : Nat)  (p0 : Int32) (hinv : hp_inv v r n) : Met l yX2_partsAnew wsX2_partsAnew ({ frames := 5, cells := 0, slots := 0, locals := 107 }) (va_Pc [.ref o, .int p0] (hp_prm (dC, dI) cI cZ cO cJ (hp_M cI cZ o a v r n) sz)) (va_Qi (S := Unit) (fun x9 _ => x9 = hp_a_parts r n p0 0) (fun _ t9 => va_P (dC, dI) vwCl (hp_M cI cZ o a (va_up v 0 (hp_c_kd p0)) r n) t9.heap) (va_A (hp_M cI cZ o a v r n) sz)) 0 0 (va_A (hp_M cI cZ o a v r n) sz) := by
  refine Met.ofW (cc := cX2_partsAnew) (maxL := 2) (ret := (some .int)) (by decide) rfl ?_
  intro p e s m args below meth c s₁ B hml hv
  obtain ⟨rfl, hsz, hP, hK, hD0⟩ := hv
  have hx := B.exec
  have hb := B.bytes
  have hr := B.returns
  have hts := atoms_spec (ws := wsX2_partsAnew) B.pre
  have hown : s.vm.findClass RX2 = some m.cls := findClass_of_methodNamed B.named
  have hlocks := B.notSynchronized
  subst hsz
  have hD := hD0.self (sz := s.heap.size)
  generalize hAe : va_A (hp_M cI cZ o a v r n) s.heap.size = A at hD ⊢
  replace hD : ∀ v r n, va_D A (hp_M cI cZ o a v r n) := fun _ _ _ => hp_dM hD
  have hA : ∀ q : Nat, s.heap.size ≤ q → A q := fun q h => by rw [← hAe]; exact Or.inr h
  have hS : va_S A s.heap s.heap [] := va_S.rf
  have hl := lv_entry ([.ref o, .int p0]) (n := 2) (Nat.le_of_ble_eq_true rfl)
  rw [lg_entry_eq]
  generalize (lg_sl ([.ref o, .int p0]) ++ List.replicate (2 - (lg_sl ([.ref o, .int p0])).length) Slot.unset).toArray = ls at hl ⊢
  have hl : lv_has ls 2 [(0, .ref o), (1, .int p0)] := hl
  refine lv_aload_n hx hb dX2_partsAnew_0 rfl (lv_at hl 0 rfl) ?_
  refine lv_iload_n hx hb dX2_partsAnew_1 rfl (lv_at hl 1 rfl) ?_
  have hFc := hp_free (hD v r n) hS hA
  refine va_calli (va_runV (As := [.int p0]) (rest := []) ⟨hx, hb, hml, hown, hts⟩ (c_X2_parts l dC dI cI cZ cO cJ o a v r n s.heap.size p0 hinv) (cwV 1 hts gX2_partsAnew_X2_parts rfl rfl rfl (by decide +kernel) ⟨(Nat.le_of_ble_eq_true rfl), (Nat.le_of_ble_eq_true rfl)⟩) ⟨hp_mfb, va_recv hK hP (ci := 2) (q0 := 0) rfl hp_M_o, fun U hU hW => ⟨rfl, hp_mto hP hK (hD _ _ _) hU hW⟩⟩ rfl rfl hl.1 rfl (lv_room (Nat.le_of_ble_eq_true rfl)) dX2_partsAnew_2 ⟨(Nat.zero_le _), (Nat.zero_le _)⟩) hS (fun q _ h => hFc q h) hFc (fun r_1 u_1 t_1 H_1 locs_1 ht _ hr_1 hB _ _ hS1 => ?_)
  replace hP : va_P (dC, dI) vwCl (hp_M cI cZ o a (va_up v 0 (hp_c_kd p0)) r n) H_1 := hp_th ht hB
  replace hS := hS1
  clear hS1 hB ht hFc
  subst hr_1
  have hP9 : va_P (dC, dI) vwCl (hp_M cI cZ o a (va_up v 0 (hp_c_kd p0)) r n) H_1 := by exact hP
  exact W.iret (v := hp_a_parts r n p0 0) hx hb hr (fun t ht hW => ⟨⟨hp_a_parts r n p0 0, (), rfl, (by rfl), hp_ht ht hP9⟩, hS.F ht⟩) hS.2.2 dX2_partsAnew_5
set_option maxHeartbeats 400000 in
set_option maxRecDepth 100000 in
theorem c_X2_kindsAt (l : Launch) (dC : Nat → ClassId) (dI : Nat → Nat → Nat) (cI cZ cO cJ : ClassId) (o : Nat) (a : Nat → Nat) (v : Nat → Int32) (r : Nat → Nat → Int32) (n : Nat) (sz : Nat)  (p0 p1 p2 : Int32) (hinv : hp_inv v r n) : Met l yX2_kindsAt wsX2_kindsAt ({ frames := 2, cells := 0, slots := 0, locals := 42 }) (va_Pc [.ref o, .int p0, .int p1, .int p2] (hp_prm (dC, dI) cI cZ cO cJ (hp_M cI cZ o a v r n) sz)) (va_Qi (S := Unit) (fun x9 _ => x9 = hp_a_kindsAt r n p0 p1 p2) (fun _ t9 => va_P (dC, dI) vwCl (hp_M cI cZ o a (va_up v 0 (hp_c_kindsAt p0 p1 p2)) r n) t9.heap) (va_A (hp_M cI cZ o a v r n) sz)) 0 0 (va_A (hp_M cI cZ o a v r n) sz) := by
  refine Met.ofW (cc := cX2_kindsAt) (maxL := 7) (ret := (some .int)) (by decide) rfl ?_
  intro p e s m args below meth c s₁ B hml hv
  obtain ⟨rfl, hsz, hP, hK, hD0⟩ := hv
  have hx := B.exec
  have hb := B.bytes
  have hr := B.returns
  have hts := atoms_spec (ws := wsX2_kindsAt) B.pre
  have hown : s.vm.findClass RX2 = some m.cls := findClass_of_methodNamed B.named
  have hlocks := B.notSynchronized
  subst hsz
  have hD := hD0.self (sz := s.heap.size)
  generalize hAe : va_A (hp_M cI cZ o a v r n) s.heap.size = A at hD ⊢
  replace hD : ∀ v r n, va_D A (hp_M cI cZ o a v r n) := fun _ _ _ => hp_dM hD
  have hA : ∀ q : Nat, s.heap.size ≤ q → A q := fun q h => by rw [← hAe]; exact Or.inr h
  have hS : va_S A s.heap s.heap [] := va_S.rf
  have hf_7 := hts (.fieldLink RX2 7 "WallplanModel" "kind" "[I") (by decide +kernel)
  have hf_13 := hts (.fieldLink RX2 13 "WallplanModel" "storey" "[I") (by decide +kernel)
  have hf_16 := hts (.fieldLink RX2 16 "WallplanModel" "fromX" "[I") (by decide +kernel)
  have hf_19 := hts (.fieldLink RX2 19 "WallplanModel" "fromY" "[I") (by decide +kernel)
  have hf_22 := hts (.fieldLink RX2 22 "WallplanModel" "toX" "[I") (by decide +kernel)
  have hf_25 := hts (.fieldLink RX2 25 "WallplanModel" "toY" "[I") (by decide +kernel)
  have hf_28 := hts (.fieldLink RX2 28 "WallplanModel" "state" "[I") (by decide +kernel)
  have hf_61 := hts (.fieldLink RX2 61 "WallplanModel" "elements" "I") (by decide +kernel)
  have hinX2 : ∀ w ∈ wsX20, w ∈ wsX2_kindsAt := by decide +kernel
  have hl := lv_entry ([.ref o, .int p0, .int p1, .int p2]) (n := 7) (Nat.le_of_ble_eq_true rfl)
  rw [lg_entry_eq]
  generalize (lg_sl ([.ref o, .int p0, .int p1, .int p2]) ++ List.replicate (7 - (lg_sl ([.ref o, .int p0, .int p1, .int p2])).length) Slot.unset).toArray = ls at hl ⊢
  have hl : lv_has ls 7 [(0, .ref o), (1, .int p0), (2, .int p1), (3, .int p2)] := hl
  have hn := hinv.1
  refine lv_aload_n hx hb dX2_kindsAt_0 rfl (lv_at hl 0 rfl) ?_
  refine hp_join 31 7 (fun x1 : Int32 => x1 = hp_c_kindsAt p0 p1 p2) (fun x1 => [(0, .ref o), (1, .int p0), (2, .int p1), (3, .int p2)]) (fun x1 => [.int x1, .ref o]) (fun x1 hx_2 ls hl => ?_) (fun jn_2 => ?_)
  · skip
    subst hx_2
    have hFc := hp_free (hD v r n) hS hA
    refine va_calli (va_runV (As := [.int (hp_c_kindsAt p0 p1 p2)]) (rest := []) ⟨hx, hb, hml, hown, hts⟩ (c_X2_refused l dC dI cI cZ cO cJ o a v r n s.heap.size (hp_c_kindsAt p0 p1 p2)) (cwV 1 hts gX2_kindsAt_X2_refused rfl rfl rfl (by decide +kernel) ⟨(Nat.le_of_ble_eq_true rfl), (Nat.le_of_ble_eq_true rfl)⟩) ⟨hp_mfb, va_recv hK hP (ci := 2) (q0 := 0) rfl hp_M_o, fun U hU hW => ⟨rfl, hp_mto hP hK (hD _ _ _) hU hW⟩⟩ rfl rfl hl.1 rfl (lv_room (Nat.le_of_ble_eq_true rfl)) dX2_kindsAt_31 ⟨(Nat.zero_le _), (Nat.zero_le _)⟩) hS (fun q _ h => hFc q h) hFc (fun r_3 u_3 t_3 H_3 locs_3 ht _ hr_3 hB _ _ hS1 => ?_)
    replace hP : va_P (dC, dI) vwCl (hp_M cI cZ o a (va_up v 0 (hp_c_kindsAt p0 p1 p2)) r n) H_3 := hp_th ht hB
    replace hS := hS1
    clear hS1 hB ht hFc
    subst hr_3
    refine lv_if_eq (tgt := 39) hx hb dX2_kindsAt_34 (by decide) (fun c_4 => ?_) (fun c_4 => ?_)
    · skip
      have c_4 := hp_bz c_4
      have hc := hp_eq0 c_4
      obtain ⟨g1, g2, g3⟩ := hp_cd0 hc
      refine lv_iconst (v := 0) hx hb dX2_kindsAt_39 (by decide) ?_
      refine lv_istore (lv' := [(4, .int 0), (0, .ref o), (1, .int p0), (2, .int p1), (3, .int p2)]) hx hb dX2_kindsAt_40 hl (by decide) rfl (fun ls hl => ?_)
      refine lv_iconst (v := 0) hx hb dX2_kindsAt_42 (by decide) ?_
      refine lv_istore (lv' := [(5, .int 0), (4, .int 0), (0, .ref o), (1, .int p0), (2, .int p1), (3, .int p2)]) hx hb dX2_kindsAt_43 hl (by decide) rfl (fun ls hl => ?_)
      refine hp_loop (fun k => [(4, .int (hp_bits r p0 p1 p2 (k))), (5, .int (nI k)), (0, .ref o), (1, .int p0), (2, .int p1), (3, .int p2)]) n (fun k hk_5 ih_5 ls hl => ?_) (lv_sub hl [1, 0, 2, 3, 4, 5] rfl)
      refine lv_iload hx hb dX2_kindsAt_45 (lv_at hl 1 rfl) ?_
      refine lv_aload_n hx hb dX2_kindsAt_47 rfl (lv_at hl 2 rfl) ?_
      refine va_get (D := (dC, dI)) (ci := 2) (v := .int (nI n)) (C := RX2) (T := TX2) (N := 18) hx hb hts hinX2 hown hK hP 0 hp_M_o rfl 3 (by decide) hf_61 (fun _ h9 => h9) rfl dX2_kindsAt_48 ?_
      refine lv_icmp_ge (tgt := 156) hx hb dX2_kindsAt_51 (by decide) (fun c_6 => ?_) (fun c_6 => ?_)
      · skip
        have c_6n := hp_len c_6
        have ek : k = n := Nat.le_antisymm (by omega) ((nI_leI (by omega) (by omega)).mp c_6)
        refine lv_iload hx hb dX2_kindsAt_156 (lv_at hl 0 rfl) ?_
        have hP9 : va_P (dC, dI) vwCl (hp_M cI cZ o a (va_up v 0 (hp_c_kindsAt p0 p1 p2)) r n) H_3 := by exact hP
        exact W.iret (v := hp_bits r p0 p1 p2 (k)) hx hb hr (fun t ht hW => ⟨⟨hp_bits r p0 p1 p2 (k), (), rfl, (by rw [hp_a_kindsAt, if_pos hc, ek]), hp_ht ht hP9⟩, hS.F ht⟩) hS.2.2 dX2_kindsAt_158
      · skip
        have c_6p := hp_nle c_6
        have hkn : k < n := Nat.lt_of_not_le (fun h => c_6 (nI_le h (by omega)))
        refine hp_join 125 7 (fun x7 : Int32 => x7 = hp_b (hp_at r p0 p1 p2 k)) (fun x7 => [(4, .int (hp_bits r p0 p1 p2 (k))), (5, .int (nI k)), (0, .ref o), (1, .int p0), (2, .int p1), (3, .int p2)]) (fun x7 => [.int x7]) (fun x7 hx_8 ls hl => ?_) (fun jn_8 => ?_)
        · skip
          subst hx_8
          refine lv_istore (lv' := [(6, .int (hp_b (hp_at r p0 p1 p2 k))), (4, .int (hp_bits r p0 p1 p2 (k))), (5, .int (nI k)), (0, .ref o), (1, .int p0), (2, .int p1), (3, .int p2)]) hx hb dX2_kindsAt_125 hl (by decide) rfl (fun ls hl => ?_)
          refine lv_iload hx hb dX2_kindsAt_127 (lv_at hl 1 rfl) ?_
          refine hp_join 147 7 (fun x9 : Int32 => x9 = (if hp_at r p0 p1 p2 k = true then 1 <<< (r 4 k &&& 31) else 0)) (fun x9 => [(6, .int (hp_b (hp_at r p0 p1 p2 k))), (4, .int (hp_bits r p0 p1 p2 (k))), (5, .int (nI k)), (0, .ref o), (1, .int p0), (2, .int p1), (3, .int p2)]) (fun x9 => [.int x9, .int (hp_bits r p0 p1 p2 (k))]) (fun x9 hx_10 ls hl => ?_) (fun jn_10 => ?_)
          · skip
            subst hx_10
            refine lv_ior hx hb dX2_kindsAt_147 ?_
            refine lv_istore (lv' := [(4, .int ((hp_bits r p0 p1 p2 (k)) ||| (if hp_at r p0 p1 p2 k = true then 1 <<< (r 4 k &&& 31) else 0))), (6, .int (hp_b (hp_at r p0 p1 p2 k))), (5, .int (nI k)), (0, .ref o), (1, .int p0), (2, .int p1), (3, .int p2)]) hx hb dX2_kindsAt_148 hl (by decide) rfl (fun ls hl => ?_)
            refine lv_iinc (v := nI (k + 1)) (lv' := [(5, .int (nI (k + 1))), (4, .int ((hp_bits r p0 p1 p2 (k)) ||| (if hp_at r p0 p1 p2 k = true then 1 <<< (r 4 k &&& 31) else 0))), (6, .int (hp_b (hp_at r p0 p1 p2 k))), (0, .ref o), (1, .int p0), (2, .int p1), (3, .int p2)]) hx hb dX2_kindsAt_150 hl (k := 2) rfl (nI_1 _) (by decide) rfl (fun ls hl => ?_)
            refine lv_goto (tgt := 45) hx hb dX2_kindsAt_153 (by decide) ?_
            exact ih_5 hkn _ (lv_sub hl [1, 0, 3, 4, 5, 6] rfl)
          · skip
            refine lv_iload hx hb dX2_kindsAt_129 (lv_at hl 0 rfl) ?_
            refine lv_if_eq (tgt := 146) hx hb dX2_kindsAt_131 (by decide) (fun c_11 => ?_) (fun c_11 => ?_)
            · skip
              have c_11 := hp_bz c_11
              refine lv_iconst (v := 0) hx hb dX2_kindsAt_146 (by decide) ?_
              exact jn_10 0 (by simp [c_4, hc, c_6, c_6p, c_11]) _ (lv_sub hl [0, 1, 2, 3, 4, 5, 6] rfl)
            · skip
              have c_11 := hp_bn c_11
              refine lv_iconst (v := 1) hx hb dX2_kindsAt_134 (by decide) ?_
              refine lv_aload_n hx hb dX2_kindsAt_135 rfl (lv_at hl 3 rfl) ?_
              refine va_get (D := (dC, dI)) (ci := 2) (v := .ref (a 4)) (C := RX2) (T := TX2) (N := 18) hx hb hts hinX2 hown hK hP 0 hp_M_o rfl 4 (by decide) hf_7 (fun _ h9 => h9) rfl dX2_kindsAt_136 ?_
              refine lv_iload hx hb dX2_kindsAt_139 (lv_at hl 2 rfl) ?_
              refine hp_iald (v := r 4 k) hx hb hK hP 1 0 hp_M_4 rfl (k := k) (by omega) (by decide) rfl dX2_kindsAt_141 ?_
              refine lv_ishl hx hb dX2_kindsAt_142 ?_
              refine lv_goto (tgt := 147) hx hb dX2_kindsAt_143 (by decide) ?_
              exact jn_10 (1 <<< ((r 4 k) &&& 31)) (by simp [c_4, hc, c_6, c_6p, c_11]) _ (lv_sub hl [0, 1, 2, 3, 4, 5, 6] rfl)
        · skip
          refine lv_aload_n hx hb dX2_kindsAt_54 rfl (lv_at hl 2 rfl) ?_
          refine va_get (D := (dC, dI)) (ci := 2) (v := .ref (a 10)) (C := RX2) (T := TX2) (N := 18) hx hb hts hinX2 hown hK hP 0 hp_M_o rfl 10 (by decide) hf_28 (fun _ h9 => h9) rfl dX2_kindsAt_55 ?_
          refine lv_iload hx hb dX2_kindsAt_58 (lv_at hl 1 rfl) ?_
          refine hp_iald (v := r 10 k) hx hb hK hP 7 0 hp_M_10 rfl (k := k) (by omega) (by decide) rfl dX2_kindsAt_60 ?_
          refine lv_iconst (v := 4) hx hb dX2_kindsAt_61 (by decide) ?_
          refine lv_icmp_eq (tgt := 124) hx hb dX2_kindsAt_62 (by decide) (fun c_12 => ?_) (fun c_12 => ?_)
          · skip
            refine lv_iconst (v := 0) hx hb dX2_kindsAt_124 (by decide) ?_
            exact jn_8 0 (by simp [hp_at, hp_b, c_4, hc, c_6, c_6p, c_12]) _ (lv_sub hl [0, 1, 2, 3, 4, 5] rfl)
          · skip
            refine lv_aload_n hx hb dX2_kindsAt_65 rfl (lv_at hl 2 rfl) ?_
            refine va_get (D := (dC, dI)) (ci := 2) (v := .ref (a 5)) (C := RX2) (T := TX2) (N := 18) hx hb hts hinX2 hown hK hP 0 hp_M_o rfl 5 (by decide) hf_13 (fun _ h9 => h9) rfl dX2_kindsAt_66 ?_
            refine lv_iload hx hb dX2_kindsAt_69 (lv_at hl 1 rfl) ?_
            refine hp_iald (v := r 5 k) hx hb hK hP 2 0 hp_M_5 rfl (k := k) (by omega) (by decide) rfl dX2_kindsAt_71 ?_
            refine lv_iload_n hx hb dX2_kindsAt_72 rfl (lv_at hl 3 rfl) ?_
            refine lv_icmp_ne (tgt := 124) hx hb dX2_kindsAt_73 (by decide) (fun c_13 => ?_) (fun c_13 => ?_)
            · skip
              refine lv_iconst (v := 0) hx hb dX2_kindsAt_124 (by decide) ?_
              exact jn_8 0 (by simp [hp_at, hp_b, c_4, hc, c_6, c_6p, c_12, c_13]) _ (lv_sub hl [0, 1, 2, 3, 4, 5] rfl)
            · skip
              refine lv_aload_n hx hb dX2_kindsAt_76 rfl (lv_at hl 2 rfl) ?_
              refine va_get (D := (dC, dI)) (ci := 2) (v := .ref (a 6)) (C := RX2) (T := TX2) (N := 18) hx hb hts hinX2 hown hK hP 0 hp_M_o rfl 6 (by decide) hf_16 (fun _ h9 => h9) rfl dX2_kindsAt_77 ?_
              refine lv_iload hx hb dX2_kindsAt_80 (lv_at hl 1 rfl) ?_
              refine hp_iald (v := r 6 k) hx hb hK hP 3 0 hp_M_6 rfl (k := k) (by omega) (by decide) rfl dX2_kindsAt_82 ?_
              refine lv_aload_n hx hb dX2_kindsAt_83 rfl (lv_at hl 2 rfl) ?_
              refine va_get (D := (dC, dI)) (ci := 2) (v := .ref (a 8)) (C := RX2) (T := TX2) (N := 18) hx hb hts hinX2 hown hK hP 0 hp_M_o rfl 8 (by decide) hf_22 (fun _ h9 => h9) rfl dX2_kindsAt_84 ?_
              refine lv_iload hx hb dX2_kindsAt_87 (lv_at hl 1 rfl) ?_
              refine hp_iald (v := r 8 k) hx hb hK hP 5 0 hp_M_8 rfl (k := k) (by omega) (by decide) rfl dX2_kindsAt_89 ?_
              refine lv_iload_n hx hb dX2_kindsAt_90 rfl (lv_at hl 4 rfl) ?_
              refine lv_iload_n hx hb dX2_kindsAt_91 rfl (lv_at hl 4 rfl) ?_
              refine vp_callSi (W.runS (As := [.int (r 6 k), .int (r 8 k), .int p1, .int p1]) (rest := []) ⟨hx, hb, hml, hown, hts⟩ (c_X2_gap l (r 6 k) (r 8 k) p1 p1) (va_cwS 4 hts gX2_kindsAt_X2_gap rfl rfl rfl (by decide +kernel) ⟨(Nat.le_of_ble_eq_true rfl), (Nat.le_of_ble_eq_true rfl)⟩) ⟨hp_nfb, fun _ _ _ => ⟨rfl, trivial⟩⟩ rfl rfl hl.1 rfl (lv_room (Nat.le_of_ble_eq_true rfl)) dX2_kindsAt_92 ⟨(Nat.zero_le _), (Nat.zero_le _)⟩) (fun r_14 hr_14 => ?_)
              subst hr_14
              refine lv_if_ne (tgt := 124) hx hb dX2_kindsAt_95 (by decide) (fun c_15 => ?_) (fun c_15 => ?_)
              · skip
                refine lv_iconst (v := 0) hx hb dX2_kindsAt_124 (by decide) ?_
                exact jn_8 0 (by simp [hp_at, hp_b, c_4, hc, c_6, c_6p, c_12, c_13, c_15]) _ (lv_sub hl [0, 1, 2, 3, 4, 5] rfl)
              · skip
                refine lv_aload_n hx hb dX2_kindsAt_98 rfl (lv_at hl 2 rfl) ?_
                refine va_get (D := (dC, dI)) (ci := 2) (v := .ref (a 7)) (C := RX2) (T := TX2) (N := 18) hx hb hts hinX2 hown hK hP 0 hp_M_o rfl 7 (by decide) hf_19 (fun _ h9 => h9) rfl dX2_kindsAt_99 ?_
                refine lv_iload hx hb dX2_kindsAt_102 (lv_at hl 1 rfl) ?_
                refine hp_iald (v := r 7 k) hx hb hK hP 4 0 hp_M_7 rfl (k := k) (by omega) (by decide) rfl dX2_kindsAt_104 ?_
                refine lv_aload_n hx hb dX2_kindsAt_105 rfl (lv_at hl 2 rfl) ?_
                refine va_get (D := (dC, dI)) (ci := 2) (v := .ref (a 9)) (C := RX2) (T := TX2) (N := 18) hx hb hts hinX2 hown hK hP 0 hp_M_o rfl 9 (by decide) hf_25 (fun _ h9 => h9) rfl dX2_kindsAt_106 ?_
                refine lv_iload hx hb dX2_kindsAt_109 (lv_at hl 1 rfl) ?_
                refine hp_iald (v := r 9 k) hx hb hK hP 6 0 hp_M_9 rfl (k := k) (by omega) (by decide) rfl dX2_kindsAt_111 ?_
                refine lv_iload_n hx hb dX2_kindsAt_112 rfl (lv_at hl 5 rfl) ?_
                refine lv_iload_n hx hb dX2_kindsAt_113 rfl (lv_at hl 5 rfl) ?_
                refine vp_callSi (W.runS (As := [.int (r 7 k), .int (r 9 k), .int p2, .int p2]) (rest := []) ⟨hx, hb, hml, hown, hts⟩ (c_X2_gap l (r 7 k) (r 9 k) p2 p2) (va_cwS 4 hts gX2_kindsAt_X2_gap rfl rfl rfl (by decide +kernel) ⟨(Nat.le_of_ble_eq_true rfl), (Nat.le_of_ble_eq_true rfl)⟩) ⟨hp_nfb, fun _ _ _ => ⟨rfl, trivial⟩⟩ rfl rfl hl.1 rfl (lv_room (Nat.le_of_ble_eq_true rfl)) dX2_kindsAt_114 ⟨(Nat.zero_le _), (Nat.zero_le _)⟩) (fun r_16 hr_16 => ?_)
                subst hr_16
                refine lv_if_ne (tgt := 124) hx hb dX2_kindsAt_117 (by decide) (fun c_17 => ?_) (fun c_17 => ?_)
                · skip
                  refine lv_iconst (v := 0) hx hb dX2_kindsAt_124 (by decide) ?_
                  exact jn_8 0 (by simp [hp_at, hp_b, c_4, hc, c_6, c_6p, c_12, c_13, c_15, c_17]) _ (lv_sub hl [0, 1, 2, 3, 4, 5] rfl)
                · skip
                  refine lv_iconst (v := 1) hx hb dX2_kindsAt_120 (by decide) ?_
                  refine lv_goto (tgt := 125) hx hb dX2_kindsAt_121 (by decide) ?_
                  exact jn_8 1 (by simp [hp_at, hp_b, c_4, hc, c_6, c_6p, c_12, c_13, c_15, c_17]) _ (lv_sub hl [0, 1, 2, 3, 4, 5] rfl)
    · skip
      have c_4 := hp_bn c_4
      have hc := hp_ne0 c_4
      refine lv_iconst (v := 0) hx hb dX2_kindsAt_37 (by decide) ?_
      have hP9 : va_P (dC, dI) vwCl (hp_M cI cZ o a (va_up v 0 (hp_c_kindsAt p0 p1 p2)) r n) H_3 := by exact hP
      exact W.iret (v := 0) hx hb hr (fun t ht hW => ⟨⟨0, (), rfl, (by rw [hp_a_kindsAt, if_neg hc]), hp_ht ht hP9⟩, hS.F ht⟩) hS.2.2 dX2_kindsAt_38
  · skip
    refine lv_iload_n hx hb dX2_kindsAt_1 rfl (lv_at hl 1 rfl) ?_
    refine vp_callSi (W.runS (As := [.int p0]) (rest := [.ref o]) ⟨hx, hb, hml, hown, hts⟩ (c_X2_isStorey l p0) (va_cwS 1 hts gX2_kindsAt_X2_isStorey rfl rfl rfl (by decide +kernel) ⟨(Nat.le_of_ble_eq_true rfl), (Nat.le_of_ble_eq_true rfl)⟩) ⟨hp_nfb, fun _ _ _ => ⟨rfl, trivial⟩⟩ rfl rfl hl.1 rfl (lv_room (Nat.le_of_ble_eq_true rfl)) dX2_kindsAt_2 ⟨(Nat.zero_le _), (Nat.zero_le _)⟩) (fun r_18 hr_18 => ?_)
    subst hr_18
    refine lv_if_ne (tgt := 12) hx hb dX2_kindsAt_5 (by decide) (fun c_19 => ?_) (fun c_19 => ?_)
    · skip
      have c_19 := hp_bn c_19
      refine lv_iload_n hx hb dX2_kindsAt_12 rfl (lv_at hl 2 rfl) ?_
      refine vp_callSi (W.runS (As := [.int p1]) (rest := [.ref o]) ⟨hx, hb, hml, hown, hts⟩ (c_X2_isSide l p1) (va_cwS 1 hts gX2_kindsAt_X2_isSide rfl rfl rfl (by decide +kernel) ⟨(Nat.le_of_ble_eq_true rfl), (Nat.le_of_ble_eq_true rfl)⟩) ⟨hp_nfb, fun _ _ _ => ⟨rfl, trivial⟩⟩ rfl rfl hl.1 rfl (lv_room (Nat.le_of_ble_eq_true rfl)) dX2_kindsAt_13 ⟨(Nat.zero_le _), (Nat.zero_le _)⟩) (fun r_20 hr_20 => ?_)
      subst hr_20
      refine lv_if_eq (tgt := 26) hx hb dX2_kindsAt_16 (by decide) (fun c_21 => ?_) (fun c_21 => ?_)
      · skip
        have c_21 := hp_bz c_21
        refine lv_iconst (v := 2) hx hb dX2_kindsAt_26 (by decide) ?_
        refine lv_goto (tgt := 31) hx hb dX2_kindsAt_27 (by decide) ?_
        exact jn_2 2 (by exact hp_cd2 (by (first | assumption | (simp [c_19, c_21]; done))) (by (first | assumption | (simp [c_19, c_21]; done)))) _ (lv_sub hl [0, 1, 2, 3] rfl)
      · skip
        have c_21 := hp_bn c_21
        refine lv_iload_n hx hb dX2_kindsAt_19 rfl (lv_at hl 3 rfl) ?_
        refine vp_callSi (W.runS (As := [.int p2]) (rest := [.ref o]) ⟨hx, hb, hml, hown, hts⟩ (c_X2_isSide l p2) (va_cwS 1 hts gX2_kindsAt_X2_isSide rfl rfl rfl (by decide +kernel) ⟨(Nat.le_of_ble_eq_true rfl), (Nat.le_of_ble_eq_true rfl)⟩) ⟨hp_nfb, fun _ _ _ => ⟨rfl, trivial⟩⟩ rfl rfl hl.1 rfl (lv_room (Nat.le_of_ble_eq_true rfl)) dX2_kindsAt_20 ⟨(Nat.zero_le _), (Nat.zero_le _)⟩) (fun r_22 hr_22 => ?_)
        subst hr_22
        refine lv_if_ne (tgt := 30) hx hb dX2_kindsAt_23 (by decide) (fun c_23 => ?_) (fun c_23 => ?_)
        · skip
          have c_23 := hp_bn c_23
          refine lv_iconst (v := 0) hx hb dX2_kindsAt_30 (by decide) ?_
          exact jn_2 0 (by exact hp_cdz (by (first | assumption | (simp [c_19, c_21, c_23]; done))) (by (first | assumption | (simp [c_19, c_21, c_23]; done))) (by (first | assumption | (simp [c_19, c_21, c_23]; done)))) _ (lv_sub hl [0, 1, 2, 3] rfl)
        · skip
          have c_23 := hp_bz c_23
          refine lv_iconst (v := 2) hx hb dX2_kindsAt_26 (by decide) ?_
          refine lv_goto (tgt := 31) hx hb dX2_kindsAt_27 (by decide) ?_
          exact jn_2 2 (by exact hp_cd2 (by (first | assumption | (simp [c_19, c_21, c_23]; done))) (by (first | assumption | (simp [c_19, c_21, c_23]; done)))) _ (lv_sub hl [0, 1, 2, 3] rfl)
    · skip
      have c_19 := hp_bz c_19
      refine lv_iconst (v := 1) hx hb dX2_kindsAt_8 (by decide) ?_
      refine lv_goto (tgt := 31) hx hb dX2_kindsAt_9 (by decide) ?_
      exact jn_2 1 (by exact hp_cd1 (by (first | assumption | (simp [c_19]; done)))) _ (lv_sub hl [0, 1, 2, 3] rfl)
set_option maxHeartbeats 400000 in
set_option maxRecDepth 100000 in
theorem c_X2_isLocked (l : Launch) (dC : Nat → ClassId) (dI : Nat → Nat → Nat) (cI cZ cO cJ : ClassId) (o : Nat) (a : Nat → Nat) (v : Nat → Int32) (r : Nat → Nat → Int32) (n : Nat) (sz : Nat)  (p0 : Int32) : Met l yX2_isLocked wsX2_isLocked ({ frames := 2, cells := 0, slots := 0, locals := 42 }) (va_Pc [.ref o, .int p0] (hp_prm (dC, dI) cI cZ cO cJ (hp_M cI cZ o a v r n) sz)) (va_Qi (S := Unit) (fun x9 _ => x9 = hp_b (hp_b_isLocked r p0)) (fun _ t9 => va_P (dC, dI) vwCl (hp_M cI cZ o a (va_up v 0 (hp_c_st p0)) r n) t9.heap) (va_A (hp_M cI cZ o a v r n) sz)) 0 0 (va_A (hp_M cI cZ o a v r n) sz) := by
  refine Met.ofW (cc := cX2_isLocked) (maxL := 2) (ret := (some .boolean)) (by decide) rfl ?_
  intro p e s m args below meth c s₁ B hml hv
  obtain ⟨rfl, hsz, hP, hK, hD0⟩ := hv
  have hx := B.exec
  have hb := B.bytes
  have hr := B.returns
  have hts := atoms_spec (ws := wsX2_isLocked) B.pre
  have hown : s.vm.findClass RX2 = some m.cls := findClass_of_methodNamed B.named
  have hlocks := B.notSynchronized
  subst hsz
  have hD := hD0.self (sz := s.heap.size)
  generalize hAe : va_A (hp_M cI cZ o a v r n) s.heap.size = A at hD ⊢
  replace hD : ∀ v r n, va_D A (hp_M cI cZ o a v r n) := fun _ _ _ => hp_dM hD
  have hA : ∀ q : Nat, s.heap.size ≤ q → A q := fun q h => by rw [← hAe]; exact Or.inr h
  have hS : va_S A s.heap s.heap [] := va_S.rf
  have hf_49 := hts (.fieldLink RX2 49 "WallplanModel" "locks" "[Z") (by decide +kernel)
  have hinX2 : ∀ w ∈ wsX20, w ∈ wsX2_isLocked := by decide +kernel
  have hl := lv_entry ([.ref o, .int p0]) (n := 2) (Nat.le_of_ble_eq_true rfl)
  rw [lg_entry_eq]
  generalize (lg_sl ([.ref o, .int p0]) ++ List.replicate (2 - (lg_sl ([.ref o, .int p0])).length) Slot.unset).toArray = ls at hl ⊢
  have hl : lv_has ls 2 [(0, .ref o), (1, .int p0)] := hl
  refine lv_aload_n hx hb dX2_isLocked_0 rfl (lv_at hl 0 rfl) ?_
  refine hp_join 13 2 (fun x1 : Int32 => x1 = hp_c_st p0) (fun x1 => [(0, .ref o), (1, .int p0)]) (fun x1 => [.int x1, .ref o]) (fun x1 hx_2 ls hl => ?_) (fun jn_2 => ?_)
  · skip
    subst hx_2
    have hFc := hp_free (hD v r n) hS hA
    refine va_calli (va_runV (As := [.int (hp_c_st p0)]) (rest := []) ⟨hx, hb, hml, hown, hts⟩ (c_X2_refused l dC dI cI cZ cO cJ o a v r n s.heap.size (hp_c_st p0)) (cwV 1 hts gX2_isLocked_X2_refused rfl rfl rfl (by decide +kernel) ⟨(Nat.le_of_ble_eq_true rfl), (Nat.le_of_ble_eq_true rfl)⟩) ⟨hp_mfb, va_recv hK hP (ci := 2) (q0 := 0) rfl hp_M_o, fun U hU hW => ⟨rfl, hp_mto hP hK (hD _ _ _) hU hW⟩⟩ rfl rfl hl.1 rfl (lv_room (Nat.le_of_ble_eq_true rfl)) dX2_isLocked_13 ⟨(Nat.zero_le _), (Nat.zero_le _)⟩) hS (fun q _ h => hFc q h) hFc (fun r_3 u_3 t_3 H_3 locs_3 ht _ hr_3 hB _ _ hS1 => ?_)
    replace hP : va_P (dC, dI) vwCl (hp_M cI cZ o a (va_up v 0 (hp_c_st p0)) r n) H_3 := hp_th ht hB
    replace hS := hS1
    clear hS1 hB ht hFc
    subst hr_3
    refine lv_if_ne (tgt := 32) hx hb dX2_isLocked_16 (by decide) (fun c_4 => ?_) (fun c_4 => ?_)
    · skip
      have c_4 := hp_bn c_4
      have hc := hp_ne0 c_4
      refine lv_iconst (v := 0) hx hb dX2_isLocked_32 (by decide) ?_
      have hP9 : va_P (dC, dI) vwCl (hp_M cI cZ o a (va_up v 0 (hp_c_st p0)) r n) H_3 := by exact hP
      exact W.zret (ty := .boolean) (v := 0) hx hb hr rfl (fun t ht hW => ⟨⟨0, (), rfl, (by exact hp_bf2 (by simp [hp_b_isLocked, c_4, hc])), hp_ht ht hP9⟩, hS.F ht⟩) hS.2.2 dX2_isLocked_33
    · skip
      have c_4 := hp_bz c_4
      have hc := hp_eq0 c_4
      obtain ⟨g1, g2, g3⟩ := hp_cd0 hc
      refine lv_aload_n hx hb dX2_isLocked_19 rfl (lv_at hl 0 rfl) ?_
      refine va_get (D := (dC, dI)) (ci := 2) (v := .ref (a 17)) (C := RX2) (T := TX2) (N := 18) hx hb hts hinX2 hown hK hP 0 hp_M_o rfl 17 (by decide) hf_49 (fun _ h9 => h9) rfl dX2_isLocked_20 ?_
      refine lv_iload_n hx hb dX2_isLocked_23 rfl (lv_at hl 1 rfl) ?_
      refine hp_zaldx (v := r 17 p0.toNatClampNeg) hx hb hK hP 14 1 hp_M_17 rfl (i := p0) (hp_vin (hp_st_ix g1) (by decide) (by decide)) rfl dX2_isLocked_24 ?_
      refine lv_if_eq (tgt := 32) hx hb dX2_isLocked_25 (by decide) (fun c_5 => ?_) (fun c_5 => ?_)
      · skip
        refine lv_iconst (v := 0) hx hb dX2_isLocked_32 (by decide) ?_
        have hP9 : va_P (dC, dI) vwCl (hp_M cI cZ o a (va_up v 0 (hp_c_st p0)) r n) H_3 := by exact hP
        exact W.zret (ty := .boolean) (v := 0) hx hb hr rfl (fun t ht hW => ⟨⟨0, (), rfl, (by exact hp_bf2 (by simp [hp_b_isLocked, c_4, hc, c_5])), hp_ht ht hP9⟩, hS.F ht⟩) hS.2.2 dX2_isLocked_33
      · skip
        refine lv_iconst (v := 1) hx hb dX2_isLocked_28 (by decide) ?_
        refine lv_goto (tgt := 33) hx hb dX2_isLocked_29 (by decide) ?_
        have hP9 : va_P (dC, dI) vwCl (hp_M cI cZ o a (va_up v 0 (hp_c_st p0)) r n) H_3 := by exact hP
        exact W.zret (ty := .boolean) (v := 1) hx hb hr rfl (fun t ht hW => ⟨⟨1, (), rfl, (by exact hp_bt2 (by simp [hp_b_isLocked, c_4, hc, c_5])), hp_ht ht hP9⟩, hS.F ht⟩) hS.2.2 dX2_isLocked_33
  · skip
    refine lv_iload_n hx hb dX2_isLocked_1 rfl (lv_at hl 1 rfl) ?_
    refine vp_callSi (W.runS (As := [.int p0]) (rest := [.ref o]) ⟨hx, hb, hml, hown, hts⟩ (c_X2_isStorey l p0) (va_cwS 1 hts gX2_isLocked_X2_isStorey rfl rfl rfl (by decide +kernel) ⟨(Nat.le_of_ble_eq_true rfl), (Nat.le_of_ble_eq_true rfl)⟩) ⟨hp_nfb, fun _ _ _ => ⟨rfl, trivial⟩⟩ rfl rfl hl.1 rfl (lv_room (Nat.le_of_ble_eq_true rfl)) dX2_isLocked_2 ⟨(Nat.zero_le _), (Nat.zero_le _)⟩) (fun r_6 hr_6 => ?_)
    subst hr_6
    refine lv_if_eq (tgt := 12) hx hb dX2_isLocked_5 (by decide) (fun c_7 => ?_) (fun c_7 => ?_)
    · skip
      have c_7 := hp_bz c_7
      refine lv_iconst (v := 1) hx hb dX2_isLocked_12 (by decide) ?_
      exact jn_2 1 (by exact hp_cd1 (by (first | assumption | (simp [c_7]; done)))) _ (lv_sub hl [0, 1] rfl)
    · skip
      have c_7 := hp_bn c_7
      refine lv_iconst (v := 0) hx hb dX2_isLocked_8 (by decide) ?_
      refine lv_goto (tgt := 13) hx hb dX2_isLocked_9 (by decide) ?_
      exact jn_2 0 (by exact hp_cdz (by (first | assumption | (simp [c_7]; done))) (by (first | assumption | (simp [c_7]; done))) (by (first | assumption | (simp [c_7]; done)))) _ (lv_sub hl [0, 1] rfl)
set_option maxHeartbeats 400000 in
set_option maxRecDepth 100000 in
theorem c_X2_inspect (l : Launch) (dC : Nat → ClassId) (dI : Nat → Nat → Nat) (cI cZ cO cJ : ClassId) (o : Nat) (a : Nat → Nat) (v : Nat → Int32) (r : Nat → Nat → Int32) (n : Nat) (sz : Nat)  (p0 : Int32) (hinv : hp_inv v r n) : Met l yX2_inspect wsX2_inspect ({ frames := 3, cells := 0, slots := 0, locals := 74 }) (va_Pc [.ref o, .int p0] (hp_prm (dC, dI) cI cZ cO cJ (hp_M cI cZ o a v r n) sz)) (va_Qi (S := Unit) (fun x9 _ => x9 = hp_b (hp_b_inspect r n p0)) (fun _ t9 => va_P (dC, dI) vwCl (hp_M cI cZ o a (va_up v 0 (hp_c_inspect r p0)) (hp_r_inspect r n p0) n) t9.heap) (va_A (hp_M cI cZ o a v r n) sz)) 0 0 (va_A (hp_M cI cZ o a v r n) sz) := by
  refine Met.ofW (cc := cX2_inspect) (maxL := 6) (ret := (some .boolean)) (by decide) rfl ?_
  intro p e s m args below meth c s₁ B hml hv
  obtain ⟨rfl, hsz, hP, hK, hD0⟩ := hv
  have hx := B.exec
  have hb := B.bytes
  have hr := B.returns
  have hts := atoms_spec (ws := wsX2_inspect) B.pre
  have hown : s.vm.findClass RX2 = some m.cls := findClass_of_methodNamed B.named
  have hlocks := B.notSynchronized
  subst hsz
  have hD := hD0.self (sz := s.heap.size)
  generalize hAe : va_A (hp_M cI cZ o a v r n) s.heap.size = A at hD ⊢
  replace hD : ∀ v r n, va_D A (hp_M cI cZ o a v r n) := fun _ _ _ => hp_dM hD
  have hA : ∀ q : Nat, s.heap.size ≤ q → A q := fun q h => by rw [← hAe]; exact Or.inr h
  have hS : va_S A s.heap s.heap [] := va_S.rf
  have hf_13 := hts (.fieldLink RX2 13 "WallplanModel" "storey" "[I") (by decide +kernel)
  have hf_28 := hts (.fieldLink RX2 28 "WallplanModel" "state" "[I") (by decide +kernel)
  have hf_49 := hts (.fieldLink RX2 49 "WallplanModel" "locks" "[Z") (by decide +kernel)
  have hf_61 := hts (.fieldLink RX2 61 "WallplanModel" "elements" "I") (by decide +kernel)
  have hinX2 : ∀ w ∈ wsX20, w ∈ wsX2_inspect := by decide +kernel
  have hl := lv_entry ([.ref o, .int p0]) (n := 6) (Nat.le_of_ble_eq_true rfl)
  rw [lg_entry_eq]
  generalize (lg_sl ([.ref o, .int p0]) ++ List.replicate (6 - (lg_sl ([.ref o, .int p0])).length) Slot.unset).toArray = ls at hl ⊢
  have hl : lv_has ls 6 [(0, .ref o), (1, .int p0)] := hl
  have hn := hinv.1
  refine lv_iload_n hx hb dX2_inspect_0 rfl (lv_at hl 1 rfl) ?_
  refine vp_callSi (W.runS (As := [.int p0]) (rest := []) ⟨hx, hb, hml, hown, hts⟩ (c_X2_isStorey l p0) (va_cwS 1 hts gX2_inspect_X2_isStorey rfl rfl rfl (by decide +kernel) ⟨(Nat.le_of_ble_eq_true rfl), (Nat.le_of_ble_eq_true rfl)⟩) ⟨hp_nfb, fun _ _ _ => ⟨rfl, trivial⟩⟩ rfl rfl hl.1 rfl (lv_room (Nat.le_of_ble_eq_true rfl)) dX2_inspect_1 ⟨(Nat.zero_le _), (Nat.zero_le _)⟩) (fun r_1 hr_1 => ?_)
  subst hr_1
  refine lv_istore_n (lv' := [(2, .int (hp_b (hp_st p0))), (0, .ref o), (1, .int p0)]) hx hb dX2_inspect_4 rfl hl (by decide) rfl (fun ls hl => ?_)
  refine lv_aload_n hx hb dX2_inspect_5 rfl (lv_at hl 1 rfl) ?_
  refine hp_join 28 6 (fun x2 : Int32 => x2 = hp_c_inspect r p0) (fun x2 => [(2, .int (hp_b (hp_st p0))), (0, .ref o), (1, .int p0)]) (fun x2 => [.int x2, .ref o]) (fun x2 hx_3 ls hl => ?_) (fun jn_3 => ?_)
  · skip
    subst hx_3
    have hFc := hp_free (hD v r n) hS hA
    refine va_calli (va_runV (As := [.int (hp_c_inspect r p0)]) (rest := []) ⟨hx, hb, hml, hown, hts⟩ (c_X2_refused l dC dI cI cZ cO cJ o a v r n s.heap.size (hp_c_inspect r p0)) (cwV 1 hts gX2_inspect_X2_refused rfl rfl rfl (by decide +kernel) ⟨(Nat.le_of_ble_eq_true rfl), (Nat.le_of_ble_eq_true rfl)⟩) ⟨hp_mfb, va_recv hK hP (ci := 2) (q0 := 0) rfl hp_M_o, fun U hU hW => ⟨rfl, hp_mto hP hK (hD _ _ _) hU hW⟩⟩ rfl rfl hl.1 rfl (lv_room (Nat.le_of_ble_eq_true rfl)) dX2_inspect_28 ⟨(Nat.zero_le _), (Nat.zero_le _)⟩) hS (fun q _ h => hFc q h) hFc (fun r_4 u_4 t_4 H_4 locs_4 ht _ hr_4 hB _ _ hS1 => ?_)
    replace hP : va_P (dC, dI) vwCl (hp_M cI cZ o a (va_up v 0 (hp_c_inspect r p0)) r n) H_4 := hp_th ht hB
    replace hS := hS1
    clear hS1 hB ht hFc
    subst hr_4
    refine lv_if_eq (tgt := 36) hx hb dX2_inspect_31 (by decide) (fun c_5 => ?_) (fun c_5 => ?_)
    · skip
      have c_5 := hp_bz c_5
      have hc := hp_eq0 c_5
      obtain ⟨g1, g2, g3⟩ := hp_cd0 hc
      have xf := hp_st_ix g1
      refine lv_iconst (v := 1) hx hb dX2_inspect_36 (by decide) ?_
      refine lv_istore_n (lv' := [(3, .int 1), (2, .int (hp_b (hp_st p0))), (0, .ref o), (1, .int p0)]) hx hb dX2_inspect_37 rfl hl (by decide) rfl (fun ls hl => ?_)
      refine lv_iconst (v := 0) hx hb dX2_inspect_38 (by decide) ?_
      refine lv_istore (lv' := [(4, .int 0), (3, .int 1), (2, .int (hp_b (hp_st p0))), (0, .ref o), (1, .int p0)]) hx hb dX2_inspect_39 hl (by decide) rfl (fun ls hl => ?_)
      refine lv_iconst (v := 0) hx hb dX2_inspect_41 (by decide) ?_
      refine lv_istore (lv' := [(5, .int 0), (4, .int 0), (3, .int 1), (2, .int (hp_b (hp_st p0))), (0, .ref o), (1, .int p0)]) hx hb dX2_inspect_42 hl (by decide) rfl (fun ls hl => ?_)
      refine hp_loop (fun k => [(3, .int (hp_b (hp_all (hp_oki r n p0) (k)))), (4, .int (nI (hp_cnt (hp_on r p0) (k)))), (5, .int (nI k)), (2, .int (hp_b (hp_st p0))), (0, .ref o), (1, .int p0)]) n (fun k hk_6 ih_6 ls hl => ?_) (lv_sub hl [2, 1, 0, 3, 4, 5] rfl)
      refine lv_iload hx hb dX2_inspect_44 (lv_at hl 2 rfl) ?_
      refine lv_aload_n hx hb dX2_inspect_46 rfl (lv_at hl 4 rfl) ?_
      refine va_get (D := (dC, dI)) (ci := 2) (v := .int (nI n)) (C := RX2) (T := TX2) (N := 18) hx hb hts hinX2 hown hK hP 0 hp_M_o rfl 3 (by decide) hf_61 (fun _ h9 => h9) rfl dX2_inspect_47 ?_
      refine lv_icmp_ge (tgt := 114) hx hb dX2_inspect_50 (by decide) (fun c_7 => ?_) (fun c_7 => ?_)
      · skip
        have c_7n := hp_len c_7
        have ek : k = n := Nat.le_antisymm (by omega) ((nI_leI (by omega) (by omega)).mp c_7)
        refine lv_aload_n hx hb dX2_inspect_114 rfl (lv_at hl 4 rfl) ?_
        refine va_get (D := (dC, dI)) (ci := 2) (v := .ref (a 17)) (C := RX2) (T := TX2) (N := 18) hx hb hts hinX2 hown hK hP 0 hp_M_o rfl 17 (by decide) hf_49 (fun _ h9 => h9) rfl dX2_inspect_115 ?_
        refine lv_iload_n hx hb dX2_inspect_118 rfl (lv_at hl 5 rfl) ?_
        refine hp_join 133 6 (fun x8 : Int32 => x8 = hp_b (hp_fin r n p0)) (fun x8 => [(3, .int (hp_b (hp_all (hp_oki r n p0) (k)))), (4, .int (nI (hp_cnt (hp_on r p0) (k)))), (5, .int (nI k)), (2, .int (hp_b (hp_st p0))), (0, .ref o), (1, .int p0)]) (fun x8 => [.int x8, .int p0, .ref (a 17)]) (fun x8 hx_9 ls hl => ?_) (fun jn_9 => ?_)
        · skip
          subst hx_9
          refine hp_zastx hx hb hK hP (hD _ _ _) hS 14 1 hp_M_17 rfl (i := p0) (x := hp_b (hp_fin r n p0)) (hp_vin xf (by decide) (by decide)) (by exact hp_nz _) dX2_inspect_133 (fun H_10 locs_10 hP1 _ hS1 => ?_)
          replace hP : va_P (dC, dI) vwCl (hp_M cI cZ o a (va_up v 0 (hp_c_inspect r p0)) (hp_set r 17 p0.toNatClampNeg (hp_b (hp_fin r n p0))) n) H_10 := hp_cP hp_M_s17 hP1
          replace hS := hS1
          clear hP1 hS1
          refine lv_aload_n hx hb dX2_inspect_134 rfl (lv_at hl 4 rfl) ?_
          refine va_get (D := (dC, dI)) (ci := 2) (v := .ref (a 17)) (C := RX2) (T := TX2) (N := 18) hx hb hts hinX2 hown hK hP 0 hp_M_o rfl 17 (by decide) hf_49 (fun _ h9 => h9) rfl dX2_inspect_135 ?_
          refine lv_iload_n hx hb dX2_inspect_138 rfl (lv_at hl 5 rfl) ?_
          refine hp_zaldx (v := (hp_b (hp_fin r n p0))) hx hb hK hP 14 1 hp_M_17 rfl (i := p0) (hp_vin xf (by decide) (by decide)) pk_us dX2_inspect_139 ?_
          have hP9 : va_P (dC, dI) vwCl (hp_M cI cZ o a (va_up v 0 (hp_c_inspect r p0)) (hp_r_inspect r n p0) n) H_10 := by simp only [hp_r_inspect, if_pos hc]; exact hP
          exact W.zret (ty := .boolean) (v := (hp_b (hp_fin r n p0))) hx hb hr (by exact hp_nar _) (fun t ht hW => ⟨⟨(hp_b (hp_fin r n p0)), (), rfl, (by rw [hp_b_inspect, decide_eq_true hc, Bool.true_and]), hp_ht ht hP9⟩, hS.F ht⟩) hS.2.2 dX2_inspect_140
        · skip
          refine lv_iload_n hx hb dX2_inspect_119 rfl (lv_at hl 0 rfl) ?_
          refine lv_if_eq (tgt := 132) hx hb dX2_inspect_120 (by decide) (fun c_11 => ?_) (fun c_11 => ?_)
          · skip
            have c_11 := hp_bz c_11
            refine lv_iconst (v := 0) hx hb dX2_inspect_132 (by decide) ?_
            exact jn_9 0 (by subst ek; simp [hp_fin, hp_b, c_5, hc, c_7, c_7n, c_11]) _ (lv_sub hl [0, 1, 2, 3, 4, 5] rfl)
          · skip
            have c_11 := hp_bn c_11
            refine lv_iload hx hb dX2_inspect_123 (lv_at hl 1 rfl) ?_
            refine lv_if_le (tgt := 132) hx hb dX2_inspect_125 (by decide) (fun c_12 => ?_) (fun c_12 => ?_)
            · skip
              have c_12n := hp_len c_12
              have ca := hp_cntN (f := hp_on r p0) (n := k) (by omega) c_12
              refine lv_iconst (v := 0) hx hb dX2_inspect_132 (by decide) ?_
              exact jn_9 0 (by subst ek; simp [hp_fin, hp_b, c_5, hc, c_7, c_7n, c_11, c_12, c_12n, ca]) _ (lv_sub hl [0, 1, 2, 3, 4, 5] rfl)
            · skip
              have c_12p := hp_nle c_12
              have ca := hp_cntP (f := hp_on r p0) (n := k) (by omega) c_12
              refine lv_iconst (v := 1) hx hb dX2_inspect_128 (by decide) ?_
              refine lv_goto (tgt := 133) hx hb dX2_inspect_129 (by decide) ?_
              exact jn_9 1 (by subst ek; simp [hp_fin, hp_b, c_5, hc, c_7, c_7n, c_11, c_12, c_12p, ca]) _ (lv_sub hl [0, 1, 2, 3, 4, 5] rfl)
      · skip
        have c_7p := hp_nle c_7
        have hkn : k < n := Nat.lt_of_not_le (fun h => c_7 (nI_le h (by omega)))
        refine lv_aload_n hx hb dX2_inspect_53 rfl (lv_at hl 4 rfl) ?_
        refine va_get (D := (dC, dI)) (ci := 2) (v := .ref (a 5)) (C := RX2) (T := TX2) (N := 18) hx hb hts hinX2 hown hK hP 0 hp_M_o rfl 5 (by decide) hf_13 (fun _ h9 => h9) rfl dX2_inspect_54 ?_
        refine lv_iload hx hb dX2_inspect_57 (lv_at hl 2 rfl) ?_
        refine hp_iald (v := r 5 k) hx hb hK hP 2 0 hp_M_5 rfl (k := k) (by omega) (by decide) rfl dX2_inspect_59 ?_
        refine lv_iload_n hx hb dX2_inspect_60 rfl (lv_at hl 5 rfl) ?_
        refine lv_icmp_ne (tgt := 108) hx hb dX2_inspect_61 (by decide) (fun c_13 => ?_) (fun c_13 => ?_)
        · skip
          refine lv_iinc (v := nI (k + 1)) (lv' := [(5, .int (nI (k + 1))), (3, .int (hp_b (hp_all (hp_oki r n p0) (k)))), (4, .int (nI (hp_cnt (hp_on r p0) (k)))), (2, .int (hp_b (hp_st p0))), (0, .ref o), (1, .int p0)]) hx hb dX2_inspect_108 hl (k := 2) rfl (nI_1 _) (by decide) rfl (fun ls hl => ?_)
          refine lv_goto (tgt := 44) hx hb dX2_inspect_111 (by decide) ?_
          have e_14 : hp_b (hp_all (hp_oki r n p0) (k)) = hp_b (hp_all (hp_oki r n p0) (k + 1)) := by have h9 : hp_oki r n p0 k = true := (by simp [hp_oki, hp_on, c_5, hc, c_7, c_7p, c_13]); simp [hp_all, h9]
          have e_15 : nI (hp_cnt (hp_on r p0) (k)) = nI (hp_cnt (hp_on r p0) (k + 1)) := by first | (have h9 : hp_on r p0 k = true := (by simp [hp_on, c_5, hc, c_7, c_7p, c_13]); simp [hp_cnt, h9]; done) | (have h9 : hp_on r p0 k = false := (by simp [hp_on, c_5, hc, c_7, c_7p, c_13]); simp [hp_cnt, h9]; done)
          exact ih_6 hkn _ (by have h9 := lv_sub (l' := [(3, .int (hp_b (hp_all (hp_oki r n p0) (k)))), (4, .int (nI (hp_cnt (hp_on r p0) (k)))), (5, .int (nI (k + 1))), (2, .int (hp_b (hp_st p0))), (0, .ref o), (1, .int p0)]) hl [1, 2, 0, 3, 4, 5] rfl; rw [e_14, e_15] at h9; exact h9)
        · skip
          refine lv_aload_n hx hb dX2_inspect_64 rfl (lv_at hl 4 rfl) ?_
          refine va_get (D := (dC, dI)) (ci := 2) (v := .ref (a 10)) (C := RX2) (T := TX2) (N := 18) hx hb hts hinX2 hown hK hP 0 hp_M_o rfl 10 (by decide) hf_28 (fun _ h9 => h9) rfl dX2_inspect_65 ?_
          refine lv_iload hx hb dX2_inspect_68 (lv_at hl 2 rfl) ?_
          refine hp_iald (v := r 10 k) hx hb hK hP 7 0 hp_M_10 rfl (k := k) (by omega) (by decide) rfl dX2_inspect_70 ?_
          refine lv_iconst (v := 4) hx hb dX2_inspect_71 (by decide) ?_
          refine lv_icmp_eq (tgt := 108) hx hb dX2_inspect_72 (by decide) (fun c_16 => ?_) (fun c_16 => ?_)
          · skip
            refine lv_iinc (v := nI (k + 1)) (lv' := [(5, .int (nI (k + 1))), (3, .int (hp_b (hp_all (hp_oki r n p0) (k)))), (4, .int (nI (hp_cnt (hp_on r p0) (k)))), (2, .int (hp_b (hp_st p0))), (0, .ref o), (1, .int p0)]) hx hb dX2_inspect_108 hl (k := 2) rfl (nI_1 _) (by decide) rfl (fun ls hl => ?_)
            refine lv_goto (tgt := 44) hx hb dX2_inspect_111 (by decide) ?_
            have e_17 : hp_b (hp_all (hp_oki r n p0) (k)) = hp_b (hp_all (hp_oki r n p0) (k + 1)) := by have h9 : hp_oki r n p0 k = true := (by simp [hp_oki, hp_on, c_5, hc, c_7, c_7p, c_13, c_16]); simp [hp_all, h9]
            have e_18 : nI (hp_cnt (hp_on r p0) (k)) = nI (hp_cnt (hp_on r p0) (k + 1)) := by first | (have h9 : hp_on r p0 k = true := (by simp [hp_on, c_5, hc, c_7, c_7p, c_13, c_16]); simp [hp_cnt, h9]; done) | (have h9 : hp_on r p0 k = false := (by simp [hp_on, c_5, hc, c_7, c_7p, c_13, c_16]); simp [hp_cnt, h9]; done)
            exact ih_6 hkn _ (by have h9 := lv_sub (l' := [(3, .int (hp_b (hp_all (hp_oki r n p0) (k)))), (4, .int (nI (hp_cnt (hp_on r p0) (k)))), (5, .int (nI (k + 1))), (2, .int (hp_b (hp_st p0))), (0, .ref o), (1, .int p0)]) hl [1, 2, 0, 3, 4, 5] rfl; rw [e_17, e_18] at h9; exact h9)
          · skip
            refine hp_join 104 6 (fun x19 : Int32 => x19 = hp_b (hp_all (hp_oki r n p0) (k + 1))) (fun x19 => [(3, .int (hp_b (hp_all (hp_oki r n p0) (k)))), (4, .int (nI (hp_cnt (hp_on r p0) (k)))), (5, .int (nI k)), (2, .int (hp_b (hp_st p0))), (0, .ref o), (1, .int p0)]) (fun x19 => [.int x19]) (fun x19 hx_20 ls hl => ?_) (fun jn_20 => ?_)
            · skip
              subst hx_20
              refine lv_istore_n (lv' := [(3, .int (hp_b (hp_all (hp_oki r n p0) (k + 1)))), (4, .int (nI (hp_cnt (hp_on r p0) (k)))), (5, .int (nI k)), (2, .int (hp_b (hp_st p0))), (0, .ref o), (1, .int p0)]) hx hb dX2_inspect_104 rfl hl (by decide) rfl (fun ls hl => ?_)
              refine lv_iinc (v := nI ((hp_cnt (hp_on r p0) (k)) + 1)) (lv' := [(4, .int (nI ((hp_cnt (hp_on r p0) (k)) + 1))), (3, .int (hp_b (hp_all (hp_oki r n p0) (k + 1)))), (5, .int (nI k)), (2, .int (hp_b (hp_st p0))), (0, .ref o), (1, .int p0)]) hx hb dX2_inspect_105 hl (k := 1) rfl (nI_1 _) (by decide) rfl (fun ls hl => ?_)
              refine lv_iinc (v := nI (k + 1)) (lv' := [(5, .int (nI (k + 1))), (4, .int (nI ((hp_cnt (hp_on r p0) (k)) + 1))), (3, .int (hp_b (hp_all (hp_oki r n p0) (k + 1)))), (2, .int (hp_b (hp_st p0))), (0, .ref o), (1, .int p0)]) hx hb dX2_inspect_108 hl (k := 2) rfl (nI_1 _) (by decide) rfl (fun ls hl => ?_)
              refine lv_goto (tgt := 44) hx hb dX2_inspect_111 (by decide) ?_
              have e_21 : nI ((hp_cnt (hp_on r p0) (k)) + 1) = nI (hp_cnt (hp_on r p0) (k + 1)) := by first | (have h9 : hp_on r p0 k = true := (by simp [hp_on, c_5, hc, c_7, c_7p, c_13, c_16]); simp [hp_cnt, h9]; done) | (have h9 : hp_on r p0 k = false := (by simp [hp_on, c_5, hc, c_7, c_7p, c_13, c_16]); simp [hp_cnt, h9]; done)
              exact ih_6 hkn _ (by have h9 := lv_sub (l' := [(3, .int (hp_b (hp_all (hp_oki r n p0) (k + 1)))), (4, .int (nI ((hp_cnt (hp_on r p0) (k)) + 1))), (5, .int (nI (k + 1))), (2, .int (hp_b (hp_st p0))), (0, .ref o), (1, .int p0)]) hl [2, 1, 0, 3, 4, 5] rfl; rw [e_21] at h9; exact h9)
            · skip
              refine lv_iload_n hx hb dX2_inspect_75 rfl (lv_at hl 0 rfl) ?_
              refine lv_if_eq (tgt := 103) hx hb dX2_inspect_76 (by decide) (fun c_22 => ?_) (fun c_22 => ?_)
              · skip
                have c_22 := hp_bz c_22
                refine lv_iconst (v := 0) hx hb dX2_inspect_103 (by decide) ?_
                exact jn_20 0 (by simp [hp_all, hp_oki, hp_on, hp_b, c_5, hc, c_7, c_7p, c_13, c_16, c_22]) _ (lv_sub hl [0, 1, 2, 3, 4, 5] rfl)
              · skip
                have c_22 := hp_bn c_22
                refine lv_aload_n hx hb dX2_inspect_79 rfl (lv_at hl 4 rfl) ?_
                refine va_get (D := (dC, dI)) (ci := 2) (v := .ref (a 10)) (C := RX2) (T := TX2) (N := 18) hx hb hts hinX2 hown hK hP 0 hp_M_o rfl 10 (by decide) hf_28 (fun _ h9 => h9) rfl dX2_inspect_80 ?_
                refine lv_iload hx hb dX2_inspect_83 (lv_at hl 2 rfl) ?_
                refine hp_iald (v := r 10 k) hx hb hK hP 7 0 hp_M_10 rfl (k := k) (by omega) (by decide) rfl dX2_inspect_85 ?_
                refine lv_iconst (v := 3) hx hb dX2_inspect_86 (by decide) ?_
                refine lv_icmp_ne (tgt := 103) hx hb dX2_inspect_87 (by decide) (fun c_23 => ?_) (fun c_23 => ?_)
                · skip
                  refine lv_iconst (v := 0) hx hb dX2_inspect_103 (by decide) ?_
                  exact jn_20 0 (by simp [hp_all, hp_oki, hp_on, hp_b, c_5, hc, c_7, c_7p, c_13, c_16, c_22, c_23]) _ (lv_sub hl [0, 1, 2, 3, 4, 5] rfl)
                · skip
                  refine lv_aload_n hx hb dX2_inspect_90 rfl (lv_at hl 4 rfl) ?_
                  refine lv_iload hx hb dX2_inspect_91 (lv_at hl 2 rfl) ?_
                  refine vp_callSi (W.runV (As := [.int (nI k)]) (rest := []) ⟨hx, hb, hml, hown, hts⟩ (c_X2_hasClash l dC dI cI cZ cO cJ o a (va_up v 0 (hp_c_inspect r p0)) r n k (nI k) rfl (by omega) hinv) (cwV 1 hts gX2_inspect_X2_hasClash rfl rfl rfl (by decide +kernel) ⟨(Nat.le_of_ble_eq_true rfl), (Nat.le_of_ble_eq_true rfl)⟩) ⟨hp_fb, va_recv hK hP (ci := 2) (q0 := 0) rfl hp_M_o, fun U hU hW => ⟨rfl, hp_to hP hK hU hW⟩⟩ rfl rfl hl.1 rfl (lv_room (Nat.le_of_ble_eq_true rfl)) dX2_inspect_93 ⟨(Nat.zero_le _), (Nat.zero_le _)⟩) (fun r_24 hr_24 => ?_)
                  subst hr_24
                  refine lv_if_ne (tgt := 103) hx hb dX2_inspect_96 (by decide) (fun c_25 => ?_) (fun c_25 => ?_)
                  · skip
                    have c_25 := hp_bn c_25
                    refine lv_iconst (v := 0) hx hb dX2_inspect_103 (by decide) ?_
                    exact jn_20 0 (by simp [hp_all, hp_oki, hp_on, hp_b, c_5, hc, c_7, c_7p, c_13, c_16, c_22, c_23, c_25]) _ (lv_sub hl [0, 1, 2, 3, 4, 5] rfl)
                  · skip
                    have c_25 := hp_bz c_25
                    refine lv_iconst (v := 1) hx hb dX2_inspect_99 (by decide) ?_
                    refine lv_goto (tgt := 104) hx hb dX2_inspect_100 (by decide) ?_
                    exact jn_20 1 (by simp [hp_all, hp_oki, hp_on, hp_b, c_5, hc, c_7, c_7p, c_13, c_16, c_22, c_23, c_25]) _ (lv_sub hl [0, 1, 2, 3, 4, 5] rfl)
    · skip
      have c_5 := hp_bn c_5
      have hc := hp_ne0 c_5
      refine lv_iconst (v := 0) hx hb dX2_inspect_34 (by decide) ?_
      have hP9 : va_P (dC, dI) vwCl (hp_M cI cZ o a (va_up v 0 (hp_c_inspect r p0)) (hp_r_inspect r n p0) n) H_4 := by simp only [hp_r_inspect, if_neg hc]; exact hP
      exact W.zret (ty := .boolean) (v := 0) hx hb hr rfl (fun t ht hW => ⟨⟨0, (), rfl, (by exact hp_bf2 (by simp [hp_b_inspect, c_5, hc])), hp_ht ht hP9⟩, hS.F ht⟩) hS.2.2 dX2_inspect_35
  · skip
    refine lv_iload_n hx hb dX2_inspect_6 rfl (lv_at hl 0 rfl) ?_
    refine lv_if_ne (tgt := 14) hx hb dX2_inspect_7 (by decide) (fun c_26 => ?_) (fun c_26 => ?_)
    · skip
      have c_26 := hp_bn c_26
      have xf := hp_st_ix c_26
      refine lv_aload_n hx hb dX2_inspect_14 rfl (lv_at hl 1 rfl) ?_
      refine va_get (D := (dC, dI)) (ci := 2) (v := .ref (a 17)) (C := RX2) (T := TX2) (N := 18) hx hb hts hinX2 hown hK hP 0 hp_M_o rfl 17 (by decide) hf_49 (fun _ h9 => h9) rfl dX2_inspect_15 ?_
      refine lv_iload_n hx hb dX2_inspect_18 rfl (lv_at hl 2 rfl) ?_
      refine hp_zaldx (v := r 17 p0.toNatClampNeg) hx hb hK hP 14 1 hp_M_17 rfl (i := p0) (hp_vin xf (by decide) (by decide)) rfl dX2_inspect_19 ?_
      refine lv_if_eq (tgt := 27) hx hb dX2_inspect_20 (by decide) (fun c_27 => ?_) (fun c_27 => ?_)
      · skip
        refine lv_iconst (v := 0) hx hb dX2_inspect_27 (by decide) ?_
        exact jn_3 0 (by exact hp_cdz (by (first | assumption | (simp [c_26, c_27]; done))) (by (first | assumption | (simp [c_26, c_27]; done))) (by (first | assumption | (simp [c_26, c_27]; done)))) _ (lv_sub hl [0, 1, 2] rfl)
      · skip
        refine lv_iconst (v := 2) hx hb dX2_inspect_23 (by decide) ?_
        refine lv_goto (tgt := 28) hx hb dX2_inspect_24 (by decide) ?_
        exact jn_3 2 (by exact hp_cd2 (by (first | assumption | (simp [c_26, c_27]; done))) (by (first | assumption | (simp [c_26, c_27]; done)))) _ (lv_sub hl [0, 1, 2] rfl)
    · skip
      have c_26 := hp_bz c_26
      refine lv_iconst (v := 1) hx hb dX2_inspect_10 (by decide) ?_
      refine lv_goto (tgt := 28) hx hb dX2_inspect_11 (by decide) ?_
      exact jn_3 1 (by exact hp_cd1 (by (first | assumption | (simp [c_26]; done)))) _ (lv_sub hl [0, 1, 2] rfl)
set_option maxHeartbeats 400000 in
set_option maxRecDepth 100000 in
theorem c_X2_pass (l : Launch) (dC : Nat → ClassId) (dI : Nat → Nat → Nat) (cI cZ cO cJ : ClassId) (o : Nat) (a : Nat → Nat) (v : Nat → Int32) (r : Nat → Nat → Int32) (n : Nat) (sz : Nat)  (p0 : Int32) (hinv : hp_inv v r n) : Met l yX2_pass wsX2_pass ({ frames := 1, cells := 0, slots := 0, locals := 22 }) (va_Pc [.ref o, .int p0] (hp_prm (dC, dI) cI cZ cO cJ (hp_M cI cZ o a v r n) sz)) (va_Qi (S := Unit) (fun x9 _ => x9 = hp_a_pass v p0) (fun _ t9 => va_P (dC, dI) vwCl (hp_M cI cZ o a (va_up (hp_v_pass v p0) 0 (hp_c_pass v p0)) (hp_r_pass v r n p0) n) t9.heap) (va_A (hp_M cI cZ o a v r n) sz)) 0 0 (va_A (hp_M cI cZ o a v r n) sz) := by
  refine Met.ofW (cc := cX2_pass) (maxL := 3) (ret := (some .int)) (by decide) rfl ?_
  intro p e s m args below meth c s₁ B hml hv
  obtain ⟨rfl, hsz, hP, hK, hD0⟩ := hv
  have hx := B.exec
  have hb := B.bytes
  have hr := B.returns
  have hts := atoms_spec (ws := wsX2_pass) B.pre
  have hown : s.vm.findClass RX2 = some m.cls := findClass_of_methodNamed B.named
  have hlocks := B.notSynchronized
  subst hsz
  have hD := hD0.self (sz := s.heap.size)
  generalize hAe : va_A (hp_M cI cZ o a v r n) s.heap.size = A at hD ⊢
  replace hD : ∀ v r n, va_D A (hp_M cI cZ o a v r n) := fun _ _ _ => hp_dM hD
  have hA : ∀ q : Nat, s.heap.size ≤ q → A q := fun q h => by rw [← hAe]; exact Or.inr h
  have hS : va_S A s.heap s.heap [] := va_S.rf
  have hf_28 := hts (.fieldLink RX2 28 "WallplanModel" "state" "[I") (by decide +kernel)
  have hf_37 := hts (.fieldLink RX2 37 "WallplanModel" "due" "[I") (by decide +kernel)
  have hf_61 := hts (.fieldLink RX2 61 "WallplanModel" "elements" "I") (by decide +kernel)
  have hf_97 := hts (.fieldLink RX2 97 "WallplanModel" "day" "I") (by decide +kernel)
  have hinX2 : ∀ w ∈ wsX20, w ∈ wsX2_pass := by decide +kernel
  have hl := lv_entry ([.ref o, .int p0]) (n := 3) (Nat.le_of_ble_eq_true rfl)
  rw [lg_entry_eq]
  generalize (lg_sl ([.ref o, .int p0]) ++ List.replicate (3 - (lg_sl ([.ref o, .int p0])).length) Slot.unset).toArray = ls at hl ⊢
  have hl : lv_has ls 3 [(0, .ref o), (1, .int p0)] := hl
  have hn := hinv.1
  refine lv_aload_n hx hb dX2_pass_0 rfl (lv_at hl 0 rfl) ?_
  refine hp_join 32 3 (fun x1 : Int32 => x1 = hp_c_pass v p0) (fun x1 => [(0, .ref o), (1, .int p0)]) (fun x1 => [.int x1, .ref o]) (fun x1 hx_2 ls hl => ?_) (fun jn_2 => ?_)
  · skip
    subst hx_2
    have hFc := hp_free (hD v r n) hS hA
    refine va_calli (va_runV (As := [.int (hp_c_pass v p0)]) (rest := []) ⟨hx, hb, hml, hown, hts⟩ (c_X2_refused l dC dI cI cZ cO cJ o a v r n s.heap.size (hp_c_pass v p0)) (cwV 1 hts gX2_pass_X2_refused rfl rfl rfl (by decide +kernel) ⟨(Nat.le_of_ble_eq_true rfl), (Nat.le_of_ble_eq_true rfl)⟩) ⟨hp_mfb, va_recv hK hP (ci := 2) (q0 := 0) rfl hp_M_o, fun U hU hW => ⟨rfl, hp_mto hP hK (hD _ _ _) hU hW⟩⟩ rfl rfl hl.1 rfl (lv_room (Nat.le_of_ble_eq_true rfl)) dX2_pass_32 ⟨(Nat.zero_le _), (Nat.zero_le _)⟩) hS (fun q _ h => hFc q h) hFc (fun r_3 u_3 t_3 H_3 locs_3 ht _ hr_3 hB _ _ hS1 => ?_)
    replace hP : va_P (dC, dI) vwCl (hp_M cI cZ o a (va_up v 0 (hp_c_pass v p0)) r n) H_3 := hp_th ht hB
    replace hS := hS1
    clear hS1 hB ht hFc
    subst hr_3
    refine lv_if_eq (tgt := 40) hx hb dX2_pass_35 (by decide) (fun c_4 => ?_) (fun c_4 => ?_)
    · skip
      have c_4 := hp_bz c_4
      have hc := hp_eq0 c_4
      obtain ⟨g1, g2, g3⟩ := hp_cd0 hc
      refine lv_aload_n hx hb dX2_pass_40 rfl (lv_at hl 0 rfl) ?_
      refine lv_dup hx hb dX2_pass_41 rfl ?_
      refine va_get (D := (dC, dI)) (ci := 2) (v := .int (v 1)) (C := RX2) (T := TX2) (N := 18) hx hb hts hinX2 hown hK hP 0 hp_M_o rfl 1 (by decide) hf_97 (fun _ h9 => h9) rfl dX2_pass_42 ?_
      refine lv_iload_n hx hb dX2_pass_45 rfl (lv_at hl 1 rfl) ?_
      refine lv_iadd hx hb dX2_pass_46 ?_
      refine va_put (D := (dC, dI)) (ci := 2) (v := .int ((v 1) + p0)) (ty := .int) (C := RX2) (T := TX2) (N := 18) hx hb hts hinX2 tyX2 tyX2_ok nmX2 hown hK hP (hD _ _ _) hS 0 hp_M_o rfl 1 (by decide) hf_97 (fun _ h9 => h9) rfl (by decide +kernel) rfl rfl (Nat.le_of_ble_eq_true rfl) dX2_pass_47 (fun H_5 locs_5 hP1 _ hS1 => ?_)
      replace hP : va_P (dC, dI) vwCl (hp_M cI cZ o a (va_up (va_up v 0 (hp_c_pass v p0)) 1 ((v 1) + p0)) r n) H_5 := hp_cP hp_M_p1 hP1
      replace hS := hS1
      clear hP1 hS1
      refine lv_iconst (v := 0) hx hb dX2_pass_50 (by decide) ?_
      refine lv_istore_n (lv' := [(2, .int 0), (0, .ref o), (1, .int p0)]) hx hb dX2_pass_51 rfl hl (by decide) rfl (fun ls hl => ?_)
      replace hP : va_P (dC, dI) vwCl (hp_M cI cZ o a (va_up (va_up v 0 (hp_c_pass v p0)) 1 ((v 1) + p0)) (hp_dl r ((v 1) + p0) 0) n) H_5 := by rw [hp_dl0]; exact hP
      refine hp_loopM (fun k => [(2, .int (nI k)), (0, .ref o), (1, .int p0)]) (fun k => hp_M cI cZ o a (va_up (va_up v 0 (hp_c_pass v p0)) 1 ((v 1) + p0)) (hp_dl r ((v 1) + p0) k) n) n (fun k hk_6 ih_6 H_6 locs_6 ls hP1 hS1 hl => ?_) hP hS (lv_sub hl [0, 1, 2] rfl)
      clear hP hS
      have hP := hP1
      have hS := hS1
      clear hP1 hS1
      refine lv_iload_n hx hb dX2_pass_52 rfl (lv_at hl 0 rfl) ?_
      refine lv_aload_n hx hb dX2_pass_53 rfl (lv_at hl 1 rfl) ?_
      refine va_get (D := (dC, dI)) (ci := 2) (v := .int (nI n)) (C := RX2) (T := TX2) (N := 18) hx hb hts hinX2 hown hK hP 0 hp_M_o rfl 3 (by decide) hf_61 (fun _ h9 => h9) rfl dX2_pass_54 ?_
      refine lv_icmp_ge (tgt := 105) hx hb dX2_pass_57 (by decide) (fun c_7 => ?_) (fun c_7 => ?_)
      · skip
        have c_7n := hp_len c_7
        have ek : k = n := Nat.le_antisymm (by omega) ((nI_leI (by omega) (by omega)).mp c_7)
        refine lv_aload_n hx hb dX2_pass_105 rfl (lv_at hl 1 rfl) ?_
        refine va_get (D := (dC, dI)) (ci := 2) (v := .int ((v 1) + p0)) (C := RX2) (T := TX2) (N := 18) hx hb hts hinX2 hown hK hP 0 hp_M_o rfl 1 (by decide) hf_97 (fun _ h9 => h9) rfl dX2_pass_106 ?_
        have hP9 : va_P (dC, dI) vwCl (hp_M cI cZ o a (va_up (hp_v_pass v p0) 0 (hp_c_pass v p0)) (hp_r_pass v r n p0) n) H_6 := by simp only [hp_v_pass, hp_r_pass, if_pos hc, ← hp_up_1]; rw [ek] at hP; exact hP
        exact W.iret (v := (v 1) + p0) hx hb hr (fun t ht hW => ⟨⟨(v 1) + p0, (), rfl, (by rw [hp_a_pass, if_pos hc]), hp_ht ht hP9⟩, hS.F ht⟩) hS.2.2 dX2_pass_109
      · skip
        have c_7p := hp_nle c_7
        have hkn : k < n := Nat.lt_of_not_le (fun h => c_7 (nI_le h (by omega)))
        refine lv_aload_n hx hb dX2_pass_60 rfl (lv_at hl 1 rfl) ?_
        refine va_get (D := (dC, dI)) (ci := 2) (v := .ref (a 10)) (C := RX2) (T := TX2) (N := 18) hx hb hts hinX2 hown hK hP 0 hp_M_o rfl 10 (by decide) hf_28 (fun _ h9 => h9) rfl dX2_pass_61 ?_
        refine lv_iload_n hx hb dX2_pass_64 rfl (lv_at hl 0 rfl) ?_
        refine hp_join 98 3 (fun x8 : Int32 => x8 = (if ((r 10 k == 1) && decide (r 13 k ≤ ((v 1) + p0))) = true then 2 else r 10 k)) (fun x8 => [(2, .int (nI k)), (0, .ref o), (1, .int p0)]) (fun x8 => [.int x8, .int (nI k), .ref (a 10)]) (fun x8 hx_9 ls hl => ?_) (fun jn_9 => ?_)
        · skip
          subst hx_9
          refine hp_iast hx hb hK hP (hD _ _ _) hS 7 0 hp_M_10 rfl (k := k) (x := if ((r 10 k == 1) && decide (r 13 k ≤ ((v 1) + p0))) = true then 2 else r 10 k) (by omega) (by decide) dX2_pass_98 (fun H_10 locs_10 hP1 _ hS1 => ?_)
          replace hP : va_P (dC, dI) vwCl (hp_M cI cZ o a (va_up (va_up v 0 (hp_c_pass v p0)) 1 ((v 1) + p0)) (hp_set (hp_dl r ((v 1) + p0) k) 10 k (if ((r 10 k == 1) && decide (r 13 k ≤ ((v 1) + p0))) = true then 2 else r 10 k)) n) H_10 := hp_cP hp_M_s10 hP1
          replace hS := hS1
          clear hP1 hS1
          refine lv_iinc (v := nI (k + 1)) (lv' := [(2, .int (nI (k + 1))), (0, .ref o), (1, .int p0)]) hx hb dX2_pass_99 hl (k := 0) rfl (nI_1 _) (by decide) rfl (fun ls hl => ?_)
          refine lv_goto (tgt := 52) hx hb dX2_pass_102 (by decide) ?_
          replace hP : va_P (dC, dI) vwCl (hp_M cI cZ o a (va_up (va_up v 0 (hp_c_pass v p0)) 1 ((v 1) + p0)) (hp_dl r ((v 1) + p0) (k + 1)) n) H_10 := by rw [hp_dl1] at hP; exact hP
          exact ih_6 hkn _ _ _ hP hS (lv_sub hl [0, 1, 2] rfl)
        · skip
          refine lv_aload_n hx hb dX2_pass_65 rfl (lv_at hl 1 rfl) ?_
          refine va_get (D := (dC, dI)) (ci := 2) (v := .ref (a 10)) (C := RX2) (T := TX2) (N := 18) hx hb hts hinX2 hown hK hP 0 hp_M_o rfl 10 (by decide) hf_28 (fun _ h9 => h9) rfl dX2_pass_66 ?_
          refine lv_iload_n hx hb dX2_pass_69 rfl (lv_at hl 0 rfl) ?_
          refine hp_iald (v := r 10 k) hx hb hK hP 7 0 hp_M_10 rfl (k := k) (by omega) (by decide) (hp_dlk _ _ _) dX2_pass_70 ?_
          refine lv_iconst (v := 1) hx hb dX2_pass_71 (by decide) ?_
          refine lv_icmp_ne (tgt := 92) hx hb dX2_pass_72 (by decide) (fun c_11 => ?_) (fun c_11 => ?_)
          · skip
            refine lv_aload_n hx hb dX2_pass_92 rfl (lv_at hl 1 rfl) ?_
            refine va_get (D := (dC, dI)) (ci := 2) (v := .ref (a 10)) (C := RX2) (T := TX2) (N := 18) hx hb hts hinX2 hown hK hP 0 hp_M_o rfl 10 (by decide) hf_28 (fun _ h9 => h9) rfl dX2_pass_93 ?_
            refine lv_iload_n hx hb dX2_pass_96 rfl (lv_at hl 0 rfl) ?_
            refine hp_iald (v := r 10 k) hx hb hK hP 7 0 hp_M_10 rfl (k := k) (by omega) (by decide) (hp_dlk _ _ _) dX2_pass_97 ?_
            exact jn_9 (r 10 k) (by simp [c_4, hc, c_7, c_7p, c_11]) _ (lv_sub hl [0, 1, 2] rfl)
          · skip
            refine lv_aload_n hx hb dX2_pass_75 rfl (lv_at hl 1 rfl) ?_
            refine va_get (D := (dC, dI)) (ci := 2) (v := .ref (a 13)) (C := RX2) (T := TX2) (N := 18) hx hb hts hinX2 hown hK hP 0 hp_M_o rfl 13 (by decide) hf_37 (fun _ h9 => h9) rfl dX2_pass_76 ?_
            refine lv_iload_n hx hb dX2_pass_79 rfl (lv_at hl 0 rfl) ?_
            refine hp_iald (v := r 13 k) hx hb hK hP 10 0 hp_M_13 rfl (k := k) (by omega) (by decide) rfl dX2_pass_80 ?_
            refine lv_aload_n hx hb dX2_pass_81 rfl (lv_at hl 1 rfl) ?_
            refine va_get (D := (dC, dI)) (ci := 2) (v := .int ((v 1) + p0)) (C := RX2) (T := TX2) (N := 18) hx hb hts hinX2 hown hK hP 0 hp_M_o rfl 1 (by decide) hf_97 (fun _ h9 => h9) rfl dX2_pass_82 ?_
            refine lv_icmp_gt (tgt := 92) hx hb dX2_pass_85 (by decide) (fun c_12 => ?_) (fun c_12 => ?_)
            · skip
              have c_12n := hp_ltn c_12
              refine lv_aload_n hx hb dX2_pass_92 rfl (lv_at hl 1 rfl) ?_
              refine va_get (D := (dC, dI)) (ci := 2) (v := .ref (a 10)) (C := RX2) (T := TX2) (N := 18) hx hb hts hinX2 hown hK hP 0 hp_M_o rfl 10 (by decide) hf_28 (fun _ h9 => h9) rfl dX2_pass_93 ?_
              refine lv_iload_n hx hb dX2_pass_96 rfl (lv_at hl 0 rfl) ?_
              refine hp_iald (v := r 10 k) hx hb hK hP 7 0 hp_M_10 rfl (k := k) (by omega) (by decide) (hp_dlk _ _ _) dX2_pass_97 ?_
              exact jn_9 (r 10 k) (by simp [c_4, hc, c_7, c_7p, c_11, c_12, c_12n]) _ (lv_sub hl [0, 1, 2] rfl)
            · skip
              have c_12p := hp_nlt c_12
              refine lv_iconst (v := 2) hx hb dX2_pass_88 (by decide) ?_
              refine lv_goto (tgt := 98) hx hb dX2_pass_89 (by decide) ?_
              exact jn_9 2 (by simp [c_4, hc, c_7, c_7p, c_11, c_12, c_12p]) _ (lv_sub hl [0, 1, 2] rfl)
    · skip
      have c_4 := hp_bn c_4
      have hc := hp_ne0 c_4
      refine lv_iconst (v := 0) hx hb dX2_pass_38 (by decide) ?_
      have hP9 : va_P (dC, dI) vwCl (hp_M cI cZ o a (va_up (hp_v_pass v p0) 0 (hp_c_pass v p0)) (hp_r_pass v r n p0) n) H_3 := by simp only [hp_v_pass, hp_r_pass, if_neg hc]; exact hP
      exact W.iret (v := 0) hx hb hr (fun t ht hW => ⟨⟨0, (), rfl, (by rw [hp_a_pass, if_neg hc]), hp_ht ht hP9⟩, hS.F ht⟩) hS.2.2 dX2_pass_39
  · skip
    refine lv_iload_n hx hb dX2_pass_1 rfl (lv_at hl 1 rfl) ?_
    refine lv_iconst (v := 1) hx hb dX2_pass_2 (by decide) ?_
    refine lv_bipush (v := 100) hx hb dX2_pass_3 (by decide) ?_
    refine vp_callSi (W.runS (As := [.int p0, .int 1, .int 100]) (rest := [.ref o]) ⟨hx, hb, hml, hown, hts⟩ (c_X2_in l p0 1 100) (va_cwS 3 hts gX2_pass_X2_in rfl rfl rfl (by decide +kernel) ⟨(Nat.le_of_ble_eq_true rfl), (Nat.le_of_ble_eq_true rfl)⟩) ⟨hp_nfb, fun _ _ _ => ⟨rfl, trivial⟩⟩ rfl rfl hl.1 rfl (lv_room (Nat.le_of_ble_eq_true rfl)) dX2_pass_5 ⟨(Nat.zero_le _), (Nat.zero_le _)⟩) (fun r_13 hr_13 => ?_)
    subst hr_13
    refine lv_if_ne (tgt := 15) hx hb dX2_pass_8 (by decide) (fun c_14 => ?_) (fun c_14 => ?_)
    · skip
      have c_14 := hp_bn c_14
      refine lv_aload_n hx hb dX2_pass_15 rfl (lv_at hl 0 rfl) ?_
      refine va_get (D := (dC, dI)) (ci := 2) (v := .int (v 1)) (C := RX2) (T := TX2) (N := 18) hx hb hts hinX2 hown hK hP 0 hp_M_o rfl 1 (by decide) hf_97 (fun _ h9 => h9) rfl dX2_pass_16 ?_
      refine lv_iload_n hx hb dX2_pass_19 rfl (lv_at hl 1 rfl) ?_
      refine lv_iadd hx hb dX2_pass_20 ?_
      refine lv_sipush (v := 500) hx hb dX2_pass_21 (by decide) ?_
      refine lv_icmp_le (tgt := 31) hx hb dX2_pass_24 (by decide) (fun c_15 => ?_) (fun c_15 => ?_)
      · skip
        have c_15n := hp_len c_15
        refine lv_iconst (v := 0) hx hb dX2_pass_31 (by decide) ?_
        exact jn_2 0 (by exact hp_cdz (by (first | assumption | (simp [c_14, c_15, c_15n]; done))) (by (first | assumption | (simp [c_14, c_15, c_15n]; done))) (by (first | assumption | (simp [c_14, c_15, c_15n]; done)))) _ (lv_sub hl [0, 1] rfl)
      · skip
        have c_15p := hp_nle c_15
        refine lv_iconst (v := 2) hx hb dX2_pass_27 (by decide) ?_
        refine lv_goto (tgt := 32) hx hb dX2_pass_28 (by decide) ?_
        exact jn_2 2 (by exact hp_cd2 (by (first | assumption | (simp [c_14, c_15, c_15p]; done))) (by (first | assumption | (simp [c_14, c_15, c_15p]; done)))) _ (lv_sub hl [0, 1] rfl)
    · skip
      have c_14 := hp_bz c_14
      refine lv_iconst (v := 1) hx hb dX2_pass_11 (by decide) ?_
      refine lv_goto (tgt := 32) hx hb dX2_pass_12 (by decide) ?_
      exact jn_2 1 (by exact hp_cd1 (by (first | assumption | (simp [c_14]; done)))) _ (lv_sub hl [0, 1] rfl)
