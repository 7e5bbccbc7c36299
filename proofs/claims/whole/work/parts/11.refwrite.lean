set_option maxHeartbeats 400000 in
set_option maxRecDepth 100000 in
theorem c_X2_thrown (l : Launch) (dC : Nat → ClassId) (dI : Nat → Nat → Nat) (cI cZ cO cJ : ClassId) (o : Nat) (a : Nat → Nat) (v : Nat → Int32) (r : Nat → Nat → Int32) (n : Nat)   : Met l yX2_thrown wsX2_thrown ({ frames := 0, cells := 0, slots := 0, locals := 0 }) (va_Pc [.ref o] (hp_pre (dC, dI) cI cZ cO cJ (hp_M cI cZ o a v r n))) (vp_Si (fun x9 => x9 = v 0)) 0 0 (fun _ => False) := by
  refine Met.ofW (cc := cX2_thrown) (maxL := 1) (ret := (some .int)) (by decide) rfl ?_
  intro p e s m args below meth c s₁ B hml hv
  obtain ⟨rfl, hP, hK⟩ := hv
  have hx := B.exec
  have hb := B.bytes
  have hr := B.returns
  have hts := atoms_spec (ws := wsX2_thrown) B.pre
  have hown : s.vm.findClass RX2 = some m.cls := findClass_of_methodNamed B.named
  have hlocks := B.notSynchronized
  have hf_53 := hts (.fieldLink RX2 53 "WallplanModel" "thrown" "I") (by decide +kernel)
  have hinX2 : ∀ w ∈ wsX20, w ∈ wsX2_thrown := by decide +kernel
  have hl := lv_entry ([.ref o]) (n := 1) (Nat.le_of_ble_eq_true rfl)
  rw [lg_entry_eq]
  generalize (lg_sl ([.ref o]) ++ List.replicate (1 - (lg_sl ([.ref o])).length) Slot.unset).toArray = ls at hl ⊢
  have hl : lv_has ls 1 [(0, .ref o)] := hl
  refine lv_aload_n hx hb dX2_thrown_0 rfl (lv_at hl 0 rfl) ?_
  refine va_get (D := (dC, dI)) (ci := 2) (v := .int (v 0)) (C := RX2) (T := TX2) (N := 18) hx hb hts hinX2 hown hK hP 0 hp_M_o rfl 0 (by decide) hf_53 (fun _ h9 => h9) rfl dX2_thrown_1 ?_
  exact W.iret (v := v 0) hx hb hr (fun t ht hW => ⟨_, rfl, (by rfl), ht⟩) (fun _ h => nomatch h) dX2_thrown_4
set_option maxHeartbeats 400000 in
set_option maxRecDepth 100000 in
theorem c_X2_refused (l : Launch) (dC : Nat → ClassId) (dI : Nat → Nat → Nat) (cI cZ cO cJ : ClassId) (o : Nat) (a : Nat → Nat) (v : Nat → Int32) (r : Nat → Nat → Int32) (n : Nat) (sz : Nat)  (p0 : Int32) : Met l yX2_refused wsX2_refused ({ frames := 0, cells := 0, slots := 0, locals := 0 }) (va_Pc [.ref o, .int p0] (hp_prm (dC, dI) cI cZ cO cJ (hp_M cI cZ o a v r n) sz)) (va_Qi (S := Unit) (fun x9 _ => x9 = hp_b (!(p0 == 0))) (fun _ t9 => va_P (dC, dI) vwCl (hp_M cI cZ o a (va_up v 0 p0) r n) t9.heap) (va_A (hp_M cI cZ o a v r n) sz)) 0 0 (va_A (hp_M cI cZ o a v r n) sz) := by
  refine Met.ofW (cc := cX2_refused) (maxL := 2) (ret := (some .boolean)) (by decide) rfl ?_
  intro p e s m args below meth c s₁ B hml hv
  obtain ⟨rfl, hsz, hP, hK, hD0⟩ := hv
  have hx := B.exec
  have hb := B.bytes
  have hr := B.returns
  have hts := atoms_spec (ws := wsX2_refused) B.pre
  have hown : s.vm.findClass RX2 = some m.cls := findClass_of_methodNamed B.named
  have hlocks := B.notSynchronized
  subst hsz
  have hD := hD0.self (sz := s.heap.size)
  generalize hAe : va_A (hp_M cI cZ o a v r n) s.heap.size = A at hD ⊢
  replace hD : ∀ v r n, va_D A (hp_M cI cZ o a v r n) := fun _ _ _ => hp_dM hD
  have hA : ∀ q : Nat, s.heap.size ≤ q → A q := fun q h => by rw [← hAe]; exact Or.inr h
  have hS : va_S A s.heap s.heap [] := va_S.rf
  have hf_53 := hts (.fieldLink RX2 53 "WallplanModel" "thrown" "I") (by decide +kernel)
  have hinX2 : ∀ w ∈ wsX20, w ∈ wsX2_refused := by decide +kernel
  have hl := lv_entry ([.ref o, .int p0]) (n := 2) (Nat.le_of_ble_eq_true rfl)
  rw [lg_entry_eq]
  generalize (lg_sl ([.ref o, .int p0]) ++ List.replicate (2 - (lg_sl ([.ref o, .int p0])).length) Slot.unset).toArray = ls at hl ⊢
  have hl : lv_has ls 2 [(0, .ref o), (1, .int p0)] := hl
  refine lv_aload_n hx hb dX2_refused_0 rfl (lv_at hl 0 rfl) ?_
  refine lv_iload_n hx hb dX2_refused_1 rfl (lv_at hl 1 rfl) ?_
  refine va_put (D := (dC, dI)) (ci := 2) (v := .int p0) (ty := .int) (C := RX2) (T := TX2) (N := 18) hx hb hts hinX2 tyX2 tyX2_ok nmX2 hown hK hP (hD _ _ _) hS 0 hp_M_o rfl 0 (by decide) hf_53 (fun _ h9 => h9) rfl (by decide +kernel) rfl rfl (Nat.le_of_ble_eq_true rfl) dX2_refused_2 (fun H_1 locs_1 hP1 _ hS1 => ?_)
  replace hP : va_P (dC, dI) vwCl (hp_M cI cZ o a (va_up v 0 p0) r n) H_1 := hp_cP hp_M_p0 hP1
  replace hS := hS1
  clear hP1 hS1
  refine lv_iload_n hx hb dX2_refused_5 rfl (lv_at hl 1 rfl) ?_
  refine lv_if_eq (tgt := 13) hx hb dX2_refused_6 (by decide) (fun c_2 => ?_) (fun c_2 => ?_)
  · skip
    refine lv_iconst (v := 0) hx hb dX2_refused_13 (by decide) ?_
    have hP9 : va_P (dC, dI) vwCl (hp_M cI cZ o a (va_up v 0 p0) r n) H_1 := by exact hP
    exact W.zret (ty := .boolean) (v := 0) hx hb hr rfl (fun t ht hW => ⟨⟨0, (), rfl, (by simp [hp_b, c_2]), hp_ht ht hP9⟩, hS.F ht⟩) hS.2.2 dX2_refused_14
  · skip
    refine lv_iconst (v := 1) hx hb dX2_refused_9 (by decide) ?_
    refine lv_goto (tgt := 14) hx hb dX2_refused_10 (by decide) ?_
    have hP9 : va_P (dC, dI) vwCl (hp_M cI cZ o a (va_up v 0 p0) r n) H_1 := by exact hP
    exact W.zret (ty := .boolean) (v := 1) hx hb hr rfl (fun t ht hW => ⟨⟨1, (), rfl, (by simp [hp_b, c_2]), hp_ht ht hP9⟩, hS.F ht⟩) hS.2.2 dX2_refused_14
set_option maxHeartbeats 400000 in
set_option maxRecDepth 100000 in
theorem c_X2_change (l : Launch) (dC : Nat → ClassId) (dI : Nat → Nat → Nat) (cI cZ cO cJ : ClassId) (o : Nat) (a : Nat → Nat) (v : Nat → Int32) (r : Nat → Nat → Int32) (n : Nat) (sz : Nat) (i : Nat) (x_i : Int32) (hx_i : x_i = nI i) (p1 : Int32) (hi : i < 40) : Met l yX2_change wsX2_change ({ frames := 0, cells := 0, slots := 0, locals := 0 }) (va_Pc [.ref o, .int x_i, .int p1] (hp_prm (dC, dI) cI cZ cO cJ (hp_M cI cZ o a v r n) sz)) (va_Qv (S := Unit) (fun _ => True) (fun _ t9 => va_P (dC, dI) vwCl (hp_M cI cZ o a (hp_rv v) (hp_chg r i (v 2 + 1) p1) n) t9.heap) (va_A (hp_M cI cZ o a v r n) sz)) 0 0 (va_A (hp_M cI cZ o a v r n) sz) := by
  refine Met.ofW (cc := cX2_change) (maxL := 3) (ret := none) (by decide) rfl ?_
  intro p e s m args below meth c s₁ B hml hv
  obtain ⟨rfl, hsz, hP, hK, hD0⟩ := hv
  have hx := B.exec
  have hb := B.bytes
  have hr := B.returns
  have hts := atoms_spec (ws := wsX2_change) B.pre
  have hown : s.vm.findClass RX2 = some m.cls := findClass_of_methodNamed B.named
  have hlocks := B.notSynchronized
  subst hx_i
  subst hsz
  have hD := hD0.self (sz := s.heap.size)
  generalize hAe : va_A (hp_M cI cZ o a v r n) s.heap.size = A at hD ⊢
  replace hD : ∀ v r n, va_D A (hp_M cI cZ o a v r n) := fun _ _ _ => hp_dM hD
  have hA : ∀ q : Nat, s.heap.size ≤ q → A q := fun q h => by rw [← hAe]; exact Or.inr h
  have hS : va_S A s.heap s.heap [] := va_S.rf
  have hf_31 := hts (.fieldLink RX2 31 "WallplanModel" "changed" "[I") (by decide +kernel)
  have hf_34 := hts (.fieldLink RX2 34 "WallplanModel" "by" "[I") (by decide +kernel)
  have hf_64 := hts (.fieldLink RX2 64 "WallplanModel" "revision" "I") (by decide +kernel)
  have hinX2 : ∀ w ∈ wsX20, w ∈ wsX2_change := by decide +kernel
  have hl := lv_entry ([.ref o, .int (nI i), .int p1]) (n := 3) (Nat.le_of_ble_eq_true rfl)
  rw [lg_entry_eq]
  generalize (lg_sl ([.ref o, .int (nI i), .int p1]) ++ List.replicate (3 - (lg_sl ([.ref o, .int (nI i), .int p1])).length) Slot.unset).toArray = ls at hl ⊢
  have hl : lv_has ls 3 [(0, .ref o), (1, .int (nI i)), (2, .int p1)] := hl
  refine lv_aload_n hx hb dX2_change_0 rfl (lv_at hl 0 rfl) ?_
  refine lv_dup hx hb dX2_change_1 rfl ?_
  refine va_get (D := (dC, dI)) (ci := 2) (v := .int (v 2)) (C := RX2) (T := TX2) (N := 18) hx hb hts hinX2 hown hK hP 0 hp_M_o rfl 2 (by decide) hf_64 (fun _ h9 => h9) rfl dX2_change_2 ?_
  refine lv_iconst (v := 1) hx hb dX2_change_5 (by decide) ?_
  refine lv_iadd hx hb dX2_change_6 ?_
  refine va_put (D := (dC, dI)) (ci := 2) (v := .int ((v 2) + 1)) (ty := .int) (C := RX2) (T := TX2) (N := 18) hx hb hts hinX2 tyX2 tyX2_ok nmX2 hown hK hP (hD _ _ _) hS 0 hp_M_o rfl 2 (by decide) hf_64 (fun _ h9 => h9) rfl (by decide +kernel) rfl rfl (Nat.le_of_ble_eq_true rfl) dX2_change_7 (fun H_1 locs_1 hP1 _ hS1 => ?_)
  replace hP : va_P (dC, dI) vwCl (hp_M cI cZ o a (va_up v 2 ((v 2) + 1)) r n) H_1 := hp_cP hp_M_p2 hP1
  replace hS := hS1
  clear hP1 hS1
  refine lv_aload_n hx hb dX2_change_10 rfl (lv_at hl 0 rfl) ?_
  refine va_get (D := (dC, dI)) (ci := 2) (v := .ref (a 11)) (C := RX2) (T := TX2) (N := 18) hx hb hts hinX2 hown hK hP 0 hp_M_o rfl 11 (by decide) hf_31 (fun _ h9 => h9) rfl dX2_change_11 ?_
  refine lv_iload_n hx hb dX2_change_14 rfl (lv_at hl 1 rfl) ?_
  refine lv_aload_n hx hb dX2_change_15 rfl (lv_at hl 0 rfl) ?_
  refine va_get (D := (dC, dI)) (ci := 2) (v := .int ((v 2) + 1)) (C := RX2) (T := TX2) (N := 18) hx hb hts hinX2 hown hK hP 0 hp_M_o rfl 2 (by decide) hf_64 (fun _ h9 => h9) rfl dX2_change_16 ?_
  refine hp_iast hx hb hK hP (hD _ _ _) hS 8 0 hp_M_11 rfl (k := i) (x := (v 2) + 1) (by omega) (by decide) dX2_change_19 (fun H_2 locs_2 hP1 _ hS1 => ?_)
  replace hP : va_P (dC, dI) vwCl (hp_M cI cZ o a (va_up v 2 ((v 2) + 1)) (hp_set r 11 i ((v 2) + 1)) n) H_2 := hp_cP hp_M_s11 hP1
  replace hS := hS1
  clear hP1 hS1
  refine lv_aload_n hx hb dX2_change_20 rfl (lv_at hl 0 rfl) ?_
  refine va_get (D := (dC, dI)) (ci := 2) (v := .ref (a 12)) (C := RX2) (T := TX2) (N := 18) hx hb hts hinX2 hown hK hP 0 hp_M_o rfl 12 (by decide) hf_34 (fun _ h9 => h9) rfl dX2_change_21 ?_
  refine lv_iload_n hx hb dX2_change_24 rfl (lv_at hl 1 rfl) ?_
  refine lv_iload_n hx hb dX2_change_25 rfl (lv_at hl 2 rfl) ?_
  refine hp_iast hx hb hK hP (hD _ _ _) hS 9 0 hp_M_12 rfl (k := i) (x := p1) (by omega) (by decide) dX2_change_26 (fun H_3 locs_3 hP1 _ hS1 => ?_)
  replace hP : va_P (dC, dI) vwCl (hp_M cI cZ o a (va_up v 2 ((v 2) + 1)) (hp_set (hp_set r 11 i ((v 2) + 1)) 12 i p1) n) H_3 := hp_cP hp_M_s12 hP1
  replace hS := hS1
  clear hP1 hS1
  have hP9 : va_P (dC, dI) vwCl (hp_M cI cZ o a (hp_rv v) (hp_chg r i (v 2 + 1) p1) n) H_3 := by exact hP
  exact W.vret hx hb hr (fun t ht hW => ⟨⟨(), rfl, trivial, hp_ht ht hP9⟩, hS.F ht⟩) hS.2.2 dX2_change_27
set_option maxHeartbeats 400000 in
set_option maxRecDepth 100000 in
theorem c_X2_clear (l : Launch) (dC : Nat → ClassId) (dI : Nat → Nat → Nat) (cI cZ cO cJ : ClassId) (o : Nat) (a : Nat → Nat) (v : Nat → Int32) (r : Nat → Nat → Int32) (n : Nat) (sz : Nat)  (p0 p1 p2 : Int32) : Met l yX2_clear wsX2_clear ({ frames := 2, cells := 0, slots := 0, locals := 42 }) (va_Pc [.ref o, .int p0, .int p1, .int p2] (hp_prm (dC, dI) cI cZ cO cJ (hp_M cI cZ o a v r n) sz)) (va_Qi (S := Unit) (fun x9 _ => x9 = hp_a_clear r p0 p1 p2) (fun _ t9 => va_P (dC, dI) vwCl (hp_M cI cZ o a (va_up v 0 (hp_c_clear p0 p1 p2)) (hp_r_clear r p0 p1 p2) n) t9.heap) (va_A (hp_M cI cZ o a v r n) sz)) 0 0 (va_A (hp_M cI cZ o a v r n) sz) := by
  refine Met.ofW (cc := cX2_clear) (maxL := 6) (ret := (some .int)) (by decide) rfl ?_
  intro p e s m args below meth c s₁ B hml hv
  obtain ⟨rfl, hsz, hP, hK, hD0⟩ := hv
  have hx := B.exec
  have hb := B.bytes
  have hr := B.returns
  have hts := atoms_spec (ws := wsX2_clear) B.pre
  have hown : s.vm.findClass RX2 = some m.cls := findClass_of_methodNamed B.named
  have hlocks := B.notSynchronized
  subst hsz
  have hD := hD0.self (sz := s.heap.size)
  generalize hAe : va_A (hp_M cI cZ o a v r n) s.heap.size = A at hD ⊢
  replace hD : ∀ v r n, va_D A (hp_M cI cZ o a v r n) := fun _ _ _ => hp_dM hD
  have hA : ∀ q : Nat, s.heap.size ≤ q → A q := fun q h => by rw [← hAe]; exact Or.inr h
  have hS : va_S A s.heap s.heap [] := va_S.rf
  have hf_40 := hts (.fieldLink RX2 40 "WallplanModel" "clearance" "[I") (by decide +kernel)
  have hinX2 : ∀ w ∈ wsX20, w ∈ wsX2_clear := by decide +kernel
  have hl := lv_entry ([.ref o, .int p0, .int p1, .int p2]) (n := 6) (Nat.le_of_ble_eq_true rfl)
  rw [lg_entry_eq]
  generalize (lg_sl ([.ref o, .int p0, .int p1, .int p2]) ++ List.replicate (6 - (lg_sl ([.ref o, .int p0, .int p1, .int p2])).length) Slot.unset).toArray = ls at hl ⊢
  have hl : lv_has ls 6 [(0, .ref o), (1, .int p0), (2, .int p1), (3, .int p2)] := hl
  refine hp_join 19 6 (fun x1 : Int32 => x1 = hp_b (hp_kd p0 && hp_kd p1)) (fun x1 => [(0, .ref o), (1, .int p0), (2, .int p1), (3, .int p2)]) (fun x1 => [.int x1]) (fun x1 hx_2 ls hl => ?_) (fun jn_2 => ?_)
  · skip
    subst hx_2
    refine lv_istore (lv' := [(4, .int (hp_b (hp_kd p0 && hp_kd p1))), (0, .ref o), (1, .int p0), (2, .int p1), (3, .int p2)]) hx hb dX2_clear_19 hl (by decide) rfl (fun ls hl => ?_)
    refine lv_aload_n hx hb dX2_clear_21 rfl (lv_at hl 1 rfl) ?_
    refine hp_join 45 6 (fun x3 : Int32 => x3 = hp_c_clear p0 p1 p2) (fun x3 => [(4, .int (hp_b (hp_kd p0 && hp_kd p1))), (0, .ref o), (1, .int p0), (2, .int p1), (3, .int p2)]) (fun x3 => [.int x3, .ref o]) (fun x3 hx_4 ls hl => ?_) (fun jn_4 => ?_)
    · skip
      subst hx_4
      have hFc := hp_free (hD v r n) hS hA
      refine va_calli (va_runV (As := [.int (hp_c_clear p0 p1 p2)]) (rest := []) ⟨hx, hb, hml, hown, hts⟩ (c_X2_refused l dC dI cI cZ cO cJ o a v r n s.heap.size (hp_c_clear p0 p1 p2)) (cwV 1 hts gX2_clear_X2_refused rfl rfl rfl (by decide +kernel) ⟨(Nat.le_of_ble_eq_true rfl), (Nat.le_of_ble_eq_true rfl)⟩) ⟨hp_mfb, va_recv hK hP (ci := 2) (q0 := 0) rfl hp_M_o, fun U hU hW => ⟨rfl, hp_mto hP hK (hD _ _ _) hU hW⟩⟩ rfl rfl hl.1 rfl (lv_room (Nat.le_of_ble_eq_true rfl)) dX2_clear_45 ⟨(Nat.zero_le _), (Nat.zero_le _)⟩) hS (fun q _ h => hFc q h) hFc (fun r_5 u_5 t_5 H_5 locs_5 ht _ hr_5 hB _ _ hS1 => ?_)
      replace hP : va_P (dC, dI) vwCl (hp_M cI cZ o a (va_up v 0 (hp_c_clear p0 p1 p2)) r n) H_5 := hp_th ht hB
      replace hS := hS1
      clear hS1 hB ht hFc
      subst hr_5
      refine lv_if_eq (tgt := 53) hx hb dX2_clear_48 (by decide) (fun c_6 => ?_) (fun c_6 => ?_)
      · skip
        have c_6 := hp_bz c_6
        have hc := hp_eq0 c_6
        obtain ⟨g1, g2, g3⟩ := hp_cd0 hc
        refine lv_aload_n hx hb dX2_clear_53 rfl (lv_at hl 1 rfl) ?_
        refine va_get (D := (dC, dI)) (ci := 2) (v := .ref (a 14)) (C := RX2) (T := TX2) (N := 18) hx hb hts hinX2 hown hK hP 0 hp_M_o rfl 14 (by decide) hf_40 (fun _ h9 => h9) rfl dX2_clear_54 ?_
        refine lv_iconst (v := 3) hx hb dX2_clear_57 (by decide) ?_
        refine lv_iload_n hx hb dX2_clear_58 rfl (lv_at hl 2 rfl) ?_
        refine lv_imul hx hb dX2_clear_59 ?_
        refine lv_iload_n hx hb dX2_clear_60 rfl (lv_at hl 3 rfl) ?_
        refine lv_iadd hx hb dX2_clear_61 ?_
        refine hp_ialdx (v := r 14 (((3 * p0) + p1).toNatClampNeg)) hx hb hK hP 11 0 hp_M_14 rfl (i := (3 * p0) + p1) (by exact hp_ci_in (hp_andl g1) (hp_andr g1)) rfl dX2_clear_62 ?_
        refine lv_istore (lv' := [(5, .int (r 14 (((3 * p0) + p1).toNatClampNeg))), (4, .int (hp_b (hp_kd p0 && hp_kd p1))), (0, .ref o), (1, .int p0), (2, .int p1), (3, .int p2)]) hx hb dX2_clear_63 hl (by decide) rfl (fun ls hl => ?_)
        refine lv_aload_n hx hb dX2_clear_65 rfl (lv_at hl 2 rfl) ?_
        refine va_get (D := (dC, dI)) (ci := 2) (v := .ref (a 14)) (C := RX2) (T := TX2) (N := 18) hx hb hts hinX2 hown hK hP 0 hp_M_o rfl 14 (by decide) hf_40 (fun _ h9 => h9) rfl dX2_clear_66 ?_
        refine lv_iconst (v := 3) hx hb dX2_clear_69 (by decide) ?_
        refine lv_iload_n hx hb dX2_clear_70 rfl (lv_at hl 3 rfl) ?_
        refine lv_imul hx hb dX2_clear_71 ?_
        refine lv_iload_n hx hb dX2_clear_72 rfl (lv_at hl 4 rfl) ?_
        refine lv_iadd hx hb dX2_clear_73 ?_
        refine lv_iload_n hx hb dX2_clear_74 rfl (lv_at hl 5 rfl) ?_
        refine va_iast hx hb hK hP (hD _ _ _) hS 11 0 hp_M_14 rfl (i := (3 * p0) + p1) (x := p2) (by exact hp_ci_in (hp_andl g1) (hp_andr g1)) dX2_clear_75 (fun H_7 locs_7 hP1 _ hS1 => ?_)
        replace hP : va_P (dC, dI) vwCl (hp_M cI cZ o a (va_up v 0 (hp_c_clear p0 p1 p2)) (hp_set r 14 (((3 * p0) + p1).toNatClampNeg) p2) n) H_7 := hp_cP hp_M_s14 hP1
        replace hS := hS1
        clear hP1 hS1
        refine lv_aload_n hx hb dX2_clear_76 rfl (lv_at hl 2 rfl) ?_
        refine va_get (D := (dC, dI)) (ci := 2) (v := .ref (a 14)) (C := RX2) (T := TX2) (N := 18) hx hb hts hinX2 hown hK hP 0 hp_M_o rfl 14 (by decide) hf_40 (fun _ h9 => h9) rfl dX2_clear_77 ?_
        refine lv_iconst (v := 3) hx hb dX2_clear_80 (by decide) ?_
        refine lv_iload_n hx hb dX2_clear_81 rfl (lv_at hl 4 rfl) ?_
        refine lv_imul hx hb dX2_clear_82 ?_
        refine lv_iload_n hx hb dX2_clear_83 rfl (lv_at hl 3 rfl) ?_
        refine lv_iadd hx hb dX2_clear_84 ?_
        refine lv_iload_n hx hb dX2_clear_85 rfl (lv_at hl 5 rfl) ?_
        refine va_iast hx hb hK hP (hD _ _ _) hS 11 0 hp_M_14 rfl (i := (3 * p1) + p0) (x := p2) (by exact hp_ci_in (hp_andr g1) (hp_andl g1)) dX2_clear_86 (fun H_8 locs_8 hP1 _ hS1 => ?_)
        replace hP : va_P (dC, dI) vwCl (hp_M cI cZ o a (va_up v 0 (hp_c_clear p0 p1 p2)) (hp_set (hp_set r 14 (((3 * p0) + p1).toNatClampNeg) p2) 14 (((3 * p1) + p0).toNatClampNeg) p2) n) H_8 := hp_cP hp_M_s14 hP1
        replace hS := hS1
        clear hP1 hS1
        refine lv_iload hx hb dX2_clear_87 (lv_at hl 0 rfl) ?_
        have hP9 : va_P (dC, dI) vwCl (hp_M cI cZ o a (va_up v 0 (hp_c_clear p0 p1 p2)) (hp_r_clear r p0 p1 p2) n) H_8 := by simp only [hp_r_clear, if_pos hc]; exact hP
        exact W.iret (v := r 14 (((3 * p0) + p1).toNatClampNeg)) hx hb hr (fun t ht hW => ⟨⟨r 14 (((3 * p0) + p1).toNatClampNeg), (), rfl, (by rw [hp_a_clear, if_pos hc]; rfl), hp_ht ht hP9⟩, hS.F ht⟩) hS.2.2 dX2_clear_89
      · skip
        have c_6 := hp_bn c_6
        have hc := hp_ne0 c_6
        refine lv_iconst (v := 0) hx hb dX2_clear_51 (by decide) ?_
        have hP9 : va_P (dC, dI) vwCl (hp_M cI cZ o a (va_up v 0 (hp_c_clear p0 p1 p2)) (hp_r_clear r p0 p1 p2) n) H_5 := by simp only [hp_r_clear, if_neg hc]; exact hP
        exact W.iret (v := 0) hx hb hr (fun t ht hW => ⟨⟨0, (), rfl, (by rw [hp_a_clear, if_neg hc]), hp_ht ht hP9⟩, hS.F ht⟩) hS.2.2 dX2_clear_52
    · skip
      refine lv_iload hx hb dX2_clear_22 (lv_at hl 0 rfl) ?_
      refine lv_if_ne (tgt := 31) hx hb dX2_clear_24 (by decide) (fun c_9 => ?_) (fun c_9 => ?_)
      · skip
        have c_9 := hp_bn c_9
        refine lv_iload_n hx hb dX2_clear_31 rfl (lv_at hl 4 rfl) ?_
        refine lv_iconst (v := 0) hx hb dX2_clear_32 (by decide) ?_
        refine lv_iconst (v := 3) hx hb dX2_clear_33 (by decide) ?_
        refine vp_callSi (W.runS (As := [.int p2, .int 0, .int 3]) (rest := [.ref o]) ⟨hx, hb, hml, hown, hts⟩ (c_X2_in l p2 0 3) (va_cwS 3 hts gX2_clear_X2_in rfl rfl rfl (by decide +kernel) ⟨(Nat.le_of_ble_eq_true rfl), (Nat.le_of_ble_eq_true rfl)⟩) ⟨hp_nfb, fun _ _ _ => ⟨rfl, trivial⟩⟩ rfl rfl hl.1 rfl (lv_room (Nat.le_of_ble_eq_true rfl)) dX2_clear_34 ⟨(Nat.zero_le _), (Nat.zero_le _)⟩) (fun r_10 hr_10 => ?_)
        subst hr_10
        refine lv_if_ne (tgt := 44) hx hb dX2_clear_37 (by decide) (fun c_11 => ?_) (fun c_11 => ?_)
        · skip
          have c_11 := hp_bn c_11
          refine lv_iconst (v := 0) hx hb dX2_clear_44 (by decide) ?_
          exact jn_4 0 (by exact hp_cdz (by (first | assumption | (simp [c_9, c_11]; done))) (by (first | assumption | (simp [c_9, c_11]; done))) (by (first | assumption | (simp [c_9, c_11]; done)))) _ (lv_sub hl [0, 1, 2, 3, 4] rfl)
        · skip
          have c_11 := hp_bz c_11
          refine lv_iconst (v := 2) hx hb dX2_clear_40 (by decide) ?_
          refine lv_goto (tgt := 45) hx hb dX2_clear_41 (by decide) ?_
          exact jn_4 2 (by exact hp_cd2 (by (first | assumption | (simp [c_9, c_11]; done))) (by (first | assumption | (simp [c_9, c_11]; done)))) _ (lv_sub hl [0, 1, 2, 3, 4] rfl)
      · skip
        have c_9 := hp_bz c_9
        refine lv_iconst (v := 1) hx hb dX2_clear_27 (by decide) ?_
        refine lv_goto (tgt := 45) hx hb dX2_clear_28 (by decide) ?_
        exact jn_4 1 (by exact hp_cd1 (by (first | assumption | (simp [c_9]; done)))) _ (lv_sub hl [0, 1, 2, 3, 4] rfl)
  · skip
    refine lv_iload_n hx hb dX2_clear_0 rfl (lv_at hl 1 rfl) ?_
    refine vp_callSi (W.runS (As := [.int p0]) (rest := []) ⟨hx, hb, hml, hown, hts⟩ (c_X2_isTrade l p0) (va_cwS 1 hts gX2_clear_X2_isTrade rfl rfl rfl (by decide +kernel) ⟨(Nat.le_of_ble_eq_true rfl), (Nat.le_of_ble_eq_true rfl)⟩) ⟨hp_nfb, fun _ _ _ => ⟨rfl, trivial⟩⟩ rfl rfl hl.1 rfl (lv_room (Nat.le_of_ble_eq_true rfl)) dX2_clear_1 ⟨(Nat.zero_le _), (Nat.zero_le _)⟩) (fun r_12 hr_12 => ?_)
    subst hr_12
    refine lv_if_eq (tgt := 18) hx hb dX2_clear_4 (by decide) (fun c_13 => ?_) (fun c_13 => ?_)
    · skip
      have c_13 := hp_bz c_13
      refine lv_iconst (v := 0) hx hb dX2_clear_18 (by decide) ?_
      exact jn_2 0 (by simp [hp_b, c_13]) _ (lv_sub hl [0, 1, 2, 3] rfl)
    · skip
      have c_13 := hp_bn c_13
      refine lv_iload_n hx hb dX2_clear_7 rfl (lv_at hl 2 rfl) ?_
      refine vp_callSi (W.runS (As := [.int p1]) (rest := []) ⟨hx, hb, hml, hown, hts⟩ (c_X2_isTrade l p1) (va_cwS 1 hts gX2_clear_X2_isTrade rfl rfl rfl (by decide +kernel) ⟨(Nat.le_of_ble_eq_true rfl), (Nat.le_of_ble_eq_true rfl)⟩) ⟨hp_nfb, fun _ _ _ => ⟨rfl, trivial⟩⟩ rfl rfl hl.1 rfl (lv_room (Nat.le_of_ble_eq_true rfl)) dX2_clear_8 ⟨(Nat.zero_le _), (Nat.zero_le _)⟩) (fun r_14 hr_14 => ?_)
      subst hr_14
      refine lv_if_eq (tgt := 18) hx hb dX2_clear_11 (by decide) (fun c_15 => ?_) (fun c_15 => ?_)
      · skip
        have c_15 := hp_bz c_15
        refine lv_iconst (v := 0) hx hb dX2_clear_18 (by decide) ?_
        exact jn_2 0 (by simp [hp_b, c_13, c_15]) _ (lv_sub hl [0, 1, 2, 3] rfl)
      · skip
        have c_15 := hp_bn c_15
        refine lv_iconst (v := 1) hx hb dX2_clear_14 (by decide) ?_
        refine lv_goto (tgt := 19) hx hb dX2_clear_15 (by decide) ?_
        exact jn_2 1 (by simp [hp_b, c_13, c_15]) _ (lv_sub hl [0, 1, 2, 3] rfl)
