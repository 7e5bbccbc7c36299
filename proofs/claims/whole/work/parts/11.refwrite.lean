/-! the reference: its methods that write -/
set_option maxHeartbeats 400000 in
set_option maxRecDepth 100000 in
theorem c_X2_thrown (l : Launch) (dC : Nat → ClassId) (dI : Nat → Nat → Nat) (cI cZ cO cJ : ClassId) (o : Nat) (a : Nat → Nat) (v : Nat → Int32) (r : Nat → Nat → Int32) (n : Nat)   : Met l yX2_thrown wsX2_thrown ({ frames := 0, cells := 0, slots := 0, locals := 0 }) (va_Pc [.ref o] (hp_pre (dC, dI) cI cZ cO cJ (hp_M cI cZ o a v r n))) (vp_Si (fun x9 => x9 = v 0)) 0 0 (fun _ => False) := by
  refine Met.ofW (cc := cX2_thrown) (maxL := 1) (ret := (some .int)) (by decide) rfl ?_
  intro p e s m args below meth c s₁ B hml hv
  obtain ⟨rfl, hP, hK⟩ := hv
  have hx := B.exec
  have hb := B.bytes
  have hr := B.returns
  have hts := atoms_spec (ws := wsX2_thrown) B.pre
  have hown : s.vm.findClass RX2 = some m.cls := findClass_of_methodNamed B.named
  have hlocks := B.notSynchronized
  have hf_53 := hts (.fieldLink RX2 53 "WallplanModel" "thrown" "I") (by decide +kernel)
  have hinX2 : ∀ w ∈ wsX20, w ∈ wsX2_thrown := by decide +kernel
  have hl := lv_entry ([.ref o]) (n := 1) (Nat.le_of_ble_eq_true rfl)
  rw [lg_entry_eq]
  generalize (lg_sl ([.ref o]) ++ List.replicate (1 - (lg_sl ([.ref o])).length) Slot.unset).toArray = ls at hl ⊢
  have hl : lv_has ls 1 [(0, .ref o)] := hl
  refine lv_aload_n hx hb dX2_thrown_0 rfl (lv_at hl 0 rfl) ?_
  refine va_get (D := (dC, dI)) (ci := 2) (v := .int (v 0)) (C := RX2) (T := TX2) (N := 18) hx hb hts hinX2 hown hK hP 0 hp_M_o rfl 0 (by decide) hf_53 (fun _ h9 => h9) rfl dX2_thrown_1 ?_
  exact W.iret (v := v 0) hx hb hr (fun t ht hW => ⟨_, rfl, (by rfl), ht⟩) (fun _ h => nomatch h) dX2_thrown_4
set_option maxHeartbeats 400000 in
set_option maxRecDepth 100000 in
theorem c_X2_refused (l : Launch) (dC : Nat → ClassId) (dI : Nat → Nat → Nat) (cI cZ cO cJ : ClassId) (o : Nat) (a : Nat → Nat) (v : Nat → Int32) (r : Nat → Nat → Int32) (n : Nat) (sz : Nat)  (p0 : Int32) : Met l yX2_refused wsX2_refused ({ frames := 0, cells := 0, slots := 0, locals := 0 }) (va_Pc [.ref o, .int p0] (hp_prm (dC, dI) cI cZ cO cJ (hp_M cI cZ o a v r n) sz)) (va_Qi (S := Unit) (fun x9 _ => x9 = hp_b (!(p0 == 0))) (fun _ t9 => va_P (dC, dI) vwCl (hp_M cI cZ o a (va_up v 0 p0) r n) t9.heap) (va_A (hp_M cI cZ o a v r n) sz)) 0 0 (va_A (hp_M cI cZ o a v r n) sz) := by
  refine Met.ofW (cc := cX2_refused) (maxL := 2) (ret := (some .boolean)) (by decide) rfl ?_
  intro p e s m args below meth c s₁ B hml hv
  obtain ⟨rfl, hsz, hP, hK, hD0⟩ := hv
  have hx := B.exec
  have hb := B.bytes
  have hr := B.returns
  have hts := atoms_spec (ws := wsX2_refused) B.pre
  have hown : s.vm.findClass RX2 = some m.cls := findClass_of_methodNamed B.named
  have hlocks := B.notSynchronized
  subst hsz
  have hD := hD0.self (sz := s.heap.size)
  generalize hAe : va_A (hp_M cI cZ o a v r n) s.heap.size = A at hD ⊢
  replace hD : ∀ v r n, va_D A (hp_M cI cZ o a v r n) := fun _ _ _ => hp_dM hD
  have hA : ∀ q : Nat, s.heap.size ≤ q → A q := fun q h => by rw [← hAe]; exact Or.inr h
  have hS : va_S A s.heap s.heap [] := va_S.rf
  have hf_53 := hts (.fieldLink RX2 53 "WallplanModel" "thrown" "I") (by decide +kernel)
  have hinX2 : ∀ w ∈ wsX20, w ∈ wsX2_refused := by decide +kernel
  have hl := lv_entry ([.ref o, .int p0]) (n := 2) (Nat.le_of_ble_eq_true rfl)
  rw [lg_entry_eq]
  generalize (lg_sl ([.ref o, .int p0]) ++ List.replicate (2 - (lg_sl ([.ref o, .int p0])).length) Slot.unset).toArray = ls at hl ⊢
  have hl : lv_has ls 2 [(0, .ref o), (1, .int p0)] := hl
  refine lv_aload_n hx hb dX2_refused_0 rfl (lv_at hl 0 rfl) ?_
  refine lv_iload_n hx hb dX2_refused_1 rfl (lv_at hl 1 rfl) ?_
  refine va_put (D := (dC, dI)) (ci := 2) (v := .int p0) (ty := .int) (C := RX2) (T := TX2) (N := 18) hx hb hts hinX2 tyX2 tyX2_ok nmX2 hown hK hP (hD _ _ _) hS 0 hp_M_o rfl 0 (by decide) hf_53 (fun _ h9 => h9) rfl (by decide +kernel) rfl rfl (Nat.le_of_ble_eq_true rfl) dX2_refused_2 (fun H_1 locs_1 hP1 _ hS1 => ?_)
  replace hP : va_P (dC, dI) vwCl (hp_M cI cZ o a (va_up v 0 p0) r n) H_1 := hp_cP hp_M_p0 hP1
  replace hS := hS1
  clear hP1 hS1
  refine lv_iload_n hx hb dX2_refused_5 rfl (lv_at hl 1 rfl) ?_
  refine lv_if_eq (tgt := 13) hx hb dX2_refused_6 (by decide) (fun c_2 => ?_) (fun c_2 => ?_)
  · skip
    refine lv_iconst (v := 0) hx hb dX2_refused_13 (by decide) ?_
    have hP9 : va_P (dC, dI) vwCl (hp_M cI cZ o a (va_up v 0 p0) r n) H_1 := by exact hP
    exact W.zret (ty := .boolean) (v := 0) hx hb hr rfl (fun t ht hW => ⟨⟨0, (), rfl, (by simp [hp_b, c_2]), hp_ht ht hP9⟩, hS.F ht⟩) hS.2.2 dX2_refused_14
  · skip
    refine lv_iconst (v := 1) hx hb dX2_refused_9 (by decide) ?_
    refine lv_goto (tgt := 14) hx hb dX2_refused_10 (by decide) ?_
    have hP9 : va_P (dC, dI) vwCl (hp_M cI cZ o a (va_up v 0 p0) r n) H_1 := by exact hP
    exact W.zret (ty := .boolean) (v := 1) hx hb hr rfl (fun t ht hW => ⟨⟨1, (), rfl, (by simp [hp_b, c_2]), hp_ht ht hP9⟩, hS.F ht⟩) hS.2.2 dX2_refused_14
set_option maxHeartbeats 400000 in
set_option maxRecDepth 100000 in
theorem c_X2_change (l : Launch) (dC : Nat → ClassId) (dI : Nat → Nat → Nat) (cI cZ cO cJ : ClassId) (o : Nat) (a : Nat → Nat) (v : Nat → Int32) (r : Nat → Nat → Int32) (n : Nat) (sz : Nat) (i : Nat) (x_i : Int32) (hx_i : x_i = nI i) (p1 : Int32) (hi : i < 40) : Met l yX2_change wsX2_change ({ frames := 0, cells := 0, slots := 0, locals := 0 }) (va_Pc [.ref o, .int x_i, .int p1] (hp_prm (dC, dI) cI cZ cO cJ (hp_M cI cZ o a v r n) sz)) (va_Qv (S := Unit) (fun _ => True) (fun _ t9 => va_P (dC, dI) vwCl (hp_M cI cZ o a (hp_rv v) (hp_chg r i (v 2 + 1) p1) n) t9.heap) (va_A (hp_M cI cZ o a v r n) sz)) 0 0 (va_A (hp_M cI cZ o a v r n) sz) := by
  refine Met.ofW (cc := cX2_change) (maxL := 3) (ret := none) (by decide) rfl ?_
  intro p e s m args below meth c s₁ B hml hv
  obtain ⟨rfl, hsz, hP, hK, hD0⟩ := hv
  have hx := B.exec
  have hb := B.bytes
  have hr := B.returns
  have hts := atoms_spec (ws := wsX2_change) B.pre
  have hown : s.vm.findClass RX2 = some m.cls := findClass_of_methodNamed B.named
  have hlocks := B.notSynchronized
  subst hx_i
  subst hsz
  have hD := hD0.self (sz := s.heap.size)
  generalize hAe : va_A (hp_M cI cZ o a v r n) s.heap.size = A at hD ⊢
  replace hD : ∀ v r n, va_D A (hp_M cI cZ o a v r n) := fun _ _ _ => hp_dM hD
  have hA : ∀ q : Nat, s.heap.size ≤ q → A q := fun q h => by rw [← hAe]; exact Or.inr h
  have hS : va_S A s.heap s.heap [] := va_S.rf
  have hf_31 := hts (.fieldLink RX2 31 "WallplanModel" "changed" "[I") (by decide +kernel)
  have hf_34 := hts (.fieldLink RX2 34 "WallplanModel" "by" "[I") (by decide +kernel)
  have hf_64 := hts (.fieldLink RX2 64 "WallplanModel" "revision" "I") (by decide +kernel)
  have hinX2 : ∀ w ∈ wsX20, w ∈ wsX2_change := by decide +kernel
  have hl := lv_entry ([.ref o, .int (nI i), .int p1]) (n := 3) (Nat.le_of_ble_eq_true rfl)
  rw [lg_entry_eq]
  generalize (lg_sl ([.ref o, .int (nI i), .int p1]) ++ List.replicate (3 - (lg_sl ([.ref o, .int (nI i), .int p1])).length) Slot.unset).toArray = ls at hl ⊢
  have hl : lv_has ls 3 [(0, .ref o), (1, .int (nI i)), (2, .int p1)] := hl
  refine lv_aload_n hx hb dX2_change_0 rfl (lv_at hl 0 rfl) ?_
  refine lv_dup hx hb dX2_change_1 rfl ?_
  refine va_get (D := (dC, dI)) (ci := 2) (v := .int (v 2)) (C := RX2) (T := TX2) (N := 18) hx hb hts hinX2 hown hK hP 0 hp_M_o rfl 2 (by decide) hf_64 (fun _ h9 => h9) rfl dX2_change_2 ?_
  refine lv_iconst (v := 1) hx hb dX2_change_5 (by decide) ?_
  refine lv_iadd hx hb dX2_change_6 ?_
  refine va_put (D := (dC, dI)) (ci := 2) (v := .int ((v 2) + 1)) (ty := .int) (C := RX2) (T := TX2) (N := 18) hx hb hts hinX2 tyX2 tyX2_ok nmX2 hown hK hP (hD _ _ _) hS 0 hp_M_o rfl 2 (by decide) hf_64 (fun _ h9 => h9) rfl (by decide +kernel) rfl rfl (Nat.le_of_ble_eq_true rfl) dX2_change_7 (fun H_1 locs_1 hP1 _ hS1 => ?_)
  replace hP : va_P (dC, dI) vwCl (hp_M cI cZ o a (va_up v 2 ((v 2) + 1)) r n) H_1 := hp_cP hp_M_p2 hP1
  replace hS := hS1
  clear hP1 hS1
  refine lv_aload_n hx hb dX2_change_10 rfl (lv_at hl 0 rfl) ?_
  refine va_get (D := (dC, dI)) (ci := 2) (v := .ref (a 11)) (C := RX2) (T := TX2) (N := 18) hx hb hts hinX2 hown hK hP 0 hp_M_o rfl 11 (by decide) hf_31 (fun _ h9 => h9) rfl dX2_change_11 ?_
  refine lv_iload_n hx hb dX2_change_14 rfl (lv_at hl 1 rfl) ?_
  refine lv_aload_n hx hb dX2_change_15 rfl (lv_at hl 0 rfl) ?_
  refine va_get (D := (dC, dI)) (ci := 2) (v := .int ((v 2) + 1)) (C := RX2) (T := TX2) (N := 18) hx hb hts hinX2 hown hK hP 0 hp_M_o rfl 2 (by decide) hf_64 (fun _ h9 => h9) rfl dX2_change_16 ?_
  refine hp_iast hx hb hK hP (hD _ _ _) hS 8 0 hp_M_11 rfl (k := i) (x := (v 2) + 1) (by omega) (by decide) dX2_change_19 (fun H_2 locs_2 hP1 _ hS1 => ?_)
  replace hP : va_P (dC, dI) vwCl (hp_M cI cZ o a (va_up v 2 ((v 2) + 1)) (hp_set r 11 i ((v 2) + 1)) n) H_2 := hp_cP hp_M_s11 hP1
  replace hS := hS1
  clear hP1 hS1
  refine lv_aload_n hx hb dX2_change_20 rfl (lv_at hl 0 rfl) ?_
  refine va_get (D := (dC, dI)) (ci := 2) (v := .ref (a 12)) (C := RX2) (T := TX2) (N := 18) hx hb hts hinX2 hown hK hP 0 hp_M_o rfl 12 (by decide) hf_34 (fun _ h9 => h9) rfl dX2_change_21 ?_
  refine lv_iload_n hx hb dX2_change_24 rfl (lv_at hl 1 rfl) ?_
  refine lv_iload_n hx hb dX2_change_25 rfl (lv_at hl 2 rfl) ?_
  refine hp_iast hx hb hK hP (hD _ _ _) hS 9 0 hp_M_12 rfl (k := i) (x := p1) (by omega) (by decide) dX2_change_26 (fun H_3 locs_3 hP1 _ hS1 => ?_)
  replace hP : va_P (dC, dI) vwCl (hp_M cI cZ o a (va_up v 2 ((v 2) + 1)) (hp_set (hp_set r 11 i ((v 2) + 1)) 12 i p1) n) H_3 := hp_cP hp_M_s12 hP1
  replace hS := hS1
  clear hP1 hS1
  have hP9 : va_P (dC, dI) vwCl (hp_M cI cZ o a (hp_rv v) (hp_chg r i (v 2 + 1) p1) n) H_3 := by exact hP
  exact W.vret hx hb hr (fun t ht hW => ⟨⟨(), rfl, trivial, hp_ht ht hP9⟩, hS.F ht⟩) hS.2.2 dX2_change_27
set_option maxHeartbeats 400000 in
set_option maxRecDepth 100000 in
theorem c_X2_add (l : Launch) (dC : Nat → ClassId) (dI : Nat → Nat → Nat) (cI cZ cO cJ : ClassId) (o : Nat) (a : Nat → Nat) (v : Nat → Int32) (r : Nat → Nat → Int32) (n : Nat) (sz : Nat)  (p0 p1 p2 p3 p4 p5 : Int32) (hinv : hp_inv v r n) : Met l yX2_add wsX2_add ({ frames := 2, cells := 0, slots := 0, locals := 42 }) (va_Pc [.ref o, .int p0, .int p1, .int p2, .int p3, .int p4, .int p5] (hp_prm (dC, dI) cI cZ cO cJ (hp_M cI cZ o a v r n) sz)) (va_Qi (S := Unit) (fun x9 _ => x9 = hp_a_add r n p0 p1 p2 p3 p4 p5) (fun _ t9 => va_P (dC, dI) vwCl (hp_M cI cZ o a (va_up (hp_v_add v r n p0 p1 p2 p3 p4 p5) 0 (hp_c_add r n p0 p1 p2 p3 p4 p5)) (hp_r_add v r n p0 p1 p2 p3 p4 p5) (hp_n_add r n p0 p1 p2 p3 p4 p5)) t9.heap) (va_A (hp_M cI cZ o a v r n) sz)) 0 0 (va_A (hp_M cI cZ o a v r n) sz) := by
  refine Met.ofW (cc := cX2_add) (maxL := 9) (ret := (some .int)) (by decide) rfl ?_
  intro p e s m args below meth c s₁ B hml hv
  obtain ⟨rfl, hsz, hP, hK, hD0⟩ := hv
  have hx := B.exec
  have hb := B.bytes
  have hr := B.returns
  have hts := atoms_spec (ws := wsX2_add) B.pre
  have hown : s.vm.findClass RX2 = some m.cls := findClass_of_methodNamed B.named
  have hlocks := B.notSynchronized
  subst hsz
  have hD := hD0.self (sz := s.heap.size)
  generalize hAe : va_A (hp_M cI cZ o a v r n) s.heap.size = A at hD ⊢
  replace hD : ∀ v r n, va_D A (hp_M cI cZ o a v r n) := fun _ _ _ => hp_dM hD
  have hA : ∀ q : Nat, s.heap.size ≤ q → A q := fun q h => by rw [← hAe]; exact Or.inr h
  have hS : va_S A s.heap s.heap [] := va_S.rf
  have hf_7 := hts (.fieldLink RX2 7 "WallplanModel" "kind" "[I") (by decide +kernel)
  have hf_13 := hts (.fieldLink RX2 13 "WallplanModel" "storey" "[I") (by decide +kernel)
  have hf_16 := hts (.fieldLink RX2 16 "WallplanModel" "fromX" "[I") (by decide +kernel)
  have hf_19 := hts (.fieldLink RX2 19 "WallplanModel" "fromY" "[I") (by decide +kernel)
  have hf_22 := hts (.fieldLink RX2 22 "WallplanModel" "toX" "[I") (by decide +kernel)
  have hf_25 := hts (.fieldLink RX2 25 "WallplanModel" "toY" "[I") (by decide +kernel)
  have hf_49 := hts (.fieldLink RX2 49 "WallplanModel" "locks" "[Z") (by decide +kernel)
  have hf_61 := hts (.fieldLink RX2 61 "WallplanModel" "elements" "I") (by decide +kernel)
  have hinX2 : ∀ w ∈ wsX20, w ∈ wsX2_add := by decide +kernel
  have hl := lv_entry ([.ref o, .int p0, .int p1, .int p2, .int p3, .int p4, .int p5]) (n := 9) (Nat.le_of_ble_eq_true rfl)
  rw [lg_entry_eq]
  generalize (lg_sl ([.ref o, .int p0, .int p1, .int p2, .int p3, .int p4, .int p5]) ++ List.replicate (9 - (lg_sl ([.ref o, .int p0, .int p1, .int p2, .int p3, .int p4, .int p5])).length) Slot.unset).toArray = ls at hl ⊢
  have hl : lv_has ls 9 [(0, .ref o), (1, .int p0), (2, .int p1), (3, .int p2), (4, .int p3), (5, .int p4), (6, .int p5)] := hl
  have hn := hinv.1
  refine hp_join 19 9 (fun x1 : Int32 => x1 = hp_b (hp_kd p0 && hp_st p1)) (fun x1 => [(0, .ref o), (1, .int p0), (2, .int p1), (3, .int p2), (4, .int p3), (5, .int p4), (6, .int p5)]) (fun x1 => [.int x1]) (fun x1 hx_2 ls hl => ?_) (fun jn_2 => ?_)
  · skip
    subst hx_2
    refine lv_istore (lv' := [(7, .int (hp_b (hp_kd p0 && hp_st p1))), (0, .ref o), (1, .int p0), (2, .int p1), (3, .int p2), (4, .int p3), (5, .int p4), (6, .int p5)]) hx hb dX2_add_19 hl (by decide) rfl (fun ls hl => ?_)
    refine hp_join 70 9 (fun x3 : Int32 => x3 = hp_b (hp_si p2 && hp_si p3 && hp_si p4 && hp_si p5 && (p2 == p4 || p3 == p5))) (fun x3 => [(7, .int (hp_b (hp_kd p0 && hp_st p1))), (0, .ref o), (1, .int p0), (2, .int p1), (3, .int p2), (4, .int p3), (5, .int p4), (6, .int p5)]) (fun x3 => [.int x3]) (fun x3 hx_4 ls hl => ?_) (fun jn_4 => ?_)
    · skip
      subst hx_4
      refine lv_istore (lv' := [(8, .int (hp_b (hp_si p2 && hp_si p3 && hp_si p4 && hp_si p5 && (p2 == p4 || p3 == p5)))), (7, .int (hp_b (hp_kd p0 && hp_st p1))), (0, .ref o), (1, .int p0), (2, .int p1), (3, .int p2), (4, .int p3), (5, .int p4), (6, .int p5)]) hx hb dX2_add_70 hl (by decide) rfl (fun ls hl => ?_)
      refine lv_aload_n hx hb dX2_add_72 rfl (lv_at hl 2 rfl) ?_
      refine hp_join 114 9 (fun x5 : Int32 => x5 = hp_c_add r n p0 p1 p2 p3 p4 p5) (fun x5 => [(8, .int (hp_b (hp_si p2 && hp_si p3 && hp_si p4 && hp_si p5 && (p2 == p4 || p3 == p5)))), (7, .int (hp_b (hp_kd p0 && hp_st p1))), (0, .ref o), (1, .int p0), (2, .int p1), (3, .int p2), (4, .int p3), (5, .int p4), (6, .int p5)]) (fun x5 => [.int x5, .ref o]) (fun x5 hx_6 ls hl => ?_) (fun jn_6 => ?_)
      · skip
        subst hx_6
        have hFc := hp_free (hD v r n) hS hA
        refine va_calli (va_runV (As := [.int (hp_c_add r n p0 p1 p2 p3 p4 p5)]) (rest := []) ⟨hx, hb, hml, hown, hts⟩ (c_X2_refused l dC dI cI cZ cO cJ o a v r n s.heap.size (hp_c_add r n p0 p1 p2 p3 p4 p5)) (cwV 1 hts gX2_add_X2_refused rfl rfl rfl (by decide +kernel) ⟨(Nat.le_of_ble_eq_true rfl), (Nat.le_of_ble_eq_true rfl)⟩) ⟨hp_mfb, va_recv hK hP (ci := 2) (q0 := 0) rfl hp_M_o, fun U hU hW => ⟨rfl, hp_mto hP hK (hD _ _ _) hU hW⟩⟩ rfl rfl hl.1 rfl (lv_room (Nat.le_of_ble_eq_true rfl)) dX2_add_114 ⟨(Nat.zero_le _), (Nat.zero_le _)⟩) hS (fun q _ h => hFc q h) hFc (fun r_7 u_7 t_7 H_7 locs_7 ht _ hr_7 hB _ _ hS1 => ?_)
        replace hP : va_P (dC, dI) vwCl (hp_M cI cZ o a (va_up v 0 (hp_c_add r n p0 p1 p2 p3 p4 p5)) r n) H_7 := hp_th ht hB
        replace hS := hS1
        clear hS1 hB ht hFc
        subst hr_7
        refine lv_if_eq (tgt := 122) hx hb dX2_add_117 (by decide) (fun c_8 => ?_) (fun c_8 => ?_)
        · skip
          have c_8 := hp_bz c_8
          have hc := hp_eq0 c_8
          obtain ⟨g1, g2, g3⟩ := hp_cd0 hc
          have hn40 := hp_lt40 hn (hp_andr g3)
          refine lv_aload_n hx hb dX2_add_122 rfl (lv_at hl 2 rfl) ?_
          refine va_get (D := (dC, dI)) (ci := 2) (v := .ref (a 4)) (C := RX2) (T := TX2) (N := 18) hx hb hts hinX2 hown hK hP 0 hp_M_o rfl 4 (by decide) hf_7 (fun _ h9 => h9) rfl dX2_add_123 ?_
          refine lv_aload_n hx hb dX2_add_126 rfl (lv_at hl 2 rfl) ?_
          refine va_get (D := (dC, dI)) (ci := 2) (v := .int (nI n)) (C := RX2) (T := TX2) (N := 18) hx hb hts hinX2 hown hK hP 0 hp_M_o rfl 3 (by decide) hf_61 (fun _ h9 => h9) rfl dX2_add_127 ?_
          refine lv_iload_n hx hb dX2_add_130 rfl (lv_at hl 3 rfl) ?_
          refine hp_iast hx hb hK hP (hD _ _ _) hS 1 0 hp_M_4 rfl (k := n) (x := p0) (by omega) (by decide) dX2_add_131 (fun H_9 locs_9 hP1 _ hS1 => ?_)
          replace hP : va_P (dC, dI) vwCl (hp_M cI cZ o a (va_up v 0 (hp_c_add r n p0 p1 p2 p3 p4 p5)) (hp_set r 4 n p0) n) H_9 := hp_cP hp_M_s4 hP1
          replace hS := hS1
          clear hP1 hS1
          refine lv_aload_n hx hb dX2_add_132 rfl (lv_at hl 2 rfl) ?_
          refine va_get (D := (dC, dI)) (ci := 2) (v := .ref (a 5)) (C := RX2) (T := TX2) (N := 18) hx hb hts hinX2 hown hK hP 0 hp_M_o rfl 5 (by decide) hf_13 (fun _ h9 => h9) rfl dX2_add_133 ?_
          refine lv_aload_n hx hb dX2_add_136 rfl (lv_at hl 2 rfl) ?_
          refine va_get (D := (dC, dI)) (ci := 2) (v := .int (nI n)) (C := RX2) (T := TX2) (N := 18) hx hb hts hinX2 hown hK hP 0 hp_M_o rfl 3 (by decide) hf_61 (fun _ h9 => h9) rfl dX2_add_137 ?_
          refine lv_iload_n hx hb dX2_add_140 rfl (lv_at hl 4 rfl) ?_
          refine hp_iast hx hb hK hP (hD _ _ _) hS 2 0 hp_M_5 rfl (k := n) (x := p1) (by omega) (by decide) dX2_add_141 (fun H_10 locs_10 hP1 _ hS1 => ?_)
          replace hP : va_P (dC, dI) vwCl (hp_M cI cZ o a (va_up v 0 (hp_c_add r n p0 p1 p2 p3 p4 p5)) (hp_set (hp_set r 4 n p0) 5 n p1) n) H_10 := hp_cP hp_M_s5 hP1
          replace hS := hS1
          clear hP1 hS1
          refine lv_aload_n hx hb dX2_add_142 rfl (lv_at hl 2 rfl) ?_
          refine va_get (D := (dC, dI)) (ci := 2) (v := .ref (a 6)) (C := RX2) (T := TX2) (N := 18) hx hb hts hinX2 hown hK hP 0 hp_M_o rfl 6 (by decide) hf_16 (fun _ h9 => h9) rfl dX2_add_143 ?_
          refine lv_aload_n hx hb dX2_add_146 rfl (lv_at hl 2 rfl) ?_
          refine va_get (D := (dC, dI)) (ci := 2) (v := .int (nI n)) (C := RX2) (T := TX2) (N := 18) hx hb hts hinX2 hown hK hP 0 hp_M_o rfl 3 (by decide) hf_61 (fun _ h9 => h9) rfl dX2_add_147 ?_
          refine lv_iload_n hx hb dX2_add_150 rfl (lv_at hl 5 rfl) ?_
          refine hp_iast hx hb hK hP (hD _ _ _) hS 3 0 hp_M_6 rfl (k := n) (x := p2) (by omega) (by decide) dX2_add_151 (fun H_11 locs_11 hP1 _ hS1 => ?_)
          replace hP : va_P (dC, dI) vwCl (hp_M cI cZ o a (va_up v 0 (hp_c_add r n p0 p1 p2 p3 p4 p5)) (hp_set (hp_set (hp_set r 4 n p0) 5 n p1) 6 n p2) n) H_11 := hp_cP hp_M_s6 hP1
          replace hS := hS1
          clear hP1 hS1
          refine lv_aload_n hx hb dX2_add_152 rfl (lv_at hl 2 rfl) ?_
          refine va_get (D := (dC, dI)) (ci := 2) (v := .ref (a 7)) (C := RX2) (T := TX2) (N := 18) hx hb hts hinX2 hown hK hP 0 hp_M_o rfl 7 (by decide) hf_19 (fun _ h9 => h9) rfl dX2_add_153 ?_
          refine lv_aload_n hx hb dX2_add_156 rfl (lv_at hl 2 rfl) ?_
          refine va_get (D := (dC, dI)) (ci := 2) (v := .int (nI n)) (C := RX2) (T := TX2) (N := 18) hx hb hts hinX2 hown hK hP 0 hp_M_o rfl 3 (by decide) hf_61 (fun _ h9 => h9) rfl dX2_add_157 ?_
          refine lv_iload hx hb dX2_add_160 (lv_at hl 6 rfl) ?_
          refine hp_iast hx hb hK hP (hD _ _ _) hS 4 0 hp_M_7 rfl (k := n) (x := p3) (by omega) (by decide) dX2_add_162 (fun H_12 locs_12 hP1 _ hS1 => ?_)
          replace hP : va_P (dC, dI) vwCl (hp_M cI cZ o a (va_up v 0 (hp_c_add r n p0 p1 p2 p3 p4 p5)) (hp_set (hp_set (hp_set (hp_set r 4 n p0) 5 n p1) 6 n p2) 7 n p3) n) H_12 := hp_cP hp_M_s7 hP1
          replace hS := hS1
          clear hP1 hS1
          refine lv_aload_n hx hb dX2_add_163 rfl (lv_at hl 2 rfl) ?_
          refine va_get (D := (dC, dI)) (ci := 2) (v := .ref (a 8)) (C := RX2) (T := TX2) (N := 18) hx hb hts hinX2 hown hK hP 0 hp_M_o rfl 8 (by decide) hf_22 (fun _ h9 => h9) rfl dX2_add_164 ?_
          refine lv_aload_n hx hb dX2_add_167 rfl (lv_at hl 2 rfl) ?_
          refine va_get (D := (dC, dI)) (ci := 2) (v := .int (nI n)) (C := RX2) (T := TX2) (N := 18) hx hb hts hinX2 hown hK hP 0 hp_M_o rfl 3 (by decide) hf_61 (fun _ h9 => h9) rfl dX2_add_168 ?_
          refine lv_iload hx hb dX2_add_171 (lv_at hl 7 rfl) ?_
          refine hp_iast hx hb hK hP (hD _ _ _) hS 5 0 hp_M_8 rfl (k := n) (x := p4) (by omega) (by decide) dX2_add_173 (fun H_13 locs_13 hP1 _ hS1 => ?_)
          replace hP : va_P (dC, dI) vwCl (hp_M cI cZ o a (va_up v 0 (hp_c_add r n p0 p1 p2 p3 p4 p5)) (hp_set (hp_set (hp_set (hp_set (hp_set r 4 n p0) 5 n p1) 6 n p2) 7 n p3) 8 n p4) n) H_13 := hp_cP hp_M_s8 hP1
          replace hS := hS1
          clear hP1 hS1
          refine lv_aload_n hx hb dX2_add_174 rfl (lv_at hl 2 rfl) ?_
          refine va_get (D := (dC, dI)) (ci := 2) (v := .ref (a 9)) (C := RX2) (T := TX2) (N := 18) hx hb hts hinX2 hown hK hP 0 hp_M_o rfl 9 (by decide) hf_25 (fun _ h9 => h9) rfl dX2_add_175 ?_
          refine lv_aload_n hx hb dX2_add_178 rfl (lv_at hl 2 rfl) ?_
          refine va_get (D := (dC, dI)) (ci := 2) (v := .int (nI n)) (C := RX2) (T := TX2) (N := 18) hx hb hts hinX2 hown hK hP 0 hp_M_o rfl 3 (by decide) hf_61 (fun _ h9 => h9) rfl dX2_add_179 ?_
          refine lv_iload hx hb dX2_add_182 (lv_at hl 8 rfl) ?_
          refine hp_iast hx hb hK hP (hD _ _ _) hS 6 0 hp_M_9 rfl (k := n) (x := p5) (by omega) (by decide) dX2_add_184 (fun H_14 locs_14 hP1 _ hS1 => ?_)
          replace hP : va_P (dC, dI) vwCl (hp_M cI cZ o a (va_up v 0 (hp_c_add r n p0 p1 p2 p3 p4 p5)) (hp_set (hp_set (hp_set (hp_set (hp_set (hp_set r 4 n p0) 5 n p1) 6 n p2) 7 n p3) 8 n p4) 9 n p5) n) H_14 := hp_cP hp_M_s9 hP1
          replace hS := hS1
          clear hP1 hS1
          refine lv_aload_n hx hb dX2_add_185 rfl (lv_at hl 2 rfl) ?_
          refine lv_dup hx hb dX2_add_186 rfl ?_
          refine va_get (D := (dC, dI)) (ci := 2) (v := .int (nI n)) (C := RX2) (T := TX2) (N := 18) hx hb hts hinX2 hown hK hP 0 hp_M_o rfl 3 (by decide) hf_61 (fun _ h9 => h9) rfl dX2_add_187 ?_
          refine lv_iconst (v := 1) hx hb dX2_add_190 (by decide) ?_
          refine lv_iadd hx hb dX2_add_191 ?_
          refine hp_top (nI_1 _) ?_
          refine va_put (D := (dC, dI)) (ci := 2) (v := .int (nI (n + 1))) (ty := .int) (C := RX2) (T := TX2) (N := 18) hx hb hts hinX2 tyX2 tyX2_ok nmX2 hown hK hP (hD _ _ _) hS 0 hp_M_o rfl 3 (by decide) hf_61 (fun _ h9 => h9) rfl (by decide +kernel) rfl rfl (Nat.le_of_ble_eq_true rfl) dX2_add_192 (fun H_15 locs_15 hP1 _ hS1 => ?_)
          replace hP : va_P (dC, dI) vwCl (hp_M cI cZ o a (va_up v 0 (hp_c_add r n p0 p1 p2 p3 p4 p5)) (hp_set (hp_set (hp_set (hp_set (hp_set (hp_set r 4 n p0) 5 n p1) 6 n p2) 7 n p3) 8 n p4) 9 n p5) (n + 1)) H_15 := hp_cP hp_M_p3 hP1
          replace hS := hS1
          clear hP1 hS1
          refine lv_aload_n hx hb dX2_add_195 rfl (lv_at hl 2 rfl) ?_
          refine lv_aload_n hx hb dX2_add_196 rfl (lv_at hl 2 rfl) ?_
          refine va_get (D := (dC, dI)) (ci := 2) (v := .int (nI (n + 1))) (C := RX2) (T := TX2) (N := 18) hx hb hts hinX2 hown hK hP 0 hp_M_o rfl 3 (by decide) hf_61 (fun _ h9 => h9) rfl dX2_add_197 ?_
          refine lv_iconst (v := 1) hx hb dX2_add_200 (by decide) ?_
          refine lv_isub hx hb dX2_add_201 ?_
          refine hp_top (nI_pred _) ?_
          refine lv_iload_n hx hb dX2_add_202 rfl (lv_at hl 3 rfl) ?_
          have hFc := hp_free (hD (va_up v 0 (hp_c_add r n p0 p1 p2 p3 p4 p5)) (hp_set (hp_set (hp_set (hp_set (hp_set (hp_set r 4 n p0) 5 n p1) 6 n p2) 7 n p3) 8 n p4) 9 n p5) (n + 1)) hS hA
          refine va_callv (va_runV (As := [.int (nI n), .int p0]) (rest := []) ⟨hx, hb, hml, hown, hts⟩ (c_X2_change l dC dI cI cZ cO cJ o a (va_up v 0 (hp_c_add r n p0 p1 p2 p3 p4 p5)) (hp_set (hp_set (hp_set (hp_set (hp_set (hp_set r 4 n p0) 5 n p1) 6 n p2) 7 n p3) 8 n p4) 9 n p5) (n + 1) H_15.size n (nI n) rfl p0 (by have := hn40; omega)) (cwV 2 hts gX2_add_X2_change rfl rfl rfl (by decide +kernel) ⟨(Nat.le_of_ble_eq_true rfl), (Nat.le_of_ble_eq_true rfl)⟩) ⟨hp_mfb, va_recv hK hP (ci := 2) (q0 := 0) rfl hp_M_o, fun U hU hW => ⟨rfl, hp_mto hP hK (hD _ _ _) hU hW⟩⟩ rfl rfl hl.1 rfl (lv_room (Nat.le_of_ble_eq_true rfl)) dX2_add_203 ⟨(Nat.zero_le _), (Nat.zero_le _)⟩) hS (fun q _ h => hFc q h) hFc (fun u_16 t_16 H_16 locs_16 ht _ hr_16 hB _ _ hS1 => ?_)
          replace hP : va_P (dC, dI) vwCl (hp_M cI cZ o a (hp_rv (va_up v 0 (hp_c_add r n p0 p1 p2 p3 p4 p5))) (hp_chg (hp_set (hp_set (hp_set (hp_set (hp_set (hp_set r 4 n p0) 5 n p1) 6 n p2) 7 n p3) 8 n p4) 9 n p5) n ((v 2) + 1) p0) (n + 1)) H_16 := hp_th ht hB
          replace hS := hS1
          clear hS1 hB ht hFc
          refine lv_aload_n hx hb dX2_add_206 rfl (lv_at hl 2 rfl) ?_
          refine va_get (D := (dC, dI)) (ci := 2) (v := .int (nI (n + 1))) (C := RX2) (T := TX2) (N := 18) hx hb hts hinX2 hown hK hP 0 hp_M_o rfl 3 (by decide) hf_61 (fun _ h9 => h9) rfl dX2_add_207 ?_
          refine lv_iconst (v := 1) hx hb dX2_add_210 (by decide) ?_
          refine lv_isub hx hb dX2_add_211 ?_
          refine hp_top (nI_pred _) ?_
          have hP9 : va_P (dC, dI) vwCl (hp_M cI cZ o a (va_up (hp_v_add v r n p0 p1 p2 p3 p4 p5) 0 (hp_c_add r n p0 p1 p2 p3 p4 p5)) (hp_r_add v r n p0 p1 p2 p3 p4 p5) (hp_n_add r n p0 p1 p2 p3 p4 p5)) H_16 := by simp only [hp_v_add, hp_r_add, hp_n_add, if_pos hc, ← hp_up_rv]; exact hP
          exact W.iret (v := nI n) hx hb hr (fun t ht hW => ⟨⟨nI n, (), rfl, (by rw [hp_a_add, if_pos hc]), hp_ht ht hP9⟩, hS.F ht⟩) hS.2.2 dX2_add_212
        · skip
          have c_8 := hp_bn c_8
          have hc := hp_ne0 c_8
          refine lv_iconst (v := 0) hx hb dX2_add_120 (by decide) ?_
          have hP9 : va_P (dC, dI) vwCl (hp_M cI cZ o a (va_up (hp_v_add v r n p0 p1 p2 p3 p4 p5) 0 (hp_c_add r n p0 p1 p2 p3 p4 p5)) (hp_r_add v r n p0 p1 p2 p3 p4 p5) (hp_n_add r n p0 p1 p2 p3 p4 p5)) H_7 := by simp only [hp_v_add, hp_r_add, hp_n_add, if_neg hc]; exact hP
          exact W.iret (v := 0) hx hb hr (fun t ht hW => ⟨⟨0, (), rfl, (by rw [hp_a_add, if_neg hc]), hp_ht ht hP9⟩, hS.F ht⟩) hS.2.2 dX2_add_121
      · skip
        refine lv_iload hx hb dX2_add_73 (lv_at hl 1 rfl) ?_
        refine lv_if_ne (tgt := 82) hx hb dX2_add_75 (by decide) (fun c_17 => ?_) (fun c_17 => ?_)
        · skip
          have c_17 := hp_bn c_17
          have xf := hp_st_ix (hp_andr c_17)
          refine lv_iload hx hb dX2_add_82 (lv_at hl 0 rfl) ?_
          refine lv_if_ne (tgt := 91) hx hb dX2_add_84 (by decide) (fun c_18 => ?_) (fun c_18 => ?_)
          · skip
            have c_18 := hp_bn c_18
            refine lv_aload_n hx hb dX2_add_91 rfl (lv_at hl 2 rfl) ?_
            refine va_get (D := (dC, dI)) (ci := 2) (v := .ref (a 17)) (C := RX2) (T := TX2) (N := 18) hx hb hts hinX2 hown hK hP 0 hp_M_o rfl 17 (by decide) hf_49 (fun _ h9 => h9) rfl dX2_add_92 ?_
            refine lv_iload_n hx hb dX2_add_95 rfl (lv_at hl 4 rfl) ?_
            refine hp_zaldx (v := r 17 p1.toNatClampNeg) hx hb hK hP 14 1 hp_M_17 rfl (i := p1) (hp_vin xf (by decide) (by decide)) rfl dX2_add_96 ?_
            refine lv_if_ne (tgt := 109) hx hb dX2_add_97 (by decide) (fun c_19 => ?_) (fun c_19 => ?_)
            · skip
              refine lv_iconst (v := 3) hx hb dX2_add_109 (by decide) ?_
              refine lv_goto (tgt := 114) hx hb dX2_add_110 (by decide) ?_
              exact jn_6 3 (by exact hp_cd3 (by (first | assumption | (simp [c_17, c_18, c_19]; done))) (by (first | assumption | (simp [c_17, c_18, c_19]; done))) (by (first | assumption | (simp [c_17, c_18, c_19]; done)))) _ (lv_sub hl [0, 1, 2, 3, 4, 5, 6, 7, 8] rfl)
            · skip
              refine lv_aload_n hx hb dX2_add_100 rfl (lv_at hl 2 rfl) ?_
              refine va_get (D := (dC, dI)) (ci := 2) (v := .int (nI n)) (C := RX2) (T := TX2) (N := 18) hx hb hts hinX2 hown hK hP 0 hp_M_o rfl 3 (by decide) hf_61 (fun _ h9 => h9) rfl dX2_add_101 ?_
              refine lv_bipush (v := 40) hx hb dX2_add_104 (by decide) ?_
              refine lv_icmp_ne (tgt := 113) hx hb dX2_add_106 (by decide) (fun c_20 => ?_) (fun c_20 => ?_)
              · skip
                refine lv_iconst (v := 0) hx hb dX2_add_113 (by decide) ?_
                exact jn_6 0 (by exact hp_cdz (by (first | assumption | (simp [c_17, c_18, c_19, c_20]; done))) (by (first | assumption | (simp [c_17, c_18, c_19, c_20]; done))) (by (first | assumption | (simp [c_17, c_18, c_19, c_20]; done)))) _ (lv_sub hl [0, 1, 2, 3, 4, 5, 6, 7, 8] rfl)
              · skip
                refine lv_iconst (v := 3) hx hb dX2_add_109 (by decide) ?_
                refine lv_goto (tgt := 114) hx hb dX2_add_110 (by decide) ?_
                exact jn_6 3 (by exact hp_cd3 (by (first | assumption | (simp [c_17, c_18, c_19, c_20]; done))) (by (first | assumption | (simp [c_17, c_18, c_19, c_20]; done))) (by (first | assumption | (simp [c_17, c_18, c_19, c_20]; done)))) _ (lv_sub hl [0, 1, 2, 3, 4, 5, 6, 7, 8] rfl)
          · skip
            have c_18 := hp_bz c_18
            refine lv_iconst (v := 2) hx hb dX2_add_87 (by decide) ?_
            refine lv_goto (tgt := 114) hx hb dX2_add_88 (by decide) ?_
            exact jn_6 2 (by exact hp_cd2 (by (first | assumption | (simp [c_17, c_18]; done))) (by (first | assumption | (simp [c_17, c_18]; done)))) _ (lv_sub hl [0, 1, 2, 3, 4, 5, 6, 7, 8] rfl)
        · skip
          have c_17 := hp_bz c_17
          refine lv_iconst (v := 1) hx hb dX2_add_78 (by decide) ?_
          refine lv_goto (tgt := 114) hx hb dX2_add_79 (by decide) ?_
          exact jn_6 1 (by exact hp_cd1 (by (first | assumption | (simp [c_17]; done)))) _ (lv_sub hl [0, 1, 2, 3, 4, 5, 6, 7, 8] rfl)
    · skip
      refine lv_iload_n hx hb dX2_add_21 rfl (lv_at hl 4 rfl) ?_
      refine vp_callSi (W.runS (As := [.int p2]) (rest := []) ⟨hx, hb, hml, hown, hts⟩ (c_X2_isSide l p2) (va_cwS 1 hts gX2_add_X2_isSide rfl rfl rfl (by decide +kernel) ⟨(Nat.le_of_ble_eq_true rfl), (Nat.le_of_ble_eq_true rfl)⟩) ⟨hp_nfb, fun _ _ _ => ⟨rfl, trivial⟩⟩ rfl rfl hl.1 rfl (lv_room (Nat.le_of_ble_eq_true rfl)) dX2_add_22 ⟨(Nat.zero_le _), (Nat.zero_le _)⟩) (fun r_21 hr_21 => ?_)
      subst hr_21
      refine lv_if_eq (tgt := 69) hx hb dX2_add_25 (by decide) (fun c_22 => ?_) (fun c_22 => ?_)
      · skip
        have c_22 := hp_bz c_22
        refine lv_iconst (v := 0) hx hb dX2_add_69 (by decide) ?_
        exact jn_4 0 (by simp [hp_b, c_22]) _ (lv_sub hl [0, 1, 2, 3, 4, 5, 6, 7] rfl)
      · skip
        have c_22 := hp_bn c_22
        refine lv_iload hx hb dX2_add_28 (lv_at hl 5 rfl) ?_
        refine vp_callSi (W.runS (As := [.int p3]) (rest := []) ⟨hx, hb, hml, hown, hts⟩ (c_X2_isSide l p3) (va_cwS 1 hts gX2_add_X2_isSide rfl rfl rfl (by decide +kernel) ⟨(Nat.le_of_ble_eq_true rfl), (Nat.le_of_ble_eq_true rfl)⟩) ⟨hp_nfb, fun _ _ _ => ⟨rfl, trivial⟩⟩ rfl rfl hl.1 rfl (lv_room (Nat.le_of_ble_eq_true rfl)) dX2_add_30 ⟨(Nat.zero_le _), (Nat.zero_le _)⟩) (fun r_23 hr_23 => ?_)
        subst hr_23
        refine lv_if_eq (tgt := 69) hx hb dX2_add_33 (by decide) (fun c_24 => ?_) (fun c_24 => ?_)
        · skip
          have c_24 := hp_bz c_24
          refine lv_iconst (v := 0) hx hb dX2_add_69 (by decide) ?_
          exact jn_4 0 (by simp [hp_b, c_22, c_24]) _ (lv_sub hl [0, 1, 2, 3, 4, 5, 6, 7] rfl)
        · skip
          have c_24 := hp_bn c_24
          refine lv_iload hx hb dX2_add_36 (lv_at hl 6 rfl) ?_
          refine vp_callSi (W.runS (As := [.int p4]) (rest := []) ⟨hx, hb, hml, hown, hts⟩ (c_X2_isSide l p4) (va_cwS 1 hts gX2_add_X2_isSide rfl rfl rfl (by decide +kernel) ⟨(Nat.le_of_ble_eq_true rfl), (Nat.le_of_ble_eq_true rfl)⟩) ⟨hp_nfb, fun _ _ _ => ⟨rfl, trivial⟩⟩ rfl rfl hl.1 rfl (lv_room (Nat.le_of_ble_eq_true rfl)) dX2_add_38 ⟨(Nat.zero_le _), (Nat.zero_le _)⟩) (fun r_25 hr_25 => ?_)
          subst hr_25
          refine lv_if_eq (tgt := 69) hx hb dX2_add_41 (by decide) (fun c_26 => ?_) (fun c_26 => ?_)
          · skip
            have c_26 := hp_bz c_26
            refine lv_iconst (v := 0) hx hb dX2_add_69 (by decide) ?_
            exact jn_4 0 (by simp [hp_b, c_22, c_24, c_26]) _ (lv_sub hl [0, 1, 2, 3, 4, 5, 6, 7] rfl)
          · skip
            have c_26 := hp_bn c_26
            refine lv_iload hx hb dX2_add_44 (lv_at hl 7 rfl) ?_
            refine vp_callSi (W.runS (As := [.int p5]) (rest := []) ⟨hx, hb, hml, hown, hts⟩ (c_X2_isSide l p5) (va_cwS 1 hts gX2_add_X2_isSide rfl rfl rfl (by decide +kernel) ⟨(Nat.le_of_ble_eq_true rfl), (Nat.le_of_ble_eq_true rfl)⟩) ⟨hp_nfb, fun _ _ _ => ⟨rfl, trivial⟩⟩ rfl rfl hl.1 rfl (lv_room (Nat.le_of_ble_eq_true rfl)) dX2_add_46 ⟨(Nat.zero_le _), (Nat.zero_le _)⟩) (fun r_27 hr_27 => ?_)
            subst hr_27
            refine lv_if_eq (tgt := 69) hx hb dX2_add_49 (by decide) (fun c_28 => ?_) (fun c_28 => ?_)
            · skip
              have c_28 := hp_bz c_28
              refine lv_iconst (v := 0) hx hb dX2_add_69 (by decide) ?_
              exact jn_4 0 (by simp [hp_b, c_22, c_24, c_26, c_28]) _ (lv_sub hl [0, 1, 2, 3, 4, 5, 6, 7] rfl)
            · skip
              have c_28 := hp_bn c_28
              refine lv_iload_n hx hb dX2_add_52 rfl (lv_at hl 4 rfl) ?_
              refine lv_iload hx hb dX2_add_53 (lv_at hl 6 rfl) ?_
              refine lv_icmp_eq (tgt := 65) hx hb dX2_add_55 (by decide) (fun c_29 => ?_) (fun c_29 => ?_)
              · skip
                refine lv_iconst (v := 1) hx hb dX2_add_65 (by decide) ?_
                refine lv_goto (tgt := 70) hx hb dX2_add_66 (by decide) ?_
                exact jn_4 1 (by simp [hp_b, c_22, c_24, c_26, c_28, c_29]) _ (lv_sub hl [0, 1, 2, 3, 4, 5, 6, 7] rfl)
              · skip
                refine lv_iload hx hb dX2_add_58 (lv_at hl 5 rfl) ?_
                refine lv_iload hx hb dX2_add_60 (lv_at hl 7 rfl) ?_
                refine lv_icmp_ne (tgt := 69) hx hb dX2_add_62 (by decide) (fun c_30 => ?_) (fun c_30 => ?_)
                · skip
                  refine lv_iconst (v := 0) hx hb dX2_add_69 (by decide) ?_
                  exact jn_4 0 (by simp [hp_b, c_22, c_24, c_26, c_28, c_29, c_30]) _ (lv_sub hl [0, 1, 2, 3, 4, 5, 6, 7] rfl)
                · skip
                  refine lv_iconst (v := 1) hx hb dX2_add_65 (by decide) ?_
                  refine lv_goto (tgt := 70) hx hb dX2_add_66 (by decide) ?_
                  exact jn_4 1 (by simp [hp_b, c_22, c_24, c_26, c_28, c_29, c_30]) _ (lv_sub hl [0, 1, 2, 3, 4, 5, 6, 7] rfl)
  · skip
    refine lv_iload_n hx hb dX2_add_0 rfl (lv_at hl 1 rfl) ?_
    refine vp_callSi (W.runS (As := [.int p0]) (rest := []) ⟨hx, hb, hml, hown, hts⟩ (c_X2_isTrade l p0) (va_cwS 1 hts gX2_add_X2_isTrade rfl rfl rfl (by decide +kernel) ⟨(Nat.le_of_ble_eq_true rfl), (Nat.le_of_ble_eq_true rfl)⟩) ⟨hp_nfb, fun _ _ _ => ⟨rfl, trivial⟩⟩ rfl rfl hl.1 rfl (lv_room (Nat.le_of_ble_eq_true rfl)) dX2_add_1 ⟨(Nat.zero_le _), (Nat.zero_le _)⟩) (fun r_31 hr_31 => ?_)
    subst hr_31
    refine lv_if_eq (tgt := 18) hx hb dX2_add_4 (by decide) (fun c_32 => ?_) (fun c_32 => ?_)
    · skip
      have c_32 := hp_bz c_32
      refine lv_iconst (v := 0) hx hb dX2_add_18 (by decide) ?_
      exact jn_2 0 (by simp [hp_b, c_32]) _ (lv_sub hl [0, 1, 2, 3, 4, 5, 6] rfl)
    · skip
      have c_32 := hp_bn c_32
      refine lv_iload_n hx hb dX2_add_7 rfl (lv_at hl 2 rfl) ?_
      refine vp_callSi (W.runS (As := [.int p1]) (rest := []) ⟨hx, hb, hml, hown, hts⟩ (c_X2_isStorey l p1) (va_cwS 1 hts gX2_add_X2_isStorey rfl rfl rfl (by decide +kernel) ⟨(Nat.le_of_ble_eq_true rfl), (Nat.le_of_ble_eq_true rfl)⟩) ⟨hp_nfb, fun _ _ _ => ⟨rfl, trivial⟩⟩ rfl rfl hl.1 rfl (lv_room (Nat.le_of_ble_eq_true rfl)) dX2_add_8 ⟨(Nat.zero_le _), (Nat.zero_le _)⟩) (fun r_33 hr_33 => ?_)
      subst hr_33
      refine lv_if_eq (tgt := 18) hx hb dX2_add_11 (by decide) (fun c_34 => ?_) (fun c_34 => ?_)
      · skip
        have c_34 := hp_bz c_34
        refine lv_iconst (v := 0) hx hb dX2_add_18 (by decide) ?_
        exact jn_2 0 (by simp [hp_b, c_32, c_34]) _ (lv_sub hl [0, 1, 2, 3, 4, 5, 6] rfl)
      · skip
        have c_34 := hp_bn c_34
        refine lv_iconst (v := 1) hx hb dX2_add_14 (by decide) ?_
        refine lv_goto (tgt := 19) hx hb dX2_add_15 (by decide) ?_
        exact jn_2 1 (by simp [hp_b, c_32, c_34]) _ (lv_sub hl [0, 1, 2, 3, 4, 5, 6] rfl)
set_option maxHeartbeats 400000 in
set_option maxRecDepth 100000 in
theorem c_X2_move (l : Launch) (dC : Nat → ClassId) (dI : Nat → Nat → Nat) (cI cZ cO cJ : ClassId) (o : Nat) (a : Nat → Nat) (v : Nat → Int32) (r : Nat → Nat → Int32) (n : Nat) (sz : Nat)  (p0 p1 p2 p3 p4 : Int32) (hinv : hp_inv v r n) : Met l yX2_move wsX2_move ({ frames := 2, cells := 0, slots := 0, locals := 43 }) (va_Pc [.ref o, .int p0, .int p1, .int p2, .int p3, .int p4] (hp_prm (dC, dI) cI cZ cO cJ (hp_M cI cZ o a v r n) sz)) (va_Qi (S := Unit) (fun x9 _ => x9 = hp_b (hp_b_move v r n p0 p1 p2 p3 p4)) (fun _ t9 => va_P (dC, dI) vwCl (hp_M cI cZ o a (va_up (hp_v_move v r n p0 p1 p2 p3 p4) 0 (hp_c_move v r n p0 p1 p2 p3 p4)) (hp_r_move v r n p0 p1 p2 p3 p4) n) t9.heap) (va_A (hp_M cI cZ o a v r n) sz)) 0 0 (va_A (hp_M cI cZ o a v r n) sz) := by
  refine Met.ofW (cc := cX2_move) (maxL := 8) (ret := (some .boolean)) (by decide) rfl ?_
  intro p e s m args below meth c s₁ B hml hv
  obtain ⟨rfl, hsz, hP, hK, hD0⟩ := hv
  have hx := B.exec
  have hb := B.bytes
  have hr := B.returns
  have hts := atoms_spec (ws := wsX2_move) B.pre
  have hown : s.vm.findClass RX2 = some m.cls := findClass_of_methodNamed B.named
  have hlocks := B.notSynchronized
  subst hsz
  have hD := hD0.self (sz := s.heap.size)
  generalize hAe : va_A (hp_M cI cZ o a v r n) s.heap.size = A at hD ⊢
  replace hD : ∀ v r n, va_D A (hp_M cI cZ o a v r n) := fun _ _ _ => hp_dM hD
  have hA : ∀ q : Nat, s.heap.size ≤ q → A q := fun q h => by rw [← hAe]; exact Or.inr h
  have hS : va_S A s.heap s.heap [] := va_S.rf
  have hf_16 := hts (.fieldLink RX2 16 "WallplanModel" "fromX" "[I") (by decide +kernel)
  have hf_19 := hts (.fieldLink RX2 19 "WallplanModel" "fromY" "[I") (by decide +kernel)
  have hf_22 := hts (.fieldLink RX2 22 "WallplanModel" "toX" "[I") (by decide +kernel)
  have hf_25 := hts (.fieldLink RX2 25 "WallplanModel" "toY" "[I") (by decide +kernel)
  have hf_28 := hts (.fieldLink RX2 28 "WallplanModel" "state" "[I") (by decide +kernel)
  have hf_64 := hts (.fieldLink RX2 64 "WallplanModel" "revision" "I") (by decide +kernel)
  have hinX2 : ∀ w ∈ wsX20, w ∈ wsX2_move := by decide +kernel
  have hl := lv_entry ([.ref o, .int p0, .int p1, .int p2, .int p3, .int p4]) (n := 8) (Nat.le_of_ble_eq_true rfl)
  rw [lg_entry_eq]
  generalize (lg_sl ([.ref o, .int p0, .int p1, .int p2, .int p3, .int p4]) ++ List.replicate (8 - (lg_sl ([.ref o, .int p0, .int p1, .int p2, .int p3, .int p4])).length) Slot.unset).toArray = ls at hl ⊢
  have hl : lv_has ls 8 [(0, .ref o), (1, .int p0), (2, .int p1), (3, .int p2), (4, .int p3), (5, .int p4)] := hl
  have hn := hinv.1
  refine hp_join 20 8 (fun x1 : Int32 => x1 = hp_b (hp_kd p0 && hp_el n p2)) (fun x1 => [(0, .ref o), (1, .int p0), (2, .int p1), (3, .int p2), (4, .int p3), (5, .int p4)]) (fun x1 => [.int x1]) (fun x1 hx_2 ls hl => ?_) (fun jn_2 => ?_)
  · skip
    subst hx_2
    refine lv_istore (lv' := [(6, .int (hp_b (hp_kd p0 && hp_el n p2))), (0, .ref o), (1, .int p0), (2, .int p1), (3, .int p2), (4, .int p3), (5, .int p4)]) hx hb dX2_move_20 hl (by decide) rfl (fun ls hl => ?_)
    refine hp_join 68 8 (fun x3 : Int32 => x3 = hp_b ((hp_kd p0 && hp_el n p2) && (hp_in p1 0 (v 2) && hp_in p3 (-11) 11 && hp_in p4 (-11) 11))) (fun x3 => [(6, .int (hp_b (hp_kd p0 && hp_el n p2))), (0, .ref o), (1, .int p0), (2, .int p1), (3, .int p2), (4, .int p3), (5, .int p4)]) (fun x3 => [.int x3]) (fun x3 hx_4 ls hl => ?_) (fun jn_4 => ?_)
    · skip
      subst hx_4
      refine lv_istore (lv' := [(7, .int (hp_b ((hp_kd p0 && hp_el n p2) && (hp_in p1 0 (v 2) && hp_in p3 (-11) 11 && hp_in p4 (-11) 11)))), (6, .int (hp_b (hp_kd p0 && hp_el n p2))), (0, .ref o), (1, .int p0), (2, .int p1), (3, .int p2), (4, .int p3), (5, .int p4)]) hx hb dX2_move_68 hl (by decide) rfl (fun ls hl => ?_)
      refine hp_join 140 8 (fun x5 : Int32 => x5 = hp_b ((hp_kd p0 && hp_el n p2) && (hp_in p1 0 (v 2) && hp_in p3 (-11) 11 && hp_in p4 (-11) 11 && hp_si (r 6 p2.toNatClampNeg + p3) && hp_si (r 8 p2.toNatClampNeg + p3) && hp_si (r 7 p2.toNatClampNeg + p4) && hp_si (r 9 p2.toNatClampNeg + p4)))) (fun x5 => [(7, .int (hp_b ((hp_kd p0 && hp_el n p2) && (hp_in p1 0 (v 2) && hp_in p3 (-11) 11 && hp_in p4 (-11) 11)))), (6, .int (hp_b (hp_kd p0 && hp_el n p2))), (0, .ref o), (1, .int p0), (2, .int p1), (3, .int p2), (4, .int p3), (5, .int p4)]) (fun x5 => [.int x5]) (fun x5 hx_6 ls hl => ?_) (fun jn_6 => ?_)
      · skip
        subst hx_6
        refine lv_istore (lv' := [(7, .int (hp_b ((hp_kd p0 && hp_el n p2) && (hp_in p1 0 (v 2) && hp_in p3 (-11) 11 && hp_in p4 (-11) 11 && hp_si (r 6 p2.toNatClampNeg + p3) && hp_si (r 8 p2.toNatClampNeg + p3) && hp_si (r 7 p2.toNatClampNeg + p4) && hp_si (r 9 p2.toNatClampNeg + p4))))), (6, .int (hp_b (hp_kd p0 && hp_el n p2))), (0, .ref o), (1, .int p0), (2, .int p1), (3, .int p2), (4, .int p3), (5, .int p4)]) hx hb dX2_move_140 hl (by decide) rfl (fun ls hl => ?_)
        refine lv_aload_n hx hb dX2_move_142 rfl (lv_at hl 2 rfl) ?_
        refine hp_join 175 8 (fun x7 : Int32 => x7 = hp_c_move v r n p0 p1 p2 p3 p4) (fun x7 => [(7, .int (hp_b ((hp_kd p0 && hp_el n p2) && (hp_in p1 0 (v 2) && hp_in p3 (-11) 11 && hp_in p4 (-11) 11 && hp_si (r 6 p2.toNatClampNeg + p3) && hp_si (r 8 p2.toNatClampNeg + p3) && hp_si (r 7 p2.toNatClampNeg + p4) && hp_si (r 9 p2.toNatClampNeg + p4))))), (6, .int (hp_b (hp_kd p0 && hp_el n p2))), (0, .ref o), (1, .int p0), (2, .int p1), (3, .int p2), (4, .int p3), (5, .int p4)]) (fun x7 => [.int x7, .ref o]) (fun x7 hx_8 ls hl => ?_) (fun jn_8 => ?_)
        · skip
          subst hx_8
          have hFc := hp_free (hD v r n) hS hA
          refine va_calli (va_runV (As := [.int (hp_c_move v r n p0 p1 p2 p3 p4)]) (rest := []) ⟨hx, hb, hml, hown, hts⟩ (c_X2_refused l dC dI cI cZ cO cJ o a v r n s.heap.size (hp_c_move v r n p0 p1 p2 p3 p4)) (cwV 1 hts gX2_move_X2_refused rfl rfl rfl (by decide +kernel) ⟨(Nat.le_of_ble_eq_true rfl), (Nat.le_of_ble_eq_true rfl)⟩) ⟨hp_mfb, va_recv hK hP (ci := 2) (q0 := 0) rfl hp_M_o, fun U hU hW => ⟨rfl, hp_mto hP hK (hD _ _ _) hU hW⟩⟩ rfl rfl hl.1 rfl (lv_room (Nat.le_of_ble_eq_true rfl)) dX2_move_175 ⟨(Nat.zero_le _), (Nat.zero_le _)⟩) hS (fun q _ h => hFc q h) hFc (fun r_9 u_9 t_9 H_9 locs_9 ht _ hr_9 hB _ _ hS1 => ?_)
          replace hP : va_P (dC, dI) vwCl (hp_M cI cZ o a (va_up v 0 (hp_c_move v r n p0 p1 p2 p3 p4)) r n) H_9 := hp_th ht hB
          replace hS := hS1
          clear hS1 hB ht hFc
          subst hr_9
          refine lv_if_ne (tgt := 191) hx hb dX2_move_178 (by decide) (fun c_10 => ?_) (fun c_10 => ?_)
          · skip
            have c_10 := hp_bn c_10
            have hc := hp_ne0 c_10
            refine lv_iconst (v := 0) hx hb dX2_move_191 (by decide) ?_
            have hP9 : va_P (dC, dI) vwCl (hp_M cI cZ o a (va_up (hp_v_move v r n p0 p1 p2 p3 p4) 0 (hp_c_move v r n p0 p1 p2 p3 p4)) (hp_r_move v r n p0 p1 p2 p3 p4) n) H_9 := by have hb9 : ¬ hp_b_move v r n p0 p1 p2 p3 p4 = true := (by simp [hp_b_move, c_10, hc]); simp only [hp_v_move, hp_r_move, if_neg hb9]; exact hP
            exact W.zret (ty := .boolean) (v := 0) hx hb hr rfl (fun t ht hW => ⟨⟨0, (), rfl, (by exact hp_bf2 (by simp [hp_b_move, c_10, hc])), hp_ht ht hP9⟩, hS.F ht⟩) hS.2.2 dX2_move_192
          · skip
            have c_10 := hp_bz c_10
            have hc := hp_eq0 c_10
            obtain ⟨g1, g2, g3⟩ := hp_cd0 hc
            have xp := hp_el_ix hn (hp_andr g1)
            refine lv_aload_n hx hb dX2_move_181 rfl (lv_at hl 2 rfl) ?_
            refine lv_iload_n hx hb dX2_move_182 rfl (lv_at hl 3 rfl) ?_
            refine lv_iload_n hx hb dX2_move_183 rfl (lv_at hl 4 rfl) ?_
            refine lv_iload_n hx hb dX2_move_184 rfl (lv_at hl 5 rfl) ?_
            refine vp_callSi (W.runV (As := [.int p0, .int p1, .int p2]) (rest := []) ⟨hx, hb, hml, hown, hts⟩ (c_X2_isTaken l dC dI cI cZ cO cJ o a (va_up v 0 (hp_c_move v r n p0 p1 p2 p3 p4)) r n p2.toNatClampNeg p2 (xp.1) p0 p1 (by omega)) (cwV 3 hts gX2_move_X2_isTaken rfl rfl rfl (by decide +kernel) ⟨(Nat.le_of_ble_eq_true rfl), (Nat.le_of_ble_eq_true rfl)⟩) ⟨hp_fb, va_recv hK hP (ci := 2) (q0 := 0) rfl hp_M_o, fun U hU hW => ⟨rfl, hp_to hP hK hU hW⟩⟩ rfl rfl hl.1 rfl (lv_room (Nat.le_of_ble_eq_true rfl)) dX2_move_185 ⟨(Nat.zero_le _), (Nat.zero_le _)⟩) (fun r_11 hr_11 => ?_)
            subst hr_11
            refine lv_if_ne (tgt := 193) hx hb dX2_move_188 (by decide) (fun c_12 => ?_) (fun c_12 => ?_)
            · skip
              have c_12 := hp_bn c_12
              have hk9 : hp_tk r p0 p1 p2.toNatClampNeg = true := c_12
              refine lv_aload_n hx hb dX2_move_193 rfl (lv_at hl 2 rfl) ?_
              refine va_get (D := (dC, dI)) (ci := 2) (v := .ref (a 6)) (C := RX2) (T := TX2) (N := 18) hx hb hts hinX2 hown hK hP 0 hp_M_o rfl 6 (by decide) hf_16 (fun _ h9 => h9) rfl dX2_move_194 ?_
              refine lv_iload_n hx hb dX2_move_197 rfl (lv_at hl 5 rfl) ?_
              refine lv_dup2_11 hx hb dX2_move_198 rfl rfl ?_
              refine hp_ialdx (v := r 6 p2.toNatClampNeg) hx hb hK hP 3 0 hp_M_6 rfl (i := p2) (hp_vin xp hn (by decide)) rfl dX2_move_199 ?_
              refine lv_iload hx hb dX2_move_200 (lv_at hl 6 rfl) ?_
              refine lv_iadd hx hb dX2_move_202 ?_
              refine va_iast hx hb hK hP (hD _ _ _) hS 3 0 hp_M_6 rfl (i := p2) (x := (r 6 p2.toNatClampNeg) + p3) (hp_vin xp hn (by decide)) dX2_move_203 (fun H_13 locs_13 hP1 _ hS1 => ?_)
              replace hP : va_P (dC, dI) vwCl (hp_M cI cZ o a (va_up v 0 (hp_c_move v r n p0 p1 p2 p3 p4)) (hp_set r 6 p2.toNatClampNeg ((r 6 p2.toNatClampNeg) + p3)) n) H_13 := hp_cP hp_M_s6 hP1
              replace hS := hS1
              clear hP1 hS1
              refine lv_aload_n hx hb dX2_move_204 rfl (lv_at hl 2 rfl) ?_
              refine va_get (D := (dC, dI)) (ci := 2) (v := .ref (a 8)) (C := RX2) (T := TX2) (N := 18) hx hb hts hinX2 hown hK hP 0 hp_M_o rfl 8 (by decide) hf_22 (fun _ h9 => h9) rfl dX2_move_205 ?_
              refine lv_iload_n hx hb dX2_move_208 rfl (lv_at hl 5 rfl) ?_
              refine lv_dup2_11 hx hb dX2_move_209 rfl rfl ?_
              refine hp_ialdx (v := r 8 p2.toNatClampNeg) hx hb hK hP 5 0 hp_M_8 rfl (i := p2) (hp_vin xp hn (by decide)) rfl dX2_move_210 ?_
              refine lv_iload hx hb dX2_move_211 (lv_at hl 6 rfl) ?_
              refine lv_iadd hx hb dX2_move_213 ?_
              refine va_iast hx hb hK hP (hD _ _ _) hS 5 0 hp_M_8 rfl (i := p2) (x := (r 8 p2.toNatClampNeg) + p3) (hp_vin xp hn (by decide)) dX2_move_214 (fun H_14 locs_14 hP1 _ hS1 => ?_)
              replace hP : va_P (dC, dI) vwCl (hp_M cI cZ o a (va_up v 0 (hp_c_move v r n p0 p1 p2 p3 p4)) (hp_set (hp_set r 6 p2.toNatClampNeg ((r 6 p2.toNatClampNeg) + p3)) 8 p2.toNatClampNeg ((r 8 p2.toNatClampNeg) + p3)) n) H_14 := hp_cP hp_M_s8 hP1
              replace hS := hS1
              clear hP1 hS1
              refine lv_aload_n hx hb dX2_move_215 rfl (lv_at hl 2 rfl) ?_
              refine va_get (D := (dC, dI)) (ci := 2) (v := .ref (a 7)) (C := RX2) (T := TX2) (N := 18) hx hb hts hinX2 hown hK hP 0 hp_M_o rfl 7 (by decide) hf_19 (fun _ h9 => h9) rfl dX2_move_216 ?_
              refine lv_iload_n hx hb dX2_move_219 rfl (lv_at hl 5 rfl) ?_
              refine lv_dup2_11 hx hb dX2_move_220 rfl rfl ?_
              refine hp_ialdx (v := r 7 p2.toNatClampNeg) hx hb hK hP 4 0 hp_M_7 rfl (i := p2) (hp_vin xp hn (by decide)) rfl dX2_move_221 ?_
              refine lv_iload hx hb dX2_move_222 (lv_at hl 7 rfl) ?_
              refine lv_iadd hx hb dX2_move_224 ?_
              refine va_iast hx hb hK hP (hD _ _ _) hS 4 0 hp_M_7 rfl (i := p2) (x := (r 7 p2.toNatClampNeg) + p4) (hp_vin xp hn (by decide)) dX2_move_225 (fun H_15 locs_15 hP1 _ hS1 => ?_)
              replace hP : va_P (dC, dI) vwCl (hp_M cI cZ o a (va_up v 0 (hp_c_move v r n p0 p1 p2 p3 p4)) (hp_set (hp_set (hp_set r 6 p2.toNatClampNeg ((r 6 p2.toNatClampNeg) + p3)) 8 p2.toNatClampNeg ((r 8 p2.toNatClampNeg) + p3)) 7 p2.toNatClampNeg ((r 7 p2.toNatClampNeg) + p4)) n) H_15 := hp_cP hp_M_s7 hP1
              replace hS := hS1
              clear hP1 hS1
              refine lv_aload_n hx hb dX2_move_226 rfl (lv_at hl 2 rfl) ?_
              refine va_get (D := (dC, dI)) (ci := 2) (v := .ref (a 9)) (C := RX2) (T := TX2) (N := 18) hx hb hts hinX2 hown hK hP 0 hp_M_o rfl 9 (by decide) hf_25 (fun _ h9 => h9) rfl dX2_move_227 ?_
              refine lv_iload_n hx hb dX2_move_230 rfl (lv_at hl 5 rfl) ?_
              refine lv_dup2_11 hx hb dX2_move_231 rfl rfl ?_
              refine hp_ialdx (v := r 9 p2.toNatClampNeg) hx hb hK hP 6 0 hp_M_9 rfl (i := p2) (hp_vin xp hn (by decide)) rfl dX2_move_232 ?_
              refine lv_iload hx hb dX2_move_233 (lv_at hl 7 rfl) ?_
              refine lv_iadd hx hb dX2_move_235 ?_
              refine va_iast hx hb hK hP (hD _ _ _) hS 6 0 hp_M_9 rfl (i := p2) (x := (r 9 p2.toNatClampNeg) + p4) (hp_vin xp hn (by decide)) dX2_move_236 (fun H_16 locs_16 hP1 _ hS1 => ?_)
              replace hP : va_P (dC, dI) vwCl (hp_M cI cZ o a (va_up v 0 (hp_c_move v r n p0 p1 p2 p3 p4)) (hp_set (hp_set (hp_set (hp_set r 6 p2.toNatClampNeg ((r 6 p2.toNatClampNeg) + p3)) 8 p2.toNatClampNeg ((r 8 p2.toNatClampNeg) + p3)) 7 p2.toNatClampNeg ((r 7 p2.toNatClampNeg) + p4)) 9 p2.toNatClampNeg ((r 9 p2.toNatClampNeg) + p4)) n) H_16 := hp_cP hp_M_s9 hP1
              replace hS := hS1
              clear hP1 hS1
              refine lv_aload_n hx hb dX2_move_237 rfl (lv_at hl 2 rfl) ?_
              refine lv_iload_n hx hb dX2_move_238 rfl (lv_at hl 5 rfl) ?_
              refine lv_iload_n hx hb dX2_move_239 rfl (lv_at hl 3 rfl) ?_
              have hFc := hp_free (hD (va_up v 0 (hp_c_move v r n p0 p1 p2 p3 p4)) (hp_set (hp_set (hp_set (hp_set r 6 p2.toNatClampNeg ((r 6 p2.toNatClampNeg) + p3)) 8 p2.toNatClampNeg ((r 8 p2.toNatClampNeg) + p3)) 7 p2.toNatClampNeg ((r 7 p2.toNatClampNeg) + p4)) 9 p2.toNatClampNeg ((r 9 p2.toNatClampNeg) + p4)) n) hS hA
              refine va_callv (va_runV (As := [.int p2, .int p0]) (rest := []) ⟨hx, hb, hml, hown, hts⟩ (c_X2_change l dC dI cI cZ cO cJ o a (va_up v 0 (hp_c_move v r n p0 p1 p2 p3 p4)) (hp_set (hp_set (hp_set (hp_set r 6 p2.toNatClampNeg ((r 6 p2.toNatClampNeg) + p3)) 8 p2.toNatClampNeg ((r 8 p2.toNatClampNeg) + p3)) 7 p2.toNatClampNeg ((r 7 p2.toNatClampNeg) + p4)) 9 p2.toNatClampNeg ((r 9 p2.toNatClampNeg) + p4)) n H_16.size p2.toNatClampNeg p2 (xp.1) p0 (by have := xp.2; omega)) (cwV 2 hts gX2_move_X2_change rfl rfl rfl (by decide +kernel) ⟨(Nat.le_of_ble_eq_true rfl), (Nat.le_of_ble_eq_true rfl)⟩) ⟨hp_mfb, va_recv hK hP (ci := 2) (q0 := 0) rfl hp_M_o, fun U hU hW => ⟨rfl, hp_mto hP hK (hD _ _ _) hU hW⟩⟩ rfl rfl hl.1 rfl (lv_room (Nat.le_of_ble_eq_true rfl)) dX2_move_240 ⟨(Nat.zero_le _), (Nat.zero_le _)⟩) hS (fun q _ h => hFc q h) hFc (fun u_17 t_17 H_17 locs_17 ht _ hr_17 hB _ _ hS1 => ?_)
              replace hP : va_P (dC, dI) vwCl (hp_M cI cZ o a (hp_rv (va_up v 0 (hp_c_move v r n p0 p1 p2 p3 p4))) (hp_chg (hp_set (hp_set (hp_set (hp_set r 6 p2.toNatClampNeg ((r 6 p2.toNatClampNeg) + p3)) 8 p2.toNatClampNeg ((r 8 p2.toNatClampNeg) + p3)) 7 p2.toNatClampNeg ((r 7 p2.toNatClampNeg) + p4)) 9 p2.toNatClampNeg ((r 9 p2.toNatClampNeg) + p4)) p2.toNatClampNeg ((v 2) + 1) p0) n) H_17 := hp_th ht hB
              replace hS := hS1
              clear hS1 hB ht hFc
              refine lv_iconst (v := 1) hx hb dX2_move_243 (by decide) ?_
              have hP9 : va_P (dC, dI) vwCl (hp_M cI cZ o a (va_up (hp_v_move v r n p0 p1 p2 p3 p4) 0 (hp_c_move v r n p0 p1 p2 p3 p4)) (hp_r_move v r n p0 p1 p2 p3 p4) n) H_17 := by have hb9 : hp_b_move v r n p0 p1 p2 p3 p4 = true := (by simp [hp_b_move, c_10, hc, c_12, hk9]); simp only [hp_v_move, hp_r_move, if_pos hb9, ← hp_up_rv]; exact hP
              exact W.zret (ty := .boolean) (v := 1) hx hb hr rfl (fun t ht hW => ⟨⟨1, (), rfl, (by exact hp_bt2 (by simp [hp_b_move, c_10, hc, c_12, hk9])), hp_ht ht hP9⟩, hS.F ht⟩) hS.2.2 dX2_move_244
            · skip
              have c_12 := hp_bz c_12
              have hk9 : hp_tk r p0 p1 p2.toNatClampNeg = false := c_12
              refine lv_iconst (v := 0) hx hb dX2_move_191 (by decide) ?_
              have hP9 : va_P (dC, dI) vwCl (hp_M cI cZ o a (va_up (hp_v_move v r n p0 p1 p2 p3 p4) 0 (hp_c_move v r n p0 p1 p2 p3 p4)) (hp_r_move v r n p0 p1 p2 p3 p4) n) H_9 := by have hb9 : ¬ hp_b_move v r n p0 p1 p2 p3 p4 = true := (by simp [hp_b_move, c_10, hc, c_12, hk9]); simp only [hp_v_move, hp_r_move, if_neg hb9]; exact hP
              exact W.zret (ty := .boolean) (v := 0) hx hb hr rfl (fun t ht hW => ⟨⟨0, (), rfl, (by exact hp_bf2 (by simp [hp_b_move, c_10, hc, c_12, hk9])), hp_ht ht hP9⟩, hS.F ht⟩) hS.2.2 dX2_move_192
        · skip
          refine lv_iload hx hb dX2_move_143 (lv_at hl 1 rfl) ?_
          refine lv_if_ne (tgt := 152) hx hb dX2_move_145 (by decide) (fun c_18 => ?_) (fun c_18 => ?_)
          · skip
            have c_18 := hp_bn c_18
            have xp := hp_el_ix hn (hp_andr c_18)
            have cAre := c_18
            refine lv_iload hx hb dX2_move_152 (lv_at hl 0 rfl) ?_
            refine lv_if_ne (tgt := 161) hx hb dX2_move_154 (by decide) (fun c_19 => ?_) (fun c_19 => ?_)
            · skip
              have c_19 := hp_bn c_19
              have cG2 := hp_andr c_19
              refine lv_aload_n hx hb dX2_move_161 rfl (lv_at hl 2 rfl) ?_
              refine va_get (D := (dC, dI)) (ci := 2) (v := .ref (a 10)) (C := RX2) (T := TX2) (N := 18) hx hb hts hinX2 hown hK hP 0 hp_M_o rfl 10 (by decide) hf_28 (fun _ h9 => h9) rfl dX2_move_162 ?_
              refine lv_iload_n hx hb dX2_move_165 rfl (lv_at hl 5 rfl) ?_
              refine hp_ialdx (v := r 10 p2.toNatClampNeg) hx hb hK hP 7 0 hp_M_10 rfl (i := p2) (hp_vin xp hn (by decide)) rfl dX2_move_166 ?_
              refine lv_if_eq (tgt := 174) hx hb dX2_move_167 (by decide) (fun c_20 => ?_) (fun c_20 => ?_)
              · skip
                refine lv_iconst (v := 0) hx hb dX2_move_174 (by decide) ?_
                exact jn_8 0 (by exact hp_cdz (by (first | assumption | (simp [c_18, c_19, cG2, c_20]; done))) (by (first | assumption | (simp [c_18, c_19, cG2, c_20]; done))) (by (first | assumption | (simp [c_18, c_19, cG2, c_20]; done)))) _ (lv_sub hl [0, 1, 2, 3, 4, 5, 6, 7] rfl)
              · skip
                refine lv_iconst (v := 3) hx hb dX2_move_170 (by decide) ?_
                refine lv_goto (tgt := 175) hx hb dX2_move_171 (by decide) ?_
                exact jn_8 3 (by exact hp_cd3 (by (first | assumption | (simp [c_18, c_19, cG2, c_20]; done))) (by (first | assumption | (simp [c_18, c_19, cG2, c_20]; done))) (by (first | assumption | (simp [c_18, c_19, cG2, c_20]; done)))) _ (lv_sub hl [0, 1, 2, 3, 4, 5, 6, 7] rfl)
            · skip
              have c_19 := hp_bz c_19
              have cG2 : (hp_in p1 0 (v 2) && hp_in p3 (-11) 11 && hp_in p4 (-11) 11 && hp_si (r 6 p2.toNatClampNeg + p3) && hp_si (r 8 p2.toNatClampNeg + p3) && hp_si (r 7 p2.toNatClampNeg + p4) && hp_si (r 9 p2.toNatClampNeg + p4)) = false := by rw [cAre, Bool.true_and] at c_19; exact c_19
              refine lv_iconst (v := 2) hx hb dX2_move_157 (by decide) ?_
              refine lv_goto (tgt := 175) hx hb dX2_move_158 (by decide) ?_
              exact jn_8 2 (by exact hp_cd2 (by (first | assumption | (simp [c_18, c_19]; done))) (by (first | assumption | (simp [c_18, c_19]; done)))) _ (lv_sub hl [0, 1, 2, 3, 4, 5, 6, 7] rfl)
          · skip
            have c_18 := hp_bz c_18
            refine lv_iconst (v := 1) hx hb dX2_move_148 (by decide) ?_
            refine lv_goto (tgt := 175) hx hb dX2_move_149 (by decide) ?_
            exact jn_8 1 (by exact hp_cd1 (by (first | assumption | (simp [c_18]; done)))) _ (lv_sub hl [0, 1, 2, 3, 4, 5, 6, 7] rfl)
      · skip
        refine lv_iload hx hb dX2_move_70 (lv_at hl 0 rfl) ?_
        refine lv_if_eq (tgt := 139) hx hb dX2_move_72 (by decide) (fun c_21 => ?_) (fun c_21 => ?_)
        · skip
          have c_21 := hp_bz c_21
          refine lv_iconst (v := 0) hx hb dX2_move_139 (by decide) ?_
          exact jn_6 0 (by first | (simp [hp_b, c_21]; done) | exact hp_bf2 (hp_mvF c_21)) _ (lv_sub hl [0, 1, 2, 3, 4, 5, 6, 7] rfl)
        · skip
          have c_21 := hp_bn c_21
          have xp := hp_el_ix hn (hp_andr (hp_andl c_21))
          refine lv_aload_n hx hb dX2_move_75 rfl (lv_at hl 2 rfl) ?_
          refine va_get (D := (dC, dI)) (ci := 2) (v := .ref (a 6)) (C := RX2) (T := TX2) (N := 18) hx hb hts hinX2 hown hK hP 0 hp_M_o rfl 6 (by decide) hf_16 (fun _ h9 => h9) rfl dX2_move_76 ?_
          refine lv_iload_n hx hb dX2_move_79 rfl (lv_at hl 5 rfl) ?_
          refine hp_ialdx (v := r 6 p2.toNatClampNeg) hx hb hK hP 3 0 hp_M_6 rfl (i := p2) (hp_vin xp hn (by decide)) rfl dX2_move_80 ?_
          refine lv_iload hx hb dX2_move_81 (lv_at hl 6 rfl) ?_
          refine lv_iadd hx hb dX2_move_83 ?_
          refine vp_callSi (W.runS (As := [.int ((r 6 p2.toNatClampNeg) + p3)]) (rest := []) ⟨hx, hb, hml, hown, hts⟩ (c_X2_isSide l ((r 6 p2.toNatClampNeg) + p3)) (va_cwS 1 hts gX2_move_X2_isSide rfl rfl rfl (by decide +kernel) ⟨(Nat.le_of_ble_eq_true rfl), (Nat.le_of_ble_eq_true rfl)⟩) ⟨hp_nfb, fun _ _ _ => ⟨rfl, trivial⟩⟩ rfl rfl hl.1 rfl (lv_room (Nat.le_of_ble_eq_true rfl)) dX2_move_84 ⟨(Nat.zero_le _), (Nat.zero_le _)⟩) (fun r_22 hr_22 => ?_)
          subst hr_22
          refine lv_if_eq (tgt := 139) hx hb dX2_move_87 (by decide) (fun c_23 => ?_) (fun c_23 => ?_)
          · skip
            have c_23 := hp_bz c_23
            refine lv_iconst (v := 0) hx hb dX2_move_139 (by decide) ?_
            exact jn_6 0 (by first | (simp [hp_b, c_21, c_23]; done) | exact hp_bf2 (hp_mvF c_23)) _ (lv_sub hl [0, 1, 2, 3, 4, 5, 6, 7] rfl)
          · skip
            have c_23 := hp_bn c_23
            refine lv_aload_n hx hb dX2_move_90 rfl (lv_at hl 2 rfl) ?_
            refine va_get (D := (dC, dI)) (ci := 2) (v := .ref (a 8)) (C := RX2) (T := TX2) (N := 18) hx hb hts hinX2 hown hK hP 0 hp_M_o rfl 8 (by decide) hf_22 (fun _ h9 => h9) rfl dX2_move_91 ?_
            refine lv_iload_n hx hb dX2_move_94 rfl (lv_at hl 5 rfl) ?_
            refine hp_ialdx (v := r 8 p2.toNatClampNeg) hx hb hK hP 5 0 hp_M_8 rfl (i := p2) (hp_vin xp hn (by decide)) rfl dX2_move_95 ?_
            refine lv_iload hx hb dX2_move_96 (lv_at hl 6 rfl) ?_
            refine lv_iadd hx hb dX2_move_98 ?_
            refine vp_callSi (W.runS (As := [.int ((r 8 p2.toNatClampNeg) + p3)]) (rest := []) ⟨hx, hb, hml, hown, hts⟩ (c_X2_isSide l ((r 8 p2.toNatClampNeg) + p3)) (va_cwS 1 hts gX2_move_X2_isSide rfl rfl rfl (by decide +kernel) ⟨(Nat.le_of_ble_eq_true rfl), (Nat.le_of_ble_eq_true rfl)⟩) ⟨hp_nfb, fun _ _ _ => ⟨rfl, trivial⟩⟩ rfl rfl hl.1 rfl (lv_room (Nat.le_of_ble_eq_true rfl)) dX2_move_99 ⟨(Nat.zero_le _), (Nat.zero_le _)⟩) (fun r_24 hr_24 => ?_)
            subst hr_24
            refine lv_if_eq (tgt := 139) hx hb dX2_move_102 (by decide) (fun c_25 => ?_) (fun c_25 => ?_)
            · skip
              have c_25 := hp_bz c_25
              refine lv_iconst (v := 0) hx hb dX2_move_139 (by decide) ?_
              exact jn_6 0 (by first | (simp [hp_b, c_21, c_23, c_25]; done) | exact hp_bf2 (hp_mvF c_25)) _ (lv_sub hl [0, 1, 2, 3, 4, 5, 6, 7] rfl)
            · skip
              have c_25 := hp_bn c_25
              refine lv_aload_n hx hb dX2_move_105 rfl (lv_at hl 2 rfl) ?_
              refine va_get (D := (dC, dI)) (ci := 2) (v := .ref (a 7)) (C := RX2) (T := TX2) (N := 18) hx hb hts hinX2 hown hK hP 0 hp_M_o rfl 7 (by decide) hf_19 (fun _ h9 => h9) rfl dX2_move_106 ?_
              refine lv_iload_n hx hb dX2_move_109 rfl (lv_at hl 5 rfl) ?_
              refine hp_ialdx (v := r 7 p2.toNatClampNeg) hx hb hK hP 4 0 hp_M_7 rfl (i := p2) (hp_vin xp hn (by decide)) rfl dX2_move_110 ?_
              refine lv_iload hx hb dX2_move_111 (lv_at hl 7 rfl) ?_
              refine lv_iadd hx hb dX2_move_113 ?_
              refine vp_callSi (W.runS (As := [.int ((r 7 p2.toNatClampNeg) + p4)]) (rest := []) ⟨hx, hb, hml, hown, hts⟩ (c_X2_isSide l ((r 7 p2.toNatClampNeg) + p4)) (va_cwS 1 hts gX2_move_X2_isSide rfl rfl rfl (by decide +kernel) ⟨(Nat.le_of_ble_eq_true rfl), (Nat.le_of_ble_eq_true rfl)⟩) ⟨hp_nfb, fun _ _ _ => ⟨rfl, trivial⟩⟩ rfl rfl hl.1 rfl (lv_room (Nat.le_of_ble_eq_true rfl)) dX2_move_114 ⟨(Nat.zero_le _), (Nat.zero_le _)⟩) (fun r_26 hr_26 => ?_)
              subst hr_26
              refine lv_if_eq (tgt := 139) hx hb dX2_move_117 (by decide) (fun c_27 => ?_) (fun c_27 => ?_)
              · skip
                have c_27 := hp_bz c_27
                refine lv_iconst (v := 0) hx hb dX2_move_139 (by decide) ?_
                exact jn_6 0 (by first | (simp [hp_b, c_21, c_23, c_25, c_27]; done) | exact hp_bf2 (hp_mvF c_27)) _ (lv_sub hl [0, 1, 2, 3, 4, 5, 6, 7] rfl)
              · skip
                have c_27 := hp_bn c_27
                refine lv_aload_n hx hb dX2_move_120 rfl (lv_at hl 2 rfl) ?_
                refine va_get (D := (dC, dI)) (ci := 2) (v := .ref (a 9)) (C := RX2) (T := TX2) (N := 18) hx hb hts hinX2 hown hK hP 0 hp_M_o rfl 9 (by decide) hf_25 (fun _ h9 => h9) rfl dX2_move_121 ?_
                refine lv_iload_n hx hb dX2_move_124 rfl (lv_at hl 5 rfl) ?_
                refine hp_ialdx (v := r 9 p2.toNatClampNeg) hx hb hK hP 6 0 hp_M_9 rfl (i := p2) (hp_vin xp hn (by decide)) rfl dX2_move_125 ?_
                refine lv_iload hx hb dX2_move_126 (lv_at hl 7 rfl) ?_
                refine lv_iadd hx hb dX2_move_128 ?_
                refine vp_callSi (W.runS (As := [.int ((r 9 p2.toNatClampNeg) + p4)]) (rest := []) ⟨hx, hb, hml, hown, hts⟩ (c_X2_isSide l ((r 9 p2.toNatClampNeg) + p4)) (va_cwS 1 hts gX2_move_X2_isSide rfl rfl rfl (by decide +kernel) ⟨(Nat.le_of_ble_eq_true rfl), (Nat.le_of_ble_eq_true rfl)⟩) ⟨hp_nfb, fun _ _ _ => ⟨rfl, trivial⟩⟩ rfl rfl hl.1 rfl (lv_room (Nat.le_of_ble_eq_true rfl)) dX2_move_129 ⟨(Nat.zero_le _), (Nat.zero_le _)⟩) (fun r_28 hr_28 => ?_)
                subst hr_28
                refine lv_if_eq (tgt := 139) hx hb dX2_move_132 (by decide) (fun c_29 => ?_) (fun c_29 => ?_)
                · skip
                  have c_29 := hp_bz c_29
                  refine lv_iconst (v := 0) hx hb dX2_move_139 (by decide) ?_
                  exact jn_6 0 (by first | (simp [hp_b, c_21, c_23, c_25, c_27, c_29]; done) | exact hp_bf2 (hp_mvF c_29)) _ (lv_sub hl [0, 1, 2, 3, 4, 5, 6, 7] rfl)
                · skip
                  have c_29 := hp_bn c_29
                  refine lv_iconst (v := 1) hx hb dX2_move_135 (by decide) ?_
                  refine lv_goto (tgt := 140) hx hb dX2_move_136 (by decide) ?_
                  exact jn_6 1 (by first | (simp [hp_b, c_21, c_23, c_25, c_27, c_29]; done) | exact hp_bf2 (hp_mvF c_29)) _ (lv_sub hl [0, 1, 2, 3, 4, 5, 6, 7] rfl)
    · skip
      refine lv_iload hx hb dX2_move_22 (lv_at hl 0 rfl) ?_
      refine lv_if_eq (tgt := 67) hx hb dX2_move_24 (by decide) (fun c_30 => ?_) (fun c_30 => ?_)
      · skip
        have c_30 := hp_bz c_30
        refine lv_iconst (v := 0) hx hb dX2_move_67 (by decide) ?_
        exact jn_4 0 (by simp [hp_b, c_30]) _ (lv_sub hl [0, 1, 2, 3, 4, 5, 6] rfl)
      · skip
        have c_30 := hp_bn c_30
        refine lv_iload_n hx hb dX2_move_27 rfl (lv_at hl 3 rfl) ?_
        refine lv_iconst (v := 0) hx hb dX2_move_28 (by decide) ?_
        refine lv_aload_n hx hb dX2_move_29 rfl (lv_at hl 1 rfl) ?_
        refine va_get (D := (dC, dI)) (ci := 2) (v := .int (v 2)) (C := RX2) (T := TX2) (N := 18) hx hb hts hinX2 hown hK hP 0 hp_M_o rfl 2 (by decide) hf_64 (fun _ h9 => h9) rfl dX2_move_30 ?_
        refine vp_callSi (W.runS (As := [.int p1, .int 0, .int (v 2)]) (rest := []) ⟨hx, hb, hml, hown, hts⟩ (c_X2_in l p1 0 (v 2)) (va_cwS 3 hts gX2_move_X2_in rfl rfl rfl (by decide +kernel) ⟨(Nat.le_of_ble_eq_true rfl), (Nat.le_of_ble_eq_true rfl)⟩) ⟨hp_nfb, fun _ _ _ => ⟨rfl, trivial⟩⟩ rfl rfl hl.1 rfl (lv_room (Nat.le_of_ble_eq_true rfl)) dX2_move_33 ⟨(Nat.zero_le _), (Nat.zero_le _)⟩) (fun r_31 hr_31 => ?_)
        subst hr_31
        refine lv_if_eq (tgt := 67) hx hb dX2_move_36 (by decide) (fun c_32 => ?_) (fun c_32 => ?_)
        · skip
          have c_32 := hp_bz c_32
          refine lv_iconst (v := 0) hx hb dX2_move_67 (by decide) ?_
          exact jn_4 0 (by simp [hp_b, c_30, c_32]) _ (lv_sub hl [0, 1, 2, 3, 4, 5, 6] rfl)
        · skip
          have c_32 := hp_bn c_32
          refine lv_iload hx hb dX2_move_39 (lv_at hl 5 rfl) ?_
          refine lv_bipush (v := (-11)) hx hb dX2_move_41 (by decide) ?_
          refine lv_bipush (v := 11) hx hb dX2_move_43 (by decide) ?_
          refine vp_callSi (W.runS (As := [.int p3, .int (-11), .int 11]) (rest := []) ⟨hx, hb, hml, hown, hts⟩ (c_X2_in l p3 (-11) 11) (va_cwS 3 hts gX2_move_X2_in rfl rfl rfl (by decide +kernel) ⟨(Nat.le_of_ble_eq_true rfl), (Nat.le_of_ble_eq_true rfl)⟩) ⟨hp_nfb, fun _ _ _ => ⟨rfl, trivial⟩⟩ rfl rfl hl.1 rfl (lv_room (Nat.le_of_ble_eq_true rfl)) dX2_move_45 ⟨(Nat.zero_le _), (Nat.zero_le _)⟩) (fun r_33 hr_33 => ?_)
          subst hr_33
          refine lv_if_eq (tgt := 67) hx hb dX2_move_48 (by decide) (fun c_34 => ?_) (fun c_34 => ?_)
          · skip
            have c_34 := hp_bz c_34
            refine lv_iconst (v := 0) hx hb dX2_move_67 (by decide) ?_
            exact jn_4 0 (by simp [hp_b, c_30, c_32, c_34]) _ (lv_sub hl [0, 1, 2, 3, 4, 5, 6] rfl)
          · skip
            have c_34 := hp_bn c_34
            refine lv_iload hx hb dX2_move_51 (lv_at hl 6 rfl) ?_
            refine lv_bipush (v := (-11)) hx hb dX2_move_53 (by decide) ?_
            refine lv_bipush (v := 11) hx hb dX2_move_55 (by decide) ?_
            refine vp_callSi (W.runS (As := [.int p4, .int (-11), .int 11]) (rest := []) ⟨hx, hb, hml, hown, hts⟩ (c_X2_in l p4 (-11) 11) (va_cwS 3 hts gX2_move_X2_in rfl rfl rfl (by decide +kernel) ⟨(Nat.le_of_ble_eq_true rfl), (Nat.le_of_ble_eq_true rfl)⟩) ⟨hp_nfb, fun _ _ _ => ⟨rfl, trivial⟩⟩ rfl rfl hl.1 rfl (lv_room (Nat.le_of_ble_eq_true rfl)) dX2_move_57 ⟨(Nat.zero_le _), (Nat.zero_le _)⟩) (fun r_35 hr_35 => ?_)
            subst hr_35
            refine lv_if_eq (tgt := 67) hx hb dX2_move_60 (by decide) (fun c_36 => ?_) (fun c_36 => ?_)
            · skip
              have c_36 := hp_bz c_36
              refine lv_iconst (v := 0) hx hb dX2_move_67 (by decide) ?_
              exact jn_4 0 (by simp [hp_b, c_30, c_32, c_34, c_36]) _ (lv_sub hl [0, 1, 2, 3, 4, 5, 6] rfl)
            · skip
              have c_36 := hp_bn c_36
              refine lv_iconst (v := 1) hx hb dX2_move_63 (by decide) ?_
              refine lv_goto (tgt := 68) hx hb dX2_move_64 (by decide) ?_
              exact jn_4 1 (by simp [hp_b, c_30, c_32, c_34, c_36]) _ (lv_sub hl [0, 1, 2, 3, 4, 5, 6] rfl)
  · skip
    refine lv_iload_n hx hb dX2_move_0 rfl (lv_at hl 1 rfl) ?_
    refine vp_callSi (W.runS (As := [.int p0]) (rest := []) ⟨hx, hb, hml, hown, hts⟩ (c_X2_isTrade l p0) (va_cwS 1 hts gX2_move_X2_isTrade rfl rfl rfl (by decide +kernel) ⟨(Nat.le_of_ble_eq_true rfl), (Nat.le_of_ble_eq_true rfl)⟩) ⟨hp_nfb, fun _ _ _ => ⟨rfl, trivial⟩⟩ rfl rfl hl.1 rfl (lv_room (Nat.le_of_ble_eq_true rfl)) dX2_move_1 ⟨(Nat.zero_le _), (Nat.zero_le _)⟩) (fun r_37 hr_37 => ?_)
    subst hr_37
    refine lv_if_eq (tgt := 19) hx hb dX2_move_4 (by decide) (fun c_38 => ?_) (fun c_38 => ?_)
    · skip
      have c_38 := hp_bz c_38
      refine lv_iconst (v := 0) hx hb dX2_move_19 (by decide) ?_
      exact jn_2 0 (by simp [hp_b, c_38]) _ (lv_sub hl [0, 1, 2, 3, 4, 5] rfl)
    · skip
      have c_38 := hp_bn c_38
      refine lv_aload_n hx hb dX2_move_7 rfl (lv_at hl 0 rfl) ?_
      refine lv_iload_n hx hb dX2_move_8 rfl (lv_at hl 3 rfl) ?_
      refine vp_callSi (W.runV (As := [.int p2]) (rest := []) ⟨hx, hb, hml, hown, hts⟩ (c_X2_isElement l dC dI cI cZ cO cJ o a v r n p2) (cwV 1 hts gX2_move_X2_isElement rfl rfl rfl (by decide +kernel) ⟨(Nat.le_of_ble_eq_true rfl), (Nat.le_of_ble_eq_true rfl)⟩) ⟨hp_fb, va_recv hK hP (ci := 2) (q0 := 0) rfl hp_M_o, fun U hU hW => ⟨rfl, hp_to hP hK hU hW⟩⟩ rfl rfl hl.1 rfl (lv_room (Nat.le_of_ble_eq_true rfl)) dX2_move_9 ⟨(Nat.zero_le _), (Nat.zero_le _)⟩) (fun r_39 hr_39 => ?_)
      subst hr_39
      refine lv_if_eq (tgt := 19) hx hb dX2_move_12 (by decide) (fun c_40 => ?_) (fun c_40 => ?_)
      · skip
        have c_40 := hp_bz c_40
        refine lv_iconst (v := 0) hx hb dX2_move_19 (by decide) ?_
        exact jn_2 0 (by simp [hp_b, c_38, c_40]) _ (lv_sub hl [0, 1, 2, 3, 4, 5] rfl)
      · skip
        have c_40 := hp_bn c_40
        refine lv_iconst (v := 1) hx hb dX2_move_15 (by decide) ?_
        refine lv_goto (tgt := 20) hx hb dX2_move_16 (by decide) ?_
        exact jn_2 1 (by simp [hp_b, c_38, c_40]) _ (lv_sub hl [0, 1, 2, 3, 4, 5] rfl)
set_option maxHeartbeats 400000 in
set_option maxRecDepth 100000 in
theorem c_X2_remove (l : Launch) (dC : Nat → ClassId) (dI : Nat → Nat → Nat) (cI cZ cO cJ : ClassId) (o : Nat) (a : Nat → Nat) (v : Nat → Int32) (r : Nat → Nat → Int32) (n : Nat) (sz : Nat)  (p0 p1 p2 : Int32) (hinv : hp_inv v r n) : Met l yX2_remove wsX2_remove ({ frames := 2, cells := 0, slots := 0, locals := 43 }) (va_Pc [.ref o, .int p0, .int p1, .int p2] (hp_prm (dC, dI) cI cZ cO cJ (hp_M cI cZ o a v r n) sz)) (va_Qi (S := Unit) (fun x9 _ => x9 = hp_b (decide (hp_c_remove v r n p0 p1 p2 = 0))) (fun _ t9 => va_P (dC, dI) vwCl (hp_M cI cZ o a (va_up (hp_v_remove v r n p0 p1 p2) 0 (hp_c_remove v r n p0 p1 p2)) (hp_r_remove v r n p0 p1 p2) n) t9.heap) (va_A (hp_M cI cZ o a v r n) sz)) 0 0 (va_A (hp_M cI cZ o a v r n) sz) := by
  refine Met.ofW (cc := cX2_remove) (maxL := 5) (ret := (some .boolean)) (by decide) rfl ?_
  intro p e s m args below meth c s₁ B hml hv
  obtain ⟨rfl, hsz, hP, hK, hD0⟩ := hv
  have hx := B.exec
  have hb := B.bytes
  have hr := B.returns
  have hts := atoms_spec (ws := wsX2_remove) B.pre
  have hown : s.vm.findClass RX2 = some m.cls := findClass_of_methodNamed B.named
  have hlocks := B.notSynchronized
  subst hsz
  have hD := hD0.self (sz := s.heap.size)
  generalize hAe : va_A (hp_M cI cZ o a v r n) s.heap.size = A at hD ⊢
  replace hD : ∀ v r n, va_D A (hp_M cI cZ o a v r n) := fun _ _ _ => hp_dM hD
  have hA : ∀ q : Nat, s.heap.size ≤ q → A q := fun q h => by rw [← hAe]; exact Or.inr h
  have hS : va_S A s.heap s.heap [] := va_S.rf
  have hf_28 := hts (.fieldLink RX2 28 "WallplanModel" "state" "[I") (by decide +kernel)
  have hf_64 := hts (.fieldLink RX2 64 "WallplanModel" "revision" "I") (by decide +kernel)
  have hinX2 : ∀ w ∈ wsX20, w ∈ wsX2_remove := by decide +kernel
  have hl := lv_entry ([.ref o, .int p0, .int p1, .int p2]) (n := 5) (Nat.le_of_ble_eq_true rfl)
  rw [lg_entry_eq]
  generalize (lg_sl ([.ref o, .int p0, .int p1, .int p2]) ++ List.replicate (5 - (lg_sl ([.ref o, .int p0, .int p1, .int p2])).length) Slot.unset).toArray = ls at hl ⊢
  have hl : lv_has ls 5 [(0, .ref o), (1, .int p0), (2, .int p1), (3, .int p2)] := hl
  have hn := hinv.1
  refine hp_join 20 5 (fun x1 : Int32 => x1 = hp_b (hp_kd p0 && hp_el n p2)) (fun x1 => [(0, .ref o), (1, .int p0), (2, .int p1), (3, .int p2)]) (fun x1 => [.int x1]) (fun x1 hx_2 ls hl => ?_) (fun jn_2 => ?_)
  · skip
    subst hx_2
    refine lv_istore (lv' := [(4, .int (hp_b (hp_kd p0 && hp_el n p2))), (0, .ref o), (1, .int p0), (2, .int p1), (3, .int p2)]) hx hb dX2_remove_20 hl (by decide) rfl (fun ls hl => ?_)
    refine lv_aload_n hx hb dX2_remove_22 rfl (lv_at hl 1 rfl) ?_
    refine hp_join 62 5 (fun x3 : Int32 => x3 = hp_c_remove v r n p0 p1 p2) (fun x3 => [(4, .int (hp_b (hp_kd p0 && hp_el n p2))), (0, .ref o), (1, .int p0), (2, .int p1), (3, .int p2)]) (fun x3 => [.int x3, .ref o]) (fun x3 hx_4 ls hl => ?_) (fun jn_4 => ?_)
    · skip
      subst hx_4
      have hFc := hp_free (hD v r n) hS hA
      refine va_calli (va_runV (As := [.int (hp_c_remove v r n p0 p1 p2)]) (rest := []) ⟨hx, hb, hml, hown, hts⟩ (c_X2_refused l dC dI cI cZ cO cJ o a v r n s.heap.size (hp_c_remove v r n p0 p1 p2)) (cwV 1 hts gX2_remove_X2_refused rfl rfl rfl (by decide +kernel) ⟨(Nat.le_of_ble_eq_true rfl), (Nat.le_of_ble_eq_true rfl)⟩) ⟨hp_mfb, va_recv hK hP (ci := 2) (q0 := 0) rfl hp_M_o, fun U hU hW => ⟨rfl, hp_mto hP hK (hD _ _ _) hU hW⟩⟩ rfl rfl hl.1 rfl (lv_room (Nat.le_of_ble_eq_true rfl)) dX2_remove_62 ⟨(Nat.zero_le _), (Nat.zero_le _)⟩) hS (fun q _ h => hFc q h) hFc (fun r_5 u_5 t_5 H_5 locs_5 ht _ hr_5 hB _ _ hS1 => ?_)
      replace hP : va_P (dC, dI) vwCl (hp_M cI cZ o a (va_up v 0 (hp_c_remove v r n p0 p1 p2)) r n) H_5 := hp_th ht hB
      replace hS := hS1
      clear hS1 hB ht hFc
      subst hr_5
      refine lv_if_eq (tgt := 70) hx hb dX2_remove_65 (by decide) (fun c_6 => ?_) (fun c_6 => ?_)
      · skip
        have c_6 := hp_bz c_6
        have hc := hp_eq0 c_6
        obtain ⟨g1, g2, g3⟩ := hp_cd0 hc
        have xp := hp_el_ix hn (hp_andr g1)
        refine lv_aload_n hx hb dX2_remove_70 rfl (lv_at hl 1 rfl) ?_
        refine va_get (D := (dC, dI)) (ci := 2) (v := .ref (a 10)) (C := RX2) (T := TX2) (N := 18) hx hb hts hinX2 hown hK hP 0 hp_M_o rfl 10 (by decide) hf_28 (fun _ h9 => h9) rfl dX2_remove_71 ?_
        refine lv_iload_n hx hb dX2_remove_74 rfl (lv_at hl 4 rfl) ?_
        refine lv_iconst (v := 4) hx hb dX2_remove_75 (by decide) ?_
        refine va_iast hx hb hK hP (hD _ _ _) hS 7 0 hp_M_10 rfl (i := p2) (x := 4) (hp_vin xp hn (by decide)) dX2_remove_76 (fun H_7 locs_7 hP1 _ hS1 => ?_)
        replace hP : va_P (dC, dI) vwCl (hp_M cI cZ o a (va_up v 0 (hp_c_remove v r n p0 p1 p2)) (hp_set r 10 p2.toNatClampNeg 4) n) H_7 := hp_cP hp_M_s10 hP1
        replace hS := hS1
        clear hP1 hS1
        refine lv_aload_n hx hb dX2_remove_77 rfl (lv_at hl 1 rfl) ?_
        refine lv_iload_n hx hb dX2_remove_78 rfl (lv_at hl 4 rfl) ?_
        refine lv_iload_n hx hb dX2_remove_79 rfl (lv_at hl 2 rfl) ?_
        have hFc := hp_free (hD (va_up v 0 (hp_c_remove v r n p0 p1 p2)) (hp_set r 10 p2.toNatClampNeg 4) n) hS hA
        refine va_callv (va_runV (As := [.int p2, .int p0]) (rest := []) ⟨hx, hb, hml, hown, hts⟩ (c_X2_change l dC dI cI cZ cO cJ o a (va_up v 0 (hp_c_remove v r n p0 p1 p2)) (hp_set r 10 p2.toNatClampNeg 4) n H_7.size p2.toNatClampNeg p2 (xp.1) p0 (by have := xp.2; omega)) (cwV 2 hts gX2_remove_X2_change rfl rfl rfl (by decide +kernel) ⟨(Nat.le_of_ble_eq_true rfl), (Nat.le_of_ble_eq_true rfl)⟩) ⟨hp_mfb, va_recv hK hP (ci := 2) (q0 := 0) rfl hp_M_o, fun U hU hW => ⟨rfl, hp_mto hP hK (hD _ _ _) hU hW⟩⟩ rfl rfl hl.1 rfl (lv_room (Nat.le_of_ble_eq_true rfl)) dX2_remove_80 ⟨(Nat.zero_le _), (Nat.zero_le _)⟩) hS (fun q _ h => hFc q h) hFc (fun u_8 t_8 H_8 locs_8 ht _ hr_8 hB _ _ hS1 => ?_)
        replace hP : va_P (dC, dI) vwCl (hp_M cI cZ o a (hp_rv (va_up v 0 (hp_c_remove v r n p0 p1 p2))) (hp_chg (hp_set r 10 p2.toNatClampNeg 4) p2.toNatClampNeg ((v 2) + 1) p0) n) H_8 := hp_th ht hB
        replace hS := hS1
        clear hS1 hB ht hFc
        refine lv_iconst (v := 1) hx hb dX2_remove_83 (by decide) ?_
        have hP9 : va_P (dC, dI) vwCl (hp_M cI cZ o a (va_up (hp_v_remove v r n p0 p1 p2) 0 (hp_c_remove v r n p0 p1 p2)) (hp_r_remove v r n p0 p1 p2) n) H_8 := by simp only [hp_v_remove, hp_r_remove, if_pos hc, ← hp_up_rv]; exact hP
        exact W.zret (ty := .boolean) (v := 1) hx hb hr rfl (fun t ht hW => ⟨⟨1, (), rfl, (by exact hp_bt2 (decide_eq_true hc)), hp_ht ht hP9⟩, hS.F ht⟩) hS.2.2 dX2_remove_84
      · skip
        have c_6 := hp_bn c_6
        have hc := hp_ne0 c_6
        refine lv_iconst (v := 0) hx hb dX2_remove_68 (by decide) ?_
        have hP9 : va_P (dC, dI) vwCl (hp_M cI cZ o a (va_up (hp_v_remove v r n p0 p1 p2) 0 (hp_c_remove v r n p0 p1 p2)) (hp_r_remove v r n p0 p1 p2) n) H_5 := by simp only [hp_v_remove, hp_r_remove, if_neg hc]; exact hP
        exact W.zret (ty := .boolean) (v := 0) hx hb hr rfl (fun t ht hW => ⟨⟨0, (), rfl, (by exact hp_bf2 (decide_eq_false hc)), hp_ht ht hP9⟩, hS.F ht⟩) hS.2.2 dX2_remove_69
    · skip
      refine lv_iload hx hb dX2_remove_23 (lv_at hl 0 rfl) ?_
      refine lv_if_ne (tgt := 32) hx hb dX2_remove_25 (by decide) (fun c_9 => ?_) (fun c_9 => ?_)
      · skip
        have c_9 := hp_bn c_9
        have xp := hp_el_ix hn (hp_andr c_9)
        refine lv_iload_n hx hb dX2_remove_32 rfl (lv_at hl 3 rfl) ?_
        refine lv_iconst (v := 0) hx hb dX2_remove_33 (by decide) ?_
        refine lv_aload_n hx hb dX2_remove_34 rfl (lv_at hl 1 rfl) ?_
        refine va_get (D := (dC, dI)) (ci := 2) (v := .int (v 2)) (C := RX2) (T := TX2) (N := 18) hx hb hts hinX2 hown hK hP 0 hp_M_o rfl 2 (by decide) hf_64 (fun _ h9 => h9) rfl dX2_remove_35 ?_
        refine vp_callSi (W.runS (As := [.int p1, .int 0, .int (v 2)]) (rest := [.ref o]) ⟨hx, hb, hml, hown, hts⟩ (c_X2_in l p1 0 (v 2)) (va_cwS 3 hts gX2_remove_X2_in rfl rfl rfl (by decide +kernel) ⟨(Nat.le_of_ble_eq_true rfl), (Nat.le_of_ble_eq_true rfl)⟩) ⟨hp_nfb, fun _ _ _ => ⟨rfl, trivial⟩⟩ rfl rfl hl.1 rfl (lv_room (Nat.le_of_ble_eq_true rfl)) dX2_remove_38 ⟨(Nat.zero_le _), (Nat.zero_le _)⟩) (fun r_10 hr_10 => ?_)
        subst hr_10
        refine lv_if_ne (tgt := 48) hx hb dX2_remove_41 (by decide) (fun c_11 => ?_) (fun c_11 => ?_)
        · skip
          have c_11 := hp_bn c_11
          refine lv_aload_n hx hb dX2_remove_48 rfl (lv_at hl 1 rfl) ?_
          refine va_get (D := (dC, dI)) (ci := 2) (v := .ref (a 10)) (C := RX2) (T := TX2) (N := 18) hx hb hts hinX2 hown hK hP 0 hp_M_o rfl 10 (by decide) hf_28 (fun _ h9 => h9) rfl dX2_remove_49 ?_
          refine lv_iload_n hx hb dX2_remove_52 rfl (lv_at hl 4 rfl) ?_
          refine hp_ialdx (v := r 10 p2.toNatClampNeg) hx hb hK hP 7 0 hp_M_10 rfl (i := p2) (hp_vin xp hn (by decide)) rfl dX2_remove_53 ?_
          refine lv_if_eq (tgt := 61) hx hb dX2_remove_54 (by decide) (fun c_12 => ?_) (fun c_12 => ?_)
          · skip
            refine lv_iconst (v := 0) hx hb dX2_remove_61 (by decide) ?_
            exact jn_4 0 (by exact hp_cdz (by (first | assumption | (simp [c_9, c_11, c_12]; done))) (by (first | assumption | (simp [c_9, c_11, c_12]; done))) (by (first | assumption | (simp [c_9, c_11, c_12]; done)))) _ (lv_sub hl [0, 1, 2, 3, 4] rfl)
          · skip
            refine lv_iconst (v := 3) hx hb dX2_remove_57 (by decide) ?_
            refine lv_goto (tgt := 62) hx hb dX2_remove_58 (by decide) ?_
            exact jn_4 3 (by exact hp_cd3 (by (first | assumption | (simp [c_9, c_11, c_12]; done))) (by (first | assumption | (simp [c_9, c_11, c_12]; done))) (by (first | assumption | (simp [c_9, c_11, c_12]; done)))) _ (lv_sub hl [0, 1, 2, 3, 4] rfl)
        · skip
          have c_11 := hp_bz c_11
          refine lv_iconst (v := 2) hx hb dX2_remove_44 (by decide) ?_
          refine lv_goto (tgt := 62) hx hb dX2_remove_45 (by decide) ?_
          exact jn_4 2 (by exact hp_cd2 (by (first | assumption | (simp [c_9, c_11]; done))) (by (first | assumption | (simp [c_9, c_11]; done)))) _ (lv_sub hl [0, 1, 2, 3, 4] rfl)
      · skip
        have c_9 := hp_bz c_9
        refine lv_iconst (v := 1) hx hb dX2_remove_28 (by decide) ?_
        refine lv_goto (tgt := 62) hx hb dX2_remove_29 (by decide) ?_
        exact jn_4 1 (by exact hp_cd1 (by (first | assumption | (simp [c_9]; done)))) _ (lv_sub hl [0, 1, 2, 3, 4] rfl)
  · skip
    refine lv_iload_n hx hb dX2_remove_0 rfl (lv_at hl 1 rfl) ?_
    refine vp_callSi (W.runS (As := [.int p0]) (rest := []) ⟨hx, hb, hml, hown, hts⟩ (c_X2_isTrade l p0) (va_cwS 1 hts gX2_remove_X2_isTrade rfl rfl rfl (by decide +kernel) ⟨(Nat.le_of_ble_eq_true rfl), (Nat.le_of_ble_eq_true rfl)⟩) ⟨hp_nfb, fun _ _ _ => ⟨rfl, trivial⟩⟩ rfl rfl hl.1 rfl (lv_room (Nat.le_of_ble_eq_true rfl)) dX2_remove_1 ⟨(Nat.zero_le _), (Nat.zero_le _)⟩) (fun r_13 hr_13 => ?_)
    subst hr_13
    refine lv_if_eq (tgt := 19) hx hb dX2_remove_4 (by decide) (fun c_14 => ?_) (fun c_14 => ?_)
    · skip
      have c_14 := hp_bz c_14
      refine lv_iconst (v := 0) hx hb dX2_remove_19 (by decide) ?_
      exact jn_2 0 (by simp [hp_b, c_14]) _ (lv_sub hl [0, 1, 2, 3] rfl)
    · skip
      have c_14 := hp_bn c_14
      refine lv_aload_n hx hb dX2_remove_7 rfl (lv_at hl 0 rfl) ?_
      refine lv_iload_n hx hb dX2_remove_8 rfl (lv_at hl 3 rfl) ?_
      refine vp_callSi (W.runV (As := [.int p2]) (rest := []) ⟨hx, hb, hml, hown, hts⟩ (c_X2_isElement l dC dI cI cZ cO cJ o a v r n p2) (cwV 1 hts gX2_remove_X2_isElement rfl rfl rfl (by decide +kernel) ⟨(Nat.le_of_ble_eq_true rfl), (Nat.le_of_ble_eq_true rfl)⟩) ⟨hp_fb, va_recv hK hP (ci := 2) (q0 := 0) rfl hp_M_o, fun U hU hW => ⟨rfl, hp_to hP hK hU hW⟩⟩ rfl rfl hl.1 rfl (lv_room (Nat.le_of_ble_eq_true rfl)) dX2_remove_9 ⟨(Nat.zero_le _), (Nat.zero_le _)⟩) (fun r_15 hr_15 => ?_)
      subst hr_15
      refine lv_if_eq (tgt := 19) hx hb dX2_remove_12 (by decide) (fun c_16 => ?_) (fun c_16 => ?_)
      · skip
        have c_16 := hp_bz c_16
        refine lv_iconst (v := 0) hx hb dX2_remove_19 (by decide) ?_
        exact jn_2 0 (by simp [hp_b, c_14, c_16]) _ (lv_sub hl [0, 1, 2, 3] rfl)
      · skip
        have c_16 := hp_bn c_16
        refine lv_iconst (v := 1) hx hb dX2_remove_15 (by decide) ?_
        refine lv_goto (tgt := 20) hx hb dX2_remove_16 (by decide) ?_
        exact jn_2 1 (by simp [hp_b, c_14, c_16]) _ (lv_sub hl [0, 1, 2, 3] rfl)
set_option maxHeartbeats 400000 in
set_option maxRecDepth 100000 in
theorem c_X2_clear (l : Launch) (dC : Nat → ClassId) (dI : Nat → Nat → Nat) (cI cZ cO cJ : ClassId) (o : Nat) (a : Nat → Nat) (v : Nat → Int32) (r : Nat → Nat → Int32) (n : Nat) (sz : Nat)  (p0 p1 p2 : Int32) : Met l yX2_clear wsX2_clear ({ frames := 2, cells := 0, slots := 0, locals := 42 }) (va_Pc [.ref o, .int p0, .int p1, .int p2] (hp_prm (dC, dI) cI cZ cO cJ (hp_M cI cZ o a v r n) sz)) (va_Qi (S := Unit) (fun x9 _ => x9 = hp_a_clear r p0 p1 p2) (fun _ t9 => va_P (dC, dI) vwCl (hp_M cI cZ o a (va_up v 0 (hp_c_clear p0 p1 p2)) (hp_r_clear r p0 p1 p2) n) t9.heap) (va_A (hp_M cI cZ o a v r n) sz)) 0 0 (va_A (hp_M cI cZ o a v r n) sz) := by
  refine Met.ofW (cc := cX2_clear) (maxL := 6) (ret := (some .int)) (by decide) rfl ?_
  intro p e s m args below meth c s₁ B hml hv
  obtain ⟨rfl, hsz, hP, hK, hD0⟩ := hv
  have hx := B.exec
  have hb := B.bytes
  have hr := B.returns
  have hts := atoms_spec (ws := wsX2_clear) B.pre
  have hown : s.vm.findClass RX2 = some m.cls := findClass_of_methodNamed B.named
  have hlocks := B.notSynchronized
  subst hsz
  have hD := hD0.self (sz := s.heap.size)
  generalize hAe : va_A (hp_M cI cZ o a v r n) s.heap.size = A at hD ⊢
  replace hD : ∀ v r n, va_D A (hp_M cI cZ o a v r n) := fun _ _ _ => hp_dM hD
  have hA : ∀ q : Nat, s.heap.size ≤ q → A q := fun q h => by rw [← hAe]; exact Or.inr h
  have hS : va_S A s.heap s.heap [] := va_S.rf
  have hf_40 := hts (.fieldLink RX2 40 "WallplanModel" "clearance" "[I") (by decide +kernel)
  have hinX2 : ∀ w ∈ wsX20, w ∈ wsX2_clear := by decide +kernel
  have hl := lv_entry ([.ref o, .int p0, .int p1, .int p2]) (n := 6) (Nat.le_of_ble_eq_true rfl)
  rw [lg_entry_eq]
  generalize (lg_sl ([.ref o, .int p0, .int p1, .int p2]) ++ List.replicate (6 - (lg_sl ([.ref o, .int p0, .int p1, .int p2])).length) Slot.unset).toArray = ls at hl ⊢
  have hl : lv_has ls 6 [(0, .ref o), (1, .int p0), (2, .int p1), (3, .int p2)] := hl
  refine hp_join 19 6 (fun x1 : Int32 => x1 = hp_b (hp_kd p0 && hp_kd p1)) (fun x1 => [(0, .ref o), (1, .int p0), (2, .int p1), (3, .int p2)]) (fun x1 => [.int x1]) (fun x1 hx_2 ls hl => ?_) (fun jn_2 => ?_)
  · skip
    subst hx_2
    refine lv_istore (lv' := [(4, .int (hp_b (hp_kd p0 && hp_kd p1))), (0, .ref o), (1, .int p0), (2, .int p1), (3, .int p2)]) hx hb dX2_clear_19 hl (by decide) rfl (fun ls hl => ?_)
    refine lv_aload_n hx hb dX2_clear_21 rfl (lv_at hl 1 rfl) ?_
    refine hp_join 45 6 (fun x3 : Int32 => x3 = hp_c_clear p0 p1 p2) (fun x3 => [(4, .int (hp_b (hp_kd p0 && hp_kd p1))), (0, .ref o), (1, .int p0), (2, .int p1), (3, .int p2)]) (fun x3 => [.int x3, .ref o]) (fun x3 hx_4 ls hl => ?_) (fun jn_4 => ?_)
    · skip
      subst hx_4
      have hFc := hp_free (hD v r n) hS hA
      refine va_calli (va_runV (As := [.int (hp_c_clear p0 p1 p2)]) (rest := []) ⟨hx, hb, hml, hown, hts⟩ (c_X2_refused l dC dI cI cZ cO cJ o a v r n s.heap.size (hp_c_clear p0 p1 p2)) (cwV 1 hts gX2_clear_X2_refused rfl rfl rfl (by decide +kernel) ⟨(Nat.le_of_ble_eq_true rfl), (Nat.le_of_ble_eq_true rfl)⟩) ⟨hp_mfb, va_recv hK hP (ci := 2) (q0 := 0) rfl hp_M_o, fun U hU hW => ⟨rfl, hp_mto hP hK (hD _ _ _) hU hW⟩⟩ rfl rfl hl.1 rfl (lv_room (Nat.le_of_ble_eq_true rfl)) dX2_clear_45 ⟨(Nat.zero_le _), (Nat.zero_le _)⟩) hS (fun q _ h => hFc q h) hFc (fun r_5 u_5 t_5 H_5 locs_5 ht _ hr_5 hB _ _ hS1 => ?_)
      replace hP : va_P (dC, dI) vwCl (hp_M cI cZ o a (va_up v 0 (hp_c_clear p0 p1 p2)) r n) H_5 := hp_th ht hB
      replace hS := hS1
      clear hS1 hB ht hFc
      subst hr_5
      refine lv_if_eq (tgt := 53) hx hb dX2_clear_48 (by decide) (fun c_6 => ?_) (fun c_6 => ?_)
      · skip
        have c_6 := hp_bz c_6
        have hc := hp_eq0 c_6
        obtain ⟨g1, g2, g3⟩ := hp_cd0 hc
        refine lv_aload_n hx hb dX2_clear_53 rfl (lv_at hl 1 rfl) ?_
        refine va_get (D := (dC, dI)) (ci := 2) (v := .ref (a 14)) (C := RX2) (T := TX2) (N := 18) hx hb hts hinX2 hown hK hP 0 hp_M_o rfl 14 (by decide) hf_40 (fun _ h9 => h9) rfl dX2_clear_54 ?_
        refine lv_iconst (v := 3) hx hb dX2_clear_57 (by decide) ?_
        refine lv_iload_n hx hb dX2_clear_58 rfl (lv_at hl 2 rfl) ?_
        refine lv_imul hx hb dX2_clear_59 ?_
        refine lv_iload_n hx hb dX2_clear_60 rfl (lv_at hl 3 rfl) ?_
        refine lv_iadd hx hb dX2_clear_61 ?_
        refine hp_ialdx (v := r 14 (((3 * p0) + p1).toNatClampNeg)) hx hb hK hP 11 0 hp_M_14 rfl (i := (3 * p0) + p1) (by exact hp_ci_in (hp_andl g1) (hp_andr g1)) rfl dX2_clear_62 ?_
        refine lv_istore (lv' := [(5, .int (r 14 (((3 * p0) + p1).toNatClampNeg))), (4, .int (hp_b (hp_kd p0 && hp_kd p1))), (0, .ref o), (1, .int p0), (2, .int p1), (3, .int p2)]) hx hb dX2_clear_63 hl (by decide) rfl (fun ls hl => ?_)
        refine lv_aload_n hx hb dX2_clear_65 rfl (lv_at hl 2 rfl) ?_
        refine va_get (D := (dC, dI)) (ci := 2) (v := .ref (a 14)) (C := RX2) (T := TX2) (N := 18) hx hb hts hinX2 hown hK hP 0 hp_M_o rfl 14 (by decide) hf_40 (fun _ h9 => h9) rfl dX2_clear_66 ?_
        refine lv_iconst (v := 3) hx hb dX2_clear_69 (by decide) ?_
        refine lv_iload_n hx hb dX2_clear_70 rfl (lv_at hl 3 rfl) ?_
        refine lv_imul hx hb dX2_clear_71 ?_
        refine lv_iload_n hx hb dX2_clear_72 rfl (lv_at hl 4 rfl) ?_
        refine lv_iadd hx hb dX2_clear_73 ?_
        refine lv_iload_n hx hb dX2_clear_74 rfl (lv_at hl 5 rfl) ?_
        refine va_iast hx hb hK hP (hD _ _ _) hS 11 0 hp_M_14 rfl (i := (3 * p0) + p1) (x := p2) (by exact hp_ci_in (hp_andl g1) (hp_andr g1)) dX2_clear_75 (fun H_7 locs_7 hP1 _ hS1 => ?_)
        replace hP : va_P (dC, dI) vwCl (hp_M cI cZ o a (va_up v 0 (hp_c_clear p0 p1 p2)) (hp_set r 14 (((3 * p0) + p1).toNatClampNeg) p2) n) H_7 := hp_cP hp_M_s14 hP1
        replace hS := hS1
        clear hP1 hS1
        refine lv_aload_n hx hb dX2_clear_76 rfl (lv_at hl 2 rfl) ?_
        refine va_get (D := (dC, dI)) (ci := 2) (v := .ref (a 14)) (C := RX2) (T := TX2) (N := 18) hx hb hts hinX2 hown hK hP 0 hp_M_o rfl 14 (by decide) hf_40 (fun _ h9 => h9) rfl dX2_clear_77 ?_
        refine lv_iconst (v := 3) hx hb dX2_clear_80 (by decide) ?_
        refine lv_iload_n hx hb dX2_clear_81 rfl (lv_at hl 4 rfl) ?_
        refine lv_imul hx hb dX2_clear_82 ?_
        refine lv_iload_n hx hb dX2_clear_83 rfl (lv_at hl 3 rfl) ?_
        refine lv_iadd hx hb dX2_clear_84 ?_
        refine lv_iload_n hx hb dX2_clear_85 rfl (lv_at hl 5 rfl) ?_
        refine va_iast hx hb hK hP (hD _ _ _) hS 11 0 hp_M_14 rfl (i := (3 * p1) + p0) (x := p2) (by exact hp_ci_in (hp_andr g1) (hp_andl g1)) dX2_clear_86 (fun H_8 locs_8 hP1 _ hS1 => ?_)
        replace hP : va_P (dC, dI) vwCl (hp_M cI cZ o a (va_up v 0 (hp_c_clear p0 p1 p2)) (hp_set (hp_set r 14 (((3 * p0) + p1).toNatClampNeg) p2) 14 (((3 * p1) + p0).toNatClampNeg) p2) n) H_8 := hp_cP hp_M_s14 hP1
        replace hS := hS1
        clear hP1 hS1
        refine lv_iload hx hb dX2_clear_87 (lv_at hl 0 rfl) ?_
        have hP9 : va_P (dC, dI) vwCl (hp_M cI cZ o a (va_up v 0 (hp_c_clear p0 p1 p2)) (hp_r_clear r p0 p1 p2) n) H_8 := by simp only [hp_r_clear, if_pos hc]; exact hP
        exact W.iret (v := r 14 (((3 * p0) + p1).toNatClampNeg)) hx hb hr (fun t ht hW => ⟨⟨r 14 (((3 * p0) + p1).toNatClampNeg), (), rfl, (by rw [hp_a_clear, if_pos hc]; rfl), hp_ht ht hP9⟩, hS.F ht⟩) hS.2.2 dX2_clear_89
      · skip
        have c_6 := hp_bn c_6
        have hc := hp_ne0 c_6
        refine lv_iconst (v := 0) hx hb dX2_clear_51 (by decide) ?_
        have hP9 : va_P (dC, dI) vwCl (hp_M cI cZ o a (va_up v 0 (hp_c_clear p0 p1 p2)) (hp_r_clear r p0 p1 p2) n) H_5 := by simp only [hp_r_clear, if_neg hc]; exact hP
        exact W.iret (v := 0) hx hb hr (fun t ht hW => ⟨⟨0, (), rfl, (by rw [hp_a_clear, if_neg hc]), hp_ht ht hP9⟩, hS.F ht⟩) hS.2.2 dX2_clear_52
    · skip
      refine lv_iload hx hb dX2_clear_22 (lv_at hl 0 rfl) ?_
      refine lv_if_ne (tgt := 31) hx hb dX2_clear_24 (by decide) (fun c_9 => ?_) (fun c_9 => ?_)
      · skip
        have c_9 := hp_bn c_9
        refine lv_iload_n hx hb dX2_clear_31 rfl (lv_at hl 4 rfl) ?_
        refine lv_iconst (v := 0) hx hb dX2_clear_32 (by decide) ?_
        refine lv_iconst (v := 3) hx hb dX2_clear_33 (by decide) ?_
        refine vp_callSi (W.runS (As := [.int p2, .int 0, .int 3]) (rest := [.ref o]) ⟨hx, hb, hml, hown, hts⟩ (c_X2_in l p2 0 3) (va_cwS 3 hts gX2_clear_X2_in rfl rfl rfl (by decide +kernel) ⟨(Nat.le_of_ble_eq_true rfl), (Nat.le_of_ble_eq_true rfl)⟩) ⟨hp_nfb, fun _ _ _ => ⟨rfl, trivial⟩⟩ rfl rfl hl.1 rfl (lv_room (Nat.le_of_ble_eq_true rfl)) dX2_clear_34 ⟨(Nat.zero_le _), (Nat.zero_le _)⟩) (fun r_10 hr_10 => ?_)
        subst hr_10
        refine lv_if_ne (tgt := 44) hx hb dX2_clear_37 (by decide) (fun c_11 => ?_) (fun c_11 => ?_)
        · skip
          have c_11 := hp_bn c_11
          refine lv_iconst (v := 0) hx hb dX2_clear_44 (by decide) ?_
          exact jn_4 0 (by exact hp_cdz (by (first | assumption | (simp [c_9, c_11]; done))) (by (first | assumption | (simp [c_9, c_11]; done))) (by (first | assumption | (simp [c_9, c_11]; done)))) _ (lv_sub hl [0, 1, 2, 3, 4] rfl)
        · skip
          have c_11 := hp_bz c_11
          refine lv_iconst (v := 2) hx hb dX2_clear_40 (by decide) ?_
          refine lv_goto (tgt := 45) hx hb dX2_clear_41 (by decide) ?_
          exact jn_4 2 (by exact hp_cd2 (by (first | assumption | (simp [c_9, c_11]; done))) (by (first | assumption | (simp [c_9, c_11]; done)))) _ (lv_sub hl [0, 1, 2, 3, 4] rfl)
      · skip
        have c_9 := hp_bz c_9
        refine lv_iconst (v := 1) hx hb dX2_clear_27 (by decide) ?_
        refine lv_goto (tgt := 45) hx hb dX2_clear_28 (by decide) ?_
        exact jn_4 1 (by exact hp_cd1 (by (first | assumption | (simp [c_9]; done)))) _ (lv_sub hl [0, 1, 2, 3, 4] rfl)
  · skip
    refine lv_iload_n hx hb dX2_clear_0 rfl (lv_at hl 1 rfl) ?_
    refine vp_callSi (W.runS (As := [.int p0]) (rest := []) ⟨hx, hb, hml, hown, hts⟩ (c_X2_isTrade l p0) (va_cwS 1 hts gX2_clear_X2_isTrade rfl rfl rfl (by decide +kernel) ⟨(Nat.le_of_ble_eq_true rfl), (Nat.le_of_ble_eq_true rfl)⟩) ⟨hp_nfb, fun _ _ _ => ⟨rfl, trivial⟩⟩ rfl rfl hl.1 rfl (lv_room (Nat.le_of_ble_eq_true rfl)) dX2_clear_1 ⟨(Nat.zero_le _), (Nat.zero_le _)⟩) (fun r_12 hr_12 => ?_)
    subst hr_12
    refine lv_if_eq (tgt := 18) hx hb dX2_clear_4 (by decide) (fun c_13 => ?_) (fun c_13 => ?_)
    · skip
      have c_13 := hp_bz c_13
      refine lv_iconst (v := 0) hx hb dX2_clear_18 (by decide) ?_
      exact jn_2 0 (by simp [hp_b, c_13]) _ (lv_sub hl [0, 1, 2, 3] rfl)
    · skip
      have c_13 := hp_bn c_13
      refine lv_iload_n hx hb dX2_clear_7 rfl (lv_at hl 2 rfl) ?_
      refine vp_callSi (W.runS (As := [.int p1]) (rest := []) ⟨hx, hb, hml, hown, hts⟩ (c_X2_isTrade l p1) (va_cwS 1 hts gX2_clear_X2_isTrade rfl rfl rfl (by decide +kernel) ⟨(Nat.le_of_ble_eq_true rfl), (Nat.le_of_ble_eq_true rfl)⟩) ⟨hp_nfb, fun _ _ _ => ⟨rfl, trivial⟩⟩ rfl rfl hl.1 rfl (lv_room (Nat.le_of_ble_eq_true rfl)) dX2_clear_8 ⟨(Nat.zero_le _), (Nat.zero_le _)⟩) (fun r_14 hr_14 => ?_)
      subst hr_14
      refine lv_if_eq (tgt := 18) hx hb dX2_clear_11 (by decide) (fun c_15 => ?_) (fun c_15 => ?_)
      · skip
        have c_15 := hp_bz c_15
        refine lv_iconst (v := 0) hx hb dX2_clear_18 (by decide) ?_
        exact jn_2 0 (by simp [hp_b, c_13, c_15]) _ (lv_sub hl [0, 1, 2, 3] rfl)
      · skip
        have c_15 := hp_bn c_15
        refine lv_iconst (v := 1) hx hb dX2_clear_14 (by decide) ?_
        refine lv_goto (tgt := 19) hx hb dX2_clear_15 (by decide) ?_
        exact jn_2 1 (by simp [hp_b, c_13, c_15]) _ (lv_sub hl [0, 1, 2, 3] rfl)
set_option maxHeartbeats 400000 in
set_option maxRecDepth 100000 in
theorem c_X2_part (l : Launch) (dC : Nat → ClassId) (dI : Nat → Nat → Nat) (cI cZ cO cJ : ClassId) (o : Nat) (a : Nat → Nat) (v : Nat → Int32) (r : Nat → Nat → Int32) (n : Nat) (sz : Nat)  (p0 p1 : Int32) : Met l yX2_part wsX2_part ({ frames := 2, cells := 0, slots := 0, locals := 42 }) (va_Pc [.ref o, .int p0, .int p1] (hp_prm (dC, dI) cI cZ cO cJ (hp_M cI cZ o a v r n) sz)) (va_Qi (S := Unit) (fun x9 _ => x9 = hp_a_part r p0 p1) (fun _ t9 => va_P (dC, dI) vwCl (hp_M cI cZ o a (va_up v 0 (hp_c_part p0 p1)) (hp_r_part r p0 p1) n) t9.heap) (va_A (hp_M cI cZ o a v r n) sz)) 0 0 (va_A (hp_M cI cZ o a v r n) sz) := by
  refine Met.ofW (cc := cX2_part) (maxL := 4) (ret := (some .int)) (by decide) rfl ?_
  intro p e s m args below meth c s₁ B hml hv
  obtain ⟨rfl, hsz, hP, hK, hD0⟩ := hv
  have hx := B.exec
  have hb := B.bytes
  have hr := B.returns
  have hts := atoms_spec (ws := wsX2_part) B.pre
  have hown : s.vm.findClass RX2 = some m.cls := findClass_of_methodNamed B.named
  have hlocks := B.notSynchronized
  subst hsz
  have hD := hD0.self (sz := s.heap.size)
  generalize hAe : va_A (hp_M cI cZ o a v r n) s.heap.size = A at hD ⊢
  replace hD : ∀ v r n, va_D A (hp_M cI cZ o a v r n) := fun _ _ _ => hp_dM hD
  have hA : ∀ q : Nat, s.heap.size ≤ q → A q := fun q h => by rw [← hAe]; exact Or.inr h
  have hS : va_S A s.heap s.heap [] := va_S.rf
  have hf_43 := hts (.fieldLink RX2 43 "WallplanModel" "cells" "[I") (by decide +kernel)
  have hinX2 : ∀ w ∈ wsX20, w ∈ wsX2_part := by decide +kernel
  have hl := lv_entry ([.ref o, .int p0, .int p1]) (n := 4) (Nat.le_of_ble_eq_true rfl)
  rw [lg_entry_eq]
  generalize (lg_sl ([.ref o, .int p0, .int p1]) ++ List.replicate (4 - (lg_sl ([.ref o, .int p0, .int p1])).length) Slot.unset).toArray = ls at hl ⊢
  have hl : lv_has ls 4 [(0, .ref o), (1, .int p0), (2, .int p1)] := hl
  refine lv_aload_n hx hb dX2_part_0 rfl (lv_at hl 0 rfl) ?_
  refine hp_join 27 4 (fun x1 : Int32 => x1 = hp_c_part p0 p1) (fun x1 => [(0, .ref o), (1, .int p0), (2, .int p1)]) (fun x1 => [.int x1, .ref o]) (fun x1 hx_2 ls hl => ?_) (fun jn_2 => ?_)
  · skip
    subst hx_2
    have hFc := hp_free (hD v r n) hS hA
    refine va_calli (va_runV (As := [.int (hp_c_part p0 p1)]) (rest := []) ⟨hx, hb, hml, hown, hts⟩ (c_X2_refused l dC dI cI cZ cO cJ o a v r n s.heap.size (hp_c_part p0 p1)) (cwV 1 hts gX2_part_X2_refused rfl rfl rfl (by decide +kernel) ⟨(Nat.le_of_ble_eq_true rfl), (Nat.le_of_ble_eq_true rfl)⟩) ⟨hp_mfb, va_recv hK hP (ci := 2) (q0 := 0) rfl hp_M_o, fun U hU hW => ⟨rfl, hp_mto hP hK (hD _ _ _) hU hW⟩⟩ rfl rfl hl.1 rfl (lv_room (Nat.le_of_ble_eq_true rfl)) dX2_part_27 ⟨(Nat.zero_le _), (Nat.zero_le _)⟩) hS (fun q _ h => hFc q h) hFc (fun r_3 u_3 t_3 H_3 locs_3 ht _ hr_3 hB _ _ hS1 => ?_)
    replace hP : va_P (dC, dI) vwCl (hp_M cI cZ o a (va_up v 0 (hp_c_part p0 p1)) r n) H_3 := hp_th ht hB
    replace hS := hS1
    clear hS1 hB ht hFc
    subst hr_3
    refine lv_if_eq (tgt := 35) hx hb dX2_part_30 (by decide) (fun c_4 => ?_) (fun c_4 => ?_)
    · skip
      have c_4 := hp_bz c_4
      have hc := hp_eq0 c_4
      obtain ⟨g1, g2, g3⟩ := hp_cd0 hc
      refine lv_aload_n hx hb dX2_part_35 rfl (lv_at hl 0 rfl) ?_
      refine va_get (D := (dC, dI)) (ci := 2) (v := .ref (a 15)) (C := RX2) (T := TX2) (N := 18) hx hb hts hinX2 hown hK hP 0 hp_M_o rfl 15 (by decide) hf_43 (fun _ h9 => h9) rfl dX2_part_36 ?_
      refine lv_iload_n hx hb dX2_part_39 rfl (lv_at hl 1 rfl) ?_
      refine hp_ialdx (v := r 15 p0.toNatClampNeg) hx hb hK hP 12 0 hp_M_15 rfl (i := p0) (hp_vin (hp_kd_ix g1) (by decide) (by decide)) rfl dX2_part_40 ?_
      refine lv_istore_n (lv' := [(3, .int (r 15 p0.toNatClampNeg)), (0, .ref o), (1, .int p0), (2, .int p1)]) hx hb dX2_part_41 rfl hl (by decide) rfl (fun ls hl => ?_)
      refine lv_aload_n hx hb dX2_part_42 rfl (lv_at hl 1 rfl) ?_
      refine va_get (D := (dC, dI)) (ci := 2) (v := .ref (a 15)) (C := RX2) (T := TX2) (N := 18) hx hb hts hinX2 hown hK hP 0 hp_M_o rfl 15 (by decide) hf_43 (fun _ h9 => h9) rfl dX2_part_43 ?_
      refine lv_iload_n hx hb dX2_part_46 rfl (lv_at hl 2 rfl) ?_
      refine lv_iload_n hx hb dX2_part_47 rfl (lv_at hl 3 rfl) ?_
      refine va_iast hx hb hK hP (hD _ _ _) hS 12 0 hp_M_15 rfl (i := p0) (x := p1) (hp_vin (hp_kd_ix g1) (by decide) (by decide)) dX2_part_48 (fun H_5 locs_5 hP1 _ hS1 => ?_)
      replace hP : va_P (dC, dI) vwCl (hp_M cI cZ o a (va_up v 0 (hp_c_part p0 p1)) (hp_set r 15 p0.toNatClampNeg p1) n) H_5 := hp_cP hp_M_s15 hP1
      replace hS := hS1
      clear hP1 hS1
      refine lv_iload_n hx hb dX2_part_49 rfl (lv_at hl 0 rfl) ?_
      have hP9 : va_P (dC, dI) vwCl (hp_M cI cZ o a (va_up v 0 (hp_c_part p0 p1)) (hp_r_part r p0 p1) n) H_5 := by simp only [hp_r_part, if_pos hc]; exact hP
      exact W.iret (v := r 15 p0.toNatClampNeg) hx hb hr (fun t ht hW => ⟨⟨r 15 p0.toNatClampNeg, (), rfl, (by rw [hp_a_part, if_pos hc]), hp_ht ht hP9⟩, hS.F ht⟩) hS.2.2 dX2_part_50
    · skip
      have c_4 := hp_bn c_4
      have hc := hp_ne0 c_4
      refine lv_iconst (v := 0) hx hb dX2_part_33 (by decide) ?_
      have hP9 : va_P (dC, dI) vwCl (hp_M cI cZ o a (va_up v 0 (hp_c_part p0 p1)) (hp_r_part r p0 p1) n) H_3 := by simp only [hp_r_part, if_neg hc]; exact hP
      exact W.iret (v := 0) hx hb hr (fun t ht hW => ⟨⟨0, (), rfl, (by rw [hp_a_part, if_neg hc]), hp_ht ht hP9⟩, hS.F ht⟩) hS.2.2 dX2_part_34
  · skip
    refine lv_iload_n hx hb dX2_part_1 rfl (lv_at hl 1 rfl) ?_
    refine vp_callSi (W.runS (As := [.int p0]) (rest := [.ref o]) ⟨hx, hb, hml, hown, hts⟩ (c_X2_isTrade l p0) (va_cwS 1 hts gX2_part_X2_isTrade rfl rfl rfl (by decide +kernel) ⟨(Nat.le_of_ble_eq_true rfl), (Nat.le_of_ble_eq_true rfl)⟩) ⟨hp_nfb, fun _ _ _ => ⟨rfl, trivial⟩⟩ rfl rfl hl.1 rfl (lv_room (Nat.le_of_ble_eq_true rfl)) dX2_part_2 ⟨(Nat.zero_le _), (Nat.zero_le _)⟩) (fun r_6 hr_6 => ?_)
    subst hr_6
    refine lv_if_ne (tgt := 12) hx hb dX2_part_5 (by decide) (fun c_7 => ?_) (fun c_7 => ?_)
    · skip
      have c_7 := hp_bn c_7
      refine lv_iload_n hx hb dX2_part_12 rfl (lv_at hl 2 rfl) ?_
      refine lv_iconst (v := 1) hx hb dX2_part_13 (by decide) ?_
      refine lv_bipush (v := 12) hx hb dX2_part_14 (by decide) ?_
      refine vp_callSi (W.runS (As := [.int p1, .int 1, .int 12]) (rest := [.ref o]) ⟨hx, hb, hml, hown, hts⟩ (c_X2_in l p1 1 12) (va_cwS 3 hts gX2_part_X2_in rfl rfl rfl (by decide +kernel) ⟨(Nat.le_of_ble_eq_true rfl), (Nat.le_of_ble_eq_true rfl)⟩) ⟨hp_nfb, fun _ _ _ => ⟨rfl, trivial⟩⟩ rfl rfl hl.1 rfl (lv_room (Nat.le_of_ble_eq_true rfl)) dX2_part_16 ⟨(Nat.zero_le _), (Nat.zero_le _)⟩) (fun r_8 hr_8 => ?_)
      subst hr_8
      refine lv_if_ne (tgt := 26) hx hb dX2_part_19 (by decide) (fun c_9 => ?_) (fun c_9 => ?_)
      · skip
        have c_9 := hp_bn c_9
        refine lv_iconst (v := 0) hx hb dX2_part_26 (by decide) ?_
        exact jn_2 0 (by exact hp_cdz (by (first | assumption | (simp [c_7, c_9]; done))) (by (first | assumption | (simp [c_7, c_9]; done))) (by (first | assumption | (simp [c_7, c_9]; done)))) _ (lv_sub hl [0, 1, 2] rfl)
      · skip
        have c_9 := hp_bz c_9
        refine lv_iconst (v := 2) hx hb dX2_part_22 (by decide) ?_
        refine lv_goto (tgt := 27) hx hb dX2_part_23 (by decide) ?_
        exact jn_2 2 (by exact hp_cd2 (by (first | assumption | (simp [c_7, c_9]; done))) (by (first | assumption | (simp [c_7, c_9]; done)))) _ (lv_sub hl [0, 1, 2] rfl)
    · skip
      have c_7 := hp_bz c_7
      refine lv_iconst (v := 1) hx hb dX2_part_8 (by decide) ?_
      refine lv_goto (tgt := 27) hx hb dX2_part_9 (by decide) ?_
      exact jn_2 1 (by exact hp_cd1 (by (first | assumption | (simp [c_7]; done)))) _ (lv_sub hl [0, 1, 2] rfl)
set_option maxHeartbeats 400000 in
set_option maxRecDepth 100000 in
theorem c_X2_lead (l : Launch) (dC : Nat → ClassId) (dI : Nat → Nat → Nat) (cI cZ cO cJ : ClassId) (o : Nat) (a : Nat → Nat) (v : Nat → Int32) (r : Nat → Nat → Int32) (n : Nat) (sz : Nat)  (p0 p1 : Int32) : Met l yX2_lead wsX2_lead ({ frames := 2, cells := 0, slots := 0, locals := 42 }) (va_Pc [.ref o, .int p0, .int p1] (hp_prm (dC, dI) cI cZ cO cJ (hp_M cI cZ o a v r n) sz)) (va_Qi (S := Unit) (fun x9 _ => x9 = hp_a_lead r p0 p1) (fun _ t9 => va_P (dC, dI) vwCl (hp_M cI cZ o a (va_up v 0 (hp_c_lead p0 p1)) (hp_r_lead r p0 p1) n) t9.heap) (va_A (hp_M cI cZ o a v r n) sz)) 0 0 (va_A (hp_M cI cZ o a v r n) sz) := by
  refine Met.ofW (cc := cX2_lead) (maxL := 4) (ret := (some .int)) (by decide) rfl ?_
  intro p e s m args below meth c s₁ B hml hv
  obtain ⟨rfl, hsz, hP, hK, hD0⟩ := hv
  have hx := B.exec
  have hb := B.bytes
  have hr := B.returns
  have hts := atoms_spec (ws := wsX2_lead) B.pre
  have hown : s.vm.findClass RX2 = some m.cls := findClass_of_methodNamed B.named
  have hlocks := B.notSynchronized
  subst hsz
  have hD := hD0.self (sz := s.heap.size)
  generalize hAe : va_A (hp_M cI cZ o a v r n) s.heap.size = A at hD ⊢
  replace hD : ∀ v r n, va_D A (hp_M cI cZ o a v r n) := fun _ _ _ => hp_dM hD
  have hA : ∀ q : Nat, s.heap.size ≤ q → A q := fun q h => by rw [← hAe]; exact Or.inr h
  have hS : va_S A s.heap s.heap [] := va_S.rf
  have hf_46 := hts (.fieldLink RX2 46 "WallplanModel" "leads" "[I") (by decide +kernel)
  have hinX2 : ∀ w ∈ wsX20, w ∈ wsX2_lead := by decide +kernel
  have hl := lv_entry ([.ref o, .int p0, .int p1]) (n := 4) (Nat.le_of_ble_eq_true rfl)
  rw [lg_entry_eq]
  generalize (lg_sl ([.ref o, .int p0, .int p1]) ++ List.replicate (4 - (lg_sl ([.ref o, .int p0, .int p1])).length) Slot.unset).toArray = ls at hl ⊢
  have hl : lv_has ls 4 [(0, .ref o), (1, .int p0), (2, .int p1)] := hl
  refine lv_aload_n hx hb dX2_lead_0 rfl (lv_at hl 0 rfl) ?_
  refine hp_join 27 4 (fun x1 : Int32 => x1 = hp_c_lead p0 p1) (fun x1 => [(0, .ref o), (1, .int p0), (2, .int p1)]) (fun x1 => [.int x1, .ref o]) (fun x1 hx_2 ls hl => ?_) (fun jn_2 => ?_)
  · skip
    subst hx_2
    have hFc := hp_free (hD v r n) hS hA
    refine va_calli (va_runV (As := [.int (hp_c_lead p0 p1)]) (rest := []) ⟨hx, hb, hml, hown, hts⟩ (c_X2_refused l dC dI cI cZ cO cJ o a v r n s.heap.size (hp_c_lead p0 p1)) (cwV 1 hts gX2_lead_X2_refused rfl rfl rfl (by decide +kernel) ⟨(Nat.le_of_ble_eq_true rfl), (Nat.le_of_ble_eq_true rfl)⟩) ⟨hp_mfb, va_recv hK hP (ci := 2) (q0 := 0) rfl hp_M_o, fun U hU hW => ⟨rfl, hp_mto hP hK (hD _ _ _) hU hW⟩⟩ rfl rfl hl.1 rfl (lv_room (Nat.le_of_ble_eq_true rfl)) dX2_lead_27 ⟨(Nat.zero_le _), (Nat.zero_le _)⟩) hS (fun q _ h => hFc q h) hFc (fun r_3 u_3 t_3 H_3 locs_3 ht _ hr_3 hB _ _ hS1 => ?_)
    replace hP : va_P (dC, dI) vwCl (hp_M cI cZ o a (va_up v 0 (hp_c_lead p0 p1)) r n) H_3 := hp_th ht hB
    replace hS := hS1
    clear hS1 hB ht hFc
    subst hr_3
    refine lv_if_eq (tgt := 35) hx hb dX2_lead_30 (by decide) (fun c_4 => ?_) (fun c_4 => ?_)
    · skip
      have c_4 := hp_bz c_4
      have hc := hp_eq0 c_4
      obtain ⟨g1, g2, g3⟩ := hp_cd0 hc
      refine lv_aload_n hx hb dX2_lead_35 rfl (lv_at hl 0 rfl) ?_
      refine va_get (D := (dC, dI)) (ci := 2) (v := .ref (a 16)) (C := RX2) (T := TX2) (N := 18) hx hb hts hinX2 hown hK hP 0 hp_M_o rfl 16 (by decide) hf_46 (fun _ h9 => h9) rfl dX2_lead_36 ?_
      refine lv_iload_n hx hb dX2_lead_39 rfl (lv_at hl 1 rfl) ?_
      refine hp_ialdx (v := r 16 p0.toNatClampNeg) hx hb hK hP 13 0 hp_M_16 rfl (i := p0) (hp_vin (hp_kd_ix g1) (by decide) (by decide)) rfl dX2_lead_40 ?_
      refine lv_istore_n (lv' := [(3, .int (r 16 p0.toNatClampNeg)), (0, .ref o), (1, .int p0), (2, .int p1)]) hx hb dX2_lead_41 rfl hl (by decide) rfl (fun ls hl => ?_)
      refine lv_aload_n hx hb dX2_lead_42 rfl (lv_at hl 1 rfl) ?_
      refine va_get (D := (dC, dI)) (ci := 2) (v := .ref (a 16)) (C := RX2) (T := TX2) (N := 18) hx hb hts hinX2 hown hK hP 0 hp_M_o rfl 16 (by decide) hf_46 (fun _ h9 => h9) rfl dX2_lead_43 ?_
      refine lv_iload_n hx hb dX2_lead_46 rfl (lv_at hl 2 rfl) ?_
      refine lv_iload_n hx hb dX2_lead_47 rfl (lv_at hl 3 rfl) ?_
      refine va_iast hx hb hK hP (hD _ _ _) hS 13 0 hp_M_16 rfl (i := p0) (x := p1) (hp_vin (hp_kd_ix g1) (by decide) (by decide)) dX2_lead_48 (fun H_5 locs_5 hP1 _ hS1 => ?_)
      replace hP : va_P (dC, dI) vwCl (hp_M cI cZ o a (va_up v 0 (hp_c_lead p0 p1)) (hp_set r 16 p0.toNatClampNeg p1) n) H_5 := hp_cP hp_M_s16 hP1
      replace hS := hS1
      clear hP1 hS1
      refine lv_iload_n hx hb dX2_lead_49 rfl (lv_at hl 0 rfl) ?_
      have hP9 : va_P (dC, dI) vwCl (hp_M cI cZ o a (va_up v 0 (hp_c_lead p0 p1)) (hp_r_lead r p0 p1) n) H_5 := by simp only [hp_r_lead, if_pos hc]; exact hP
      exact W.iret (v := r 16 p0.toNatClampNeg) hx hb hr (fun t ht hW => ⟨⟨r 16 p0.toNatClampNeg, (), rfl, (by rw [hp_a_lead, if_pos hc]), hp_ht ht hP9⟩, hS.F ht⟩) hS.2.2 dX2_lead_50
    · skip
      have c_4 := hp_bn c_4
      have hc := hp_ne0 c_4
      refine lv_iconst (v := 0) hx hb dX2_lead_33 (by decide) ?_
      have hP9 : va_P (dC, dI) vwCl (hp_M cI cZ o a (va_up v 0 (hp_c_lead p0 p1)) (hp_r_lead r p0 p1) n) H_3 := by simp only [hp_r_lead, if_neg hc]; exact hP
      exact W.iret (v := 0) hx hb hr (fun t ht hW => ⟨⟨0, (), rfl, (by rw [hp_a_lead, if_neg hc]), hp_ht ht hP9⟩, hS.F ht⟩) hS.2.2 dX2_lead_34
  · skip
    refine lv_iload_n hx hb dX2_lead_1 rfl (lv_at hl 1 rfl) ?_
    refine vp_callSi (W.runS (As := [.int p0]) (rest := [.ref o]) ⟨hx, hb, hml, hown, hts⟩ (c_X2_isTrade l p0) (va_cwS 1 hts gX2_lead_X2_isTrade rfl rfl rfl (by decide +kernel) ⟨(Nat.le_of_ble_eq_true rfl), (Nat.le_of_ble_eq_true rfl)⟩) ⟨hp_nfb, fun _ _ _ => ⟨rfl, trivial⟩⟩ rfl rfl hl.1 rfl (lv_room (Nat.le_of_ble_eq_true rfl)) dX2_lead_2 ⟨(Nat.zero_le _), (Nat.zero_le _)⟩) (fun r_6 hr_6 => ?_)
    subst hr_6
    refine lv_if_ne (tgt := 12) hx hb dX2_lead_5 (by decide) (fun c_7 => ?_) (fun c_7 => ?_)
    · skip
      have c_7 := hp_bn c_7
      refine lv_iload_n hx hb dX2_lead_12 rfl (lv_at hl 2 rfl) ?_
      refine lv_iconst (v := 0) hx hb dX2_lead_13 (by decide) ?_
      refine lv_bipush (v := 100) hx hb dX2_lead_14 (by decide) ?_
      refine vp_callSi (W.runS (As := [.int p1, .int 0, .int 100]) (rest := [.ref o]) ⟨hx, hb, hml, hown, hts⟩ (c_X2_in l p1 0 100) (va_cwS 3 hts gX2_lead_X2_in rfl rfl rfl (by decide +kernel) ⟨(Nat.le_of_ble_eq_true rfl), (Nat.le_of_ble_eq_true rfl)⟩) ⟨hp_nfb, fun _ _ _ => ⟨rfl, trivial⟩⟩ rfl rfl hl.1 rfl (lv_room (Nat.le_of_ble_eq_true rfl)) dX2_lead_16 ⟨(Nat.zero_le _), (Nat.zero_le _)⟩) (fun r_8 hr_8 => ?_)
      subst hr_8
      refine lv_if_ne (tgt := 26) hx hb dX2_lead_19 (by decide) (fun c_9 => ?_) (fun c_9 => ?_)
      · skip
        have c_9 := hp_bn c_9
        refine lv_iconst (v := 0) hx hb dX2_lead_26 (by decide) ?_
        exact jn_2 0 (by exact hp_cdz (by (first | assumption | (simp [c_7, c_9]; done))) (by (first | assumption | (simp [c_7, c_9]; done))) (by (first | assumption | (simp [c_7, c_9]; done)))) _ (lv_sub hl [0, 1, 2] rfl)
      · skip
        have c_9 := hp_bz c_9
        refine lv_iconst (v := 2) hx hb dX2_lead_22 (by decide) ?_
        refine lv_goto (tgt := 27) hx hb dX2_lead_23 (by decide) ?_
        exact jn_2 2 (by exact hp_cd2 (by (first | assumption | (simp [c_7, c_9]; done))) (by (first | assumption | (simp [c_7, c_9]; done)))) _ (lv_sub hl [0, 1, 2] rfl)
    · skip
      have c_7 := hp_bz c_7
      refine lv_iconst (v := 1) hx hb dX2_lead_8 (by decide) ?_
      refine lv_goto (tgt := 27) hx hb dX2_lead_9 (by decide) ?_
      exact jn_2 1 (by exact hp_cd1 (by (first | assumption | (simp [c_7]; done)))) _ (lv_sub hl [0, 1, 2] rfl)
set_option maxHeartbeats 400000 in
set_option maxRecDepth 100000 in
theorem c_X2_order (l : Launch) (dC : Nat → ClassId) (dI : Nat → Nat → Nat) (cI cZ cO cJ : ClassId) (o : Nat) (a : Nat → Nat) (v : Nat → Int32) (r : Nat → Nat → Int32) (n : Nat) (sz : Nat)  (p0 : Int32) (hinv : hp_inv v r n) : Met l yX2_order wsX2_order ({ frames := 3, cells := 0, slots := 0, locals := 62 }) (va_Pc [.ref o, .int p0] (hp_prm (dC, dI) cI cZ cO cJ (hp_M cI cZ o a v r n) sz)) (va_Qi (S := Unit) (fun x9 _ => x9 = hp_a_order r n p0) (fun _ t9 => va_P (dC, dI) vwCl (hp_M cI cZ o a (va_up v 0 (hp_c_sta r n p0 0)) (hp_r_order v r n p0) n) t9.heap) (va_A (hp_M cI cZ o a v r n) sz)) 0 0 (va_A (hp_M cI cZ o a v r n) sz) := by
  refine Met.ofW (cc := cX2_order) (maxL := 3) (ret := (some .int)) (by decide) rfl ?_
  intro p e s m args below meth c s₁ B hml hv
  obtain ⟨rfl, hsz, hP, hK, hD0⟩ := hv
  have hx := B.exec
  have hb := B.bytes
  have hr := B.returns
  have hts := atoms_spec (ws := wsX2_order) B.pre
  have hown : s.vm.findClass RX2 = some m.cls := findClass_of_methodNamed B.named
  have hlocks := B.notSynchronized
  subst hsz
  have hD := hD0.self (sz := s.heap.size)
  generalize hAe : va_A (hp_M cI cZ o a v r n) s.heap.size = A at hD ⊢
  replace hD : ∀ v r n, va_D A (hp_M cI cZ o a v r n) := fun _ _ _ => hp_dM hD
  have hA : ∀ q : Nat, s.heap.size ≤ q → A q := fun q h => by rw [← hAe]; exact Or.inr h
  have hS : va_S A s.heap s.heap [] := va_S.rf
  have hf_7 := hts (.fieldLink RX2 7 "WallplanModel" "kind" "[I") (by decide +kernel)
  have hf_28 := hts (.fieldLink RX2 28 "WallplanModel" "state" "[I") (by decide +kernel)
  have hf_37 := hts (.fieldLink RX2 37 "WallplanModel" "due" "[I") (by decide +kernel)
  have hf_46 := hts (.fieldLink RX2 46 "WallplanModel" "leads" "[I") (by decide +kernel)
  have hf_97 := hts (.fieldLink RX2 97 "WallplanModel" "day" "I") (by decide +kernel)
  have hinX2 : ∀ w ∈ wsX20, w ∈ wsX2_order := by decide +kernel
  have hl := lv_entry ([.ref o, .int p0]) (n := 3) (Nat.le_of_ble_eq_true rfl)
  rw [lg_entry_eq]
  generalize (lg_sl ([.ref o, .int p0]) ++ List.replicate (3 - (lg_sl ([.ref o, .int p0])).length) Slot.unset).toArray = ls at hl ⊢
  have hl : lv_has ls 3 [(0, .ref o), (1, .int p0)] := hl
  have hn := hinv.1
  refine lv_aload_n hx hb dX2_order_0 rfl (lv_at hl 0 rfl) ?_
  refine lv_iload_n hx hb dX2_order_1 rfl (lv_at hl 1 rfl) ?_
  refine vp_callSi (W.runV (As := [.int p0]) (rest := []) ⟨hx, hb, hml, hown, hts⟩ (c_X2_isElement l dC dI cI cZ cO cJ o a v r n p0) (cwV 1 hts gX2_order_X2_isElement rfl rfl rfl (by decide +kernel) ⟨(Nat.le_of_ble_eq_true rfl), (Nat.le_of_ble_eq_true rfl)⟩) ⟨hp_fb, va_recv hK hP (ci := 2) (q0 := 0) rfl hp_M_o, fun U hU hW => ⟨rfl, hp_to hP hK hU hW⟩⟩ rfl rfl hl.1 rfl (lv_room (Nat.le_of_ble_eq_true rfl)) dX2_order_2 ⟨(Nat.zero_le _), (Nat.zero_le _)⟩) (fun r_1 hr_1 => ?_)
  subst hr_1
  refine lv_istore_n (lv' := [(2, .int (hp_b (hp_el n p0))), (0, .ref o), (1, .int p0)]) hx hb dX2_order_5 rfl hl (by decide) rfl (fun ls hl => ?_)
  refine lv_aload_n hx hb dX2_order_6 rfl (lv_at hl 1 rfl) ?_
  refine hp_join 29 3 (fun x2 : Int32 => x2 = hp_c_sta r n p0 0) (fun x2 => [(2, .int (hp_b (hp_el n p0))), (0, .ref o), (1, .int p0)]) (fun x2 => [.int x2, .ref o]) (fun x2 hx_3 ls hl => ?_) (fun jn_3 => ?_)
  · skip
    subst hx_3
    have hFc := hp_free (hD v r n) hS hA
    refine va_calli (va_runV (As := [.int (hp_c_sta r n p0 0)]) (rest := []) ⟨hx, hb, hml, hown, hts⟩ (c_X2_refused l dC dI cI cZ cO cJ o a v r n s.heap.size (hp_c_sta r n p0 0)) (cwV 1 hts gX2_order_X2_refused rfl rfl rfl (by decide +kernel) ⟨(Nat.le_of_ble_eq_true rfl), (Nat.le_of_ble_eq_true rfl)⟩) ⟨hp_mfb, va_recv hK hP (ci := 2) (q0 := 0) rfl hp_M_o, fun U hU hW => ⟨rfl, hp_mto hP hK (hD _ _ _) hU hW⟩⟩ rfl rfl hl.1 rfl (lv_room (Nat.le_of_ble_eq_true rfl)) dX2_order_29 ⟨(Nat.zero_le _), (Nat.zero_le _)⟩) hS (fun q _ h => hFc q h) hFc (fun r_4 u_4 t_4 H_4 locs_4 ht _ hr_4 hB _ _ hS1 => ?_)
    replace hP : va_P (dC, dI) vwCl (hp_M cI cZ o a (va_up v 0 (hp_c_sta r n p0 0)) r n) H_4 := hp_th ht hB
    replace hS := hS1
    clear hS1 hB ht hFc
    subst hr_4
    refine lv_if_eq (tgt := 37) hx hb dX2_order_32 (by decide) (fun c_5 => ?_) (fun c_5 => ?_)
    · skip
      have c_5 := hp_bz c_5
      have hc := hp_eq0 c_5
      obtain ⟨g1, g2, g3⟩ := hp_cd0 hc
      have xp := hp_el_ix hn g1
      refine lv_aload_n hx hb dX2_order_37 rfl (lv_at hl 1 rfl) ?_
      refine va_get (D := (dC, dI)) (ci := 2) (v := .ref (a 13)) (C := RX2) (T := TX2) (N := 18) hx hb hts hinX2 hown hK hP 0 hp_M_o rfl 13 (by decide) hf_37 (fun _ h9 => h9) rfl dX2_order_38 ?_
      refine lv_iload_n hx hb dX2_order_41 rfl (lv_at hl 2 rfl) ?_
      refine lv_aload_n hx hb dX2_order_42 rfl (lv_at hl 1 rfl) ?_
      refine va_get (D := (dC, dI)) (ci := 2) (v := .int (v 1)) (C := RX2) (T := TX2) (N := 18) hx hb hts hinX2 hown hK hP 0 hp_M_o rfl 1 (by decide) hf_97 (fun _ h9 => h9) rfl dX2_order_43 ?_
      refine lv_aload_n hx hb dX2_order_46 rfl (lv_at hl 1 rfl) ?_
      refine va_get (D := (dC, dI)) (ci := 2) (v := .ref (a 16)) (C := RX2) (T := TX2) (N := 18) hx hb hts hinX2 hown hK hP 0 hp_M_o rfl 16 (by decide) hf_46 (fun _ h9 => h9) rfl dX2_order_47 ?_
      refine lv_aload_n hx hb dX2_order_50 rfl (lv_at hl 1 rfl) ?_
      refine va_get (D := (dC, dI)) (ci := 2) (v := .ref (a 4)) (C := RX2) (T := TX2) (N := 18) hx hb hts hinX2 hown hK hP 0 hp_M_o rfl 4 (by decide) hf_7 (fun _ h9 => h9) rfl dX2_order_51 ?_
      refine lv_iload_n hx hb dX2_order_54 rfl (lv_at hl 2 rfl) ?_
      refine hp_ialdx (v := r 4 p0.toNatClampNeg) hx hb hK hP 1 0 hp_M_4 rfl (i := p0) (hp_vin xp hn (by decide)) rfl dX2_order_55 ?_
      refine hp_ialdx (v := r 16 ((r 4 p0.toNatClampNeg).toNatClampNeg)) hx hb hK hP 13 0 hp_M_16 rfl (i := r 4 p0.toNatClampNeg) (by exact hp_kd_in (hinv.2.1 _ xp.2)) rfl dX2_order_56 ?_
      refine lv_iadd hx hb dX2_order_57 ?_
      refine va_iast hx hb hK hP (hD _ _ _) hS 10 0 hp_M_13 rfl (i := p0) (x := (v 1) + (r 16 ((r 4 p0.toNatClampNeg).toNatClampNeg))) (hp_vin xp hn (by decide)) dX2_order_58 (fun H_6 locs_6 hP1 _ hS1 => ?_)
      replace hP : va_P (dC, dI) vwCl (hp_M cI cZ o a (va_up v 0 (hp_c_sta r n p0 0)) (hp_set r 13 p0.toNatClampNeg ((v 1) + (r 16 ((r 4 p0.toNatClampNeg).toNatClampNeg)))) n) H_6 := hp_cP hp_M_s13 hP1
      replace hS := hS1
      clear hP1 hS1
      refine lv_aload_n hx hb dX2_order_59 rfl (lv_at hl 1 rfl) ?_
      refine va_get (D := (dC, dI)) (ci := 2) (v := .ref (a 10)) (C := RX2) (T := TX2) (N := 18) hx hb hts hinX2 hown hK hP 0 hp_M_o rfl 10 (by decide) hf_28 (fun _ h9 => h9) rfl dX2_order_60 ?_
      refine lv_iload_n hx hb dX2_order_63 rfl (lv_at hl 2 rfl) ?_
      refine hp_join 82 3 (fun x7 : Int32 => x7 = (if hp_due v r p0.toNatClampNeg = v 1 then 2 else 1)) (fun x7 => [(2, .int (hp_b (hp_el n p0))), (0, .ref o), (1, .int p0)]) (fun x7 => [.int x7, .int p0, .ref (a 10)]) (fun x7 hx_8 ls hl => ?_) (fun jn_8 => ?_)
      · skip
        subst hx_8
        refine va_iast hx hb hK hP (hD _ _ _) hS 7 0 hp_M_10 rfl (i := p0) (x := if hp_due v r p0.toNatClampNeg = v 1 then 2 else 1) (hp_vin xp hn (by decide)) dX2_order_82 (fun H_9 locs_9 hP1 _ hS1 => ?_)
        replace hP : va_P (dC, dI) vwCl (hp_M cI cZ o a (va_up v 0 (hp_c_sta r n p0 0)) (hp_set (hp_set r 13 p0.toNatClampNeg ((v 1) + (r 16 ((r 4 p0.toNatClampNeg).toNatClampNeg)))) 10 p0.toNatClampNeg (if hp_due v r p0.toNatClampNeg = v 1 then 2 else 1)) n) H_9 := hp_cP hp_M_s10 hP1
        replace hS := hS1
        clear hP1 hS1
        refine lv_aload_n hx hb dX2_order_83 rfl (lv_at hl 1 rfl) ?_
        refine lv_iload_n hx hb dX2_order_84 rfl (lv_at hl 2 rfl) ?_
        refine vp_callSi (W.runV (As := [.int p0]) (rest := []) ⟨hx, hb, hml, hown, hts⟩ (c_X2_partsOf l dC dI cI cZ cO cJ o a (va_up v 0 (hp_c_sta r n p0 0)) (hp_set (hp_set r 13 p0.toNatClampNeg ((v 1) + (r 16 ((r 4 p0.toNatClampNeg).toNatClampNeg)))) 10 p0.toNatClampNeg (if hp_due v r p0.toNatClampNeg = v 1 then 2 else 1)) n p0.toNatClampNeg p0 (xp.1) (by have := xp.2; omega) (hp_kd_in (r := r) (hinv.2.1 _ xp.2)) (hp_pc_ne (r := r) hinv xp.2)) (cwV 1 hts gX2_order_X2_partsOf rfl rfl rfl (by decide +kernel) ⟨(Nat.le_of_ble_eq_true rfl), (Nat.le_of_ble_eq_true rfl)⟩) ⟨hp_fb, va_recv hK hP (ci := 2) (q0 := 0) rfl hp_M_o, fun U hU hW => ⟨rfl, hp_to hP hK hU hW⟩⟩ rfl rfl hl.1 rfl (lv_room (Nat.le_of_ble_eq_true rfl)) dX2_order_85 ⟨(Nat.zero_le _), (Nat.zero_le _)⟩) (fun r_10 hr_10 => ?_)
        subst hr_10
        have hP9 : va_P (dC, dI) vwCl (hp_M cI cZ o a (va_up v 0 (hp_c_sta r n p0 0)) (hp_r_order v r n p0) n) H_9 := by simp only [hp_r_order, if_pos hc]; exact hP
        exact W.iret (v := hp_par (hp_set (hp_set r 13 p0.toNatClampNeg ((v 1) + (r 16 ((r 4 p0.toNatClampNeg).toNatClampNeg)))) 10 p0.toNatClampNeg (if hp_due v r p0.toNatClampNeg = v 1 then 2 else 1)) p0.toNatClampNeg) hx hb hr (fun t ht hW => ⟨⟨hp_par (hp_set (hp_set r 13 p0.toNatClampNeg ((v 1) + (r 16 ((r 4 p0.toNatClampNeg).toNatClampNeg)))) 10 p0.toNatClampNeg (if hp_due v r p0.toNatClampNeg = v 1 then 2 else 1)) p0.toNatClampNeg, (), rfl, (by rw [hp_a_order, if_pos hc]; rfl), hp_ht ht hP9⟩, hS.F ht⟩) hS.2.2 dX2_order_88
      · skip
        refine lv_aload_n hx hb dX2_order_64 rfl (lv_at hl 1 rfl) ?_
        refine va_get (D := (dC, dI)) (ci := 2) (v := .ref (a 13)) (C := RX2) (T := TX2) (N := 18) hx hb hts hinX2 hown hK hP 0 hp_M_o rfl 13 (by decide) hf_37 (fun _ h9 => h9) rfl dX2_order_65 ?_
        refine lv_iload_n hx hb dX2_order_68 rfl (lv_at hl 2 rfl) ?_
        refine hp_ialdx (v := ((v 1) + (r 16 ((r 4 p0.toNatClampNeg).toNatClampNeg)))) hx hb hK hP 10 0 hp_M_13 rfl (i := p0) (hp_vin xp hn (by decide)) pk_us dX2_order_69 ?_
        refine lv_aload_n hx hb dX2_order_70 rfl (lv_at hl 1 rfl) ?_
        refine va_get (D := (dC, dI)) (ci := 2) (v := .int (v 1)) (C := RX2) (T := TX2) (N := 18) hx hb hts hinX2 hown hK hP 0 hp_M_o rfl 1 (by decide) hf_97 (fun _ h9 => h9) rfl dX2_order_71 ?_
        refine lv_icmp_ne (tgt := 81) hx hb dX2_order_74 (by decide) (fun c_11 => ?_) (fun c_11 => ?_)
        · skip
          refine lv_iconst (v := 1) hx hb dX2_order_81 (by decide) ?_
          exact jn_8 1 (by exact (if_neg c_11).symm) _ (lv_sub hl [0, 1, 2] rfl)
        · skip
          refine lv_iconst (v := 2) hx hb dX2_order_77 (by decide) ?_
          refine lv_goto (tgt := 82) hx hb dX2_order_78 (by decide) ?_
          exact jn_8 2 (by exact (if_pos c_11).symm) _ (lv_sub hl [0, 1, 2] rfl)
    · skip
      have c_5 := hp_bn c_5
      have hc := hp_ne0 c_5
      refine lv_iconst (v := 0) hx hb dX2_order_35 (by decide) ?_
      have hP9 : va_P (dC, dI) vwCl (hp_M cI cZ o a (va_up v 0 (hp_c_sta r n p0 0)) (hp_r_order v r n p0) n) H_4 := by simp only [hp_r_order, if_neg hc]; exact hP
      exact W.iret (v := 0) hx hb hr (fun t ht hW => ⟨⟨0, (), rfl, (by rw [hp_a_order, if_neg hc]), hp_ht ht hP9⟩, hS.F ht⟩) hS.2.2 dX2_order_36
  · skip
    refine lv_iload_n hx hb dX2_order_7 rfl (lv_at hl 0 rfl) ?_
    refine lv_if_ne (tgt := 15) hx hb dX2_order_8 (by decide) (fun c_12 => ?_) (fun c_12 => ?_)
    · skip
      have c_12 := hp_bn c_12
      have xp := hp_el_ix hn c_12
      refine lv_aload_n hx hb dX2_order_15 rfl (lv_at hl 1 rfl) ?_
      refine va_get (D := (dC, dI)) (ci := 2) (v := .ref (a 10)) (C := RX2) (T := TX2) (N := 18) hx hb hts hinX2 hown hK hP 0 hp_M_o rfl 10 (by decide) hf_28 (fun _ h9 => h9) rfl dX2_order_16 ?_
      refine lv_iload_n hx hb dX2_order_19 rfl (lv_at hl 2 rfl) ?_
      refine hp_ialdx (v := r 10 p0.toNatClampNeg) hx hb hK hP 7 0 hp_M_10 rfl (i := p0) (hp_vin xp hn (by decide)) rfl dX2_order_20 ?_
      refine lv_if_eq (tgt := 28) hx hb dX2_order_21 (by decide) (fun c_13 => ?_) (fun c_13 => ?_)
      · skip
        refine lv_iconst (v := 0) hx hb dX2_order_28 (by decide) ?_
        exact jn_3 0 (by exact hp_cdz (by (first | assumption | (simp [c_12, c_13]; done))) (by (first | assumption | (simp [c_12, c_13]; done))) (by (first | assumption | (simp [c_12, c_13]; done)))) _ (lv_sub hl [0, 1, 2] rfl)
      · skip
        refine lv_iconst (v := 2) hx hb dX2_order_24 (by decide) ?_
        refine lv_goto (tgt := 29) hx hb dX2_order_25 (by decide) ?_
        exact jn_3 2 (by exact hp_cd2 (by (first | assumption | (simp [c_12, c_13]; done))) (by (first | assumption | (simp [c_12, c_13]; done)))) _ (lv_sub hl [0, 1, 2] rfl)
    · skip
      have c_12 := hp_bz c_12
      refine lv_iconst (v := 1) hx hb dX2_order_11 (by decide) ?_
      refine lv_goto (tgt := 29) hx hb dX2_order_12 (by decide) ?_
      exact jn_3 1 (by exact hp_cd1 (by (first | assumption | (simp [c_12]; done)))) _ (lv_sub hl [0, 1, 2] rfl)
set_option maxHeartbeats 400000 in
set_option maxRecDepth 100000 in
theorem c_X2_cancel (l : Launch) (dC : Nat → ClassId) (dI : Nat → Nat → Nat) (cI cZ cO cJ : ClassId) (o : Nat) (a : Nat → Nat) (v : Nat → Int32) (r : Nat → Nat → Int32) (n : Nat) (sz : Nat)  (p0 : Int32) (hinv : hp_inv v r n) : Met l yX2_cancel wsX2_cancel ({ frames := 2, cells := 0, slots := 0, locals := 43 }) (va_Pc [.ref o, .int p0] (hp_prm (dC, dI) cI cZ cO cJ (hp_M cI cZ o a v r n) sz)) (va_Qi (S := Unit) (fun x9 _ => x9 = hp_a_cancel v r n p0) (fun _ t9 => va_P (dC, dI) vwCl (hp_M cI cZ o a (va_up v 0 (hp_c_sta r n p0 1)) (hp_r_cancel r n p0) n) t9.heap) (va_A (hp_M cI cZ o a v r n) sz)) 0 0 (va_A (hp_M cI cZ o a v r n) sz) := by
  refine Met.ofW (cc := cX2_cancel) (maxL := 3) (ret := (some .int)) (by decide) rfl ?_
  intro p e s m args below meth c s₁ B hml hv
  obtain ⟨rfl, hsz, hP, hK, hD0⟩ := hv
  have hx := B.exec
  have hb := B.bytes
  have hr := B.returns
  have hts := atoms_spec (ws := wsX2_cancel) B.pre
  have hown : s.vm.findClass RX2 = some m.cls := findClass_of_methodNamed B.named
  have hlocks := B.notSynchronized
  subst hsz
  have hD := hD0.self (sz := s.heap.size)
  generalize hAe : va_A (hp_M cI cZ o a v r n) s.heap.size = A at hD ⊢
  replace hD : ∀ v r n, va_D A (hp_M cI cZ o a v r n) := fun _ _ _ => hp_dM hD
  have hA : ∀ q : Nat, s.heap.size ≤ q → A q := fun q h => by rw [← hAe]; exact Or.inr h
  have hS : va_S A s.heap s.heap [] := va_S.rf
  have hf_28 := hts (.fieldLink RX2 28 "WallplanModel" "state" "[I") (by decide +kernel)
  have hf_37 := hts (.fieldLink RX2 37 "WallplanModel" "due" "[I") (by decide +kernel)
  have hf_97 := hts (.fieldLink RX2 97 "WallplanModel" "day" "I") (by decide +kernel)
  have hinX2 : ∀ w ∈ wsX20, w ∈ wsX2_cancel := by decide +kernel
  have hl := lv_entry ([.ref o, .int p0]) (n := 3) (Nat.le_of_ble_eq_true rfl)
  rw [lg_entry_eq]
  generalize (lg_sl ([.ref o, .int p0]) ++ List.replicate (3 - (lg_sl ([.ref o, .int p0])).length) Slot.unset).toArray = ls at hl ⊢
  have hl : lv_has ls 3 [(0, .ref o), (1, .int p0)] := hl
  have hn := hinv.1
  refine lv_aload_n hx hb dX2_cancel_0 rfl (lv_at hl 0 rfl) ?_
  refine lv_iload_n hx hb dX2_cancel_1 rfl (lv_at hl 1 rfl) ?_
  refine vp_callSi (W.runV (As := [.int p0]) (rest := []) ⟨hx, hb, hml, hown, hts⟩ (c_X2_isElement l dC dI cI cZ cO cJ o a v r n p0) (cwV 1 hts gX2_cancel_X2_isElement rfl rfl rfl (by decide +kernel) ⟨(Nat.le_of_ble_eq_true rfl), (Nat.le_of_ble_eq_true rfl)⟩) ⟨hp_fb, va_recv hK hP (ci := 2) (q0 := 0) rfl hp_M_o, fun U hU hW => ⟨rfl, hp_to hP hK hU hW⟩⟩ rfl rfl hl.1 rfl (lv_room (Nat.le_of_ble_eq_true rfl)) dX2_cancel_2 ⟨(Nat.zero_le _), (Nat.zero_le _)⟩) (fun r_1 hr_1 => ?_)
  subst hr_1
  refine lv_istore_n (lv' := [(2, .int (hp_b (hp_el n p0))), (0, .ref o), (1, .int p0)]) hx hb dX2_cancel_5 rfl hl (by decide) rfl (fun ls hl => ?_)
  refine lv_aload_n hx hb dX2_cancel_6 rfl (lv_at hl 1 rfl) ?_
  refine hp_join 30 3 (fun x2 : Int32 => x2 = hp_c_sta r n p0 1) (fun x2 => [(2, .int (hp_b (hp_el n p0))), (0, .ref o), (1, .int p0)]) (fun x2 => [.int x2, .ref o]) (fun x2 hx_3 ls hl => ?_) (fun jn_3 => ?_)
  · skip
    subst hx_3
    have hFc := hp_free (hD v r n) hS hA
    refine va_calli (va_runV (As := [.int (hp_c_sta r n p0 1)]) (rest := []) ⟨hx, hb, hml, hown, hts⟩ (c_X2_refused l dC dI cI cZ cO cJ o a v r n s.heap.size (hp_c_sta r n p0 1)) (cwV 1 hts gX2_cancel_X2_refused rfl rfl rfl (by decide +kernel) ⟨(Nat.le_of_ble_eq_true rfl), (Nat.le_of_ble_eq_true rfl)⟩) ⟨hp_mfb, va_recv hK hP (ci := 2) (q0 := 0) rfl hp_M_o, fun U hU hW => ⟨rfl, hp_mto hP hK (hD _ _ _) hU hW⟩⟩ rfl rfl hl.1 rfl (lv_room (Nat.le_of_ble_eq_true rfl)) dX2_cancel_30 ⟨(Nat.zero_le _), (Nat.zero_le _)⟩) hS (fun q _ h => hFc q h) hFc (fun r_4 u_4 t_4 H_4 locs_4 ht _ hr_4 hB _ _ hS1 => ?_)
    replace hP : va_P (dC, dI) vwCl (hp_M cI cZ o a (va_up v 0 (hp_c_sta r n p0 1)) r n) H_4 := hp_th ht hB
    replace hS := hS1
    clear hS1 hB ht hFc
    subst hr_4
    refine lv_if_eq (tgt := 38) hx hb dX2_cancel_33 (by decide) (fun c_5 => ?_) (fun c_5 => ?_)
    · skip
      have c_5 := hp_bz c_5
      have hc := hp_eq0 c_5
      obtain ⟨g1, g2, g3⟩ := hp_cd0 hc
      have xp := hp_el_ix hn g1
      refine lv_aload_n hx hb dX2_cancel_38 rfl (lv_at hl 1 rfl) ?_
      refine va_get (D := (dC, dI)) (ci := 2) (v := .ref (a 10)) (C := RX2) (T := TX2) (N := 18) hx hb hts hinX2 hown hK hP 0 hp_M_o rfl 10 (by decide) hf_28 (fun _ h9 => h9) rfl dX2_cancel_39 ?_
      refine lv_iload_n hx hb dX2_cancel_42 rfl (lv_at hl 2 rfl) ?_
      refine lv_iconst (v := 0) hx hb dX2_cancel_43 (by decide) ?_
      refine va_iast hx hb hK hP (hD _ _ _) hS 7 0 hp_M_10 rfl (i := p0) (x := 0) (hp_vin xp hn (by decide)) dX2_cancel_44 (fun H_6 locs_6 hP1 _ hS1 => ?_)
      replace hP : va_P (dC, dI) vwCl (hp_M cI cZ o a (va_up v 0 (hp_c_sta r n p0 1)) (hp_set r 10 p0.toNatClampNeg 0) n) H_6 := hp_cP hp_M_s10 hP1
      replace hS := hS1
      clear hP1 hS1
      refine lv_aload_n hx hb dX2_cancel_45 rfl (lv_at hl 1 rfl) ?_
      refine va_get (D := (dC, dI)) (ci := 2) (v := .ref (a 13)) (C := RX2) (T := TX2) (N := 18) hx hb hts hinX2 hown hK hP 0 hp_M_o rfl 13 (by decide) hf_37 (fun _ h9 => h9) rfl dX2_cancel_46 ?_
      refine lv_iload_n hx hb dX2_cancel_49 rfl (lv_at hl 2 rfl) ?_
      refine hp_ialdx (v := r 13 p0.toNatClampNeg) hx hb hK hP 10 0 hp_M_13 rfl (i := p0) (hp_vin xp hn (by decide)) rfl dX2_cancel_50 ?_
      refine lv_aload_n hx hb dX2_cancel_51 rfl (lv_at hl 1 rfl) ?_
      refine va_get (D := (dC, dI)) (ci := 2) (v := .int (v 1)) (C := RX2) (T := TX2) (N := 18) hx hb hts hinX2 hown hK hP 0 hp_M_o rfl 1 (by decide) hf_97 (fun _ h9 => h9) rfl dX2_cancel_52 ?_
      refine lv_isub hx hb dX2_cancel_55 ?_
      have hP9 : va_P (dC, dI) vwCl (hp_M cI cZ o a (va_up v 0 (hp_c_sta r n p0 1)) (hp_r_cancel r n p0) n) H_6 := by simp only [hp_r_cancel, if_pos hc]; exact hP
      exact W.iret (v := (r 13 p0.toNatClampNeg) - (v 1)) hx hb hr (fun t ht hW => ⟨⟨(r 13 p0.toNatClampNeg) - (v 1), (), rfl, (by rw [hp_a_cancel, if_pos hc]), hp_ht ht hP9⟩, hS.F ht⟩) hS.2.2 dX2_cancel_56
    · skip
      have c_5 := hp_bn c_5
      have hc := hp_ne0 c_5
      refine lv_iconst (v := 0) hx hb dX2_cancel_36 (by decide) ?_
      have hP9 : va_P (dC, dI) vwCl (hp_M cI cZ o a (va_up v 0 (hp_c_sta r n p0 1)) (hp_r_cancel r n p0) n) H_4 := by simp only [hp_r_cancel, if_neg hc]; exact hP
      exact W.iret (v := 0) hx hb hr (fun t ht hW => ⟨⟨0, (), rfl, (by rw [hp_a_cancel, if_neg hc]), hp_ht ht hP9⟩, hS.F ht⟩) hS.2.2 dX2_cancel_37
  · skip
    refine lv_iload_n hx hb dX2_cancel_7 rfl (lv_at hl 0 rfl) ?_
    refine lv_if_ne (tgt := 15) hx hb dX2_cancel_8 (by decide) (fun c_7 => ?_) (fun c_7 => ?_)
    · skip
      have c_7 := hp_bn c_7
      have xp := hp_el_ix hn c_7
      refine lv_aload_n hx hb dX2_cancel_15 rfl (lv_at hl 1 rfl) ?_
      refine va_get (D := (dC, dI)) (ci := 2) (v := .ref (a 10)) (C := RX2) (T := TX2) (N := 18) hx hb hts hinX2 hown hK hP 0 hp_M_o rfl 10 (by decide) hf_28 (fun _ h9 => h9) rfl dX2_cancel_16 ?_
      refine lv_iload_n hx hb dX2_cancel_19 rfl (lv_at hl 2 rfl) ?_
      refine hp_ialdx (v := r 10 p0.toNatClampNeg) hx hb hK hP 7 0 hp_M_10 rfl (i := p0) (hp_vin xp hn (by decide)) rfl dX2_cancel_20 ?_
      refine lv_iconst (v := 1) hx hb dX2_cancel_21 (by decide) ?_
      refine lv_icmp_eq (tgt := 29) hx hb dX2_cancel_22 (by decide) (fun c_8 => ?_) (fun c_8 => ?_)
      · skip
        refine lv_iconst (v := 0) hx hb dX2_cancel_29 (by decide) ?_
        exact jn_3 0 (by exact hp_cdz (by (first | assumption | (simp [c_7, c_8]; done))) (by (first | assumption | (simp [c_7, c_8]; done))) (by (first | assumption | (simp [c_7, c_8]; done)))) _ (lv_sub hl [0, 1, 2] rfl)
      · skip
        refine lv_iconst (v := 2) hx hb dX2_cancel_25 (by decide) ?_
        refine lv_goto (tgt := 30) hx hb dX2_cancel_26 (by decide) ?_
        exact jn_3 2 (by exact hp_cd2 (by (first | assumption | (simp [c_7, c_8]; done))) (by (first | assumption | (simp [c_7, c_8]; done)))) _ (lv_sub hl [0, 1, 2] rfl)
    · skip
      have c_7 := hp_bz c_7
      refine lv_iconst (v := 1) hx hb dX2_cancel_11 (by decide) ?_
      refine lv_goto (tgt := 30) hx hb dX2_cancel_12 (by decide) ?_
      exact jn_3 1 (by exact hp_cd1 (by (first | assumption | (simp [c_7]; done)))) _ (lv_sub hl [0, 1, 2] rfl)
set_option maxHeartbeats 400000 in
set_option maxRecDepth 100000 in
theorem c_X2_build (l : Launch) (dC : Nat → ClassId) (dI : Nat → Nat → Nat) (cI cZ cO cJ : ClassId) (o : Nat) (a : Nat → Nat) (v : Nat → Int32) (r : Nat → Nat → Int32) (n : Nat) (sz : Nat)  (p0 : Int32) (hinv : hp_inv v r n) : Met l yX2_build wsX2_build ({ frames := 3, cells := 0, slots := 0, locals := 74 }) (va_Pc [.ref o, .int p0] (hp_prm (dC, dI) cI cZ cO cJ (hp_M cI cZ o a v r n) sz)) (va_Qi (S := Unit) (fun x9 _ => x9 = hp_b (hp_b_build r n p0)) (fun _ t9 => va_P (dC, dI) vwCl (hp_M cI cZ o a (va_up v 0 (hp_c_sta r n p0 2)) (hp_r_build r n p0) n) t9.heap) (va_A (hp_M cI cZ o a v r n) sz)) 0 0 (va_A (hp_M cI cZ o a v r n) sz) := by
  refine Met.ofW (cc := cX2_build) (maxL := 3) (ret := (some .boolean)) (by decide) rfl ?_
  intro p e s m args below meth c s₁ B hml hv
  obtain ⟨rfl, hsz, hP, hK, hD0⟩ := hv
  have hx := B.exec
  have hb := B.bytes
  have hr := B.returns
  have hts := atoms_spec (ws := wsX2_build) B.pre
  have hown : s.vm.findClass RX2 = some m.cls := findClass_of_methodNamed B.named
  have hlocks := B.notSynchronized
  subst hsz
  have hD := hD0.self (sz := s.heap.size)
  generalize hAe : va_A (hp_M cI cZ o a v r n) s.heap.size = A at hD ⊢
  replace hD : ∀ v r n, va_D A (hp_M cI cZ o a v r n) := fun _ _ _ => hp_dM hD
  have hA : ∀ q : Nat, s.heap.size ≤ q → A q := fun q h => by rw [← hAe]; exact Or.inr h
  have hS : va_S A s.heap s.heap [] := va_S.rf
  have hf_28 := hts (.fieldLink RX2 28 "WallplanModel" "state" "[I") (by decide +kernel)
  have hinX2 : ∀ w ∈ wsX20, w ∈ wsX2_build := by decide +kernel
  have hl := lv_entry ([.ref o, .int p0]) (n := 3) (Nat.le_of_ble_eq_true rfl)
  rw [lg_entry_eq]
  generalize (lg_sl ([.ref o, .int p0]) ++ List.replicate (3 - (lg_sl ([.ref o, .int p0])).length) Slot.unset).toArray = ls at hl ⊢
  have hl : lv_has ls 3 [(0, .ref o), (1, .int p0)] := hl
  have hn := hinv.1
  refine lv_aload_n hx hb dX2_build_0 rfl (lv_at hl 0 rfl) ?_
  refine lv_iload_n hx hb dX2_build_1 rfl (lv_at hl 1 rfl) ?_
  refine vp_callSi (W.runV (As := [.int p0]) (rest := []) ⟨hx, hb, hml, hown, hts⟩ (c_X2_isElement l dC dI cI cZ cO cJ o a v r n p0) (cwV 1 hts gX2_build_X2_isElement rfl rfl rfl (by decide +kernel) ⟨(Nat.le_of_ble_eq_true rfl), (Nat.le_of_ble_eq_true rfl)⟩) ⟨hp_fb, va_recv hK hP (ci := 2) (q0 := 0) rfl hp_M_o, fun U hU hW => ⟨rfl, hp_to hP hK hU hW⟩⟩ rfl rfl hl.1 rfl (lv_room (Nat.le_of_ble_eq_true rfl)) dX2_build_2 ⟨(Nat.zero_le _), (Nat.zero_le _)⟩) (fun r_1 hr_1 => ?_)
  subst hr_1
  refine lv_istore_n (lv' := [(2, .int (hp_b (hp_el n p0))), (0, .ref o), (1, .int p0)]) hx hb dX2_build_5 rfl hl (by decide) rfl (fun ls hl => ?_)
  refine lv_aload_n hx hb dX2_build_6 rfl (lv_at hl 1 rfl) ?_
  refine hp_join 30 3 (fun x2 : Int32 => x2 = hp_c_sta r n p0 2) (fun x2 => [(2, .int (hp_b (hp_el n p0))), (0, .ref o), (1, .int p0)]) (fun x2 => [.int x2, .ref o]) (fun x2 hx_3 ls hl => ?_) (fun jn_3 => ?_)
  · skip
    subst hx_3
    have hFc := hp_free (hD v r n) hS hA
    refine va_calli (va_runV (As := [.int (hp_c_sta r n p0 2)]) (rest := []) ⟨hx, hb, hml, hown, hts⟩ (c_X2_refused l dC dI cI cZ cO cJ o a v r n s.heap.size (hp_c_sta r n p0 2)) (cwV 1 hts gX2_build_X2_refused rfl rfl rfl (by decide +kernel) ⟨(Nat.le_of_ble_eq_true rfl), (Nat.le_of_ble_eq_true rfl)⟩) ⟨hp_mfb, va_recv hK hP (ci := 2) (q0 := 0) rfl hp_M_o, fun U hU hW => ⟨rfl, hp_mto hP hK (hD _ _ _) hU hW⟩⟩ rfl rfl hl.1 rfl (lv_room (Nat.le_of_ble_eq_true rfl)) dX2_build_30 ⟨(Nat.zero_le _), (Nat.zero_le _)⟩) hS (fun q _ h => hFc q h) hFc (fun r_4 u_4 t_4 H_4 locs_4 ht _ hr_4 hB _ _ hS1 => ?_)
    replace hP : va_P (dC, dI) vwCl (hp_M cI cZ o a (va_up v 0 (hp_c_sta r n p0 2)) r n) H_4 := hp_th ht hB
    replace hS := hS1
    clear hS1 hB ht hFc
    subst hr_4
    refine lv_if_ne (tgt := 44) hx hb dX2_build_33 (by decide) (fun c_5 => ?_) (fun c_5 => ?_)
    · skip
      have c_5 := hp_bn c_5
      have hc := hp_ne0 c_5
      refine lv_iconst (v := 0) hx hb dX2_build_44 (by decide) ?_
      have hP9 : va_P (dC, dI) vwCl (hp_M cI cZ o a (va_up v 0 (hp_c_sta r n p0 2)) (hp_r_build r n p0) n) H_4 := by have hb9 : ¬ hp_b_build r n p0 = true := (by simp [hp_b_build, c_5, hc]); simp only [hp_r_build, if_neg hb9]; exact hP
      exact W.zret (ty := .boolean) (v := 0) hx hb hr rfl (fun t ht hW => ⟨⟨0, (), rfl, (by exact hp_bf2 (by simp [hp_b_build, c_5, hc])), hp_ht ht hP9⟩, hS.F ht⟩) hS.2.2 dX2_build_45
    · skip
      have c_5 := hp_bz c_5
      have hc := hp_eq0 c_5
      obtain ⟨g1, g2, g3⟩ := hp_cd0 hc
      have xp := hp_el_ix hn g1
      refine lv_aload_n hx hb dX2_build_36 rfl (lv_at hl 1 rfl) ?_
      refine lv_iload_n hx hb dX2_build_37 rfl (lv_at hl 2 rfl) ?_
      refine vp_callSi (W.runV (As := [.int p0]) (rest := []) ⟨hx, hb, hml, hown, hts⟩ (c_X2_hasClash l dC dI cI cZ cO cJ o a (va_up v 0 (hp_c_sta r n p0 2)) r n p0.toNatClampNeg p0 (xp.1) (by omega) hinv) (cwV 1 hts gX2_build_X2_hasClash rfl rfl rfl (by decide +kernel) ⟨(Nat.le_of_ble_eq_true rfl), (Nat.le_of_ble_eq_true rfl)⟩) ⟨hp_fb, va_recv hK hP (ci := 2) (q0 := 0) rfl hp_M_o, fun U hU hW => ⟨rfl, hp_to hP hK hU hW⟩⟩ rfl rfl hl.1 rfl (lv_room (Nat.le_of_ble_eq_true rfl)) dX2_build_38 ⟨(Nat.zero_le _), (Nat.zero_le _)⟩) (fun r_6 hr_6 => ?_)
      subst hr_6
      refine lv_if_eq (tgt := 46) hx hb dX2_build_41 (by decide) (fun c_7 => ?_) (fun c_7 => ?_)
      · skip
        have c_7 := hp_bz c_7
        refine lv_aload_n hx hb dX2_build_46 rfl (lv_at hl 1 rfl) ?_
        refine va_get (D := (dC, dI)) (ci := 2) (v := .ref (a 10)) (C := RX2) (T := TX2) (N := 18) hx hb hts hinX2 hown hK hP 0 hp_M_o rfl 10 (by decide) hf_28 (fun _ h9 => h9) rfl dX2_build_47 ?_
        refine lv_iload_n hx hb dX2_build_50 rfl (lv_at hl 2 rfl) ?_
        refine lv_iconst (v := 3) hx hb dX2_build_51 (by decide) ?_
        refine va_iast hx hb hK hP (hD _ _ _) hS 7 0 hp_M_10 rfl (i := p0) (x := 3) (hp_vin xp hn (by decide)) dX2_build_52 (fun H_8 locs_8 hP1 _ hS1 => ?_)
        replace hP : va_P (dC, dI) vwCl (hp_M cI cZ o a (va_up v 0 (hp_c_sta r n p0 2)) (hp_set r 10 p0.toNatClampNeg 3) n) H_8 := hp_cP hp_M_s10 hP1
        replace hS := hS1
        clear hP1 hS1
        refine lv_iconst (v := 1) hx hb dX2_build_53 (by decide) ?_
        have hP9 : va_P (dC, dI) vwCl (hp_M cI cZ o a (va_up v 0 (hp_c_sta r n p0 2)) (hp_r_build r n p0) n) H_8 := by have hb9 : hp_b_build r n p0 = true := (by simp [hp_b_build, c_5, hc, c_7]); simp only [hp_r_build, if_pos hb9]; exact hP
        exact W.zret (ty := .boolean) (v := 1) hx hb hr rfl (fun t ht hW => ⟨⟨1, (), rfl, (by exact hp_bt2 (by simp [hp_b_build, c_5, hc, c_7])), hp_ht ht hP9⟩, hS.F ht⟩) hS.2.2 dX2_build_54
      · skip
        have c_7 := hp_bn c_7
        refine lv_iconst (v := 0) hx hb dX2_build_44 (by decide) ?_
        have hP9 : va_P (dC, dI) vwCl (hp_M cI cZ o a (va_up v 0 (hp_c_sta r n p0 2)) (hp_r_build r n p0) n) H_4 := by have hb9 : ¬ hp_b_build r n p0 = true := (by simp [hp_b_build, c_5, hc, c_7]); simp only [hp_r_build, if_neg hb9]; exact hP
        exact W.zret (ty := .boolean) (v := 0) hx hb hr rfl (fun t ht hW => ⟨⟨0, (), rfl, (by exact hp_bf2 (by simp [hp_b_build, c_5, hc, c_7])), hp_ht ht hP9⟩, hS.F ht⟩) hS.2.2 dX2_build_45
  · skip
    refine lv_iload_n hx hb dX2_build_7 rfl (lv_at hl 0 rfl) ?_
    refine lv_if_ne (tgt := 15) hx hb dX2_build_8 (by decide) (fun c_9 => ?_) (fun c_9 => ?_)
    · skip
      have c_9 := hp_bn c_9
      have xp := hp_el_ix hn c_9
      refine lv_aload_n hx hb dX2_build_15 rfl (lv_at hl 1 rfl) ?_
      refine va_get (D := (dC, dI)) (ci := 2) (v := .ref (a 10)) (C := RX2) (T := TX2) (N := 18) hx hb hts hinX2 hown hK hP 0 hp_M_o rfl 10 (by decide) hf_28 (fun _ h9 => h9) rfl dX2_build_16 ?_
      refine lv_iload_n hx hb dX2_build_19 rfl (lv_at hl 2 rfl) ?_
      refine hp_ialdx (v := r 10 p0.toNatClampNeg) hx hb hK hP 7 0 hp_M_10 rfl (i := p0) (hp_vin xp hn (by decide)) rfl dX2_build_20 ?_
      refine lv_iconst (v := 2) hx hb dX2_build_21 (by decide) ?_
      refine lv_icmp_eq (tgt := 29) hx hb dX2_build_22 (by decide) (fun c_10 => ?_) (fun c_10 => ?_)
      · skip
        refine lv_iconst (v := 0) hx hb dX2_build_29 (by decide) ?_
        exact jn_3 0 (by exact hp_cdz (by (first | assumption | (simp [c_9, c_10]; done))) (by (first | assumption | (simp [c_9, c_10]; done))) (by (first | assumption | (simp [c_9, c_10]; done)))) _ (lv_sub hl [0, 1, 2] rfl)
      · skip
        refine lv_iconst (v := 2) hx hb dX2_build_25 (by decide) ?_
        refine lv_goto (tgt := 30) hx hb dX2_build_26 (by decide) ?_
        exact jn_3 2 (by exact hp_cd2 (by (first | assumption | (simp [c_9, c_10]; done))) (by (first | assumption | (simp [c_9, c_10]; done)))) _ (lv_sub hl [0, 1, 2] rfl)
    · skip
      have c_9 := hp_bz c_9
      refine lv_iconst (v := 1) hx hb dX2_build_11 (by decide) ?_
      refine lv_goto (tgt := 30) hx hb dX2_build_12 (by decide) ?_
      exact jn_3 1 (by exact hp_cd1 (by (first | assumption | (simp [c_9]; done)))) _ (lv_sub hl [0, 1, 2] rfl)
