/-! the calls that are refused, all -/
set_option maxHeartbeats 1000000 in
set_option maxRecDepth 100000 in
theorem c_L_refuses (l : Launch) (hl0 : l.stackTraces = false) (dC : Nat → ClassId) (dI : Nat → Nat → Nat) (cI cZ cO cJ : ClassId) (o : Nat) (b ad : Nat → Nat) (v : Nat → Int32) (r : Nat → Nat → Int32) (n x sz : Nat) (hinv : hp_inv v r n) (hxl : x < 9973) (hrv : ∃ rv, rv ≤ 1000 ∧ v 2 = nI rv) : Met l yL_refuses wsL_refuses ({ frames := 8, cells := 64, slots := 500, locals := 182 } : Room) (va_Pc [.ref o, .int (nI n), .int (nI x)] (hp_prL (dC, dI) cI cZ cO cJ (hp_X cI cZ cO o b ad v r n) sz)) (va_Qi (S := Nat → Nat) (fun x9 _ => x9 = 1) (fun u9 t9 => va_P (dC, dI) vwCl (hp_X cI cZ cO o b u9 v r n) t9.heap ∧ va_D (va_A (hp_X cI cZ cO o b ad v r n) sz) (hp_X cI cZ cO o b u9 v r n)) (va_A (hp_X cI cZ cO o b ad v r n) sz)) 64 500 (va_A (hp_X cI cZ cO o b ad v r n) sz) := by
  refine Met.ofW (cc := cL_refuses) (maxL := 12) (ret := some .boolean) (by decide) rfl ?_
  intro p e s m args below meth c s₁ B hml hv
  obtain ⟨rfl, ⟨hsz, hP, hK, hD0, hN, hstr, hZu, hZn⟩, hnc⟩ := hv
  have hx := B.exec
  have hb := B.bytes
  have hr := B.returns
  have hts := atoms_spec (ws := wsL_refuses) B.pre
  have hown : s.vm.findClass RL = some m.cls := findClass_of_methodNamed B.named
  have hlocks := B.notSynchronized
  subst hsz
  have hD := hD0.self (sz := s.heap.size)
  generalize hAe : va_A (hp_X cI cZ cO o b ad v r n) s.heap.size = A at hD hZu hZn ⊢
  have hA : ∀ q : Nat, s.heap.size ≤ q → A q := fun q h => by rw [← hAe]; exact Or.inr h
  have hS : va_S A s.heap s.heap [] := va_S.rf
  have hT : hp_T (dC, dI) cI cZ cO cJ A s := ⟨hK, hN, hstr, hZu, hZn, hnc, hA⟩
  have hH : hp_H1 (dC, dI) cI cZ cO A s o b v r n s.heap [] := ⟨⟨ad, hP, hD⟩, hS⟩
  have hn40 : n ≤ 40 := hinv.1
  obtain ⟨rv, hrv1, hv2⟩ := id hrv
  have hl := lv_entry ([.ref o, .int (nI n), .int (nI x)]) (n := 12) (Nat.le_of_ble_eq_true rfl)
  rw [lg_entry_eq]
  generalize (lg_sl ([.ref o, .int (nI n), .int (nI x)]) ++ List.replicate (12 - (lg_sl ([.ref o, .int (nI n), .int (nI x)])).length) Slot.unset).toArray = ls at hl ⊢
  have hl : lv_has ls 12 [(0, .ref o), (1, .int (nI n)), (2, .int (nI x))] := hl
  refine lv_iload_n hx hb dL_refuses_0 rfl (lv_at hl 2 rfl) ?_
  refine lv_iconst (v := 2) hx hb dL_refuses_1 (by decide) ?_
  refine lv_irem hx hb dL_refuses_2 (by decide) ?_
  refine hp_top (show nI x - nI x / 2 * 2 = nI (x % 2) from pk_rem (d := 2) (by omega) (by decide) (by decide)) ?_
  refine hp_joinB 11 12 (fun low : Int32 => ∃ q : Bool, low = hp_b q) (fun low => [(0, .ref o), (1, .int (nI n)), (2, .int (nI x))]) (fun low => [.int low]) (fun jn => ?_) ?_
  · refine lv_if_ne (tgt := 10) hx hb dL_refuses_3 (by decide) (fun c9 => ?_) (fun c9 => ?_)
    · skip
      refine lv_iconst (v := 0) hx hb dL_refuses_10 (by decide) ?_
      exact jn 0 ⟨false, rfl⟩ _ hl
    · skip
      refine lv_iconst (v := 1) hx hb dL_refuses_6 (by decide) ?_
      refine lv_goto (tgt := 11) hx hb dL_refuses_7 (by decide) ?_
      exact jn 1 ⟨true, rfl⟩ _ hl
  intro low h_low ls hl
  refine lv_istore_n (lv' := [(3, .int low), (0, .ref o), (1, .int (nI n)), (2, .int (nI x))]) hx hb dL_refuses_11 rfl hl (by decide) rfl (fun ls hl => ?_)
  refine lv_iload_n hx hb dL_refuses_12 rfl (lv_at hl 0 rfl) ?_
  refine hp_joinB 25 12 (fun T : Int32 => hp_kd T = false) (fun T => [(3, .int low), (0, .ref o), (1, .int (nI n)), (2, .int (nI x))]) (fun T => [.int T]) (fun jn => ?_) ?_
  · refine lv_if_eq (tgt := 22) hx hb dL_refuses_13 (by decide) (fun c9 => ?_) (fun c9 => ?_)
    · skip
      refine lv_iconst (v := 3) hx hb dL_refuses_22 (by decide) ?_
      refine lv_iload_n hx hb dL_refuses_23 rfl (lv_at hl 3 rfl) ?_
      refine lv_iadd hx hb dL_refuses_24 ?_
      refine hp_top (show (3 : Int32) + nI x = nI (3 + x) from nI_add 3 x) ?_
      exact jn (nI (3 + x)) (hp_hi (by show (2 : Int) < _; omega) (by omega)) _ hl
    · skip
      refine lv_iconst (v := (-1)) hx hb dL_refuses_16 (by decide) ?_
      refine lv_iload_n hx hb dL_refuses_17 rfl (lv_at hl 3 rfl) ?_
      refine lv_isub hx hb dL_refuses_18 ?_
      refine lv_goto (tgt := 25) hx hb dL_refuses_19 (by decide) ?_
      exact jn ((-1) - (nI x)) (hp_lo1 (by omega) rfl) _ hl
  intro T h_T ls hl
  refine lv_istore (lv' := [(4, .int T), (3, .int low), (0, .ref o), (1, .int (nI n)), (2, .int (nI x))]) hx hb dL_refuses_25 hl (by decide) rfl (fun ls hl => ?_)
  refine lv_iload_n hx hb dL_refuses_27 rfl (lv_at hl 1 rfl) ?_
  refine hp_joinB 40 12 (fun F : Int32 => hp_st F = false) (fun F => [(4, .int T), (3, .int low), (0, .ref o), (1, .int (nI n)), (2, .int (nI x))]) (fun F => [.int F]) (fun jn => ?_) ?_
  · refine lv_if_eq (tgt := 37) hx hb dL_refuses_28 (by decide) (fun c9 => ?_) (fun c9 => ?_)
    · skip
      refine lv_iconst (v := 4) hx hb dL_refuses_37 (by decide) ?_
      refine lv_iload_n hx hb dL_refuses_38 rfl (lv_at hl 4 rfl) ?_
      refine lv_iadd hx hb dL_refuses_39 ?_
      refine hp_top (show (4 : Int32) + nI x = nI (4 + x) from nI_add 4 x) ?_
      exact jn (nI (4 + x)) (hp_hi (by show (3 : Int) < _; omega) (by omega)) _ hl
    · skip
      refine lv_iconst (v := (-1)) hx hb dL_refuses_31 (by decide) ?_
      refine lv_iload_n hx hb dL_refuses_32 rfl (lv_at hl 4 rfl) ?_
      refine lv_isub hx hb dL_refuses_33 ?_
      refine lv_goto (tgt := 40) hx hb dL_refuses_34 (by decide) ?_
      exact jn ((-1) - (nI x)) (hp_lo1 (by omega) rfl) _ hl
  intro F h_F ls hl
  refine lv_istore (lv' := [(5, .int F), (4, .int T), (3, .int low), (0, .ref o), (1, .int (nI n)), (2, .int (nI x))]) hx hb dL_refuses_40 hl (by decide) rfl (fun ls hl => ?_)
  refine lv_iload_n hx hb dL_refuses_42 rfl (lv_at hl 2 rfl) ?_
  refine hp_joinB 55 12 (fun O : Int32 => hp_el n O = false) (fun O => [(5, .int F), (4, .int T), (3, .int low), (0, .ref o), (1, .int (nI n)), (2, .int (nI x))]) (fun O => [.int O]) (fun jn => ?_) ?_
  · refine lv_if_eq (tgt := 52) hx hb dL_refuses_43 (by decide) (fun c9 => ?_) (fun c9 => ?_)
    · skip
      refine lv_iload_n hx hb dL_refuses_52 rfl (lv_at hl 4 rfl) ?_
      refine lv_iload_n hx hb dL_refuses_53 rfl (lv_at hl 5 rfl) ?_
      refine lv_iadd hx hb dL_refuses_54 ?_
      refine hp_top (show nI n + nI x = nI (n + x) from nI_add n x) ?_
      exact jn (nI (n + x)) (hp_hiE hn40 (by omega)) _ hl
    · skip
      refine lv_iconst (v := (-1)) hx hb dL_refuses_46 (by decide) ?_
      refine lv_iload_n hx hb dL_refuses_47 rfl (lv_at hl 5 rfl) ?_
      refine lv_isub hx hb dL_refuses_48 ?_
      refine lv_goto (tgt := 55) hx hb dL_refuses_49 (by decide) ?_
      exact jn ((-1) - (nI x)) (hp_lo1 (by omega) rfl) _ hl
  intro O h_O ls hl
  refine lv_istore (lv' := [(6, .int O), (5, .int F), (4, .int T), (3, .int low), (0, .ref o), (1, .int (nI n)), (2, .int (nI x))]) hx hb dL_refuses_55 hl (by decide) rfl (fun ls hl => ?_)
  refine lv_iload_n hx hb dL_refuses_57 rfl (lv_at hl 3 rfl) ?_
  refine hp_joinB 71 12 (fun C : Int32 => hp_si C = false) (fun C => [(6, .int O), (5, .int F), (4, .int T), (3, .int low), (0, .ref o), (1, .int (nI n)), (2, .int (nI x))]) (fun C => [.int C]) (fun jn => ?_) ?_
  · refine lv_if_eq (tgt := 67) hx hb dL_refuses_58 (by decide) (fun c9 => ?_) (fun c9 => ?_)
    · skip
      refine lv_bipush (v := 12) hx hb dL_refuses_67 (by decide) ?_
      refine lv_iload_n hx hb dL_refuses_69 rfl (lv_at hl 6 rfl) ?_
      refine lv_iadd hx hb dL_refuses_70 ?_
      refine hp_top (show (12 : Int32) + nI x = nI (12 + x) from nI_add 12 x) ?_
      exact jn (nI (12 + x)) (hp_hi (by show (11 : Int) < _; omega) (by omega)) _ hl
    · skip
      refine lv_iconst (v := (-1)) hx hb dL_refuses_61 (by decide) ?_
      refine lv_iload_n hx hb dL_refuses_62 rfl (lv_at hl 6 rfl) ?_
      refine lv_isub hx hb dL_refuses_63 ?_
      refine lv_goto (tgt := 71) hx hb dL_refuses_64 (by decide) ?_
      exact jn ((-1) - (nI x)) (hp_lo1 (by omega) rfl) _ hl
  intro C h_C ls hl
  refine lv_istore (lv' := [(7, .int C), (6, .int O), (5, .int F), (4, .int T), (3, .int low), (0, .ref o), (1, .int (nI n)), (2, .int (nI x))]) hx hb dL_refuses_71 hl (by decide) rfl (fun ls hl => ?_)
  refine lv_iload_n hx hb dL_refuses_73 rfl (lv_at hl 4 rfl) ?_
  refine hp_joinB 91 12 (fun B : Int32 => hp_in B 0 (v 2) = false) (fun B => [(7, .int C), (6, .int O), (5, .int F), (4, .int T), (3, .int low), (0, .ref o), (1, .int (nI n)), (2, .int (nI x))]) (fun B => [.int B]) (fun jn => ?_) ?_
  · refine lv_if_eq (tgt := 83) hx hb dL_refuses_74 (by decide) (fun c9 => ?_) (fun c9 => ?_)
    · skip
      refine lv_aload_n hx hb dL_refuses_83 rfl (lv_at hl 5 rfl) ?_
      refine vp_callSi (W.runV (As := []) (rest := []) ⟨hx, hb, hml, hown, hts⟩ (c_X1_revision l dC dI cI cZ cO cJ o b ad v r n) (cwV 0 hts gL_refuses_X1_revision rfl rfl rfl (by decide +kernel) ⟨(Nat.le_of_ble_eq_true rfl), (Nat.le_of_ble_eq_true rfl)⟩) ⟨hp_fbX, va_recv hK hP (ci := 1) (q0 := 0) rfl hp_X_o, fun U hU hW => ⟨rfl, hp_toX hP hK hN hU hW⟩⟩ rfl rfl hl.1 rfl (lv_room (Nat.le_of_ble_eq_true rfl)) dL_refuses_84 ⟨(Nat.zero_le _), (Nat.zero_le _)⟩) (fun r_1 hr_1 => ?_)
      subst hr_1
      refine hp_top hv2 ?_
      refine lv_iconst (v := 1) hx hb dL_refuses_87 (by decide) ?_
      refine lv_iadd hx hb dL_refuses_88 ?_
      refine hp_top (show nI rv + (1 : Int32) = nI (rv + 1) from nI_add rv 1) ?_
      refine lv_iload_n hx hb dL_refuses_89 rfl (lv_at hl 7 rfl) ?_
      refine lv_iadd hx hb dL_refuses_90 ?_
      refine hp_top (show nI (rv + 1) + nI x = nI ((rv + 1) + x) from nI_add (rv + 1) x) ?_
      exact jn _ (by rw [hv2]; exact hp_hi (by rw [nI_toInt (by omega)]; omega) (by omega)) _ hl
    · skip
      refine lv_iconst (v := (-1)) hx hb dL_refuses_77 (by decide) ?_
      refine lv_iload_n hx hb dL_refuses_78 rfl (lv_at hl 7 rfl) ?_
      refine lv_isub hx hb dL_refuses_79 ?_
      refine lv_goto (tgt := 91) hx hb dL_refuses_80 (by decide) ?_
      exact jn _ (hp_lo1 (by omega) rfl) _ hl
  intro B h_B ls hl
  refine lv_istore (lv' := [(8, .int B), (7, .int C), (6, .int O), (5, .int F), (4, .int T), (3, .int low), (0, .ref o), (1, .int (nI n)), (2, .int (nI x))]) hx hb dL_refuses_91 hl (by decide) rfl (fun ls hl => ?_)
  have hbad : hp_bad v n T F O C B := ⟨h_T, h_F, h_O, h_C, h_B⟩
  have hl := lv_sub (l' := [(0, .ref o), (1, .int (nI n)), (2, .int (nI x)), (3, .int low), (4, .int T), (5, .int F), (6, .int O), (7, .int C), (8, .int B)]) hl [6, 7, 8, 5, 4, 3, 2, 1, 0] rfl
  refine rf_a1 l hl0 hx hb hml hown hts hT hinv hxl hbad hH hl (fun H0 locs0 ls hH0 hl => ?_)
  refine rf_a2 l hl0 hx hb hml hown hts hT hinv hxl hbad hH0 hl (fun H1 locs1 ls hH1 hl => ?_)
  refine rf_a3 l hl0 hx hb hml hown hts hT hinv hxl hbad hH1 hl (fun H2 locs2 ls hH2 hl => ?_)
  refine rf_a4 l hl0 hx hb hml hown hts hT hinv hxl hbad hH2 hl (fun H3 locs3 ls hH3 hl => ?_)
  refine rf_a5 l hl0 hx hb hml hown hts hT hinv hxl hbad hH3 hl (fun H4 locs4 ls hH4 hl => ?_)
  refine lv_iconst (v := 1) hx hb dL_refuses_605 (by decide) ?_
  refine lv_goto (tgt := 610) hx hb dL_refuses_606 (by decide) ?_
  refine lv_istore (lv' := [(9, .int 1), (0, .ref o), (1, .int (nI n)), (2, .int (nI x)), (3, .int low), (4, .int T), (5, .int F), (6, .int O), (7, .int C), (8, .int B)]) hx hb dL_refuses_610 hl (by decide) rfl (fun ls hl => ?_)
  refine lv_iconst (v := 0) hx hb dL_refuses_612 (by decide) ?_
  refine lv_istore (lv' := [(10, .int 0), (9, .int 1), (0, .ref o), (1, .int (nI n)), (2, .int (nI x)), (3, .int low), (4, .int T), (5, .int F), (6, .int O), (7, .int C), (8, .int B)]) hx hb dL_refuses_613 hl (by decide) rfl (fun ls hl => ?_)
  refine rf_loop l hl0 hx hb hml hown hts hT hinv hxl hbad hrv (fun H9 locs9 ls hH9 hl => ?_) 4 0 rfl _ _ ls hH4 (lv_sub (l' := [(10, .int (nI 0)), (9, .int 1), (0, .ref o), (1, .int (nI n)), (2, .int (nI x)), (3, .int low), (4, .int T), (5, .int F), (6, .int O), (7, .int C), (8, .int B)]) hl [0, 1, 2, 3, 4, 5, 6, 7, 8, 9, 10] rfl)
  refine lv_iload_n hx hb dL_refuses_677 rfl (lv_at hl 3 rfl) ?_
  refine lv_if_eq (tgt := 686) hx hb dL_refuses_678 (by decide) (fun c9 => ?_) (fun c9 => ?_)
  · skip
    refine lv_iload hx hb dL_refuses_686 (lv_at hl 1 rfl) ?_
    obtain ⟨⟨ad9, hP9, hD9⟩, hS9⟩ := hH9
    refine W.widen (k := 64) (n := 500) (Nat.le_of_ble_eq_true rfl) (Nat.le_of_ble_eq_true rfl) ?_
    exact W.zret (ty := .boolean) (v := 1) hx hb hr rfl (fun t9 ht9 hW9 => ⟨⟨1, ad9, rfl, rfl, hp_ht ht9 hP9, hD9⟩, hS9.F ht9⟩) hS9.2.2 dL_refuses_688
  refine lv_iload hx hb dL_refuses_681 (lv_at hl 1 rfl) ?_
  refine lv_if_ne (tgt := 689) hx hb dL_refuses_683 (by decide) (fun _ => ?_) (fun c9 => absurd c9 (by decide))
  have hn0 : 0 < n := Nat.pos_of_ne_zero (fun q => c9 (by rw [q]; rfl))
  refine lv_iload_n hx hb dL_refuses_689 rfl (lv_at hl 4 rfl) ?_
  refine lv_iconst (v := 3) hx hb dL_refuses_690 (by decide) ?_
  refine lv_idiv hx hb dL_refuses_691 (by decide) ?_
  refine hp_top (show nI x / 3 = nI (x / 3) from pk_div (d := 3) (by omega) (by decide) (by decide)) ?_
  refine lv_iload_n hx hb dL_refuses_692 rfl (lv_at hl 3 rfl) ?_
  refine lv_irem hx hb dL_refuses_693 (nI_ne0 hn0 (by omega)) ?_
  refine hp_top (show nI (x / 3) - nI (x / 3) / nI n * nI n = nI ((x / 3) % n) from pk_rem (d := n) (by omega) hn0 (by omega)) ?_
  refine lv_istore (lv' := [(10, .int (nI ((x / 3) % n))), (9, .int 1), (0, .ref o), (1, .int (nI n)), (2, .int (nI x)), (3, .int low), (4, .int T), (5, .int F), (6, .int O), (7, .int C), (8, .int B)]) hx hb dL_refuses_694 hl (by decide) rfl (fun ls hl => ?_)
  have hi : x / 3 % n < n := Nat.mod_lt _ hn0
  have hl := lv_sub (l' := [(10, .int (nI (x / 3 % n))), (9, .int 1), (0, .ref o), (1, .int (nI n)), (2, .int (nI x)), (3, .int low), (4, .int T), (5, .int F), (6, .int O), (7, .int C), (8, .int B)]) hl [0, 1, 2, 3, 4, 5, 6, 7, 8, 9, 10] rfl
  generalize x / 3 % n = i at hl hi ⊢
  refine rf_t0 l hl0 hx hb hml hown hts hT hinv hxl hbad hi hrv hH9 hl (fun H10 locs10 ls hH10 hl => ?_)
  refine rf_t1 l hl0 hx hb hml hown hts hT hinv hxl hbad hi hrv hH10 hl (fun H11 locs11 ls hH11 hl => ?_)
  refine rf_t2 l hl0 hx hb hml hown hts hT hinv hxl hbad hi hrv hH11 hl (fun H12 locs12 ls hH12 hl => ?_)
  refine rf_t3 l hl0 hx hb hml hown hts hT hinv hxl hbad hi hrv hH12 hl (fun H13 locs13 ls hH13 hl => ?_)
  refine rf_t4 l hl0 hx hb hml hown hts hT hinv hxl hbad hi hrv hH13 hl (fun H14 locs14 ls hH14 hl => ?_)
  refine rf_t5 l hl0 hx hb hml hown hts hT hinv hxl hbad hi hrv hH14 hl (fun H15 locs15 ls hH15 hl => ?_)
  refine lv_iconst (v := 1) hx hb dL_refuses_977 (by decide) ?_
  refine lv_goto (tgt := 982) hx hb dL_refuses_978 (by decide) ?_
  obtain ⟨⟨ad9, hP9, hD9⟩, hS9⟩ := hH15
  refine W.widen (k := 64) (n := 500) (Nat.le_of_ble_eq_true rfl) (Nat.le_of_ble_eq_true rfl) ?_
  exact W.zret (ty := .boolean) (v := 1) hx hb hr rfl (fun t9 ht9 hW9 => ⟨⟨1, ad9, rfl, rfl, hp_ht ht9 hP9, hD9⟩, hS9.F ht9⟩) hS9.2.2 dL_refuses_982
