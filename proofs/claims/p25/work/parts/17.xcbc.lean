/-! the class: parts cell by cell -/
set_option maxHeartbeats 400000 in
set_option maxRecDepth 100000 in
theorem c_X0_partsCellByCell (l : Launch) (dC : Nat → ClassId) (dI : Nat → Nat → Nat) (cI cZ cO cJ : ClassId) (o : Nat) (b ad : Nat → Nat) (v : Nat → Int32) (r : Nat → Nat → Int32) (n : Nat)  (i : Nat) (hi : i < n) (z : Nat) (x_z : Int32) (hx_z : x_z = nI z) (hs1 : 1 ≤ z) (hs2 : z ≤ 12) (he : hp_elm r i) : Met l yX0_partsCellByCell wsX0_partsCellByCell ({ frames := 2, cells := 0, slots := 0, locals := 44 }) (va_Pc [.ref (ad i), .int x_z] (hp_prX (dC, dI) cI cZ cO cJ (hp_X cI cZ cO o b ad v r n))) (vp_Si (fun x9 => x9 = (hp_cel r i + nI z - 1) / nI z)) 0 0 (fun _ => False) := by
  refine Met.ofW (cc := cX0_partsCellByCell) (maxL := 6) (ret := (some .int)) (by decide) rfl ?_
  intro p e s m args below meth c s₁ B hml hv
  obtain ⟨rfl, hP, hK, hN⟩ := hv
  have hx := B.exec
  have hb := B.bytes
  have hr := B.returns
  have hts := atoms_spec (ws := wsX0_partsCellByCell) B.pre
  have hown : s.vm.findClass RX0 = some m.cls := findClass_of_methodNamed B.named
  have hlocks := B.notSynchronized
  subst hx_z
  have hl := lv_entry ([.ref (ad i), .int (nI z)]) (n := 6) (Nat.le_of_ble_eq_true rfl)
  rw [lg_entry_eq]
  generalize (lg_sl ([.ref (ad i), .int (nI z)]) ++ List.replicate (6 - (lg_sl ([.ref (ad i), .int (nI z)])).length) Slot.unset).toArray = ls at hl ⊢
  have hl : lv_has ls 6 [(0, .ref (ad i)), (1, .int (nI z))] := hl
  refine lv_iconst (v := 0) hx hb dX0_partsCellByCell_0 (by decide) ?_
  refine lv_istore_n (lv' := [(2, .int 0), (0, .ref (ad i)), (1, .int (nI z))]) hx hb dX0_partsCellByCell_1 rfl hl (by decide) rfl (fun ls hl => ?_)
  refine lv_iconst (v := 0) hx hb dX0_partsCellByCell_2 (by decide) ?_
  refine lv_istore_n (lv' := [(3, .int 0), (2, .int 0), (0, .ref (ad i)), (1, .int (nI z))]) hx hb dX0_partsCellByCell_3 rfl hl (by decide) rfl (fun ls hl => ?_)
  refine lv_iconst (v := 0) hx hb dX0_partsCellByCell_4 (by decide) ?_
  refine lv_istore (lv' := [(4, .int 0), (3, .int 0), (2, .int 0), (0, .ref (ad i)), (1, .int (nI z))]) hx hb dX0_partsCellByCell_5 hl (by decide) rfl (fun ls hl => ?_)
  refine hp_loop (fun y => [(2, .int (nI (hp_pp z (hp_cc r i (y) 0)))), (3, .int (nI (hp_pl z (hp_cc r i (y) 0)))), (4, .int (nI y)), (0, .ref (ad i)), (1, .int (nI z))]) 12 (fun y hk_1 ih_1 ls hl => ?_) (hp_lve (lv_sub (l' := [(2, .int 0), (3, .int 0), (4, .int 0), (0, .ref (ad i)), (1, .int (nI z))]) hl [2, 1, 0, 3, 4] rfl) (by have h1 := hp_p00 (r := r) (i := i) hs1; simp [h1.1, h1.2, nI_0]))
  refine lv_iload hx hb dX0_partsCellByCell_7 (lv_at hl 2 rfl) ?_
  refine lv_bipush (v := 12) hx hb dX0_partsCellByCell_9 (by decide) ?_
  refine lv_icmp_ge (tgt := 59) hx hb dX0_partsCellByCell_11 (by decide) (fun c_2 => ?_) (fun c_2 => ?_)
  · skip
    have c_2n := hp_len c_2
    have ek : y = 12 := Nat.le_antisymm (by omega) ((nI_leI (a := 12) (b := y) (by omega) (by omega)).mp c_2)
    refine lv_iload_n hx hb dX0_partsCellByCell_59 rfl (lv_at hl 0 rfl) ?_
    exact W.iret (v := nI (hp_pp z (hp_cc r i (y) 0))) hx hb hr (fun t ht hW => ⟨_, rfl, (by rw [ek]; exact hp_pp_cel he hs1 hs2), ht⟩) (fun _ h => nomatch h) dX0_partsCellByCell_60
  · skip
    have c_2p := hp_nle c_2
    have hy12 : y < 12 := Nat.lt_of_not_le (fun h => c_2 (nI_le (a := 12) (b := y) h (by omega)))
    refine lv_iconst (v := 0) hx hb dX0_partsCellByCell_14 (by decide) ?_
    refine lv_istore (lv' := [(5, .int 0), (2, .int (nI (hp_pp z (hp_cc r i (y) 0)))), (3, .int (nI (hp_pl z (hp_cc r i (y) 0)))), (4, .int (nI y)), (0, .ref (ad i)), (1, .int (nI z))]) hx hb dX0_partsCellByCell_15 hl (by decide) rfl (fun ls hl => ?_)
    refine hp_loop (fun x => [(2, .int (nI (hp_pp z (hp_cc r i y (x))))), (3, .int (nI (hp_pl z (hp_cc r i y (x))))), (5, .int (nI x)), (4, .int (nI y)), (0, .ref (ad i)), (1, .int (nI z))]) 12 (fun x hk_3 ih_3 ls hl => ?_) (lv_sub hl [1, 2, 0, 3, 4, 5] rfl)
    refine lv_iload hx hb dX0_partsCellByCell_17 (lv_at hl 2 rfl) ?_
    refine lv_bipush (v := 12) hx hb dX0_partsCellByCell_19 (by decide) ?_
    refine lv_icmp_ge (tgt := 53) hx hb dX0_partsCellByCell_21 (by decide) (fun c_4 => ?_) (fun c_4 => ?_)
    · skip
      have c_4n := hp_len c_4
      have ek : x = 12 := Nat.le_antisymm (by omega) ((nI_leI (a := 12) (b := x) (by omega) (by omega)).mp c_4)
      refine lv_iinc (v := nI (y + 1)) (lv' := [(4, .int (nI (y + 1))), (2, .int (nI (hp_pp z (hp_cc r i y (x))))), (3, .int (nI (hp_pl z (hp_cc r i y (x))))), (5, .int (nI x)), (0, .ref (ad i)), (1, .int (nI z))]) hx hb dX0_partsCellByCell_53 hl (k := 3) rfl (nI_1 _) (by decide) rfl (fun ls hl => ?_)
      refine lv_goto (tgt := 7) hx hb dX0_partsCellByCell_56 (by decide) ?_
      have e_5 : nI (hp_pp z (hp_cc r i y (x))) = nI (hp_pp z (hp_cc r i (y + 1) 0)) := by rw [ek, hp_cc_r]
      have e_6 : nI (hp_pl z (hp_cc r i y (x))) = nI (hp_pl z (hp_cc r i (y + 1) 0)) := by rw [ek, hp_cc_r]
      exact ih_1 hy12 _ (by have h9 := lv_sub (l' := [(2, .int (nI (hp_pp z (hp_cc r i y (x))))), (3, .int (nI (hp_pl z (hp_cc r i y (x))))), (4, .int (nI (y + 1))), (0, .ref (ad i)), (1, .int (nI z))]) hl [1, 2, 0, 4, 5] rfl; rw [e_5, e_6] at h9; exact h9)
    · skip
      have c_4p := hp_nle c_4
      have hx12 : x < 12 := Nat.lt_of_not_le (fun h => c_4 (nI_le (a := 12) (b := x) h (by omega)))
      refine lv_aload_n hx hb dX0_partsCellByCell_24 rfl (lv_at hl 4 rfl) ?_
      refine lv_iload hx hb dX0_partsCellByCell_25 (lv_at hl 2 rfl) ?_
      refine lv_iload hx hb dX0_partsCellByCell_27 (lv_at hl 3 rfl) ?_
      refine vp_callSi (W.runV (As := [.int (nI x), .int (nI y)]) (rest := []) ⟨hx, hb, hml, hown, hts⟩ (c_X0_covers l dC dI cI cZ cO cJ o b ad v r n i (by omega) (nI x) (nI y)) (cwV 2 hts gX0_partsCellByCell_X0_covers rfl rfl rfl (by decide +kernel) ⟨(Nat.le_of_ble_eq_true rfl), (Nat.le_of_ble_eq_true rfl)⟩) ⟨hp_fbX, va_recv hK hP (ci := 0) (q0 := 6 + i) rfl (hp_X_e (by omega)), fun U hU hW => ⟨rfl, hp_toX hP hK hN hU hW⟩⟩ rfl rfl hl.1 rfl (lv_room (Nat.le_of_ble_eq_true rfl)) dX0_partsCellByCell_29 ⟨(Nat.zero_le _), (Nat.zero_le _)⟩) (fun r_7 hr_7 => ?_)
      subst hr_7
      refine lv_if_eq (tgt := 47) hx hb dX0_partsCellByCell_32 (by decide) (fun c_8 => ?_) (fun c_8 => ?_)
      · skip
        have c_8 := hp_bz c_8
        have hcv := c_8
        refine lv_iinc (v := nI (x + 1)) (lv' := [(5, .int (nI (x + 1))), (2, .int (nI (hp_pp z (hp_cc r i y (x))))), (3, .int (nI (hp_pl z (hp_cc r i y (x))))), (4, .int (nI y)), (0, .ref (ad i)), (1, .int (nI z))]) hx hb dX0_partsCellByCell_47 hl (k := 2) rfl (nI_1 _) (by decide) rfl (fun ls hl => ?_)
        refine lv_goto (tgt := 17) hx hb dX0_partsCellByCell_50 (by decide) ?_
        have e_9 : nI (hp_pp z (hp_cc r i y (x))) = nI (hp_pp z (hp_cc r i y (x + 1))) := by first | rw [hp_cc_f hcv] | rw [hp_cc_t hcv, hq.1]
        have e_10 : nI (hp_pl z (hp_cc r i y (x))) = nI (hp_pl z (hp_cc r i y (x + 1))) := by first | rw [hp_cc_f hcv] | (rw [hp_cc_t hcv, hq.2]; exact hp_pred hq0) | (rw [hp_cc_t hcv, hq.2]; exact hp_pred hs1)
        exact ih_3 hx12 _ (by have h9 := lv_sub (l' := [(2, .int (nI (hp_pp z (hp_cc r i y (x))))), (3, .int (nI (hp_pl z (hp_cc r i y (x))))), (5, .int (nI (x + 1))), (4, .int (nI y)), (0, .ref (ad i)), (1, .int (nI z))]) hl [1, 2, 0, 3, 4, 5] rfl; rw [e_9, e_10] at h9; exact h9)
      · skip
        have c_8 := hp_bn c_8
        have hcv := c_8
        refine lv_iload_n hx hb dX0_partsCellByCell_35 rfl (lv_at hl 1 rfl) ?_
        refine lv_if_gt (tgt := 44) hx hb dX0_partsCellByCell_36 (by decide) (fun c_11 => ?_) (fun c_11 => ?_)
        · skip
          have c_11n := hp_ltn c_11
          have hq := hp_pp_1 (c := hp_cc r i y x) hs1 (Nat.pos_of_ne_zero (fun q => by rw [q] at c_11; exact absurd c_11 (by decide)))
          have hq0 : 0 < hp_pl z (hp_cc r i y x) := (Nat.pos_of_ne_zero (fun q => by rw [q] at c_11; exact absurd c_11 (by decide)))
          refine lv_iinc (v := (nI (hp_pl z (hp_cc r i y (x)))) + (-1)) (lv' := [(3, .int ((nI (hp_pl z (hp_cc r i y (x)))) + (-1))), (2, .int (nI (hp_pp z (hp_cc r i y (x))))), (5, .int (nI x)), (4, .int (nI y)), (0, .ref (ad i)), (1, .int (nI z))]) hx hb dX0_partsCellByCell_44 hl (k := 1) rfl rfl (by decide) rfl (fun ls hl => ?_)
          refine lv_iinc (v := nI (x + 1)) (lv' := [(5, .int (nI (x + 1))), (3, .int ((nI (hp_pl z (hp_cc r i y (x)))) + (-1))), (2, .int (nI (hp_pp z (hp_cc r i y (x))))), (4, .int (nI y)), (0, .ref (ad i)), (1, .int (nI z))]) hx hb dX0_partsCellByCell_47 hl (k := 2) rfl (nI_1 _) (by decide) rfl (fun ls hl => ?_)
          refine lv_goto (tgt := 17) hx hb dX0_partsCellByCell_50 (by decide) ?_
          have e_12 : nI (hp_pp z (hp_cc r i y (x))) = nI (hp_pp z (hp_cc r i y (x + 1))) := by first | rw [hp_cc_f hcv] | rw [hp_cc_t hcv, hq.1]
          have e_13 : (nI (hp_pl z (hp_cc r i y (x)))) + (-1) = nI (hp_pl z (hp_cc r i y (x + 1))) := by first | rw [hp_cc_f hcv] | (rw [hp_cc_t hcv, hq.2]; exact hp_pred hq0) | (rw [hp_cc_t hcv, hq.2]; exact hp_pred hs1)
          exact ih_3 hx12 _ (by have h9 := lv_sub (l' := [(2, .int (nI (hp_pp z (hp_cc r i y (x))))), (3, .int ((nI (hp_pl z (hp_cc r i y (x)))) + (-1))), (5, .int (nI (x + 1))), (4, .int (nI y)), (0, .ref (ad i)), (1, .int (nI z))]) hl [2, 1, 0, 3, 4, 5] rfl; rw [e_12, e_13] at h9; exact h9)
        · skip
          have c_11p := hp_nlt c_11
          have hq := hp_pp_0 (c := hp_cc r i y x) hs1 (Nat.eq_zero_of_not_pos (fun q => c_11 (nI_lt (a := 0) q (by have := hp_pl_lt (c := hp_cc r i y x) hs1; omega))))
          refine lv_iinc (v := nI ((hp_pp z (hp_cc r i y (x))) + 1)) (lv' := [(2, .int (nI ((hp_pp z (hp_cc r i y (x))) + 1))), (3, .int (nI (hp_pl z (hp_cc r i y (x))))), (5, .int (nI x)), (4, .int (nI y)), (0, .ref (ad i)), (1, .int (nI z))]) hx hb dX0_partsCellByCell_39 hl (k := 0) rfl (nI_1 _) (by decide) rfl (fun ls hl => ?_)
          refine lv_iload_n hx hb dX0_partsCellByCell_42 rfl (lv_at hl 5 rfl) ?_
          refine lv_istore_n (lv' := [(3, .int (nI z)), (2, .int (nI ((hp_pp z (hp_cc r i y (x))) + 1))), (5, .int (nI x)), (4, .int (nI y)), (0, .ref (ad i)), (1, .int (nI z))]) hx hb dX0_partsCellByCell_43 rfl hl (by decide) rfl (fun ls hl => ?_)
          refine lv_iinc (v := (nI z) + (-1)) (lv' := [(3, .int ((nI z) + (-1))), (2, .int (nI ((hp_pp z (hp_cc r i y (x))) + 1))), (5, .int (nI x)), (4, .int (nI y)), (0, .ref (ad i)), (1, .int (nI z))]) hx hb dX0_partsCellByCell_44 hl (k := 0) rfl rfl (by decide) rfl (fun ls hl => ?_)
          refine lv_iinc (v := nI (x + 1)) (lv' := [(5, .int (nI (x + 1))), (3, .int ((nI z) + (-1))), (2, .int (nI ((hp_pp z (hp_cc r i y (x))) + 1))), (4, .int (nI y)), (0, .ref (ad i)), (1, .int (nI z))]) hx hb dX0_partsCellByCell_47 hl (k := 2) rfl (nI_1 _) (by decide) rfl (fun ls hl => ?_)
          refine lv_goto (tgt := 17) hx hb dX0_partsCellByCell_50 (by decide) ?_
          have e_14 : nI ((hp_pp z (hp_cc r i y (x))) + 1) = nI (hp_pp z (hp_cc r i y (x + 1))) := by first | rw [hp_cc_f hcv] | rw [hp_cc_t hcv, hq.1]
          have e_15 : (nI z) + (-1) = nI (hp_pl z (hp_cc r i y (x + 1))) := by first | rw [hp_cc_f hcv] | (rw [hp_cc_t hcv, hq.2]; exact hp_pred hq0) | (rw [hp_cc_t hcv, hq.2]; exact hp_pred hs1)
          exact ih_3 hx12 _ (by have h9 := lv_sub (l' := [(2, .int (nI ((hp_pp z (hp_cc r i y (x))) + 1))), (3, .int ((nI z) + (-1))), (5, .int (nI (x + 1))), (4, .int (nI y)), (0, .ref (ad i)), (1, .int (nI z))]) hl [2, 1, 0, 3, 4, 5] rfl; rw [e_14, e_15] at h9; exact h9)
