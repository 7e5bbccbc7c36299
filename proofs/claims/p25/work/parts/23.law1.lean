/-! the law's own methods -/
set_option maxHeartbeats 400000 in
set_option maxRecDepth 100000 in
theorem c_L_add (l : Launch) (hl0 : l.stackTraces = false) (dC : Nat → ClassId) (dI : Nat → Nat → Nat) (cI cZ cO cJ : ClassId) (o : Nat) (b ad : Nat → Nat) (v : Nat → Int32) (r : Nat → Nat → Int32) (n sz : Nat) (p0 p1 p2 p3 p4 p5 : Int32) (hinv : hp_inv v r n) : vx_Met l yL_add wsL_add ({ frames := 7, cells := 1, slots := 10, locals := 109 }) (va_Pc [.ref o, .int p0, .int p1, .int p2, .int p3, .int p4, .int p5] (hp_prL (dC, dI) cI cZ cO cJ (hp_X cI cZ cO o b ad v r n) sz)) (va_Qi (S := Nat → Nat) (fun x9 _ => x9 = hp_w hp_K1 hp_K2 hp_K3 (hp_c_add r n p0 p1 p2 p3 p4 p5) (hp_a_add r n p0 p1 p2 p3 p4 p5)) (fun u9 t9 => va_P (dC, dI) vwCl (hp_X cI cZ cO o b u9 (hp_v_add v r n p0 p1 p2 p3 p4 p5) (hp_r_add v r n p0 p1 p2 p3 p4 p5) (hp_n_add r n p0 p1 p2 p3 p4 p5)) t9.heap ∧ va_D (va_A (hp_X cI cZ cO o b ad v r n) sz) (hp_X cI cZ cO o b u9 (hp_v_add v r n p0 p1 p2 p3 p4 p5) (hp_r_add v r n p0 p1 p2 p3 p4 p5) (hp_n_add r n p0 p1 p2 p3 p4 p5))) (va_A (hp_X cI cZ cO o b ad v r n) sz)) (vx_X (S := Unit) (fun _ => False) (fun _ _ _ => True) (va_A (hp_X cI cZ cO o b ad v r n) sz)) 1 10 (va_A (hp_X cI cZ cO o b ad v r n) sz) := by
  refine vx_ofWH (cc := cL_add) (maxL := 8) (ret := some .int) (hh := [(0, 13, 14, 13), (0, 13, 19, 16), (0, 13, 24, 19)]) (by decide) rfl ?_
  intro p e s m args below meth c s₁ B hml hv
  obtain ⟨rfl, ⟨hsz, hP, hK, hD0, hN, hstr, hZu, hZn⟩, hnc⟩ := hv
  have hx := B.exec
  have hb := B.bytes
  have hr := B.returns
  have hts := atoms_spec (ws := wsL_add) B.pre
  have hown : s.vm.findClass RL = some m.cls := findClass_of_methodNamed B.named
  have hlocks := B.notSynchronized
  have htb := vx_table (x := yL_add) B (hts _ List.mem_cons_self)
  subst hsz
  have hD := hD0.self (sz := s.heap.size)
  generalize hAe : va_A (hp_X cI cZ cO o b ad v r n) s.heap.size = A at hD hZu hZn ⊢
  have hA : ∀ q : Nat, s.heap.size ≤ q → A q := fun q h => by rw [← hAe]; exact Or.inr h
  have hS : va_S A s.heap s.heap [] := va_S.rf
  have hk_1 := hts (.classLink RL 13 hp_E1) (by decide +kernel)
  have hc_1 := hts (.constant RL 15 (-2000000001)) (by decide +kernel)
  have hk_2 := hts (.classLink RL 16 hp_E2) (by decide +kernel)
  have hc_2 := hts (.constant RL 18 (-2000000002)) (by decide +kernel)
  have hk_3 := hts (.classLink RL 19 hp_E3) (by decide +kernel)
  have hc_3 := hts (.constant RL 21 (-2000000003)) (by decide +kernel)
  have hl := lv_entry ([.ref o, .int p0, .int p1, .int p2, .int p3, .int p4, .int p5]) (n := 8) (Nat.le_of_ble_eq_true rfl)
  rw [lg_entry_eq]
  generalize (lg_sl ([.ref o, .int p0, .int p1, .int p2, .int p3, .int p4, .int p5]) ++ List.replicate (8 - (lg_sl ([.ref o, .int p0, .int p1, .int p2, .int p3, .int p4, .int p5])).length) Slot.unset).toArray = ls at hl ⊢
  have hl : lv_has ls 8 [(0, .ref o), (1, .int p0), (2, .int p1), (3, .int p2), (4, .int p3), (5, .int p4), (6, .int p5)] := hl
  refine lv_aload_n hx hb dL_add_0 rfl (lv_at hl 0 rfl) ?_
  refine lv_iload_n hx hb dL_add_1 rfl (lv_at hl 1 rfl) ?_
  refine lv_iload_n hx hb dL_add_2 rfl (lv_at hl 2 rfl) ?_
  refine lv_iload_n hx hb dL_add_3 rfl (lv_at hl 3 rfl) ?_
  refine lv_iload hx hb dL_add_4 (lv_at hl 4 rfl) ?_
  refine lv_iload hx hb dL_add_6 (lv_at hl 5 rfl) ?_
  refine lv_iload hx hb dL_add_8 (lv_at hl 6 rfl) ?_
  have hFc := hp_free hD hS hA
  refine vx_calli (vx_runV (As := [.int p0, .int p1, .int p2, .int p3, .int p4, .int p5]) (rest := []) ⟨hx, hb, hml, hown, hts⟩ (c_X1_add l hl0 dC dI cI cZ cO cJ o b ad v r n s.heap.size p0 p1 p2 p3 p4 p5 hinv) (cwV 6 hts gL_add_X1_add rfl rfl rfl (by decide +kernel) ⟨(Nat.le_of_ble_eq_true rfl), (Nat.le_of_ble_eq_true rfl)⟩) ⟨hp_fbT, va_recv hK hP (ci := 1) (q0 := 0) rfl hp_X_o, fun U hU hW => ⟨rfl, hp_toT hP hK hD hN hstr hZu hZn hS hA hU hW⟩⟩ rfl rfl hl.1 rfl (lv_room (Nat.le_of_ble_eq_true rfl)) dL_add_10 ⟨(Nat.le_of_ble_eq_true rfl), (Nat.le_of_ble_eq_true rfl)⟩) hS (fun q _ h => hFc q h) hFc (fun q _ h => hFc q h) (fun E ce q9 u t H1 locs1 ht _ _ hBX _ _ hS1 hce hcv hcl => ?_) (fun r9 u t H1 locs1 ht _ hw hB _ _ hS1 => ?_)
  · obtain ⟨⟨k, hk, hC⟩, hPx⟩ := hBX
    have hP1 := hp_th ht hPx
    clear hP hPx ht
    rcases k with _ | _ | _ | k
    · cases Option.some.inj hk
      have hne : ¬ hp_c_add r n p0 p1 p2 p3 p4 p5 = 0 := fun q => absurd (hC.symm.trans q) (by decide)
      refine vx_catch (own := RL) (name := hp_E1) hown [] ⟨0, 13, 14, 13⟩ [⟨0, 13, 19, 16⟩, ⟨0, 13, 24, 19⟩] (htb.trans rfl) (fun z hz => nomatch hz) (by decide) (by decide) hk_1 (va_Nw.use rfl hN.2.2.2.1) hce hcv hcl ?_
      refine W.eq (g2 := F0 m 14 ls [.ref q9]) rfl ?_
      refine lv_astore (lv' := [(7, .ref q9), (0, .ref o), (1, .int p0), (2, .int p1), (3, .int p2), (4, .int p3), (5, .int p4), (6, .int p5)]) hx hb dL_add_14 hl (by decide) rfl (fun ls hl => ?_)
      refine lv_ldc hx hb hown hc_1 dL_add_16 ?_
      have hP9 : va_P (dC, dI) vwCl (hp_X cI cZ cO o b ad (hp_v_add v r n p0 p1 p2 p3 p4 p5) (hp_r_add v r n p0 p1 p2 p3 p4 p5) (hp_n_add r n p0 p1 p2 p3 p4 p5)) H1 := by simp only [hp_v_add, hp_r_add, hp_n_add, if_neg hne]; exact hP1
      have hD9 : va_D A (hp_X cI cZ cO o b ad (hp_v_add v r n p0 p1 p2 p3 p4 p5) (hp_r_add v r n p0 p1 p2 p3 p4 p5) (hp_n_add r n p0 p1 p2 p3 p4 p5)) := by simp only [hp_v_add, hp_r_add, hp_n_add, if_neg hne]; exact hD
      exact vx_ret (W.iret (v := hp_K1) hx hb hr (fun t9 ht9 hW9 => ⟨⟨_, ad, rfl, hp_w1 hC, hp_ht ht9 hP9, hD9⟩, hS1.F ht9⟩) hS1.2.2 dL_add_18)
    · cases Option.some.inj hk
      have hne : ¬ hp_c_add r n p0 p1 p2 p3 p4 p5 = 0 := fun q => absurd (hC.symm.trans q) (by decide)
      refine vx_catch (own := RL) (name := hp_E2) hown [⟨0, 13, 14, 13⟩] ⟨0, 13, 19, 16⟩ [⟨0, 13, 24, 19⟩] (htb.trans rfl) (fun z hz => by
          simp only [List.mem_cons, List.not_mem_nil, or_false] at hz
          subst hz
          · exact Or.inr ⟨by decide, hp_E1, hk_1, hnc.1⟩) (by decide) (by decide) hk_2 (va_Nw.use rfl hN.2.2.2.2.1) hce hcv hcl ?_
      refine W.eq (g2 := F0 m 19 ls [.ref q9]) rfl ?_
      refine lv_astore (lv' := [(7, .ref q9), (0, .ref o), (1, .int p0), (2, .int p1), (3, .int p2), (4, .int p3), (5, .int p4), (6, .int p5)]) hx hb dL_add_19 hl (by decide) rfl (fun ls hl => ?_)
      refine lv_ldc hx hb hown hc_2 dL_add_21 ?_
      have hP9 : va_P (dC, dI) vwCl (hp_X cI cZ cO o b ad (hp_v_add v r n p0 p1 p2 p3 p4 p5) (hp_r_add v r n p0 p1 p2 p3 p4 p5) (hp_n_add r n p0 p1 p2 p3 p4 p5)) H1 := by simp only [hp_v_add, hp_r_add, hp_n_add, if_neg hne]; exact hP1
      have hD9 : va_D A (hp_X cI cZ cO o b ad (hp_v_add v r n p0 p1 p2 p3 p4 p5) (hp_r_add v r n p0 p1 p2 p3 p4 p5) (hp_n_add r n p0 p1 p2 p3 p4 p5)) := by simp only [hp_v_add, hp_r_add, hp_n_add, if_neg hne]; exact hD
      exact vx_ret (W.iret (v := hp_K2) hx hb hr (fun t9 ht9 hW9 => ⟨⟨_, ad, rfl, hp_w2 hC, hp_ht ht9 hP9, hD9⟩, hS1.F ht9⟩) hS1.2.2 dL_add_23)
    · cases Option.some.inj hk
      have hne : ¬ hp_c_add r n p0 p1 p2 p3 p4 p5 = 0 := fun q => absurd (hC.symm.trans q) (by decide)
      refine vx_catch (own := RL) (name := hp_E3) hown [⟨0, 13, 14, 13⟩, ⟨0, 13, 19, 16⟩] ⟨0, 13, 24, 19⟩ [] (htb.trans rfl) (fun z hz => by
          simp only [List.mem_cons, List.not_mem_nil, or_false] at hz
          rcases hz with rfl | rfl
          · exact Or.inr ⟨by decide, hp_E1, hk_1, hnc.2.1⟩
          · exact Or.inr ⟨by decide, hp_E2, hk_2, hnc.2.2⟩) (by decide) (by decide) hk_3 (va_Nw.use rfl hN.2.2.2.2.2.1) hce hcv hcl ?_
      refine W.eq (g2 := F0 m 24 ls [.ref q9]) rfl ?_
      refine lv_astore (lv' := [(7, .ref q9), (0, .ref o), (1, .int p0), (2, .int p1), (3, .int p2), (4, .int p3), (5, .int p4), (6, .int p5)]) hx hb dL_add_24 hl (by decide) rfl (fun ls hl => ?_)
      refine lv_ldc hx hb hown hc_3 dL_add_26 ?_
      have hP9 : va_P (dC, dI) vwCl (hp_X cI cZ cO o b ad (hp_v_add v r n p0 p1 p2 p3 p4 p5) (hp_r_add v r n p0 p1 p2 p3 p4 p5) (hp_n_add r n p0 p1 p2 p3 p4 p5)) H1 := by simp only [hp_v_add, hp_r_add, hp_n_add, if_neg hne]; exact hP1
      have hD9 : va_D A (hp_X cI cZ cO o b ad (hp_v_add v r n p0 p1 p2 p3 p4 p5) (hp_r_add v r n p0 p1 p2 p3 p4 p5) (hp_n_add r n p0 p1 p2 p3 p4 p5)) := by simp only [hp_v_add, hp_r_add, hp_n_add, if_neg hne]; exact hD
      exact vx_ret (W.iret (v := hp_K3) hx hb hr (fun t9 ht9 hW9 => ⟨⟨_, ad, rfl, hp_w3 hC, hp_ht ht9 hP9, hD9⟩, hS1.F ht9⟩) hS1.2.2 dL_add_28)
    · simp at hk
  · obtain ⟨hc, rfl⟩ := hw
    obtain ⟨hPx, hDx⟩ := hB
    have hP1 := hp_th ht hPx
    have hD1 : va_D A (hp_X cI cZ cO o b u (hp_v_add v r n p0 p1 p2 p3 p4 p5) (hp_r_add v r n p0 p1 p2 p3 p4 p5) (hp_n_add r n p0 p1 p2 p3 p4 p5)) := hDx.weaken (fun k q _ h => hFc q.1 h)
    clear hP hD hPx hDx ht hFc
    exact vx_ret (W.iret (v := hp_a_add r n p0 p1 p2 p3 p4 p5) hx hb hr (fun t9 ht9 hW9 => ⟨⟨_, u, rfl, (hp_w0 hc).symm, hp_ht ht9 hP1, hD1⟩, hS1.F ht9⟩) hS1.2.2 dL_add_13)
set_option maxHeartbeats 400000 in
set_option maxRecDepth 100000 in
theorem c_L_move (l : Launch) (hl0 : l.stackTraces = false) (dC : Nat → ClassId) (dI : Nat → Nat → Nat) (cI cZ cO cJ : ClassId) (o : Nat) (b ad : Nat → Nat) (v : Nat → Int32) (r : Nat → Nat → Int32) (n sz : Nat) (p0 p1 p2 p3 p4 : Int32) (hinv : hp_inv v r n) : vx_Met l yL_move wsL_move ({ frames := 7, cells := 1, slots := 6, locals := 108 }) (va_Pc [.ref o, .int p0, .int p1, .int p2, .int p3, .int p4] (hp_prL (dC, dI) cI cZ cO cJ (hp_X cI cZ cO o b ad v r n) sz)) (va_Qi (S := Nat → Nat) (fun x9 _ => x9 = hp_w hp_K1 hp_K2 hp_K3 (hp_c_move v r n p0 p1 p2 p3 p4) (hp_b (hp_b_move v r n p0 p1 p2 p3 p4))) (fun u9 t9 => va_P (dC, dI) vwCl (hp_X cI cZ cO o b u9 (hp_v_move v r n p0 p1 p2 p3 p4) (hp_r_move v r n p0 p1 p2 p3 p4) n) t9.heap ∧ va_D (va_A (hp_X cI cZ cO o b ad v r n) sz) (hp_X cI cZ cO o b u9 (hp_v_move v r n p0 p1 p2 p3 p4) (hp_r_move v r n p0 p1 p2 p3 p4) n)) (va_A (hp_X cI cZ cO o b ad v r n) sz)) (vx_X (S := Unit) (fun _ => False) (fun _ _ _ => True) (va_A (hp_X cI cZ cO o b ad v r n) sz)) 1 6 (va_A (hp_X cI cZ cO o b ad v r n) sz) := by
  refine vx_ofWH (cc := cL_move) (maxL := 7) (ret := some .int) (hh := [(0, 19, 20, 13), (0, 19, 25, 16), (0, 19, 30, 19)]) (by decide) rfl ?_
  intro p e s m args below meth c s₁ B hml hv
  obtain ⟨rfl, ⟨hsz, hP, hK, hD0, hN, hstr, hZu, hZn⟩, hnc⟩ := hv
  have hx := B.exec
  have hb := B.bytes
  have hr := B.returns
  have hts := atoms_spec (ws := wsL_move) B.pre
  have hown : s.vm.findClass RL = some m.cls := findClass_of_methodNamed B.named
  have hlocks := B.notSynchronized
  have htb := vx_table (x := yL_move) B (hts _ List.mem_cons_self)
  subst hsz
  have hD := hD0.self (sz := s.heap.size)
  generalize hAe : va_A (hp_X cI cZ cO o b ad v r n) s.heap.size = A at hD hZu hZn ⊢
  have hA : ∀ q : Nat, s.heap.size ≤ q → A q := fun q h => by rw [← hAe]; exact Or.inr h
  have hS : va_S A s.heap s.heap [] := va_S.rf
  have hk_1 := hts (.classLink RL 13 hp_E1) (by decide +kernel)
  have hc_1 := hts (.constant RL 15 (-2000000001)) (by decide +kernel)
  have hk_2 := hts (.classLink RL 16 hp_E2) (by decide +kernel)
  have hc_2 := hts (.constant RL 18 (-2000000002)) (by decide +kernel)
  have hk_3 := hts (.classLink RL 19 hp_E3) (by decide +kernel)
  have hc_3 := hts (.constant RL 21 (-2000000003)) (by decide +kernel)
  have hl := lv_entry ([.ref o, .int p0, .int p1, .int p2, .int p3, .int p4]) (n := 7) (Nat.le_of_ble_eq_true rfl)
  rw [lg_entry_eq]
  generalize (lg_sl ([.ref o, .int p0, .int p1, .int p2, .int p3, .int p4]) ++ List.replicate (7 - (lg_sl ([.ref o, .int p0, .int p1, .int p2, .int p3, .int p4])).length) Slot.unset).toArray = ls at hl ⊢
  have hl : lv_has ls 7 [(0, .ref o), (1, .int p0), (2, .int p1), (3, .int p2), (4, .int p3), (5, .int p4)] := hl
  refine lv_aload_n hx hb dL_move_0 rfl (lv_at hl 0 rfl) ?_
  refine lv_iload_n hx hb dL_move_1 rfl (lv_at hl 1 rfl) ?_
  refine lv_iload_n hx hb dL_move_2 rfl (lv_at hl 2 rfl) ?_
  refine lv_iload_n hx hb dL_move_3 rfl (lv_at hl 3 rfl) ?_
  refine lv_iload hx hb dL_move_4 (lv_at hl 4 rfl) ?_
  refine lv_iload hx hb dL_move_6 (lv_at hl 5 rfl) ?_
  have hFc := hp_free hD hS hA
  refine vx_calli (vx_runV (As := [.int p0, .int p1, .int p2, .int p3, .int p4]) (rest := []) ⟨hx, hb, hml, hown, hts⟩ (c_X1_move l hl0 dC dI cI cZ cO cJ o b ad v r n s.heap.size p0 p1 p2 p3 p4 hinv) (cwV 5 hts gL_move_X1_move rfl rfl rfl (by decide +kernel) ⟨(Nat.le_of_ble_eq_true rfl), (Nat.le_of_ble_eq_true rfl)⟩) ⟨hp_fbT, va_recv hK hP (ci := 1) (q0 := 0) rfl hp_X_o, fun U hU hW => ⟨rfl, hp_toT hP hK hD hN hstr hZu hZn hS hA hU hW⟩⟩ rfl rfl hl.1 rfl (lv_room (Nat.le_of_ble_eq_true rfl)) dL_move_8 ⟨(Nat.le_of_ble_eq_true rfl), (Nat.le_of_ble_eq_true rfl)⟩) hS (fun q _ h => hFc q h) hFc (fun q _ h => hFc q h) (fun E ce q9 u t H1 locs1 ht _ _ hBX _ _ hS1 hce hcv hcl => ?_) (fun r9 u t H1 locs1 ht _ hw hB _ _ hS1 => ?_)
  · obtain ⟨⟨k, hk, hC⟩, hPx⟩ := hBX
    have hP1 := hp_th ht hPx
    clear hP hPx ht
    rcases k with _ | _ | _ | k
    · cases Option.some.inj hk
      have hne : ¬ hp_c_move v r n p0 p1 p2 p3 p4 = 0 := fun q => absurd (hC.symm.trans q) (by decide)
      refine vx_catch (own := RL) (name := hp_E1) hown [] ⟨0, 19, 20, 13⟩ [⟨0, 19, 25, 16⟩, ⟨0, 19, 30, 19⟩] (htb.trans rfl) (fun z hz => nomatch hz) (by decide) (by decide) hk_1 (va_Nw.use rfl hN.2.2.2.1) hce hcv hcl ?_
      refine W.eq (g2 := F0 m 20 ls [.ref q9]) rfl ?_
      refine lv_astore (lv' := [(6, .ref q9), (0, .ref o), (1, .int p0), (2, .int p1), (3, .int p2), (4, .int p3), (5, .int p4)]) hx hb dL_move_20 hl (by decide) rfl (fun ls hl => ?_)
      refine lv_ldc hx hb hown hc_1 dL_move_22 ?_
      have hb9 : ¬ hp_b_move v r n p0 p1 p2 p3 p4 = true := fun q => hne (of_decide_eq_true (hp_andl q))
      have hP9 : va_P (dC, dI) vwCl (hp_X cI cZ cO o b ad (hp_v_move v r n p0 p1 p2 p3 p4) (hp_r_move v r n p0 p1 p2 p3 p4) n) H1 := by simp only [hp_v_move, hp_r_move, if_neg hb9]; exact hP1
      have hD9 : va_D A (hp_X cI cZ cO o b ad (hp_v_move v r n p0 p1 p2 p3 p4) (hp_r_move v r n p0 p1 p2 p3 p4) n) := by simp only [hp_v_move, hp_r_move, if_neg hb9]; exact hD
      exact vx_ret (W.iret (v := hp_K1) hx hb hr (fun t9 ht9 hW9 => ⟨⟨_, ad, rfl, hp_w1 hC, hp_ht ht9 hP9, hD9⟩, hS1.F ht9⟩) hS1.2.2 dL_move_24)
    · cases Option.some.inj hk
      have hne : ¬ hp_c_move v r n p0 p1 p2 p3 p4 = 0 := fun q => absurd (hC.symm.trans q) (by decide)
      refine vx_catch (own := RL) (name := hp_E2) hown [⟨0, 19, 20, 13⟩] ⟨0, 19, 25, 16⟩ [⟨0, 19, 30, 19⟩] (htb.trans rfl) (fun z hz => by
          simp only [List.mem_cons, List.not_mem_nil, or_false] at hz
          subst hz
          · exact Or.inr ⟨by decide, hp_E1, hk_1, hnc.1⟩) (by decide) (by decide) hk_2 (va_Nw.use rfl hN.2.2.2.2.1) hce hcv hcl ?_
      refine W.eq (g2 := F0 m 25 ls [.ref q9]) rfl ?_
      refine lv_astore (lv' := [(6, .ref q9), (0, .ref o), (1, .int p0), (2, .int p1), (3, .int p2), (4, .int p3), (5, .int p4)]) hx hb dL_move_25 hl (by decide) rfl (fun ls hl => ?_)
      refine lv_ldc hx hb hown hc_2 dL_move_27 ?_
      have hb9 : ¬ hp_b_move v r n p0 p1 p2 p3 p4 = true := fun q => hne (of_decide_eq_true (hp_andl q))
      have hP9 : va_P (dC, dI) vwCl (hp_X cI cZ cO o b ad (hp_v_move v r n p0 p1 p2 p3 p4) (hp_r_move v r n p0 p1 p2 p3 p4) n) H1 := by simp only [hp_v_move, hp_r_move, if_neg hb9]; exact hP1
      have hD9 : va_D A (hp_X cI cZ cO o b ad (hp_v_move v r n p0 p1 p2 p3 p4) (hp_r_move v r n p0 p1 p2 p3 p4) n) := by simp only [hp_v_move, hp_r_move, if_neg hb9]; exact hD
      exact vx_ret (W.iret (v := hp_K2) hx hb hr (fun t9 ht9 hW9 => ⟨⟨_, ad, rfl, hp_w2 hC, hp_ht ht9 hP9, hD9⟩, hS1.F ht9⟩) hS1.2.2 dL_move_29)
    · cases Option.some.inj hk
      have hne : ¬ hp_c_move v r n p0 p1 p2 p3 p4 = 0 := fun q => absurd (hC.symm.trans q) (by decide)
      refine vx_catch (own := RL) (name := hp_E3) hown [⟨0, 19, 20, 13⟩, ⟨0, 19, 25, 16⟩] ⟨0, 19, 30, 19⟩ [] (htb.trans rfl) (fun z hz => by
          simp only [List.mem_cons, List.not_mem_nil, or_false] at hz
          rcases hz with rfl | rfl
          · exact Or.inr ⟨by decide, hp_E1, hk_1, hnc.2.1⟩
          · exact Or.inr ⟨by decide, hp_E2, hk_2, hnc.2.2⟩) (by decide) (by decide) hk_3 (va_Nw.use rfl hN.2.2.2.2.2.1) hce hcv hcl ?_
      refine W.eq (g2 := F0 m 30 ls [.ref q9]) rfl ?_
      refine lv_astore (lv' := [(6, .ref q9), (0, .ref o), (1, .int p0), (2, .int p1), (3, .int p2), (4, .int p3), (5, .int p4)]) hx hb dL_move_30 hl (by decide) rfl (fun ls hl => ?_)
      refine lv_ldc hx hb hown hc_3 dL_move_32 ?_
      have hb9 : ¬ hp_b_move v r n p0 p1 p2 p3 p4 = true := fun q => hne (of_decide_eq_true (hp_andl q))
      have hP9 : va_P (dC, dI) vwCl (hp_X cI cZ cO o b ad (hp_v_move v r n p0 p1 p2 p3 p4) (hp_r_move v r n p0 p1 p2 p3 p4) n) H1 := by simp only [hp_v_move, hp_r_move, if_neg hb9]; exact hP1
      have hD9 : va_D A (hp_X cI cZ cO o b ad (hp_v_move v r n p0 p1 p2 p3 p4) (hp_r_move v r n p0 p1 p2 p3 p4) n) := by simp only [hp_v_move, hp_r_move, if_neg hb9]; exact hD
      exact vx_ret (W.iret (v := hp_K3) hx hb hr (fun t9 ht9 hW9 => ⟨⟨_, ad, rfl, hp_w3 hC, hp_ht ht9 hP9, hD9⟩, hS1.F ht9⟩) hS1.2.2 dL_move_34)
    · simp at hk
  · obtain ⟨hc, rfl⟩ := hw
    obtain ⟨hPx, hDx⟩ := hB
    have hP1 := hp_th ht hPx
    have hD1 : va_D A (hp_X cI cZ cO o b u (hp_v_move v r n p0 p1 p2 p3 p4) (hp_r_move v r n p0 p1 p2 p3 p4) n) := hDx.weaken (fun k q _ h => hFc q.1 h)
    clear hP hD hPx hDx ht hFc
    refine lv_if_eq (tgt := 18) hx hb dL_move_11 (by decide) (fun q => ?_) (fun q => ?_)
    · refine lv_iconst (v := 0) hx hb dL_move_18 (by decide) ?_
      exact vx_ret (W.iret (v := 0) hx hb hr (fun t9 ht9 hW9 => ⟨⟨_, u, rfl, ((hp_w0 hc).trans q).symm, hp_ht ht9 hP1, hD1⟩, hS1.F ht9⟩) hS1.2.2 dL_move_19)
    · refine lv_iconst (v := 1) hx hb dL_move_14 (by decide) ?_
      refine lv_goto (tgt := 19) hx hb dL_move_15 (by decide) ?_
      exact vx_ret (W.iret (v := 1) hx hb hr (fun t9 ht9 hW9 => ⟨⟨_, u, rfl, ((hp_w0 hc).trans (hp_bt (hp_bn q))).symm, hp_ht ht9 hP1, hD1⟩, hS1.F ht9⟩) hS1.2.2 dL_move_19)
set_option maxHeartbeats 400000 in
set_option maxRecDepth 100000 in
theorem c_L_remove (l : Launch) (hl0 : l.stackTraces = false) (dC : Nat → ClassId) (dI : Nat → Nat → Nat) (cI cZ cO cJ : ClassId) (o : Nat) (b ad : Nat → Nat) (v : Nat → Int32) (r : Nat → Nat → Int32) (n sz : Nat) (p0 p1 p2 : Int32) (hinv : hp_inv v r n) : vx_Met l yL_remove wsL_remove ({ frames := 7, cells := 1, slots := 6, locals := 106 }) (va_Pc [.ref o, .int p0, .int p1, .int p2] (hp_prL (dC, dI) cI cZ cO cJ (hp_X cI cZ cO o b ad v r n) sz)) (va_Qi (S := Nat → Nat) (fun x9 _ => x9 = hp_w hp_K1 hp_K2 hp_K3 (hp_c_remove v r n p0 p1 p2) (1)) (fun u9 t9 => va_P (dC, dI) vwCl (hp_X cI cZ cO o b u9 (hp_v_remove v r n p0 p1 p2) (hp_r_remove v r n p0 p1 p2) n) t9.heap ∧ va_D (va_A (hp_X cI cZ cO o b ad v r n) sz) (hp_X cI cZ cO o b u9 (hp_v_remove v r n p0 p1 p2) (hp_r_remove v r n p0 p1 p2) n)) (va_A (hp_X cI cZ cO o b ad v r n) sz)) (vx_X (S := Unit) (fun _ => False) (fun _ _ _ => True) (va_A (hp_X cI cZ cO o b ad v r n) sz)) 1 6 (va_A (hp_X cI cZ cO o b ad v r n) sz) := by
  refine vx_ofWH (cc := cL_remove) (maxL := 5) (ret := some .int) (hh := [(0, 15, 16, 13), (0, 15, 21, 16), (0, 15, 26, 19)]) (by decide) rfl ?_
  intro p e s m args below meth c s₁ B hml hv
  obtain ⟨rfl, ⟨hsz, hP, hK, hD0, hN, hstr, hZu, hZn⟩, hnc⟩ := hv
  have hx := B.exec
  have hb := B.bytes
  have hr := B.returns
  have hts := atoms_spec (ws := wsL_remove) B.pre
  have hown : s.vm.findClass RL = some m.cls := findClass_of_methodNamed B.named
  have hlocks := B.notSynchronized
  have htb := vx_table (x := yL_remove) B (hts _ List.mem_cons_self)
  subst hsz
  have hD := hD0.self (sz := s.heap.size)
  generalize hAe : va_A (hp_X cI cZ cO o b ad v r n) s.heap.size = A at hD hZu hZn ⊢
  have hA : ∀ q : Nat, s.heap.size ≤ q → A q := fun q h => by rw [← hAe]; exact Or.inr h
  have hS : va_S A s.heap s.heap [] := va_S.rf
  have hk_1 := hts (.classLink RL 13 hp_E1) (by decide +kernel)
  have hc_1 := hts (.constant RL 15 (-2000000001)) (by decide +kernel)
  have hk_2 := hts (.classLink RL 16 hp_E2) (by decide +kernel)
  have hc_2 := hts (.constant RL 18 (-2000000002)) (by decide +kernel)
  have hk_3 := hts (.classLink RL 19 hp_E3) (by decide +kernel)
  have hc_3 := hts (.constant RL 21 (-2000000003)) (by decide +kernel)
  have hl := lv_entry ([.ref o, .int p0, .int p1, .int p2]) (n := 5) (Nat.le_of_ble_eq_true rfl)
  rw [lg_entry_eq]
  generalize (lg_sl ([.ref o, .int p0, .int p1, .int p2]) ++ List.replicate (5 - (lg_sl ([.ref o, .int p0, .int p1, .int p2])).length) Slot.unset).toArray = ls at hl ⊢
  have hl : lv_has ls 5 [(0, .ref o), (1, .int p0), (2, .int p1), (3, .int p2)] := hl
  refine lv_aload_n hx hb dL_remove_0 rfl (lv_at hl 0 rfl) ?_
  refine lv_iload_n hx hb dL_remove_1 rfl (lv_at hl 1 rfl) ?_
  refine lv_iload_n hx hb dL_remove_2 rfl (lv_at hl 2 rfl) ?_
  refine lv_iload_n hx hb dL_remove_3 rfl (lv_at hl 3 rfl) ?_
  have hFc := hp_free hD hS hA
  refine vx_calli (vx_runV (As := [.int p0, .int p1, .int p2]) (rest := []) ⟨hx, hb, hml, hown, hts⟩ (c_X1_remove l hl0 dC dI cI cZ cO cJ o b ad v r n s.heap.size p0 p1 p2 hinv) (cwV 3 hts gL_remove_X1_remove rfl rfl rfl (by decide +kernel) ⟨(Nat.le_of_ble_eq_true rfl), (Nat.le_of_ble_eq_true rfl)⟩) ⟨hp_fbT, va_recv hK hP (ci := 1) (q0 := 0) rfl hp_X_o, fun U hU hW => ⟨rfl, hp_toT hP hK hD hN hstr hZu hZn hS hA hU hW⟩⟩ rfl rfl hl.1 rfl (lv_room (Nat.le_of_ble_eq_true rfl)) dL_remove_4 ⟨(Nat.le_of_ble_eq_true rfl), (Nat.le_of_ble_eq_true rfl)⟩) hS (fun q _ h => hFc q h) hFc (fun q _ h => hFc q h) (fun E ce q9 u t H1 locs1 ht _ _ hBX _ _ hS1 hce hcv hcl => ?_) (fun r9 u t H1 locs1 ht _ hw hB _ _ hS1 => ?_)
  · obtain ⟨⟨k, hk, hC⟩, hPx⟩ := hBX
    have hP1 := hp_th ht hPx
    clear hP hPx ht
    rcases k with _ | _ | _ | k
    · cases Option.some.inj hk
      have hne : ¬ hp_c_remove v r n p0 p1 p2 = 0 := fun q => absurd (hC.symm.trans q) (by decide)
      refine vx_catch (own := RL) (name := hp_E1) hown [] ⟨0, 15, 16, 13⟩ [⟨0, 15, 21, 16⟩, ⟨0, 15, 26, 19⟩] (htb.trans rfl) (fun z hz => nomatch hz) (by decide) (by decide) hk_1 (va_Nw.use rfl hN.2.2.2.1) hce hcv hcl ?_
      refine W.eq (g2 := F0 m 16 ls [.ref q9]) rfl ?_
      refine lv_astore (lv' := [(4, .ref q9), (0, .ref o), (1, .int p0), (2, .int p1), (3, .int p2)]) hx hb dL_remove_16 hl (by decide) rfl (fun ls hl => ?_)
      refine lv_ldc hx hb hown hc_1 dL_remove_18 ?_
      have hP9 : va_P (dC, dI) vwCl (hp_X cI cZ cO o b ad (hp_v_remove v r n p0 p1 p2) (hp_r_remove v r n p0 p1 p2) n) H1 := by simp only [hp_v_remove, hp_r_remove, if_neg hne]; exact hP1
      have hD9 : va_D A (hp_X cI cZ cO o b ad (hp_v_remove v r n p0 p1 p2) (hp_r_remove v r n p0 p1 p2) n) := by simp only [hp_v_remove, hp_r_remove, if_neg hne]; exact hD
      exact vx_ret (W.iret (v := hp_K1) hx hb hr (fun t9 ht9 hW9 => ⟨⟨_, ad, rfl, hp_w1 hC, hp_ht ht9 hP9, hD9⟩, hS1.F ht9⟩) hS1.2.2 dL_remove_20)
    · cases Option.some.inj hk
      have hne : ¬ hp_c_remove v r n p0 p1 p2 = 0 := fun q => absurd (hC.symm.trans q) (by decide)
      refine vx_catch (own := RL) (name := hp_E2) hown [⟨0, 15, 16, 13⟩] ⟨0, 15, 21, 16⟩ [⟨0, 15, 26, 19⟩] (htb.trans rfl) (fun z hz => by
          simp only [List.mem_cons, List.not_mem_nil, or_false] at hz
          subst hz
          · exact Or.inr ⟨by decide, hp_E1, hk_1, hnc.1⟩) (by decide) (by decide) hk_2 (va_Nw.use rfl hN.2.2.2.2.1) hce hcv hcl ?_
      refine W.eq (g2 := F0 m 21 ls [.ref q9]) rfl ?_
      refine lv_astore (lv' := [(4, .ref q9), (0, .ref o), (1, .int p0), (2, .int p1), (3, .int p2)]) hx hb dL_remove_21 hl (by decide) rfl (fun ls hl => ?_)
      refine lv_ldc hx hb hown hc_2 dL_remove_23 ?_
      have hP9 : va_P (dC, dI) vwCl (hp_X cI cZ cO o b ad (hp_v_remove v r n p0 p1 p2) (hp_r_remove v r n p0 p1 p2) n) H1 := by simp only [hp_v_remove, hp_r_remove, if_neg hne]; exact hP1
      have hD9 : va_D A (hp_X cI cZ cO o b ad (hp_v_remove v r n p0 p1 p2) (hp_r_remove v r n p0 p1 p2) n) := by simp only [hp_v_remove, hp_r_remove, if_neg hne]; exact hD
      exact vx_ret (W.iret (v := hp_K2) hx hb hr (fun t9 ht9 hW9 => ⟨⟨_, ad, rfl, hp_w2 hC, hp_ht ht9 hP9, hD9⟩, hS1.F ht9⟩) hS1.2.2 dL_remove_25)
    · cases Option.some.inj hk
      have hne : ¬ hp_c_remove v r n p0 p1 p2 = 0 := fun q => absurd (hC.symm.trans q) (by decide)
      refine vx_catch (own := RL) (name := hp_E3) hown [⟨0, 15, 16, 13⟩, ⟨0, 15, 21, 16⟩] ⟨0, 15, 26, 19⟩ [] (htb.trans rfl) (fun z hz => by
          simp only [List.mem_cons, List.not_mem_nil, or_false] at hz
          rcases hz with rfl | rfl
          · exact Or.inr ⟨by decide, hp_E1, hk_1, hnc.2.1⟩
          · exact Or.inr ⟨by decide, hp_E2, hk_2, hnc.2.2⟩) (by decide) (by decide) hk_3 (va_Nw.use rfl hN.2.2.2.2.2.1) hce hcv hcl ?_
      refine W.eq (g2 := F0 m 26 ls [.ref q9]) rfl ?_
      refine lv_astore (lv' := [(4, .ref q9), (0, .ref o), (1, .int p0), (2, .int p1), (3, .int p2)]) hx hb dL_remove_26 hl (by decide) rfl (fun ls hl => ?_)
      refine lv_ldc hx hb hown hc_3 dL_remove_28 ?_
      have hP9 : va_P (dC, dI) vwCl (hp_X cI cZ cO o b ad (hp_v_remove v r n p0 p1 p2) (hp_r_remove v r n p0 p1 p2) n) H1 := by simp only [hp_v_remove, hp_r_remove, if_neg hne]; exact hP1
      have hD9 : va_D A (hp_X cI cZ cO o b ad (hp_v_remove v r n p0 p1 p2) (hp_r_remove v r n p0 p1 p2) n) := by simp only [hp_v_remove, hp_r_remove, if_neg hne]; exact hD
      exact vx_ret (W.iret (v := hp_K3) hx hb hr (fun t9 ht9 hW9 => ⟨⟨_, ad, rfl, hp_w3 hC, hp_ht ht9 hP9, hD9⟩, hS1.F ht9⟩) hS1.2.2 dL_remove_30)
    · simp at hk
  · obtain ⟨hc, rfl⟩ := hw
    obtain ⟨hPx, hDx⟩ := hB
    have hP1 := hp_th ht hPx
    have hD1 : va_D A (hp_X cI cZ cO o b u (hp_v_remove v r n p0 p1 p2) (hp_r_remove v r n p0 p1 p2) n) := hDx.weaken (fun k q _ h => hFc q.1 h)
    clear hP hD hPx hDx ht hFc
    refine lv_if_eq (tgt := 14) hx hb dL_remove_7 (by decide) (fun q => absurd q (by decide)) (fun _ => ?_)
    refine lv_iconst (v := 1) hx hb dL_remove_10 (by decide) ?_
    refine lv_goto (tgt := 15) hx hb dL_remove_11 (by decide) ?_
    exact vx_ret (W.iret (v := 1) hx hb hr (fun t9 ht9 hW9 => ⟨⟨_, u, rfl, (hp_w0 hc).symm, hp_ht ht9 hP1, hD1⟩, hS1.F ht9⟩) hS1.2.2 dL_remove_15)
set_option maxHeartbeats 400000 in
set_option maxRecDepth 100000 in
theorem c_L_clear (l : Launch) (hl0 : l.stackTraces = false) (dC : Nat → ClassId) (dI : Nat → Nat → Nat) (cI cZ cO cJ : ClassId) (o : Nat) (b ad : Nat → Nat) (v : Nat → Int32) (r : Nat → Nat → Int32) (n sz : Nat) (p0 p1 p2 : Int32) (hinv : hp_inv v r n) : vx_Met l yL_clear wsL_clear ({ frames := 7, cells := 1, slots := 6, locals := 106 }) (va_Pc [.ref o, .int p0, .int p1, .int p2] (hp_prL (dC, dI) cI cZ cO cJ (hp_X cI cZ cO o b ad v r n) sz)) (va_Qi (S := Nat → Nat) (fun x9 _ => x9 = hp_w hp_K1 hp_K2 hp_K2 (hp_c_clear p0 p1 p2) (hp_a_clear r p0 p1 p2)) (fun u9 t9 => va_P (dC, dI) vwCl (hp_X cI cZ cO o b u9 v (hp_r_clear r p0 p1 p2) n) t9.heap ∧ va_D (va_A (hp_X cI cZ cO o b ad v r n) sz) (hp_X cI cZ cO o b u9 v (hp_r_clear r p0 p1 p2) n)) (va_A (hp_X cI cZ cO o b ad v r n) sz)) (vx_X (S := Unit) (fun _ => False) (fun _ _ _ => True) (va_A (hp_X cI cZ cO o b ad v r n) sz)) 1 6 (va_A (hp_X cI cZ cO o b ad v r n) sz) := by
  refine vx_ofWH (cc := cL_clear) (maxL := 5) (ret := some .int) (hh := [(0, 7, 8, 13), (0, 7, 13, 16)]) (by decide) rfl ?_
  intro p e s m args below meth c s₁ B hml hv
  obtain ⟨rfl, ⟨hsz, hP, hK, hD0, hN, hstr, hZu, hZn⟩, hnc⟩ := hv
  have hx := B.exec
  have hb := B.bytes
  have hr := B.returns
  have hts := atoms_spec (ws := wsL_clear) B.pre
  have hown : s.vm.findClass RL = some m.cls := findClass_of_methodNamed B.named
  have hlocks := B.notSynchronized
  have htb := vx_table (x := yL_clear) B (hts _ List.mem_cons_self)
  subst hsz
  have hD := hD0.self (sz := s.heap.size)
  generalize hAe : va_A (hp_X cI cZ cO o b ad v r n) s.heap.size = A at hD hZu hZn ⊢
  have hA : ∀ q : Nat, s.heap.size ≤ q → A q := fun q h => by rw [← hAe]; exact Or.inr h
  have hS : va_S A s.heap s.heap [] := va_S.rf
  have hk_1 := hts (.classLink RL 13 hp_E1) (by decide +kernel)
  have hc_1 := hts (.constant RL 15 (-2000000001)) (by decide +kernel)
  have hk_2 := hts (.classLink RL 16 hp_E2) (by decide +kernel)
  have hc_2 := hts (.constant RL 18 (-2000000002)) (by decide +kernel)
  have hl := lv_entry ([.ref o, .int p0, .int p1, .int p2]) (n := 5) (Nat.le_of_ble_eq_true rfl)
  rw [lg_entry_eq]
  generalize (lg_sl ([.ref o, .int p0, .int p1, .int p2]) ++ List.replicate (5 - (lg_sl ([.ref o, .int p0, .int p1, .int p2])).length) Slot.unset).toArray = ls at hl ⊢
  have hl : lv_has ls 5 [(0, .ref o), (1, .int p0), (2, .int p1), (3, .int p2)] := hl
  refine lv_aload_n hx hb dL_clear_0 rfl (lv_at hl 0 rfl) ?_
  refine lv_iload_n hx hb dL_clear_1 rfl (lv_at hl 1 rfl) ?_
  refine lv_iload_n hx hb dL_clear_2 rfl (lv_at hl 2 rfl) ?_
  refine lv_iload_n hx hb dL_clear_3 rfl (lv_at hl 3 rfl) ?_
  have hFc := hp_free hD hS hA
  refine vx_calli (vx_runV (As := [.int p0, .int p1, .int p2]) (rest := []) ⟨hx, hb, hml, hown, hts⟩ (c_X1_clear l hl0 dC dI cI cZ cO cJ o b ad v r n s.heap.size p0 p1 p2) (cwV 3 hts gL_clear_X1_clear rfl rfl rfl (by decide +kernel) ⟨(Nat.le_of_ble_eq_true rfl), (Nat.le_of_ble_eq_true rfl)⟩) ⟨hp_fbT, va_recv hK hP (ci := 1) (q0 := 0) rfl hp_X_o, fun U hU hW => ⟨rfl, hp_toT hP hK hD hN hstr hZu hZn hS hA hU hW⟩⟩ rfl rfl hl.1 rfl (lv_room (Nat.le_of_ble_eq_true rfl)) dL_clear_4 ⟨(Nat.le_of_ble_eq_true rfl), (Nat.le_of_ble_eq_true rfl)⟩) hS (fun q _ h => hFc q h) hFc (fun q _ h => hFc q h) (fun E ce q9 u t H1 locs1 ht _ _ hBX _ _ hS1 hce hcv hcl => ?_) (fun r9 u t H1 locs1 ht _ hw hB _ _ hS1 => ?_)
  · obtain ⟨⟨k, hk, hC⟩, hPx⟩ := hBX
    have hP1 := hp_th ht hPx
    clear hP hPx ht
    rcases k with _ | _ | k
    · cases Option.some.inj hk
      have hne : ¬ hp_c_clear p0 p1 p2 = 0 := fun q => absurd (hC.symm.trans q) (by decide)
      refine vx_catch (own := RL) (name := hp_E1) hown [] ⟨0, 7, 8, 13⟩ [⟨0, 7, 13, 16⟩] (htb.trans rfl) (fun z hz => nomatch hz) (by decide) (by decide) hk_1 (va_Nw.use rfl hN.2.2.2.1) hce hcv hcl ?_
      refine W.eq (g2 := F0 m 8 ls [.ref q9]) rfl ?_
      refine lv_astore (lv' := [(4, .ref q9), (0, .ref o), (1, .int p0), (2, .int p1), (3, .int p2)]) hx hb dL_clear_8 hl (by decide) rfl (fun ls hl => ?_)
      refine lv_ldc hx hb hown hc_1 dL_clear_10 ?_
      have hP9 : va_P (dC, dI) vwCl (hp_X cI cZ cO o b ad v (hp_r_clear r p0 p1 p2) n) H1 := by simp only [hp_r_clear, if_neg hne]; exact hP1
      have hD9 : va_D A (hp_X cI cZ cO o b ad v (hp_r_clear r p0 p1 p2) n) := by simp only [hp_r_clear, if_neg hne]; exact hD
      exact vx_ret (W.iret (v := hp_K1) hx hb hr (fun t9 ht9 hW9 => ⟨⟨_, ad, rfl, hp_w1 hC, hp_ht ht9 hP9, hD9⟩, hS1.F ht9⟩) hS1.2.2 dL_clear_12)
    · cases Option.some.inj hk
      have hne : ¬ hp_c_clear p0 p1 p2 = 0 := fun q => absurd (hC.symm.trans q) (by decide)
      refine vx_catch (own := RL) (name := hp_E2) hown [⟨0, 7, 8, 13⟩] ⟨0, 7, 13, 16⟩ [] (htb.trans rfl) (fun z hz => by
          simp only [List.mem_cons, List.not_mem_nil, or_false] at hz
          subst hz
          · exact Or.inr ⟨by decide, hp_E1, hk_1, hnc.1⟩) (by decide) (by decide) hk_2 (va_Nw.use rfl hN.2.2.2.2.1) hce hcv hcl ?_
      refine W.eq (g2 := F0 m 13 ls [.ref q9]) rfl ?_
      refine lv_astore (lv' := [(4, .ref q9), (0, .ref o), (1, .int p0), (2, .int p1), (3, .int p2)]) hx hb dL_clear_13 hl (by decide) rfl (fun ls hl => ?_)
      refine lv_ldc hx hb hown hc_2 dL_clear_15 ?_
      have hP9 : va_P (dC, dI) vwCl (hp_X cI cZ cO o b ad v (hp_r_clear r p0 p1 p2) n) H1 := by simp only [hp_r_clear, if_neg hne]; exact hP1
      have hD9 : va_D A (hp_X cI cZ cO o b ad v (hp_r_clear r p0 p1 p2) n) := by simp only [hp_r_clear, if_neg hne]; exact hD
      exact vx_ret (W.iret (v := hp_K2) hx hb hr (fun t9 ht9 hW9 => ⟨⟨_, ad, rfl, hp_w2 hC, hp_ht ht9 hP9, hD9⟩, hS1.F ht9⟩) hS1.2.2 dL_clear_17)
    · simp at hk
  · obtain ⟨hc, rfl⟩ := hw
    obtain ⟨hPx, hDx⟩ := hB
    have hP1 := hp_th ht hPx
    have hD1 : va_D A (hp_X cI cZ cO o b u v (hp_r_clear r p0 p1 p2) n) := hDx.weaken (fun k q _ h => hFc q.1 h)
    clear hP hD hPx hDx ht hFc
    exact vx_ret (W.iret (v := hp_a_clear r p0 p1 p2) hx hb hr (fun t9 ht9 hW9 => ⟨⟨_, u, rfl, (hp_w0 hc).symm, hp_ht ht9 hP1, hD1⟩, hS1.F ht9⟩) hS1.2.2 dL_clear_7)
set_option maxHeartbeats 400000 in
set_option maxRecDepth 100000 in
theorem c_L_part (l : Launch) (hl0 : l.stackTraces = false) (dC : Nat → ClassId) (dI : Nat → Nat → Nat) (cI cZ cO cJ : ClassId) (o : Nat) (b ad : Nat → Nat) (v : Nat → Int32) (r : Nat → Nat → Int32) (n sz : Nat) (p0 p1 : Int32) (hinv : hp_inv v r n) : vx_Met l yL_part wsL_part ({ frames := 7, cells := 1, slots := 6, locals := 105 }) (va_Pc [.ref o, .int p0, .int p1] (hp_prL (dC, dI) cI cZ cO cJ (hp_X cI cZ cO o b ad v r n) sz)) (va_Qi (S := Nat → Nat) (fun x9 _ => x9 = hp_w hp_K1 hp_K2 hp_K2 (hp_c_part p0 p1) (hp_a_part r p0 p1)) (fun u9 t9 => va_P (dC, dI) vwCl (hp_X cI cZ cO o b u9 v (hp_r_part r p0 p1) n) t9.heap ∧ va_D (va_A (hp_X cI cZ cO o b ad v r n) sz) (hp_X cI cZ cO o b u9 v (hp_r_part r p0 p1) n)) (va_A (hp_X cI cZ cO o b ad v r n) sz)) (vx_X (S := Unit) (fun _ => False) (fun _ _ _ => True) (va_A (hp_X cI cZ cO o b ad v r n) sz)) 1 6 (va_A (hp_X cI cZ cO o b ad v r n) sz) := by
  refine vx_ofWH (cc := cL_part) (maxL := 4) (ret := some .int) (hh := [(0, 6, 7, 13), (0, 6, 11, 16)]) (by decide) rfl ?_
  intro p e s m args below meth c s₁ B hml hv
  obtain ⟨rfl, ⟨hsz, hP, hK, hD0, hN, hstr, hZu, hZn⟩, hnc⟩ := hv
  have hx := B.exec
  have hb := B.bytes
  have hr := B.returns
  have hts := atoms_spec (ws := wsL_part) B.pre
  have hown : s.vm.findClass RL = some m.cls := findClass_of_methodNamed B.named
  have hlocks := B.notSynchronized
  have htb := vx_table (x := yL_part) B (hts _ List.mem_cons_self)
  subst hsz
  have hD := hD0.self (sz := s.heap.size)
  generalize hAe : va_A (hp_X cI cZ cO o b ad v r n) s.heap.size = A at hD hZu hZn ⊢
  have hA : ∀ q : Nat, s.heap.size ≤ q → A q := fun q h => by rw [← hAe]; exact Or.inr h
  have hS : va_S A s.heap s.heap [] := va_S.rf
  have hk_1 := hts (.classLink RL 13 hp_E1) (by decide +kernel)
  have hc_1 := hts (.constant RL 15 (-2000000001)) (by decide +kernel)
  have hk_2 := hts (.classLink RL 16 hp_E2) (by decide +kernel)
  have hc_2 := hts (.constant RL 18 (-2000000002)) (by decide +kernel)
  have hl := lv_entry ([.ref o, .int p0, .int p1]) (n := 4) (Nat.le_of_ble_eq_true rfl)
  rw [lg_entry_eq]
  generalize (lg_sl ([.ref o, .int p0, .int p1]) ++ List.replicate (4 - (lg_sl ([.ref o, .int p0, .int p1])).length) Slot.unset).toArray = ls at hl ⊢
  have hl : lv_has ls 4 [(0, .ref o), (1, .int p0), (2, .int p1)] := hl
  refine lv_aload_n hx hb dL_part_0 rfl (lv_at hl 0 rfl) ?_
  refine lv_iload_n hx hb dL_part_1 rfl (lv_at hl 1 rfl) ?_
  refine lv_iload_n hx hb dL_part_2 rfl (lv_at hl 2 rfl) ?_
  have hFc := hp_free hD hS hA
  refine vx_calli (vx_runV (As := [.int p0, .int p1]) (rest := []) ⟨hx, hb, hml, hown, hts⟩ (c_X1_part l hl0 dC dI cI cZ cO cJ o b ad v r n s.heap.size p0 p1) (cwV 2 hts gL_part_X1_part rfl rfl rfl (by decide +kernel) ⟨(Nat.le_of_ble_eq_true rfl), (Nat.le_of_ble_eq_true rfl)⟩) ⟨hp_fbT, va_recv hK hP (ci := 1) (q0 := 0) rfl hp_X_o, fun U hU hW => ⟨rfl, hp_toT hP hK hD hN hstr hZu hZn hS hA hU hW⟩⟩ rfl rfl hl.1 rfl (lv_room (Nat.le_of_ble_eq_true rfl)) dL_part_3 ⟨(Nat.le_of_ble_eq_true rfl), (Nat.le_of_ble_eq_true rfl)⟩) hS (fun q _ h => hFc q h) hFc (fun q _ h => hFc q h) (fun E ce q9 u t H1 locs1 ht _ _ hBX _ _ hS1 hce hcv hcl => ?_) (fun r9 u t H1 locs1 ht _ hw hB _ _ hS1 => ?_)
  · obtain ⟨⟨k, hk, hC⟩, hPx⟩ := hBX
    have hP1 := hp_th ht hPx
    clear hP hPx ht
    rcases k with _ | _ | k
    · cases Option.some.inj hk
      have hne : ¬ hp_c_part p0 p1 = 0 := fun q => absurd (hC.symm.trans q) (by decide)
      refine vx_catch (own := RL) (name := hp_E1) hown [] ⟨0, 6, 7, 13⟩ [⟨0, 6, 11, 16⟩] (htb.trans rfl) (fun z hz => nomatch hz) (by decide) (by decide) hk_1 (va_Nw.use rfl hN.2.2.2.1) hce hcv hcl ?_
      refine W.eq (g2 := F0 m 7 ls [.ref q9]) rfl ?_
      refine lv_astore_n (lv' := [(3, .ref q9), (0, .ref o), (1, .int p0), (2, .int p1)]) hx hb dL_part_7 rfl hl (by decide) rfl (fun ls hl => ?_)
      refine lv_ldc hx hb hown hc_1 dL_part_8 ?_
      have hP9 : va_P (dC, dI) vwCl (hp_X cI cZ cO o b ad v (hp_r_part r p0 p1) n) H1 := by simp only [hp_r_part, if_neg hne]; exact hP1
      have hD9 : va_D A (hp_X cI cZ cO o b ad v (hp_r_part r p0 p1) n) := by simp only [hp_r_part, if_neg hne]; exact hD
      exact vx_ret (W.iret (v := hp_K1) hx hb hr (fun t9 ht9 hW9 => ⟨⟨_, ad, rfl, hp_w1 hC, hp_ht ht9 hP9, hD9⟩, hS1.F ht9⟩) hS1.2.2 dL_part_10)
    · cases Option.some.inj hk
      have hne : ¬ hp_c_part p0 p1 = 0 := fun q => absurd (hC.symm.trans q) (by decide)
      refine vx_catch (own := RL) (name := hp_E2) hown [⟨0, 6, 7, 13⟩] ⟨0, 6, 11, 16⟩ [] (htb.trans rfl) (fun z hz => by
          simp only [List.mem_cons, List.not_mem_nil, or_false] at hz
          subst hz
          · exact Or.inr ⟨by decide, hp_E1, hk_1, hnc.1⟩) (by decide) (by decide) hk_2 (va_Nw.use rfl hN.2.2.2.2.1) hce hcv hcl ?_
      refine W.eq (g2 := F0 m 11 ls [.ref q9]) rfl ?_
      refine lv_astore_n (lv' := [(3, .ref q9), (0, .ref o), (1, .int p0), (2, .int p1)]) hx hb dL_part_11 rfl hl (by decide) rfl (fun ls hl => ?_)
      refine lv_ldc hx hb hown hc_2 dL_part_12 ?_
      have hP9 : va_P (dC, dI) vwCl (hp_X cI cZ cO o b ad v (hp_r_part r p0 p1) n) H1 := by simp only [hp_r_part, if_neg hne]; exact hP1
      have hD9 : va_D A (hp_X cI cZ cO o b ad v (hp_r_part r p0 p1) n) := by simp only [hp_r_part, if_neg hne]; exact hD
      exact vx_ret (W.iret (v := hp_K2) hx hb hr (fun t9 ht9 hW9 => ⟨⟨_, ad, rfl, hp_w2 hC, hp_ht ht9 hP9, hD9⟩, hS1.F ht9⟩) hS1.2.2 dL_part_14)
    · simp at hk
  · obtain ⟨hc, rfl⟩ := hw
    obtain ⟨hPx, hDx⟩ := hB
    have hP1 := hp_th ht hPx
    have hD1 : va_D A (hp_X cI cZ cO o b u v (hp_r_part r p0 p1) n) := hDx.weaken (fun k q _ h => hFc q.1 h)
    clear hP hD hPx hDx ht hFc
    exact vx_ret (W.iret (v := hp_a_part r p0 p1) hx hb hr (fun t9 ht9 hW9 => ⟨⟨_, u, rfl, (hp_w0 hc).symm, hp_ht ht9 hP1, hD1⟩, hS1.F ht9⟩) hS1.2.2 dL_part_6)
set_option maxHeartbeats 400000 in
set_option maxRecDepth 100000 in
theorem c_L_lead (l : Launch) (hl0 : l.stackTraces = false) (dC : Nat → ClassId) (dI : Nat → Nat → Nat) (cI cZ cO cJ : ClassId) (o : Nat) (b ad : Nat → Nat) (v : Nat → Int32) (r : Nat → Nat → Int32) (n sz : Nat) (p0 p1 : Int32) (hinv : hp_inv v r n) : vx_Met l yL_lead wsL_lead ({ frames := 7, cells := 1, slots := 6, locals := 105 }) (va_Pc [.ref o, .int p0, .int p1] (hp_prL (dC, dI) cI cZ cO cJ (hp_X cI cZ cO o b ad v r n) sz)) (va_Qi (S := Nat → Nat) (fun x9 _ => x9 = hp_w hp_K1 hp_K2 hp_K2 (hp_c_lead p0 p1) (hp_a_lead r p0 p1)) (fun u9 t9 => va_P (dC, dI) vwCl (hp_X cI cZ cO o b u9 v (hp_r_lead r p0 p1) n) t9.heap ∧ va_D (va_A (hp_X cI cZ cO o b ad v r n) sz) (hp_X cI cZ cO o b u9 v (hp_r_lead r p0 p1) n)) (va_A (hp_X cI cZ cO o b ad v r n) sz)) (vx_X (S := Unit) (fun _ => False) (fun _ _ _ => True) (va_A (hp_X cI cZ cO o b ad v r n) sz)) 1 6 (va_A (hp_X cI cZ cO o b ad v r n) sz) := by
  refine vx_ofWH (cc := cL_lead) (maxL := 4) (ret := some .int) (hh := [(0, 6, 7, 13), (0, 6, 11, 16)]) (by decide) rfl ?_
  intro p e s m args below meth c s₁ B hml hv
  obtain ⟨rfl, ⟨hsz, hP, hK, hD0, hN, hstr, hZu, hZn⟩, hnc⟩ := hv
  have hx := B.exec
  have hb := B.bytes
  have hr := B.returns
  have hts := atoms_spec (ws := wsL_lead) B.pre
  have hown : s.vm.findClass RL = some m.cls := findClass_of_methodNamed B.named
  have hlocks := B.notSynchronized
  have htb := vx_table (x := yL_lead) B (hts _ List.mem_cons_self)
  subst hsz
  have hD := hD0.self (sz := s.heap.size)
  generalize hAe : va_A (hp_X cI cZ cO o b ad v r n) s.heap.size = A at hD hZu hZn ⊢
  have hA : ∀ q : Nat, s.heap.size ≤ q → A q := fun q h => by rw [← hAe]; exact Or.inr h
  have hS : va_S A s.heap s.heap [] := va_S.rf
  have hk_1 := hts (.classLink RL 13 hp_E1) (by decide +kernel)
  have hc_1 := hts (.constant RL 15 (-2000000001)) (by decide +kernel)
  have hk_2 := hts (.classLink RL 16 hp_E2) (by decide +kernel)
  have hc_2 := hts (.constant RL 18 (-2000000002)) (by decide +kernel)
  have hl := lv_entry ([.ref o, .int p0, .int p1]) (n := 4) (Nat.le_of_ble_eq_true rfl)
  rw [lg_entry_eq]
  generalize (lg_sl ([.ref o, .int p0, .int p1]) ++ List.replicate (4 - (lg_sl ([.ref o, .int p0, .int p1])).length) Slot.unset).toArray = ls at hl ⊢
  have hl : lv_has ls 4 [(0, .ref o), (1, .int p0), (2, .int p1)] := hl
  refine lv_aload_n hx hb dL_lead_0 rfl (lv_at hl 0 rfl) ?_
  refine lv_iload_n hx hb dL_lead_1 rfl (lv_at hl 1 rfl) ?_
  refine lv_iload_n hx hb dL_lead_2 rfl (lv_at hl 2 rfl) ?_
  have hFc := hp_free hD hS hA
  refine vx_calli (vx_runV (As := [.int p0, .int p1]) (rest := []) ⟨hx, hb, hml, hown, hts⟩ (c_X1_lead l hl0 dC dI cI cZ cO cJ o b ad v r n s.heap.size p0 p1) (cwV 2 hts gL_lead_X1_lead rfl rfl rfl (by decide +kernel) ⟨(Nat.le_of_ble_eq_true rfl), (Nat.le_of_ble_eq_true rfl)⟩) ⟨hp_fbT, va_recv hK hP (ci := 1) (q0 := 0) rfl hp_X_o, fun U hU hW => ⟨rfl, hp_toT hP hK hD hN hstr hZu hZn hS hA hU hW⟩⟩ rfl rfl hl.1 rfl (lv_room (Nat.le_of_ble_eq_true rfl)) dL_lead_3 ⟨(Nat.le_of_ble_eq_true rfl), (Nat.le_of_ble_eq_true rfl)⟩) hS (fun q _ h => hFc q h) hFc (fun q _ h => hFc q h) (fun E ce q9 u t H1 locs1 ht _ _ hBX _ _ hS1 hce hcv hcl => ?_) (fun r9 u t H1 locs1 ht _ hw hB _ _ hS1 => ?_)
  · obtain ⟨⟨k, hk, hC⟩, hPx⟩ := hBX
    have hP1 := hp_th ht hPx
    clear hP hPx ht
    rcases k with _ | _ | k
    · cases Option.some.inj hk
      have hne : ¬ hp_c_lead p0 p1 = 0 := fun q => absurd (hC.symm.trans q) (by decide)
      refine vx_catch (own := RL) (name := hp_E1) hown [] ⟨0, 6, 7, 13⟩ [⟨0, 6, 11, 16⟩] (htb.trans rfl) (fun z hz => nomatch hz) (by decide) (by decide) hk_1 (va_Nw.use rfl hN.2.2.2.1) hce hcv hcl ?_
      refine W.eq (g2 := F0 m 7 ls [.ref q9]) rfl ?_
      refine lv_astore_n (lv' := [(3, .ref q9), (0, .ref o), (1, .int p0), (2, .int p1)]) hx hb dL_lead_7 rfl hl (by decide) rfl (fun ls hl => ?_)
      refine lv_ldc hx hb hown hc_1 dL_lead_8 ?_
      have hP9 : va_P (dC, dI) vwCl (hp_X cI cZ cO o b ad v (hp_r_lead r p0 p1) n) H1 := by simp only [hp_r_lead, if_neg hne]; exact hP1
      have hD9 : va_D A (hp_X cI cZ cO o b ad v (hp_r_lead r p0 p1) n) := by simp only [hp_r_lead, if_neg hne]; exact hD
      exact vx_ret (W.iret (v := hp_K1) hx hb hr (fun t9 ht9 hW9 => ⟨⟨_, ad, rfl, hp_w1 hC, hp_ht ht9 hP9, hD9⟩, hS1.F ht9⟩) hS1.2.2 dL_lead_10)
    · cases Option.some.inj hk
      have hne : ¬ hp_c_lead p0 p1 = 0 := fun q => absurd (hC.symm.trans q) (by decide)
      refine vx_catch (own := RL) (name := hp_E2) hown [⟨0, 6, 7, 13⟩] ⟨0, 6, 11, 16⟩ [] (htb.trans rfl) (fun z hz => by
          simp only [List.mem_cons, List.not_mem_nil, or_false] at hz
          subst hz
          · exact Or.inr ⟨by decide, hp_E1, hk_1, hnc.1⟩) (by decide) (by decide) hk_2 (va_Nw.use rfl hN.2.2.2.2.1) hce hcv hcl ?_
      refine W.eq (g2 := F0 m 11 ls [.ref q9]) rfl ?_
      refine lv_astore_n (lv' := [(3, .ref q9), (0, .ref o), (1, .int p0), (2, .int p1)]) hx hb dL_lead_11 rfl hl (by decide) rfl (fun ls hl => ?_)
      refine lv_ldc hx hb hown hc_2 dL_lead_12 ?_
      have hP9 : va_P (dC, dI) vwCl (hp_X cI cZ cO o b ad v (hp_r_lead r p0 p1) n) H1 := by simp only [hp_r_lead, if_neg hne]; exact hP1
      have hD9 : va_D A (hp_X cI cZ cO o b ad v (hp_r_lead r p0 p1) n) := by simp only [hp_r_lead, if_neg hne]; exact hD
      exact vx_ret (W.iret (v := hp_K2) hx hb hr (fun t9 ht9 hW9 => ⟨⟨_, ad, rfl, hp_w2 hC, hp_ht ht9 hP9, hD9⟩, hS1.F ht9⟩) hS1.2.2 dL_lead_14)
    · simp at hk
  · obtain ⟨hc, rfl⟩ := hw
    obtain ⟨hPx, hDx⟩ := hB
    have hP1 := hp_th ht hPx
    have hD1 : va_D A (hp_X cI cZ cO o b u v (hp_r_lead r p0 p1) n) := hDx.weaken (fun k q _ h => hFc q.1 h)
    clear hP hD hPx hDx ht hFc
    exact vx_ret (W.iret (v := hp_a_lead r p0 p1) hx hb hr (fun t9 ht9 hW9 => ⟨⟨_, u, rfl, (hp_w0 hc).symm, hp_ht ht9 hP1, hD1⟩, hS1.F ht9⟩) hS1.2.2 dL_lead_6)
set_option maxHeartbeats 400000 in
set_option maxRecDepth 100000 in
theorem c_L_order (l : Launch) (hl0 : l.stackTraces = false) (dC : Nat → ClassId) (dI : Nat → Nat → Nat) (cI cZ cO cJ : ClassId) (o : Nat) (b ad : Nat → Nat) (v : Nat → Int32) (r : Nat → Nat → Int32) (n sz : Nat) (p0 : Int32) (hinv : hp_inv v r n) : vx_Met l yL_order wsL_order ({ frames := 7, cells := 1, slots := 6, locals := 104 }) (va_Pc [.ref o, .int p0] (hp_prL (dC, dI) cI cZ cO cJ (hp_X cI cZ cO o b ad v r n) sz)) (va_Qi (S := Nat → Nat) (fun x9 _ => x9 = hp_w hp_K1 hp_K3 hp_K3 (hp_c_sta r n p0 0) (hp_a_order r n p0)) (fun u9 t9 => va_P (dC, dI) vwCl (hp_X cI cZ cO o b u9 v (hp_r_order v r n p0) n) t9.heap ∧ va_D (va_A (hp_X cI cZ cO o b ad v r n) sz) (hp_X cI cZ cO o b u9 v (hp_r_order v r n p0) n)) (va_A (hp_X cI cZ cO o b ad v r n) sz)) (vx_X (S := Unit) (fun _ => False) (fun _ _ _ => True) (va_A (hp_X cI cZ cO o b ad v r n) sz)) 1 6 (va_A (hp_X cI cZ cO o b ad v r n) sz) := by
  refine vx_ofWH (cc := cL_order) (maxL := 3) (ret := some .int) (hh := [(0, 5, 6, 13), (0, 5, 10, 19)]) (by decide) rfl ?_
  intro p e s m args below meth c s₁ B hml hv
  obtain ⟨rfl, ⟨hsz, hP, hK, hD0, hN, hstr, hZu, hZn⟩, hnc⟩ := hv
  have hx := B.exec
  have hb := B.bytes
  have hr := B.returns
  have hts := atoms_spec (ws := wsL_order) B.pre
  have hown : s.vm.findClass RL = some m.cls := findClass_of_methodNamed B.named
  have hlocks := B.notSynchronized
  have htb := vx_table (x := yL_order) B (hts _ List.mem_cons_self)
  subst hsz
  have hD := hD0.self (sz := s.heap.size)
  generalize hAe : va_A (hp_X cI cZ cO o b ad v r n) s.heap.size = A at hD hZu hZn ⊢
  have hA : ∀ q : Nat, s.heap.size ≤ q → A q := fun q h => by rw [← hAe]; exact Or.inr h
  have hS : va_S A s.heap s.heap [] := va_S.rf
  have hk_1 := hts (.classLink RL 13 hp_E1) (by decide +kernel)
  have hc_1 := hts (.constant RL 15 (-2000000001)) (by decide +kernel)
  have hk_3 := hts (.classLink RL 19 hp_E3) (by decide +kernel)
  have hc_3 := hts (.constant RL 21 (-2000000003)) (by decide +kernel)
  have hl := lv_entry ([.ref o, .int p0]) (n := 3) (Nat.le_of_ble_eq_true rfl)
  rw [lg_entry_eq]
  generalize (lg_sl ([.ref o, .int p0]) ++ List.replicate (3 - (lg_sl ([.ref o, .int p0])).length) Slot.unset).toArray = ls at hl ⊢
  have hl : lv_has ls 3 [(0, .ref o), (1, .int p0)] := hl
  refine lv_aload_n hx hb dL_order_0 rfl (lv_at hl 0 rfl) ?_
  refine lv_iload_n hx hb dL_order_1 rfl (lv_at hl 1 rfl) ?_
  have hFc := hp_free hD hS hA
  refine vx_calli (vx_runV (As := [.int p0]) (rest := []) ⟨hx, hb, hml, hown, hts⟩ (c_X1_order l hl0 dC dI cI cZ cO cJ o b ad v r n s.heap.size p0 hinv) (cwV 1 hts gL_order_X1_order rfl rfl rfl (by decide +kernel) ⟨(Nat.le_of_ble_eq_true rfl), (Nat.le_of_ble_eq_true rfl)⟩) ⟨hp_fbT, va_recv hK hP (ci := 1) (q0 := 0) rfl hp_X_o, fun U hU hW => ⟨rfl, hp_toT hP hK hD hN hstr hZu hZn hS hA hU hW⟩⟩ rfl rfl hl.1 rfl (lv_room (Nat.le_of_ble_eq_true rfl)) dL_order_2 ⟨(Nat.le_of_ble_eq_true rfl), (Nat.le_of_ble_eq_true rfl)⟩) hS (fun q _ h => hFc q h) hFc (fun q _ h => hFc q h) (fun E ce q9 u t H1 locs1 ht _ _ hBX _ _ hS1 hce hcv hcl => ?_) (fun r9 u t H1 locs1 ht _ hw hB _ _ hS1 => ?_)
  · obtain ⟨⟨k, hk, hC⟩, hPx⟩ := hBX
    have hP1 := hp_th ht hPx
    clear hP hPx ht
    rcases k with _ | _ | k
    · cases Option.some.inj hk
      have hne : ¬ hp_c_sta r n p0 0 = 0 := fun q => absurd (hC.symm.trans q) (by decide)
      refine vx_catch (own := RL) (name := hp_E1) hown [] ⟨0, 5, 6, 13⟩ [⟨0, 5, 10, 19⟩] (htb.trans rfl) (fun z hz => nomatch hz) (by decide) (by decide) hk_1 (va_Nw.use rfl hN.2.2.2.1) hce hcv hcl ?_
      refine W.eq (g2 := F0 m 6 ls [.ref q9]) rfl ?_
      refine lv_astore_n (lv' := [(2, .ref q9), (0, .ref o), (1, .int p0)]) hx hb dL_order_6 rfl hl (by decide) rfl (fun ls hl => ?_)
      refine lv_ldc hx hb hown hc_1 dL_order_7 ?_
      have hP9 : va_P (dC, dI) vwCl (hp_X cI cZ cO o b ad v (hp_r_order v r n p0) n) H1 := by simp only [hp_r_order, if_neg hne]; exact hP1
      have hD9 : va_D A (hp_X cI cZ cO o b ad v (hp_r_order v r n p0) n) := by simp only [hp_r_order, if_neg hne]; exact hD
      exact vx_ret (W.iret (v := hp_K1) hx hb hr (fun t9 ht9 hW9 => ⟨⟨_, ad, rfl, hp_w1 hC, hp_ht ht9 hP9, hD9⟩, hS1.F ht9⟩) hS1.2.2 dL_order_9)
    · cases Option.some.inj hk
      have hne : ¬ hp_c_sta r n p0 0 = 0 := fun q => absurd (hC.symm.trans q) (by decide)
      refine vx_catch (own := RL) (name := hp_E3) hown [⟨0, 5, 6, 13⟩] ⟨0, 5, 10, 19⟩ [] (htb.trans rfl) (fun z hz => by
          simp only [List.mem_cons, List.not_mem_nil, or_false] at hz
          subst hz
          · exact Or.inr ⟨by decide, hp_E1, hk_1, hnc.2.1⟩) (by decide) (by decide) hk_3 (va_Nw.use rfl hN.2.2.2.2.2.1) hce hcv hcl ?_
      refine W.eq (g2 := F0 m 10 ls [.ref q9]) rfl ?_
      refine lv_astore_n (lv' := [(2, .ref q9), (0, .ref o), (1, .int p0)]) hx hb dL_order_10 rfl hl (by decide) rfl (fun ls hl => ?_)
      refine lv_ldc hx hb hown hc_3 dL_order_11 ?_
      have hP9 : va_P (dC, dI) vwCl (hp_X cI cZ cO o b ad v (hp_r_order v r n p0) n) H1 := by simp only [hp_r_order, if_neg hne]; exact hP1
      have hD9 : va_D A (hp_X cI cZ cO o b ad v (hp_r_order v r n p0) n) := by simp only [hp_r_order, if_neg hne]; exact hD
      exact vx_ret (W.iret (v := hp_K3) hx hb hr (fun t9 ht9 hW9 => ⟨⟨_, ad, rfl, hp_w2 hC, hp_ht ht9 hP9, hD9⟩, hS1.F ht9⟩) hS1.2.2 dL_order_13)
    · simp at hk
  · obtain ⟨hc, rfl⟩ := hw
    obtain ⟨hPx, hDx⟩ := hB
    have hP1 := hp_th ht hPx
    have hD1 : va_D A (hp_X cI cZ cO o b u v (hp_r_order v r n p0) n) := hDx.weaken (fun k q _ h => hFc q.1 h)
    clear hP hD hPx hDx ht hFc
    exact vx_ret (W.iret (v := hp_a_order r n p0) hx hb hr (fun t9 ht9 hW9 => ⟨⟨_, u, rfl, (hp_w0 hc).symm, hp_ht ht9 hP1, hD1⟩, hS1.F ht9⟩) hS1.2.2 dL_order_5)
set_option maxHeartbeats 400000 in
set_option maxRecDepth 100000 in
theorem c_L_cancel (l : Launch) (hl0 : l.stackTraces = false) (dC : Nat → ClassId) (dI : Nat → Nat → Nat) (cI cZ cO cJ : ClassId) (o : Nat) (b ad : Nat → Nat) (v : Nat → Int32) (r : Nat → Nat → Int32) (n sz : Nat) (p0 : Int32) (hinv : hp_inv v r n) : vx_Met l yL_cancel wsL_cancel ({ frames := 7, cells := 1, slots := 6, locals := 104 }) (va_Pc [.ref o, .int p0] (hp_prL (dC, dI) cI cZ cO cJ (hp_X cI cZ cO o b ad v r n) sz)) (va_Qi (S := Nat → Nat) (fun x9 _ => x9 = hp_w hp_K1 hp_K3 hp_K3 (hp_c_sta r n p0 1) (hp_a_cancel v r n p0)) (fun u9 t9 => va_P (dC, dI) vwCl (hp_X cI cZ cO o b u9 v (hp_r_cancel r n p0) n) t9.heap ∧ va_D (va_A (hp_X cI cZ cO o b ad v r n) sz) (hp_X cI cZ cO o b u9 v (hp_r_cancel r n p0) n)) (va_A (hp_X cI cZ cO o b ad v r n) sz)) (vx_X (S := Unit) (fun _ => False) (fun _ _ _ => True) (va_A (hp_X cI cZ cO o b ad v r n) sz)) 1 6 (va_A (hp_X cI cZ cO o b ad v r n) sz) := by
  refine vx_ofWH (cc := cL_cancel) (maxL := 3) (ret := some .int) (hh := [(0, 5, 6, 13), (0, 5, 10, 19)]) (by decide) rfl ?_
  intro p e s m args below meth c s₁ B hml hv
  obtain ⟨rfl, ⟨hsz, hP, hK, hD0, hN, hstr, hZu, hZn⟩, hnc⟩ := hv
  have hx := B.exec
  have hb := B.bytes
  have hr := B.returns
  have hts := atoms_spec (ws := wsL_cancel) B.pre
  have hown : s.vm.findClass RL = some m.cls := findClass_of_methodNamed B.named
  have hlocks := B.notSynchronized
  have htb := vx_table (x := yL_cancel) B (hts _ List.mem_cons_self)
  subst hsz
  have hD := hD0.self (sz := s.heap.size)
  generalize hAe : va_A (hp_X cI cZ cO o b ad v r n) s.heap.size = A at hD hZu hZn ⊢
  have hA : ∀ q : Nat, s.heap.size ≤ q → A q := fun q h => by rw [← hAe]; exact Or.inr h
  have hS : va_S A s.heap s.heap [] := va_S.rf
  have hk_1 := hts (.classLink RL 13 hp_E1) (by decide +kernel)
  have hc_1 := hts (.constant RL 15 (-2000000001)) (by decide +kernel)
  have hk_3 := hts (.classLink RL 19 hp_E3) (by decide +kernel)
  have hc_3 := hts (.constant RL 21 (-2000000003)) (by decide +kernel)
  have hl := lv_entry ([.ref o, .int p0]) (n := 3) (Nat.le_of_ble_eq_true rfl)
  rw [lg_entry_eq]
  generalize (lg_sl ([.ref o, .int p0]) ++ List.replicate (3 - (lg_sl ([.ref o, .int p0])).length) Slot.unset).toArray = ls at hl ⊢
  have hl : lv_has ls 3 [(0, .ref o), (1, .int p0)] := hl
  refine lv_aload_n hx hb dL_cancel_0 rfl (lv_at hl 0 rfl) ?_
  refine lv_iload_n hx hb dL_cancel_1 rfl (lv_at hl 1 rfl) ?_
  have hFc := hp_free hD hS hA
  refine vx_calli (vx_runV (As := [.int p0]) (rest := []) ⟨hx, hb, hml, hown, hts⟩ (c_X1_cancel l hl0 dC dI cI cZ cO cJ o b ad v r n s.heap.size p0 hinv) (cwV 1 hts gL_cancel_X1_cancel rfl rfl rfl (by decide +kernel) ⟨(Nat.le_of_ble_eq_true rfl), (Nat.le_of_ble_eq_true rfl)⟩) ⟨hp_fbT, va_recv hK hP (ci := 1) (q0 := 0) rfl hp_X_o, fun U hU hW => ⟨rfl, hp_toT hP hK hD hN hstr hZu hZn hS hA hU hW⟩⟩ rfl rfl hl.1 rfl (lv_room (Nat.le_of_ble_eq_true rfl)) dL_cancel_2 ⟨(Nat.le_of_ble_eq_true rfl), (Nat.le_of_ble_eq_true rfl)⟩) hS (fun q _ h => hFc q h) hFc (fun q _ h => hFc q h) (fun E ce q9 u t H1 locs1 ht _ _ hBX _ _ hS1 hce hcv hcl => ?_) (fun r9 u t H1 locs1 ht _ hw hB _ _ hS1 => ?_)
  · obtain ⟨⟨k, hk, hC⟩, hPx⟩ := hBX
    have hP1 := hp_th ht hPx
    clear hP hPx ht
    rcases k with _ | _ | k
    · cases Option.some.inj hk
      have hne : ¬ hp_c_sta r n p0 1 = 0 := fun q => absurd (hC.symm.trans q) (by decide)
      refine vx_catch (own := RL) (name := hp_E1) hown [] ⟨0, 5, 6, 13⟩ [⟨0, 5, 10, 19⟩] (htb.trans rfl) (fun z hz => nomatch hz) (by decide) (by decide) hk_1 (va_Nw.use rfl hN.2.2.2.1) hce hcv hcl ?_
      refine W.eq (g2 := F0 m 6 ls [.ref q9]) rfl ?_
      refine lv_astore_n (lv' := [(2, .ref q9), (0, .ref o), (1, .int p0)]) hx hb dL_cancel_6 rfl hl (by decide) rfl (fun ls hl => ?_)
      refine lv_ldc hx hb hown hc_1 dL_cancel_7 ?_
      have hP9 : va_P (dC, dI) vwCl (hp_X cI cZ cO o b ad v (hp_r_cancel r n p0) n) H1 := by simp only [hp_r_cancel, if_neg hne]; exact hP1
      have hD9 : va_D A (hp_X cI cZ cO o b ad v (hp_r_cancel r n p0) n) := by simp only [hp_r_cancel, if_neg hne]; exact hD
      exact vx_ret (W.iret (v := hp_K1) hx hb hr (fun t9 ht9 hW9 => ⟨⟨_, ad, rfl, hp_w1 hC, hp_ht ht9 hP9, hD9⟩, hS1.F ht9⟩) hS1.2.2 dL_cancel_9)
    · cases Option.some.inj hk
      have hne : ¬ hp_c_sta r n p0 1 = 0 := fun q => absurd (hC.symm.trans q) (by decide)
      refine vx_catch (own := RL) (name := hp_E3) hown [⟨0, 5, 6, 13⟩] ⟨0, 5, 10, 19⟩ [] (htb.trans rfl) (fun z hz => by
          simp only [List.mem_cons, List.not_mem_nil, or_false] at hz
          subst hz
          · exact Or.inr ⟨by decide, hp_E1, hk_1, hnc.2.1⟩) (by decide) (by decide) hk_3 (va_Nw.use rfl hN.2.2.2.2.2.1) hce hcv hcl ?_
      refine W.eq (g2 := F0 m 10 ls [.ref q9]) rfl ?_
      refine lv_astore_n (lv' := [(2, .ref q9), (0, .ref o), (1, .int p0)]) hx hb dL_cancel_10 rfl hl (by decide) rfl (fun ls hl => ?_)
      refine lv_ldc hx hb hown hc_3 dL_cancel_11 ?_
      have hP9 : va_P (dC, dI) vwCl (hp_X cI cZ cO o b ad v (hp_r_cancel r n p0) n) H1 := by simp only [hp_r_cancel, if_neg hne]; exact hP1
      have hD9 : va_D A (hp_X cI cZ cO o b ad v (hp_r_cancel r n p0) n) := by simp only [hp_r_cancel, if_neg hne]; exact hD
      exact vx_ret (W.iret (v := hp_K3) hx hb hr (fun t9 ht9 hW9 => ⟨⟨_, ad, rfl, hp_w2 hC, hp_ht ht9 hP9, hD9⟩, hS1.F ht9⟩) hS1.2.2 dL_cancel_13)
    · simp at hk
  · obtain ⟨hc, rfl⟩ := hw
    obtain ⟨hPx, hDx⟩ := hB
    have hP1 := hp_th ht hPx
    have hD1 : va_D A (hp_X cI cZ cO o b u v (hp_r_cancel r n p0) n) := hDx.weaken (fun k q _ h => hFc q.1 h)
    clear hP hD hPx hDx ht hFc
    exact vx_ret (W.iret (v := hp_a_cancel v r n p0) hx hb hr (fun t9 ht9 hW9 => ⟨⟨_, u, rfl, (hp_w0 hc).symm, hp_ht ht9 hP1, hD1⟩, hS1.F ht9⟩) hS1.2.2 dL_cancel_5)
