/-! the law's own methods -/
set_option maxHeartbeats 400000 in
set_option maxRecDepth 100000 in
theorem c_L_add (l : Launch) (hl0 : l.stackTraces = false) (dC : Nat → ClassId) (dI : Nat → Nat → Nat) (cI cZ cO cJ : ClassId) (o : Nat) (b ad : Nat → Nat) (v : Nat → Int32) (r : Nat → Nat → Int32) (n oq : Nat) (g : Nat → Int64) (sz : Nat) (p0 p1 p2 p3 p4 p5 : Int32) (hinv : hp_inv v r n) : vx_Met l yL_add wsL_add ({ frames := 7, cells := 1, slots := 10, locals := 109 }) (va_Pc [.ref o, .int p0, .int p1, .int p2, .int p3, .int p4, .int p5, .ref oq] (hp_prL (dC, dI) cI cZ cO cJ ((oq, .inl (cJ, 1, .inr (.inl (g)))) :: hp_X cI cZ cO o b ad v r n) sz)) (va_Qi (S := (Nat → Nat) × (Nat → Int64)) (fun x9 u9 => x9 = hp_c_add r n p0 p1 p2 p3 p4 p5 ∧ (hp_c_add r n p0 p1 p2 p3 p4 p5 = 0 → u9.2 0 = (hp_a_add r n p0 p1 p2 p3 p4 p5).toInt64)) (fun u9 t9 => va_P (dC, dI) vwCl ((oq, .inl (cJ, 1, .inr (.inl (u9.2)))) :: hp_X cI cZ cO o b u9.1 (hp_v_add v r n p0 p1 p2 p3 p4 p5) (hp_r_add v r n p0 p1 p2 p3 p4 p5) (hp_n_add r n p0 p1 p2 p3 p4 p5)) t9.heap ∧ va_D (va_A ((oq, .inl (cJ, 1, .inr (.inl (g)))) :: hp_X cI cZ cO o b ad v r n) sz) ((oq, .inl (cJ, 1, .inr (.inl (u9.2)))) :: hp_X cI cZ cO o b u9.1 (hp_v_add v r n p0 p1 p2 p3 p4 p5) (hp_r_add v r n p0 p1 p2 p3 p4 p5) (hp_n_add r n p0 p1 p2 p3 p4 p5))) (va_A ((oq, .inl (cJ, 1, .inr (.inl (g)))) :: hp_X cI cZ cO o b ad v r n) sz)) (vx_X (S := Unit) (fun _ => False) (fun _ _ _ => True) (va_A ((oq, .inl (cJ, 1, .inr (.inl (g)))) :: hp_X cI cZ cO o b ad v r n) sz)) 1 10 (va_A ((oq, .inl (cJ, 1, .inr (.inl (g)))) :: hp_X cI cZ cO o b ad v r n) sz) := by
  refine vx_ofWH (cc := cL_add) (maxL := 9) (ret := some .int) (hh := [(0, 18, 21, 13), (0, 18, 25, 15), (0, 18, 29, 17)]) (by decide) rfl ?_
  intro p e s m args below meth c s₁ B hml hv
  obtain ⟨rfl, ⟨hsz, hP, hK, hD0, hN, hstr, hZu, hZn⟩, hnc⟩ := hv
  have hx := B.exec
  have hb := B.bytes
  have hr := B.returns
  have hts := atoms_spec (ws := wsL_add) B.pre
  have hown : s.vm.findClass RL = some m.cls := findClass_of_methodNamed B.named
  have hlocks := B.notSynchronized
  have htb := vx_table (x := yL_add) B (hts _ List.mem_cons_self)
  subst hsz
  have hD := hD0.self (sz := s.heap.size)
  generalize hAe : va_A ((oq, .inl (cJ, 1, .inr (.inl (g)))) :: hp_X cI cZ cO o b ad v r n) s.heap.size = A at hD hZu hZn ⊢
  have hA : ∀ q : Nat, s.heap.size ≤ q → A q := fun q h => by rw [← hAe]; exact Or.inr h
  have hS : va_S A s.heap s.heap [] := va_S.rf
  have hPX := (hp_Pc.mp hP).2
  have hDX := hp_Dt hD
  have hk_1 := hts (.classLink RL 13 hp_E1) (by decide +kernel)
  have hk_2 := hts (.classLink RL 15 hp_E2) (by decide +kernel)
  have hk_3 := hts (.classLink RL 17 hp_E3) (by decide +kernel)
  have hl := lv_entry ([.ref o, .int p0, .int p1, .int p2, .int p3, .int p4, .int p5, .ref oq]) (n := 9) (Nat.le_of_ble_eq_true rfl)
  rw [lg_entry_eq]
  generalize (lg_sl ([.ref o, .int p0, .int p1, .int p2, .int p3, .int p4, .int p5, .ref oq]) ++ List.replicate (9 - (lg_sl ([.ref o, .int p0, .int p1, .int p2, .int p3, .int p4, .int p5, .ref oq])).length) Slot.unset).toArray = ls at hl ⊢
  have hl : lv_has ls 9 [(0, .ref o), (1, .int p0), (2, .int p1), (3, .int p2), (4, .int p3), (5, .int p4), (6, .int p5), (7, .ref oq)] := hl
  refine lv_aload hx hb dL_add_0 (lv_at hl 7 rfl) ?_
  refine lv_iconst (v := 0) hx hb dL_add_2 (by decide) ?_
  refine lv_aload_n hx hb dL_add_3 rfl (lv_at hl 0 rfl) ?_
  refine lv_iload_n hx hb dL_add_4 rfl (lv_at hl 1 rfl) ?_
  refine lv_iload_n hx hb dL_add_5 rfl (lv_at hl 2 rfl) ?_
  refine lv_iload_n hx hb dL_add_6 rfl (lv_at hl 3 rfl) ?_
  refine lv_iload hx hb dL_add_7 (lv_at hl 4 rfl) ?_
  refine lv_iload hx hb dL_add_9 (lv_at hl 5 rfl) ?_
  refine lv_iload hx hb dL_add_11 (lv_at hl 6 rfl) ?_
  have hFc := hp_free hDX hS hA
  refine vx_calli (vx_runV (As := [.int p0, .int p1, .int p2, .int p3, .int p4, .int p5]) (rest := [.int 0, .ref oq]) ⟨hx, hb, hml, hown, hts⟩ (c_X1_add l hl0 dC dI cI cZ cO cJ o b ad v r n s.heap.size p0 p1 p2 p3 p4 p5 hinv) (cwV 6 hts gL_add_X1_add rfl rfl rfl (by decide +kernel) ⟨(Nat.le_of_ble_eq_true rfl), (Nat.le_of_ble_eq_true rfl)⟩) ⟨hp_fbT, va_recv hK hPX (ci := 1) (q0 := 0) rfl hp_X_o, fun U hU hW => ⟨rfl, hp_toT hPX hK hDX hN hstr hZu hZn hS hA hU hW⟩⟩ rfl rfl hl.1 rfl (lv_room (Nat.le_of_ble_eq_true rfl)) dL_add_13 ⟨(Nat.le_of_ble_eq_true rfl), (Nat.le_of_ble_eq_true rfl)⟩) hS (fun q _ h => hFc q h) hFc (fun q _ h => hFc q h) (fun E ce q9 u t H1 locs1 ht _ _ hBX _ hkk hS1 hce hcv hcl => ?_) (fun r9 u t H1 locs1 ht _ hw hB _ hkk hS1 => ?_)
  · obtain ⟨⟨k, hk, hC⟩, hPx⟩ := hBX
    obtain ⟨hP1, hD1⟩ := hp_reO hP hD hkk (hp_th ht hPx) hDX.self
    clear hP hD hPX hDX hPx hkk ht
    rcases k with _ | _ | _ | k
    · cases Option.some.inj hk
      have hne : ¬ hp_c_add r n p0 p1 p2 p3 p4 p5 = 0 := fun q => absurd (hC.symm.trans q) (by decide)
      refine vx_catch (own := RL) (name := hp_E1) hown [] ⟨0, 18, 21, 13⟩ [⟨0, 18, 25, 15⟩, ⟨0, 18, 29, 17⟩] (htb.trans rfl) (fun z hz => nomatch hz) (by decide) (by decide) hk_1 (va_Nw.use rfl hN.2.2.2.1) hce hcv hcl ?_
      refine W.eq (g2 := F0 m 21 ls [.ref q9]) rfl ?_
      refine lv_astore (lv' := [(8, .ref q9), (0, .ref o), (1, .int p0), (2, .int p1), (3, .int p2), (4, .int p3), (5, .int p4), (6, .int p5), (7, .ref oq)]) hx hb dL_add_21 hl (by decide) rfl (fun ls hl => ?_)
      refine lv_iconst (v := 1) hx hb dL_add_23 (by decide) ?_
      have hP9 : va_P (dC, dI) vwCl ((oq, .inl (cJ, 1, .inr (.inl (g)))) :: hp_X cI cZ cO o b ad (hp_v_add v r n p0 p1 p2 p3 p4 p5) (hp_r_add v r n p0 p1 p2 p3 p4 p5) (hp_n_add r n p0 p1 p2 p3 p4 p5)) H1 := by simp only [hp_v_add, hp_r_add, hp_n_add, if_neg hne]; exact hP1
      have hD9 : va_D A ((oq, .inl (cJ, 1, .inr (.inl (g)))) :: hp_X cI cZ cO o b ad (hp_v_add v r n p0 p1 p2 p3 p4 p5) (hp_r_add v r n p0 p1 p2 p3 p4 p5) (hp_n_add r n p0 p1 p2 p3 p4 p5)) := by simp only [hp_v_add, hp_r_add, hp_n_add, if_neg hne]; exact hD1
      exact vx_ret (W.iret (v := 1) hx hb hr (fun t9 ht9 hW9 => ⟨⟨1, (ad, g), rfl, ⟨hC.symm, fun q => absurd q hne⟩, hp_ht ht9 hP9, hD9⟩, hS1.F ht9⟩) hS1.2.2 dL_add_24)
    · cases Option.some.inj hk
      have hne : ¬ hp_c_add r n p0 p1 p2 p3 p4 p5 = 0 := fun q => absurd (hC.symm.trans q) (by decide)
      refine vx_catch (own := RL) (name := hp_E2) hown [⟨0, 18, 21, 13⟩] ⟨0, 18, 25, 15⟩ [⟨0, 18, 29, 17⟩] (htb.trans rfl) (fun z hz => by
          simp only [List.mem_cons, List.not_mem_nil, or_false] at hz
          subst hz
          · exact Or.inr ⟨by decide, hp_E1, hk_1, hnc.1⟩) (by decide) (by decide) hk_2 (va_Nw.use rfl hN.2.2.2.2.1) hce hcv hcl ?_
      refine W.eq (g2 := F0 m 25 ls [.ref q9]) rfl ?_
      refine lv_astore (lv' := [(8, .ref q9), (0, .ref o), (1, .int p0), (2, .int p1), (3, .int p2), (4, .int p3), (5, .int p4), (6, .int p5), (7, .ref oq)]) hx hb dL_add_25 hl (by decide) rfl (fun ls hl => ?_)
      refine lv_iconst (v := 2) hx hb dL_add_27 (by decide) ?_
      have hP9 : va_P (dC, dI) vwCl ((oq, .inl (cJ, 1, .inr (.inl (g)))) :: hp_X cI cZ cO o b ad (hp_v_add v r n p0 p1 p2 p3 p4 p5) (hp_r_add v r n p0 p1 p2 p3 p4 p5) (hp_n_add r n p0 p1 p2 p3 p4 p5)) H1 := by simp only [hp_v_add, hp_r_add, hp_n_add, if_neg hne]; exact hP1
      have hD9 : va_D A ((oq, .inl (cJ, 1, .inr (.inl (g)))) :: hp_X cI cZ cO o b ad (hp_v_add v r n p0 p1 p2 p3 p4 p5) (hp_r_add v r n p0 p1 p2 p3 p4 p5) (hp_n_add r n p0 p1 p2 p3 p4 p5)) := by simp only [hp_v_add, hp_r_add, hp_n_add, if_neg hne]; exact hD1
      exact vx_ret (W.iret (v := 2) hx hb hr (fun t9 ht9 hW9 => ⟨⟨2, (ad, g), rfl, ⟨hC.symm, fun q => absurd q hne⟩, hp_ht ht9 hP9, hD9⟩, hS1.F ht9⟩) hS1.2.2 dL_add_28)
    · cases Option.some.inj hk
      have hne : ¬ hp_c_add r n p0 p1 p2 p3 p4 p5 = 0 := fun q => absurd (hC.symm.trans q) (by decide)
      refine vx_catch (own := RL) (name := hp_E3) hown [⟨0, 18, 21, 13⟩, ⟨0, 18, 25, 15⟩] ⟨0, 18, 29, 17⟩ [] (htb.trans rfl) (fun z hz => by
          simp only [List.mem_cons, List.not_mem_nil, or_false] at hz
          rcases hz with rfl | rfl
          · exact Or.inr ⟨by decide, hp_E1, hk_1, hnc.2.1⟩
          · exact Or.inr ⟨by decide, hp_E2, hk_2, hnc.2.2⟩) (by decide) (by decide) hk_3 (va_Nw.use rfl hN.2.2.2.2.2.1) hce hcv hcl ?_
      refine W.eq (g2 := F0 m 29 ls [.ref q9]) rfl ?_
      refine lv_astore (lv' := [(8, .ref q9), (0, .ref o), (1, .int p0), (2, .int p1), (3, .int p2), (4, .int p3), (5, .int p4), (6, .int p5), (7, .ref oq)]) hx hb dL_add_29 hl (by decide) rfl (fun ls hl => ?_)
      refine lv_iconst (v := 3) hx hb dL_add_31 (by decide) ?_
      have hP9 : va_P (dC, dI) vwCl ((oq, .inl (cJ, 1, .inr (.inl (g)))) :: hp_X cI cZ cO o b ad (hp_v_add v r n p0 p1 p2 p3 p4 p5) (hp_r_add v r n p0 p1 p2 p3 p4 p5) (hp_n_add r n p0 p1 p2 p3 p4 p5)) H1 := by simp only [hp_v_add, hp_r_add, hp_n_add, if_neg hne]; exact hP1
      have hD9 : va_D A ((oq, .inl (cJ, 1, .inr (.inl (g)))) :: hp_X cI cZ cO o b ad (hp_v_add v r n p0 p1 p2 p3 p4 p5) (hp_r_add v r n p0 p1 p2 p3 p4 p5) (hp_n_add r n p0 p1 p2 p3 p4 p5)) := by simp only [hp_v_add, hp_r_add, hp_n_add, if_neg hne]; exact hD1
      exact vx_ret (W.iret (v := 3) hx hb hr (fun t9 ht9 hW9 => ⟨⟨3, (ad, g), rfl, ⟨hC.symm, fun q => absurd q hne⟩, hp_ht ht9 hP9, hD9⟩, hS1.F ht9⟩) hS1.2.2 dL_add_32)
    · simp at hk
  · obtain ⟨hc, rfl⟩ := hw
    obtain ⟨hPx, hDx⟩ := hB
    obtain ⟨hP1, hD1⟩ := hp_reO hP hD hkk (hp_th ht hPx) hDx
    clear hP hD hPX hDX hPx hDx hkk ht
    refine lv_i2l hx hb dL_add_16 rfl ?_
    refine va_last (n := 1) (f := g) hx hb hK hP1 hD1 hS1 0 3 rfl rfl (i := 0) (x := (hp_a_add r n p0 p1 p2 p3 p4 p5).toInt64) (by unfold vp_in; decide) dL_add_17 (fun H2 locs2 hP2 hD2 hS2 => ?_)
    rw [sb_cl0] at hP2 hD2
    replace hP2 : va_P (dC, dI) vwCl ((oq, .inl (cJ, 1, .inr (.inl (vp_updL g 0 ((hp_a_add r n p0 p1 p2 p3 p4 p5).toInt64))))) :: hp_X cI cZ cO o b u (hp_v_add v r n p0 p1 p2 p3 p4 p5) (hp_r_add v r n p0 p1 p2 p3 p4 p5) (hp_n_add r n p0 p1 p2 p3 p4 p5)) H2 := hP2
    replace hD2 : va_D A ((oq, .inl (cJ, 1, .inr (.inl (vp_updL g 0 ((hp_a_add r n p0 p1 p2 p3 p4 p5).toInt64))))) :: hp_X cI cZ cO o b u (hp_v_add v r n p0 p1 p2 p3 p4 p5) (hp_r_add v r n p0 p1 p2 p3 p4 p5) (hp_n_add r n p0 p1 p2 p3 p4 p5)) := hD2
    refine lv_goto (tgt := 33) hx hb dL_add_18 (by decide) ?_
    refine lv_iconst (v := 0) hx hb dL_add_33 (by decide) ?_
    exact vx_ret (W.iret (v := 0) hx hb hr (fun t9 ht9 hW9 => ⟨⟨0, (u, vp_updL g 0 ((hp_a_add r n p0 p1 p2 p3 p4 p5).toInt64)), rfl, ⟨hc.symm, fun _ => hp_o0 rfl⟩, hp_ht ht9 hP2, hD2⟩, hS2.F ht9⟩) hS2.2.2 dL_add_34)
set_option maxHeartbeats 400000 in
set_option maxRecDepth 100000 in
theorem c_L_move (l : Launch) (hl0 : l.stackTraces = false) (dC : Nat → ClassId) (dI : Nat → Nat → Nat) (cI cZ cO cJ : ClassId) (o : Nat) (b ad : Nat → Nat) (v : Nat → Int32) (r : Nat → Nat → Int32) (n oq : Nat) (g : Nat → Int64) (sz : Nat) (p0 p1 p2 p3 p4 : Int32) (hinv : hp_inv v r n) : vx_Met l yL_move wsL_move ({ frames := 7, cells := 1, slots := 6, locals := 108 }) (va_Pc [.ref o, .int p0, .int p1, .int p2, .int p3, .int p4, .ref oq] (hp_prL (dC, dI) cI cZ cO cJ ((oq, .inl (cJ, 1, .inr (.inl (g)))) :: hp_X cI cZ cO o b ad v r n) sz)) (va_Qi (S := (Nat → Nat) × (Nat → Int64)) (fun x9 u9 => x9 = hp_c_move v r n p0 p1 p2 p3 p4 ∧ (hp_c_move v r n p0 p1 p2 p3 p4 = 0 → u9.2 0 = (hp_b (hp_b_move v r n p0 p1 p2 p3 p4)).toInt64)) (fun u9 t9 => va_P (dC, dI) vwCl ((oq, .inl (cJ, 1, .inr (.inl (u9.2)))) :: hp_X cI cZ cO o b u9.1 (hp_v_move v r n p0 p1 p2 p3 p4) (hp_r_move v r n p0 p1 p2 p3 p4) n) t9.heap ∧ va_D (va_A ((oq, .inl (cJ, 1, .inr (.inl (g)))) :: hp_X cI cZ cO o b ad v r n) sz) ((oq, .inl (cJ, 1, .inr (.inl (u9.2)))) :: hp_X cI cZ cO o b u9.1 (hp_v_move v r n p0 p1 p2 p3 p4) (hp_r_move v r n p0 p1 p2 p3 p4) n)) (va_A ((oq, .inl (cJ, 1, .inr (.inl (g)))) :: hp_X cI cZ cO o b ad v r n) sz)) (vx_X (S := Unit) (fun _ => False) (fun _ _ _ => True) (va_A ((oq, .inl (cJ, 1, .inr (.inl (g)))) :: hp_X cI cZ cO o b ad v r n) sz)) 1 6 (va_A ((oq, .inl (cJ, 1, .inr (.inl (g)))) :: hp_X cI cZ cO o b ad v r n) sz) := by
  refine vx_ofWH (cc := cL_move) (maxL := 8) (ret := some .int) (hh := [(0, 23, 26, 13), (0, 23, 30, 15), (0, 23, 34, 17)]) (by decide) rfl ?_
  intro p e s m args below meth c s₁ B hml hv
  obtain ⟨rfl, ⟨hsz, hP, hK, hD0, hN, hstr, hZu, hZn⟩, hnc⟩ := hv
  have hx := B.exec
  have hb := B.bytes
  have hr := B.returns
  have hts := atoms_spec (ws := wsL_move) B.pre
  have hown : s.vm.findClass RL = some m.cls := findClass_of_methodNamed B.named
  have hlocks := B.notSynchronized
  have htb := vx_table (x := yL_move) B (hts _ List.mem_cons_self)
  subst hsz
  have hD := hD0.self (sz := s.heap.size)
  generalize hAe : va_A ((oq, .inl (cJ, 1, .inr (.inl (g)))) :: hp_X cI cZ cO o b ad v r n) s.heap.size = A at hD hZu hZn ⊢
  have hA : ∀ q : Nat, s.heap.size ≤ q → A q := fun q h => by rw [← hAe]; exact Or.inr h
  have hS : va_S A s.heap s.heap [] := va_S.rf
  have hPX := (hp_Pc.mp hP).2
  have hDX := hp_Dt hD
  have hk_1 := hts (.classLink RL 13 hp_E1) (by decide +kernel)
  have hk_2 := hts (.classLink RL 15 hp_E2) (by decide +kernel)
  have hk_3 := hts (.classLink RL 17 hp_E3) (by decide +kernel)
  have hl := lv_entry ([.ref o, .int p0, .int p1, .int p2, .int p3, .int p4, .ref oq]) (n := 8) (Nat.le_of_ble_eq_true rfl)
  rw [lg_entry_eq]
  generalize (lg_sl ([.ref o, .int p0, .int p1, .int p2, .int p3, .int p4, .ref oq]) ++ List.replicate (8 - (lg_sl ([.ref o, .int p0, .int p1, .int p2, .int p3, .int p4, .ref oq])).length) Slot.unset).toArray = ls at hl ⊢
  have hl : lv_has ls 8 [(0, .ref o), (1, .int p0), (2, .int p1), (3, .int p2), (4, .int p3), (5, .int p4), (6, .ref oq)] := hl
  refine lv_aload hx hb dL_move_0 (lv_at hl 6 rfl) ?_
  refine lv_iconst (v := 0) hx hb dL_move_2 (by decide) ?_
  refine lv_aload_n hx hb dL_move_3 rfl (lv_at hl 0 rfl) ?_
  refine lv_iload_n hx hb dL_move_4 rfl (lv_at hl 1 rfl) ?_
  refine lv_iload_n hx hb dL_move_5 rfl (lv_at hl 2 rfl) ?_
  refine lv_iload_n hx hb dL_move_6 rfl (lv_at hl 3 rfl) ?_
  refine lv_iload hx hb dL_move_7 (lv_at hl 4 rfl) ?_
  refine lv_iload hx hb dL_move_9 (lv_at hl 5 rfl) ?_
  have hFc := hp_free hDX hS hA
  refine vx_calli (vx_runV (As := [.int p0, .int p1, .int p2, .int p3, .int p4]) (rest := [.int 0, .ref oq]) ⟨hx, hb, hml, hown, hts⟩ (c_X1_move l hl0 dC dI cI cZ cO cJ o b ad v r n s.heap.size p0 p1 p2 p3 p4 hinv) (cwV 5 hts gL_move_X1_move rfl rfl rfl (by decide +kernel) ⟨(Nat.le_of_ble_eq_true rfl), (Nat.le_of_ble_eq_true rfl)⟩) ⟨hp_fbT, va_recv hK hPX (ci := 1) (q0 := 0) rfl hp_X_o, fun U hU hW => ⟨rfl, hp_toT hPX hK hDX hN hstr hZu hZn hS hA hU hW⟩⟩ rfl rfl hl.1 rfl (lv_room (Nat.le_of_ble_eq_true rfl)) dL_move_11 ⟨(Nat.le_of_ble_eq_true rfl), (Nat.le_of_ble_eq_true rfl)⟩) hS (fun q _ h => hFc q h) hFc (fun q _ h => hFc q h) (fun E ce q9 u t H1 locs1 ht _ _ hBX _ hkk hS1 hce hcv hcl => ?_) (fun r9 u t H1 locs1 ht _ hw hB _ hkk hS1 => ?_)
  · obtain ⟨⟨k, hk, hC⟩, hPx⟩ := hBX
    obtain ⟨hP1, hD1⟩ := hp_reO hP hD hkk (hp_th ht hPx) hDX.self
    clear hP hD hPX hDX hPx hkk ht
    rcases k with _ | _ | _ | k
    · cases Option.some.inj hk
      have hne : ¬ hp_c_move v r n p0 p1 p2 p3 p4 = 0 := fun q => absurd (hC.symm.trans q) (by decide)
      refine vx_catch (own := RL) (name := hp_E1) hown [] ⟨0, 23, 26, 13⟩ [⟨0, 23, 30, 15⟩, ⟨0, 23, 34, 17⟩] (htb.trans rfl) (fun z hz => nomatch hz) (by decide) (by decide) hk_1 (va_Nw.use rfl hN.2.2.2.1) hce hcv hcl ?_
      refine W.eq (g2 := F0 m 26 ls [.ref q9]) rfl ?_
      refine lv_astore (lv' := [(7, .ref q9), (0, .ref o), (1, .int p0), (2, .int p1), (3, .int p2), (4, .int p3), (5, .int p4), (6, .ref oq)]) hx hb dL_move_26 hl (by decide) rfl (fun ls hl => ?_)
      refine lv_iconst (v := 1) hx hb dL_move_28 (by decide) ?_
      have hb9 : ¬ hp_b_move v r n p0 p1 p2 p3 p4 = true := fun q => hne (of_decide_eq_true (hp_andl q))
      have hP9 : va_P (dC, dI) vwCl ((oq, .inl (cJ, 1, .inr (.inl (g)))) :: hp_X cI cZ cO o b ad (hp_v_move v r n p0 p1 p2 p3 p4) (hp_r_move v r n p0 p1 p2 p3 p4) n) H1 := by simp only [hp_v_move, hp_r_move, if_neg hb9]; exact hP1
      have hD9 : va_D A ((oq, .inl (cJ, 1, .inr (.inl (g)))) :: hp_X cI cZ cO o b ad (hp_v_move v r n p0 p1 p2 p3 p4) (hp_r_move v r n p0 p1 p2 p3 p4) n) := by simp only [hp_v_move, hp_r_move, if_neg hb9]; exact hD1
      exact vx_ret (W.iret (v := 1) hx hb hr (fun t9 ht9 hW9 => ⟨⟨1, (ad, g), rfl, ⟨hC.symm, fun q => absurd q hne⟩, hp_ht ht9 hP9, hD9⟩, hS1.F ht9⟩) hS1.2.2 dL_move_29)
    · cases Option.some.inj hk
      have hne : ¬ hp_c_move v r n p0 p1 p2 p3 p4 = 0 := fun q => absurd (hC.symm.trans q) (by decide)
      refine vx_catch (own := RL) (name := hp_E2) hown [⟨0, 23, 26, 13⟩] ⟨0, 23, 30, 15⟩ [⟨0, 23, 34, 17⟩] (htb.trans rfl) (fun z hz => by
          simp only [List.mem_cons, List.not_mem_nil, or_false] at hz
          subst hz
          · exact Or.inr ⟨by decide, hp_E1, hk_1, hnc.1⟩) (by decide) (by decide) hk_2 (va_Nw.use rfl hN.2.2.2.2.1) hce hcv hcl ?_
      refine W.eq (g2 := F0 m 30 ls [.ref q9]) rfl ?_
      refine lv_astore (lv' := [(7, .ref q9), (0, .ref o), (1, .int p0), (2, .int p1), (3, .int p2), (4, .int p3), (5, .int p4), (6, .ref oq)]) hx hb dL_move_30 hl (by decide) rfl (fun ls hl => ?_)
      refine lv_iconst (v := 2) hx hb dL_move_32 (by decide) ?_
      have hb9 : ¬ hp_b_move v r n p0 p1 p2 p3 p4 = true := fun q => hne (of_decide_eq_true (hp_andl q))
      have hP9 : va_P (dC, dI) vwCl ((oq, .inl (cJ, 1, .inr (.inl (g)))) :: hp_X cI cZ cO o b ad (hp_v_move v r n p0 p1 p2 p3 p4) (hp_r_move v r n p0 p1 p2 p3 p4) n) H1 := by simp only [hp_v_move, hp_r_move, if_neg hb9]; exact hP1
      have hD9 : va_D A ((oq, .inl (cJ, 1, .inr (.inl (g)))) :: hp_X cI cZ cO o b ad (hp_v_move v r n p0 p1 p2 p3 p4) (hp_r_move v r n p0 p1 p2 p3 p4) n) := by simp only [hp_v_move, hp_r_move, if_neg hb9]; exact hD1
      exact vx_ret (W.iret (v := 2) hx hb hr (fun t9 ht9 hW9 => ⟨⟨2, (ad, g), rfl, ⟨hC.symm, fun q => absurd q hne⟩, hp_ht ht9 hP9, hD9⟩, hS1.F ht9⟩) hS1.2.2 dL_move_33)
    · cases Option.some.inj hk
      have hne : ¬ hp_c_move v r n p0 p1 p2 p3 p4 = 0 := fun q => absurd (hC.symm.trans q) (by decide)
      refine vx_catch (own := RL) (name := hp_E3) hown [⟨0, 23, 26, 13⟩, ⟨0, 23, 30, 15⟩] ⟨0, 23, 34, 17⟩ [] (htb.trans rfl) (fun z hz => by
          simp only [List.mem_cons, List.not_mem_nil, or_false] at hz
          rcases hz with rfl | rfl
          · exact Or.inr ⟨by decide, hp_E1, hk_1, hnc.2.1⟩
          · exact Or.inr ⟨by decide, hp_E2, hk_2, hnc.2.2⟩) (by decide) (by decide) hk_3 (va_Nw.use rfl hN.2.2.2.2.2.1) hce hcv hcl ?_
      refine W.eq (g2 := F0 m 34 ls [.ref q9]) rfl ?_
      refine lv_astore (lv' := [(7, .ref q9), (0, .ref o), (1, .int p0), (2, .int p1), (3, .int p2), (4, .int p3), (5, .int p4), (6, .ref oq)]) hx hb dL_move_34 hl (by decide) rfl (fun ls hl => ?_)
      refine lv_iconst (v := 3) hx hb dL_move_36 (by decide) ?_
      have hb9 : ¬ hp_b_move v r n p0 p1 p2 p3 p4 = true := fun q => hne (of_decide_eq_true (hp_andl q))
      have hP9 : va_P (dC, dI) vwCl ((oq, .inl (cJ, 1, .inr (.inl (g)))) :: hp_X cI cZ cO o b ad (hp_v_move v r n p0 p1 p2 p3 p4) (hp_r_move v r n p0 p1 p2 p3 p4) n) H1 := by simp only [hp_v_move, hp_r_move, if_neg hb9]; exact hP1
      have hD9 : va_D A ((oq, .inl (cJ, 1, .inr (.inl (g)))) :: hp_X cI cZ cO o b ad (hp_v_move v r n p0 p1 p2 p3 p4) (hp_r_move v r n p0 p1 p2 p3 p4) n) := by simp only [hp_v_move, hp_r_move, if_neg hb9]; exact hD1
      exact vx_ret (W.iret (v := 3) hx hb hr (fun t9 ht9 hW9 => ⟨⟨3, (ad, g), rfl, ⟨hC.symm, fun q => absurd q hne⟩, hp_ht ht9 hP9, hD9⟩, hS1.F ht9⟩) hS1.2.2 dL_move_37)
    · simp at hk
  · obtain ⟨hc, rfl⟩ := hw
    obtain ⟨hPx, hDx⟩ := hB
    obtain ⟨hP1, hD1⟩ := hp_reO hP hD hkk (hp_th ht hPx) hDx
    clear hP hD hPX hDX hPx hDx hkk ht
    refine lv_if_eq (tgt := 21) hx hb dL_move_14 (by decide) (fun q => ?_) (fun q => ?_)
    · refine lv_lconst (v := 0) hx hb dL_move_21 (by decide) ?_
      refine va_last (n := 1) (f := g) hx hb hK hP1 hD1 hS1 0 3 rfl rfl (i := 0) (x := 0) (by unfold vp_in; decide) dL_move_22 (fun H2 locs2 hP2 hD2 hS2 => ?_)
      rw [sb_cl0] at hP2 hD2
      replace hP2 : va_P (dC, dI) vwCl ((oq, .inl (cJ, 1, .inr (.inl (vp_updL g 0 0)))) :: hp_X cI cZ cO o b u (hp_v_move v r n p0 p1 p2 p3 p4) (hp_r_move v r n p0 p1 p2 p3 p4) n) H2 := hP2
      replace hD2 : va_D A ((oq, .inl (cJ, 1, .inr (.inl (vp_updL g 0 0)))) :: hp_X cI cZ cO o b u (hp_v_move v r n p0 p1 p2 p3 p4) (hp_r_move v r n p0 p1 p2 p3 p4) n) := hD2
      refine lv_goto (tgt := 38) hx hb dL_move_23 (by decide) ?_
      refine lv_iconst (v := 0) hx hb dL_move_38 (by decide) ?_
      exact vx_ret (W.iret (v := 0) hx hb hr (fun t9 ht9 hW9 => ⟨⟨0, (u, vp_updL g 0 0), rfl, ⟨hc.symm, fun _ => hp_o0 (by rw [q]; rfl)⟩, hp_ht ht9 hP2, hD2⟩, hS2.F ht9⟩) hS2.2.2 dL_move_39)
    · refine lv_lconst (v := 1) hx hb dL_move_17 (by decide) ?_
      refine lv_goto (tgt := 22) hx hb dL_move_18 (by decide) ?_
      refine va_last (n := 1) (f := g) hx hb hK hP1 hD1 hS1 0 3 rfl rfl (i := 0) (x := 1) (by unfold vp_in; decide) dL_move_22 (fun H2 locs2 hP2 hD2 hS2 => ?_)
      rw [sb_cl0] at hP2 hD2
      replace hP2 : va_P (dC, dI) vwCl ((oq, .inl (cJ, 1, .inr (.inl (vp_updL g 0 1)))) :: hp_X cI cZ cO o b u (hp_v_move v r n p0 p1 p2 p3 p4) (hp_r_move v r n p0 p1 p2 p3 p4) n) H2 := hP2
      replace hD2 : va_D A ((oq, .inl (cJ, 1, .inr (.inl (vp_updL g 0 1)))) :: hp_X cI cZ cO o b u (hp_v_move v r n p0 p1 p2 p3 p4) (hp_r_move v r n p0 p1 p2 p3 p4) n) := hD2
      refine lv_goto (tgt := 38) hx hb dL_move_23 (by decide) ?_
      refine lv_iconst (v := 0) hx hb dL_move_38 (by decide) ?_
      exact vx_ret (W.iret (v := 0) hx hb hr (fun t9 ht9 hW9 => ⟨⟨0, (u, vp_updL g 0 1), rfl, ⟨hc.symm, fun _ => hp_o0 (by rw [hp_bt (hp_bn q)]; rfl)⟩, hp_ht ht9 hP2, hD2⟩, hS2.F ht9⟩) hS2.2.2 dL_move_39)
set_option maxHeartbeats 400000 in
set_option maxRecDepth 100000 in
theorem c_L_remove (l : Launch) (hl0 : l.stackTraces = false) (dC : Nat → ClassId) (dI : Nat → Nat → Nat) (cI cZ cO cJ : ClassId) (o : Nat) (b ad : Nat → Nat) (v : Nat → Int32) (r : Nat → Nat → Int32) (n oq : Nat) (g : Nat → Int64) (sz : Nat) (p0 p1 p2 : Int32) (hinv : hp_inv v r n) : vx_Met l yL_remove wsL_remove ({ frames := 7, cells := 1, slots := 6, locals := 106 }) (va_Pc [.ref o, .int p0, .int p1, .int p2, .ref oq] (hp_prL (dC, dI) cI cZ cO cJ ((oq, .inl (cJ, 1, .inr (.inl (g)))) :: hp_X cI cZ cO o b ad v r n) sz)) (va_Qi (S := (Nat → Nat) × (Nat → Int64)) (fun x9 u9 => x9 = hp_c_remove v r n p0 p1 p2 ∧ (hp_c_remove v r n p0 p1 p2 = 0 → u9.2 0 = ((1 : Int32)).toInt64)) (fun u9 t9 => va_P (dC, dI) vwCl ((oq, .inl (cJ, 1, .inr (.inl (u9.2)))) :: hp_X cI cZ cO o b u9.1 (hp_v_remove v r n p0 p1 p2) (hp_r_remove v r n p0 p1 p2) n) t9.heap ∧ va_D (va_A ((oq, .inl (cJ, 1, .inr (.inl (g)))) :: hp_X cI cZ cO o b ad v r n) sz) ((oq, .inl (cJ, 1, .inr (.inl (u9.2)))) :: hp_X cI cZ cO o b u9.1 (hp_v_remove v r n p0 p1 p2) (hp_r_remove v r n p0 p1 p2) n)) (va_A ((oq, .inl (cJ, 1, .inr (.inl (g)))) :: hp_X cI cZ cO o b ad v r n) sz)) (vx_X (S := Unit) (fun _ => False) (fun _ _ _ => True) (va_A ((oq, .inl (cJ, 1, .inr (.inl (g)))) :: hp_X cI cZ cO o b ad v r n) sz)) 1 6 (va_A ((oq, .inl (cJ, 1, .inr (.inl (g)))) :: hp_X cI cZ cO o b ad v r n) sz) := by
  refine vx_ofWH (cc := cL_remove) (maxL := 6) (ret := some .int) (hh := [(0, 19, 22, 13), (0, 19, 26, 15), (0, 19, 30, 17)]) (by decide) rfl ?_
  intro p e s m args below meth c s₁ B hml hv
  obtain ⟨rfl, ⟨hsz, hP, hK, hD0, hN, hstr, hZu, hZn⟩, hnc⟩ := hv
  have hx := B.exec
  have hb := B.bytes
  have hr := B.returns
  have hts := atoms_spec (ws := wsL_remove) B.pre
  have hown : s.vm.findClass RL = some m.cls := findClass_of_methodNamed B.named
  have hlocks := B.notSynchronized
  have htb := vx_table (x := yL_remove) B (hts _ List.mem_cons_self)
  subst hsz
  have hD := hD0.self (sz := s.heap.size)
  generalize hAe : va_A ((oq, .inl (cJ, 1, .inr (.inl (g)))) :: hp_X cI cZ cO o b ad v r n) s.heap.size = A at hD hZu hZn ⊢
  have hA : ∀ q : Nat, s.heap.size ≤ q → A q := fun q h => by rw [← hAe]; exact Or.inr h
  have hS : va_S A s.heap s.heap [] := va_S.rf
  have hPX := (hp_Pc.mp hP).2
  have hDX := hp_Dt hD
  have hk_1 := hts (.classLink RL 13 hp_E1) (by decide +kernel)
  have hk_2 := hts (.classLink RL 15 hp_E2) (by decide +kernel)
  have hk_3 := hts (.classLink RL 17 hp_E3) (by decide +kernel)
  have hl := lv_entry ([.ref o, .int p0, .int p1, .int p2, .ref oq]) (n := 6) (Nat.le_of_ble_eq_true rfl)
  rw [lg_entry_eq]
  generalize (lg_sl ([.ref o, .int p0, .int p1, .int p2, .ref oq]) ++ List.replicate (6 - (lg_sl ([.ref o, .int p0, .int p1, .int p2, .ref oq])).length) Slot.unset).toArray = ls at hl ⊢
  have hl : lv_has ls 6 [(0, .ref o), (1, .int p0), (2, .int p1), (3, .int p2), (4, .ref oq)] := hl
  refine lv_aload hx hb dL_remove_0 (lv_at hl 4 rfl) ?_
  refine lv_iconst (v := 0) hx hb dL_remove_2 (by decide) ?_
  refine lv_aload_n hx hb dL_remove_3 rfl (lv_at hl 0 rfl) ?_
  refine lv_iload_n hx hb dL_remove_4 rfl (lv_at hl 1 rfl) ?_
  refine lv_iload_n hx hb dL_remove_5 rfl (lv_at hl 2 rfl) ?_
  refine lv_iload_n hx hb dL_remove_6 rfl (lv_at hl 3 rfl) ?_
  have hFc := hp_free hDX hS hA
  refine vx_calli (vx_runV (As := [.int p0, .int p1, .int p2]) (rest := [.int 0, .ref oq]) ⟨hx, hb, hml, hown, hts⟩ (c_X1_remove l hl0 dC dI cI cZ cO cJ o b ad v r n s.heap.size p0 p1 p2 hinv) (cwV 3 hts gL_remove_X1_remove rfl rfl rfl (by decide +kernel) ⟨(Nat.le_of_ble_eq_true rfl), (Nat.le_of_ble_eq_true rfl)⟩) ⟨hp_fbT, va_recv hK hPX (ci := 1) (q0 := 0) rfl hp_X_o, fun U hU hW => ⟨rfl, hp_toT hPX hK hDX hN hstr hZu hZn hS hA hU hW⟩⟩ rfl rfl hl.1 rfl (lv_room (Nat.le_of_ble_eq_true rfl)) dL_remove_7 ⟨(Nat.le_of_ble_eq_true rfl), (Nat.le_of_ble_eq_true rfl)⟩) hS (fun q _ h => hFc q h) hFc (fun q _ h => hFc q h) (fun E ce q9 u t H1 locs1 ht _ _ hBX _ hkk hS1 hce hcv hcl => ?_) (fun r9 u t H1 locs1 ht _ hw hB _ hkk hS1 => ?_)
  · obtain ⟨⟨k, hk, hC⟩, hPx⟩ := hBX
    obtain ⟨hP1, hD1⟩ := hp_reO hP hD hkk (hp_th ht hPx) hDX.self
    clear hP hD hPX hDX hPx hkk ht
    rcases k with _ | _ | _ | k
    · cases Option.some.inj hk
      have hne : ¬ hp_c_remove v r n p0 p1 p2 = 0 := fun q => absurd (hC.symm.trans q) (by decide)
      refine vx_catch (own := RL) (name := hp_E1) hown [] ⟨0, 19, 22, 13⟩ [⟨0, 19, 26, 15⟩, ⟨0, 19, 30, 17⟩] (htb.trans rfl) (fun z hz => nomatch hz) (by decide) (by decide) hk_1 (va_Nw.use rfl hN.2.2.2.1) hce hcv hcl ?_
      refine W.eq (g2 := F0 m 22 ls [.ref q9]) rfl ?_
      refine lv_astore (lv' := [(5, .ref q9), (0, .ref o), (1, .int p0), (2, .int p1), (3, .int p2), (4, .ref oq)]) hx hb dL_remove_22 hl (by decide) rfl (fun ls hl => ?_)
      refine lv_iconst (v := 1) hx hb dL_remove_24 (by decide) ?_
      have hP9 : va_P (dC, dI) vwCl ((oq, .inl (cJ, 1, .inr (.inl (g)))) :: hp_X cI cZ cO o b ad (hp_v_remove v r n p0 p1 p2) (hp_r_remove v r n p0 p1 p2) n) H1 := by simp only [hp_v_remove, hp_r_remove, if_neg hne]; exact hP1
      have hD9 : va_D A ((oq, .inl (cJ, 1, .inr (.inl (g)))) :: hp_X cI cZ cO o b ad (hp_v_remove v r n p0 p1 p2) (hp_r_remove v r n p0 p1 p2) n) := by simp only [hp_v_remove, hp_r_remove, if_neg hne]; exact hD1
      exact vx_ret (W.iret (v := 1) hx hb hr (fun t9 ht9 hW9 => ⟨⟨1, (ad, g), rfl, ⟨hC.symm, fun q => absurd q hne⟩, hp_ht ht9 hP9, hD9⟩, hS1.F ht9⟩) hS1.2.2 dL_remove_25)
    · cases Option.some.inj hk
      have hne : ¬ hp_c_remove v r n p0 p1 p2 = 0 := fun q => absurd (hC.symm.trans q) (by decide)
      refine vx_catch (own := RL) (name := hp_E2) hown [⟨0, 19, 22, 13⟩] ⟨0, 19, 26, 15⟩ [⟨0, 19, 30, 17⟩] (htb.trans rfl) (fun z hz => by
          simp only [List.mem_cons, List.not_mem_nil, or_false] at hz
          subst hz
          · exact Or.inr ⟨by decide, hp_E1, hk_1, hnc.1⟩) (by decide) (by decide) hk_2 (va_Nw.use rfl hN.2.2.2.2.1) hce hcv hcl ?_
      refine W.eq (g2 := F0 m 26 ls [.ref q9]) rfl ?_
      refine lv_astore (lv' := [(5, .ref q9), (0, .ref o), (1, .int p0), (2, .int p1), (3, .int p2), (4, .ref oq)]) hx hb dL_remove_26 hl (by decide) rfl (fun ls hl => ?_)
      refine lv_iconst (v := 2) hx hb dL_remove_28 (by decide) ?_
      have hP9 : va_P (dC, dI) vwCl ((oq, .inl (cJ, 1, .inr (.inl (g)))) :: hp_X cI cZ cO o b ad (hp_v_remove v r n p0 p1 p2) (hp_r_remove v r n p0 p1 p2) n) H1 := by simp only [hp_v_remove, hp_r_remove, if_neg hne]; exact hP1
      have hD9 : va_D A ((oq, .inl (cJ, 1, .inr (.inl (g)))) :: hp_X cI cZ cO o b ad (hp_v_remove v r n p0 p1 p2) (hp_r_remove v r n p0 p1 p2) n) := by simp only [hp_v_remove, hp_r_remove, if_neg hne]; exact hD1
      exact vx_ret (W.iret (v := 2) hx hb hr (fun t9 ht9 hW9 => ⟨⟨2, (ad, g), rfl, ⟨hC.symm, fun q => absurd q hne⟩, hp_ht ht9 hP9, hD9⟩, hS1.F ht9⟩) hS1.2.2 dL_remove_29)
    · cases Option.some.inj hk
      have hne : ¬ hp_c_remove v r n p0 p1 p2 = 0 := fun q => absurd (hC.symm.trans q) (by decide)
      refine vx_catch (own := RL) (name := hp_E3) hown [⟨0, 19, 22, 13⟩, ⟨0, 19, 26, 15⟩] ⟨0, 19, 30, 17⟩ [] (htb.trans rfl) (fun z hz => by
          simp only [List.mem_cons, List.not_mem_nil, or_false] at hz
          rcases hz with rfl | rfl
          · exact Or.inr ⟨by decide, hp_E1, hk_1, hnc.2.1⟩
          · exact Or.inr ⟨by decide, hp_E2, hk_2, hnc.2.2⟩) (by decide) (by decide) hk_3 (va_Nw.use rfl hN.2.2.2.2.2.1) hce hcv hcl ?_
      refine W.eq (g2 := F0 m 30 ls [.ref q9]) rfl ?_
      refine lv_astore (lv' := [(5, .ref q9), (0, .ref o), (1, .int p0), (2, .int p1), (3, .int p2), (4, .ref oq)]) hx hb dL_remove_30 hl (by decide) rfl (fun ls hl => ?_)
      refine lv_iconst (v := 3) hx hb dL_remove_32 (by decide) ?_
      have hP9 : va_P (dC, dI) vwCl ((oq, .inl (cJ, 1, .inr (.inl (g)))) :: hp_X cI cZ cO o b ad (hp_v_remove v r n p0 p1 p2) (hp_r_remove v r n p0 p1 p2) n) H1 := by simp only [hp_v_remove, hp_r_remove, if_neg hne]; exact hP1
      have hD9 : va_D A ((oq, .inl (cJ, 1, .inr (.inl (g)))) :: hp_X cI cZ cO o b ad (hp_v_remove v r n p0 p1 p2) (hp_r_remove v r n p0 p1 p2) n) := by simp only [hp_v_remove, hp_r_remove, if_neg hne]; exact hD1
      exact vx_ret (W.iret (v := 3) hx hb hr (fun t9 ht9 hW9 => ⟨⟨3, (ad, g), rfl, ⟨hC.symm, fun q => absurd q hne⟩, hp_ht ht9 hP9, hD9⟩, hS1.F ht9⟩) hS1.2.2 dL_remove_33)
    · simp at hk
  · obtain ⟨hc, rfl⟩ := hw
    obtain ⟨hPx, hDx⟩ := hB
    obtain ⟨hP1, hD1⟩ := hp_reO hP hD hkk (hp_th ht hPx) hDx
    clear hP hD hPX hDX hPx hDx hkk ht
    refine lv_if_eq (tgt := 17) hx hb dL_remove_10 (by decide) (fun q => absurd q (by decide)) (fun _ => ?_)
    refine lv_lconst (v := 1) hx hb dL_remove_13 (by decide) ?_
    refine lv_goto (tgt := 18) hx hb dL_remove_14 (by decide) ?_
    refine va_last (n := 1) (f := g) hx hb hK hP1 hD1 hS1 0 3 rfl rfl (i := 0) (x := 1) (by unfold vp_in; decide) dL_remove_18 (fun H2 locs2 hP2 hD2 hS2 => ?_)
    rw [sb_cl0] at hP2 hD2
    replace hP2 : va_P (dC, dI) vwCl ((oq, .inl (cJ, 1, .inr (.inl (vp_updL g 0 1)))) :: hp_X cI cZ cO o b u (hp_v_remove v r n p0 p1 p2) (hp_r_remove v r n p0 p1 p2) n) H2 := hP2
    replace hD2 : va_D A ((oq, .inl (cJ, 1, .inr (.inl (vp_updL g 0 1)))) :: hp_X cI cZ cO o b u (hp_v_remove v r n p0 p1 p2) (hp_r_remove v r n p0 p1 p2) n) := hD2
    refine lv_goto (tgt := 34) hx hb dL_remove_19 (by decide) ?_
    refine lv_iconst (v := 0) hx hb dL_remove_34 (by decide) ?_
    exact vx_ret (W.iret (v := 0) hx hb hr (fun t9 ht9 hW9 => ⟨⟨0, (u, vp_updL g 0 1), rfl, ⟨hc.symm, fun _ => hp_o0 rfl⟩, hp_ht ht9 hP2, hD2⟩, hS2.F ht9⟩) hS2.2.2 dL_remove_35)
set_option maxHeartbeats 400000 in
set_option maxRecDepth 100000 in
theorem c_L_clear (l : Launch) (hl0 : l.stackTraces = false) (dC : Nat → ClassId) (dI : Nat → Nat → Nat) (cI cZ cO cJ : ClassId) (o : Nat) (b ad : Nat → Nat) (v : Nat → Int32) (r : Nat → Nat → Int32) (n oq : Nat) (g : Nat → Int64) (sz : Nat) (p0 p1 p2 : Int32) (hinv : hp_inv v r n) : vx_Met l yL_clear wsL_clear ({ frames := 7, cells := 1, slots := 6, locals := 106 }) (va_Pc [.ref o, .int p0, .int p1, .int p2, .ref oq] (hp_prL (dC, dI) cI cZ cO cJ ((oq, .inl (cJ, 1, .inr (.inl (g)))) :: hp_X cI cZ cO o b ad v r n) sz)) (va_Qi (S := (Nat → Nat) × (Nat → Int64)) (fun x9 u9 => x9 = hp_c_clear p0 p1 p2 ∧ (hp_c_clear p0 p1 p2 = 0 → u9.2 0 = (hp_a_clear r p0 p1 p2).toInt64)) (fun u9 t9 => va_P (dC, dI) vwCl ((oq, .inl (cJ, 1, .inr (.inl (u9.2)))) :: hp_X cI cZ cO o b u9.1 v (hp_r_clear r p0 p1 p2) n) t9.heap ∧ va_D (va_A ((oq, .inl (cJ, 1, .inr (.inl (g)))) :: hp_X cI cZ cO o b ad v r n) sz) ((oq, .inl (cJ, 1, .inr (.inl (u9.2)))) :: hp_X cI cZ cO o b u9.1 v (hp_r_clear r p0 p1 p2) n)) (va_A ((oq, .inl (cJ, 1, .inr (.inl (g)))) :: hp_X cI cZ cO o b ad v r n) sz)) (vx_X (S := Unit) (fun _ => False) (fun _ _ _ => True) (va_A ((oq, .inl (cJ, 1, .inr (.inl (g)))) :: hp_X cI cZ cO o b ad v r n) sz)) 1 6 (va_A ((oq, .inl (cJ, 1, .inr (.inl (g)))) :: hp_X cI cZ cO o b ad v r n) sz) := by
  refine vx_ofWH (cc := cL_clear) (maxL := 6) (ret := some .int) (hh := [(0, 12, 15, 13), (0, 12, 19, 15)]) (by decide) rfl ?_
  intro p e s m args below meth c s₁ B hml hv
  obtain ⟨rfl, ⟨hsz, hP, hK, hD0, hN, hstr, hZu, hZn⟩, hnc⟩ := hv
  have hx := B.exec
  have hb := B.bytes
  have hr := B.returns
  have hts := atoms_spec (ws := wsL_clear) B.pre
  have hown : s.vm.findClass RL = some m.cls := findClass_of_methodNamed B.named
  have hlocks := B.notSynchronized
  have htb := vx_table (x := yL_clear) B (hts _ List.mem_cons_self)
  subst hsz
  have hD := hD0.self (sz := s.heap.size)
  generalize hAe : va_A ((oq, .inl (cJ, 1, .inr (.inl (g)))) :: hp_X cI cZ cO o b ad v r n) s.heap.size = A at hD hZu hZn ⊢
  have hA : ∀ q : Nat, s.heap.size ≤ q → A q := fun q h => by rw [← hAe]; exact Or.inr h
  have hS : va_S A s.heap s.heap [] := va_S.rf
  have hPX := (hp_Pc.mp hP).2
  have hDX := hp_Dt hD
  have hk_1 := hts (.classLink RL 13 hp_E1) (by decide +kernel)
  have hk_2 := hts (.classLink RL 15 hp_E2) (by decide +kernel)
  have hl := lv_entry ([.ref o, .int p0, .int p1, .int p2, .ref oq]) (n := 6) (Nat.le_of_ble_eq_true rfl)
  rw [lg_entry_eq]
  generalize (lg_sl ([.ref o, .int p0, .int p1, .int p2, .ref oq]) ++ List.replicate (6 - (lg_sl ([.ref o, .int p0, .int p1, .int p2, .ref oq])).length) Slot.unset).toArray = ls at hl ⊢
  have hl : lv_has ls 6 [(0, .ref o), (1, .int p0), (2, .int p1), (3, .int p2), (4, .ref oq)] := hl
  refine lv_aload hx hb dL_clear_0 (lv_at hl 4 rfl) ?_
  refine lv_iconst (v := 0) hx hb dL_clear_2 (by decide) ?_
  refine lv_aload_n hx hb dL_clear_3 rfl (lv_at hl 0 rfl) ?_
  refine lv_iload_n hx hb dL_clear_4 rfl (lv_at hl 1 rfl) ?_
  refine lv_iload_n hx hb dL_clear_5 rfl (lv_at hl 2 rfl) ?_
  refine lv_iload_n hx hb dL_clear_6 rfl (lv_at hl 3 rfl) ?_
  have hFc := hp_free hDX hS hA
  refine vx_calli (vx_runV (As := [.int p0, .int p1, .int p2]) (rest := [.int 0, .ref oq]) ⟨hx, hb, hml, hown, hts⟩ (c_X1_clear l hl0 dC dI cI cZ cO cJ o b ad v r n s.heap.size p0 p1 p2) (cwV 3 hts gL_clear_X1_clear rfl rfl rfl (by decide +kernel) ⟨(Nat.le_of_ble_eq_true rfl), (Nat.le_of_ble_eq_true rfl)⟩) ⟨hp_fbT, va_recv hK hPX (ci := 1) (q0 := 0) rfl hp_X_o, fun U hU hW => ⟨rfl, hp_toT hPX hK hDX hN hstr hZu hZn hS hA hU hW⟩⟩ rfl rfl hl.1 rfl (lv_room (Nat.le_of_ble_eq_true rfl)) dL_clear_7 ⟨(Nat.le_of_ble_eq_true rfl), (Nat.le_of_ble_eq_true rfl)⟩) hS (fun q _ h => hFc q h) hFc (fun q _ h => hFc q h) (fun E ce q9 u t H1 locs1 ht _ _ hBX _ hkk hS1 hce hcv hcl => ?_) (fun r9 u t H1 locs1 ht _ hw hB _ hkk hS1 => ?_)
  · obtain ⟨⟨k, hk, hC⟩, hPx⟩ := hBX
    obtain ⟨hP1, hD1⟩ := hp_reO hP hD hkk (hp_th ht hPx) hDX.self
    clear hP hD hPX hDX hPx hkk ht
    rcases k with _ | _ | k
    · cases Option.some.inj hk
      have hne : ¬ hp_c_clear p0 p1 p2 = 0 := fun q => absurd (hC.symm.trans q) (by decide)
      refine vx_catch (own := RL) (name := hp_E1) hown [] ⟨0, 12, 15, 13⟩ [⟨0, 12, 19, 15⟩] (htb.trans rfl) (fun z hz => nomatch hz) (by decide) (by decide) hk_1 (va_Nw.use rfl hN.2.2.2.1) hce hcv hcl ?_
      refine W.eq (g2 := F0 m 15 ls [.ref q9]) rfl ?_
      refine lv_astore (lv' := [(5, .ref q9), (0, .ref o), (1, .int p0), (2, .int p1), (3, .int p2), (4, .ref oq)]) hx hb dL_clear_15 hl (by decide) rfl (fun ls hl => ?_)
      refine lv_iconst (v := 1) hx hb dL_clear_17 (by decide) ?_
      have hP9 : va_P (dC, dI) vwCl ((oq, .inl (cJ, 1, .inr (.inl (g)))) :: hp_X cI cZ cO o b ad v (hp_r_clear r p0 p1 p2) n) H1 := by simp only [hp_r_clear, if_neg hne]; exact hP1
      have hD9 : va_D A ((oq, .inl (cJ, 1, .inr (.inl (g)))) :: hp_X cI cZ cO o b ad v (hp_r_clear r p0 p1 p2) n) := by simp only [hp_r_clear, if_neg hne]; exact hD1
      exact vx_ret (W.iret (v := 1) hx hb hr (fun t9 ht9 hW9 => ⟨⟨1, (ad, g), rfl, ⟨hC.symm, fun q => absurd q hne⟩, hp_ht ht9 hP9, hD9⟩, hS1.F ht9⟩) hS1.2.2 dL_clear_18)
    · cases Option.some.inj hk
      have hne : ¬ hp_c_clear p0 p1 p2 = 0 := fun q => absurd (hC.symm.trans q) (by decide)
      refine vx_catch (own := RL) (name := hp_E2) hown [⟨0, 12, 15, 13⟩] ⟨0, 12, 19, 15⟩ [] (htb.trans rfl) (fun z hz => by
          simp only [List.mem_cons, List.not_mem_nil, or_false] at hz
          subst hz
          · exact Or.inr ⟨by decide, hp_E1, hk_1, hnc.1⟩) (by decide) (by decide) hk_2 (va_Nw.use rfl hN.2.2.2.2.1) hce hcv hcl ?_
      refine W.eq (g2 := F0 m 19 ls [.ref q9]) rfl ?_
      refine lv_astore (lv' := [(5, .ref q9), (0, .ref o), (1, .int p0), (2, .int p1), (3, .int p2), (4, .ref oq)]) hx hb dL_clear_19 hl (by decide) rfl (fun ls hl => ?_)
      refine lv_iconst (v := 2) hx hb dL_clear_21 (by decide) ?_
      have hP9 : va_P (dC, dI) vwCl ((oq, .inl (cJ, 1, .inr (.inl (g)))) :: hp_X cI cZ cO o b ad v (hp_r_clear r p0 p1 p2) n) H1 := by simp only [hp_r_clear, if_neg hne]; exact hP1
      have hD9 : va_D A ((oq, .inl (cJ, 1, .inr (.inl (g)))) :: hp_X cI cZ cO o b ad v (hp_r_clear r p0 p1 p2) n) := by simp only [hp_r_clear, if_neg hne]; exact hD1
      exact vx_ret (W.iret (v := 2) hx hb hr (fun t9 ht9 hW9 => ⟨⟨2, (ad, g), rfl, ⟨hC.symm, fun q => absurd q hne⟩, hp_ht ht9 hP9, hD9⟩, hS1.F ht9⟩) hS1.2.2 dL_clear_22)
    · simp at hk
  · obtain ⟨hc, rfl⟩ := hw
    obtain ⟨hPx, hDx⟩ := hB
    obtain ⟨hP1, hD1⟩ := hp_reO hP hD hkk (hp_th ht hPx) hDx
    clear hP hD hPX hDX hPx hDx hkk ht
    refine lv_i2l hx hb dL_clear_10 rfl ?_
    refine va_last (n := 1) (f := g) hx hb hK hP1 hD1 hS1 0 3 rfl rfl (i := 0) (x := (hp_a_clear r p0 p1 p2).toInt64) (by unfold vp_in; decide) dL_clear_11 (fun H2 locs2 hP2 hD2 hS2 => ?_)
    rw [sb_cl0] at hP2 hD2
    replace hP2 : va_P (dC, dI) vwCl ((oq, .inl (cJ, 1, .inr (.inl (vp_updL g 0 ((hp_a_clear r p0 p1 p2).toInt64))))) :: hp_X cI cZ cO o b u v (hp_r_clear r p0 p1 p2) n) H2 := hP2
    replace hD2 : va_D A ((oq, .inl (cJ, 1, .inr (.inl (vp_updL g 0 ((hp_a_clear r p0 p1 p2).toInt64))))) :: hp_X cI cZ cO o b u v (hp_r_clear r p0 p1 p2) n) := hD2
    refine lv_goto (tgt := 23) hx hb dL_clear_12 (by decide) ?_
    refine lv_iconst (v := 0) hx hb dL_clear_23 (by decide) ?_
    exact vx_ret (W.iret (v := 0) hx hb hr (fun t9 ht9 hW9 => ⟨⟨0, (u, vp_updL g 0 ((hp_a_clear r p0 p1 p2).toInt64)), rfl, ⟨hc.symm, fun _ => hp_o0 rfl⟩, hp_ht ht9 hP2, hD2⟩, hS2.F ht9⟩) hS2.2.2 dL_clear_24)
set_option maxHeartbeats 400000 in
set_option maxRecDepth 100000 in
theorem c_L_part (l : Launch) (hl0 : l.stackTraces = false) (dC : Nat → ClassId) (dI : Nat → Nat → Nat) (cI cZ cO cJ : ClassId) (o : Nat) (b ad : Nat → Nat) (v : Nat → Int32) (r : Nat → Nat → Int32) (n oq : Nat) (g : Nat → Int64) (sz : Nat) (p0 p1 : Int32) (hinv : hp_inv v r n) : vx_Met l yL_part wsL_part ({ frames := 7, cells := 1, slots := 6, locals := 105 }) (va_Pc [.ref o, .int p0, .int p1, .ref oq] (hp_prL (dC, dI) cI cZ cO cJ ((oq, .inl (cJ, 1, .inr (.inl (g)))) :: hp_X cI cZ cO o b ad v r n) sz)) (va_Qi (S := (Nat → Nat) × (Nat → Int64)) (fun x9 u9 => x9 = hp_c_part p0 p1 ∧ (hp_c_part p0 p1 = 0 → u9.2 0 = (hp_a_part r p0 p1).toInt64)) (fun u9 t9 => va_P (dC, dI) vwCl ((oq, .inl (cJ, 1, .inr (.inl (u9.2)))) :: hp_X cI cZ cO o b u9.1 v (hp_r_part r p0 p1) n) t9.heap ∧ va_D (va_A ((oq, .inl (cJ, 1, .inr (.inl (g)))) :: hp_X cI cZ cO o b ad v r n) sz) ((oq, .inl (cJ, 1, .inr (.inl (u9.2)))) :: hp_X cI cZ cO o b u9.1 v (hp_r_part r p0 p1) n)) (va_A ((oq, .inl (cJ, 1, .inr (.inl (g)))) :: hp_X cI cZ cO o b ad v r n) sz)) (vx_X (S := Unit) (fun _ => False) (fun _ _ _ => True) (va_A ((oq, .inl (cJ, 1, .inr (.inl (g)))) :: hp_X cI cZ cO o b ad v r n) sz)) 1 6 (va_A ((oq, .inl (cJ, 1, .inr (.inl (g)))) :: hp_X cI cZ cO o b ad v r n) sz) := by
  refine vx_ofWH (cc := cL_part) (maxL := 5) (ret := some .int) (hh := [(0, 10, 13, 13), (0, 10, 17, 15)]) (by decide) rfl ?_
  intro p e s m args below meth c s₁ B hml hv
  obtain ⟨rfl, ⟨hsz, hP, hK, hD0, hN, hstr, hZu, hZn⟩, hnc⟩ := hv
  have hx := B.exec
  have hb := B.bytes
  have hr := B.returns
  have hts := atoms_spec (ws := wsL_part) B.pre
  have hown : s.vm.findClass RL = some m.cls := findClass_of_methodNamed B.named
  have hlocks := B.notSynchronized
  have htb := vx_table (x := yL_part) B (hts _ List.mem_cons_self)
  subst hsz
  have hD := hD0.self (sz := s.heap.size)
  generalize hAe : va_A ((oq, .inl (cJ, 1, .inr (.inl (g)))) :: hp_X cI cZ cO o b ad v r n) s.heap.size = A at hD hZu hZn ⊢
  have hA : ∀ q : Nat, s.heap.size ≤ q → A q := fun q h => by rw [← hAe]; exact Or.inr h
  have hS : va_S A s.heap s.heap [] := va_S.rf
  have hPX := (hp_Pc.mp hP).2
  have hDX := hp_Dt hD
  have hk_1 := hts (.classLink RL 13 hp_E1) (by decide +kernel)
  have hk_2 := hts (.classLink RL 15 hp_E2) (by decide +kernel)
  have hl := lv_entry ([.ref o, .int p0, .int p1, .ref oq]) (n := 5) (Nat.le_of_ble_eq_true rfl)
  rw [lg_entry_eq]
  generalize (lg_sl ([.ref o, .int p0, .int p1, .ref oq]) ++ List.replicate (5 - (lg_sl ([.ref o, .int p0, .int p1, .ref oq])).length) Slot.unset).toArray = ls at hl ⊢
  have hl : lv_has ls 5 [(0, .ref o), (1, .int p0), (2, .int p1), (3, .ref oq)] := hl
  refine lv_aload_n hx hb dL_part_0 rfl (lv_at hl 3 rfl) ?_
  refine lv_iconst (v := 0) hx hb dL_part_1 (by decide) ?_
  refine lv_aload_n hx hb dL_part_2 rfl (lv_at hl 0 rfl) ?_
  refine lv_iload_n hx hb dL_part_3 rfl (lv_at hl 1 rfl) ?_
  refine lv_iload_n hx hb dL_part_4 rfl (lv_at hl 2 rfl) ?_
  have hFc := hp_free hDX hS hA
  refine vx_calli (vx_runV (As := [.int p0, .int p1]) (rest := [.int 0, .ref oq]) ⟨hx, hb, hml, hown, hts⟩ (c_X1_part l hl0 dC dI cI cZ cO cJ o b ad v r n s.heap.size p0 p1) (cwV 2 hts gL_part_X1_part rfl rfl rfl (by decide +kernel) ⟨(Nat.le_of_ble_eq_true rfl), (Nat.le_of_ble_eq_true rfl)⟩) ⟨hp_fbT, va_recv hK hPX (ci := 1) (q0 := 0) rfl hp_X_o, fun U hU hW => ⟨rfl, hp_toT hPX hK hDX hN hstr hZu hZn hS hA hU hW⟩⟩ rfl rfl hl.1 rfl (lv_room (Nat.le_of_ble_eq_true rfl)) dL_part_5 ⟨(Nat.le_of_ble_eq_true rfl), (Nat.le_of_ble_eq_true rfl)⟩) hS (fun q _ h => hFc q h) hFc (fun q _ h => hFc q h) (fun E ce q9 u t H1 locs1 ht _ _ hBX _ hkk hS1 hce hcv hcl => ?_) (fun r9 u t H1 locs1 ht _ hw hB _ hkk hS1 => ?_)
  · obtain ⟨⟨k, hk, hC⟩, hPx⟩ := hBX
    obtain ⟨hP1, hD1⟩ := hp_reO hP hD hkk (hp_th ht hPx) hDX.self
    clear hP hD hPX hDX hPx hkk ht
    rcases k with _ | _ | k
    · cases Option.some.inj hk
      have hne : ¬ hp_c_part p0 p1 = 0 := fun q => absurd (hC.symm.trans q) (by decide)
      refine vx_catch (own := RL) (name := hp_E1) hown [] ⟨0, 10, 13, 13⟩ [⟨0, 10, 17, 15⟩] (htb.trans rfl) (fun z hz => nomatch hz) (by decide) (by decide) hk_1 (va_Nw.use rfl hN.2.2.2.1) hce hcv hcl ?_
      refine W.eq (g2 := F0 m 13 ls [.ref q9]) rfl ?_
      refine lv_astore (lv' := [(4, .ref q9), (0, .ref o), (1, .int p0), (2, .int p1), (3, .ref oq)]) hx hb dL_part_13 hl (by decide) rfl (fun ls hl => ?_)
      refine lv_iconst (v := 1) hx hb dL_part_15 (by decide) ?_
      have hP9 : va_P (dC, dI) vwCl ((oq, .inl (cJ, 1, .inr (.inl (g)))) :: hp_X cI cZ cO o b ad v (hp_r_part r p0 p1) n) H1 := by simp only [hp_r_part, if_neg hne]; exact hP1
      have hD9 : va_D A ((oq, .inl (cJ, 1, .inr (.inl (g)))) :: hp_X cI cZ cO o b ad v (hp_r_part r p0 p1) n) := by simp only [hp_r_part, if_neg hne]; exact hD1
      exact vx_ret (W.iret (v := 1) hx hb hr (fun t9 ht9 hW9 => ⟨⟨1, (ad, g), rfl, ⟨hC.symm, fun q => absurd q hne⟩, hp_ht ht9 hP9, hD9⟩, hS1.F ht9⟩) hS1.2.2 dL_part_16)
    · cases Option.some.inj hk
      have hne : ¬ hp_c_part p0 p1 = 0 := fun q => absurd (hC.symm.trans q) (by decide)
      refine vx_catch (own := RL) (name := hp_E2) hown [⟨0, 10, 13, 13⟩] ⟨0, 10, 17, 15⟩ [] (htb.trans rfl) (fun z hz => by
          simp only [List.mem_cons, List.not_mem_nil, or_false] at hz
          subst hz
          · exact Or.inr ⟨by decide, hp_E1, hk_1, hnc.1⟩) (by decide) (by decide) hk_2 (va_Nw.use rfl hN.2.2.2.2.1) hce hcv hcl ?_
      refine W.eq (g2 := F0 m 17 ls [.ref q9]) rfl ?_
      refine lv_astore (lv' := [(4, .ref q9), (0, .ref o), (1, .int p0), (2, .int p1), (3, .ref oq)]) hx hb dL_part_17 hl (by decide) rfl (fun ls hl => ?_)
      refine lv_iconst (v := 2) hx hb dL_part_19 (by decide) ?_
      have hP9 : va_P (dC, dI) vwCl ((oq, .inl (cJ, 1, .inr (.inl (g)))) :: hp_X cI cZ cO o b ad v (hp_r_part r p0 p1) n) H1 := by simp only [hp_r_part, if_neg hne]; exact hP1
      have hD9 : va_D A ((oq, .inl (cJ, 1, .inr (.inl (g)))) :: hp_X cI cZ cO o b ad v (hp_r_part r p0 p1) n) := by simp only [hp_r_part, if_neg hne]; exact hD1
      exact vx_ret (W.iret (v := 2) hx hb hr (fun t9 ht9 hW9 => ⟨⟨2, (ad, g), rfl, ⟨hC.symm, fun q => absurd q hne⟩, hp_ht ht9 hP9, hD9⟩, hS1.F ht9⟩) hS1.2.2 dL_part_20)
    · simp at hk
  · obtain ⟨hc, rfl⟩ := hw
    obtain ⟨hPx, hDx⟩ := hB
    obtain ⟨hP1, hD1⟩ := hp_reO hP hD hkk (hp_th ht hPx) hDx
    clear hP hD hPX hDX hPx hDx hkk ht
    refine lv_i2l hx hb dL_part_8 rfl ?_
    refine va_last (n := 1) (f := g) hx hb hK hP1 hD1 hS1 0 3 rfl rfl (i := 0) (x := (hp_a_part r p0 p1).toInt64) (by unfold vp_in; decide) dL_part_9 (fun H2 locs2 hP2 hD2 hS2 => ?_)
    rw [sb_cl0] at hP2 hD2
    replace hP2 : va_P (dC, dI) vwCl ((oq, .inl (cJ, 1, .inr (.inl (vp_updL g 0 ((hp_a_part r p0 p1).toInt64))))) :: hp_X cI cZ cO o b u v (hp_r_part r p0 p1) n) H2 := hP2
    replace hD2 : va_D A ((oq, .inl (cJ, 1, .inr (.inl (vp_updL g 0 ((hp_a_part r p0 p1).toInt64))))) :: hp_X cI cZ cO o b u v (hp_r_part r p0 p1) n) := hD2
    refine lv_goto (tgt := 21) hx hb dL_part_10 (by decide) ?_
    refine lv_iconst (v := 0) hx hb dL_part_21 (by decide) ?_
    exact vx_ret (W.iret (v := 0) hx hb hr (fun t9 ht9 hW9 => ⟨⟨0, (u, vp_updL g 0 ((hp_a_part r p0 p1).toInt64)), rfl, ⟨hc.symm, fun _ => hp_o0 rfl⟩, hp_ht ht9 hP2, hD2⟩, hS2.F ht9⟩) hS2.2.2 dL_part_22)
set_option maxHeartbeats 400000 in
set_option maxRecDepth 100000 in
theorem c_L_lead (l : Launch) (hl0 : l.stackTraces = false) (dC : Nat → ClassId) (dI : Nat → Nat → Nat) (cI cZ cO cJ : ClassId) (o : Nat) (b ad : Nat → Nat) (v : Nat → Int32) (r : Nat → Nat → Int32) (n oq : Nat) (g : Nat → Int64) (sz : Nat) (p0 p1 : Int32) (hinv : hp_inv v r n) : vx_Met l yL_lead wsL_lead ({ frames := 7, cells := 1, slots := 6, locals := 105 }) (va_Pc [.ref o, .int p0, .int p1, .ref oq] (hp_prL (dC, dI) cI cZ cO cJ ((oq, .inl (cJ, 1, .inr (.inl (g)))) :: hp_X cI cZ cO o b ad v r n) sz)) (va_Qi (S := (Nat → Nat) × (Nat → Int64)) (fun x9 u9 => x9 = hp_c_lead p0 p1 ∧ (hp_c_lead p0 p1 = 0 → u9.2 0 = (hp_a_lead r p0 p1).toInt64)) (fun u9 t9 => va_P (dC, dI) vwCl ((oq, .inl (cJ, 1, .inr (.inl (u9.2)))) :: hp_X cI cZ cO o b u9.1 v (hp_r_lead r p0 p1) n) t9.heap ∧ va_D (va_A ((oq, .inl (cJ, 1, .inr (.inl (g)))) :: hp_X cI cZ cO o b ad v r n) sz) ((oq, .inl (cJ, 1, .inr (.inl (u9.2)))) :: hp_X cI cZ cO o b u9.1 v (hp_r_lead r p0 p1) n)) (va_A ((oq, .inl (cJ, 1, .inr (.inl (g)))) :: hp_X cI cZ cO o b ad v r n) sz)) (vx_X (S := Unit) (fun _ => False) (fun _ _ _ => True) (va_A ((oq, .inl (cJ, 1, .inr (.inl (g)))) :: hp_X cI cZ cO o b ad v r n) sz)) 1 6 (va_A ((oq, .inl (cJ, 1, .inr (.inl (g)))) :: hp_X cI cZ cO o b ad v r n) sz) := by
  refine vx_ofWH (cc := cL_lead) (maxL := 5) (ret := some .int) (hh := [(0, 10, 13, 13), (0, 10, 17, 15)]) (by decide) rfl ?_
  intro p e s m args below meth c s₁ B hml hv
  obtain ⟨rfl, ⟨hsz, hP, hK, hD0, hN, hstr, hZu, hZn⟩, hnc⟩ := hv
  have hx := B.exec
  have hb := B.bytes
  have hr := B.returns
  have hts := atoms_spec (ws := wsL_lead) B.pre
  have hown : s.vm.findClass RL = some m.cls := findClass_of_methodNamed B.named
  have hlocks := B.notSynchronized
  have htb := vx_table (x := yL_lead) B (hts _ List.mem_cons_self)
  subst hsz
  have hD := hD0.self (sz := s.heap.size)
  generalize hAe : va_A ((oq, .inl (cJ, 1, .inr (.inl (g)))) :: hp_X cI cZ cO o b ad v r n) s.heap.size = A at hD hZu hZn ⊢
  have hA : ∀ q : Nat, s.heap.size ≤ q → A q := fun q h => by rw [← hAe]; exact Or.inr h
  have hS : va_S A s.heap s.heap [] := va_S.rf
  have hPX := (hp_Pc.mp hP).2
  have hDX := hp_Dt hD
  have hk_1 := hts (.classLink RL 13 hp_E1) (by decide +kernel)
  have hk_2 := hts (.classLink RL 15 hp_E2) (by decide +kernel)
  have hl := lv_entry ([.ref o, .int p0, .int p1, .ref oq]) (n := 5) (Nat.le_of_ble_eq_true rfl)
  rw [lg_entry_eq]
  generalize (lg_sl ([.ref o, .int p0, .int p1, .ref oq]) ++ List.replicate (5 - (lg_sl ([.ref o, .int p0, .int p1, .ref oq])).length) Slot.unset).toArray = ls at hl ⊢
  have hl : lv_has ls 5 [(0, .ref o), (1, .int p0), (2, .int p1), (3, .ref oq)] := hl
  refine lv_aload_n hx hb dL_lead_0 rfl (lv_at hl 3 rfl) ?_
  refine lv_iconst (v := 0) hx hb dL_lead_1 (by decide) ?_
  refine lv_aload_n hx hb dL_lead_2 rfl (lv_at hl 0 rfl) ?_
  refine lv_iload_n hx hb dL_lead_3 rfl (lv_at hl 1 rfl) ?_
  refine lv_iload_n hx hb dL_lead_4 rfl (lv_at hl 2 rfl) ?_
  have hFc := hp_free hDX hS hA
  refine vx_calli (vx_runV (As := [.int p0, .int p1]) (rest := [.int 0, .ref oq]) ⟨hx, hb, hml, hown, hts⟩ (c_X1_lead l hl0 dC dI cI cZ cO cJ o b ad v r n s.heap.size p0 p1) (cwV 2 hts gL_lead_X1_lead rfl rfl rfl (by decide +kernel) ⟨(Nat.le_of_ble_eq_true rfl), (Nat.le_of_ble_eq_true rfl)⟩) ⟨hp_fbT, va_recv hK hPX (ci := 1) (q0 := 0) rfl hp_X_o, fun U hU hW => ⟨rfl, hp_toT hPX hK hDX hN hstr hZu hZn hS hA hU hW⟩⟩ rfl rfl hl.1 rfl (lv_room (Nat.le_of_ble_eq_true rfl)) dL_lead_5 ⟨(Nat.le_of_ble_eq_true rfl), (Nat.le_of_ble_eq_true rfl)⟩) hS (fun q _ h => hFc q h) hFc (fun q _ h => hFc q h) (fun E ce q9 u t H1 locs1 ht _ _ hBX _ hkk hS1 hce hcv hcl => ?_) (fun r9 u t H1 locs1 ht _ hw hB _ hkk hS1 => ?_)
  · obtain ⟨⟨k, hk, hC⟩, hPx⟩ := hBX
    obtain ⟨hP1, hD1⟩ := hp_reO hP hD hkk (hp_th ht hPx) hDX.self
    clear hP hD hPX hDX hPx hkk ht
    rcases k with _ | _ | k
    · cases Option.some.inj hk
      have hne : ¬ hp_c_lead p0 p1 = 0 := fun q => absurd (hC.symm.trans q) (by decide)
      refine vx_catch (own := RL) (name := hp_E1) hown [] ⟨0, 10, 13, 13⟩ [⟨0, 10, 17, 15⟩] (htb.trans rfl) (fun z hz => nomatch hz) (by decide) (by decide) hk_1 (va_Nw.use rfl hN.2.2.2.1) hce hcv hcl ?_
      refine W.eq (g2 := F0 m 13 ls [.ref q9]) rfl ?_
      refine lv_astore (lv' := [(4, .ref q9), (0, .ref o), (1, .int p0), (2, .int p1), (3, .ref oq)]) hx hb dL_lead_13 hl (by decide) rfl (fun ls hl => ?_)
      refine lv_iconst (v := 1) hx hb dL_lead_15 (by decide) ?_
      have hP9 : va_P (dC, dI) vwCl ((oq, .inl (cJ, 1, .inr (.inl (g)))) :: hp_X cI cZ cO o b ad v (hp_r_lead r p0 p1) n) H1 := by simp only [hp_r_lead, if_neg hne]; exact hP1
      have hD9 : va_D A ((oq, .inl (cJ, 1, .inr (.inl (g)))) :: hp_X cI cZ cO o b ad v (hp_r_lead r p0 p1) n) := by simp only [hp_r_lead, if_neg hne]; exact hD1
      exact vx_ret (W.iret (v := 1) hx hb hr (fun t9 ht9 hW9 => ⟨⟨1, (ad, g), rfl, ⟨hC.symm, fun q => absurd q hne⟩, hp_ht ht9 hP9, hD9⟩, hS1.F ht9⟩) hS1.2.2 dL_lead_16)
    · cases Option.some.inj hk
      have hne : ¬ hp_c_lead p0 p1 = 0 := fun q => absurd (hC.symm.trans q) (by decide)
      refine vx_catch (own := RL) (name := hp_E2) hown [⟨0, 10, 13, 13⟩] ⟨0, 10, 17, 15⟩ [] (htb.trans rfl) (fun z hz => by
          simp only [List.mem_cons, List.not_mem_nil, or_false] at hz
          subst hz
          · exact Or.inr ⟨by decide, hp_E1, hk_1, hnc.1⟩) (by decide) (by decide) hk_2 (va_Nw.use rfl hN.2.2.2.2.1) hce hcv hcl ?_
      refine W.eq (g2 := F0 m 17 ls [.ref q9]) rfl ?_
      refine lv_astore (lv' := [(4, .ref q9), (0, .ref o), (1, .int p0), (2, .int p1), (3, .ref oq)]) hx hb dL_lead_17 hl (by decide) rfl (fun ls hl => ?_)
      refine lv_iconst (v := 2) hx hb dL_lead_19 (by decide) ?_
      have hP9 : va_P (dC, dI) vwCl ((oq, .inl (cJ, 1, .inr (.inl (g)))) :: hp_X cI cZ cO o b ad v (hp_r_lead r p0 p1) n) H1 := by simp only [hp_r_lead, if_neg hne]; exact hP1
      have hD9 : va_D A ((oq, .inl (cJ, 1, .inr (.inl (g)))) :: hp_X cI cZ cO o b ad v (hp_r_lead r p0 p1) n) := by simp only [hp_r_lead, if_neg hne]; exact hD1
      exact vx_ret (W.iret (v := 2) hx hb hr (fun t9 ht9 hW9 => ⟨⟨2, (ad, g), rfl, ⟨hC.symm, fun q => absurd q hne⟩, hp_ht ht9 hP9, hD9⟩, hS1.F ht9⟩) hS1.2.2 dL_lead_20)
    · simp at hk
  · obtain ⟨hc, rfl⟩ := hw
    obtain ⟨hPx, hDx⟩ := hB
    obtain ⟨hP1, hD1⟩ := hp_reO hP hD hkk (hp_th ht hPx) hDx
    clear hP hD hPX hDX hPx hDx hkk ht
    refine lv_i2l hx hb dL_lead_8 rfl ?_
    refine va_last (n := 1) (f := g) hx hb hK hP1 hD1 hS1 0 3 rfl rfl (i := 0) (x := (hp_a_lead r p0 p1).toInt64) (by unfold vp_in; decide) dL_lead_9 (fun H2 locs2 hP2 hD2 hS2 => ?_)
    rw [sb_cl0] at hP2 hD2
    replace hP2 : va_P (dC, dI) vwCl ((oq, .inl (cJ, 1, .inr (.inl (vp_updL g 0 ((hp_a_lead r p0 p1).toInt64))))) :: hp_X cI cZ cO o b u v (hp_r_lead r p0 p1) n) H2 := hP2
    replace hD2 : va_D A ((oq, .inl (cJ, 1, .inr (.inl (vp_updL g 0 ((hp_a_lead r p0 p1).toInt64))))) :: hp_X cI cZ cO o b u v (hp_r_lead r p0 p1) n) := hD2
    refine lv_goto (tgt := 21) hx hb dL_lead_10 (by decide) ?_
    refine lv_iconst (v := 0) hx hb dL_lead_21 (by decide) ?_
    exact vx_ret (W.iret (v := 0) hx hb hr (fun t9 ht9 hW9 => ⟨⟨0, (u, vp_updL g 0 ((hp_a_lead r p0 p1).toInt64)), rfl, ⟨hc.symm, fun _ => hp_o0 rfl⟩, hp_ht ht9 hP2, hD2⟩, hS2.F ht9⟩) hS2.2.2 dL_lead_22)
set_option maxHeartbeats 400000 in
set_option maxRecDepth 100000 in
theorem c_L_order (l : Launch) (hl0 : l.stackTraces = false) (dC : Nat → ClassId) (dI : Nat → Nat → Nat) (cI cZ cO cJ : ClassId) (o : Nat) (b ad : Nat → Nat) (v : Nat → Int32) (r : Nat → Nat → Int32) (n oq : Nat) (g : Nat → Int64) (sz : Nat) (p0 : Int32) (hinv : hp_inv v r n) : vx_Met l yL_order wsL_order ({ frames := 7, cells := 1, slots := 6, locals := 104 }) (va_Pc [.ref o, .int p0, .ref oq] (hp_prL (dC, dI) cI cZ cO cJ ((oq, .inl (cJ, 1, .inr (.inl (g)))) :: hp_X cI cZ cO o b ad v r n) sz)) (va_Qi (S := (Nat → Nat) × (Nat → Int64)) (fun x9 u9 => x9 = hp_c_sta r n p0 0 ∧ (hp_c_sta r n p0 0 = 0 → u9.2 0 = (hp_a_order r n p0).toInt64)) (fun u9 t9 => va_P (dC, dI) vwCl ((oq, .inl (cJ, 1, .inr (.inl (u9.2)))) :: hp_X cI cZ cO o b u9.1 v (hp_r_order v r n p0) n) t9.heap ∧ va_D (va_A ((oq, .inl (cJ, 1, .inr (.inl (g)))) :: hp_X cI cZ cO o b ad v r n) sz) ((oq, .inl (cJ, 1, .inr (.inl (u9.2)))) :: hp_X cI cZ cO o b u9.1 v (hp_r_order v r n p0) n)) (va_A ((oq, .inl (cJ, 1, .inr (.inl (g)))) :: hp_X cI cZ cO o b ad v r n) sz)) (vx_X (S := Unit) (fun _ => False) (fun _ _ _ => True) (va_A ((oq, .inl (cJ, 1, .inr (.inl (g)))) :: hp_X cI cZ cO o b ad v r n) sz)) 1 6 (va_A ((oq, .inl (cJ, 1, .inr (.inl (g)))) :: hp_X cI cZ cO o b ad v r n) sz) := by
  refine vx_ofWH (cc := cL_order) (maxL := 4) (ret := some .int) (hh := [(0, 9, 12, 13), (0, 9, 15, 17)]) (by decide) rfl ?_
  intro p e s m args below meth c s₁ B hml hv
  obtain ⟨rfl, ⟨hsz, hP, hK, hD0, hN, hstr, hZu, hZn⟩, hnc⟩ := hv
  have hx := B.exec
  have hb := B.bytes
  have hr := B.returns
  have hts := atoms_spec (ws := wsL_order) B.pre
  have hown : s.vm.findClass RL = some m.cls := findClass_of_methodNamed B.named
  have hlocks := B.notSynchronized
  have htb := vx_table (x := yL_order) B (hts _ List.mem_cons_self)
  subst hsz
  have hD := hD0.self (sz := s.heap.size)
  generalize hAe : va_A ((oq, .inl (cJ, 1, .inr (.inl (g)))) :: hp_X cI cZ cO o b ad v r n) s.heap.size = A at hD hZu hZn ⊢
  have hA : ∀ q : Nat, s.heap.size ≤ q → A q := fun q h => by rw [← hAe]; exact Or.inr h
  have hS : va_S A s.heap s.heap [] := va_S.rf
  have hPX := (hp_Pc.mp hP).2
  have hDX := hp_Dt hD
  have hk_1 := hts (.classLink RL 13 hp_E1) (by decide +kernel)
  have hk_3 := hts (.classLink RL 17 hp_E3) (by decide +kernel)
  have hl := lv_entry ([.ref o, .int p0, .ref oq]) (n := 4) (Nat.le_of_ble_eq_true rfl)
  rw [lg_entry_eq]
  generalize (lg_sl ([.ref o, .int p0, .ref oq]) ++ List.replicate (4 - (lg_sl ([.ref o, .int p0, .ref oq])).length) Slot.unset).toArray = ls at hl ⊢
  have hl : lv_has ls 4 [(0, .ref o), (1, .int p0), (2, .ref oq)] := hl
  refine lv_aload_n hx hb dL_order_0 rfl (lv_at hl 2 rfl) ?_
  refine lv_iconst (v := 0) hx hb dL_order_1 (by decide) ?_
  refine lv_aload_n hx hb dL_order_2 rfl (lv_at hl 0 rfl) ?_
  refine lv_iload_n hx hb dL_order_3 rfl (lv_at hl 1 rfl) ?_
  have hFc := hp_free hDX hS hA
  refine vx_calli (vx_runV (As := [.int p0]) (rest := [.int 0, .ref oq]) ⟨hx, hb, hml, hown, hts⟩ (c_X1_order l hl0 dC dI cI cZ cO cJ o b ad v r n s.heap.size p0 hinv) (cwV 1 hts gL_order_X1_order rfl rfl rfl (by decide +kernel) ⟨(Nat.le_of_ble_eq_true rfl), (Nat.le_of_ble_eq_true rfl)⟩) ⟨hp_fbT, va_recv hK hPX (ci := 1) (q0 := 0) rfl hp_X_o, fun U hU hW => ⟨rfl, hp_toT hPX hK hDX hN hstr hZu hZn hS hA hU hW⟩⟩ rfl rfl hl.1 rfl (lv_room (Nat.le_of_ble_eq_true rfl)) dL_order_4 ⟨(Nat.le_of_ble_eq_true rfl), (Nat.le_of_ble_eq_true rfl)⟩) hS (fun q _ h => hFc q h) hFc (fun q _ h => hFc q h) (fun E ce q9 u t H1 locs1 ht _ _ hBX _ hkk hS1 hce hcv hcl => ?_) (fun r9 u t H1 locs1 ht _ hw hB _ hkk hS1 => ?_)
  · obtain ⟨⟨k, hk, hC⟩, hPx⟩ := hBX
    obtain ⟨hP1, hD1⟩ := hp_reO hP hD hkk (hp_th ht hPx) hDX.self
    clear hP hD hPX hDX hPx hkk ht
    rcases k with _ | _ | k
    · cases Option.some.inj hk
      have hne : ¬ hp_c_sta r n p0 0 = 0 := fun q => absurd (hC.symm.trans q) (by decide)
      refine vx_catch (own := RL) (name := hp_E1) hown [] ⟨0, 9, 12, 13⟩ [⟨0, 9, 15, 17⟩] (htb.trans rfl) (fun z hz => nomatch hz) (by decide) (by decide) hk_1 (va_Nw.use rfl hN.2.2.2.1) hce hcv hcl ?_
      refine W.eq (g2 := F0 m 12 ls [.ref q9]) rfl ?_
      refine lv_astore_n (lv' := [(3, .ref q9), (0, .ref o), (1, .int p0), (2, .ref oq)]) hx hb dL_order_12 rfl hl (by decide) rfl (fun ls hl => ?_)
      refine lv_iconst (v := 1) hx hb dL_order_13 (by decide) ?_
      have hP9 : va_P (dC, dI) vwCl ((oq, .inl (cJ, 1, .inr (.inl (g)))) :: hp_X cI cZ cO o b ad v (hp_r_order v r n p0) n) H1 := by simp only [hp_r_order, if_neg hne]; exact hP1
      have hD9 : va_D A ((oq, .inl (cJ, 1, .inr (.inl (g)))) :: hp_X cI cZ cO o b ad v (hp_r_order v r n p0) n) := by simp only [hp_r_order, if_neg hne]; exact hD1
      exact vx_ret (W.iret (v := 1) hx hb hr (fun t9 ht9 hW9 => ⟨⟨1, (ad, g), rfl, ⟨hC.symm, fun q => absurd q hne⟩, hp_ht ht9 hP9, hD9⟩, hS1.F ht9⟩) hS1.2.2 dL_order_14)
    · cases Option.some.inj hk
      have hne : ¬ hp_c_sta r n p0 0 = 0 := fun q => absurd (hC.symm.trans q) (by decide)
      refine vx_catch (own := RL) (name := hp_E3) hown [⟨0, 9, 12, 13⟩] ⟨0, 9, 15, 17⟩ [] (htb.trans rfl) (fun z hz => by
          simp only [List.mem_cons, List.not_mem_nil, or_false] at hz
          subst hz
          · exact Or.inr ⟨by decide, hp_E1, hk_1, hnc.2.1⟩) (by decide) (by decide) hk_3 (va_Nw.use rfl hN.2.2.2.2.2.1) hce hcv hcl ?_
      refine W.eq (g2 := F0 m 15 ls [.ref q9]) rfl ?_
      refine lv_astore_n (lv' := [(3, .ref q9), (0, .ref o), (1, .int p0), (2, .ref oq)]) hx hb dL_order_15 rfl hl (by decide) rfl (fun ls hl => ?_)
      refine lv_iconst (v := 2) hx hb dL_order_16 (by decide) ?_
      have hP9 : va_P (dC, dI) vwCl ((oq, .inl (cJ, 1, .inr (.inl (g)))) :: hp_X cI cZ cO o b ad v (hp_r_order v r n p0) n) H1 := by simp only [hp_r_order, if_neg hne]; exact hP1
      have hD9 : va_D A ((oq, .inl (cJ, 1, .inr (.inl (g)))) :: hp_X cI cZ cO o b ad v (hp_r_order v r n p0) n) := by simp only [hp_r_order, if_neg hne]; exact hD1
      exact vx_ret (W.iret (v := 2) hx hb hr (fun t9 ht9 hW9 => ⟨⟨2, (ad, g), rfl, ⟨hC.symm, fun q => absurd q hne⟩, hp_ht ht9 hP9, hD9⟩, hS1.F ht9⟩) hS1.2.2 dL_order_17)
    · simp at hk
  · obtain ⟨hc, rfl⟩ := hw
    obtain ⟨hPx, hDx⟩ := hB
    obtain ⟨hP1, hD1⟩ := hp_reO hP hD hkk (hp_th ht hPx) hDx
    clear hP hD hPX hDX hPx hDx hkk ht
    refine lv_i2l hx hb dL_order_7 rfl ?_
    refine va_last (n := 1) (f := g) hx hb hK hP1 hD1 hS1 0 3 rfl rfl (i := 0) (x := (hp_a_order r n p0).toInt64) (by unfold vp_in; decide) dL_order_8 (fun H2 locs2 hP2 hD2 hS2 => ?_)
    rw [sb_cl0] at hP2 hD2
    replace hP2 : va_P (dC, dI) vwCl ((oq, .inl (cJ, 1, .inr (.inl (vp_updL g 0 ((hp_a_order r n p0).toInt64))))) :: hp_X cI cZ cO o b u v (hp_r_order v r n p0) n) H2 := hP2
    replace hD2 : va_D A ((oq, .inl (cJ, 1, .inr (.inl (vp_updL g 0 ((hp_a_order r n p0).toInt64))))) :: hp_X cI cZ cO o b u v (hp_r_order v r n p0) n) := hD2
    refine lv_goto (tgt := 18) hx hb dL_order_9 (by decide) ?_
    refine lv_iconst (v := 0) hx hb dL_order_18 (by decide) ?_
    exact vx_ret (W.iret (v := 0) hx hb hr (fun t9 ht9 hW9 => ⟨⟨0, (u, vp_updL g 0 ((hp_a_order r n p0).toInt64)), rfl, ⟨hc.symm, fun _ => hp_o0 rfl⟩, hp_ht ht9 hP2, hD2⟩, hS2.F ht9⟩) hS2.2.2 dL_order_19)
set_option maxHeartbeats 400000 in
set_option maxRecDepth 100000 in
theorem c_L_cancel (l : Launch) (hl0 : l.stackTraces = false) (dC : Nat → ClassId) (dI : Nat → Nat → Nat) (cI cZ cO cJ : ClassId) (o : Nat) (b ad : Nat → Nat) (v : Nat → Int32) (r : Nat → Nat → Int32) (n oq : Nat) (g : Nat → Int64) (sz : Nat) (p0 : Int32) (hinv : hp_inv v r n) : vx_Met l yL_cancel wsL_cancel ({ frames := 7, cells := 1, slots := 6, locals := 104 }) (va_Pc [.ref o, .int p0, .ref oq] (hp_prL (dC, dI) cI cZ cO cJ ((oq, .inl (cJ, 1, .inr (.inl (g)))) :: hp_X cI cZ cO o b ad v r n) sz)) (va_Qi (S := (Nat → Nat) × (Nat → Int64)) (fun x9 u9 => x9 = hp_c_sta r n p0 1 ∧ (hp_c_sta r n p0 1 = 0 → u9.2 0 = (hp_a_cancel v r n p0).toInt64)) (fun u9 t9 => va_P (dC, dI) vwCl ((oq, .inl (cJ, 1, .inr (.inl (u9.2)))) :: hp_X cI cZ cO o b u9.1 v (hp_r_cancel r n p0) n) t9.heap ∧ va_D (va_A ((oq, .inl (cJ, 1, .inr (.inl (g)))) :: hp_X cI cZ cO o b ad v r n) sz) ((oq, .inl (cJ, 1, .inr (.inl (u9.2)))) :: hp_X cI cZ cO o b u9.1 v (hp_r_cancel r n p0) n)) (va_A ((oq, .inl (cJ, 1, .inr (.inl (g)))) :: hp_X cI cZ cO o b ad v r n) sz)) (vx_X (S := Unit) (fun _ => False) (fun _ _ _ => True) (va_A ((oq, .inl (cJ, 1, .inr (.inl (g)))) :: hp_X cI cZ cO o b ad v r n) sz)) 1 6 (va_A ((oq, .inl (cJ, 1, .inr (.inl (g)))) :: hp_X cI cZ cO o b ad v r n) sz) := by
  refine vx_ofWH (cc := cL_cancel) (maxL := 4) (ret := some .int) (hh := [(0, 9, 12, 13), (0, 9, 15, 17)]) (by decide) rfl ?_
  intro p e s m args below meth c s₁ B hml hv
  obtain ⟨rfl, ⟨hsz, hP, hK, hD0, hN, hstr, hZu, hZn⟩, hnc⟩ := hv
  have hx := B.exec
  have hb := B.bytes
  have hr := B.returns
  have hts := atoms_spec (ws := wsL_cancel) B.pre
  have hown : s.vm.findClass RL = some m.cls := findClass_of_methodNamed B.named
  have hlocks := B.notSynchronized
  have htb := vx_table (x := yL_cancel) B (hts _ List.mem_cons_self)
  subst hsz
  have hD := hD0.self (sz := s.heap.size)
  generalize hAe : va_A ((oq, .inl (cJ, 1, .inr (.inl (g)))) :: hp_X cI cZ cO o b ad v r n) s.heap.size = A at hD hZu hZn ⊢
  have hA : ∀ q : Nat, s.heap.size ≤ q → A q := fun q h => by rw [← hAe]; exact Or.inr h
  have hS : va_S A s.heap s.heap [] := va_S.rf
  have hPX := (hp_Pc.mp hP).2
  have hDX := hp_Dt hD
  have hk_1 := hts (.classLink RL 13 hp_E1) (by decide +kernel)
  have hk_3 := hts (.classLink RL 17 hp_E3) (by decide +kernel)
  have hl := lv_entry ([.ref o, .int p0, .ref oq]) (n := 4) (Nat.le_of_ble_eq_true rfl)
  rw [lg_entry_eq]
  generalize (lg_sl ([.ref o, .int p0, .ref oq]) ++ List.replicate (4 - (lg_sl ([.ref o, .int p0, .ref oq])).length) Slot.unset).toArray = ls at hl ⊢
  have hl : lv_has ls 4 [(0, .ref o), (1, .int p0), (2, .ref oq)] := hl
  refine lv_aload_n hx hb dL_cancel_0 rfl (lv_at hl 2 rfl) ?_
  refine lv_iconst (v := 0) hx hb dL_cancel_1 (by decide) ?_
  refine lv_aload_n hx hb dL_cancel_2 rfl (lv_at hl 0 rfl) ?_
  refine lv_iload_n hx hb dL_cancel_3 rfl (lv_at hl 1 rfl) ?_
  have hFc := hp_free hDX hS hA
  refine vx_calli (vx_runV (As := [.int p0]) (rest := [.int 0, .ref oq]) ⟨hx, hb, hml, hown, hts⟩ (c_X1_cancel l hl0 dC dI cI cZ cO cJ o b ad v r n s.heap.size p0 hinv) (cwV 1 hts gL_cancel_X1_cancel rfl rfl rfl (by decide +kernel) ⟨(Nat.le_of_ble_eq_true rfl), (Nat.le_of_ble_eq_true rfl)⟩) ⟨hp_fbT, va_recv hK hPX (ci := 1) (q0 := 0) rfl hp_X_o, fun U hU hW => ⟨rfl, hp_toT hPX hK hDX hN hstr hZu hZn hS hA hU hW⟩⟩ rfl rfl hl.1 rfl (lv_room (Nat.le_of_ble_eq_true rfl)) dL_cancel_4 ⟨(Nat.le_of_ble_eq_true rfl), (Nat.le_of_ble_eq_true rfl)⟩) hS (fun q _ h => hFc q h) hFc (fun q _ h => hFc q h) (fun E ce q9 u t H1 locs1 ht _ _ hBX _ hkk hS1 hce hcv hcl => ?_) (fun r9 u t H1 locs1 ht _ hw hB _ hkk hS1 => ?_)
  · obtain ⟨⟨k, hk, hC⟩, hPx⟩ := hBX
    obtain ⟨hP1, hD1⟩ := hp_reO hP hD hkk (hp_th ht hPx) hDX.self
    clear hP hD hPX hDX hPx hkk ht
    rcases k with _ | _ | k
    · cases Option.some.inj hk
      have hne : ¬ hp_c_sta r n p0 1 = 0 := fun q => absurd (hC.symm.trans q) (by decide)
      refine vx_catch (own := RL) (name := hp_E1) hown [] ⟨0, 9, 12, 13⟩ [⟨0, 9, 15, 17⟩] (htb.trans rfl) (fun z hz => nomatch hz) (by decide) (by decide) hk_1 (va_Nw.use rfl hN.2.2.2.1) hce hcv hcl ?_
      refine W.eq (g2 := F0 m 12 ls [.ref q9]) rfl ?_
      refine lv_astore_n (lv' := [(3, .ref q9), (0, .ref o), (1, .int p0), (2, .ref oq)]) hx hb dL_cancel_12 rfl hl (by decide) rfl (fun ls hl => ?_)
      refine lv_iconst (v := 1) hx hb dL_cancel_13 (by decide) ?_
      have hP9 : va_P (dC, dI) vwCl ((oq, .inl (cJ, 1, .inr (.inl (g)))) :: hp_X cI cZ cO o b ad v (hp_r_cancel r n p0) n) H1 := by simp only [hp_r_cancel, if_neg hne]; exact hP1
      have hD9 : va_D A ((oq, .inl (cJ, 1, .inr (.inl (g)))) :: hp_X cI cZ cO o b ad v (hp_r_cancel r n p0) n) := by simp only [hp_r_cancel, if_neg hne]; exact hD1
      exact vx_ret (W.iret (v := 1) hx hb hr (fun t9 ht9 hW9 => ⟨⟨1, (ad, g), rfl, ⟨hC.symm, fun q => absurd q hne⟩, hp_ht ht9 hP9, hD9⟩, hS1.F ht9⟩) hS1.2.2 dL_cancel_14)
    · cases Option.some.inj hk
      have hne : ¬ hp_c_sta r n p0 1 = 0 := fun q => absurd (hC.symm.trans q) (by decide)
      refine vx_catch (own := RL) (name := hp_E3) hown [⟨0, 9, 12, 13⟩] ⟨0, 9, 15, 17⟩ [] (htb.trans rfl) (fun z hz => by
          simp only [List.mem_cons, List.not_mem_nil, or_false] at hz
          subst hz
          · exact Or.inr ⟨by decide, hp_E1, hk_1, hnc.2.1⟩) (by decide) (by decide) hk_3 (va_Nw.use rfl hN.2.2.2.2.2.1) hce hcv hcl ?_
      refine W.eq (g2 := F0 m 15 ls [.ref q9]) rfl ?_
      refine lv_astore_n (lv' := [(3, .ref q9), (0, .ref o), (1, .int p0), (2, .ref oq)]) hx hb dL_cancel_15 rfl hl (by decide) rfl (fun ls hl => ?_)
      refine lv_iconst (v := 2) hx hb dL_cancel_16 (by decide) ?_
      have hP9 : va_P (dC, dI) vwCl ((oq, .inl (cJ, 1, .inr (.inl (g)))) :: hp_X cI cZ cO o b ad v (hp_r_cancel r n p0) n) H1 := by simp only [hp_r_cancel, if_neg hne]; exact hP1
      have hD9 : va_D A ((oq, .inl (cJ, 1, .inr (.inl (g)))) :: hp_X cI cZ cO o b ad v (hp_r_cancel r n p0) n) := by simp only [hp_r_cancel, if_neg hne]; exact hD1
      exact vx_ret (W.iret (v := 2) hx hb hr (fun t9 ht9 hW9 => ⟨⟨2, (ad, g), rfl, ⟨hC.symm, fun q => absurd q hne⟩, hp_ht ht9 hP9, hD9⟩, hS1.F ht9⟩) hS1.2.2 dL_cancel_17)
    · simp at hk
  · obtain ⟨hc, rfl⟩ := hw
    obtain ⟨hPx, hDx⟩ := hB
    obtain ⟨hP1, hD1⟩ := hp_reO hP hD hkk (hp_th ht hPx) hDx
    clear hP hD hPX hDX hPx hDx hkk ht
    refine lv_i2l hx hb dL_cancel_7 rfl ?_
    refine va_last (n := 1) (f := g) hx hb hK hP1 hD1 hS1 0 3 rfl rfl (i := 0) (x := (hp_a_cancel v r n p0).toInt64) (by unfold vp_in; decide) dL_cancel_8 (fun H2 locs2 hP2 hD2 hS2 => ?_)
    rw [sb_cl0] at hP2 hD2
    replace hP2 : va_P (dC, dI) vwCl ((oq, .inl (cJ, 1, .inr (.inl (vp_updL g 0 ((hp_a_cancel v r n p0).toInt64))))) :: hp_X cI cZ cO o b u v (hp_r_cancel r n p0) n) H2 := hP2
    replace hD2 : va_D A ((oq, .inl (cJ, 1, .inr (.inl (vp_updL g 0 ((hp_a_cancel v r n p0).toInt64))))) :: hp_X cI cZ cO o b u v (hp_r_cancel r n p0) n) := hD2
    refine lv_goto (tgt := 18) hx hb dL_cancel_9 (by decide) ?_
    refine lv_iconst (v := 0) hx hb dL_cancel_18 (by decide) ?_
    exact vx_ret (W.iret (v := 0) hx hb hr (fun t9 ht9 hW9 => ⟨⟨0, (u, vp_updL g 0 ((hp_a_cancel v r n p0).toInt64)), rfl, ⟨hc.symm, fun _ => hp_o0 rfl⟩, hp_ht ht9 hP2, hD2⟩, hS2.F ht9⟩) hS2.2.2 dL_cancel_19)
set_option maxHeartbeats 400000 in
set_option maxRecDepth 100000 in
theorem c_L_build (l : Launch) (hl0 : l.stackTraces = false) (dC : Nat → ClassId) (dI : Nat → Nat → Nat) (cI cZ cO cJ : ClassId) (o : Nat) (b ad : Nat → Nat) (v : Nat → Int32) (r : Nat → Nat → Int32) (n oq : Nat) (g : Nat → Int64) (sz : Nat) (p0 : Int32) (hinv : hp_inv v r n) : vx_Met l yL_build wsL_build ({ frames := 7, cells := 1, slots := 6, locals := 137 }) (va_Pc [.ref o, .int p0, .ref oq] (hp_prL (dC, dI) cI cZ cO cJ ((oq, .inl (cJ, 1, .inr (.inl (g)))) :: hp_X cI cZ cO o b ad v r n) sz)) (va_Qi (S := (Nat → Nat) × (Nat → Int64)) (fun x9 u9 => x9 = hp_c_sta r n p0 2 ∧ (hp_c_sta r n p0 2 = 0 → u9.2 0 = (hp_b (hp_b_build r n p0)).toInt64)) (fun u9 t9 => va_P (dC, dI) vwCl ((oq, .inl (cJ, 1, .inr (.inl (u9.2)))) :: hp_X cI cZ cO o b u9.1 v (hp_r_build r n p0) n) t9.heap ∧ va_D (va_A ((oq, .inl (cJ, 1, .inr (.inl (g)))) :: hp_X cI cZ cO o b ad v r n) sz) ((oq, .inl (cJ, 1, .inr (.inl (u9.2)))) :: hp_X cI cZ cO o b u9.1 v (hp_r_build r n p0) n)) (va_A ((oq, .inl (cJ, 1, .inr (.inl (g)))) :: hp_X cI cZ cO o b ad v r n) sz)) (vx_X (S := Unit) (fun _ => False) (fun _ _ _ => True) (va_A ((oq, .inl (cJ, 1, .inr (.inl (g)))) :: hp_X cI cZ cO o b ad v r n) sz)) 1 6 (va_A ((oq, .inl (cJ, 1, .inr (.inl (g)))) :: hp_X cI cZ cO o b ad v r n) sz) := by
  refine vx_ofWH (cc := cL_build) (maxL := 4) (ret := some .int) (hh := [(0, 16, 19, 13), (0, 16, 22, 17)]) (by decide) rfl ?_
  intro p e s m args below meth c s₁ B hml hv
  obtain ⟨rfl, ⟨hsz, hP, hK, hD0, hN, hstr, hZu, hZn⟩, hnc⟩ := hv
  have hx := B.exec
  have hb := B.bytes
  have hr := B.returns
  have hts := atoms_spec (ws := wsL_build) B.pre
  have hown : s.vm.findClass RL = some m.cls := findClass_of_methodNamed B.named
  have hlocks := B.notSynchronized
  have htb := vx_table (x := yL_build) B (hts _ List.mem_cons_self)
  subst hsz
  have hD := hD0.self (sz := s.heap.size)
  generalize hAe : va_A ((oq, .inl (cJ, 1, .inr (.inl (g)))) :: hp_X cI cZ cO o b ad v r n) s.heap.size = A at hD hZu hZn ⊢
  have hA : ∀ q : Nat, s.heap.size ≤ q → A q := fun q h => by rw [← hAe]; exact Or.inr h
  have hS : va_S A s.heap s.heap [] := va_S.rf
  have hPX := (hp_Pc.mp hP).2
  have hDX := hp_Dt hD
  have hk_1 := hts (.classLink RL 13 hp_E1) (by decide +kernel)
  have hk_3 := hts (.classLink RL 17 hp_E3) (by decide +kernel)
  have hl := lv_entry ([.ref o, .int p0, .ref oq]) (n := 4) (Nat.le_of_ble_eq_true rfl)
  rw [lg_entry_eq]
  generalize (lg_sl ([.ref o, .int p0, .ref oq]) ++ List.replicate (4 - (lg_sl ([.ref o, .int p0, .ref oq])).length) Slot.unset).toArray = ls at hl ⊢
  have hl : lv_has ls 4 [(0, .ref o), (1, .int p0), (2, .ref oq)] := hl
  refine lv_aload_n hx hb dL_build_0 rfl (lv_at hl 2 rfl) ?_
  refine lv_iconst (v := 0) hx hb dL_build_1 (by decide) ?_
  refine lv_aload_n hx hb dL_build_2 rfl (lv_at hl 0 rfl) ?_
  refine lv_iload_n hx hb dL_build_3 rfl (lv_at hl 1 rfl) ?_
  have hFc := hp_free hDX hS hA
  refine vx_calli (vx_runV (As := [.int p0]) (rest := [.int 0, .ref oq]) ⟨hx, hb, hml, hown, hts⟩ (c_X1_build l hl0 dC dI cI cZ cO cJ o b ad v r n s.heap.size p0 hinv) (cwV 1 hts gL_build_X1_build rfl rfl rfl (by decide +kernel) ⟨(Nat.le_of_ble_eq_true rfl), (Nat.le_of_ble_eq_true rfl)⟩) ⟨hp_fbT, va_recv hK hPX (ci := 1) (q0 := 0) rfl hp_X_o, fun U hU hW => ⟨rfl, hp_toT hPX hK hDX hN hstr hZu hZn hS hA hU hW⟩⟩ rfl rfl hl.1 rfl (lv_room (Nat.le_of_ble_eq_true rfl)) dL_build_4 ⟨(Nat.le_of_ble_eq_true rfl), (Nat.le_of_ble_eq_true rfl)⟩) hS (fun q _ h => hFc q h) hFc (fun q _ h => hFc q h) (fun E ce q9 u t H1 locs1 ht _ _ hBX _ hkk hS1 hce hcv hcl => ?_) (fun r9 u t H1 locs1 ht _ hw hB _ hkk hS1 => ?_)
  · obtain ⟨⟨k, hk, hC⟩, hPx⟩ := hBX
    obtain ⟨hP1, hD1⟩ := hp_reO hP hD hkk (hp_th ht hPx) hDX.self
    clear hP hD hPX hDX hPx hkk ht
    rcases k with _ | _ | k
    · cases Option.some.inj hk
      have hne : ¬ hp_c_sta r n p0 2 = 0 := fun q => absurd (hC.symm.trans q) (by decide)
      refine vx_catch (own := RL) (name := hp_E1) hown [] ⟨0, 16, 19, 13⟩ [⟨0, 16, 22, 17⟩] (htb.trans rfl) (fun z hz => nomatch hz) (by decide) (by decide) hk_1 (va_Nw.use rfl hN.2.2.2.1) hce hcv hcl ?_
      refine W.eq (g2 := F0 m 19 ls [.ref q9]) rfl ?_
      refine lv_astore_n (lv' := [(3, .ref q9), (0, .ref o), (1, .int p0), (2, .ref oq)]) hx hb dL_build_19 rfl hl (by decide) rfl (fun ls hl => ?_)
      refine lv_iconst (v := 1) hx hb dL_build_20 (by decide) ?_
      have hb9 : ¬ hp_b_build r n p0 = true := fun q => hne (of_decide_eq_true (hp_andl q))
      have hP9 : va_P (dC, dI) vwCl ((oq, .inl (cJ, 1, .inr (.inl (g)))) :: hp_X cI cZ cO o b ad v (hp_r_build r n p0) n) H1 := by simp only [hp_r_build, if_neg hb9]; exact hP1
      have hD9 : va_D A ((oq, .inl (cJ, 1, .inr (.inl (g)))) :: hp_X cI cZ cO o b ad v (hp_r_build r n p0) n) := by simp only [hp_r_build, if_neg hb9]; exact hD1
      exact vx_ret (W.iret (v := 1) hx hb hr (fun t9 ht9 hW9 => ⟨⟨1, (ad, g), rfl, ⟨hC.symm, fun q => absurd q hne⟩, hp_ht ht9 hP9, hD9⟩, hS1.F ht9⟩) hS1.2.2 dL_build_21)
    · cases Option.some.inj hk
      have hne : ¬ hp_c_sta r n p0 2 = 0 := fun q => absurd (hC.symm.trans q) (by decide)
      refine vx_catch (own := RL) (name := hp_E3) hown [⟨0, 16, 19, 13⟩] ⟨0, 16, 22, 17⟩ [] (htb.trans rfl) (fun z hz => by
          simp only [List.mem_cons, List.not_mem_nil, or_false] at hz
          subst hz
          · exact Or.inr ⟨by decide, hp_E1, hk_1, hnc.2.1⟩) (by decide) (by decide) hk_3 (va_Nw.use rfl hN.2.2.2.2.2.1) hce hcv hcl ?_
      refine W.eq (g2 := F0 m 22 ls [.ref q9]) rfl ?_
      refine lv_astore_n (lv' := [(3, .ref q9), (0, .ref o), (1, .int p0), (2, .ref oq)]) hx hb dL_build_22 rfl hl (by decide) rfl (fun ls hl => ?_)
      refine lv_iconst (v := 2) hx hb dL_build_23 (by decide) ?_
      have hb9 : ¬ hp_b_build r n p0 = true := fun q => hne (of_decide_eq_true (hp_andl q))
      have hP9 : va_P (dC, dI) vwCl ((oq, .inl (cJ, 1, .inr (.inl (g)))) :: hp_X cI cZ cO o b ad v (hp_r_build r n p0) n) H1 := by simp only [hp_r_build, if_neg hb9]; exact hP1
      have hD9 : va_D A ((oq, .inl (cJ, 1, .inr (.inl (g)))) :: hp_X cI cZ cO o b ad v (hp_r_build r n p0) n) := by simp only [hp_r_build, if_neg hb9]; exact hD1
      exact vx_ret (W.iret (v := 2) hx hb hr (fun t9 ht9 hW9 => ⟨⟨2, (ad, g), rfl, ⟨hC.symm, fun q => absurd q hne⟩, hp_ht ht9 hP9, hD9⟩, hS1.F ht9⟩) hS1.2.2 dL_build_24)
    · simp at hk
  · obtain ⟨hc, rfl⟩ := hw
    obtain ⟨hPx, hDx⟩ := hB
    obtain ⟨hP1, hD1⟩ := hp_reO hP hD hkk (hp_th ht hPx) hDx
    clear hP hD hPX hDX hPx hDx hkk ht
    refine lv_if_eq (tgt := 14) hx hb dL_build_7 (by decide) (fun q => ?_) (fun q => ?_)
    · refine lv_lconst (v := 0) hx hb dL_build_14 (by decide) ?_
      refine va_last (n := 1) (f := g) hx hb hK hP1 hD1 hS1 0 3 rfl rfl (i := 0) (x := 0) (by unfold vp_in; decide) dL_build_15 (fun H2 locs2 hP2 hD2 hS2 => ?_)
      rw [sb_cl0] at hP2 hD2
      replace hP2 : va_P (dC, dI) vwCl ((oq, .inl (cJ, 1, .inr (.inl (vp_updL g 0 0)))) :: hp_X cI cZ cO o b u v (hp_r_build r n p0) n) H2 := hP2
      replace hD2 : va_D A ((oq, .inl (cJ, 1, .inr (.inl (vp_updL g 0 0)))) :: hp_X cI cZ cO o b u v (hp_r_build r n p0) n) := hD2
      refine lv_goto (tgt := 25) hx hb dL_build_16 (by decide) ?_
      refine lv_iconst (v := 0) hx hb dL_build_25 (by decide) ?_
      exact vx_ret (W.iret (v := 0) hx hb hr (fun t9 ht9 hW9 => ⟨⟨0, (u, vp_updL g 0 0), rfl, ⟨hc.symm, fun _ => hp_o0 (by rw [q]; rfl)⟩, hp_ht ht9 hP2, hD2⟩, hS2.F ht9⟩) hS2.2.2 dL_build_26)
    · refine lv_lconst (v := 1) hx hb dL_build_10 (by decide) ?_
      refine lv_goto (tgt := 15) hx hb dL_build_11 (by decide) ?_
      refine va_last (n := 1) (f := g) hx hb hK hP1 hD1 hS1 0 3 rfl rfl (i := 0) (x := 1) (by unfold vp_in; decide) dL_build_15 (fun H2 locs2 hP2 hD2 hS2 => ?_)
      rw [sb_cl0] at hP2 hD2
      replace hP2 : va_P (dC, dI) vwCl ((oq, .inl (cJ, 1, .inr (.inl (vp_updL g 0 1)))) :: hp_X cI cZ cO o b u v (hp_r_build r n p0) n) H2 := hP2
      replace hD2 : va_D A ((oq, .inl (cJ, 1, .inr (.inl (vp_updL g 0 1)))) :: hp_X cI cZ cO o b u v (hp_r_build r n p0) n) := hD2
      refine lv_goto (tgt := 25) hx hb dL_build_16 (by decide) ?_
      refine lv_iconst (v := 0) hx hb dL_build_25 (by decide) ?_
      exact vx_ret (W.iret (v := 0) hx hb hr (fun t9 ht9 hW9 => ⟨⟨0, (u, vp_updL g 0 1), rfl, ⟨hc.symm, fun _ => hp_o0 (by rw [hp_bt (hp_bn q)]; rfl)⟩, hp_ht ht9 hP2, hD2⟩, hS2.F ht9⟩) hS2.2.2 dL_build_26)
set_option maxHeartbeats 400000 in
set_option maxRecDepth 100000 in
theorem c_L_inspect (l : Launch) (hl0 : l.stackTraces = false) (dC : Nat → ClassId) (dI : Nat → Nat → Nat) (cI cZ cO cJ : ClassId) (o : Nat) (b ad : Nat → Nat) (v : Nat → Int32) (r : Nat → Nat → Int32) (n oq : Nat) (g : Nat → Int64) (sz : Nat) (p0 : Int32) (hinv : hp_inv v r n) : vx_Met l yL_inspect wsL_inspect ({ frames := 7, cells := 1, slots := 6, locals := 160 }) (va_Pc [.ref o, .int p0, .ref oq] (hp_prL (dC, dI) cI cZ cO cJ ((oq, .inl (cJ, 1, .inr (.inl (g)))) :: hp_X cI cZ cO o b ad v r n) sz)) (va_Qi (S := (Nat → Nat) × (Nat → Int64)) (fun x9 u9 => x9 = hp_c_inspect r p0 ∧ (hp_c_inspect r p0 = 0 → u9.2 0 = (hp_b (hp_b_inspect r n p0)).toInt64)) (fun u9 t9 => va_P (dC, dI) vwCl ((oq, .inl (cJ, 1, .inr (.inl (u9.2)))) :: hp_X cI cZ cO o b u9.1 v (hp_r_inspect r n p0) n) t9.heap ∧ va_D (va_A ((oq, .inl (cJ, 1, .inr (.inl (g)))) :: hp_X cI cZ cO o b ad v r n) sz) ((oq, .inl (cJ, 1, .inr (.inl (u9.2)))) :: hp_X cI cZ cO o b u9.1 v (hp_r_inspect r n p0) n)) (va_A ((oq, .inl (cJ, 1, .inr (.inl (g)))) :: hp_X cI cZ cO o b ad v r n) sz)) (vx_X (S := Unit) (fun _ => False) (fun _ _ _ => True) (va_A ((oq, .inl (cJ, 1, .inr (.inl (g)))) :: hp_X cI cZ cO o b ad v r n) sz)) 1 6 (va_A ((oq, .inl (cJ, 1, .inr (.inl (g)))) :: hp_X cI cZ cO o b ad v r n) sz) := by
  refine vx_ofWH (cc := cL_inspect) (maxL := 4) (ret := some .int) (hh := [(0, 16, 19, 13), (0, 16, 22, 17)]) (by decide) rfl ?_
  intro p e s m args below meth c s₁ B hml hv
  obtain ⟨rfl, ⟨hsz, hP, hK, hD0, hN, hstr, hZu, hZn⟩, hnc⟩ := hv
  have hx := B.exec
  have hb := B.bytes
  have hr := B.returns
  have hts := atoms_spec (ws := wsL_inspect) B.pre
  have hown : s.vm.findClass RL = some m.cls := findClass_of_methodNamed B.named
  have hlocks := B.notSynchronized
  have htb := vx_table (x := yL_inspect) B (hts _ List.mem_cons_self)
  subst hsz
  have hD := hD0.self (sz := s.heap.size)
  generalize hAe : va_A ((oq, .inl (cJ, 1, .inr (.inl (g)))) :: hp_X cI cZ cO o b ad v r n) s.heap.size = A at hD hZu hZn ⊢
  have hA : ∀ q : Nat, s.heap.size ≤ q → A q := fun q h => by rw [← hAe]; exact Or.inr h
  have hS : va_S A s.heap s.heap [] := va_S.rf
  have hPX := (hp_Pc.mp hP).2
  have hDX := hp_Dt hD
  have hk_1 := hts (.classLink RL 13 hp_E1) (by decide +kernel)
  have hk_3 := hts (.classLink RL 17 hp_E3) (by decide +kernel)
  have hl := lv_entry ([.ref o, .int p0, .ref oq]) (n := 4) (Nat.le_of_ble_eq_true rfl)
  rw [lg_entry_eq]
  generalize (lg_sl ([.ref o, .int p0, .ref oq]) ++ List.replicate (4 - (lg_sl ([.ref o, .int p0, .ref oq])).length) Slot.unset).toArray = ls at hl ⊢
  have hl : lv_has ls 4 [(0, .ref o), (1, .int p0), (2, .ref oq)] := hl
  refine lv_aload_n hx hb dL_inspect_0 rfl (lv_at hl 2 rfl) ?_
  refine lv_iconst (v := 0) hx hb dL_inspect_1 (by decide) ?_
  refine lv_aload_n hx hb dL_inspect_2 rfl (lv_at hl 0 rfl) ?_
  refine lv_iload_n hx hb dL_inspect_3 rfl (lv_at hl 1 rfl) ?_
  have hFc := hp_free hDX hS hA
  refine vx_calli (vx_runV (As := [.int p0]) (rest := [.int 0, .ref oq]) ⟨hx, hb, hml, hown, hts⟩ (c_X1_inspect l hl0 dC dI cI cZ cO cJ o b ad v r n s.heap.size p0 hinv) (cwV 1 hts gL_inspect_X1_inspect rfl rfl rfl (by decide +kernel) ⟨(Nat.le_of_ble_eq_true rfl), (Nat.le_of_ble_eq_true rfl)⟩) ⟨hp_fbT, va_recv hK hPX (ci := 1) (q0 := 0) rfl hp_X_o, fun U hU hW => ⟨rfl, hp_toT hPX hK hDX hN hstr hZu hZn hS hA hU hW⟩⟩ rfl rfl hl.1 rfl (lv_room (Nat.le_of_ble_eq_true rfl)) dL_inspect_4 ⟨(Nat.le_of_ble_eq_true rfl), (Nat.le_of_ble_eq_true rfl)⟩) hS (fun q _ h => hFc q h) hFc (fun q _ h => hFc q h) (fun E ce q9 u t H1 locs1 ht _ _ hBX _ hkk hS1 hce hcv hcl => ?_) (fun r9 u t H1 locs1 ht _ hw hB _ hkk hS1 => ?_)
  · obtain ⟨⟨k, hk, hC⟩, hPx⟩ := hBX
    obtain ⟨hP1, hD1⟩ := hp_reO hP hD hkk (hp_th ht hPx) hDX.self
    clear hP hD hPX hDX hPx hkk ht
    rcases k with _ | _ | k
    · cases Option.some.inj hk
      have hne : ¬ hp_c_inspect r p0 = 0 := fun q => absurd (hC.symm.trans q) (by decide)
      refine vx_catch (own := RL) (name := hp_E1) hown [] ⟨0, 16, 19, 13⟩ [⟨0, 16, 22, 17⟩] (htb.trans rfl) (fun z hz => nomatch hz) (by decide) (by decide) hk_1 (va_Nw.use rfl hN.2.2.2.1) hce hcv hcl ?_
      refine W.eq (g2 := F0 m 19 ls [.ref q9]) rfl ?_
      refine lv_astore_n (lv' := [(3, .ref q9), (0, .ref o), (1, .int p0), (2, .ref oq)]) hx hb dL_inspect_19 rfl hl (by decide) rfl (fun ls hl => ?_)
      refine lv_iconst (v := 1) hx hb dL_inspect_20 (by decide) ?_
      have hP9 : va_P (dC, dI) vwCl ((oq, .inl (cJ, 1, .inr (.inl (g)))) :: hp_X cI cZ cO o b ad v (hp_r_inspect r n p0) n) H1 := by simp only [hp_r_inspect, if_neg hne]; exact hP1
      have hD9 : va_D A ((oq, .inl (cJ, 1, .inr (.inl (g)))) :: hp_X cI cZ cO o b ad v (hp_r_inspect r n p0) n) := by simp only [hp_r_inspect, if_neg hne]; exact hD1
      exact vx_ret (W.iret (v := 1) hx hb hr (fun t9 ht9 hW9 => ⟨⟨1, (ad, g), rfl, ⟨hC.symm, fun q => absurd q hne⟩, hp_ht ht9 hP9, hD9⟩, hS1.F ht9⟩) hS1.2.2 dL_inspect_21)
    · cases Option.some.inj hk
      have hne : ¬ hp_c_inspect r p0 = 0 := fun q => absurd (hC.symm.trans q) (by decide)
      refine vx_catch (own := RL) (name := hp_E3) hown [⟨0, 16, 19, 13⟩] ⟨0, 16, 22, 17⟩ [] (htb.trans rfl) (fun z hz => by
          simp only [List.mem_cons, List.not_mem_nil, or_false] at hz
          subst hz
          · exact Or.inr ⟨by decide, hp_E1, hk_1, hnc.2.1⟩) (by decide) (by decide) hk_3 (va_Nw.use rfl hN.2.2.2.2.2.1) hce hcv hcl ?_
      refine W.eq (g2 := F0 m 22 ls [.ref q9]) rfl ?_
      refine lv_astore_n (lv' := [(3, .ref q9), (0, .ref o), (1, .int p0), (2, .ref oq)]) hx hb dL_inspect_22 rfl hl (by decide) rfl (fun ls hl => ?_)
      refine lv_iconst (v := 2) hx hb dL_inspect_23 (by decide) ?_
      have hP9 : va_P (dC, dI) vwCl ((oq, .inl (cJ, 1, .inr (.inl (g)))) :: hp_X cI cZ cO o b ad v (hp_r_inspect r n p0) n) H1 := by simp only [hp_r_inspect, if_neg hne]; exact hP1
      have hD9 : va_D A ((oq, .inl (cJ, 1, .inr (.inl (g)))) :: hp_X cI cZ cO o b ad v (hp_r_inspect r n p0) n) := by simp only [hp_r_inspect, if_neg hne]; exact hD1
      exact vx_ret (W.iret (v := 2) hx hb hr (fun t9 ht9 hW9 => ⟨⟨2, (ad, g), rfl, ⟨hC.symm, fun q => absurd q hne⟩, hp_ht ht9 hP9, hD9⟩, hS1.F ht9⟩) hS1.2.2 dL_inspect_24)
    · simp at hk
  · obtain ⟨hc, rfl⟩ := hw
    obtain ⟨hPx, hDx⟩ := hB
    obtain ⟨hP1, hD1⟩ := hp_reO hP hD hkk (hp_th ht hPx) hDx
    clear hP hD hPX hDX hPx hDx hkk ht
    refine lv_if_eq (tgt := 14) hx hb dL_inspect_7 (by decide) (fun q => ?_) (fun q => ?_)
    · refine lv_lconst (v := 0) hx hb dL_inspect_14 (by decide) ?_
      refine va_last (n := 1) (f := g) hx hb hK hP1 hD1 hS1 0 3 rfl rfl (i := 0) (x := 0) (by unfold vp_in; decide) dL_inspect_15 (fun H2 locs2 hP2 hD2 hS2 => ?_)
      rw [sb_cl0] at hP2 hD2
      replace hP2 : va_P (dC, dI) vwCl ((oq, .inl (cJ, 1, .inr (.inl (vp_updL g 0 0)))) :: hp_X cI cZ cO o b u v (hp_r_inspect r n p0) n) H2 := hP2
      replace hD2 : va_D A ((oq, .inl (cJ, 1, .inr (.inl (vp_updL g 0 0)))) :: hp_X cI cZ cO o b u v (hp_r_inspect r n p0) n) := hD2
      refine lv_goto (tgt := 25) hx hb dL_inspect_16 (by decide) ?_
      refine lv_iconst (v := 0) hx hb dL_inspect_25 (by decide) ?_
      exact vx_ret (W.iret (v := 0) hx hb hr (fun t9 ht9 hW9 => ⟨⟨0, (u, vp_updL g 0 0), rfl, ⟨hc.symm, fun _ => hp_o0 (by rw [q]; rfl)⟩, hp_ht ht9 hP2, hD2⟩, hS2.F ht9⟩) hS2.2.2 dL_inspect_26)
    · refine lv_lconst (v := 1) hx hb dL_inspect_10 (by decide) ?_
      refine lv_goto (tgt := 15) hx hb dL_inspect_11 (by decide) ?_
      refine va_last (n := 1) (f := g) hx hb hK hP1 hD1 hS1 0 3 rfl rfl (i := 0) (x := 1) (by unfold vp_in; decide) dL_inspect_15 (fun H2 locs2 hP2 hD2 hS2 => ?_)
      rw [sb_cl0] at hP2 hD2
      replace hP2 : va_P (dC, dI) vwCl ((oq, .inl (cJ, 1, .inr (.inl (vp_updL g 0 1)))) :: hp_X cI cZ cO o b u v (hp_r_inspect r n p0) n) H2 := hP2
      replace hD2 : va_D A ((oq, .inl (cJ, 1, .inr (.inl (vp_updL g 0 1)))) :: hp_X cI cZ cO o b u v (hp_r_inspect r n p0) n) := hD2
      refine lv_goto (tgt := 25) hx hb dL_inspect_16 (by decide) ?_
      refine lv_iconst (v := 0) hx hb dL_inspect_25 (by decide) ?_
      exact vx_ret (W.iret (v := 0) hx hb hr (fun t9 ht9 hW9 => ⟨⟨0, (u, vp_updL g 0 1), rfl, ⟨hc.symm, fun _ => hp_o0 (by rw [hp_bt (hp_bn q)]; rfl)⟩, hp_ht ht9 hP2, hD2⟩, hS2.F ht9⟩) hS2.2.2 dL_inspect_26)
