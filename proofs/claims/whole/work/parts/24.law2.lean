/-! the law's own methods, once more -/
set_option maxHeartbeats 400000 in
set_option maxRecDepth 100000 in
theorem c_L_pass (l : Launch) (hl0 : l.stackTraces = false) (dC : Nat → ClassId) (dI : Nat → Nat → Nat) (cI cZ cO cJ : ClassId) (o : Nat) (b ad : Nat → Nat) (v : Nat → Int32) (r : Nat → Nat → Int32) (n oq : Nat) (g : Nat → Int64) (sz : Nat) (p0 : Int32) (hinv : hp_inv v r n) : vx_Met l yL_pass wsL_pass ({ frames := 7, cells := 1, slots := 6, locals := 105 }) (va_Pc [.ref o, .int p0, .ref oq] (hp_prL (dC, dI) cI cZ cO cJ ((oq, .inl (cJ, 1, .inr (.inl (g)))) :: hp_X cI cZ cO o b ad v r n) sz)) (va_Qi (S := (Nat → Nat) × (Nat → Int64)) (fun x9 u9 => x9 = hp_c_pass v p0 ∧ (hp_c_pass v p0 = 0 → u9.2 0 = (hp_a_pass v p0).toInt64)) (fun u9 t9 => va_P (dC, dI) vwCl ((oq, .inl (cJ, 1, .inr (.inl (u9.2)))) :: hp_X cI cZ cO o b u9.1 (hp_v_pass v p0) (hp_r_pass v r n p0) n) t9.heap ∧ va_D (va_A ((oq, .inl (cJ, 1, .inr (.inl (g)))) :: hp_X cI cZ cO o b ad v r n) sz) ((oq, .inl (cJ, 1, .inr (.inl (u9.2)))) :: hp_X cI cZ cO o b u9.1 (hp_v_pass v p0) (hp_r_pass v r n p0) n)) (va_A ((oq, .inl (cJ, 1, .inr (.inl (g)))) :: hp_X cI cZ cO o b ad v r n) sz)) (vx_X (S := Unit) (fun _ => False) (fun _ _ _ => True) (va_A ((oq, .inl (cJ, 1, .inr (.inl (g)))) :: hp_X cI cZ cO o b ad v r n) sz)) 1 6 (va_A ((oq, .inl (cJ, 1, .inr (.inl (g)))) :: hp_X cI cZ cO o b ad v r n) sz) := by
  refine vx_ofWH (cc := cL_pass) (maxL := 4) (ret := some .int) (hh := [(0, 9, 12, 15), (0, 9, 15, 17)]) (by decide) rfl ?_
  intro p e s m args below meth c s₁ B hml hv
  obtain ⟨rfl, ⟨hsz, hP, hK, hD0, hN, hstr, hZu, hZn⟩, hnc⟩ := hv
  have hx := B.exec
  have hb := B.bytes
  have hr := B.returns
  have hts := atoms_spec (ws := wsL_pass) B.pre
  have hown : s.vm.findClass RL = some m.cls := findClass_of_methodNamed B.named
  have hlocks := B.notSynchronized
  have htb := vx_table (x := yL_pass) B (hts _ List.mem_cons_self)
  subst hsz
  have hD := hD0.self (sz := s.heap.size)
  generalize hAe : va_A ((oq, .inl (cJ, 1, .inr (.inl (g)))) :: hp_X cI cZ cO o b ad v r n) s.heap.size = A at hD hZu hZn ⊢
  have hA : ∀ q : Nat, s.heap.size ≤ q → A q := fun q h => by rw [← hAe]; exact Or.inr h
  have hS : va_S A s.heap s.heap [] := va_S.rf
  have hPX := (hp_Pc.mp hP).2
  have hDX := hp_Dt hD
  have hk_2 := hts (.classLink RL 15 hp_E2) (by decide +kernel)
  have hk_3 := hts (.classLink RL 17 hp_E3) (by decide +kernel)
  have hl := lv_entry ([.ref o, .int p0, .ref oq]) (n := 4) (Nat.le_of_ble_eq_true rfl)
  rw [lg_entry_eq]
  generalize (lg_sl ([.ref o, .int p0, .ref oq]) ++ List.replicate (4 - (lg_sl ([.ref o, .int p0, .ref oq])).length) Slot.unset).toArray = ls at hl ⊢
  have hl : lv_has ls 4 [(0, .ref o), (1, .int p0), (2, .ref oq)] := hl
  refine lv_aload_n hx hb dL_pass_0 rfl (lv_at hl 2 rfl) ?_
  refine lv_iconst (v := 0) hx hb dL_pass_1 (by decide) ?_
  refine lv_aload_n hx hb dL_pass_2 rfl (lv_at hl 0 rfl) ?_
  refine lv_iload_n hx hb dL_pass_3 rfl (lv_at hl 1 rfl) ?_
  have hFc := hp_free hDX hS hA
  refine vx_calli (vx_runV (As := [.int p0]) (rest := [.int 0, .ref oq]) ⟨hx, hb, hml, hown, hts⟩ (c_X1_pass l hl0 dC dI cI cZ cO cJ o b ad v r n s.heap.size p0 hinv) (cwV 1 hts gL_pass_X1_pass rfl rfl rfl (by decide +kernel) ⟨(Nat.le_of_ble_eq_true rfl), (Nat.le_of_ble_eq_true rfl)⟩) ⟨hp_fbT, va_recv hK hPX (ci := 1) (q0 := 0) rfl hp_X_o, fun U hU hW => ⟨rfl, hp_toT hPX hK hDX hN hstr hZu hZn hS hA hU hW⟩⟩ rfl rfl hl.1 rfl (lv_room (Nat.le_of_ble_eq_true rfl)) dL_pass_4 ⟨(Nat.le_of_ble_eq_true rfl), (Nat.le_of_ble_eq_true rfl)⟩) hS (fun q _ h => hFc q h) hFc (fun q _ h => hFc q h) (fun E ce q9 u t H1 locs1 ht _ _ hBX _ hkk hS1 hce hcv hcl => ?_) (fun r9 u t H1 locs1 ht _ hw hB _ hkk hS1 => ?_)
  · obtain ⟨⟨k, hk, hC⟩, hPx⟩ := hBX
    obtain ⟨hP1, hD1⟩ := hp_reO hP hD hkk (hp_th ht hPx) hDX.self
    clear hP hD hPX hDX hPx hkk ht
    rcases k with _ | _ | k
    · cases Option.some.inj hk
      have hne : ¬ hp_c_pass v p0 = 0 := fun q => absurd (hC.symm.trans q) (by decide)
      refine vx_catch (own := RL) (name := hp_E2) hown [] ⟨0, 9, 12, 15⟩ [⟨0, 9, 15, 17⟩] (htb.trans rfl) (fun z hz => nomatch hz) (by decide) (by decide) hk_2 (va_Nw.use rfl hN.2.2.2.2.1) hce hcv hcl ?_
      refine W.eq (g2 := F0 m 12 ls [.ref q9]) rfl ?_
      refine lv_astore_n (lv' := [(3, .ref q9), (0, .ref o), (1, .int p0), (2, .ref oq)]) hx hb dL_pass_12 rfl hl (by decide) rfl (fun ls hl => ?_)
      refine lv_iconst (v := 1) hx hb dL_pass_13 (by decide) ?_
      have hP9 : va_P (dC, dI) vwCl ((oq, .inl (cJ, 1, .inr (.inl (g)))) :: hp_X cI cZ cO o b ad (hp_v_pass v p0) (hp_r_pass v r n p0) n) H1 := by simp only [hp_v_pass, hp_r_pass, if_neg hne]; exact hP1
      have hD9 : va_D A ((oq, .inl (cJ, 1, .inr (.inl (g)))) :: hp_X cI cZ cO o b ad (hp_v_pass v p0) (hp_r_pass v r n p0) n) := by simp only [hp_v_pass, hp_r_pass, if_neg hne]; exact hD1
      exact vx_ret (W.iret (v := 1) hx hb hr (fun t9 ht9 hW9 => ⟨⟨1, (ad, g), rfl, ⟨hC.symm, fun q => absurd q hne⟩, hp_ht ht9 hP9, hD9⟩, hS1.F ht9⟩) hS1.2.2 dL_pass_14)
    · cases Option.some.inj hk
      have hne : ¬ hp_c_pass v p0 = 0 := fun q => absurd (hC.symm.trans q) (by decide)
      refine vx_catch (own := RL) (name := hp_E3) hown [⟨0, 9, 12, 15⟩] ⟨0, 9, 15, 17⟩ [] (htb.trans rfl) (fun z hz => by
          simp only [List.mem_cons, List.not_mem_nil, or_false] at hz
          subst hz
          · exact Or.inr ⟨by decide, hp_E2, hk_2, hnc.2.2⟩) (by decide) (by decide) hk_3 (va_Nw.use rfl hN.2.2.2.2.2.1) hce hcv hcl ?_
      refine W.eq (g2 := F0 m 15 ls [.ref q9]) rfl ?_
      refine lv_astore_n (lv' := [(3, .ref q9), (0, .ref o), (1, .int p0), (2, .ref oq)]) hx hb dL_pass_15 rfl hl (by decide) rfl (fun ls hl => ?_)
      refine lv_iconst (v := 2) hx hb dL_pass_16 (by decide) ?_
      have hP9 : va_P (dC, dI) vwCl ((oq, .inl (cJ, 1, .inr (.inl (g)))) :: hp_X cI cZ cO o b ad (hp_v_pass v p0) (hp_r_pass v r n p0) n) H1 := by simp only [hp_v_pass, hp_r_pass, if_neg hne]; exact hP1
      have hD9 : va_D A ((oq, .inl (cJ, 1, .inr (.inl (g)))) :: hp_X cI cZ cO o b ad (hp_v_pass v p0) (hp_r_pass v r n p0) n) := by simp only [hp_v_pass, hp_r_pass, if_neg hne]; exact hD1
      exact vx_ret (W.iret (v := 2) hx hb hr (fun t9 ht9 hW9 => ⟨⟨2, (ad, g), rfl, ⟨hC.symm, fun q => absurd q hne⟩, hp_ht ht9 hP9, hD9⟩, hS1.F ht9⟩) hS1.2.2 dL_pass_17)
    · simp at hk
  · obtain ⟨hc, rfl⟩ := hw
    obtain ⟨hPx, hDx⟩ := hB
    obtain ⟨hP1, hD1⟩ := hp_reO hP hD hkk (hp_th ht hPx) hDx
    clear hP hD hPX hDX hPx hDx hkk ht
    refine lv_i2l hx hb dL_pass_7 rfl ?_
    refine va_last (n := 1) (f := g) hx hb hK hP1 hD1 hS1 0 3 rfl rfl (i := 0) (x := (hp_a_pass v p0).toInt64) (by unfold vp_in; decide) dL_pass_8 (fun H2 locs2 hP2 hD2 hS2 => ?_)
    rw [sb_cl0] at hP2 hD2
    replace hP2 : va_P (dC, dI) vwCl ((oq, .inl (cJ, 1, .inr (.inl (vp_updL g 0 ((hp_a_pass v p0).toInt64))))) :: hp_X cI cZ cO o b u (hp_v_pass v p0) (hp_r_pass v r n p0) n) H2 := hP2
    replace hD2 : va_D A ((oq, .inl (cJ, 1, .inr (.inl (vp_updL g 0 ((hp_a_pass v p0).toInt64))))) :: hp_X cI cZ cO o b u (hp_v_pass v p0) (hp_r_pass v r n p0) n) := hD2
    refine lv_goto (tgt := 18) hx hb dL_pass_9 (by decide) ?_
    refine lv_iconst (v := 0) hx hb dL_pass_18 (by decide) ?_
    exact vx_ret (W.iret (v := 0) hx hb hr (fun t9 ht9 hW9 => ⟨⟨0, (u, vp_updL g 0 ((hp_a_pass v p0).toInt64)), rfl, ⟨hc.symm, fun _ => hp_o0 rfl⟩, hp_ht ht9 hP2, hD2⟩, hS2.F ht9⟩) hS2.2.2 dL_pass_19)
set_option maxHeartbeats 400000 in
set_option maxRecDepth 100000 in
theorem c_L_elementOf (l : Launch) (hl0 : l.stackTraces = false) (dC : Nat → ClassId) (dI : Nat → Nat → Nat) (cI cZ cO cJ : ClassId) (o : Nat) (b ad : Nat → Nat) (v : Nat → Int32) (r : Nat → Nat → Int32) (n oq : Nat) (g : Nat → Int64) (sz : Nat) (p0 p1 : Int32) (hinv : hp_inv v r n) : vx_Met l yL_elementOf wsL_elementOf ({ frames := 7, cells := 1, slots := 6, locals := 105 }) (va_Pc [.ref o, .int p0, .int p1, .ref oq] (hp_prL (dC, dI) cI cZ cO cJ ((oq, .inl (cJ, 1, .inr (.inl (g)))) :: hp_X cI cZ cO o b ad v r n) sz)) (va_Qi (S := (Nat → Nat) × (Nat → Int64)) (fun x9 u9 => x9 = hp_c_elementOf n p0 p1 ∧ (hp_c_elementOf n p0 p1 = 0 → u9.2 0 = (hp_a_elementOf r n p0 p1).toInt64)) (fun u9 t9 => va_P (dC, dI) vwCl ((oq, .inl (cJ, 1, .inr (.inl (u9.2)))) :: hp_X cI cZ cO o b u9.1 v r n) t9.heap ∧ va_D (va_A ((oq, .inl (cJ, 1, .inr (.inl (g)))) :: hp_X cI cZ cO o b ad v r n) sz) ((oq, .inl (cJ, 1, .inr (.inl (u9.2)))) :: hp_X cI cZ cO o b u9.1 v r n)) (va_A ((oq, .inl (cJ, 1, .inr (.inl (g)))) :: hp_X cI cZ cO o b ad v r n) sz)) (vx_X (S := Unit) (fun _ => False) (fun _ _ _ => True) (va_A ((oq, .inl (cJ, 1, .inr (.inl (g)))) :: hp_X cI cZ cO o b ad v r n) sz)) 1 6 (va_A ((oq, .inl (cJ, 1, .inr (.inl (g)))) :: hp_X cI cZ cO o b ad v r n) sz) := by
  refine vx_ofWH (cc := cL_elementOf) (maxL := 5) (ret := some .int) (hh := [(0, 10, 13, 13), (0, 10, 17, 15)]) (by decide) rfl ?_
  intro p e s m args below meth c s₁ B hml hv
  obtain ⟨rfl, ⟨hsz, hP, hK, hD0, hN, hstr, hZu, hZn⟩, hnc⟩ := hv
  have hx := B.exec
  have hb := B.bytes
  have hr := B.returns
  have hts := atoms_spec (ws := wsL_elementOf) B.pre
  have hown : s.vm.findClass RL = some m.cls := findClass_of_methodNamed B.named
  have hlocks := B.notSynchronized
  have htb := vx_table (x := yL_elementOf) B (hts _ List.mem_cons_self)
  subst hsz
  have hD := hD0.self (sz := s.heap.size)
  generalize hAe : va_A ((oq, .inl (cJ, 1, .inr (.inl (g)))) :: hp_X cI cZ cO o b ad v r n) s.heap.size = A at hD hZu hZn ⊢
  have hA : ∀ q : Nat, s.heap.size ≤ q → A q := fun q h => by rw [← hAe]; exact Or.inr h
  have hS : va_S A s.heap s.heap [] := va_S.rf
  have hPX := (hp_Pc.mp hP).2
  have hDX := hp_Dt hD
  have hk_1 := hts (.classLink RL 13 hp_E1) (by decide +kernel)
  have hk_2 := hts (.classLink RL 15 hp_E2) (by decide +kernel)
  have hl := lv_entry ([.ref o, .int p0, .int p1, .ref oq]) (n := 5) (Nat.le_of_ble_eq_true rfl)
  rw [lg_entry_eq]
  generalize (lg_sl ([.ref o, .int p0, .int p1, .ref oq]) ++ List.replicate (5 - (lg_sl ([.ref o, .int p0, .int p1, .ref oq])).length) Slot.unset).toArray = ls at hl ⊢
  have hl : lv_has ls 5 [(0, .ref o), (1, .int p0), (2, .int p1), (3, .ref oq)] := hl
  refine lv_aload_n hx hb dL_elementOf_0 rfl (lv_at hl 3 rfl) ?_
  refine lv_iconst (v := 0) hx hb dL_elementOf_1 (by decide) ?_
  refine lv_aload_n hx hb dL_elementOf_2 rfl (lv_at hl 0 rfl) ?_
  refine lv_iload_n hx hb dL_elementOf_3 rfl (lv_at hl 1 rfl) ?_
  refine lv_iload_n hx hb dL_elementOf_4 rfl (lv_at hl 2 rfl) ?_
  have hFc := hp_free hDX hS hA
  refine vx_calli (vx_runV (As := [.int p0, .int p1]) (rest := [.int 0, .ref oq]) ⟨hx, hb, hml, hown, hts⟩ (c_X1_elementOf l hl0 dC dI cI cZ cO cJ o b ad v r n s.heap.size p0 p1 hinv) (cwV 2 hts gL_elementOf_X1_elementOf rfl rfl rfl (by decide +kernel) ⟨(Nat.le_of_ble_eq_true rfl), (Nat.le_of_ble_eq_true rfl)⟩) ⟨hp_fbT, va_recv hK hPX (ci := 1) (q0 := 0) rfl hp_X_o, fun U hU hW => ⟨rfl, hp_toT hPX hK hDX hN hstr hZu hZn hS hA hU hW⟩⟩ rfl rfl hl.1 rfl (lv_room (Nat.le_of_ble_eq_true rfl)) dL_elementOf_5 ⟨(Nat.le_of_ble_eq_true rfl), (Nat.le_of_ble_eq_true rfl)⟩) hS (fun q _ h => hFc q h) hFc (fun q _ h => hFc q h) (fun E ce q9 u t H1 locs1 ht _ _ hBX _ hkk hS1 hce hcv hcl => ?_) (fun r9 u t H1 locs1 ht _ hw hB _ hkk hS1 => ?_)
  · obtain ⟨⟨k, hk, hC⟩, hPx⟩ := hBX
    obtain ⟨hP1, hD1⟩ := hp_reO hP hD hkk (hp_th ht hPx) hDX.self
    clear hP hD hPX hDX hPx hkk ht
    rcases k with _ | _ | k
    · cases Option.some.inj hk
      have hne : ¬ hp_c_elementOf n p0 p1 = 0 := fun q => absurd (hC.symm.trans q) (by decide)
      refine vx_catch (own := RL) (name := hp_E1) hown [] ⟨0, 10, 13, 13⟩ [⟨0, 10, 17, 15⟩] (htb.trans rfl) (fun z hz => nomatch hz) (by decide) (by decide) hk_1 (va_Nw.use rfl hN.2.2.2.1) hce hcv hcl ?_
      refine W.eq (g2 := F0 m 13 ls [.ref q9]) rfl ?_
      refine lv_astore (lv' := [(4, .ref q9), (0, .ref o), (1, .int p0), (2, .int p1), (3, .ref oq)]) hx hb dL_elementOf_13 hl (by decide) rfl (fun ls hl => ?_)
      refine lv_iconst (v := 1) hx hb dL_elementOf_15 (by decide) ?_
      have hP9 : va_P (dC, dI) vwCl ((oq, .inl (cJ, 1, .inr (.inl (g)))) :: hp_X cI cZ cO o b ad v r n) H1 := by exact hP1
      have hD9 : va_D A ((oq, .inl (cJ, 1, .inr (.inl (g)))) :: hp_X cI cZ cO o b ad v r n) := by exact hD1
      exact vx_ret (W.iret (v := 1) hx hb hr (fun t9 ht9 hW9 => ⟨⟨1, (ad, g), rfl, ⟨hC.symm, fun q => absurd q hne⟩, hp_ht ht9 hP9, hD9⟩, hS1.F ht9⟩) hS1.2.2 dL_elementOf_16)
    · cases Option.some.inj hk
      have hne : ¬ hp_c_elementOf n p0 p1 = 0 := fun q => absurd (hC.symm.trans q) (by decide)
      refine vx_catch (own := RL) (name := hp_E2) hown [⟨0, 10, 13, 13⟩] ⟨0, 10, 17, 15⟩ [] (htb.trans rfl) (fun z hz => by
          simp only [List.mem_cons, List.not_mem_nil, or_false] at hz
          subst hz
          · exact Or.inr ⟨by decide, hp_E1, hk_1, hnc.1⟩) (by decide) (by decide) hk_2 (va_Nw.use rfl hN.2.2.2.2.1) hce hcv hcl ?_
      refine W.eq (g2 := F0 m 17 ls [.ref q9]) rfl ?_
      refine lv_astore (lv' := [(4, .ref q9), (0, .ref o), (1, .int p0), (2, .int p1), (3, .ref oq)]) hx hb dL_elementOf_17 hl (by decide) rfl (fun ls hl => ?_)
      refine lv_iconst (v := 2) hx hb dL_elementOf_19 (by decide) ?_
      have hP9 : va_P (dC, dI) vwCl ((oq, .inl (cJ, 1, .inr (.inl (g)))) :: hp_X cI cZ cO o b ad v r n) H1 := by exact hP1
      have hD9 : va_D A ((oq, .inl (cJ, 1, .inr (.inl (g)))) :: hp_X cI cZ cO o b ad v r n) := by exact hD1
      exact vx_ret (W.iret (v := 2) hx hb hr (fun t9 ht9 hW9 => ⟨⟨2, (ad, g), rfl, ⟨hC.symm, fun q => absurd q hne⟩, hp_ht ht9 hP9, hD9⟩, hS1.F ht9⟩) hS1.2.2 dL_elementOf_20)
    · simp at hk
  · obtain ⟨hc, rfl⟩ := hw
    obtain ⟨hPx, hDx⟩ := hB
    obtain ⟨hP1, hD1⟩ := hp_reO hP hD hkk (hp_th ht hPx) hDx
    clear hP hD hPX hDX hPx hDx hkk ht
    refine lv_i2l hx hb dL_elementOf_8 rfl ?_
    refine va_last (n := 1) (f := g) hx hb hK hP1 hD1 hS1 0 3 rfl rfl (i := 0) (x := (hp_a_elementOf r n p0 p1).toInt64) (by unfold vp_in; decide) dL_elementOf_9 (fun H2 locs2 hP2 hD2 hS2 => ?_)
    rw [sb_cl0] at hP2 hD2
    replace hP2 : va_P (dC, dI) vwCl ((oq, .inl (cJ, 1, .inr (.inl (vp_updL g 0 ((hp_a_elementOf r n p0 p1).toInt64))))) :: hp_X cI cZ cO o b u v r n) H2 := hP2
    replace hD2 : va_D A ((oq, .inl (cJ, 1, .inr (.inl (vp_updL g 0 ((hp_a_elementOf r n p0 p1).toInt64))))) :: hp_X cI cZ cO o b u v r n) := hD2
    refine lv_goto (tgt := 21) hx hb dL_elementOf_10 (by decide) ?_
    refine lv_iconst (v := 0) hx hb dL_elementOf_21 (by decide) ?_
    exact vx_ret (W.iret (v := 0) hx hb hr (fun t9 ht9 hW9 => ⟨⟨0, (u, vp_updL g 0 ((hp_a_elementOf r n p0 p1).toInt64)), rfl, ⟨hc.symm, fun _ => hp_o0 rfl⟩, hp_ht ht9 hP2, hD2⟩, hS2.F ht9⟩) hS2.2.2 dL_elementOf_22)
set_option maxHeartbeats 400000 in
set_option maxRecDepth 100000 in
theorem c_L_clash (l : Launch) (hl0 : l.stackTraces = false) (dC : Nat → ClassId) (dI : Nat → Nat → Nat) (cI cZ cO cJ : ClassId) (o : Nat) (b ad : Nat → Nat) (v : Nat → Int32) (r : Nat → Nat → Int32) (n oq : Nat) (g : Nat → Int64) (sz : Nat) (p0 p1 : Int32) (hinv : hp_inv v r n) : vx_Met l yL_clash wsL_clash ({ frames := 7, cells := 1, slots := 6, locals := 115 }) (va_Pc [.ref o, .int p0, .int p1, .ref oq] (hp_prL (dC, dI) cI cZ cO cJ ((oq, .inl (cJ, 1, .inr (.inl (g)))) :: hp_X cI cZ cO o b ad v r n) sz)) (va_Qi (S := (Nat → Nat) × (Nat → Int64)) (fun x9 u9 => x9 = hp_c_clash n p0 p1 ∧ (hp_c_clash n p0 p1 = 0 → u9.2 0 = (hp_b (hp_b_clash r n p0 p1)).toInt64)) (fun u9 t9 => va_P (dC, dI) vwCl ((oq, .inl (cJ, 1, .inr (.inl (u9.2)))) :: hp_X cI cZ cO o b u9.1 v r n) t9.heap ∧ va_D (va_A ((oq, .inl (cJ, 1, .inr (.inl (g)))) :: hp_X cI cZ cO o b ad v r n) sz) ((oq, .inl (cJ, 1, .inr (.inl (u9.2)))) :: hp_X cI cZ cO o b u9.1 v r n)) (va_A ((oq, .inl (cJ, 1, .inr (.inl (g)))) :: hp_X cI cZ cO o b ad v r n) sz)) (vx_X (S := Unit) (fun _ => False) (fun _ _ _ => True) (va_A ((oq, .inl (cJ, 1, .inr (.inl (g)))) :: hp_X cI cZ cO o b ad v r n) sz)) 1 6 (va_A ((oq, .inl (cJ, 1, .inr (.inl (g)))) :: hp_X cI cZ cO o b ad v r n) sz) := by
  refine vx_ofWH (cc := cL_clash) (maxL := 5) (ret := some .int) (hh := [(0, 17, 20, 13)]) (by decide) rfl ?_
  intro p e s m args below meth c s₁ B hml hv
  obtain ⟨rfl, ⟨hsz, hP, hK, hD0, hN, hstr, hZu, hZn⟩, hnc⟩ := hv
  have hx := B.exec
  have hb := B.bytes
  have hr := B.returns
  have hts := atoms_spec (ws := wsL_clash) B.pre
  have hown : s.vm.findClass RL = some m.cls := findClass_of_methodNamed B.named
  have hlocks := B.notSynchronized
  have htb := vx_table (x := yL_clash) B (hts _ List.mem_cons_self)
  subst hsz
  have hD := hD0.self (sz := s.heap.size)
  generalize hAe : va_A ((oq, .inl (cJ, 1, .inr (.inl (g)))) :: hp_X cI cZ cO o b ad v r n) s.heap.size = A at hD hZu hZn ⊢
  have hA : ∀ q : Nat, s.heap.size ≤ q → A q := fun q h => by rw [← hAe]; exact Or.inr h
  have hS : va_S A s.heap s.heap [] := va_S.rf
  have hPX := (hp_Pc.mp hP).2
  have hDX := hp_Dt hD
  have hk_1 := hts (.classLink RL 13 hp_E1) (by decide +kernel)
  have hl := lv_entry ([.ref o, .int p0, .int p1, .ref oq]) (n := 5) (Nat.le_of_ble_eq_true rfl)
  rw [lg_entry_eq]
  generalize (lg_sl ([.ref o, .int p0, .int p1, .ref oq]) ++ List.replicate (5 - (lg_sl ([.ref o, .int p0, .int p1, .ref oq])).length) Slot.unset).toArray = ls at hl ⊢
  have hl : lv_has ls 5 [(0, .ref o), (1, .int p0), (2, .int p1), (3, .ref oq)] := hl
  refine lv_aload_n hx hb dL_clash_0 rfl (lv_at hl 3 rfl) ?_
  refine lv_iconst (v := 0) hx hb dL_clash_1 (by decide) ?_
  refine lv_aload_n hx hb dL_clash_2 rfl (lv_at hl 0 rfl) ?_
  refine lv_iload_n hx hb dL_clash_3 rfl (lv_at hl 1 rfl) ?_
  refine lv_iload_n hx hb dL_clash_4 rfl (lv_at hl 2 rfl) ?_
  have hFc := hp_free hDX hS hA
  refine vx_calli (vx_runV (As := [.int p0, .int p1]) (rest := [.int 0, .ref oq]) ⟨hx, hb, hml, hown, hts⟩ (c_X1_clash l hl0 dC dI cI cZ cO cJ o b ad v r n s.heap.size p0 p1 hinv) (cwV 2 hts gL_clash_X1_clash rfl rfl rfl (by decide +kernel) ⟨(Nat.le_of_ble_eq_true rfl), (Nat.le_of_ble_eq_true rfl)⟩) ⟨hp_fbT, va_recv hK hPX (ci := 1) (q0 := 0) rfl hp_X_o, fun U hU hW => ⟨rfl, hp_toT hPX hK hDX hN hstr hZu hZn hS hA hU hW⟩⟩ rfl rfl hl.1 rfl (lv_room (Nat.le_of_ble_eq_true rfl)) dL_clash_5 ⟨(Nat.le_of_ble_eq_true rfl), (Nat.le_of_ble_eq_true rfl)⟩) hS (fun q _ h => hFc q h) hFc (fun q _ h => hFc q h) (fun E ce q9 u t H1 locs1 ht _ _ hBX _ hkk hS1 hce hcv hcl => ?_) (fun r9 u t H1 locs1 ht _ hw hB _ hkk hS1 => ?_)
  · obtain ⟨⟨k, hk, hC⟩, hPx⟩ := hBX
    obtain ⟨hP1, hD1⟩ := hp_reO hP hD hkk (hp_th ht hPx) hDX.self
    clear hP hD hPX hDX hPx hkk ht
    rcases k with _ | k
    · cases Option.some.inj hk
      have hne : ¬ hp_c_clash n p0 p1 = 0 := fun q => absurd (hC.symm.trans q) (by decide)
      refine vx_catch (own := RL) (name := hp_E1) hown [] ⟨0, 17, 20, 13⟩ [] (htb.trans rfl) (fun z hz => nomatch hz) (by decide) (by decide) hk_1 (va_Nw.use rfl hN.2.2.2.1) hce hcv hcl ?_
      refine W.eq (g2 := F0 m 20 ls [.ref q9]) rfl ?_
      refine lv_astore (lv' := [(4, .ref q9), (0, .ref o), (1, .int p0), (2, .int p1), (3, .ref oq)]) hx hb dL_clash_20 hl (by decide) rfl (fun ls hl => ?_)
      refine lv_iconst (v := 1) hx hb dL_clash_22 (by decide) ?_
      have hP9 : va_P (dC, dI) vwCl ((oq, .inl (cJ, 1, .inr (.inl (g)))) :: hp_X cI cZ cO o b ad v r n) H1 := by exact hP1
      have hD9 : va_D A ((oq, .inl (cJ, 1, .inr (.inl (g)))) :: hp_X cI cZ cO o b ad v r n) := by exact hD1
      exact vx_ret (W.iret (v := 1) hx hb hr (fun t9 ht9 hW9 => ⟨⟨1, (ad, g), rfl, ⟨hC.symm, fun q => absurd q hne⟩, hp_ht ht9 hP9, hD9⟩, hS1.F ht9⟩) hS1.2.2 dL_clash_23)
    · simp at hk
  · obtain ⟨hc, rfl⟩ := hw
    obtain ⟨hPx, hDx⟩ := hB
    obtain ⟨hP1, hD1⟩ := hp_reO hP hD hkk (hp_th ht hPx) hDx
    clear hP hD hPX hDX hPx hDx hkk ht
    refine lv_if_eq (tgt := 15) hx hb dL_clash_8 (by decide) (fun q => ?_) (fun q => ?_)
    · refine lv_lconst (v := 0) hx hb dL_clash_15 (by decide) ?_
      refine va_last (n := 1) (f := g) hx hb hK hP1 hD1 hS1 0 3 rfl rfl (i := 0) (x := 0) (by unfold vp_in; decide) dL_clash_16 (fun H2 locs2 hP2 hD2 hS2 => ?_)
      rw [sb_cl0] at hP2 hD2
      replace hP2 : va_P (dC, dI) vwCl ((oq, .inl (cJ, 1, .inr (.inl (vp_updL g 0 0)))) :: hp_X cI cZ cO o b u v r n) H2 := hP2
      replace hD2 : va_D A ((oq, .inl (cJ, 1, .inr (.inl (vp_updL g 0 0)))) :: hp_X cI cZ cO o b u v r n) := hD2
      refine lv_goto (tgt := 24) hx hb dL_clash_17 (by decide) ?_
      refine lv_iconst (v := 0) hx hb dL_clash_24 (by decide) ?_
      exact vx_ret (W.iret (v := 0) hx hb hr (fun t9 ht9 hW9 => ⟨⟨0, (u, vp_updL g 0 0), rfl, ⟨hc.symm, fun _ => hp_o0 (by rw [q]; rfl)⟩, hp_ht ht9 hP2, hD2⟩, hS2.F ht9⟩) hS2.2.2 dL_clash_25)
    · refine lv_lconst (v := 1) hx hb dL_clash_11 (by decide) ?_
      refine lv_goto (tgt := 16) hx hb dL_clash_12 (by decide) ?_
      refine va_last (n := 1) (f := g) hx hb hK hP1 hD1 hS1 0 3 rfl rfl (i := 0) (x := 1) (by unfold vp_in; decide) dL_clash_16 (fun H2 locs2 hP2 hD2 hS2 => ?_)
      rw [sb_cl0] at hP2 hD2
      replace hP2 : va_P (dC, dI) vwCl ((oq, .inl (cJ, 1, .inr (.inl (vp_updL g 0 1)))) :: hp_X cI cZ cO o b u v r n) H2 := hP2
      replace hD2 : va_D A ((oq, .inl (cJ, 1, .inr (.inl (vp_updL g 0 1)))) :: hp_X cI cZ cO o b u v r n) := hD2
      refine lv_goto (tgt := 24) hx hb dL_clash_17 (by decide) ?_
      refine lv_iconst (v := 0) hx hb dL_clash_24 (by decide) ?_
      exact vx_ret (W.iret (v := 0) hx hb hr (fun t9 ht9 hW9 => ⟨⟨0, (u, vp_updL g 0 1), rfl, ⟨hc.symm, fun _ => hp_o0 (by rw [hp_bt (hp_bn q)]; rfl)⟩, hp_ht ht9 hP2, hD2⟩, hS2.F ht9⟩) hS2.2.2 dL_clash_25)
set_option maxHeartbeats 400000 in
set_option maxRecDepth 100000 in
theorem c_L_clashes (l : Launch) (hl0 : l.stackTraces = false) (dC : Nat → ClassId) (dI : Nat → Nat → Nat) (cI cZ cO cJ : ClassId) (o : Nat) (b ad : Nat → Nat) (v : Nat → Int32) (r : Nat → Nat → Int32) (n oq : Nat) (g : Nat → Int64) (sz : Nat) (p0 : Int32) (hinv : hp_inv v r n) : vx_Met l yL_clashes wsL_clashes ({ frames := 7, cells := 1, slots := 6, locals := 139 }) (va_Pc [.ref o, .int p0, .ref oq] (hp_prL (dC, dI) cI cZ cO cJ ((oq, .inl (cJ, 1, .inr (.inl (g)))) :: hp_X cI cZ cO o b ad v r n) sz)) (va_Qi (S := (Nat → Nat) × (Nat → Int64)) (fun x9 u9 => x9 = hp_c_st p0 ∧ (hp_c_st p0 = 0 → u9.2 0 = (hp_a_clashes r n p0).toInt64)) (fun u9 t9 => va_P (dC, dI) vwCl ((oq, .inl (cJ, 1, .inr (.inl (u9.2)))) :: hp_X cI cZ cO o b u9.1 v r n) t9.heap ∧ va_D (va_A ((oq, .inl (cJ, 1, .inr (.inl (g)))) :: hp_X cI cZ cO o b ad v r n) sz) ((oq, .inl (cJ, 1, .inr (.inl (u9.2)))) :: hp_X cI cZ cO o b u9.1 v r n)) (va_A ((oq, .inl (cJ, 1, .inr (.inl (g)))) :: hp_X cI cZ cO o b ad v r n) sz)) (vx_X (S := Unit) (fun _ => False) (fun _ _ _ => True) (va_A ((oq, .inl (cJ, 1, .inr (.inl (g)))) :: hp_X cI cZ cO o b ad v r n) sz)) 1 6 (va_A ((oq, .inl (cJ, 1, .inr (.inl (g)))) :: hp_X cI cZ cO o b ad v r n) sz) := by
  refine vx_ofWH (cc := cL_clashes) (maxL := 4) (ret := some .int) (hh := [(0, 9, 12, 13)]) (by decide) rfl ?_
  intro p e s m args below meth c s₁ B hml hv
  obtain ⟨rfl, ⟨hsz, hP, hK, hD0, hN, hstr, hZu, hZn⟩, hnc⟩ := hv
  have hx := B.exec
  have hb := B.bytes
  have hr := B.returns
  have hts := atoms_spec (ws := wsL_clashes) B.pre
  have hown : s.vm.findClass RL = some m.cls := findClass_of_methodNamed B.named
  have hlocks := B.notSynchronized
  have htb := vx_table (x := yL_clashes) B (hts _ List.mem_cons_self)
  subst hsz
  have hD := hD0.self (sz := s.heap.size)
  generalize hAe : va_A ((oq, .inl (cJ, 1, .inr (.inl (g)))) :: hp_X cI cZ cO o b ad v r n) s.heap.size = A at hD hZu hZn ⊢
  have hA : ∀ q : Nat, s.heap.size ≤ q → A q := fun q h => by rw [← hAe]; exact Or.inr h
  have hS : va_S A s.heap s.heap [] := va_S.rf
  have hPX := (hp_Pc.mp hP).2
  have hDX := hp_Dt hD
  have hk_1 := hts (.classLink RL 13 hp_E1) (by decide +kernel)
  have hl := lv_entry ([.ref o, .int p0, .ref oq]) (n := 4) (Nat.le_of_ble_eq_true rfl)
  rw [lg_entry_eq]
  generalize (lg_sl ([.ref o, .int p0, .ref oq]) ++ List.replicate (4 - (lg_sl ([.ref o, .int p0, .ref oq])).length) Slot.unset).toArray = ls at hl ⊢
  have hl : lv_has ls 4 [(0, .ref o), (1, .int p0), (2, .ref oq)] := hl
  refine lv_aload_n hx hb dL_clashes_0 rfl (lv_at hl 2 rfl) ?_
  refine lv_iconst (v := 0) hx hb dL_clashes_1 (by decide) ?_
  refine lv_aload_n hx hb dL_clashes_2 rfl (lv_at hl 0 rfl) ?_
  refine lv_iload_n hx hb dL_clashes_3 rfl (lv_at hl 1 rfl) ?_
  have hFc := hp_free hDX hS hA
  refine vx_calli (vx_runV (As := [.int p0]) (rest := [.int 0, .ref oq]) ⟨hx, hb, hml, hown, hts⟩ (c_X1_clashes l hl0 dC dI cI cZ cO cJ o b ad v r n s.heap.size p0 hinv) (cwV 1 hts gL_clashes_X1_clashes rfl rfl rfl (by decide +kernel) ⟨(Nat.le_of_ble_eq_true rfl), (Nat.le_of_ble_eq_true rfl)⟩) ⟨hp_fbT, va_recv hK hPX (ci := 1) (q0 := 0) rfl hp_X_o, fun U hU hW => ⟨rfl, hp_toT hPX hK hDX hN hstr hZu hZn hS hA hU hW⟩⟩ rfl rfl hl.1 rfl (lv_room (Nat.le_of_ble_eq_true rfl)) dL_clashes_4 ⟨(Nat.le_of_ble_eq_true rfl), (Nat.le_of_ble_eq_true rfl)⟩) hS (fun q _ h => hFc q h) hFc (fun q _ h => hFc q h) (fun E ce q9 u t H1 locs1 ht _ _ hBX _ hkk hS1 hce hcv hcl => ?_) (fun r9 u t H1 locs1 ht _ hw hB _ hkk hS1 => ?_)
  · obtain ⟨⟨k, hk, hC⟩, hPx⟩ := hBX
    obtain ⟨hP1, hD1⟩ := hp_reO hP hD hkk (hp_th ht hPx) hDX.self
    clear hP hD hPX hDX hPx hkk ht
    rcases k with _ | k
    · cases Option.some.inj hk
      have hne : ¬ hp_c_st p0 = 0 := fun q => absurd (hC.symm.trans q) (by decide)
      refine vx_catch (own := RL) (name := hp_E1) hown [] ⟨0, 9, 12, 13⟩ [] (htb.trans rfl) (fun z hz => nomatch hz) (by decide) (by decide) hk_1 (va_Nw.use rfl hN.2.2.2.1) hce hcv hcl ?_
      refine W.eq (g2 := F0 m 12 ls [.ref q9]) rfl ?_
      refine lv_astore_n (lv' := [(3, .ref q9), (0, .ref o), (1, .int p0), (2, .ref oq)]) hx hb dL_clashes_12 rfl hl (by decide) rfl (fun ls hl => ?_)
      refine lv_iconst (v := 1) hx hb dL_clashes_13 (by decide) ?_
      have hP9 : va_P (dC, dI) vwCl ((oq, .inl (cJ, 1, .inr (.inl (g)))) :: hp_X cI cZ cO o b ad v r n) H1 := by exact hP1
      have hD9 : va_D A ((oq, .inl (cJ, 1, .inr (.inl (g)))) :: hp_X cI cZ cO o b ad v r n) := by exact hD1
      exact vx_ret (W.iret (v := 1) hx hb hr (fun t9 ht9 hW9 => ⟨⟨1, (ad, g), rfl, ⟨hC.symm, fun q => absurd q hne⟩, hp_ht ht9 hP9, hD9⟩, hS1.F ht9⟩) hS1.2.2 dL_clashes_14)
    · simp at hk
  · obtain ⟨hc, rfl⟩ := hw
    obtain ⟨hPx, hDx⟩ := hB
    obtain ⟨hP1, hD1⟩ := hp_reO hP hD hkk (hp_th ht hPx) hDx
    clear hP hD hPX hDX hPx hDx hkk ht
    refine lv_i2l hx hb dL_clashes_7 rfl ?_
    refine va_last (n := 1) (f := g) hx hb hK hP1 hD1 hS1 0 3 rfl rfl (i := 0) (x := (hp_a_clashes r n p0).toInt64) (by unfold vp_in; decide) dL_clashes_8 (fun H2 locs2 hP2 hD2 hS2 => ?_)
    rw [sb_cl0] at hP2 hD2
    replace hP2 : va_P (dC, dI) vwCl ((oq, .inl (cJ, 1, .inr (.inl (vp_updL g 0 ((hp_a_clashes r n p0).toInt64))))) :: hp_X cI cZ cO o b u v r n) H2 := hP2
    replace hD2 : va_D A ((oq, .inl (cJ, 1, .inr (.inl (vp_updL g 0 ((hp_a_clashes r n p0).toInt64))))) :: hp_X cI cZ cO o b u v r n) := hD2
    refine lv_goto (tgt := 15) hx hb dL_clashes_9 (by decide) ?_
    refine lv_iconst (v := 0) hx hb dL_clashes_15 (by decide) ?_
    exact vx_ret (W.iret (v := 0) hx hb hr (fun t9 ht9 hW9 => ⟨⟨0, (u, vp_updL g 0 ((hp_a_clashes r n p0).toInt64)), rfl, ⟨hc.symm, fun _ => hp_o0 rfl⟩, hp_ht ht9 hP2, hD2⟩, hS2.F ht9⟩) hS2.2.2 dL_clashes_16)
set_option maxHeartbeats 400000 in
set_option maxRecDepth 100000 in
theorem c_L_isStopped (l : Launch) (hl0 : l.stackTraces = false) (dC : Nat → ClassId) (dI : Nat → Nat → Nat) (cI cZ cO cJ : ClassId) (o : Nat) (b ad : Nat → Nat) (v : Nat → Int32) (r : Nat → Nat → Int32) (n oq : Nat) (g : Nat → Int64) (sz : Nat) (p0 p1 : Int32) (hinv : hp_inv v r n) : vx_Met l yL_isStopped wsL_isStopped ({ frames := 7, cells := 1, slots := 6, locals := 139 }) (va_Pc [.ref o, .int p0, .int p1, .ref oq] (hp_prL (dC, dI) cI cZ cO cJ ((oq, .inl (cJ, 1, .inr (.inl (g)))) :: hp_X cI cZ cO o b ad v r n) sz)) (va_Qi (S := (Nat → Nat) × (Nat → Int64)) (fun x9 u9 => x9 = hp_c_stopped p0 p1 ∧ (hp_c_stopped p0 p1 = 0 → u9.2 0 = (hp_b (hp_b_stopped r n p0 p1)).toInt64)) (fun u9 t9 => va_P (dC, dI) vwCl ((oq, .inl (cJ, 1, .inr (.inl (u9.2)))) :: hp_X cI cZ cO o b u9.1 v r n) t9.heap ∧ va_D (va_A ((oq, .inl (cJ, 1, .inr (.inl (g)))) :: hp_X cI cZ cO o b ad v r n) sz) ((oq, .inl (cJ, 1, .inr (.inl (u9.2)))) :: hp_X cI cZ cO o b u9.1 v r n)) (va_A ((oq, .inl (cJ, 1, .inr (.inl (g)))) :: hp_X cI cZ cO o b ad v r n) sz)) (vx_X (S := Unit) (fun _ => False) (fun _ _ _ => True) (va_A ((oq, .inl (cJ, 1, .inr (.inl (g)))) :: hp_X cI cZ cO o b ad v r n) sz)) 1 6 (va_A ((oq, .inl (cJ, 1, .inr (.inl (g)))) :: hp_X cI cZ cO o b ad v r n) sz) := by
  refine vx_ofWH (cc := cL_isStopped) (maxL := 5) (ret := some .int) (hh := [(0, 17, 20, 13)]) (by decide) rfl ?_
  intro p e s m args below meth c s₁ B hml hv
  obtain ⟨rfl, ⟨hsz, hP, hK, hD0, hN, hstr, hZu, hZn⟩, hnc⟩ := hv
  have hx := B.exec
  have hb := B.bytes
  have hr := B.returns
  have hts := atoms_spec (ws := wsL_isStopped) B.pre
  have hown : s.vm.findClass RL = some m.cls := findClass_of_methodNamed B.named
  have hlocks := B.notSynchronized
  have htb := vx_table (x := yL_isStopped) B (hts _ List.mem_cons_self)
  subst hsz
  have hD := hD0.self (sz := s.heap.size)
  generalize hAe : va_A ((oq, .inl (cJ, 1, .inr (.inl (g)))) :: hp_X cI cZ cO o b ad v r n) s.heap.size = A at hD hZu hZn ⊢
  have hA : ∀ q : Nat, s.heap.size ≤ q → A q := fun q h => by rw [← hAe]; exact Or.inr h
  have hS : va_S A s.heap s.heap [] := va_S.rf
  have hPX := (hp_Pc.mp hP).2
  have hDX := hp_Dt hD
  have hk_1 := hts (.classLink RL 13 hp_E1) (by decide +kernel)
  have hl := lv_entry ([.ref o, .int p0, .int p1, .ref oq]) (n := 5) (Nat.le_of_ble_eq_true rfl)
  rw [lg_entry_eq]
  generalize (lg_sl ([.ref o, .int p0, .int p1, .ref oq]) ++ List.replicate (5 - (lg_sl ([.ref o, .int p0, .int p1, .ref oq])).length) Slot.unset).toArray = ls at hl ⊢
  have hl : lv_has ls 5 [(0, .ref o), (1, .int p0), (2, .int p1), (3, .ref oq)] := hl
  refine lv_aload_n hx hb dL_isStopped_0 rfl (lv_at hl 3 rfl) ?_
  refine lv_iconst (v := 0) hx hb dL_isStopped_1 (by decide) ?_
  refine lv_aload_n hx hb dL_isStopped_2 rfl (lv_at hl 0 rfl) ?_
  refine lv_iload_n hx hb dL_isStopped_3 rfl (lv_at hl 1 rfl) ?_
  refine lv_iload_n hx hb dL_isStopped_4 rfl (lv_at hl 2 rfl) ?_
  have hFc := hp_free hDX hS hA
  refine vx_calli (vx_runV (As := [.int p0, .int p1]) (rest := [.int 0, .ref oq]) ⟨hx, hb, hml, hown, hts⟩ (c_X1_isStopped l hl0 dC dI cI cZ cO cJ o b ad v r n s.heap.size p0 p1 hinv) (cwV 2 hts gL_isStopped_X1_isStopped rfl rfl rfl (by decide +kernel) ⟨(Nat.le_of_ble_eq_true rfl), (Nat.le_of_ble_eq_true rfl)⟩) ⟨hp_fbT, va_recv hK hPX (ci := 1) (q0 := 0) rfl hp_X_o, fun U hU hW => ⟨rfl, hp_toT hPX hK hDX hN hstr hZu hZn hS hA hU hW⟩⟩ rfl rfl hl.1 rfl (lv_room (Nat.le_of_ble_eq_true rfl)) dL_isStopped_5 ⟨(Nat.le_of_ble_eq_true rfl), (Nat.le_of_ble_eq_true rfl)⟩) hS (fun q _ h => hFc q h) hFc (fun q _ h => hFc q h) (fun E ce q9 u t H1 locs1 ht _ _ hBX _ hkk hS1 hce hcv hcl => ?_) (fun r9 u t H1 locs1 ht _ hw hB _ hkk hS1 => ?_)
  · obtain ⟨⟨k, hk, hC⟩, hPx⟩ := hBX
    obtain ⟨hP1, hD1⟩ := hp_reO hP hD hkk (hp_th ht hPx) hDX.self
    clear hP hD hPX hDX hPx hkk ht
    rcases k with _ | k
    · cases Option.some.inj hk
      have hne : ¬ hp_c_stopped p0 p1 = 0 := fun q => absurd (hC.symm.trans q) (by decide)
      refine vx_catch (own := RL) (name := hp_E1) hown [] ⟨0, 17, 20, 13⟩ [] (htb.trans rfl) (fun z hz => nomatch hz) (by decide) (by decide) hk_1 (va_Nw.use rfl hN.2.2.2.1) hce hcv hcl ?_
      refine W.eq (g2 := F0 m 20 ls [.ref q9]) rfl ?_
      refine lv_astore (lv' := [(4, .ref q9), (0, .ref o), (1, .int p0), (2, .int p1), (3, .ref oq)]) hx hb dL_isStopped_20 hl (by decide) rfl (fun ls hl => ?_)
      refine lv_iconst (v := 1) hx hb dL_isStopped_22 (by decide) ?_
      have hP9 : va_P (dC, dI) vwCl ((oq, .inl (cJ, 1, .inr (.inl (g)))) :: hp_X cI cZ cO o b ad v r n) H1 := by exact hP1
      have hD9 : va_D A ((oq, .inl (cJ, 1, .inr (.inl (g)))) :: hp_X cI cZ cO o b ad v r n) := by exact hD1
      exact vx_ret (W.iret (v := 1) hx hb hr (fun t9 ht9 hW9 => ⟨⟨1, (ad, g), rfl, ⟨hC.symm, fun q => absurd q hne⟩, hp_ht ht9 hP9, hD9⟩, hS1.F ht9⟩) hS1.2.2 dL_isStopped_23)
    · simp at hk
  · obtain ⟨hc, rfl⟩ := hw
    obtain ⟨hPx, hDx⟩ := hB
    obtain ⟨hP1, hD1⟩ := hp_reO hP hD hkk (hp_th ht hPx) hDx
    clear hP hD hPX hDX hPx hDx hkk ht
    refine lv_if_eq (tgt := 15) hx hb dL_isStopped_8 (by decide) (fun q => ?_) (fun q => ?_)
    · refine lv_lconst (v := 0) hx hb dL_isStopped_15 (by decide) ?_
      refine va_last (n := 1) (f := g) hx hb hK hP1 hD1 hS1 0 3 rfl rfl (i := 0) (x := 0) (by unfold vp_in; decide) dL_isStopped_16 (fun H2 locs2 hP2 hD2 hS2 => ?_)
      rw [sb_cl0] at hP2 hD2
      replace hP2 : va_P (dC, dI) vwCl ((oq, .inl (cJ, 1, .inr (.inl (vp_updL g 0 0)))) :: hp_X cI cZ cO o b u v r n) H2 := hP2
      replace hD2 : va_D A ((oq, .inl (cJ, 1, .inr (.inl (vp_updL g 0 0)))) :: hp_X cI cZ cO o b u v r n) := hD2
      refine lv_goto (tgt := 24) hx hb dL_isStopped_17 (by decide) ?_
      refine lv_iconst (v := 0) hx hb dL_isStopped_24 (by decide) ?_
      exact vx_ret (W.iret (v := 0) hx hb hr (fun t9 ht9 hW9 => ⟨⟨0, (u, vp_updL g 0 0), rfl, ⟨hc.symm, fun _ => hp_o0 (by rw [q]; rfl)⟩, hp_ht ht9 hP2, hD2⟩, hS2.F ht9⟩) hS2.2.2 dL_isStopped_25)
    · refine lv_lconst (v := 1) hx hb dL_isStopped_11 (by decide) ?_
      refine lv_goto (tgt := 16) hx hb dL_isStopped_12 (by decide) ?_
      refine va_last (n := 1) (f := g) hx hb hK hP1 hD1 hS1 0 3 rfl rfl (i := 0) (x := 1) (by unfold vp_in; decide) dL_isStopped_16 (fun H2 locs2 hP2 hD2 hS2 => ?_)
      rw [sb_cl0] at hP2 hD2
      replace hP2 : va_P (dC, dI) vwCl ((oq, .inl (cJ, 1, .inr (.inl (vp_updL g 0 1)))) :: hp_X cI cZ cO o b u v r n) H2 := hP2
      replace hD2 : va_D A ((oq, .inl (cJ, 1, .inr (.inl (vp_updL g 0 1)))) :: hp_X cI cZ cO o b u v r n) := hD2
      refine lv_goto (tgt := 24) hx hb dL_isStopped_17 (by decide) ?_
      refine lv_iconst (v := 0) hx hb dL_isStopped_24 (by decide) ?_
      exact vx_ret (W.iret (v := 0) hx hb hr (fun t9 ht9 hW9 => ⟨⟨0, (u, vp_updL g 0 1), rfl, ⟨hc.symm, fun _ => hp_o0 (by rw [hp_bt (hp_bn q)]; rfl)⟩, hp_ht ht9 hP2, hD2⟩, hS2.F ht9⟩) hS2.2.2 dL_isStopped_25)
set_option maxHeartbeats 400000 in
set_option maxRecDepth 100000 in
theorem c_L_parts (l : Launch) (hl0 : l.stackTraces = false) (dC : Nat → ClassId) (dI : Nat → Nat → Nat) (cI cZ cO cJ : ClassId) (o : Nat) (b ad : Nat → Nat) (v : Nat → Int32) (r : Nat → Nat → Int32) (n oq : Nat) (g : Nat → Int64) (sz : Nat) (p0 : Int32) (hinv : hp_inv v r n) : vx_Met l yL_parts wsL_parts ({ frames := 7, cells := 1, slots := 6, locals := 111 }) (va_Pc [.ref o, .int p0, .ref oq] (hp_prL (dC, dI) cI cZ cO cJ ((oq, .inl (cJ, 1, .inr (.inl (g)))) :: hp_X cI cZ cO o b ad v r n) sz)) (va_Qi (S := (Nat → Nat) × (Nat → Int64)) (fun x9 u9 => x9 = hp_c_kd p0 ∧ (hp_c_kd p0 = 0 → u9.2 0 = (hp_a_parts r n p0 0).toInt64)) (fun u9 t9 => va_P (dC, dI) vwCl ((oq, .inl (cJ, 1, .inr (.inl (u9.2)))) :: hp_X cI cZ cO o b u9.1 v r n) t9.heap ∧ va_D (va_A ((oq, .inl (cJ, 1, .inr (.inl (g)))) :: hp_X cI cZ cO o b ad v r n) sz) ((oq, .inl (cJ, 1, .inr (.inl (u9.2)))) :: hp_X cI cZ cO o b u9.1 v r n)) (va_A ((oq, .inl (cJ, 1, .inr (.inl (g)))) :: hp_X cI cZ cO o b ad v r n) sz)) (vx_X (S := Unit) (fun _ => False) (fun _ _ _ => True) (va_A ((oq, .inl (cJ, 1, .inr (.inl (g)))) :: hp_X cI cZ cO o b ad v r n) sz)) 1 6 (va_A ((oq, .inl (cJ, 1, .inr (.inl (g)))) :: hp_X cI cZ cO o b ad v r n) sz) := by
  refine vx_ofWH (cc := cL_parts) (maxL := 4) (ret := some .int) (hh := [(0, 9, 12, 13)]) (by decide) rfl ?_
  intro p e s m args below meth c s₁ B hml hv
  obtain ⟨rfl, ⟨hsz, hP, hK, hD0, hN, hstr, hZu, hZn⟩, hnc⟩ := hv
  have hx := B.exec
  have hb := B.bytes
  have hr := B.returns
  have hts := atoms_spec (ws := wsL_parts) B.pre
  have hown : s.vm.findClass RL = some m.cls := findClass_of_methodNamed B.named
  have hlocks := B.notSynchronized
  have htb := vx_table (x := yL_parts) B (hts _ List.mem_cons_self)
  subst hsz
  have hD := hD0.self (sz := s.heap.size)
  generalize hAe : va_A ((oq, .inl (cJ, 1, .inr (.inl (g)))) :: hp_X cI cZ cO o b ad v r n) s.heap.size = A at hD hZu hZn ⊢
  have hA : ∀ q : Nat, s.heap.size ≤ q → A q := fun q h => by rw [← hAe]; exact Or.inr h
  have hS : va_S A s.heap s.heap [] := va_S.rf
  have hPX := (hp_Pc.mp hP).2
  have hDX := hp_Dt hD
  have hk_1 := hts (.classLink RL 13 hp_E1) (by decide +kernel)
  have hl := lv_entry ([.ref o, .int p0, .ref oq]) (n := 4) (Nat.le_of_ble_eq_true rfl)
  rw [lg_entry_eq]
  generalize (lg_sl ([.ref o, .int p0, .ref oq]) ++ List.replicate (4 - (lg_sl ([.ref o, .int p0, .ref oq])).length) Slot.unset).toArray = ls at hl ⊢
  have hl : lv_has ls 4 [(0, .ref o), (1, .int p0), (2, .ref oq)] := hl
  refine lv_aload_n hx hb dL_parts_0 rfl (lv_at hl 2 rfl) ?_
  refine lv_iconst (v := 0) hx hb dL_parts_1 (by decide) ?_
  refine lv_aload_n hx hb dL_parts_2 rfl (lv_at hl 0 rfl) ?_
  refine lv_iload_n hx hb dL_parts_3 rfl (lv_at hl 1 rfl) ?_
  have hFc := hp_free hDX hS hA
  refine vx_calli (vx_runV (As := [.int p0]) (rest := [.int 0, .ref oq]) ⟨hx, hb, hml, hown, hts⟩ (c_X1_parts l hl0 dC dI cI cZ cO cJ o b ad v r n s.heap.size p0 hinv) (cwV 1 hts gL_parts_X1_parts rfl rfl rfl (by decide +kernel) ⟨(Nat.le_of_ble_eq_true rfl), (Nat.le_of_ble_eq_true rfl)⟩) ⟨hp_fbT, va_recv hK hPX (ci := 1) (q0 := 0) rfl hp_X_o, fun U hU hW => ⟨rfl, hp_toT hPX hK hDX hN hstr hZu hZn hS hA hU hW⟩⟩ rfl rfl hl.1 rfl (lv_room (Nat.le_of_ble_eq_true rfl)) dL_parts_4 ⟨(Nat.le_of_ble_eq_true rfl), (Nat.le_of_ble_eq_true rfl)⟩) hS (fun q _ h => hFc q h) hFc (fun q _ h => hFc q h) (fun E ce q9 u t H1 locs1 ht _ _ hBX _ hkk hS1 hce hcv hcl => ?_) (fun r9 u t H1 locs1 ht _ hw hB _ hkk hS1 => ?_)
  · obtain ⟨⟨k, hk, hC⟩, hPx⟩ := hBX
    obtain ⟨hP1, hD1⟩ := hp_reO hP hD hkk (hp_th ht hPx) hDX.self
    clear hP hD hPX hDX hPx hkk ht
    rcases k with _ | k
    · cases Option.some.inj hk
      have hne : ¬ hp_c_kd p0 = 0 := fun q => absurd (hC.symm.trans q) (by decide)
      refine vx_catch (own := RL) (name := hp_E1) hown [] ⟨0, 9, 12, 13⟩ [] (htb.trans rfl) (fun z hz => nomatch hz) (by decide) (by decide) hk_1 (va_Nw.use rfl hN.2.2.2.1) hce hcv hcl ?_
      refine W.eq (g2 := F0 m 12 ls [.ref q9]) rfl ?_
      refine lv_astore_n (lv' := [(3, .ref q9), (0, .ref o), (1, .int p0), (2, .ref oq)]) hx hb dL_parts_12 rfl hl (by decide) rfl (fun ls hl => ?_)
      refine lv_iconst (v := 1) hx hb dL_parts_13 (by decide) ?_
      have hP9 : va_P (dC, dI) vwCl ((oq, .inl (cJ, 1, .inr (.inl (g)))) :: hp_X cI cZ cO o b ad v r n) H1 := by exact hP1
      have hD9 : va_D A ((oq, .inl (cJ, 1, .inr (.inl (g)))) :: hp_X cI cZ cO o b ad v r n) := by exact hD1
      exact vx_ret (W.iret (v := 1) hx hb hr (fun t9 ht9 hW9 => ⟨⟨1, (ad, g), rfl, ⟨hC.symm, fun q => absurd q hne⟩, hp_ht ht9 hP9, hD9⟩, hS1.F ht9⟩) hS1.2.2 dL_parts_14)
    · simp at hk
  · obtain ⟨hc, rfl⟩ := hw
    obtain ⟨hPx, hDx⟩ := hB
    obtain ⟨hP1, hD1⟩ := hp_reO hP hD hkk (hp_th ht hPx) hDx
    clear hP hD hPX hDX hPx hDx hkk ht
    refine lv_i2l hx hb dL_parts_7 rfl ?_
    refine va_last (n := 1) (f := g) hx hb hK hP1 hD1 hS1 0 3 rfl rfl (i := 0) (x := (hp_a_parts r n p0 0).toInt64) (by unfold vp_in; decide) dL_parts_8 (fun H2 locs2 hP2 hD2 hS2 => ?_)
    rw [sb_cl0] at hP2 hD2
    replace hP2 : va_P (dC, dI) vwCl ((oq, .inl (cJ, 1, .inr (.inl (vp_updL g 0 ((hp_a_parts r n p0 0).toInt64))))) :: hp_X cI cZ cO o b u v r n) H2 := hP2
    replace hD2 : va_D A ((oq, .inl (cJ, 1, .inr (.inl (vp_updL g 0 ((hp_a_parts r n p0 0).toInt64))))) :: hp_X cI cZ cO o b u v r n) := hD2
    refine lv_goto (tgt := 15) hx hb dL_parts_9 (by decide) ?_
    refine lv_iconst (v := 0) hx hb dL_parts_15 (by decide) ?_
    exact vx_ret (W.iret (v := 0) hx hb hr (fun t9 ht9 hW9 => ⟨⟨0, (u, vp_updL g 0 ((hp_a_parts r n p0 0).toInt64)), rfl, ⟨hc.symm, fun _ => hp_o0 rfl⟩, hp_ht ht9 hP2, hD2⟩, hS2.F ht9⟩) hS2.2.2 dL_parts_16)
set_option maxHeartbeats 400000 in
set_option maxRecDepth 100000 in
theorem c_L_partsAnew (l : Launch) (hl0 : l.stackTraces = false) (dC : Nat → ClassId) (dI : Nat → Nat → Nat) (cI cZ cO cJ : ClassId) (o : Nat) (b ad : Nat → Nat) (v : Nat → Int32) (r : Nat → Nat → Int32) (n oq : Nat) (g : Nat → Int64) (sz : Nat) (p0 : Int32) (hinv : hp_inv v r n) : vx_Met l yL_partsAnew wsL_partsAnew ({ frames := 7, cells := 1, slots := 6, locals := 106 }) (va_Pc [.ref o, .int p0, .ref oq] (hp_prL (dC, dI) cI cZ cO cJ ((oq, .inl (cJ, 1, .inr (.inl (g)))) :: hp_X cI cZ cO o b ad v r n) sz)) (va_Qi (S := (Nat → Nat) × (Nat → Int64)) (fun x9 u9 => x9 = hp_c_kd p0 ∧ (hp_c_kd p0 = 0 → u9.2 0 = (hp_a_parts r n p0 0).toInt64)) (fun u9 t9 => va_P (dC, dI) vwCl ((oq, .inl (cJ, 1, .inr (.inl (u9.2)))) :: hp_X cI cZ cO o b u9.1 v r n) t9.heap ∧ va_D (va_A ((oq, .inl (cJ, 1, .inr (.inl (g)))) :: hp_X cI cZ cO o b ad v r n) sz) ((oq, .inl (cJ, 1, .inr (.inl (u9.2)))) :: hp_X cI cZ cO o b u9.1 v r n)) (va_A ((oq, .inl (cJ, 1, .inr (.inl (g)))) :: hp_X cI cZ cO o b ad v r n) sz)) (vx_X (S := Unit) (fun _ => False) (fun _ _ _ => True) (va_A ((oq, .inl (cJ, 1, .inr (.inl (g)))) :: hp_X cI cZ cO o b ad v r n) sz)) 1 6 (va_A ((oq, .inl (cJ, 1, .inr (.inl (g)))) :: hp_X cI cZ cO o b ad v r n) sz) := by
  refine vx_ofWH (cc := cL_partsAnew) (maxL := 4) (ret := some .int) (hh := [(0, 9, 12, 13)]) (by decide) rfl ?_
  intro p e s m args below meth c s₁ B hml hv
  obtain ⟨rfl, ⟨hsz, hP, hK, hD0, hN, hstr, hZu, hZn⟩, hnc⟩ := hv
  have hx := B.exec
  have hb := B.bytes
  have hr := B.returns
  have hts := atoms_spec (ws := wsL_partsAnew) B.pre
  have hown : s.vm.findClass RL = some m.cls := findClass_of_methodNamed B.named
  have hlocks := B.notSynchronized
  have htb := vx_table (x := yL_partsAnew) B (hts _ List.mem_cons_self)
  subst hsz
  have hD := hD0.self (sz := s.heap.size)
  generalize hAe : va_A ((oq, .inl (cJ, 1, .inr (.inl (g)))) :: hp_X cI cZ cO o b ad v r n) s.heap.size = A at hD hZu hZn ⊢
  have hA : ∀ q : Nat, s.heap.size ≤ q → A q := fun q h => by rw [← hAe]; exact Or.inr h
  have hS : va_S A s.heap s.heap [] := va_S.rf
  have hPX := (hp_Pc.mp hP).2
  have hDX := hp_Dt hD
  have hk_1 := hts (.classLink RL 13 hp_E1) (by decide +kernel)
  have hl := lv_entry ([.ref o, .int p0, .ref oq]) (n := 4) (Nat.le_of_ble_eq_true rfl)
  rw [lg_entry_eq]
  generalize (lg_sl ([.ref o, .int p0, .ref oq]) ++ List.replicate (4 - (lg_sl ([.ref o, .int p0, .ref oq])).length) Slot.unset).toArray = ls at hl ⊢
  have hl : lv_has ls 4 [(0, .ref o), (1, .int p0), (2, .ref oq)] := hl
  refine lv_aload_n hx hb dL_partsAnew_0 rfl (lv_at hl 2 rfl) ?_
  refine lv_iconst (v := 0) hx hb dL_partsAnew_1 (by decide) ?_
  refine lv_aload_n hx hb dL_partsAnew_2 rfl (lv_at hl 0 rfl) ?_
  refine lv_iload_n hx hb dL_partsAnew_3 rfl (lv_at hl 1 rfl) ?_
  have hFc := hp_free hDX hS hA
  refine vx_calli (vx_runV (As := [.int p0]) (rest := [.int 0, .ref oq]) ⟨hx, hb, hml, hown, hts⟩ (c_X1_partsAnew l hl0 dC dI cI cZ cO cJ o b ad v r n s.heap.size p0 hinv) (cwV 1 hts gL_partsAnew_X1_partsAnew rfl rfl rfl (by decide +kernel) ⟨(Nat.le_of_ble_eq_true rfl), (Nat.le_of_ble_eq_true rfl)⟩) ⟨hp_fbT, va_recv hK hPX (ci := 1) (q0 := 0) rfl hp_X_o, fun U hU hW => ⟨rfl, hp_toT hPX hK hDX hN hstr hZu hZn hS hA hU hW⟩⟩ rfl rfl hl.1 rfl (lv_room (Nat.le_of_ble_eq_true rfl)) dL_partsAnew_4 ⟨(Nat.le_of_ble_eq_true rfl), (Nat.le_of_ble_eq_true rfl)⟩) hS (fun q _ h => hFc q h) hFc (fun q _ h => hFc q h) (fun E ce q9 u t H1 locs1 ht _ _ hBX _ hkk hS1 hce hcv hcl => ?_) (fun r9 u t H1 locs1 ht _ hw hB _ hkk hS1 => ?_)
  · obtain ⟨⟨k, hk, hC⟩, hPx⟩ := hBX
    obtain ⟨hP1, hD1⟩ := hp_reO hP hD hkk (hp_th ht hPx) hDX.self
    clear hP hD hPX hDX hPx hkk ht
    rcases k with _ | k
    · cases Option.some.inj hk
      have hne : ¬ hp_c_kd p0 = 0 := fun q => absurd (hC.symm.trans q) (by decide)
      refine vx_catch (own := RL) (name := hp_E1) hown [] ⟨0, 9, 12, 13⟩ [] (htb.trans rfl) (fun z hz => nomatch hz) (by decide) (by decide) hk_1 (va_Nw.use rfl hN.2.2.2.1) hce hcv hcl ?_
      refine W.eq (g2 := F0 m 12 ls [.ref q9]) rfl ?_
      refine lv_astore_n (lv' := [(3, .ref q9), (0, .ref o), (1, .int p0), (2, .ref oq)]) hx hb dL_partsAnew_12 rfl hl (by decide) rfl (fun ls hl => ?_)
      refine lv_iconst (v := 1) hx hb dL_partsAnew_13 (by decide) ?_
      have hP9 : va_P (dC, dI) vwCl ((oq, .inl (cJ, 1, .inr (.inl (g)))) :: hp_X cI cZ cO o b ad v r n) H1 := by exact hP1
      have hD9 : va_D A ((oq, .inl (cJ, 1, .inr (.inl (g)))) :: hp_X cI cZ cO o b ad v r n) := by exact hD1
      exact vx_ret (W.iret (v := 1) hx hb hr (fun t9 ht9 hW9 => ⟨⟨1, (ad, g), rfl, ⟨hC.symm, fun q => absurd q hne⟩, hp_ht ht9 hP9, hD9⟩, hS1.F ht9⟩) hS1.2.2 dL_partsAnew_14)
    · simp at hk
  · obtain ⟨hc, rfl⟩ := hw
    obtain ⟨hPx, hDx⟩ := hB
    obtain ⟨hP1, hD1⟩ := hp_reO hP hD hkk (hp_th ht hPx) hDx
    clear hP hD hPX hDX hPx hDx hkk ht
    refine lv_i2l hx hb dL_partsAnew_7 rfl ?_
    refine va_last (n := 1) (f := g) hx hb hK hP1 hD1 hS1 0 3 rfl rfl (i := 0) (x := (hp_a_parts r n p0 0).toInt64) (by unfold vp_in; decide) dL_partsAnew_8 (fun H2 locs2 hP2 hD2 hS2 => ?_)
    rw [sb_cl0] at hP2 hD2
    replace hP2 : va_P (dC, dI) vwCl ((oq, .inl (cJ, 1, .inr (.inl (vp_updL g 0 ((hp_a_parts r n p0 0).toInt64))))) :: hp_X cI cZ cO o b u v r n) H2 := hP2
    replace hD2 : va_D A ((oq, .inl (cJ, 1, .inr (.inl (vp_updL g 0 ((hp_a_parts r n p0 0).toInt64))))) :: hp_X cI cZ cO o b u v r n) := hD2
    refine lv_goto (tgt := 15) hx hb dL_partsAnew_9 (by decide) ?_
    refine lv_iconst (v := 0) hx hb dL_partsAnew_15 (by decide) ?_
    exact vx_ret (W.iret (v := 0) hx hb hr (fun t9 ht9 hW9 => ⟨⟨0, (u, vp_updL g 0 ((hp_a_parts r n p0 0).toInt64)), rfl, ⟨hc.symm, fun _ => hp_o0 rfl⟩, hp_ht ht9 hP2, hD2⟩, hS2.F ht9⟩) hS2.2.2 dL_partsAnew_16)
set_option maxHeartbeats 400000 in
set_option maxRecDepth 100000 in
theorem c_L_ordered (l : Launch) (hl0 : l.stackTraces = false) (dC : Nat → ClassId) (dI : Nat → Nat → Nat) (cI cZ cO cJ : ClassId) (o : Nat) (b ad : Nat → Nat) (v : Nat → Int32) (r : Nat → Nat → Int32) (n oq : Nat) (g : Nat → Int64) (sz : Nat) (p0 : Int32) (hinv : hp_inv v r n) : vx_Met l yL_ordered wsL_ordered ({ frames := 7, cells := 1, slots := 6, locals := 111 }) (va_Pc [.ref o, .int p0, .ref oq] (hp_prL (dC, dI) cI cZ cO cJ ((oq, .inl (cJ, 1, .inr (.inl (g)))) :: hp_X cI cZ cO o b ad v r n) sz)) (va_Qi (S := (Nat → Nat) × (Nat → Int64)) (fun x9 u9 => x9 = hp_c_kd p0 ∧ (hp_c_kd p0 = 0 → u9.2 0 = (hp_a_parts r n p0 1).toInt64)) (fun u9 t9 => va_P (dC, dI) vwCl ((oq, .inl (cJ, 1, .inr (.inl (u9.2)))) :: hp_X cI cZ cO o b u9.1 v r n) t9.heap ∧ va_D (va_A ((oq, .inl (cJ, 1, .inr (.inl (g)))) :: hp_X cI cZ cO o b ad v r n) sz) ((oq, .inl (cJ, 1, .inr (.inl (u9.2)))) :: hp_X cI cZ cO o b u9.1 v r n)) (va_A ((oq, .inl (cJ, 1, .inr (.inl (g)))) :: hp_X cI cZ cO o b ad v r n) sz)) (vx_X (S := Unit) (fun _ => False) (fun _ _ _ => True) (va_A ((oq, .inl (cJ, 1, .inr (.inl (g)))) :: hp_X cI cZ cO o b ad v r n) sz)) 1 6 (va_A ((oq, .inl (cJ, 1, .inr (.inl (g)))) :: hp_X cI cZ cO o b ad v r n) sz) := by
  refine vx_ofWH (cc := cL_ordered) (maxL := 4) (ret := some .int) (hh := [(0, 9, 12, 13)]) (by decide) rfl ?_
  intro p e s m args below meth c s₁ B hml hv
  obtain ⟨rfl, ⟨hsz, hP, hK, hD0, hN, hstr, hZu, hZn⟩, hnc⟩ := hv
  have hx := B.exec
  have hb := B.bytes
  have hr := B.returns
  have hts := atoms_spec (ws := wsL_ordered) B.pre
  have hown : s.vm.findClass RL = some m.cls := findClass_of_methodNamed B.named
  have hlocks := B.notSynchronized
  have htb := vx_table (x := yL_ordered) B (hts _ List.mem_cons_self)
  subst hsz
  have hD := hD0.self (sz := s.heap.size)
  generalize hAe : va_A ((oq, .inl (cJ, 1, .inr (.inl (g)))) :: hp_X cI cZ cO o b ad v r n) s.heap.size = A at hD hZu hZn ⊢
  have hA : ∀ q : Nat, s.heap.size ≤ q → A q := fun q h => by rw [← hAe]; exact Or.inr h
  have hS : va_S A s.heap s.heap [] := va_S.rf
  have hPX := (hp_Pc.mp hP).2
  have hDX := hp_Dt hD
  have hk_1 := hts (.classLink RL 13 hp_E1) (by decide +kernel)
  have hl := lv_entry ([.ref o, .int p0, .ref oq]) (n := 4) (Nat.le_of_ble_eq_true rfl)
  rw [lg_entry_eq]
  generalize (lg_sl ([.ref o, .int p0, .ref oq]) ++ List.replicate (4 - (lg_sl ([.ref o, .int p0, .ref oq])).length) Slot.unset).toArray = ls at hl ⊢
  have hl : lv_has ls 4 [(0, .ref o), (1, .int p0), (2, .ref oq)] := hl
  refine lv_aload_n hx hb dL_ordered_0 rfl (lv_at hl 2 rfl) ?_
  refine lv_iconst (v := 0) hx hb dL_ordered_1 (by decide) ?_
  refine lv_aload_n hx hb dL_ordered_2 rfl (lv_at hl 0 rfl) ?_
  refine lv_iload_n hx hb dL_ordered_3 rfl (lv_at hl 1 rfl) ?_
  have hFc := hp_free hDX hS hA
  refine vx_calli (vx_runV (As := [.int p0]) (rest := [.int 0, .ref oq]) ⟨hx, hb, hml, hown, hts⟩ (c_X1_ordered l hl0 dC dI cI cZ cO cJ o b ad v r n s.heap.size p0 hinv) (cwV 1 hts gL_ordered_X1_ordered rfl rfl rfl (by decide +kernel) ⟨(Nat.le_of_ble_eq_true rfl), (Nat.le_of_ble_eq_true rfl)⟩) ⟨hp_fbT, va_recv hK hPX (ci := 1) (q0 := 0) rfl hp_X_o, fun U hU hW => ⟨rfl, hp_toT hPX hK hDX hN hstr hZu hZn hS hA hU hW⟩⟩ rfl rfl hl.1 rfl (lv_room (Nat.le_of_ble_eq_true rfl)) dL_ordered_4 ⟨(Nat.le_of_ble_eq_true rfl), (Nat.le_of_ble_eq_true rfl)⟩) hS (fun q _ h => hFc q h) hFc (fun q _ h => hFc q h) (fun E ce q9 u t H1 locs1 ht _ _ hBX _ hkk hS1 hce hcv hcl => ?_) (fun r9 u t H1 locs1 ht _ hw hB _ hkk hS1 => ?_)
  · obtain ⟨⟨k, hk, hC⟩, hPx⟩ := hBX
    obtain ⟨hP1, hD1⟩ := hp_reO hP hD hkk (hp_th ht hPx) hDX.self
    clear hP hD hPX hDX hPx hkk ht
    rcases k with _ | k
    · cases Option.some.inj hk
      have hne : ¬ hp_c_kd p0 = 0 := fun q => absurd (hC.symm.trans q) (by decide)
      refine vx_catch (own := RL) (name := hp_E1) hown [] ⟨0, 9, 12, 13⟩ [] (htb.trans rfl) (fun z hz => nomatch hz) (by decide) (by decide) hk_1 (va_Nw.use rfl hN.2.2.2.1) hce hcv hcl ?_
      refine W.eq (g2 := F0 m 12 ls [.ref q9]) rfl ?_
      refine lv_astore_n (lv' := [(3, .ref q9), (0, .ref o), (1, .int p0), (2, .ref oq)]) hx hb dL_ordered_12 rfl hl (by decide) rfl (fun ls hl => ?_)
      refine lv_iconst (v := 1) hx hb dL_ordered_13 (by decide) ?_
      have hP9 : va_P (dC, dI) vwCl ((oq, .inl (cJ, 1, .inr (.inl (g)))) :: hp_X cI cZ cO o b ad v r n) H1 := by exact hP1
      have hD9 : va_D A ((oq, .inl (cJ, 1, .inr (.inl (g)))) :: hp_X cI cZ cO o b ad v r n) := by exact hD1
      exact vx_ret (W.iret (v := 1) hx hb hr (fun t9 ht9 hW9 => ⟨⟨1, (ad, g), rfl, ⟨hC.symm, fun q => absurd q hne⟩, hp_ht ht9 hP9, hD9⟩, hS1.F ht9⟩) hS1.2.2 dL_ordered_14)
    · simp at hk
  · obtain ⟨hc, rfl⟩ := hw
    obtain ⟨hPx, hDx⟩ := hB
    obtain ⟨hP1, hD1⟩ := hp_reO hP hD hkk (hp_th ht hPx) hDx
    clear hP hD hPX hDX hPx hDx hkk ht
    refine lv_i2l hx hb dL_ordered_7 rfl ?_
    refine va_last (n := 1) (f := g) hx hb hK hP1 hD1 hS1 0 3 rfl rfl (i := 0) (x := (hp_a_parts r n p0 1).toInt64) (by unfold vp_in; decide) dL_ordered_8 (fun H2 locs2 hP2 hD2 hS2 => ?_)
    rw [sb_cl0] at hP2 hD2
    replace hP2 : va_P (dC, dI) vwCl ((oq, .inl (cJ, 1, .inr (.inl (vp_updL g 0 ((hp_a_parts r n p0 1).toInt64))))) :: hp_X cI cZ cO o b u v r n) H2 := hP2
    replace hD2 : va_D A ((oq, .inl (cJ, 1, .inr (.inl (vp_updL g 0 ((hp_a_parts r n p0 1).toInt64))))) :: hp_X cI cZ cO o b u v r n) := hD2
    refine lv_goto (tgt := 15) hx hb dL_ordered_9 (by decide) ?_
    refine lv_iconst (v := 0) hx hb dL_ordered_15 (by decide) ?_
    exact vx_ret (W.iret (v := 0) hx hb hr (fun t9 ht9 hW9 => ⟨⟨0, (u, vp_updL g 0 ((hp_a_parts r n p0 1).toInt64)), rfl, ⟨hc.symm, fun _ => hp_o0 rfl⟩, hp_ht ht9 hP2, hD2⟩, hS2.F ht9⟩) hS2.2.2 dL_ordered_16)
set_option maxHeartbeats 400000 in
set_option maxRecDepth 100000 in
theorem c_L_kindsAt (l : Launch) (hl0 : l.stackTraces = false) (dC : Nat → ClassId) (dI : Nat → Nat → Nat) (cI cZ cO cJ : ClassId) (o : Nat) (b ad : Nat → Nat) (v : Nat → Int32) (r : Nat → Nat → Int32) (n oq : Nat) (g : Nat → Int64) (sz : Nat) (p0 p1 p2 : Int32) (hinv : hp_inv v r n) : vx_Met l yL_kindsAt wsL_kindsAt ({ frames := 7, cells := 1, slots := 6, locals := 108 }) (va_Pc [.ref o, .int p0, .int p1, .int p2, .ref oq] (hp_prL (dC, dI) cI cZ cO cJ ((oq, .inl (cJ, 1, .inr (.inl (g)))) :: hp_X cI cZ cO o b ad v r n) sz)) (va_Qi (S := (Nat → Nat) × (Nat → Int64)) (fun x9 u9 => x9 = hp_c_kindsAt p0 p1 p2 ∧ (hp_c_kindsAt p0 p1 p2 = 0 → u9.2 0 = (hp_a_kindsAt r n p0 p1 p2).toInt64)) (fun u9 t9 => va_P (dC, dI) vwCl ((oq, .inl (cJ, 1, .inr (.inl (u9.2)))) :: hp_X cI cZ cO o b u9.1 v r n) t9.heap ∧ va_D (va_A ((oq, .inl (cJ, 1, .inr (.inl (g)))) :: hp_X cI cZ cO o b ad v r n) sz) ((oq, .inl (cJ, 1, .inr (.inl (u9.2)))) :: hp_X cI cZ cO o b u9.1 v r n)) (va_A ((oq, .inl (cJ, 1, .inr (.inl (g)))) :: hp_X cI cZ cO o b ad v r n) sz)) (vx_X (S := Unit) (fun _ => False) (fun _ _ _ => True) (va_A ((oq, .inl (cJ, 1, .inr (.inl (g)))) :: hp_X cI cZ cO o b ad v r n) sz)) 1 6 (va_A ((oq, .inl (cJ, 1, .inr (.inl (g)))) :: hp_X cI cZ cO o b ad v r n) sz) := by
  refine vx_ofWH (cc := cL_kindsAt) (maxL := 6) (ret := some .int) (hh := [(0, 12, 15, 13), (0, 12, 19, 15)]) (by decide) rfl ?_
  intro p e s m args below meth c s₁ B hml hv
  obtain ⟨rfl, ⟨hsz, hP, hK, hD0, hN, hstr, hZu, hZn⟩, hnc⟩ := hv
  have hx := B.exec
  have hb := B.bytes
  have hr := B.returns
  have hts := atoms_spec (ws := wsL_kindsAt) B.pre
  have hown : s.vm.findClass RL = some m.cls := findClass_of_methodNamed B.named
  have hlocks := B.notSynchronized
  have htb := vx_table (x := yL_kindsAt) B (hts _ List.mem_cons_self)
  subst hsz
  have hD := hD0.self (sz := s.heap.size)
  generalize hAe : va_A ((oq, .inl (cJ, 1, .inr (.inl (g)))) :: hp_X cI cZ cO o b ad v r n) s.heap.size = A at hD hZu hZn ⊢
  have hA : ∀ q : Nat, s.heap.size ≤ q → A q := fun q h => by rw [← hAe]; exact Or.inr h
  have hS : va_S A s.heap s.heap [] := va_S.rf
  have hPX := (hp_Pc.mp hP).2
  have hDX := hp_Dt hD
  have hk_1 := hts (.classLink RL 13 hp_E1) (by decide +kernel)
  have hk_2 := hts (.classLink RL 15 hp_E2) (by decide +kernel)
  have hl := lv_entry ([.ref o, .int p0, .int p1, .int p2, .ref oq]) (n := 6) (Nat.le_of_ble_eq_true rfl)
  rw [lg_entry_eq]
  generalize (lg_sl ([.ref o, .int p0, .int p1, .int p2, .ref oq]) ++ List.replicate (6 - (lg_sl ([.ref o, .int p0, .int p1, .int p2, .ref oq])).length) Slot.unset).toArray = ls at hl ⊢
  have hl : lv_has ls 6 [(0, .ref o), (1, .int p0), (2, .int p1), (3, .int p2), (4, .ref oq)] := hl
  refine lv_aload hx hb dL_kindsAt_0 (lv_at hl 4 rfl) ?_
  refine lv_iconst (v := 0) hx hb dL_kindsAt_2 (by decide) ?_
  refine lv_aload_n hx hb dL_kindsAt_3 rfl (lv_at hl 0 rfl) ?_
  refine lv_iload_n hx hb dL_kindsAt_4 rfl (lv_at hl 1 rfl) ?_
  refine lv_iload_n hx hb dL_kindsAt_5 rfl (lv_at hl 2 rfl) ?_
  refine lv_iload_n hx hb dL_kindsAt_6 rfl (lv_at hl 3 rfl) ?_
  have hFc := hp_free hDX hS hA
  refine vx_calli (vx_runV (As := [.int p0, .int p1, .int p2]) (rest := [.int 0, .ref oq]) ⟨hx, hb, hml, hown, hts⟩ (c_X1_kindsAt l hl0 dC dI cI cZ cO cJ o b ad v r n s.heap.size p0 p1 p2 hinv) (cwV 3 hts gL_kindsAt_X1_kindsAt rfl rfl rfl (by decide +kernel) ⟨(Nat.le_of_ble_eq_true rfl), (Nat.le_of_ble_eq_true rfl)⟩) ⟨hp_fbT, va_recv hK hPX (ci := 1) (q0 := 0) rfl hp_X_o, fun U hU hW => ⟨rfl, hp_toT hPX hK hDX hN hstr hZu hZn hS hA hU hW⟩⟩ rfl rfl hl.1 rfl (lv_room (Nat.le_of_ble_eq_true rfl)) dL_kindsAt_7 ⟨(Nat.le_of_ble_eq_true rfl), (Nat.le_of_ble_eq_true rfl)⟩) hS (fun q _ h => hFc q h) hFc (fun q _ h => hFc q h) (fun E ce q9 u t H1 locs1 ht _ _ hBX _ hkk hS1 hce hcv hcl => ?_) (fun r9 u t H1 locs1 ht _ hw hB _ hkk hS1 => ?_)
  · obtain ⟨⟨k, hk, hC⟩, hPx⟩ := hBX
    obtain ⟨hP1, hD1⟩ := hp_reO hP hD hkk (hp_th ht hPx) hDX.self
    clear hP hD hPX hDX hPx hkk ht
    rcases k with _ | _ | k
    · cases Option.some.inj hk
      have hne : ¬ hp_c_kindsAt p0 p1 p2 = 0 := fun q => absurd (hC.symm.trans q) (by decide)
      refine vx_catch (own := RL) (name := hp_E1) hown [] ⟨0, 12, 15, 13⟩ [⟨0, 12, 19, 15⟩] (htb.trans rfl) (fun z hz => nomatch hz) (by decide) (by decide) hk_1 (va_Nw.use rfl hN.2.2.2.1) hce hcv hcl ?_
      refine W.eq (g2 := F0 m 15 ls [.ref q9]) rfl ?_
      refine lv_astore (lv' := [(5, .ref q9), (0, .ref o), (1, .int p0), (2, .int p1), (3, .int p2), (4, .ref oq)]) hx hb dL_kindsAt_15 hl (by decide) rfl (fun ls hl => ?_)
      refine lv_iconst (v := 1) hx hb dL_kindsAt_17 (by decide) ?_
      have hP9 : va_P (dC, dI) vwCl ((oq, .inl (cJ, 1, .inr (.inl (g)))) :: hp_X cI cZ cO o b ad v r n) H1 := by exact hP1
      have hD9 : va_D A ((oq, .inl (cJ, 1, .inr (.inl (g)))) :: hp_X cI cZ cO o b ad v r n) := by exact hD1
      exact vx_ret (W.iret (v := 1) hx hb hr (fun t9 ht9 hW9 => ⟨⟨1, (ad, g), rfl, ⟨hC.symm, fun q => absurd q hne⟩, hp_ht ht9 hP9, hD9⟩, hS1.F ht9⟩) hS1.2.2 dL_kindsAt_18)
    · cases Option.some.inj hk
      have hne : ¬ hp_c_kindsAt p0 p1 p2 = 0 := fun q => absurd (hC.symm.trans q) (by decide)
      refine vx_catch (own := RL) (name := hp_E2) hown [⟨0, 12, 15, 13⟩] ⟨0, 12, 19, 15⟩ [] (htb.trans rfl) (fun z hz => by
          simp only [List.mem_cons, List.not_mem_nil, or_false] at hz
          subst hz
          · exact Or.inr ⟨by decide, hp_E1, hk_1, hnc.1⟩) (by decide) (by decide) hk_2 (va_Nw.use rfl hN.2.2.2.2.1) hce hcv hcl ?_
      refine W.eq (g2 := F0 m 19 ls [.ref q9]) rfl ?_
      refine lv_astore (lv' := [(5, .ref q9), (0, .ref o), (1, .int p0), (2, .int p1), (3, .int p2), (4, .ref oq)]) hx hb dL_kindsAt_19 hl (by decide) rfl (fun ls hl => ?_)
      refine lv_iconst (v := 2) hx hb dL_kindsAt_21 (by decide) ?_
      have hP9 : va_P (dC, dI) vwCl ((oq, .inl (cJ, 1, .inr (.inl (g)))) :: hp_X cI cZ cO o b ad v r n) H1 := by exact hP1
      have hD9 : va_D A ((oq, .inl (cJ, 1, .inr (.inl (g)))) :: hp_X cI cZ cO o b ad v r n) := by exact hD1
      exact vx_ret (W.iret (v := 2) hx hb hr (fun t9 ht9 hW9 => ⟨⟨2, (ad, g), rfl, ⟨hC.symm, fun q => absurd q hne⟩, hp_ht ht9 hP9, hD9⟩, hS1.F ht9⟩) hS1.2.2 dL_kindsAt_22)
    · simp at hk
  · obtain ⟨hc, rfl⟩ := hw
    obtain ⟨hPx, hDx⟩ := hB
    obtain ⟨hP1, hD1⟩ := hp_reO hP hD hkk (hp_th ht hPx) hDx
    clear hP hD hPX hDX hPx hDx hkk ht
    refine lv_i2l hx hb dL_kindsAt_10 rfl ?_
    refine va_last (n := 1) (f := g) hx hb hK hP1 hD1 hS1 0 3 rfl rfl (i := 0) (x := (hp_a_kindsAt r n p0 p1 p2).toInt64) (by unfold vp_in; decide) dL_kindsAt_11 (fun H2 locs2 hP2 hD2 hS2 => ?_)
    rw [sb_cl0] at hP2 hD2
    replace hP2 : va_P (dC, dI) vwCl ((oq, .inl (cJ, 1, .inr (.inl (vp_updL g 0 ((hp_a_kindsAt r n p0 p1 p2).toInt64))))) :: hp_X cI cZ cO o b u v r n) H2 := hP2
    replace hD2 : va_D A ((oq, .inl (cJ, 1, .inr (.inl (vp_updL g 0 ((hp_a_kindsAt r n p0 p1 p2).toInt64))))) :: hp_X cI cZ cO o b u v r n) := hD2
    refine lv_goto (tgt := 23) hx hb dL_kindsAt_12 (by decide) ?_
    refine lv_iconst (v := 0) hx hb dL_kindsAt_23 (by decide) ?_
    exact vx_ret (W.iret (v := 0) hx hb hr (fun t9 ht9 hW9 => ⟨⟨0, (u, vp_updL g 0 ((hp_a_kindsAt r n p0 p1 p2).toInt64)), rfl, ⟨hc.symm, fun _ => hp_o0 rfl⟩, hp_ht ht9 hP2, hD2⟩, hS2.F ht9⟩) hS2.2.2 dL_kindsAt_24)
set_option maxHeartbeats 400000 in
set_option maxRecDepth 100000 in
theorem c_L_isLocked (l : Launch) (hl0 : l.stackTraces = false) (dC : Nat → ClassId) (dI : Nat → Nat → Nat) (cI cZ cO cJ : ClassId) (o : Nat) (b ad : Nat → Nat) (v : Nat → Int32) (r : Nat → Nat → Int32) (n oq : Nat) (g : Nat → Int64) (sz : Nat) (p0 : Int32) (hinv : hp_inv v r n) : vx_Met l yL_isLocked wsL_isLocked ({ frames := 7, cells := 1, slots := 6, locals := 103 }) (va_Pc [.ref o, .int p0, .ref oq] (hp_prL (dC, dI) cI cZ cO cJ ((oq, .inl (cJ, 1, .inr (.inl (g)))) :: hp_X cI cZ cO o b ad v r n) sz)) (va_Qi (S := (Nat → Nat) × (Nat → Int64)) (fun x9 u9 => x9 = hp_c_st p0 ∧ (hp_c_st p0 = 0 → u9.2 0 = (hp_b (hp_b_isLocked r p0)).toInt64)) (fun u9 t9 => va_P (dC, dI) vwCl ((oq, .inl (cJ, 1, .inr (.inl (u9.2)))) :: hp_X cI cZ cO o b u9.1 v r n) t9.heap ∧ va_D (va_A ((oq, .inl (cJ, 1, .inr (.inl (g)))) :: hp_X cI cZ cO o b ad v r n) sz) ((oq, .inl (cJ, 1, .inr (.inl (u9.2)))) :: hp_X cI cZ cO o b u9.1 v r n)) (va_A ((oq, .inl (cJ, 1, .inr (.inl (g)))) :: hp_X cI cZ cO o b ad v r n) sz)) (vx_X (S := Unit) (fun _ => False) (fun _ _ _ => True) (va_A ((oq, .inl (cJ, 1, .inr (.inl (g)))) :: hp_X cI cZ cO o b ad v r n) sz)) 1 6 (va_A ((oq, .inl (cJ, 1, .inr (.inl (g)))) :: hp_X cI cZ cO o b ad v r n) sz) := by
  refine vx_ofWH (cc := cL_isLocked) (maxL := 4) (ret := some .int) (hh := [(0, 16, 19, 13)]) (by decide) rfl ?_
  intro p e s m args below meth c s₁ B hml hv
  obtain ⟨rfl, ⟨hsz, hP, hK, hD0, hN, hstr, hZu, hZn⟩, hnc⟩ := hv
  have hx := B.exec
  have hb := B.bytes
  have hr := B.returns
  have hts := atoms_spec (ws := wsL_isLocked) B.pre
  have hown : s.vm.findClass RL = some m.cls := findClass_of_methodNamed B.named
  have hlocks := B.notSynchronized
  have htb := vx_table (x := yL_isLocked) B (hts _ List.mem_cons_self)
  subst hsz
  have hD := hD0.self (sz := s.heap.size)
  generalize hAe : va_A ((oq, .inl (cJ, 1, .inr (.inl (g)))) :: hp_X cI cZ cO o b ad v r n) s.heap.size = A at hD hZu hZn ⊢
  have hA : ∀ q : Nat, s.heap.size ≤ q → A q := fun q h => by rw [← hAe]; exact Or.inr h
  have hS : va_S A s.heap s.heap [] := va_S.rf
  have hPX := (hp_Pc.mp hP).2
  have hDX := hp_Dt hD
  have hk_1 := hts (.classLink RL 13 hp_E1) (by decide +kernel)
  have hl := lv_entry ([.ref o, .int p0, .ref oq]) (n := 4) (Nat.le_of_ble_eq_true rfl)
  rw [lg_entry_eq]
  generalize (lg_sl ([.ref o, .int p0, .ref oq]) ++ List.replicate (4 - (lg_sl ([.ref o, .int p0, .ref oq])).length) Slot.unset).toArray = ls at hl ⊢
  have hl : lv_has ls 4 [(0, .ref o), (1, .int p0), (2, .ref oq)] := hl
  refine lv_aload_n hx hb dL_isLocked_0 rfl (lv_at hl 2 rfl) ?_
  refine lv_iconst (v := 0) hx hb dL_isLocked_1 (by decide) ?_
  refine lv_aload_n hx hb dL_isLocked_2 rfl (lv_at hl 0 rfl) ?_
  refine lv_iload_n hx hb dL_isLocked_3 rfl (lv_at hl 1 rfl) ?_
  have hFc := hp_free hDX hS hA
  refine vx_calli (vx_runV (As := [.int p0]) (rest := [.int 0, .ref oq]) ⟨hx, hb, hml, hown, hts⟩ (c_X1_isLocked l hl0 dC dI cI cZ cO cJ o b ad v r n s.heap.size p0 hinv) (cwV 1 hts gL_isLocked_X1_isLocked rfl rfl rfl (by decide +kernel) ⟨(Nat.le_of_ble_eq_true rfl), (Nat.le_of_ble_eq_true rfl)⟩) ⟨hp_fbT, va_recv hK hPX (ci := 1) (q0 := 0) rfl hp_X_o, fun U hU hW => ⟨rfl, hp_toT hPX hK hDX hN hstr hZu hZn hS hA hU hW⟩⟩ rfl rfl hl.1 rfl (lv_room (Nat.le_of_ble_eq_true rfl)) dL_isLocked_4 ⟨(Nat.le_of_ble_eq_true rfl), (Nat.le_of_ble_eq_true rfl)⟩) hS (fun q _ h => hFc q h) hFc (fun q _ h => hFc q h) (fun E ce q9 u t H1 locs1 ht _ _ hBX _ hkk hS1 hce hcv hcl => ?_) (fun r9 u t H1 locs1 ht _ hw hB _ hkk hS1 => ?_)
  · obtain ⟨⟨k, hk, hC⟩, hPx⟩ := hBX
    obtain ⟨hP1, hD1⟩ := hp_reO hP hD hkk (hp_th ht hPx) hDX.self
    clear hP hD hPX hDX hPx hkk ht
    rcases k with _ | k
    · cases Option.some.inj hk
      have hne : ¬ hp_c_st p0 = 0 := fun q => absurd (hC.symm.trans q) (by decide)
      refine vx_catch (own := RL) (name := hp_E1) hown [] ⟨0, 16, 19, 13⟩ [] (htb.trans rfl) (fun z hz => nomatch hz) (by decide) (by decide) hk_1 (va_Nw.use rfl hN.2.2.2.1) hce hcv hcl ?_
      refine W.eq (g2 := F0 m 19 ls [.ref q9]) rfl ?_
      refine lv_astore_n (lv' := [(3, .ref q9), (0, .ref o), (1, .int p0), (2, .ref oq)]) hx hb dL_isLocked_19 rfl hl (by decide) rfl (fun ls hl => ?_)
      refine lv_iconst (v := 1) hx hb dL_isLocked_20 (by decide) ?_
      have hP9 : va_P (dC, dI) vwCl ((oq, .inl (cJ, 1, .inr (.inl (g)))) :: hp_X cI cZ cO o b ad v r n) H1 := by exact hP1
      have hD9 : va_D A ((oq, .inl (cJ, 1, .inr (.inl (g)))) :: hp_X cI cZ cO o b ad v r n) := by exact hD1
      exact vx_ret (W.iret (v := 1) hx hb hr (fun t9 ht9 hW9 => ⟨⟨1, (ad, g), rfl, ⟨hC.symm, fun q => absurd q hne⟩, hp_ht ht9 hP9, hD9⟩, hS1.F ht9⟩) hS1.2.2 dL_isLocked_21)
    · simp at hk
  · obtain ⟨hc, rfl⟩ := hw
    obtain ⟨hPx, hDx⟩ := hB
    obtain ⟨hP1, hD1⟩ := hp_reO hP hD hkk (hp_th ht hPx) hDx
    clear hP hD hPX hDX hPx hDx hkk ht
    refine lv_if_eq (tgt := 14) hx hb dL_isLocked_7 (by decide) (fun q => ?_) (fun q => ?_)
    · refine lv_lconst (v := 0) hx hb dL_isLocked_14 (by decide) ?_
      refine va_last (n := 1) (f := g) hx hb hK hP1 hD1 hS1 0 3 rfl rfl (i := 0) (x := 0) (by unfold vp_in; decide) dL_isLocked_15 (fun H2 locs2 hP2 hD2 hS2 => ?_)
      rw [sb_cl0] at hP2 hD2
      replace hP2 : va_P (dC, dI) vwCl ((oq, .inl (cJ, 1, .inr (.inl (vp_updL g 0 0)))) :: hp_X cI cZ cO o b u v r n) H2 := hP2
      replace hD2 : va_D A ((oq, .inl (cJ, 1, .inr (.inl (vp_updL g 0 0)))) :: hp_X cI cZ cO o b u v r n) := hD2
      refine lv_goto (tgt := 22) hx hb dL_isLocked_16 (by decide) ?_
      refine lv_iconst (v := 0) hx hb dL_isLocked_22 (by decide) ?_
      exact vx_ret (W.iret (v := 0) hx hb hr (fun t9 ht9 hW9 => ⟨⟨0, (u, vp_updL g 0 0), rfl, ⟨hc.symm, fun _ => hp_o0 (by rw [q]; rfl)⟩, hp_ht ht9 hP2, hD2⟩, hS2.F ht9⟩) hS2.2.2 dL_isLocked_23)
    · refine lv_lconst (v := 1) hx hb dL_isLocked_10 (by decide) ?_
      refine lv_goto (tgt := 15) hx hb dL_isLocked_11 (by decide) ?_
      refine va_last (n := 1) (f := g) hx hb hK hP1 hD1 hS1 0 3 rfl rfl (i := 0) (x := 1) (by unfold vp_in; decide) dL_isLocked_15 (fun H2 locs2 hP2 hD2 hS2 => ?_)
      rw [sb_cl0] at hP2 hD2
      replace hP2 : va_P (dC, dI) vwCl ((oq, .inl (cJ, 1, .inr (.inl (vp_updL g 0 1)))) :: hp_X cI cZ cO o b u v r n) H2 := hP2
      replace hD2 : va_D A ((oq, .inl (cJ, 1, .inr (.inl (vp_updL g 0 1)))) :: hp_X cI cZ cO o b u v r n) := hD2
      refine lv_goto (tgt := 22) hx hb dL_isLocked_16 (by decide) ?_
      refine lv_iconst (v := 0) hx hb dL_isLocked_22 (by decide) ?_
      exact vx_ret (W.iret (v := 0) hx hb hr (fun t9 ht9 hW9 => ⟨⟨0, (u, vp_updL g 0 1), rfl, ⟨hc.symm, fun _ => hp_o0 (by rw [hp_bt (hp_bn q)]; rfl)⟩, hp_ht ht9 hP2, hD2⟩, hS2.F ht9⟩) hS2.2.2 dL_isLocked_23)
