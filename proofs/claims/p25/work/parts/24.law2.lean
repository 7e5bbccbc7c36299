/-! the law's own methods, once more -/
set_option maxHeartbeats 400000 in
set_option maxRecDepth 100000 in
theorem c_L_build (l : Launch) (hl0 : l.stackTraces = false) (dC : Nat → ClassId) (dI : Nat → Nat → Nat) (cI cZ cO cJ : ClassId) (o : Nat) (b ad : Nat → Nat) (v : Nat → Int32) (r : Nat → Nat → Int32) (n sz : Nat) (p0 : Int32) (hinv : hp_inv v r n) : vx_Met l yL_build wsL_build ({ frames := 7, cells := 1, slots := 6, locals := 137 }) (va_Pc [.ref o, .int p0] (hp_prL (dC, dI) cI cZ cO cJ (hp_X cI cZ cO o b ad v r n) sz)) (va_Qi (S := Nat → Nat) (fun x9 _ => x9 = hp_w hp_K1 hp_K3 hp_K3 (hp_c_sta r n p0 2) (hp_b (hp_b_build r n p0))) (fun u9 t9 => va_P (dC, dI) vwCl (hp_X cI cZ cO o b u9 v (hp_r_build r n p0) n) t9.heap ∧ va_D (va_A (hp_X cI cZ cO o b ad v r n) sz) (hp_X cI cZ cO o b u9 v (hp_r_build r n p0) n)) (va_A (hp_X cI cZ cO o b ad v r n) sz)) (vx_X (S := Unit) (fun _ => False) (fun _ _ _ => True) (va_A (hp_X cI cZ cO o b ad v r n) sz)) 1 6 (va_A (hp_X cI cZ cO o b ad v r n) sz) := by
  refine vx_ofWH (cc := cL_build) (maxL := 3) (ret := some .int) (hh := [(0, 13, 14, 13), (0, 13, 18, 19)]) (by decide) rfl ?_
  intro p e s m args below meth c s₁ B hml hv
  obtain ⟨rfl, ⟨hsz, hP, hK, hD0, hN, hstr, hZu, hZn⟩, hnc⟩ := hv
  have hx := B.exec
  have hb := B.bytes
  have hr := B.returns
  have hts := atoms_spec (ws := wsL_build) B.pre
  have hown : s.vm.findClass RL = some m.cls := findClass_of_methodNamed B.named
  have hlocks := B.notSynchronized
  have htb := vx_table (x := yL_build) B (hts _ List.mem_cons_self)
  subst hsz
  have hD := hD0.self (sz := s.heap.size)
  generalize hAe : va_A (hp_X cI cZ cO o b ad v r n) s.heap.size = A at hD hZu hZn ⊢
  have hA : ∀ q : Nat, s.heap.size ≤ q → A q := fun q h => by rw [← hAe]; exact Or.inr h
  have hS : va_S A s.heap s.heap [] := va_S.rf
  have hk_1 := hts (.classLink RL 13 hp_E1) (by decide +kernel)
  have hc_1 := hts (.constant RL 15 (-2000000001)) (by decide +kernel)
  have hk_3 := hts (.classLink RL 19 hp_E3) (by decide +kernel)
  have hc_3 := hts (.constant RL 21 (-2000000003)) (by decide +kernel)
  have hl := lv_entry ([.ref o, .int p0]) (n := 3) (Nat.le_of_ble_eq_true rfl)
  rw [lg_entry_eq]
  generalize (lg_sl ([.ref o, .int p0]) ++ List.replicate (3 - (lg_sl ([.ref o, .int p0])).length) Slot.unset).toArray = ls at hl ⊢
  have hl : lv_has ls 3 [(0, .ref o), (1, .int p0)] := hl
  refine lv_aload_n hx hb dL_build_0 rfl (lv_at hl 0 rfl) ?_
  refine lv_iload_n hx hb dL_build_1 rfl (lv_at hl 1 rfl) ?_
  have hFc := hp_free hD hS hA
  refine vx_calli (vx_runV (As := [.int p0]) (rest := []) ⟨hx, hb, hml, hown, hts⟩ (c_X1_build l hl0 dC dI cI cZ cO cJ o b ad v r n s.heap.size p0 hinv) (cwV 1 hts gL_build_X1_build rfl rfl rfl (by decide +kernel) ⟨(Nat.le_of_ble_eq_true rfl), (Nat.le_of_ble_eq_true rfl)⟩) ⟨hp_fbT, va_recv hK hP (ci := 1) (q0 := 0) rfl hp_X_o, fun U hU hW => ⟨rfl, hp_toT hP hK hD hN hstr hZu hZn hS hA hU hW⟩⟩ rfl rfl hl.1 rfl (lv_room (Nat.le_of_ble_eq_true rfl)) dL_build_2 ⟨(Nat.le_of_ble_eq_true rfl), (Nat.le_of_ble_eq_true rfl)⟩) hS (fun q _ h => hFc q h) hFc (fun q _ h => hFc q h) (fun E ce q9 u t H1 locs1 ht _ _ hBX _ _ hS1 hce hcv hcl => ?_) (fun r9 u t H1 locs1 ht _ hw hB _ _ hS1 => ?_)
  · obtain ⟨⟨k, hk, hC⟩, hPx⟩ := hBX
    have hP1 := hp_th ht hPx
    clear hP hPx ht
    rcases k with _ | _ | k
    · cases Option.some.inj hk
      have hne : ¬ hp_c_sta r n p0 2 = 0 := fun q => absurd (hC.symm.trans q) (by decide)
      refine vx_catch (own := RL) (name := hp_E1) hown [] ⟨0, 13, 14, 13⟩ [⟨0, 13, 18, 19⟩] (htb.trans rfl) (fun z hz => nomatch hz) (by decide) (by decide) hk_1 (va_Nw.use rfl hN.2.2.2.1) hce hcv hcl ?_
      refine W.eq (g2 := F0 m 14 ls [.ref q9]) rfl ?_
      refine lv_astore_n (lv' := [(2, .ref q9), (0, .ref o), (1, .int p0)]) hx hb dL_build_14 rfl hl (by decide) rfl (fun ls hl => ?_)
      refine lv_ldc hx hb hown hc_1 dL_build_15 ?_
      have hb9 : ¬ hp_b_build r n p0 = true := fun q => hne (of_decide_eq_true (hp_andl q))
      have hP9 : va_P (dC, dI) vwCl (hp_X cI cZ cO o b ad v (hp_r_build r n p0) n) H1 := by simp only [hp_r_build, if_neg hb9]; exact hP1
      have hD9 : va_D A (hp_X cI cZ cO o b ad v (hp_r_build r n p0) n) := by simp only [hp_r_build, if_neg hb9]; exact hD
      exact vx_ret (W.iret (v := hp_K1) hx hb hr (fun t9 ht9 hW9 => ⟨⟨_, ad, rfl, hp_w1 hC, hp_ht ht9 hP9, hD9⟩, hS1.F ht9⟩) hS1.2.2 dL_build_17)
    · cases Option.some.inj hk
      have hne : ¬ hp_c_sta r n p0 2 = 0 := fun q => absurd (hC.symm.trans q) (by decide)
      refine vx_catch (own := RL) (name := hp_E3) hown [⟨0, 13, 14, 13⟩] ⟨0, 13, 18, 19⟩ [] (htb.trans rfl) (fun z hz => by
          simp only [List.mem_cons, List.not_mem_nil, or_false] at hz
          subst hz
          · exact Or.inr ⟨by decide, hp_E1, hk_1, hnc.2.1⟩) (by decide) (by decide) hk_3 (va_Nw.use rfl hN.2.2.2.2.2.1) hce hcv hcl ?_
      refine W.eq (g2 := F0 m 18 ls [.ref q9]) rfl ?_
      refine lv_astore_n (lv' := [(2, .ref q9), (0, .ref o), (1, .int p0)]) hx hb dL_build_18 rfl hl (by decide) rfl (fun ls hl => ?_)
      refine lv_ldc hx hb hown hc_3 dL_build_19 ?_
      have hb9 : ¬ hp_b_build r n p0 = true := fun q => hne (of_decide_eq_true (hp_andl q))
      have hP9 : va_P (dC, dI) vwCl (hp_X cI cZ cO o b ad v (hp_r_build r n p0) n) H1 := by simp only [hp_r_build, if_neg hb9]; exact hP1
      have hD9 : va_D A (hp_X cI cZ cO o b ad v (hp_r_build r n p0) n) := by simp only [hp_r_build, if_neg hb9]; exact hD
      exact vx_ret (W.iret (v := hp_K3) hx hb hr (fun t9 ht9 hW9 => ⟨⟨_, ad, rfl, hp_w2 hC, hp_ht ht9 hP9, hD9⟩, hS1.F ht9⟩) hS1.2.2 dL_build_21)
    · simp at hk
  · obtain ⟨hc, rfl⟩ := hw
    obtain ⟨hPx, hDx⟩ := hB
    have hP1 := hp_th ht hPx
    have hD1 : va_D A (hp_X cI cZ cO o b u v (hp_r_build r n p0) n) := hDx.weaken (fun k q _ h => hFc q.1 h)
    clear hP hD hPx hDx ht hFc
    refine lv_if_eq (tgt := 12) hx hb dL_build_5 (by decide) (fun q => ?_) (fun q => ?_)
    · refine lv_iconst (v := 0) hx hb dL_build_12 (by decide) ?_
      exact vx_ret (W.iret (v := 0) hx hb hr (fun t9 ht9 hW9 => ⟨⟨_, u, rfl, ((hp_w0 hc).trans q).symm, hp_ht ht9 hP1, hD1⟩, hS1.F ht9⟩) hS1.2.2 dL_build_13)
    · refine lv_iconst (v := 1) hx hb dL_build_8 (by decide) ?_
      refine lv_goto (tgt := 13) hx hb dL_build_9 (by decide) ?_
      exact vx_ret (W.iret (v := 1) hx hb hr (fun t9 ht9 hW9 => ⟨⟨_, u, rfl, ((hp_w0 hc).trans (hp_bt (hp_bn q))).symm, hp_ht ht9 hP1, hD1⟩, hS1.F ht9⟩) hS1.2.2 dL_build_13)
set_option maxHeartbeats 400000 in
set_option maxRecDepth 100000 in
theorem c_L_inspect (l : Launch) (hl0 : l.stackTraces = false) (dC : Nat → ClassId) (dI : Nat → Nat → Nat) (cI cZ cO cJ : ClassId) (o : Nat) (b ad : Nat → Nat) (v : Nat → Int32) (r : Nat → Nat → Int32) (n sz : Nat) (p0 : Int32) (hinv : hp_inv v r n) : vx_Met l yL_inspect wsL_inspect ({ frames := 7, cells := 1, slots := 6, locals := 160 }) (va_Pc [.ref o, .int p0] (hp_prL (dC, dI) cI cZ cO cJ (hp_X cI cZ cO o b ad v r n) sz)) (va_Qi (S := Nat → Nat) (fun x9 _ => x9 = hp_w hp_K1 hp_K3 hp_K3 (hp_c_inspect r p0) (hp_b (hp_b_inspect r n p0))) (fun u9 t9 => va_P (dC, dI) vwCl (hp_X cI cZ cO o b u9 v (hp_r_inspect r n p0) n) t9.heap ∧ va_D (va_A (hp_X cI cZ cO o b ad v r n) sz) (hp_X cI cZ cO o b u9 v (hp_r_inspect r n p0) n)) (va_A (hp_X cI cZ cO o b ad v r n) sz)) (vx_X (S := Unit) (fun _ => False) (fun _ _ _ => True) (va_A (hp_X cI cZ cO o b ad v r n) sz)) 1 6 (va_A (hp_X cI cZ cO o b ad v r n) sz) := by
  refine vx_ofWH (cc := cL_inspect) (maxL := 3) (ret := some .int) (hh := [(0, 13, 14, 13), (0, 13, 18, 19)]) (by decide) rfl ?_
  intro p e s m args below meth c s₁ B hml hv
  obtain ⟨rfl, ⟨hsz, hP, hK, hD0, hN, hstr, hZu, hZn⟩, hnc⟩ := hv
  have hx := B.exec
  have hb := B.bytes
  have hr := B.returns
  have hts := atoms_spec (ws := wsL_inspect) B.pre
  have hown : s.vm.findClass RL = some m.cls := findClass_of_methodNamed B.named
  have hlocks := B.notSynchronized
  have htb := vx_table (x := yL_inspect) B (hts _ List.mem_cons_self)
  subst hsz
  have hD := hD0.self (sz := s.heap.size)
  generalize hAe : va_A (hp_X cI cZ cO o b ad v r n) s.heap.size = A at hD hZu hZn ⊢
  have hA : ∀ q : Nat, s.heap.size ≤ q → A q := fun q h => by rw [← hAe]; exact Or.inr h
  have hS : va_S A s.heap s.heap [] := va_S.rf
  have hk_1 := hts (.classLink RL 13 hp_E1) (by decide +kernel)
  have hc_1 := hts (.constant RL 15 (-2000000001)) (by decide +kernel)
  have hk_3 := hts (.classLink RL 19 hp_E3) (by decide +kernel)
  have hc_3 := hts (.constant RL 21 (-2000000003)) (by decide +kernel)
  have hl := lv_entry ([.ref o, .int p0]) (n := 3) (Nat.le_of_ble_eq_true rfl)
  rw [lg_entry_eq]
  generalize (lg_sl ([.ref o, .int p0]) ++ List.replicate (3 - (lg_sl ([.ref o, .int p0])).length) Slot.unset).toArray = ls at hl ⊢
  have hl : lv_has ls 3 [(0, .ref o), (1, .int p0)] := hl
  refine lv_aload_n hx hb dL_inspect_0 rfl (lv_at hl 0 rfl) ?_
  refine lv_iload_n hx hb dL_inspect_1 rfl (lv_at hl 1 rfl) ?_
  have hFc := hp_free hD hS hA
  refine vx_calli (vx_runV (As := [.int p0]) (rest := []) ⟨hx, hb, hml, hown, hts⟩ (c_X1_inspect l hl0 dC dI cI cZ cO cJ o b ad v r n s.heap.size p0 hinv) (cwV 1 hts gL_inspect_X1_inspect rfl rfl rfl (by decide +kernel) ⟨(Nat.le_of_ble_eq_true rfl), (Nat.le_of_ble_eq_true rfl)⟩) ⟨hp_fbT, va_recv hK hP (ci := 1) (q0 := 0) rfl hp_X_o, fun U hU hW => ⟨rfl, hp_toT hP hK hD hN hstr hZu hZn hS hA hU hW⟩⟩ rfl rfl hl.1 rfl (lv_room (Nat.le_of_ble_eq_true rfl)) dL_inspect_2 ⟨(Nat.le_of_ble_eq_true rfl), (Nat.le_of_ble_eq_true rfl)⟩) hS (fun q _ h => hFc q h) hFc (fun q _ h => hFc q h) (fun E ce q9 u t H1 locs1 ht _ _ hBX _ _ hS1 hce hcv hcl => ?_) (fun r9 u t H1 locs1 ht _ hw hB _ _ hS1 => ?_)
  · obtain ⟨⟨k, hk, hC⟩, hPx⟩ := hBX
    have hP1 := hp_th ht hPx
    clear hP hPx ht
    rcases k with _ | _ | k
    · cases Option.some.inj hk
      have hne : ¬ hp_c_inspect r p0 = 0 := fun q => absurd (hC.symm.trans q) (by decide)
      refine vx_catch (own := RL) (name := hp_E1) hown [] ⟨0, 13, 14, 13⟩ [⟨0, 13, 18, 19⟩] (htb.trans rfl) (fun z hz => nomatch hz) (by decide) (by decide) hk_1 (va_Nw.use rfl hN.2.2.2.1) hce hcv hcl ?_
      refine W.eq (g2 := F0 m 14 ls [.ref q9]) rfl ?_
      refine lv_astore_n (lv' := [(2, .ref q9), (0, .ref o), (1, .int p0)]) hx hb dL_inspect_14 rfl hl (by decide) rfl (fun ls hl => ?_)
      refine lv_ldc hx hb hown hc_1 dL_inspect_15 ?_
      have hP9 : va_P (dC, dI) vwCl (hp_X cI cZ cO o b ad v (hp_r_inspect r n p0) n) H1 := by simp only [hp_r_inspect, if_neg hne]; exact hP1
      have hD9 : va_D A (hp_X cI cZ cO o b ad v (hp_r_inspect r n p0) n) := by simp only [hp_r_inspect, if_neg hne]; exact hD
      exact vx_ret (W.iret (v := hp_K1) hx hb hr (fun t9 ht9 hW9 => ⟨⟨_, ad, rfl, hp_w1 hC, hp_ht ht9 hP9, hD9⟩, hS1.F ht9⟩) hS1.2.2 dL_inspect_17)
    · cases Option.some.inj hk
      have hne : ¬ hp_c_inspect r p0 = 0 := fun q => absurd (hC.symm.trans q) (by decide)
      refine vx_catch (own := RL) (name := hp_E3) hown [⟨0, 13, 14, 13⟩] ⟨0, 13, 18, 19⟩ [] (htb.trans rfl) (fun z hz => by
          simp only [List.mem_cons, List.not_mem_nil, or_false] at hz
          subst hz
          · exact Or.inr ⟨by decide, hp_E1, hk_1, hnc.2.1⟩) (by decide) (by decide) hk_3 (va_Nw.use rfl hN.2.2.2.2.2.1) hce hcv hcl ?_
      refine W.eq (g2 := F0 m 18 ls [.ref q9]) rfl ?_
      refine lv_astore_n (lv' := [(2, .ref q9), (0, .ref o), (1, .int p0)]) hx hb dL_inspect_18 rfl hl (by decide) rfl (fun ls hl => ?_)
      refine lv_ldc hx hb hown hc_3 dL_inspect_19 ?_
      have hP9 : va_P (dC, dI) vwCl (hp_X cI cZ cO o b ad v (hp_r_inspect r n p0) n) H1 := by simp only [hp_r_inspect, if_neg hne]; exact hP1
      have hD9 : va_D A (hp_X cI cZ cO o b ad v (hp_r_inspect r n p0) n) := by simp only [hp_r_inspect, if_neg hne]; exact hD
      exact vx_ret (W.iret (v := hp_K3) hx hb hr (fun t9 ht9 hW9 => ⟨⟨_, ad, rfl, hp_w2 hC, hp_ht ht9 hP9, hD9⟩, hS1.F ht9⟩) hS1.2.2 dL_inspect_21)
    · simp at hk
  · obtain ⟨hc, rfl⟩ := hw
    obtain ⟨hPx, hDx⟩ := hB
    have hP1 := hp_th ht hPx
    have hD1 : va_D A (hp_X cI cZ cO o b u v (hp_r_inspect r n p0) n) := hDx.weaken (fun k q _ h => hFc q.1 h)
    clear hP hD hPx hDx ht hFc
    refine lv_if_eq (tgt := 12) hx hb dL_inspect_5 (by decide) (fun q => ?_) (fun q => ?_)
    · refine lv_iconst (v := 0) hx hb dL_inspect_12 (by decide) ?_
      exact vx_ret (W.iret (v := 0) hx hb hr (fun t9 ht9 hW9 => ⟨⟨_, u, rfl, ((hp_w0 hc).trans q).symm, hp_ht ht9 hP1, hD1⟩, hS1.F ht9⟩) hS1.2.2 dL_inspect_13)
    · refine lv_iconst (v := 1) hx hb dL_inspect_8 (by decide) ?_
      refine lv_goto (tgt := 13) hx hb dL_inspect_9 (by decide) ?_
      exact vx_ret (W.iret (v := 1) hx hb hr (fun t9 ht9 hW9 => ⟨⟨_, u, rfl, ((hp_w0 hc).trans (hp_bt (hp_bn q))).symm, hp_ht ht9 hP1, hD1⟩, hS1.F ht9⟩) hS1.2.2 dL_inspect_13)
set_option maxHeartbeats 400000 in
set_option maxRecDepth 100000 in
theorem c_L_pass (l : Launch) (hl0 : l.stackTraces = false) (dC : Nat → ClassId) (dI : Nat → Nat → Nat) (cI cZ cO cJ : ClassId) (o : Nat) (b ad : Nat → Nat) (v : Nat → Int32) (r : Nat → Nat → Int32) (n sz : Nat) (p0 : Int32) (hinv : hp_inv v r n) : vx_Met l yL_pass wsL_pass ({ frames := 7, cells := 1, slots := 6, locals := 105 }) (va_Pc [.ref o, .int p0] (hp_prL (dC, dI) cI cZ cO cJ (hp_X cI cZ cO o b ad v r n) sz)) (va_Qi (S := Nat → Nat) (fun x9 _ => x9 = hp_w hp_K2 hp_K3 hp_K3 (hp_c_pass v p0) (hp_a_pass v p0)) (fun u9 t9 => va_P (dC, dI) vwCl (hp_X cI cZ cO o b u9 (hp_v_pass v p0) (hp_r_pass v r n p0) n) t9.heap ∧ va_D (va_A (hp_X cI cZ cO o b ad v r n) sz) (hp_X cI cZ cO o b u9 (hp_v_pass v p0) (hp_r_pass v r n p0) n)) (va_A (hp_X cI cZ cO o b ad v r n) sz)) (vx_X (S := Unit) (fun _ => False) (fun _ _ _ => True) (va_A (hp_X cI cZ cO o b ad v r n) sz)) 1 6 (va_A (hp_X cI cZ cO o b ad v r n) sz) := by
  refine vx_ofWH (cc := cL_pass) (maxL := 3) (ret := some .int) (hh := [(0, 5, 6, 16), (0, 5, 10, 19)]) (by decide) rfl ?_
  intro p e s m args below meth c s₁ B hml hv
  obtain ⟨rfl, ⟨hsz, hP, hK, hD0, hN, hstr, hZu, hZn⟩, hnc⟩ := hv
  have hx := B.exec
  have hb := B.bytes
  have hr := B.returns
  have hts := atoms_spec (ws := wsL_pass) B.pre
  have hown : s.vm.findClass RL = some m.cls := findClass_of_methodNamed B.named
  have hlocks := B.notSynchronized
  have htb := vx_table (x := yL_pass) B (hts _ List.mem_cons_self)
  subst hsz
  have hD := hD0.self (sz := s.heap.size)
  generalize hAe : va_A (hp_X cI cZ cO o b ad v r n) s.heap.size = A at hD hZu hZn ⊢
  have hA : ∀ q : Nat, s.heap.size ≤ q → A q := fun q h => by rw [← hAe]; exact Or.inr h
  have hS : va_S A s.heap s.heap [] := va_S.rf
  have hk_2 := hts (.classLink RL 16 hp_E2) (by decide +kernel)
  have hc_2 := hts (.constant RL 18 (-2000000002)) (by decide +kernel)
  have hk_3 := hts (.classLink RL 19 hp_E3) (by decide +kernel)
  have hc_3 := hts (.constant RL 21 (-2000000003)) (by decide +kernel)
  have hl := lv_entry ([.ref o, .int p0]) (n := 3) (Nat.le_of_ble_eq_true rfl)
  rw [lg_entry_eq]
  generalize (lg_sl ([.ref o, .int p0]) ++ List.replicate (3 - (lg_sl ([.ref o, .int p0])).length) Slot.unset).toArray = ls at hl ⊢
  have hl : lv_has ls 3 [(0, .ref o), (1, .int p0)] := hl
  refine lv_aload_n hx hb dL_pass_0 rfl (lv_at hl 0 rfl) ?_
  refine lv_iload_n hx hb dL_pass_1 rfl (lv_at hl 1 rfl) ?_
  have hFc := hp_free hD hS hA
  refine vx_calli (vx_runV (As := [.int p0]) (rest := []) ⟨hx, hb, hml, hown, hts⟩ (c_X1_pass l hl0 dC dI cI cZ cO cJ o b ad v r n s.heap.size p0 hinv) (cwV 1 hts gL_pass_X1_pass rfl rfl rfl (by decide +kernel) ⟨(Nat.le_of_ble_eq_true rfl), (Nat.le_of_ble_eq_true rfl)⟩) ⟨hp_fbT, va_recv hK hP (ci := 1) (q0 := 0) rfl hp_X_o, fun U hU hW => ⟨rfl, hp_toT hP hK hD hN hstr hZu hZn hS hA hU hW⟩⟩ rfl rfl hl.1 rfl (lv_room (Nat.le_of_ble_eq_true rfl)) dL_pass_2 ⟨(Nat.le_of_ble_eq_true rfl), (Nat.le_of_ble_eq_true rfl)⟩) hS (fun q _ h => hFc q h) hFc (fun q _ h => hFc q h) (fun E ce q9 u t H1 locs1 ht _ _ hBX _ _ hS1 hce hcv hcl => ?_) (fun r9 u t H1 locs1 ht _ hw hB _ _ hS1 => ?_)
  · obtain ⟨⟨k, hk, hC⟩, hPx⟩ := hBX
    have hP1 := hp_th ht hPx
    clear hP hPx ht
    rcases k with _ | _ | k
    · cases Option.some.inj hk
      have hne : ¬ hp_c_pass v p0 = 0 := fun q => absurd (hC.symm.trans q) (by decide)
      refine vx_catch (own := RL) (name := hp_E2) hown [] ⟨0, 5, 6, 16⟩ [⟨0, 5, 10, 19⟩] (htb.trans rfl) (fun z hz => nomatch hz) (by decide) (by decide) hk_2 (va_Nw.use rfl hN.2.2.2.2.1) hce hcv hcl ?_
      refine W.eq (g2 := F0 m 6 ls [.ref q9]) rfl ?_
      refine lv_astore_n (lv' := [(2, .ref q9), (0, .ref o), (1, .int p0)]) hx hb dL_pass_6 rfl hl (by decide) rfl (fun ls hl => ?_)
      refine lv_ldc hx hb hown hc_2 dL_pass_7 ?_
      have hP9 : va_P (dC, dI) vwCl (hp_X cI cZ cO o b ad (hp_v_pass v p0) (hp_r_pass v r n p0) n) H1 := by simp only [hp_v_pass, hp_r_pass, if_neg hne]; exact hP1
      have hD9 : va_D A (hp_X cI cZ cO o b ad (hp_v_pass v p0) (hp_r_pass v r n p0) n) := by simp only [hp_v_pass, hp_r_pass, if_neg hne]; exact hD
      exact vx_ret (W.iret (v := hp_K2) hx hb hr (fun t9 ht9 hW9 => ⟨⟨_, ad, rfl, hp_w1 hC, hp_ht ht9 hP9, hD9⟩, hS1.F ht9⟩) hS1.2.2 dL_pass_9)
    · cases Option.some.inj hk
      have hne : ¬ hp_c_pass v p0 = 0 := fun q => absurd (hC.symm.trans q) (by decide)
      refine vx_catch (own := RL) (name := hp_E3) hown [⟨0, 5, 6, 16⟩] ⟨0, 5, 10, 19⟩ [] (htb.trans rfl) (fun z hz => by
          simp only [List.mem_cons, List.not_mem_nil, or_false] at hz
          subst hz
          · exact Or.inr ⟨by decide, hp_E2, hk_2, hnc.2.2⟩) (by decide) (by decide) hk_3 (va_Nw.use rfl hN.2.2.2.2.2.1) hce hcv hcl ?_
      refine W.eq (g2 := F0 m 10 ls [.ref q9]) rfl ?_
      refine lv_astore_n (lv' := [(2, .ref q9), (0, .ref o), (1, .int p0)]) hx hb dL_pass_10 rfl hl (by decide) rfl (fun ls hl => ?_)
      refine lv_ldc hx hb hown hc_3 dL_pass_11 ?_
      have hP9 : va_P (dC, dI) vwCl (hp_X cI cZ cO o b ad (hp_v_pass v p0) (hp_r_pass v r n p0) n) H1 := by simp only [hp_v_pass, hp_r_pass, if_neg hne]; exact hP1
      have hD9 : va_D A (hp_X cI cZ cO o b ad (hp_v_pass v p0) (hp_r_pass v r n p0) n) := by simp only [hp_v_pass, hp_r_pass, if_neg hne]; exact hD
      exact vx_ret (W.iret (v := hp_K3) hx hb hr (fun t9 ht9 hW9 => ⟨⟨_, ad, rfl, hp_w2 hC, hp_ht ht9 hP9, hD9⟩, hS1.F ht9⟩) hS1.2.2 dL_pass_13)
    · simp at hk
  · obtain ⟨hc, rfl⟩ := hw
    obtain ⟨hPx, hDx⟩ := hB
    have hP1 := hp_th ht hPx
    have hD1 : va_D A (hp_X cI cZ cO o b u (hp_v_pass v p0) (hp_r_pass v r n p0) n) := hDx.weaken (fun k q _ h => hFc q.1 h)
    clear hP hD hPx hDx ht hFc
    exact vx_ret (W.iret (v := hp_a_pass v p0) hx hb hr (fun t9 ht9 hW9 => ⟨⟨_, u, rfl, (hp_w0 hc).symm, hp_ht ht9 hP1, hD1⟩, hS1.F ht9⟩) hS1.2.2 dL_pass_5)
set_option maxHeartbeats 400000 in
set_option maxRecDepth 100000 in
theorem c_L_elementOf (l : Launch) (hl0 : l.stackTraces = false) (dC : Nat → ClassId) (dI : Nat → Nat → Nat) (cI cZ cO cJ : ClassId) (o : Nat) (b ad : Nat → Nat) (v : Nat → Int32) (r : Nat → Nat → Int32) (n sz : Nat) (p0 p1 : Int32) (hinv : hp_inv v r n) : vx_Met l yL_elementOf wsL_elementOf ({ frames := 7, cells := 1, slots := 6, locals := 105 }) (va_Pc [.ref o, .int p0, .int p1] (hp_prL (dC, dI) cI cZ cO cJ (hp_X cI cZ cO o b ad v r n) sz)) (va_Qi (S := Nat → Nat) (fun x9 _ => x9 = hp_w hp_K1 hp_K2 hp_K2 (hp_c_elementOf n p0 p1) (hp_a_elementOf r n p0 p1)) (fun u9 t9 => va_P (dC, dI) vwCl (hp_X cI cZ cO o b u9 v r n) t9.heap ∧ va_D (va_A (hp_X cI cZ cO o b ad v r n) sz) (hp_X cI cZ cO o b u9 v r n)) (va_A (hp_X cI cZ cO o b ad v r n) sz)) (vx_X (S := Unit) (fun _ => False) (fun _ _ _ => True) (va_A (hp_X cI cZ cO o b ad v r n) sz)) 1 6 (va_A (hp_X cI cZ cO o b ad v r n) sz) := by
  refine vx_ofWH (cc := cL_elementOf) (maxL := 4) (ret := some .int) (hh := [(0, 6, 7, 13), (0, 6, 11, 16)]) (by decide) rfl ?_
  intro p e s m args below meth c s₁ B hml hv
  obtain ⟨rfl, ⟨hsz, hP, hK, hD0, hN, hstr, hZu, hZn⟩, hnc⟩ := hv
  have hx := B.exec
  have hb := B.bytes
  have hr := B.returns
  have hts := atoms_spec (ws := wsL_elementOf) B.pre
  have hown : s.vm.findClass RL = some m.cls := findClass_of_methodNamed B.named
  have hlocks := B.notSynchronized
  have htb := vx_table (x := yL_elementOf) B (hts _ List.mem_cons_self)
  subst hsz
  have hD := hD0.self (sz := s.heap.size)
  generalize hAe : va_A (hp_X cI cZ cO o b ad v r n) s.heap.size = A at hD hZu hZn ⊢
  have hA : ∀ q : Nat, s.heap.size ≤ q → A q := fun q h => by rw [← hAe]; exact Or.inr h
  have hS : va_S A s.heap s.heap [] := va_S.rf
  have hk_1 := hts (.classLink RL 13 hp_E1) (by decide +kernel)
  have hc_1 := hts (.constant RL 15 (-2000000001)) (by decide +kernel)
  have hk_2 := hts (.classLink RL 16 hp_E2) (by decide +kernel)
  have hc_2 := hts (.constant RL 18 (-2000000002)) (by decide +kernel)
  have hl := lv_entry ([.ref o, .int p0, .int p1]) (n := 4) (Nat.le_of_ble_eq_true rfl)
  rw [lg_entry_eq]
  generalize (lg_sl ([.ref o, .int p0, .int p1]) ++ List.replicate (4 - (lg_sl ([.ref o, .int p0, .int p1])).length) Slot.unset).toArray = ls at hl ⊢
  have hl : lv_has ls 4 [(0, .ref o), (1, .int p0), (2, .int p1)] := hl
  refine lv_aload_n hx hb dL_elementOf_0 rfl (lv_at hl 0 rfl) ?_
  refine lv_iload_n hx hb dL_elementOf_1 rfl (lv_at hl 1 rfl) ?_
  refine lv_iload_n hx hb dL_elementOf_2 rfl (lv_at hl 2 rfl) ?_
  have hFc := hp_free hD hS hA
  refine vx_calli (vx_runV (As := [.int p0, .int p1]) (rest := []) ⟨hx, hb, hml, hown, hts⟩ (c_X1_elementOf l hl0 dC dI cI cZ cO cJ o b ad v r n s.heap.size p0 p1 hinv) (cwV 2 hts gL_elementOf_X1_elementOf rfl rfl rfl (by decide +kernel) ⟨(Nat.le_of_ble_eq_true rfl), (Nat.le_of_ble_eq_true rfl)⟩) ⟨hp_fbT, va_recv hK hP (ci := 1) (q0 := 0) rfl hp_X_o, fun U hU hW => ⟨rfl, hp_toT hP hK hD hN hstr hZu hZn hS hA hU hW⟩⟩ rfl rfl hl.1 rfl (lv_room (Nat.le_of_ble_eq_true rfl)) dL_elementOf_3 ⟨(Nat.le_of_ble_eq_true rfl), (Nat.le_of_ble_eq_true rfl)⟩) hS (fun q _ h => hFc q h) hFc (fun q _ h => hFc q h) (fun E ce q9 u t H1 locs1 ht _ _ hBX _ _ hS1 hce hcv hcl => ?_) (fun r9 u t H1 locs1 ht _ hw hB _ _ hS1 => ?_)
  · obtain ⟨⟨k, hk, hC⟩, hPx⟩ := hBX
    have hP1 := hp_th ht hPx
    clear hP hPx ht
    rcases k with _ | _ | k
    · cases Option.some.inj hk
      have hne : ¬ hp_c_elementOf n p0 p1 = 0 := fun q => absurd (hC.symm.trans q) (by decide)
      refine vx_catch (own := RL) (name := hp_E1) hown [] ⟨0, 6, 7, 13⟩ [⟨0, 6, 11, 16⟩] (htb.trans rfl) (fun z hz => nomatch hz) (by decide) (by decide) hk_1 (va_Nw.use rfl hN.2.2.2.1) hce hcv hcl ?_
      refine W.eq (g2 := F0 m 7 ls [.ref q9]) rfl ?_
      refine lv_astore_n (lv' := [(3, .ref q9), (0, .ref o), (1, .int p0), (2, .int p1)]) hx hb dL_elementOf_7 rfl hl (by decide) rfl (fun ls hl => ?_)
      refine lv_ldc hx hb hown hc_1 dL_elementOf_8 ?_
      have hP9 : va_P (dC, dI) vwCl (hp_X cI cZ cO o b ad v r n) H1 := by exact hP1
      have hD9 : va_D A (hp_X cI cZ cO o b ad v r n) := by exact hD
      exact vx_ret (W.iret (v := hp_K1) hx hb hr (fun t9 ht9 hW9 => ⟨⟨_, ad, rfl, hp_w1 hC, hp_ht ht9 hP9, hD9⟩, hS1.F ht9⟩) hS1.2.2 dL_elementOf_10)
    · cases Option.some.inj hk
      have hne : ¬ hp_c_elementOf n p0 p1 = 0 := fun q => absurd (hC.symm.trans q) (by decide)
      refine vx_catch (own := RL) (name := hp_E2) hown [⟨0, 6, 7, 13⟩] ⟨0, 6, 11, 16⟩ [] (htb.trans rfl) (fun z hz => by
          simp only [List.mem_cons, List.not_mem_nil, or_false] at hz
          subst hz
          · exact Or.inr ⟨by decide, hp_E1, hk_1, hnc.1⟩) (by decide) (by decide) hk_2 (va_Nw.use rfl hN.2.2.2.2.1) hce hcv hcl ?_
      refine W.eq (g2 := F0 m 11 ls [.ref q9]) rfl ?_
      refine lv_astore_n (lv' := [(3, .ref q9), (0, .ref o), (1, .int p0), (2, .int p1)]) hx hb dL_elementOf_11 rfl hl (by decide) rfl (fun ls hl => ?_)
      refine lv_ldc hx hb hown hc_2 dL_elementOf_12 ?_
      have hP9 : va_P (dC, dI) vwCl (hp_X cI cZ cO o b ad v r n) H1 := by exact hP1
      have hD9 : va_D A (hp_X cI cZ cO o b ad v r n) := by exact hD
      exact vx_ret (W.iret (v := hp_K2) hx hb hr (fun t9 ht9 hW9 => ⟨⟨_, ad, rfl, hp_w2 hC, hp_ht ht9 hP9, hD9⟩, hS1.F ht9⟩) hS1.2.2 dL_elementOf_14)
    · simp at hk
  · obtain ⟨hc, rfl⟩ := hw
    obtain ⟨hPx, hDx⟩ := hB
    have hP1 := hp_th ht hPx
    have hD1 : va_D A (hp_X cI cZ cO o b u v r n) := hDx.weaken (fun k q _ h => hFc q.1 h)
    clear hP hD hPx hDx ht hFc
    exact vx_ret (W.iret (v := hp_a_elementOf r n p0 p1) hx hb hr (fun t9 ht9 hW9 => ⟨⟨_, u, rfl, (hp_w0 hc).symm, hp_ht ht9 hP1, hD1⟩, hS1.F ht9⟩) hS1.2.2 dL_elementOf_6)
set_option maxHeartbeats 400000 in
set_option maxRecDepth 100000 in
theorem c_L_clash (l : Launch) (hl0 : l.stackTraces = false) (dC : Nat → ClassId) (dI : Nat → Nat → Nat) (cI cZ cO cJ : ClassId) (o : Nat) (b ad : Nat → Nat) (v : Nat → Int32) (r : Nat → Nat → Int32) (n sz : Nat) (p0 p1 : Int32) (hinv : hp_inv v r n) : vx_Met l yL_clash wsL_clash ({ frames := 7, cells := 1, slots := 6, locals := 115 }) (va_Pc [.ref o, .int p0, .int p1] (hp_prL (dC, dI) cI cZ cO cJ (hp_X cI cZ cO o b ad v r n) sz)) (va_Qi (S := Nat → Nat) (fun x9 _ => x9 = hp_w hp_K1 hp_K1 hp_K1 (hp_c_clash n p0 p1) (hp_b (hp_b_clash r n p0 p1))) (fun u9 t9 => va_P (dC, dI) vwCl (hp_X cI cZ cO o b u9 v r n) t9.heap ∧ va_D (va_A (hp_X cI cZ cO o b ad v r n) sz) (hp_X cI cZ cO o b u9 v r n)) (va_A (hp_X cI cZ cO o b ad v r n) sz)) (vx_X (S := Unit) (fun _ => False) (fun _ _ _ => True) (va_A (hp_X cI cZ cO o b ad v r n) sz)) 1 6 (va_A (hp_X cI cZ cO o b ad v r n) sz) := by
  refine vx_ofWH (cc := cL_clash) (maxL := 4) (ret := some .int) (hh := [(0, 14, 15, 13)]) (by decide) rfl ?_
  intro p e s m args below meth c s₁ B hml hv
  obtain ⟨rfl, ⟨hsz, hP, hK, hD0, hN, hstr, hZu, hZn⟩, hnc⟩ := hv
  have hx := B.exec
  have hb := B.bytes
  have hr := B.returns
  have hts := atoms_spec (ws := wsL_clash) B.pre
  have hown : s.vm.findClass RL = some m.cls := findClass_of_methodNamed B.named
  have hlocks := B.notSynchronized
  have htb := vx_table (x := yL_clash) B (hts _ List.mem_cons_self)
  subst hsz
  have hD := hD0.self (sz := s.heap.size)
  generalize hAe : va_A (hp_X cI cZ cO o b ad v r n) s.heap.size = A at hD hZu hZn ⊢
  have hA : ∀ q : Nat, s.heap.size ≤ q → A q := fun q h => by rw [← hAe]; exact Or.inr h
  have hS : va_S A s.heap s.heap [] := va_S.rf
  have hk_1 := hts (.classLink RL 13 hp_E1) (by decide +kernel)
  have hc_1 := hts (.constant RL 15 (-2000000001)) (by decide +kernel)
  have hl := lv_entry ([.ref o, .int p0, .int p1]) (n := 4) (Nat.le_of_ble_eq_true rfl)
  rw [lg_entry_eq]
  generalize (lg_sl ([.ref o, .int p0, .int p1]) ++ List.replicate (4 - (lg_sl ([.ref o, .int p0, .int p1])).length) Slot.unset).toArray = ls at hl ⊢
  have hl : lv_has ls 4 [(0, .ref o), (1, .int p0), (2, .int p1)] := hl
  refine lv_aload_n hx hb dL_clash_0 rfl (lv_at hl 0 rfl) ?_
  refine lv_iload_n hx hb dL_clash_1 rfl (lv_at hl 1 rfl) ?_
  refine lv_iload_n hx hb dL_clash_2 rfl (lv_at hl 2 rfl) ?_
  have hFc := hp_free hD hS hA
  refine vx_calli (vx_runV (As := [.int p0, .int p1]) (rest := []) ⟨hx, hb, hml, hown, hts⟩ (c_X1_clash l hl0 dC dI cI cZ cO cJ o b ad v r n s.heap.size p0 p1 hinv) (cwV 2 hts gL_clash_X1_clash rfl rfl rfl (by decide +kernel) ⟨(Nat.le_of_ble_eq_true rfl), (Nat.le_of_ble_eq_true rfl)⟩) ⟨hp_fbT, va_recv hK hP (ci := 1) (q0 := 0) rfl hp_X_o, fun U hU hW => ⟨rfl, hp_toT hP hK hD hN hstr hZu hZn hS hA hU hW⟩⟩ rfl rfl hl.1 rfl (lv_room (Nat.le_of_ble_eq_true rfl)) dL_clash_3 ⟨(Nat.le_of_ble_eq_true rfl), (Nat.le_of_ble_eq_true rfl)⟩) hS (fun q _ h => hFc q h) hFc (fun q _ h => hFc q h) (fun E ce q9 u t H1 locs1 ht _ _ hBX _ _ hS1 hce hcv hcl => ?_) (fun r9 u t H1 locs1 ht _ hw hB _ _ hS1 => ?_)
  · obtain ⟨⟨k, hk, hC⟩, hPx⟩ := hBX
    have hP1 := hp_th ht hPx
    clear hP hPx ht
    rcases k with _ | k
    · cases Option.some.inj hk
      have hne : ¬ hp_c_clash n p0 p1 = 0 := fun q => absurd (hC.symm.trans q) (by decide)
      refine vx_catch (own := RL) (name := hp_E1) hown [] ⟨0, 14, 15, 13⟩ [] (htb.trans rfl) (fun z hz => nomatch hz) (by decide) (by decide) hk_1 (va_Nw.use rfl hN.2.2.2.1) hce hcv hcl ?_
      refine W.eq (g2 := F0 m 15 ls [.ref q9]) rfl ?_
      refine lv_astore_n (lv' := [(3, .ref q9), (0, .ref o), (1, .int p0), (2, .int p1)]) hx hb dL_clash_15 rfl hl (by decide) rfl (fun ls hl => ?_)
      refine lv_ldc hx hb hown hc_1 dL_clash_16 ?_
      have hP9 : va_P (dC, dI) vwCl (hp_X cI cZ cO o b ad v r n) H1 := by exact hP1
      have hD9 : va_D A (hp_X cI cZ cO o b ad v r n) := by exact hD
      exact vx_ret (W.iret (v := hp_K1) hx hb hr (fun t9 ht9 hW9 => ⟨⟨_, ad, rfl, hp_w1 hC, hp_ht ht9 hP9, hD9⟩, hS1.F ht9⟩) hS1.2.2 dL_clash_18)
    · simp at hk
  · obtain ⟨hc, rfl⟩ := hw
    obtain ⟨hPx, hDx⟩ := hB
    have hP1 := hp_th ht hPx
    have hD1 : va_D A (hp_X cI cZ cO o b u v r n) := hDx.weaken (fun k q _ h => hFc q.1 h)
    clear hP hD hPx hDx ht hFc
    refine lv_if_eq (tgt := 13) hx hb dL_clash_6 (by decide) (fun q => ?_) (fun q => ?_)
    · refine lv_iconst (v := 0) hx hb dL_clash_13 (by decide) ?_
      exact vx_ret (W.iret (v := 0) hx hb hr (fun t9 ht9 hW9 => ⟨⟨_, u, rfl, ((hp_w0 hc).trans q).symm, hp_ht ht9 hP1, hD1⟩, hS1.F ht9⟩) hS1.2.2 dL_clash_14)
    · refine lv_iconst (v := 1) hx hb dL_clash_9 (by decide) ?_
      refine lv_goto (tgt := 14) hx hb dL_clash_10 (by decide) ?_
      exact vx_ret (W.iret (v := 1) hx hb hr (fun t9 ht9 hW9 => ⟨⟨_, u, rfl, ((hp_w0 hc).trans (hp_bt (hp_bn q))).symm, hp_ht ht9 hP1, hD1⟩, hS1.F ht9⟩) hS1.2.2 dL_clash_14)
set_option maxHeartbeats 400000 in
set_option maxRecDepth 100000 in
theorem c_L_clashes (l : Launch) (hl0 : l.stackTraces = false) (dC : Nat → ClassId) (dI : Nat → Nat → Nat) (cI cZ cO cJ : ClassId) (o : Nat) (b ad : Nat → Nat) (v : Nat → Int32) (r : Nat → Nat → Int32) (n sz : Nat) (p0 : Int32) (hinv : hp_inv v r n) : vx_Met l yL_clashes wsL_clashes ({ frames := 7, cells := 1, slots := 6, locals := 139 }) (va_Pc [.ref o, .int p0] (hp_prL (dC, dI) cI cZ cO cJ (hp_X cI cZ cO o b ad v r n) sz)) (va_Qi (S := Nat → Nat) (fun x9 _ => x9 = hp_w hp_K1 hp_K1 hp_K1 (hp_c_st p0) (hp_a_clashes r n p0)) (fun u9 t9 => va_P (dC, dI) vwCl (hp_X cI cZ cO o b u9 v r n) t9.heap ∧ va_D (va_A (hp_X cI cZ cO o b ad v r n) sz) (hp_X cI cZ cO o b u9 v r n)) (va_A (hp_X cI cZ cO o b ad v r n) sz)) (vx_X (S := Unit) (fun _ => False) (fun _ _ _ => True) (va_A (hp_X cI cZ cO o b ad v r n) sz)) 1 6 (va_A (hp_X cI cZ cO o b ad v r n) sz) := by
  refine vx_ofWH (cc := cL_clashes) (maxL := 3) (ret := some .int) (hh := [(0, 5, 6, 13)]) (by decide) rfl ?_
  intro p e s m args below meth c s₁ B hml hv
  obtain ⟨rfl, ⟨hsz, hP, hK, hD0, hN, hstr, hZu, hZn⟩, hnc⟩ := hv
  have hx := B.exec
  have hb := B.bytes
  have hr := B.returns
  have hts := atoms_spec (ws := wsL_clashes) B.pre
  have hown : s.vm.findClass RL = some m.cls := findClass_of_methodNamed B.named
  have hlocks := B.notSynchronized
  have htb := vx_table (x := yL_clashes) B (hts _ List.mem_cons_self)
  subst hsz
  have hD := hD0.self (sz := s.heap.size)
  generalize hAe : va_A (hp_X cI cZ cO o b ad v r n) s.heap.size = A at hD hZu hZn ⊢
  have hA : ∀ q : Nat, s.heap.size ≤ q → A q := fun q h => by rw [← hAe]; exact Or.inr h
  have hS : va_S A s.heap s.heap [] := va_S.rf
  have hk_1 := hts (.classLink RL 13 hp_E1) (by decide +kernel)
  have hc_1 := hts (.constant RL 15 (-2000000001)) (by decide +kernel)
  have hl := lv_entry ([.ref o, .int p0]) (n := 3) (Nat.le_of_ble_eq_true rfl)
  rw [lg_entry_eq]
  generalize (lg_sl ([.ref o, .int p0]) ++ List.replicate (3 - (lg_sl ([.ref o, .int p0])).length) Slot.unset).toArray = ls at hl ⊢
  have hl : lv_has ls 3 [(0, .ref o), (1, .int p0)] := hl
  refine lv_aload_n hx hb dL_clashes_0 rfl (lv_at hl 0 rfl) ?_
  refine lv_iload_n hx hb dL_clashes_1 rfl (lv_at hl 1 rfl) ?_
  have hFc := hp_free hD hS hA
  refine vx_calli (vx_runV (As := [.int p0]) (rest := []) ⟨hx, hb, hml, hown, hts⟩ (c_X1_clashes l hl0 dC dI cI cZ cO cJ o b ad v r n s.heap.size p0 hinv) (cwV 1 hts gL_clashes_X1_clashes rfl rfl rfl (by decide +kernel) ⟨(Nat.le_of_ble_eq_true rfl), (Nat.le_of_ble_eq_true rfl)⟩) ⟨hp_fbT, va_recv hK hP (ci := 1) (q0 := 0) rfl hp_X_o, fun U hU hW => ⟨rfl, hp_toT hP hK hD hN hstr hZu hZn hS hA hU hW⟩⟩ rfl rfl hl.1 rfl (lv_room (Nat.le_of_ble_eq_true rfl)) dL_clashes_2 ⟨(Nat.le_of_ble_eq_true rfl), (Nat.le_of_ble_eq_true rfl)⟩) hS (fun q _ h => hFc q h) hFc (fun q _ h => hFc q h) (fun E ce q9 u t H1 locs1 ht _ _ hBX _ _ hS1 hce hcv hcl => ?_) (fun r9 u t H1 locs1 ht _ hw hB _ _ hS1 => ?_)
  · obtain ⟨⟨k, hk, hC⟩, hPx⟩ := hBX
    have hP1 := hp_th ht hPx
    clear hP hPx ht
    rcases k with _ | k
    · cases Option.some.inj hk
      have hne : ¬ hp_c_st p0 = 0 := fun q => absurd (hC.symm.trans q) (by decide)
      refine vx_catch (own := RL) (name := hp_E1) hown [] ⟨0, 5, 6, 13⟩ [] (htb.trans rfl) (fun z hz => nomatch hz) (by decide) (by decide) hk_1 (va_Nw.use rfl hN.2.2.2.1) hce hcv hcl ?_
      refine W.eq (g2 := F0 m 6 ls [.ref q9]) rfl ?_
      refine lv_astore_n (lv' := [(2, .ref q9), (0, .ref o), (1, .int p0)]) hx hb dL_clashes_6 rfl hl (by decide) rfl (fun ls hl => ?_)
      refine lv_ldc hx hb hown hc_1 dL_clashes_7 ?_
      have hP9 : va_P (dC, dI) vwCl (hp_X cI cZ cO o b ad v r n) H1 := by exact hP1
      have hD9 : va_D A (hp_X cI cZ cO o b ad v r n) := by exact hD
      exact vx_ret (W.iret (v := hp_K1) hx hb hr (fun t9 ht9 hW9 => ⟨⟨_, ad, rfl, hp_w1 hC, hp_ht ht9 hP9, hD9⟩, hS1.F ht9⟩) hS1.2.2 dL_clashes_9)
    · simp at hk
  · obtain ⟨hc, rfl⟩ := hw
    obtain ⟨hPx, hDx⟩ := hB
    have hP1 := hp_th ht hPx
    have hD1 : va_D A (hp_X cI cZ cO o b u v r n) := hDx.weaken (fun k q _ h => hFc q.1 h)
    clear hP hD hPx hDx ht hFc
    exact vx_ret (W.iret (v := hp_a_clashes r n p0) hx hb hr (fun t9 ht9 hW9 => ⟨⟨_, u, rfl, (hp_w0 hc).symm, hp_ht ht9 hP1, hD1⟩, hS1.F ht9⟩) hS1.2.2 dL_clashes_5)
set_option maxHeartbeats 400000 in
set_option maxRecDepth 100000 in
theorem c_L_isStopped (l : Launch) (hl0 : l.stackTraces = false) (dC : Nat → ClassId) (dI : Nat → Nat → Nat) (cI cZ cO cJ : ClassId) (o : Nat) (b ad : Nat → Nat) (v : Nat → Int32) (r : Nat → Nat → Int32) (n sz : Nat) (p0 p1 : Int32) (hinv : hp_inv v r n) : vx_Met l yL_isStopped wsL_isStopped ({ frames := 7, cells := 1, slots := 6, locals := 139 }) (va_Pc [.ref o, .int p0, .int p1] (hp_prL (dC, dI) cI cZ cO cJ (hp_X cI cZ cO o b ad v r n) sz)) (va_Qi (S := Nat → Nat) (fun x9 _ => x9 = hp_w hp_K1 hp_K1 hp_K1 (hp_c_stopped p0 p1) (hp_b (hp_b_stopped r n p0 p1))) (fun u9 t9 => va_P (dC, dI) vwCl (hp_X cI cZ cO o b u9 v r n) t9.heap ∧ va_D (va_A (hp_X cI cZ cO o b ad v r n) sz) (hp_X cI cZ cO o b u9 v r n)) (va_A (hp_X cI cZ cO o b ad v r n) sz)) (vx_X (S := Unit) (fun _ => False) (fun _ _ _ => True) (va_A (hp_X cI cZ cO o b ad v r n) sz)) 1 6 (va_A (hp_X cI cZ cO o b ad v r n) sz) := by
  refine vx_ofWH (cc := cL_isStopped) (maxL := 4) (ret := some .int) (hh := [(0, 14, 15, 13)]) (by decide) rfl ?_
  intro p e s m args below meth c s₁ B hml hv
  obtain ⟨rfl, ⟨hsz, hP, hK, hD0, hN, hstr, hZu, hZn⟩, hnc⟩ := hv
  have hx := B.exec
  have hb := B.bytes
  have hr := B.returns
  have hts := atoms_spec (ws := wsL_isStopped) B.pre
  have hown : s.vm.findClass RL = some m.cls := findClass_of_methodNamed B.named
  have hlocks := B.notSynchronized
  have htb := vx_table (x := yL_isStopped) B (hts _ List.mem_cons_self)
  subst hsz
  have hD := hD0.self (sz := s.heap.size)
  generalize hAe : va_A (hp_X cI cZ cO o b ad v r n) s.heap.size = A at hD hZu hZn ⊢
  have hA : ∀ q : Nat, s.heap.size ≤ q → A q := fun q h => by rw [← hAe]; exact Or.inr h
  have hS : va_S A s.heap s.heap [] := va_S.rf
  have hk_1 := hts (.classLink RL 13 hp_E1) (by decide +kernel)
  have hc_1 := hts (.constant RL 15 (-2000000001)) (by decide +kernel)
  have hl := lv_entry ([.ref o, .int p0, .int p1]) (n := 4) (Nat.le_of_ble_eq_true rfl)
  rw [lg_entry_eq]
  generalize (lg_sl ([.ref o, .int p0, .int p1]) ++ List.replicate (4 - (lg_sl ([.ref o, .int p0, .int p1])).length) Slot.unset).toArray = ls at hl ⊢
  have hl : lv_has ls 4 [(0, .ref o), (1, .int p0), (2, .int p1)] := hl
  refine lv_aload_n hx hb dL_isStopped_0 rfl (lv_at hl 0 rfl) ?_
  refine lv_iload_n hx hb dL_isStopped_1 rfl (lv_at hl 1 rfl) ?_
  refine lv_iload_n hx hb dL_isStopped_2 rfl (lv_at hl 2 rfl) ?_
  have hFc := hp_free hD hS hA
  refine vx_calli (vx_runV (As := [.int p0, .int p1]) (rest := []) ⟨hx, hb, hml, hown, hts⟩ (c_X1_isStopped l hl0 dC dI cI cZ cO cJ o b ad v r n s.heap.size p0 p1 hinv) (cwV 2 hts gL_isStopped_X1_isStopped rfl rfl rfl (by decide +kernel) ⟨(Nat.le_of_ble_eq_true rfl), (Nat.le_of_ble_eq_true rfl)⟩) ⟨hp_fbT, va_recv hK hP (ci := 1) (q0 := 0) rfl hp_X_o, fun U hU hW => ⟨rfl, hp_toT hP hK hD hN hstr hZu hZn hS hA hU hW⟩⟩ rfl rfl hl.1 rfl (lv_room (Nat.le_of_ble_eq_true rfl)) dL_isStopped_3 ⟨(Nat.le_of_ble_eq_true rfl), (Nat.le_of_ble_eq_true rfl)⟩) hS (fun q _ h => hFc q h) hFc (fun q _ h => hFc q h) (fun E ce q9 u t H1 locs1 ht _ _ hBX _ _ hS1 hce hcv hcl => ?_) (fun r9 u t H1 locs1 ht _ hw hB _ _ hS1 => ?_)
  · obtain ⟨⟨k, hk, hC⟩, hPx⟩ := hBX
    have hP1 := hp_th ht hPx
    clear hP hPx ht
    rcases k with _ | k
    · cases Option.some.inj hk
      have hne : ¬ hp_c_stopped p0 p1 = 0 := fun q => absurd (hC.symm.trans q) (by decide)
      refine vx_catch (own := RL) (name := hp_E1) hown [] ⟨0, 14, 15, 13⟩ [] (htb.trans rfl) (fun z hz => nomatch hz) (by decide) (by decide) hk_1 (va_Nw.use rfl hN.2.2.2.1) hce hcv hcl ?_
      refine W.eq (g2 := F0 m 15 ls [.ref q9]) rfl ?_
      refine lv_astore_n (lv' := [(3, .ref q9), (0, .ref o), (1, .int p0), (2, .int p1)]) hx hb dL_isStopped_15 rfl hl (by decide) rfl (fun ls hl => ?_)
      refine lv_ldc hx hb hown hc_1 dL_isStopped_16 ?_
      have hP9 : va_P (dC, dI) vwCl (hp_X cI cZ cO o b ad v r n) H1 := by exact hP1
      have hD9 : va_D A (hp_X cI cZ cO o b ad v r n) := by exact hD
      exact vx_ret (W.iret (v := hp_K1) hx hb hr (fun t9 ht9 hW9 => ⟨⟨_, ad, rfl, hp_w1 hC, hp_ht ht9 hP9, hD9⟩, hS1.F ht9⟩) hS1.2.2 dL_isStopped_18)
    · simp at hk
  · obtain ⟨hc, rfl⟩ := hw
    obtain ⟨hPx, hDx⟩ := hB
    have hP1 := hp_th ht hPx
    have hD1 : va_D A (hp_X cI cZ cO o b u v r n) := hDx.weaken (fun k q _ h => hFc q.1 h)
    clear hP hD hPx hDx ht hFc
    refine lv_if_eq (tgt := 13) hx hb dL_isStopped_6 (by decide) (fun q => ?_) (fun q => ?_)
    · refine lv_iconst (v := 0) hx hb dL_isStopped_13 (by decide) ?_
      exact vx_ret (W.iret (v := 0) hx hb hr (fun t9 ht9 hW9 => ⟨⟨_, u, rfl, ((hp_w0 hc).trans q).symm, hp_ht ht9 hP1, hD1⟩, hS1.F ht9⟩) hS1.2.2 dL_isStopped_14)
    · refine lv_iconst (v := 1) hx hb dL_isStopped_9 (by decide) ?_
      refine lv_goto (tgt := 14) hx hb dL_isStopped_10 (by decide) ?_
      exact vx_ret (W.iret (v := 1) hx hb hr (fun t9 ht9 hW9 => ⟨⟨_, u, rfl, ((hp_w0 hc).trans (hp_bt (hp_bn q))).symm, hp_ht ht9 hP1, hD1⟩, hS1.F ht9⟩) hS1.2.2 dL_isStopped_14)
set_option maxHeartbeats 400000 in
set_option maxRecDepth 100000 in
theorem c_L_parts (l : Launch) (hl0 : l.stackTraces = false) (dC : Nat → ClassId) (dI : Nat → Nat → Nat) (cI cZ cO cJ : ClassId) (o : Nat) (b ad : Nat → Nat) (v : Nat → Int32) (r : Nat → Nat → Int32) (n sz : Nat) (p0 : Int32) (hinv : hp_inv v r n) : vx_Met l yL_parts wsL_parts ({ frames := 7, cells := 1, slots := 6, locals := 111 }) (va_Pc [.ref o, .int p0] (hp_prL (dC, dI) cI cZ cO cJ (hp_X cI cZ cO o b ad v r n) sz)) (va_Qi (S := Nat → Nat) (fun x9 _ => x9 = hp_w hp_K1 hp_K1 hp_K1 (hp_c_kd p0) (hp_a_parts r n p0 0)) (fun u9 t9 => va_P (dC, dI) vwCl (hp_X cI cZ cO o b u9 v r n) t9.heap ∧ va_D (va_A (hp_X cI cZ cO o b ad v r n) sz) (hp_X cI cZ cO o b u9 v r n)) (va_A (hp_X cI cZ cO o b ad v r n) sz)) (vx_X (S := Unit) (fun _ => False) (fun _ _ _ => True) (va_A (hp_X cI cZ cO o b ad v r n) sz)) 1 6 (va_A (hp_X cI cZ cO o b ad v r n) sz) := by
  refine vx_ofWH (cc := cL_parts) (maxL := 3) (ret := some .int) (hh := [(0, 5, 6, 13)]) (by decide) rfl ?_
  intro p e s m args below meth c s₁ B hml hv
  obtain ⟨rfl, ⟨hsz, hP, hK, hD0, hN, hstr, hZu, hZn⟩, hnc⟩ := hv
  have hx := B.exec
  have hb := B.bytes
  have hr := B.returns
  have hts := atoms_spec (ws := wsL_parts) B.pre
  have hown : s.vm.findClass RL = some m.cls := findClass_of_methodNamed B.named
  have hlocks := B.notSynchronized
  have htb := vx_table (x := yL_parts) B (hts _ List.mem_cons_self)
  subst hsz
  have hD := hD0.self (sz := s.heap.size)
  generalize hAe : va_A (hp_X cI cZ cO o b ad v r n) s.heap.size = A at hD hZu hZn ⊢
  have hA : ∀ q : Nat, s.heap.size ≤ q → A q := fun q h => by rw [← hAe]; exact Or.inr h
  have hS : va_S A s.heap s.heap [] := va_S.rf
  have hk_1 := hts (.classLink RL 13 hp_E1) (by decide +kernel)
  have hc_1 := hts (.constant RL 15 (-2000000001)) (by decide +kernel)
  have hl := lv_entry ([.ref o, .int p0]) (n := 3) (Nat.le_of_ble_eq_true rfl)
  rw [lg_entry_eq]
  generalize (lg_sl ([.ref o, .int p0]) ++ List.replicate (3 - (lg_sl ([.ref o, .int p0])).length) Slot.unset).toArray = ls at hl ⊢
  have hl : lv_has ls 3 [(0, .ref o), (1, .int p0)] := hl
  refine lv_aload_n hx hb dL_parts_0 rfl (lv_at hl 0 rfl) ?_
  refine lv_iload_n hx hb dL_parts_1 rfl (lv_at hl 1 rfl) ?_
  have hFc := hp_free hD hS hA
  refine vx_calli (vx_runV (As := [.int p0]) (rest := []) ⟨hx, hb, hml, hown, hts⟩ (c_X1_parts l hl0 dC dI cI cZ cO cJ o b ad v r n s.heap.size p0 hinv) (cwV 1 hts gL_parts_X1_parts rfl rfl rfl (by decide +kernel) ⟨(Nat.le_of_ble_eq_true rfl), (Nat.le_of_ble_eq_true rfl)⟩) ⟨hp_fbT, va_recv hK hP (ci := 1) (q0 := 0) rfl hp_X_o, fun U hU hW => ⟨rfl, hp_toT hP hK hD hN hstr hZu hZn hS hA hU hW⟩⟩ rfl rfl hl.1 rfl (lv_room (Nat.le_of_ble_eq_true rfl)) dL_parts_2 ⟨(Nat.le_of_ble_eq_true rfl), (Nat.le_of_ble_eq_true rfl)⟩) hS (fun q _ h => hFc q h) hFc (fun q _ h => hFc q h) (fun E ce q9 u t H1 locs1 ht _ _ hBX _ _ hS1 hce hcv hcl => ?_) (fun r9 u t H1 locs1 ht _ hw hB _ _ hS1 => ?_)
  · obtain ⟨⟨k, hk, hC⟩, hPx⟩ := hBX
    have hP1 := hp_th ht hPx
    clear hP hPx ht
    rcases k with _ | k
    · cases Option.some.inj hk
      have hne : ¬ hp_c_kd p0 = 0 := fun q => absurd (hC.symm.trans q) (by decide)
      refine vx_catch (own := RL) (name := hp_E1) hown [] ⟨0, 5, 6, 13⟩ [] (htb.trans rfl) (fun z hz => nomatch hz) (by decide) (by decide) hk_1 (va_Nw.use rfl hN.2.2.2.1) hce hcv hcl ?_
      refine W.eq (g2 := F0 m 6 ls [.ref q9]) rfl ?_
      refine lv_astore_n (lv' := [(2, .ref q9), (0, .ref o), (1, .int p0)]) hx hb dL_parts_6 rfl hl (by decide) rfl (fun ls hl => ?_)
      refine lv_ldc hx hb hown hc_1 dL_parts_7 ?_
      have hP9 : va_P (dC, dI) vwCl (hp_X cI cZ cO o b ad v r n) H1 := by exact hP1
      have hD9 : va_D A (hp_X cI cZ cO o b ad v r n) := by exact hD
      exact vx_ret (W.iret (v := hp_K1) hx hb hr (fun t9 ht9 hW9 => ⟨⟨_, ad, rfl, hp_w1 hC, hp_ht ht9 hP9, hD9⟩, hS1.F ht9⟩) hS1.2.2 dL_parts_9)
    · simp at hk
  · obtain ⟨hc, rfl⟩ := hw
    obtain ⟨hPx, hDx⟩ := hB
    have hP1 := hp_th ht hPx
    have hD1 : va_D A (hp_X cI cZ cO o b u v r n) := hDx.weaken (fun k q _ h => hFc q.1 h)
    clear hP hD hPx hDx ht hFc
    exact vx_ret (W.iret (v := hp_a_parts r n p0 0) hx hb hr (fun t9 ht9 hW9 => ⟨⟨_, u, rfl, (hp_w0 hc).symm, hp_ht ht9 hP1, hD1⟩, hS1.F ht9⟩) hS1.2.2 dL_parts_5)
set_option maxHeartbeats 400000 in
set_option maxRecDepth 100000 in
theorem c_L_anew (l : Launch) (hl0 : l.stackTraces = false) (dC : Nat → ClassId) (dI : Nat → Nat → Nat) (cI cZ cO cJ : ClassId) (o : Nat) (b ad : Nat → Nat) (v : Nat → Int32) (r : Nat → Nat → Int32) (n sz : Nat) (p0 : Int32) (hinv : hp_inv v r n) : vx_Met l yL_anew wsL_anew ({ frames := 7, cells := 1, slots := 6, locals := 106 }) (va_Pc [.ref o, .int p0] (hp_prL (dC, dI) cI cZ cO cJ (hp_X cI cZ cO o b ad v r n) sz)) (va_Qi (S := Nat → Nat) (fun x9 _ => x9 = hp_w hp_K1 hp_K1 hp_K1 (hp_c_kd p0) (hp_a_parts r n p0 0)) (fun u9 t9 => va_P (dC, dI) vwCl (hp_X cI cZ cO o b u9 v r n) t9.heap ∧ va_D (va_A (hp_X cI cZ cO o b ad v r n) sz) (hp_X cI cZ cO o b u9 v r n)) (va_A (hp_X cI cZ cO o b ad v r n) sz)) (vx_X (S := Unit) (fun _ => False) (fun _ _ _ => True) (va_A (hp_X cI cZ cO o b ad v r n) sz)) 1 6 (va_A (hp_X cI cZ cO o b ad v r n) sz) := by
  refine vx_ofWH (cc := cL_anew) (maxL := 3) (ret := some .int) (hh := [(0, 5, 6, 13)]) (by decide) rfl ?_
  intro p e s m args below meth c s₁ B hml hv
  obtain ⟨rfl, ⟨hsz, hP, hK, hD0, hN, hstr, hZu, hZn⟩, hnc⟩ := hv
  have hx := B.exec
  have hb := B.bytes
  have hr := B.returns
  have hts := atoms_spec (ws := wsL_anew) B.pre
  have hown : s.vm.findClass RL = some m.cls := findClass_of_methodNamed B.named
  have hlocks := B.notSynchronized
  have htb := vx_table (x := yL_anew) B (hts _ List.mem_cons_self)
  subst hsz
  have hD := hD0.self (sz := s.heap.size)
  generalize hAe : va_A (hp_X cI cZ cO o b ad v r n) s.heap.size = A at hD hZu hZn ⊢
  have hA : ∀ q : Nat, s.heap.size ≤ q → A q := fun q h => by rw [← hAe]; exact Or.inr h
  have hS : va_S A s.heap s.heap [] := va_S.rf
  have hk_1 := hts (.classLink RL 13 hp_E1) (by decide +kernel)
  have hc_1 := hts (.constant RL 15 (-2000000001)) (by decide +kernel)
  have hl := lv_entry ([.ref o, .int p0]) (n := 3) (Nat.le_of_ble_eq_true rfl)
  rw [lg_entry_eq]
  generalize (lg_sl ([.ref o, .int p0]) ++ List.replicate (3 - (lg_sl ([.ref o, .int p0])).length) Slot.unset).toArray = ls at hl ⊢
  have hl : lv_has ls 3 [(0, .ref o), (1, .int p0)] := hl
  refine lv_aload_n hx hb dL_anew_0 rfl (lv_at hl 0 rfl) ?_
  refine lv_iload_n hx hb dL_anew_1 rfl (lv_at hl 1 rfl) ?_
  have hFc := hp_free hD hS hA
  refine vx_calli (vx_runV (As := [.int p0]) (rest := []) ⟨hx, hb, hml, hown, hts⟩ (c_X1_partsAnew l hl0 dC dI cI cZ cO cJ o b ad v r n s.heap.size p0 hinv) (cwV 1 hts gL_anew_X1_partsAnew rfl rfl rfl (by decide +kernel) ⟨(Nat.le_of_ble_eq_true rfl), (Nat.le_of_ble_eq_true rfl)⟩) ⟨hp_fbT, va_recv hK hP (ci := 1) (q0 := 0) rfl hp_X_o, fun U hU hW => ⟨rfl, hp_toT hP hK hD hN hstr hZu hZn hS hA hU hW⟩⟩ rfl rfl hl.1 rfl (lv_room (Nat.le_of_ble_eq_true rfl)) dL_anew_2 ⟨(Nat.le_of_ble_eq_true rfl), (Nat.le_of_ble_eq_true rfl)⟩) hS (fun q _ h => hFc q h) hFc (fun q _ h => hFc q h) (fun E ce q9 u t H1 locs1 ht _ _ hBX _ _ hS1 hce hcv hcl => ?_) (fun r9 u t H1 locs1 ht _ hw hB _ _ hS1 => ?_)
  · obtain ⟨⟨k, hk, hC⟩, hPx⟩ := hBX
    have hP1 := hp_th ht hPx
    clear hP hPx ht
    rcases k with _ | k
    · cases Option.some.inj hk
      have hne : ¬ hp_c_kd p0 = 0 := fun q => absurd (hC.symm.trans q) (by decide)
      refine vx_catch (own := RL) (name := hp_E1) hown [] ⟨0, 5, 6, 13⟩ [] (htb.trans rfl) (fun z hz => nomatch hz) (by decide) (by decide) hk_1 (va_Nw.use rfl hN.2.2.2.1) hce hcv hcl ?_
      refine W.eq (g2 := F0 m 6 ls [.ref q9]) rfl ?_
      refine lv_astore_n (lv' := [(2, .ref q9), (0, .ref o), (1, .int p0)]) hx hb dL_anew_6 rfl hl (by decide) rfl (fun ls hl => ?_)
      refine lv_ldc hx hb hown hc_1 dL_anew_7 ?_
      have hP9 : va_P (dC, dI) vwCl (hp_X cI cZ cO o b ad v r n) H1 := by exact hP1
      have hD9 : va_D A (hp_X cI cZ cO o b ad v r n) := by exact hD
      exact vx_ret (W.iret (v := hp_K1) hx hb hr (fun t9 ht9 hW9 => ⟨⟨_, ad, rfl, hp_w1 hC, hp_ht ht9 hP9, hD9⟩, hS1.F ht9⟩) hS1.2.2 dL_anew_9)
    · simp at hk
  · obtain ⟨hc, rfl⟩ := hw
    obtain ⟨hPx, hDx⟩ := hB
    have hP1 := hp_th ht hPx
    have hD1 : va_D A (hp_X cI cZ cO o b u v r n) := hDx.weaken (fun k q _ h => hFc q.1 h)
    clear hP hD hPx hDx ht hFc
    exact vx_ret (W.iret (v := hp_a_parts r n p0 0) hx hb hr (fun t9 ht9 hW9 => ⟨⟨_, u, rfl, (hp_w0 hc).symm, hp_ht ht9 hP1, hD1⟩, hS1.F ht9⟩) hS1.2.2 dL_anew_5)
set_option maxHeartbeats 400000 in
set_option maxRecDepth 100000 in
theorem c_L_ordered (l : Launch) (hl0 : l.stackTraces = false) (dC : Nat → ClassId) (dI : Nat → Nat → Nat) (cI cZ cO cJ : ClassId) (o : Nat) (b ad : Nat → Nat) (v : Nat → Int32) (r : Nat → Nat → Int32) (n sz : Nat) (p0 : Int32) (hinv : hp_inv v r n) : vx_Met l yL_ordered wsL_ordered ({ frames := 7, cells := 1, slots := 6, locals := 111 }) (va_Pc [.ref o, .int p0] (hp_prL (dC, dI) cI cZ cO cJ (hp_X cI cZ cO o b ad v r n) sz)) (va_Qi (S := Nat → Nat) (fun x9 _ => x9 = hp_w hp_K1 hp_K1 hp_K1 (hp_c_kd p0) (hp_a_parts r n p0 1)) (fun u9 t9 => va_P (dC, dI) vwCl (hp_X cI cZ cO o b u9 v r n) t9.heap ∧ va_D (va_A (hp_X cI cZ cO o b ad v r n) sz) (hp_X cI cZ cO o b u9 v r n)) (va_A (hp_X cI cZ cO o b ad v r n) sz)) (vx_X (S := Unit) (fun _ => False) (fun _ _ _ => True) (va_A (hp_X cI cZ cO o b ad v r n) sz)) 1 6 (va_A (hp_X cI cZ cO o b ad v r n) sz) := by
  refine vx_ofWH (cc := cL_ordered) (maxL := 3) (ret := some .int) (hh := [(0, 5, 6, 13)]) (by decide) rfl ?_
  intro p e s m args below meth c s₁ B hml hv
  obtain ⟨rfl, ⟨hsz, hP, hK, hD0, hN, hstr, hZu, hZn⟩, hnc⟩ := hv
  have hx := B.exec
  have hb := B.bytes
  have hr := B.returns
  have hts := atoms_spec (ws := wsL_ordered) B.pre
  have hown : s.vm.findClass RL = some m.cls := findClass_of_methodNamed B.named
  have hlocks := B.notSynchronized
  have htb := vx_table (x := yL_ordered) B (hts _ List.mem_cons_self)
  subst hsz
  have hD := hD0.self (sz := s.heap.size)
  generalize hAe : va_A (hp_X cI cZ cO o b ad v r n) s.heap.size = A at hD hZu hZn ⊢
  have hA : ∀ q : Nat, s.heap.size ≤ q → A q := fun q h => by rw [← hAe]; exact Or.inr h
  have hS : va_S A s.heap s.heap [] := va_S.rf
  have hk_1 := hts (.classLink RL 13 hp_E1) (by decide +kernel)
  have hc_1 := hts (.constant RL 15 (-2000000001)) (by decide +kernel)
  have hl := lv_entry ([.ref o, .int p0]) (n := 3) (Nat.le_of_ble_eq_true rfl)
  rw [lg_entry_eq]
  generalize (lg_sl ([.ref o, .int p0]) ++ List.replicate (3 - (lg_sl ([.ref o, .int p0])).length) Slot.unset).toArray = ls at hl ⊢
  have hl : lv_has ls 3 [(0, .ref o), (1, .int p0)] := hl
  refine lv_aload_n hx hb dL_ordered_0 rfl (lv_at hl 0 rfl) ?_
  refine lv_iload_n hx hb dL_ordered_1 rfl (lv_at hl 1 rfl) ?_
  have hFc := hp_free hD hS hA
  refine vx_calli (vx_runV (As := [.int p0]) (rest := []) ⟨hx, hb, hml, hown, hts⟩ (c_X1_ordered l hl0 dC dI cI cZ cO cJ o b ad v r n s.heap.size p0 hinv) (cwV 1 hts gL_ordered_X1_ordered rfl rfl rfl (by decide +kernel) ⟨(Nat.le_of_ble_eq_true rfl), (Nat.le_of_ble_eq_true rfl)⟩) ⟨hp_fbT, va_recv hK hP (ci := 1) (q0 := 0) rfl hp_X_o, fun U hU hW => ⟨rfl, hp_toT hP hK hD hN hstr hZu hZn hS hA hU hW⟩⟩ rfl rfl hl.1 rfl (lv_room (Nat.le_of_ble_eq_true rfl)) dL_ordered_2 ⟨(Nat.le_of_ble_eq_true rfl), (Nat.le_of_ble_eq_true rfl)⟩) hS (fun q _ h => hFc q h) hFc (fun q _ h => hFc q h) (fun E ce q9 u t H1 locs1 ht _ _ hBX _ _ hS1 hce hcv hcl => ?_) (fun r9 u t H1 locs1 ht _ hw hB _ _ hS1 => ?_)
  · obtain ⟨⟨k, hk, hC⟩, hPx⟩ := hBX
    have hP1 := hp_th ht hPx
    clear hP hPx ht
    rcases k with _ | k
    · cases Option.some.inj hk
      have hne : ¬ hp_c_kd p0 = 0 := fun q => absurd (hC.symm.trans q) (by decide)
      refine vx_catch (own := RL) (name := hp_E1) hown [] ⟨0, 5, 6, 13⟩ [] (htb.trans rfl) (fun z hz => nomatch hz) (by decide) (by decide) hk_1 (va_Nw.use rfl hN.2.2.2.1) hce hcv hcl ?_
      refine W.eq (g2 := F0 m 6 ls [.ref q9]) rfl ?_
      refine lv_astore_n (lv' := [(2, .ref q9), (0, .ref o), (1, .int p0)]) hx hb dL_ordered_6 rfl hl (by decide) rfl (fun ls hl => ?_)
      refine lv_ldc hx hb hown hc_1 dL_ordered_7 ?_
      have hP9 : va_P (dC, dI) vwCl (hp_X cI cZ cO o b ad v r n) H1 := by exact hP1
      have hD9 : va_D A (hp_X cI cZ cO o b ad v r n) := by exact hD
      exact vx_ret (W.iret (v := hp_K1) hx hb hr (fun t9 ht9 hW9 => ⟨⟨_, ad, rfl, hp_w1 hC, hp_ht ht9 hP9, hD9⟩, hS1.F ht9⟩) hS1.2.2 dL_ordered_9)
    · simp at hk
  · obtain ⟨hc, rfl⟩ := hw
    obtain ⟨hPx, hDx⟩ := hB
    have hP1 := hp_th ht hPx
    have hD1 : va_D A (hp_X cI cZ cO o b u v r n) := hDx.weaken (fun k q _ h => hFc q.1 h)
    clear hP hD hPx hDx ht hFc
    exact vx_ret (W.iret (v := hp_a_parts r n p0 1) hx hb hr (fun t9 ht9 hW9 => ⟨⟨_, u, rfl, (hp_w0 hc).symm, hp_ht ht9 hP1, hD1⟩, hS1.F ht9⟩) hS1.2.2 dL_ordered_5)
set_option maxHeartbeats 400000 in
set_option maxRecDepth 100000 in
theorem c_L_kindsAt (l : Launch) (hl0 : l.stackTraces = false) (dC : Nat → ClassId) (dI : Nat → Nat → Nat) (cI cZ cO cJ : ClassId) (o : Nat) (b ad : Nat → Nat) (v : Nat → Int32) (r : Nat → Nat → Int32) (n sz : Nat) (p0 p1 p2 : Int32) (hinv : hp_inv v r n) : vx_Met l yL_kindsAt wsL_kindsAt ({ frames := 7, cells := 1, slots := 6, locals := 108 }) (va_Pc [.ref o, .int p0, .int p1, .int p2] (hp_prL (dC, dI) cI cZ cO cJ (hp_X cI cZ cO o b ad v r n) sz)) (va_Qi (S := Nat → Nat) (fun x9 _ => x9 = hp_w hp_K1 hp_K2 hp_K2 (hp_c_kindsAt p0 p1 p2) (hp_a_kindsAt r n p0 p1 p2)) (fun u9 t9 => va_P (dC, dI) vwCl (hp_X cI cZ cO o b u9 v r n) t9.heap ∧ va_D (va_A (hp_X cI cZ cO o b ad v r n) sz) (hp_X cI cZ cO o b u9 v r n)) (va_A (hp_X cI cZ cO o b ad v r n) sz)) (vx_X (S := Unit) (fun _ => False) (fun _ _ _ => True) (va_A (hp_X cI cZ cO o b ad v r n) sz)) 1 6 (va_A (hp_X cI cZ cO o b ad v r n) sz) := by
  refine vx_ofWH (cc := cL_kindsAt) (maxL := 5) (ret := some .int) (hh := [(0, 7, 8, 13), (0, 7, 13, 16)]) (by decide) rfl ?_
  intro p e s m args below meth c s₁ B hml hv
  obtain ⟨rfl, ⟨hsz, hP, hK, hD0, hN, hstr, hZu, hZn⟩, hnc⟩ := hv
  have hx := B.exec
  have hb := B.bytes
  have hr := B.returns
  have hts := atoms_spec (ws := wsL_kindsAt) B.pre
  have hown : s.vm.findClass RL = some m.cls := findClass_of_methodNamed B.named
  have hlocks := B.notSynchronized
  have htb := vx_table (x := yL_kindsAt) B (hts _ List.mem_cons_self)
  subst hsz
  have hD := hD0.self (sz := s.heap.size)
  generalize hAe : va_A (hp_X cI cZ cO o b ad v r n) s.heap.size = A at hD hZu hZn ⊢
  have hA : ∀ q : Nat, s.heap.size ≤ q → A q := fun q h => by rw [← hAe]; exact Or.inr h
  have hS : va_S A s.heap s.heap [] := va_S.rf
  have hk_1 := hts (.classLink RL 13 hp_E1) (by decide +kernel)
  have hc_1 := hts (.constant RL 15 (-2000000001)) (by decide +kernel)
  have hk_2 := hts (.classLink RL 16 hp_E2) (by decide +kernel)
  have hc_2 := hts (.constant RL 18 (-2000000002)) (by decide +kernel)
  have hl := lv_entry ([.ref o, .int p0, .int p1, .int p2]) (n := 5) (Nat.le_of_ble_eq_true rfl)
  rw [lg_entry_eq]
  generalize (lg_sl ([.ref o, .int p0, .int p1, .int p2]) ++ List.replicate (5 - (lg_sl ([.ref o, .int p0, .int p1, .int p2])).length) Slot.unset).toArray = ls at hl ⊢
  have hl : lv_has ls 5 [(0, .ref o), (1, .int p0), (2, .int p1), (3, .int p2)] := hl
  refine lv_aload_n hx hb dL_kindsAt_0 rfl (lv_at hl 0 rfl) ?_
  refine lv_iload_n hx hb dL_kindsAt_1 rfl (lv_at hl 1 rfl) ?_
  refine lv_iload_n hx hb dL_kindsAt_2 rfl (lv_at hl 2 rfl) ?_
  refine lv_iload_n hx hb dL_kindsAt_3 rfl (lv_at hl 3 rfl) ?_
  have hFc := hp_free hD hS hA
  refine vx_calli (vx_runV (As := [.int p0, .int p1, .int p2]) (rest := []) ⟨hx, hb, hml, hown, hts⟩ (c_X1_kindsAt l hl0 dC dI cI cZ cO cJ o b ad v r n s.heap.size p0 p1 p2 hinv) (cwV 3 hts gL_kindsAt_X1_kindsAt rfl rfl rfl (by decide +kernel) ⟨(Nat.le_of_ble_eq_true rfl), (Nat.le_of_ble_eq_true rfl)⟩) ⟨hp_fbT, va_recv hK hP (ci := 1) (q0 := 0) rfl hp_X_o, fun U hU hW => ⟨rfl, hp_toT hP hK hD hN hstr hZu hZn hS hA hU hW⟩⟩ rfl rfl hl.1 rfl (lv_room (Nat.le_of_ble_eq_true rfl)) dL_kindsAt_4 ⟨(Nat.le_of_ble_eq_true rfl), (Nat.le_of_ble_eq_true rfl)⟩) hS (fun q _ h => hFc q h) hFc (fun q _ h => hFc q h) (fun E ce q9 u t H1 locs1 ht _ _ hBX _ _ hS1 hce hcv hcl => ?_) (fun r9 u t H1 locs1 ht _ hw hB _ _ hS1 => ?_)
  · obtain ⟨⟨k, hk, hC⟩, hPx⟩ := hBX
    have hP1 := hp_th ht hPx
    clear hP hPx ht
    rcases k with _ | _ | k
    · cases Option.some.inj hk
      have hne : ¬ hp_c_kindsAt p0 p1 p2 = 0 := fun q => absurd (hC.symm.trans q) (by decide)
      refine vx_catch (own := RL) (name := hp_E1) hown [] ⟨0, 7, 8, 13⟩ [⟨0, 7, 13, 16⟩] (htb.trans rfl) (fun z hz => nomatch hz) (by decide) (by decide) hk_1 (va_Nw.use rfl hN.2.2.2.1) hce hcv hcl ?_
      refine W.eq (g2 := F0 m 8 ls [.ref q9]) rfl ?_
      refine lv_astore (lv' := [(4, .ref q9), (0, .ref o), (1, .int p0), (2, .int p1), (3, .int p2)]) hx hb dL_kindsAt_8 hl (by decide) rfl (fun ls hl => ?_)
      refine lv_ldc hx hb hown hc_1 dL_kindsAt_10 ?_
      have hP9 : va_P (dC, dI) vwCl (hp_X cI cZ cO o b ad v r n) H1 := by exact hP1
      have hD9 : va_D A (hp_X cI cZ cO o b ad v r n) := by exact hD
      exact vx_ret (W.iret (v := hp_K1) hx hb hr (fun t9 ht9 hW9 => ⟨⟨_, ad, rfl, hp_w1 hC, hp_ht ht9 hP9, hD9⟩, hS1.F ht9⟩) hS1.2.2 dL_kindsAt_12)
    · cases Option.some.inj hk
      have hne : ¬ hp_c_kindsAt p0 p1 p2 = 0 := fun q => absurd (hC.symm.trans q) (by decide)
      refine vx_catch (own := RL) (name := hp_E2) hown [⟨0, 7, 8, 13⟩] ⟨0, 7, 13, 16⟩ [] (htb.trans rfl) (fun z hz => by
          simp only [List.mem_cons, List.not_mem_nil, or_false] at hz
          subst hz
          · exact Or.inr ⟨by decide, hp_E1, hk_1, hnc.1⟩) (by decide) (by decide) hk_2 (va_Nw.use rfl hN.2.2.2.2.1) hce hcv hcl ?_
      refine W.eq (g2 := F0 m 13 ls [.ref q9]) rfl ?_
      refine lv_astore (lv' := [(4, .ref q9), (0, .ref o), (1, .int p0), (2, .int p1), (3, .int p2)]) hx hb dL_kindsAt_13 hl (by decide) rfl (fun ls hl => ?_)
      refine lv_ldc hx hb hown hc_2 dL_kindsAt_15 ?_
      have hP9 : va_P (dC, dI) vwCl (hp_X cI cZ cO o b ad v r n) H1 := by exact hP1
      have hD9 : va_D A (hp_X cI cZ cO o b ad v r n) := by exact hD
      exact vx_ret (W.iret (v := hp_K2) hx hb hr (fun t9 ht9 hW9 => ⟨⟨_, ad, rfl, hp_w2 hC, hp_ht ht9 hP9, hD9⟩, hS1.F ht9⟩) hS1.2.2 dL_kindsAt_17)
    · simp at hk
  · obtain ⟨hc, rfl⟩ := hw
    obtain ⟨hPx, hDx⟩ := hB
    have hP1 := hp_th ht hPx
    have hD1 : va_D A (hp_X cI cZ cO o b u v r n) := hDx.weaken (fun k q _ h => hFc q.1 h)
    clear hP hD hPx hDx ht hFc
    exact vx_ret (W.iret (v := hp_a_kindsAt r n p0 p1 p2) hx hb hr (fun t9 ht9 hW9 => ⟨⟨_, u, rfl, (hp_w0 hc).symm, hp_ht ht9 hP1, hD1⟩, hS1.F ht9⟩) hS1.2.2 dL_kindsAt_7)
set_option maxHeartbeats 400000 in
set_option maxRecDepth 100000 in
theorem c_L_isLocked (l : Launch) (hl0 : l.stackTraces = false) (dC : Nat → ClassId) (dI : Nat → Nat → Nat) (cI cZ cO cJ : ClassId) (o : Nat) (b ad : Nat → Nat) (v : Nat → Int32) (r : Nat → Nat → Int32) (n sz : Nat) (p0 : Int32) (hinv : hp_inv v r n) : vx_Met l yL_isLocked wsL_isLocked ({ frames := 7, cells := 1, slots := 6, locals := 103 }) (va_Pc [.ref o, .int p0] (hp_prL (dC, dI) cI cZ cO cJ (hp_X cI cZ cO o b ad v r n) sz)) (va_Qi (S := Nat → Nat) (fun x9 _ => x9 = hp_w hp_K1 hp_K1 hp_K1 (hp_c_st p0) (hp_b (hp_b_isLocked r p0))) (fun u9 t9 => va_P (dC, dI) vwCl (hp_X cI cZ cO o b u9 v r n) t9.heap ∧ va_D (va_A (hp_X cI cZ cO o b ad v r n) sz) (hp_X cI cZ cO o b u9 v r n)) (va_A (hp_X cI cZ cO o b ad v r n) sz)) (vx_X (S := Unit) (fun _ => False) (fun _ _ _ => True) (va_A (hp_X cI cZ cO o b ad v r n) sz)) 1 6 (va_A (hp_X cI cZ cO o b ad v r n) sz) := by
  refine vx_ofWH (cc := cL_isLocked) (maxL := 3) (ret := some .int) (hh := [(0, 13, 14, 13)]) (by decide) rfl ?_
  intro p e s m args below meth c s₁ B hml hv
  obtain ⟨rfl, ⟨hsz, hP, hK, hD0, hN, hstr, hZu, hZn⟩, hnc⟩ := hv
  have hx := B.exec
  have hb := B.bytes
  have hr := B.returns
  have hts := atoms_spec (ws := wsL_isLocked) B.pre
  have hown : s.vm.findClass RL = some m.cls := findClass_of_methodNamed B.named
  have hlocks := B.notSynchronized
  have htb := vx_table (x := yL_isLocked) B (hts _ List.mem_cons_self)
  subst hsz
  have hD := hD0.self (sz := s.heap.size)
  generalize hAe : va_A (hp_X cI cZ cO o b ad v r n) s.heap.size = A at hD hZu hZn ⊢
  have hA : ∀ q : Nat, s.heap.size ≤ q → A q := fun q h => by rw [← hAe]; exact Or.inr h
  have hS : va_S A s.heap s.heap [] := va_S.rf
  have hk_1 := hts (.classLink RL 13 hp_E1) (by decide +kernel)
  have hc_1 := hts (.constant RL 15 (-2000000001)) (by decide +kernel)
  have hl := lv_entry ([.ref o, .int p0]) (n := 3) (Nat.le_of_ble_eq_true rfl)
  rw [lg_entry_eq]
  generalize (lg_sl ([.ref o, .int p0]) ++ List.replicate (3 - (lg_sl ([.ref o, .int p0])).length) Slot.unset).toArray = ls at hl ⊢
  have hl : lv_has ls 3 [(0, .ref o), (1, .int p0)] := hl
  refine lv_aload_n hx hb dL_isLocked_0 rfl (lv_at hl 0 rfl) ?_
  refine lv_iload_n hx hb dL_isLocked_1 rfl (lv_at hl 1 rfl) ?_
  have hFc := hp_free hD hS hA
  refine vx_calli (vx_runV (As := [.int p0]) (rest := []) ⟨hx, hb, hml, hown, hts⟩ (c_X1_isLocked l hl0 dC dI cI cZ cO cJ o b ad v r n s.heap.size p0 hinv) (cwV 1 hts gL_isLocked_X1_isLocked rfl rfl rfl (by decide +kernel) ⟨(Nat.le_of_ble_eq_true rfl), (Nat.le_of_ble_eq_true rfl)⟩) ⟨hp_fbT, va_recv hK hP (ci := 1) (q0 := 0) rfl hp_X_o, fun U hU hW => ⟨rfl, hp_toT hP hK hD hN hstr hZu hZn hS hA hU hW⟩⟩ rfl rfl hl.1 rfl (lv_room (Nat.le_of_ble_eq_true rfl)) dL_isLocked_2 ⟨(Nat.le_of_ble_eq_true rfl), (Nat.le_of_ble_eq_true rfl)⟩) hS (fun q _ h => hFc q h) hFc (fun q _ h => hFc q h) (fun E ce q9 u t H1 locs1 ht _ _ hBX _ _ hS1 hce hcv hcl => ?_) (fun r9 u t H1 locs1 ht _ hw hB _ _ hS1 => ?_)
  · obtain ⟨⟨k, hk, hC⟩, hPx⟩ := hBX
    have hP1 := hp_th ht hPx
    clear hP hPx ht
    rcases k with _ | k
    · cases Option.some.inj hk
      have hne : ¬ hp_c_st p0 = 0 := fun q => absurd (hC.symm.trans q) (by decide)
      refine vx_catch (own := RL) (name := hp_E1) hown [] ⟨0, 13, 14, 13⟩ [] (htb.trans rfl) (fun z hz => nomatch hz) (by decide) (by decide) hk_1 (va_Nw.use rfl hN.2.2.2.1) hce hcv hcl ?_
      refine W.eq (g2 := F0 m 14 ls [.ref q9]) rfl ?_
      refine lv_astore_n (lv' := [(2, .ref q9), (0, .ref o), (1, .int p0)]) hx hb dL_isLocked_14 rfl hl (by decide) rfl (fun ls hl => ?_)
      refine lv_ldc hx hb hown hc_1 dL_isLocked_15 ?_
      have hP9 : va_P (dC, dI) vwCl (hp_X cI cZ cO o b ad v r n) H1 := by exact hP1
      have hD9 : va_D A (hp_X cI cZ cO o b ad v r n) := by exact hD
      exact vx_ret (W.iret (v := hp_K1) hx hb hr (fun t9 ht9 hW9 => ⟨⟨_, ad, rfl, hp_w1 hC, hp_ht ht9 hP9, hD9⟩, hS1.F ht9⟩) hS1.2.2 dL_isLocked_17)
    · simp at hk
  · obtain ⟨hc, rfl⟩ := hw
    obtain ⟨hPx, hDx⟩ := hB
    have hP1 := hp_th ht hPx
    have hD1 : va_D A (hp_X cI cZ cO o b u v r n) := hDx.weaken (fun k q _ h => hFc q.1 h)
    clear hP hD hPx hDx ht hFc
    refine lv_if_eq (tgt := 12) hx hb dL_isLocked_5 (by decide) (fun q => ?_) (fun q => ?_)
    · refine lv_iconst (v := 0) hx hb dL_isLocked_12 (by decide) ?_
      exact vx_ret (W.iret (v := 0) hx hb hr (fun t9 ht9 hW9 => ⟨⟨_, u, rfl, ((hp_w0 hc).trans q).symm, hp_ht ht9 hP1, hD1⟩, hS1.F ht9⟩) hS1.2.2 dL_isLocked_13)
    · refine lv_iconst (v := 1) hx hb dL_isLocked_8 (by decide) ?_
      refine lv_goto (tgt := 13) hx hb dL_isLocked_9 (by decide) ?_
      exact vx_ret (W.iret (v := 1) hx hb hr (fun t9 ht9 hW9 => ⟨⟨_, u, rfl, ((hp_w0 hc).trans (hp_bt (hp_bn q))).symm, hp_ht ht9 hP1, hD1⟩, hS1.F ht9⟩) hS1.2.2 dL_isLocked_13)
