/-! an act -/
set_option maxHeartbeats 1000000 in
set_option maxRecDepth 100000 in
theorem c_L_act (l : Launch) (hl0 : l.stackTraces = false) (dC : Nat → ClassId) (dI : Nat → Nat → Nat) (cI cZ cO cJ : ClassId) (o : Nat) (b ad : Nat → Nat) (v : Nat → Int32) (r : Nat → Nat → Int32) (n x sz : Nat) (hinv : hp_inv v r n) (hxl : x < 2000000000) : Met l yL_act wsL_act ({ frames := 8, cells := 1, slots := 10, locals := 182 } : Room) (va_Pc [.ref o, .int (nI n), .int (nI x)] (hp_prL (dC, dI) cI cZ cO cJ (hp_X cI cZ cO o b ad v r n) sz)) (va_Qi (S := Nat → Nat) (fun x9 _ => x9 = (hp_act v r n x).1) (fun u9 t9 => va_P (dC, dI) vwCl (hp_X cI cZ cO o b u9 (hp_act v r n x).2.1 (hp_act v r n x).2.2.1 (hp_act v r n x).2.2.2) t9.heap ∧ va_D (va_A (hp_X cI cZ cO o b ad v r n) sz) (hp_X cI cZ cO o b u9 (hp_act v r n x).2.1 (hp_act v r n x).2.2.1 (hp_act v r n x).2.2.2)) (va_A (hp_X cI cZ cO o b ad v r n) sz)) 1 10 (va_A (hp_X cI cZ cO o b ad v r n) sz) := by
  refine Met.ofW (cc := cL_act) (maxL := 10) (ret := some .int) (by decide) rfl ?_
  intro p e s m args below meth c s₁ B hml hv
  obtain ⟨rfl, ⟨hsz, hP, hK, hD0, hN, hstr, hZu, hZn⟩, hnc⟩ := hv
  have hx := B.exec
  have hb := B.bytes
  have hr := B.returns
  have hts := atoms_spec (ws := wsL_act) B.pre
  have hown : s.vm.findClass RL = some m.cls := findClass_of_methodNamed B.named
  have hlocks := B.notSynchronized
  subst hsz
  have hD := hD0.self (sz := s.heap.size)
  generalize hAe : va_A (hp_X cI cZ cO o b ad v r n) s.heap.size = A at hD hZu hZn ⊢
  have hA : ∀ q : Nat, s.heap.size ≤ q → A q := fun q h => by rw [← hAe]; exact Or.inr h
  have hS : va_S A s.heap s.heap [] := va_S.rf
  have hT : hp_T (dC, dI) cI cZ cO cJ A s := ⟨hK, hN, hstr, hZu, hZn, hnc, hA⟩
  have hH : hp_H1 (dC, dI) cI cZ cO A s o b v r n s.heap [] := ⟨⟨ad, hP, hD⟩, hS⟩
  have hn40 : n ≤ 40 := hinv.1
  have hl := lv_entry ([.ref o, .int (nI n), .int (nI x)]) (n := 10) (Nat.le_of_ble_eq_true rfl)
  rw [lg_entry_eq]
  generalize (lg_sl ([.ref o, .int (nI n), .int (nI x)]) ++ List.replicate (10 - (lg_sl ([.ref o, .int (nI n), .int (nI x)])).length) Slot.unset).toArray = ls at hl ⊢
  have hl : lv_has ls 10 [(0, .ref o), (1, .int (nI n)), (2, .int (nI x))] := hl
  refine lv_iload_n hx hb dL_act_0 rfl (lv_at hl 2 rfl) ?_
  refine lv_bipush (v := 20) hx hb dL_act_1 (by decide) ?_
  refine lv_idiv hx hb dL_act_3 (by decide) ?_
  refine hp_top (show nI x / 20 = nI (x / 20) from pk_div (d := 20) (by omega) (by decide) (by decide)) ?_
  refine lv_istore_n (lv' := [(3, .int (nI (x / 20))), (0, .ref o), (1, .int (nI n)), (2, .int (nI x))]) hx hb dL_act_4 rfl hl (by decide) rfl (fun ls hl => ?_)
  obtain ⟨y, hy⟩ : ∃ y, x / 20 = y := ⟨_, rfl⟩
  rw [hy] at hl
  have hyl : y < 2 ^ 30 := by omega
  obtain ⟨w, hw⟩ : ∃ w, hp_ao n y = w := ⟨_, rfl⟩
  refine lv_iload_n hx hb dL_act_5 rfl (lv_at hl 2 rfl) ?_
  refine hp_joinB 16 10 (fun q : Nat => q = w) (fun q => [(3, .int (nI y)), (0, .ref o), (1, .int (nI n)), (2, .int (nI x))]) (fun q => [.int (nI q)]) (fun jn => ?_) ?_
  · refine lv_if_ne (tgt := 13) hx hb dL_act_6 (by decide) (fun c9 => ?_) (fun c9 => ?_)
    · have hn0 : 0 < n := Nat.pos_of_ne_zero (fun q => c9 (by rw [q]; rfl))
      refine lv_iload_n hx hb dL_act_13 rfl (lv_at hl 0 rfl) ?_
      refine lv_iload_n hx hb dL_act_14 rfl (lv_at hl 2 rfl) ?_
      refine lv_irem hx hb dL_act_15 (nI_ne0 hn0 (by omega)) ?_
      refine hp_top (show nI y - nI y / nI n * nI n = nI (y % n) from pk_rem (d := n) (by omega) hn0 (by omega)) ?_
      exact jn (y % n) (by rw [← hw]; unfold hp_ao; rw [if_neg (by omega)]) _ hl
    · have hn0 : n = 0 := (nI_eq (a := n) (b := 0) (by omega) (by decide)).mp c9
      refine lv_iconst (v := 0) hx hb dL_act_9 (by decide) ?_
      refine lv_goto (tgt := 16) hx hb dL_act_10 (by decide) ?_
      exact jn 0 (by rw [← hw]; unfold hp_ao; rw [if_pos hn0]) _ hl
  intro q hq ls hl
  subst hq
  refine lv_istore (lv' := [(4, .int (nI q)), (3, .int (nI y)), (0, .ref o), (1, .int (nI n)), (2, .int (nI x))]) hx hb dL_act_16 hl (by decide) rfl (fun ls hl => ?_)
  refine lv_iload_n hx hb dL_act_18 rfl (lv_at hl 1 rfl) ?_
  refine lv_bipush (v := 40) hx hb dL_act_19 (by decide) ?_
  refine lv_idiv hx hb dL_act_21 (by decide) ?_
  refine hp_top (show nI y / 40 = nI (y / 40) from pk_div (d := 40) (by omega) (by decide) (by decide)) ?_
  refine lv_iconst (v := 3) hx hb dL_act_22 (by decide) ?_
  refine lv_irem hx hb dL_act_23 (by decide) ?_
  refine hp_top (show nI (y / 40) - nI (y / 40) / 3 * 3 = nI ((y / 40) % 3) from pk_rem (d := 3) (by omega) (by decide) (by decide)) ?_
  refine lv_istore (lv' := [(5, .int (nI ((y / 40) % 3))), (4, .int (nI q)), (3, .int (nI y)), (0, .ref o), (1, .int (nI n)), (2, .int (nI x))]) hx hb dL_act_24 hl (by decide) rfl (fun ls hl => ?_)
  refine lv_aload_n hx hb dL_act_26 rfl (lv_at hl 3 rfl) ?_
  refine vp_callSi (W.runV (As := []) (rest := []) ⟨hx, hb, hml, hown, hts⟩ (c_X1_revision l dC dI cI cZ cO cJ o b ad v r n) (cwV 0 hts gL_act_X1_revision rfl rfl rfl (by decide +kernel) ⟨(Nat.le_of_ble_eq_true rfl), (Nat.le_of_ble_eq_true rfl)⟩) ⟨hp_fbX, va_recv hK hP (ci := 1) (q0 := 0) rfl hp_X_o, fun U hU hW => ⟨rfl, hp_toX hP hK hN hU hW⟩⟩ rfl rfl hl.1 rfl (lv_room (Nat.le_of_ble_eq_true rfl)) dL_act_27 ⟨(Nat.zero_le _), (Nat.zero_le _)⟩) (fun r_1 hr_1 => ?_)
  subst hr_1
  refine lv_iload_n hx hb dL_act_30 rfl (lv_at hl 2 rfl) ?_
  refine lv_bipush (v := 120) hx hb dL_act_31 (by decide) ?_
  refine lv_idiv hx hb dL_act_33 (by decide) ?_
  refine hp_top (show nI y / 120 = nI (y / 120) from pk_div (d := 120) (by omega) (by decide) (by decide)) ?_
  refine lv_iconst (v := 5) hx hb dL_act_34 (by decide) ?_
  refine lv_irem hx hb dL_act_35 (by decide) ?_
  refine hp_top (show nI (y / 120) - nI (y / 120) / 5 * 5 = nI ((y / 120) % 5) from pk_rem (d := 5) (by omega) (by decide) (by decide)) ?_
  refine lv_isub hx hb dL_act_36 ?_
  refine lv_istore (lv' := [(6, .int ((v 2) - (nI ((y / 120) % 5)))), (5, .int (nI ((y / 40) % 3))), (4, .int (nI q)), (3, .int (nI y)), (0, .ref o), (1, .int (nI n)), (2, .int (nI x))]) hx hb dL_act_37 hl (by decide) rfl (fun ls hl => ?_)
  refine lv_iload_n hx hb dL_act_39 rfl (lv_at hl 6 rfl) ?_
  refine lv_bipush (v := 20) hx hb dL_act_40 (by decide) ?_
  refine lv_irem hx hb dL_act_42 (by decide) ?_
  refine hp_top (show nI x - nI x / 20 * 20 = nI (x % 20) from pk_rem (d := 20) (by omega) (by decide) (by decide)) ?_
  have hl := lv_sub (l' := [(6, .int (v 2 - nI (y / 120 % 5))), (5, .int (nI (y / 40 % 3))), (4, .int (nI q)), (3, .int (nI y)), (0, .ref o), (1, .int (nI n)), (2, .int (nI x))]) hl [0, 1, 2, 3, 4, 5, 6] rfl
  have key : ∀ Q : State → Prop, (∀ (pc : Nat) (H : Heap) (locs : List Loc) (ls : Array Slot), decode cL_act pc = .ok (.ireturn, 1) → hp_H1 (dC, dI) cI cZ cO A s o b ((hp_act v r n x).2.1) ((hp_act v r n x).2.2.1) ((hp_act v r n x).2.2.2) H locs → W p l e ({ frames := 8, cells := 1, slots := 10, locals := 182 } : Room) s m #[Value.ref o, Value.int (nI n), Value.int (nI x)] below meth c H locs 1 10 Q (F0 m pc ls [.int (hp_act v r n x).1])) → W p l e ({ frames := 8, cells := 1, slots := 10, locals := 182 } : Room) s m #[Value.ref o, Value.int (nI n), Value.int (nI x)] below meth c s.heap [] 0 0 Q (F0 m 43 ls [.int (nI (x % 20))]) := by
    intro Q hret
    have hk20 : x % 20 < 20 := Nat.mod_lt _ (by decide)
    generalize hk : x % 20 = k at hk20 ⊢
    match k, hk20 with
    | 0, _ => exact lv_tableIn (off := 85) (tgt := 128) hx hb dL_act_43 (by decide) (by decide) rfl (by decide) (ac_128 l hl0 hx hb hml hown hts hT hinv hy hyl hw (by omega) (by omega) hret hH hl)
    | 1, _ => exact lv_tableIn (off := 85) (tgt := 128) hx hb dL_act_43 (by decide) (by decide) rfl (by decide) (ac_128 l hl0 hx hb hml hown hts hT hinv hy hyl hw (by omega) (by omega) hret hH hl)
    | 2, _ => exact lv_tableIn (off := 85) (tgt := 128) hx hb dL_act_43 (by decide) (by decide) rfl (by decide) (ac_128 l hl0 hx hb hml hown hts hT hinv hy hyl hw (by omega) (by omega) hret hH hl)
    | 3, _ => exact lv_tableIn (off := 85) (tgt := 128) hx hb dL_act_43 (by decide) (by decide) rfl (by decide) (ac_128 l hl0 hx hb hml hown hts hT hinv hy hyl hw (by omega) (by omega) hret hH hl)
    | 4, _ => exact lv_tableIn (off := 173) (tgt := 216) hx hb dL_act_43 (by decide) (by decide) rfl (by decide) (ac_216 l hl0 hx hb hml hown hts hT hinv hy hyl hw (by omega) (by omega) hret hH hl)
    | 5, _ => exact lv_tableIn (off := 173) (tgt := 216) hx hb dL_act_43 (by decide) (by decide) rfl (by decide) (ac_216 l hl0 hx hb hml hown hts hT hinv hy hyl hw (by omega) (by omega) hret hH hl)
    | 6, _ => exact lv_tableIn (off := 173) (tgt := 216) hx hb dL_act_43 (by decide) (by decide) rfl (by decide) (ac_216 l hl0 hx hb hml hown hts hT hinv hy hyl hw (by omega) (by omega) hret hH hl)
    | 7, _ => exact lv_tableIn (off := 173) (tgt := 216) hx hb dL_act_43 (by decide) (by decide) rfl (by decide) (ac_216 l hl0 hx hb hml hown hts hT hinv hy hyl hw (by omega) (by omega) hret hH hl)
    | 8, _ => exact lv_tableIn (off := 204) (tgt := 247) hx hb dL_act_43 (by decide) (by decide) rfl (by decide) (ac_247 l hl0 hx hb hml hown hts hT hinv hy hyl hw (by omega) (by omega) hret hH hl)
    | 9, _ => exact lv_tableIn (off := 245) (tgt := 288) hx hb dL_act_43 (by decide) (by decide) rfl (by decide) (ac_288 l hl0 hx hb hml hown hts hT hinv hy hyl hw (by omega) (by omega) hret hH hl)
    | 10, _ => exact lv_tableIn (off := 264) (tgt := 307) hx hb dL_act_43 (by decide) (by decide) rfl (by decide) (ac_307 l hl0 hx hb hml hown hts hT hinv hy hyl hw (by omega) (by omega) hret hH hl)
    | 11, _ => exact lv_tableIn (off := 308) (tgt := 351) hx hb dL_act_43 (by decide) (by decide) rfl (by decide) (ac_351 l hl0 hx hb hml hown hts hT hinv hy hyl hw (by omega) (by omega) hret hH hl)
    | 12, _ => exact lv_tableIn (off := 308) (tgt := 351) hx hb dL_act_43 (by decide) (by decide) rfl (by decide) (ac_351 l hl0 hx hb hml hown hts hT hinv hy hyl hw (by omega) (by omega) hret hH hl)
    | 13, _ => exact lv_tableIn (off := 308) (tgt := 351) hx hb dL_act_43 (by decide) (by decide) rfl (by decide) (ac_351 l hl0 hx hb hml hown hts hT hinv hy hyl hw (by omega) (by omega) hret hH hl)
    | 14, _ => exact lv_tableIn (off := 315) (tgt := 358) hx hb dL_act_43 (by decide) (by decide) rfl (by decide) (ac_358 l hl0 hx hb hml hown hts hT hinv hy hyl hw (by omega) (by omega) hret hH hl)
    | 15, _ => exact lv_tableIn (off := 337) (tgt := 380) hx hb dL_act_43 (by decide) (by decide) rfl (by decide) (ac_380 l hl0 hx hb hml hown hts hT hinv hy hyl hw (by omega) (by omega) hret hH hl)
    | 16, _ => exact lv_tableIn (off := 337) (tgt := 380) hx hb dL_act_43 (by decide) (by decide) rfl (by decide) (ac_380 l hl0 hx hb hml hown hts hT hinv hy hyl hw (by omega) (by omega) hret hH hl)
    | 17, _ => exact lv_tableIn (off := 344) (tgt := 387) hx hb dL_act_43 (by decide) (by decide) rfl (by decide) (ac_387 l hl0 hx hb hml hown hts hT hinv hy hyl hw (by omega) (by omega) hret hH hl)
    | 18, _ => exact lv_tableOut (tgt := 395) hx hb dL_act_43 (Or.inr (by decide)) (by decide) (ac_395 l hl0 hx hb hml hown hts hT hinv hy hyl hw (by omega) (by omega) hret hH hl)
    | 19, _ => exact lv_tableOut (tgt := 395) hx hb dL_act_43 (Or.inr (by decide)) (by decide) (ac_395 l hl0 hx hb hml hown hts hT hinv hy hyl hw (by omega) (by omega) hret hH hl)
    | k + 20, h => exact absurd h (by omega)
  refine key _ (fun pc H locs ls hd h => ?_)
  obtain ⟨⟨ad9, hP9, hD9⟩, hS9⟩ := h
  exact W.iret (v := (hp_act v r n x).1) hx hb hr (fun t9 ht9 hW9 => ⟨⟨_, ad9, rfl, rfl, hp_ht ht9 hP9, hD9⟩, hS9.F ht9⟩) hS9.2.2 hd
