/-! calls that are refused: the locked storeys, and one element -/
set_option maxHeartbeats 1000000 in
set_option maxRecDepth 100000 in
theorem rf_loop {p : Program} {e : Env} {s : State} {m : MethodId} {args : Array Value} {below : List Frame} {meth : Method} {c : Code} {Q : State → Prop} {A : Nat → Prop} {dC : Nat → ClassId} {dI : Nat → Nat → Nat} {cI cZ cO cJ : ClassId} {o : Nat} {b : Nat → Nat} {v : Nat → Int32} {r : Nat → Nat → Int32} {n x : Nat} (l : Launch) (hl0 : l.stackTraces = false) (hx : p.tables.exec = Jvm.exec) (hb : c.code = cL_refuses) (hml : c.maxLocals = 12) (hown : s.vm.findClass RL = some m.cls) (hts : ∀ w ∈ wsL_refuses, w.before args s = true) (hT : hp_T (dC, dI) cI cZ cO cJ A s) (hinv : hp_inv v r n) (hxl : x < 9973) {low T F O C B : Int32} (hbad : hp_bad v n T F O C B) (hrv : ∃ rv, rv ≤ 1000 ∧ v 2 = nI rv)
    (kk : ∀ (H : Heap) (locs : List Loc) (ls : Array Slot), hp_H1 (dC, dI) cI cZ cO A s o b v r n H locs → lv_has ls 12 [(10, .int (nI 4)), (9, .int 1), (0, .ref o), (1, .int (nI n)), (2, .int (nI x)), (3, .int low), (4, .int T), (5, .int F), (6, .int O), (7, .int C), (8, .int B)] → W p l e ({ frames := 8, cells := 64, slots := 500, locals := 182 } : Room) s m args below meth c H locs 45 314 Q (F0 m 677 ls [])) :
    ∀ (f k : Nat), k + f = 4 → ∀ (H_0 : Heap) (locs_0 : List Loc) (ls : Array Slot), hp_H1 (dC, dI) cI cZ cO A s o b v r n H_0 locs_0 → lv_has ls 12 [(10, .int (nI k)), (9, .int 1), (0, .ref o), (1, .int (nI n)), (2, .int (nI x)), (3, .int low), (4, .int T), (5, .int F), (6, .int O), (7, .int C), (8, .int B)] → W p l e ({ frames := 8, cells := 64, slots := 500, locals := 182 } : Room) s m args below meth c H_0 locs_0 (33 + 3 * k) (226 + 22 * k) Q (F0 m 615 ls []) := by
  have hF : CallFix p m c cL_refuses 12 s args wsL_refuses RL := ⟨hx, hb, hml, hown, hts⟩
  have hc_3 := hts (.constant RL 21 (-2000000003)) (by decide +kernel)
  have cw_add := vx_cwSW (R := ({ frames := 8, cells := 64, slots := 500, locals := 182 } : Room)) (rm := ({ frames := 7, cells := 1, slots := 10, locals := 109 } : Room)) (mc := 1) (ms := 10) 7 hts gL_refuses_L_add rfl rfl rfl (by decide +kernel) ⟨(Nat.le_of_ble_eq_true rfl), (Nat.le_of_ble_eq_true rfl)⟩
  have cw_inspect := vx_cwSW (R := ({ frames := 8, cells := 64, slots := 500, locals := 182 } : Room)) (rm := ({ frames := 7, cells := 1, slots := 6, locals := 160 } : Room)) (mc := 1) (ms := 6) 2 hts gL_refuses_L_inspect rfl rfl rfl (by decide +kernel) ⟨(Nat.le_of_ble_eq_true rfl), (Nat.le_of_ble_eq_true rfl)⟩
  have cw_isLocked := vx_cwSW (R := ({ frames := 8, cells := 64, slots := 500, locals := 182 } : Room)) (rm := ({ frames := 7, cells := 1, slots := 6, locals := 103 } : Room)) (mc := 1) (ms := 6) 2 hts gL_refuses_L_isLocked rfl rfl rfl (by decide +kernel) ⟨(Nat.le_of_ble_eq_true rfl), (Nat.le_of_ble_eq_true rfl)⟩
  intro f
  induction f with
  | zero =>
    intro k hk H_0 locs_0 ls hH_0 hl
    obtain rfl : k = 4 := by omega
    refine lv_iload hx hb dL_refuses_615 (lv_at hl 0 rfl) ?_
    refine lv_iconst (v := 4) hx hb dL_refuses_617 (by decide) ?_
    refine lv_icmp_ge (tgt := 677) hx hb dL_refuses_618 (by decide) (fun _ => ?_) (fun c9 => absurd (Int32.le_refl _) c9)
    exact kk _ _ ls hH_0 hl
  | succ f ih =>
    intro k hk H_0 locs_0 ls hH_0 hl
    refine lv_iload hx hb dL_refuses_615 (lv_at hl 0 rfl) ?_
    refine lv_iconst (v := 4) hx hb dL_refuses_617 (by decide) ?_
    refine lv_icmp_ge (tgt := 677) hx hb dL_refuses_618 (by decide) (fun c9 => absurd c9 (nI_ge (a := k) (b := 4) (by omega) (by decide))) (fun _ => ?_)
    refine lv_iload hx hb dL_refuses_621 (lv_at hl 1 rfl) ?_
    refine lv_if_eq (tgt := 677) hx hb dL_refuses_623 (by decide) (fun q => absurd q (by decide)) (fun _ => ?_)
    refine lv_aload_n hx hb dL_refuses_626 rfl (lv_at hl 2 rfl) ?_
    refine lv_iload hx hb dL_refuses_627 (lv_at hl 0 rfl) ?_
    refine hp_call1 (As := [.int (nI k)]) (rest := []) hF hT cw_isLocked (wl_isLocked l hl0 dC dI cI cZ cO cJ o b v r n (nI k) hinv (ans := hp_b (hp_b_isLocked r (nI k))) (hp_w0 (hp_c0 (hp_st_nI (by omega)) rfl rfl))) hH_0 rfl rfl hl.1 (Nat.le_of_ble_eq_true rfl) dL_refuses_629 ⟨(by show _ ≤ 64; omega), (by show _ ≤ 500; omega)⟩ (fun H_1 locs_1 hH_1 => ?_)
    clear hH_0
    have tail : ∀ (H : Heap) (locs : List Loc), hp_H1 (dC, dI) cI cZ cO A s o b v r n H locs → W p l e ({ frames := 8, cells := 64, slots := 500, locals := 182 } : Room) s m args below meth c H locs (33 + 3 * (k + 1)) (226 + 22 * (k + 1)) Q (F0 m 664 ls []) := by
      intro H locs hH
      refine lv_iconst (v := 1) hx hb dL_refuses_664 (by decide) ?_
      refine lv_goto (tgt := 669) hx hb dL_refuses_665 (by decide) ?_
      refine lv_istore (lv' := [(9, .int 1), (10, .int (nI k)), (0, .ref o), (1, .int (nI n)), (2, .int (nI x)), (3, .int low), (4, .int T), (5, .int F), (6, .int O), (7, .int C), (8, .int B)]) hx hb dL_refuses_669 hl (by decide) rfl (fun ls hl => ?_)
      refine lv_iinc (v := nI (k + 1)) (lv' := [(10, .int (nI (k + 1))), (9, .int 1), (0, .ref o), (1, .int (nI n)), (2, .int (nI x)), (3, .int low), (4, .int T), (5, .int F), (6, .int O), (7, .int C), (8, .int B)]) hx hb dL_refuses_671 hl (k := 1) rfl (nI_add k 1) (by decide) rfl (fun ls hl => ?_)
      refine lv_goto (tgt := 615) hx hb dL_refuses_674 (by decide) ?_
      exact ih (k + 1) (by omega) H locs ls hH (lv_sub hl [0, 1, 2, 3, 4, 5, 6, 7, 8, 9, 10] rfl)
    refine lv_if_eq (tgt := 664) hx hb dL_refuses_632 (by decide) (fun q => ?_) (fun q => ?_)
    · refine W.widen (k := 33 + 3 * (k + 1)) (n := 226 + 22 * (k + 1)) (by omega) (by omega) ?_
      exact tail _ _ hH_1
    · have hlk := hp_bn q
      have h17 : (r 17 (nI k).toNatClampNeg == 0) = false := by have := hp_andr hlk; simpa using this
      refine lv_aload_n hx hb dL_refuses_635 rfl (lv_at hl 2 rfl) ?_
      refine lv_iload hx hb dL_refuses_636 (lv_at hl 0 rfl) ?_
      refine hp_refu (kc := -2000000003) (ki := 21) (tgt := 668) (As := [.int (nI k)]) (rest := []) hF hT hc_3 cw_inspect (rl_inspect l hl0 dC dI cI cZ cO cJ o b v r n (nI k) hinv (k := 2) (hp_c2 (hp_st_nI (by omega)) h17) (by decide)) hH_1 (by decide) rfl rfl hl.1 (Nat.le_of_ble_eq_true rfl) dL_refuses_638 dL_refuses_641 dL_refuses_643 (by decide) ⟨(by show _ ≤ 64; omega), (by show _ ≤ 500; omega)⟩ (fun H_2 locs_2 hH_2 => ?_)
      clear hH_1
      refine lv_aload_n hx hb dL_refuses_646 rfl (lv_at hl 2 rfl) ?_
      refine lv_iload_n hx hb dL_refuses_647 rfl (lv_at hl 4 rfl) ?_
      refine lv_iconst (v := 3) hx hb dL_refuses_648 (by decide) ?_
      refine lv_irem hx hb dL_refuses_649 (by decide) ?_
      refine hp_top (show nI x - nI x / 3 * 3 = nI (x % 3) from pk_rem (d := 3) (by omega) (by decide) (by decide)) ?_
      refine lv_iload hx hb dL_refuses_650 (lv_at hl 0 rfl) ?_
      refine lv_iconst (v := 0) hx hb dL_refuses_652 (by decide) ?_
      refine lv_iconst (v := 0) hx hb dL_refuses_653 (by decide) ?_
      refine lv_iconst (v := 0) hx hb dL_refuses_654 (by decide) ?_
      refine lv_iconst (v := 0) hx hb dL_refuses_655 (by decide) ?_
      refine hp_refu (kc := -2000000003) (ki := 21) (tgt := 668) (As := [.int (nI (x % 3)), .int (nI k), .int 0, .int 0, .int 0, .int 0]) (rest := []) hF hT hc_3 cw_add (rl_add l hl0 dC dI cI cZ cO cJ o b v r n (nI (x % 3)) (nI k) 0 0 0 0 hinv (k := 3) (hp_c3 (hp_a2 (hp_kd3 x) (hp_st_nI (by omega))) rfl (hp_a0 h17)) (by decide)) hH_2 (by decide) rfl rfl hl.1 (Nat.le_of_ble_eq_true rfl) dL_refuses_656 dL_refuses_659 dL_refuses_661 (by decide) ⟨(by show _ ≤ 64; omega), (by show _ ≤ 500; omega)⟩ (fun H_3 locs_3 hH_3 => ?_)
      clear hH_2
      refine W.widen (k := 33 + 3 * (k + 1)) (n := 226 + 22 * (k + 1)) (by omega) (by omega) ?_
      exact tail _ _ hH_3
set_option maxHeartbeats 1000000 in
set_option maxRecDepth 100000 in
theorem rf_t0 {p : Program} {e : Env} {s : State} {m : MethodId} {args : Array Value} {below : List Frame} {meth : Method} {c : Code} {Q : State → Prop} {A : Nat → Prop} {dC : Nat → ClassId} {dI : Nat → Nat → Nat} {cI cZ cO cJ : ClassId} {o : Nat} {b : Nat → Nat} {v : Nat → Int32} {r : Nat → Nat → Int32} {n x : Nat} (l : Launch) (hl0 : l.stackTraces = false) (hx : p.tables.exec = Jvm.exec) (hb : c.code = cL_refuses) (hml : c.maxLocals = 12) (hown : s.vm.findClass RL = some m.cls) (hts : ∀ w ∈ wsL_refuses, w.before args s = true) (hT : hp_T (dC, dI) cI cZ cO cJ A s) (hinv : hp_inv v r n) (hxl : x < 9973) {i : Nat} {low T F O C B : Int32} (hbad : hp_bad v n T F O C B) (hi : i < n) (hrv : ∃ rv, rv ≤ 1000 ∧ v 2 = nI rv) {H_0 : Heap} {locs_0 : List Loc} {ls : Array Slot} (hH_0 : hp_H1 (dC, dI) cI cZ cO A s o b v r n H_0 locs_0) (hl : lv_has ls 12 [(10, .int (nI i)), (9, .int 1), (0, .ref o), (1, .int (nI n)), (2, .int (nI x)), (3, .int low), (4, .int T), (5, .int F), (6, .int O), (7, .int C), (8, .int B)])
    (kk : ∀ (H : Heap) (locs : List Loc) (ls : Array Slot), hp_H1 (dC, dI) cI cZ cO A s o b v r n H locs → lv_has ls 12 [(11, .int (r 10 i)), (10, .int (nI i)), (9, .int 1), (0, .ref o), (1, .int (nI n)), (2, .int (nI x)), (3, .int low), (4, .int T), (5, .int F), (6, .int O), (7, .int C), (8, .int B)] → W p l e ({ frames := 8, cells := 64, slots := 500, locals := 182 } : Room) s m args below meth c H locs 46 320 Q (F0 m 706 ls [])) :
    W p l e ({ frames := 8, cells := 64, slots := 500, locals := 182 } : Room) s m args below meth c H_0 locs_0 45 314 Q (F0 m 696 ls []) := by
  have hn40 : n ≤ 40 := hinv.1
  obtain ⟨rv, hrv1, hv2⟩ := hrv
  have hcl : (nI i).toNatClampNeg = i := nI_clamp (by omega)
  have hei := hinv.2.1 i hi
  have heI := hp_el_nI hn40 hi
  have hF : CallFix p m c cL_refuses 12 s args wsL_refuses RL := ⟨hx, hb, hml, hown, hts⟩
  have cw_elementOf := vx_cwSW (R := ({ frames := 8, cells := 64, slots := 500, locals := 182 } : Room)) (rm := ({ frames := 7, cells := 1, slots := 6, locals := 105 } : Room)) (mc := 1) (ms := 6) 3 hts gL_refuses_L_elementOf rfl rfl rfl (by decide +kernel) ⟨(Nat.le_of_ble_eq_true rfl), (Nat.le_of_ble_eq_true rfl)⟩
  refine lv_aload_n hx hb dL_refuses_696 rfl (lv_at hl 2 rfl) ?_
  refine lv_iload hx hb dL_refuses_697 (lv_at hl 0 rfl) ?_
  refine lv_bipush (v := 6) hx hb dL_refuses_699 (by decide) ?_
  refine hp_call1 (As := [.int (nI i), .int 6]) (rest := []) hF hT cw_elementOf (wl_elementOf l hl0 dC dI cI cZ cO cJ o b v r n (nI i) 6 hinv (ans := r 10 i) (hp_eo6 hn40 hi)) hH_0 rfl rfl hl.1 (Nat.le_of_ble_eq_true rfl) dL_refuses_701 ⟨(Nat.le_of_ble_eq_true rfl), (Nat.le_of_ble_eq_true rfl)⟩ (fun H_1 locs_1 hH_1 => ?_)
  clear hH_0
  refine lv_istore (lv' := [(11, .int (r 10 i)), (10, .int (nI i)), (9, .int 1), (0, .ref o), (1, .int (nI n)), (2, .int (nI x)), (3, .int low), (4, .int T), (5, .int F), (6, .int O), (7, .int C), (8, .int B)]) hx hb dL_refuses_704 hl (by decide) rfl (fun ls hl => ?_)
  exact kk _ _ ls hH_1 hl
set_option maxHeartbeats 1000000 in
set_option maxRecDepth 100000 in
theorem rf_t1 {p : Program} {e : Env} {s : State} {m : MethodId} {args : Array Value} {below : List Frame} {meth : Method} {c : Code} {Q : State → Prop} {A : Nat → Prop} {dC : Nat → ClassId} {dI : Nat → Nat → Nat} {cI cZ cO cJ : ClassId} {o : Nat} {b : Nat → Nat} {v : Nat → Int32} {r : Nat → Nat → Int32} {n x : Nat} (l : Launch) (hl0 : l.stackTraces = false) (hx : p.tables.exec = Jvm.exec) (hb : c.code = cL_refuses) (hml : c.maxLocals = 12) (hown : s.vm.findClass RL = some m.cls) (hts : ∀ w ∈ wsL_refuses, w.before args s = true) (hT : hp_T (dC, dI) cI cZ cO cJ A s) (hinv : hp_inv v r n) (hxl : x < 9973) {i : Nat} {low T F O C B : Int32} (hbad : hp_bad v n T F O C B) (hi : i < n) (hrv : ∃ rv, rv ≤ 1000 ∧ v 2 = nI rv) {H_0 : Heap} {locs_0 : List Loc} {ls : Array Slot} (hH_0 : hp_H1 (dC, dI) cI cZ cO A s o b v r n H_0 locs_0) (hl : lv_has ls 12 [(11, .int (r 10 i)), (10, .int (nI i)), (9, .int 1), (0, .ref o), (1, .int (nI n)), (2, .int (nI x)), (3, .int low), (4, .int T), (5, .int F), (6, .int O), (7, .int C), (8, .int B)])
    (kk : ∀ (H : Heap) (locs : List Loc) (ls : Array Slot), hp_H1 (dC, dI) cI cZ cO A s o b v r n H locs → lv_has ls 12 [(11, .int (r 10 i)), (10, .int (nI i)), (9, .int 1), (0, .ref o), (1, .int (nI n)), (2, .int (nI x)), (3, .int low), (4, .int T), (5, .int F), (6, .int O), (7, .int C), (8, .int B)] → W p l e ({ frames := 8, cells := 64, slots := 500, locals := 182 } : Room) s m args below meth c H locs 52 356 Q (F0 m 832 ls [])) :
    W p l e ({ frames := 8, cells := 64, slots := 500, locals := 182 } : Room) s m args below meth c H_0 locs_0 46 320 Q (F0 m 706 ls []) := by
  have hn40 : n ≤ 40 := hinv.1
  obtain ⟨rv, hrv1, hv2⟩ := hrv
  have hcl : (nI i).toNatClampNeg = i := nI_clamp (by omega)
  have hei := hinv.2.1 i hi
  have heI := hp_el_nI hn40 hi
  have hF : CallFix p m c cL_refuses 12 s args wsL_refuses RL := ⟨hx, hb, hml, hown, hts⟩
  have hc_1 := hts (.constant RL 15 (-2000000001)) (by decide +kernel)
  have hc_2 := hts (.constant RL 18 (-2000000002)) (by decide +kernel)
  have cw_move := vx_cwSW (R := ({ frames := 8, cells := 64, slots := 500, locals := 182 } : Room)) (rm := ({ frames := 7, cells := 1, slots := 6, locals := 108 } : Room)) (mc := 1) (ms := 6) 6 hts gL_refuses_L_move rfl rfl rfl (by decide +kernel) ⟨(Nat.le_of_ble_eq_true rfl), (Nat.le_of_ble_eq_true rfl)⟩
  have cw_remove := vx_cwSW (R := ({ frames := 8, cells := 64, slots := 500, locals := 182 } : Room)) (rm := ({ frames := 7, cells := 1, slots := 6, locals := 106 } : Room)) (mc := 1) (ms := 6) 4 hts gL_refuses_L_remove rfl rfl rfl (by decide +kernel) ⟨(Nat.le_of_ble_eq_true rfl), (Nat.le_of_ble_eq_true rfl)⟩
  refine lv_aload_n hx hb dL_refuses_706 rfl (lv_at hl 3 rfl) ?_
  refine lv_iload hx hb dL_refuses_707 (lv_at hl 7 rfl) ?_
  refine lv_iconst (v := 0) hx hb dL_refuses_709 (by decide) ?_
  refine lv_iload hx hb dL_refuses_710 (lv_at hl 1 rfl) ?_
  refine lv_iconst (v := 0) hx hb dL_refuses_712 (by decide) ?_
  refine lv_iconst (v := 0) hx hb dL_refuses_713 (by decide) ?_
  refine hp_refu (kc := -2000000001) (ki := 15) (tgt := 981) (As := [.int T, .int 0, .int (nI i), .int 0, .int 0]) (rest := []) hF hT hc_1 cw_move (rl_move l hl0 dC dI cI cZ cO cJ o b v r n T 0 (nI i) 0 0 hinv (k := 1) (hp_c1 (hp_a0 hbad.1)) (by decide)) hH_0 (by decide) rfl rfl hl.1 (Nat.le_of_ble_eq_true rfl) dL_refuses_714 dL_refuses_717 dL_refuses_719 (by decide) ⟨(Nat.le_of_ble_eq_true rfl), (Nat.le_of_ble_eq_true rfl)⟩ (fun H_1 locs_1 hH_1 => ?_)
  clear hH_0
  refine lv_aload_n hx hb dL_refuses_722 rfl (lv_at hl 3 rfl) ?_
  refine lv_iload hx hb dL_refuses_723 (lv_at hl 7 rfl) ?_
  refine lv_iconst (v := 0) hx hb dL_refuses_725 (by decide) ?_
  refine lv_iload hx hb dL_refuses_726 (lv_at hl 1 rfl) ?_
  refine hp_refu (kc := -2000000001) (ki := 15) (tgt := 981) (As := [.int T, .int 0, .int (nI i)]) (rest := []) hF hT hc_1 cw_remove (rl_remove l hl0 dC dI cI cZ cO cJ o b v r n T 0 (nI i) hinv (k := 1) (hp_c1 (hp_a0 hbad.1)) (by decide)) hH_1 (by decide) rfl rfl hl.1 (Nat.le_of_ble_eq_true rfl) dL_refuses_728 dL_refuses_731 dL_refuses_733 (by decide) ⟨(Nat.le_of_ble_eq_true rfl), (Nat.le_of_ble_eq_true rfl)⟩ (fun H_2 locs_2 hH_2 => ?_)
  clear hH_1
  refine lv_aload_n hx hb dL_refuses_736 rfl (lv_at hl 3 rfl) ?_
  refine lv_iload_n hx hb dL_refuses_737 rfl (lv_at hl 5 rfl) ?_
  refine lv_iconst (v := 3) hx hb dL_refuses_738 (by decide) ?_
  refine lv_irem hx hb dL_refuses_739 (by decide) ?_
  refine hp_top (show nI x - nI x / 3 * 3 = nI (x % 3) from pk_rem (d := 3) (by omega) (by decide) (by decide)) ?_
  refine lv_iload hx hb dL_refuses_740 (lv_at hl 11 rfl) ?_
  refine lv_iload hx hb dL_refuses_742 (lv_at hl 1 rfl) ?_
  refine lv_iconst (v := 0) hx hb dL_refuses_744 (by decide) ?_
  refine lv_iconst (v := 0) hx hb dL_refuses_745 (by decide) ?_
  refine hp_refu (kc := -2000000002) (ki := 18) (tgt := 981) (As := [.int (nI (x % 3)), .int B, .int (nI i), .int 0, .int 0]) (rest := []) hF hT hc_2 cw_move (rl_move l hl0 dC dI cI cZ cO cJ o b v r n (nI (x % 3)) B (nI i) 0 0 hinv (k := 2) (hp_c2 (hp_a2 (hp_kd3 x) heI) (hp_a0 (hp_a0 (hp_a0 (hp_a0 (hp_a0 (hp_a0 hbad.2.2.2.2))))))) (by decide)) hH_2 (by decide) rfl rfl hl.1 (Nat.le_of_ble_eq_true rfl) dL_refuses_746 dL_refuses_749 dL_refuses_751 (by decide) ⟨(Nat.le_of_ble_eq_true rfl), (Nat.le_of_ble_eq_true rfl)⟩ (fun H_3 locs_3 hH_3 => ?_)
  clear hH_2
  refine lv_aload_n hx hb dL_refuses_754 rfl (lv_at hl 3 rfl) ?_
  refine lv_iload_n hx hb dL_refuses_755 rfl (lv_at hl 5 rfl) ?_
  refine lv_iconst (v := 3) hx hb dL_refuses_756 (by decide) ?_
  refine lv_irem hx hb dL_refuses_757 (by decide) ?_
  refine hp_top (show nI x - nI x / 3 * 3 = nI (x % 3) from pk_rem (d := 3) (by omega) (by decide) (by decide)) ?_
  refine lv_iload hx hb dL_refuses_758 (lv_at hl 11 rfl) ?_
  refine lv_iload hx hb dL_refuses_760 (lv_at hl 1 rfl) ?_
  refine hp_refu (kc := -2000000002) (ki := 18) (tgt := 981) (As := [.int (nI (x % 3)), .int B, .int (nI i)]) (rest := []) hF hT hc_2 cw_remove (rl_remove l hl0 dC dI cI cZ cO cJ o b v r n (nI (x % 3)) B (nI i) hinv (k := 2) (hp_c2 (hp_a2 (hp_kd3 x) heI) hbad.2.2.2.2) (by decide)) hH_3 (by decide) rfl rfl hl.1 (Nat.le_of_ble_eq_true rfl) dL_refuses_762 dL_refuses_765 dL_refuses_767 (by decide) ⟨(Nat.le_of_ble_eq_true rfl), (Nat.le_of_ble_eq_true rfl)⟩ (fun H_4 locs_4 hH_4 => ?_)
  clear hH_3
  refine lv_aload_n hx hb dL_refuses_770 rfl (lv_at hl 3 rfl) ?_
  refine lv_iload_n hx hb dL_refuses_771 rfl (lv_at hl 5 rfl) ?_
  refine lv_iconst (v := 3) hx hb dL_refuses_772 (by decide) ?_
  refine lv_irem hx hb dL_refuses_773 (by decide) ?_
  refine hp_top (show nI x - nI x / 3 * 3 = nI (x % 3) from pk_rem (d := 3) (by omega) (by decide) (by decide)) ?_
  refine lv_iconst (v := 0) hx hb dL_refuses_774 (by decide) ?_
  refine lv_iload hx hb dL_refuses_775 (lv_at hl 1 rfl) ?_
  refine lv_iload_n hx hb dL_refuses_777 rfl (lv_at hl 6 rfl) ?_
  refine hp_joinB 792 12 (fun y5 : Int32 => hp_in y5 (-11) 11 = false) (fun y5 => [(11, .int (r 10 i)), (10, .int (nI i)), (9, .int 1), (0, .ref o), (1, .int (nI n)), (2, .int (nI x)), (3, .int low), (4, .int T), (5, .int F), (6, .int O), (7, .int C), (8, .int B)]) (fun y5 => [.int y5, .int (nI i), .int 0, .int (nI (x % 3)), .ref o]) (fun jn => ?_) ?_
  · refine lv_if_eq (tgt := 788) hx hb dL_refuses_778 (by decide) (fun c9 => ?_) (fun c9 => ?_)
    · skip
      refine lv_bipush (v := 12) hx hb dL_refuses_788 (by decide) ?_
      refine lv_iload_n hx hb dL_refuses_790 rfl (lv_at hl 5 rfl) ?_
      refine lv_iadd hx hb dL_refuses_791 ?_
      refine hp_top (show (12 : Int32) + nI x = nI (12 + x) from nI_add 12 x) ?_
      exact jn (nI (12 + x)) (hp_hi (by show (11 : Int) < _; omega) (by omega)) _ hl
    · skip
      refine lv_bipush (v := (-12)) hx hb dL_refuses_781 (by decide) ?_
      refine lv_iload_n hx hb dL_refuses_783 rfl (lv_at hl 5 rfl) ?_
      refine lv_isub hx hb dL_refuses_784 ?_
      refine lv_goto (tgt := 792) hx hb dL_refuses_785 (by decide) ?_
      exact jn ((-12) - (nI x)) (hp_lo12 (by omega)) _ hl
  intro y5 h_y5 ls hl
  refine lv_iconst (v := 0) hx hb dL_refuses_792 (by decide) ?_
  refine hp_refu (kc := -2000000002) (ki := 18) (tgt := 981) (As := [.int (nI (x % 3)), .int 0, .int (nI i), .int y5, .int 0]) (rest := []) hF hT hc_2 cw_move (rl_move l hl0 dC dI cI cZ cO cJ o b v r n (nI (x % 3)) 0 (nI i) y5 0 hinv (k := 2) (hp_c2 (hp_a2 (hp_kd3 x) heI) (hp_a0 (hp_a0 (hp_a0 (hp_a0 (hp_a0 (hp_a1 h_y5))))))) (by decide)) hH_4 (by decide) rfl rfl hl.1 (Nat.le_of_ble_eq_true rfl) dL_refuses_793 dL_refuses_796 dL_refuses_798 (by decide) ⟨(Nat.le_of_ble_eq_true rfl), (Nat.le_of_ble_eq_true rfl)⟩ (fun H_5 locs_5 hH_5 => ?_)
  clear hH_4
  refine lv_aload_n hx hb dL_refuses_801 rfl (lv_at hl 3 rfl) ?_
  refine lv_iload_n hx hb dL_refuses_802 rfl (lv_at hl 5 rfl) ?_
  refine lv_iconst (v := 3) hx hb dL_refuses_803 (by decide) ?_
  refine lv_irem hx hb dL_refuses_804 (by decide) ?_
  refine hp_top (show nI x - nI x / 3 * 3 = nI (x % 3) from pk_rem (d := 3) (by omega) (by decide) (by decide)) ?_
  refine lv_iconst (v := 0) hx hb dL_refuses_805 (by decide) ?_
  refine lv_iload hx hb dL_refuses_806 (lv_at hl 1 rfl) ?_
  refine lv_iconst (v := 0) hx hb dL_refuses_808 (by decide) ?_
  refine lv_iload_n hx hb dL_refuses_809 rfl (lv_at hl 6 rfl) ?_
  refine hp_joinB 824 12 (fun y6 : Int32 => hp_in y6 (-11) 11 = false) (fun y6 => [(11, .int (r 10 i)), (10, .int (nI i)), (9, .int 1), (0, .ref o), (1, .int (nI n)), (2, .int (nI x)), (3, .int low), (4, .int T), (5, .int F), (6, .int O), (7, .int C), (8, .int B)]) (fun y6 => [.int y6, .int 0, .int (nI i), .int 0, .int (nI (x % 3)), .ref o]) (fun jn => ?_) ?_
  · refine lv_if_eq (tgt := 820) hx hb dL_refuses_810 (by decide) (fun c9 => ?_) (fun c9 => ?_)
    · skip
      refine lv_bipush (v := 12) hx hb dL_refuses_820 (by decide) ?_
      refine lv_iload_n hx hb dL_refuses_822 rfl (lv_at hl 5 rfl) ?_
      refine lv_iadd hx hb dL_refuses_823 ?_
      refine hp_top (show (12 : Int32) + nI x = nI (12 + x) from nI_add 12 x) ?_
      exact jn (nI (12 + x)) (hp_hi (by show (11 : Int) < _; omega) (by omega)) _ hl
    · skip
      refine lv_bipush (v := (-12)) hx hb dL_refuses_813 (by decide) ?_
      refine lv_iload_n hx hb dL_refuses_815 rfl (lv_at hl 5 rfl) ?_
      refine lv_isub hx hb dL_refuses_816 ?_
      refine lv_goto (tgt := 824) hx hb dL_refuses_817 (by decide) ?_
      exact jn ((-12) - (nI x)) (hp_lo12 (by omega)) _ hl
  intro y6 h_y6 ls hl
  refine hp_refu (kc := -2000000002) (ki := 18) (tgt := 981) (As := [.int (nI (x % 3)), .int 0, .int (nI i), .int 0, .int y6]) (rest := []) hF hT hc_2 cw_move (rl_move l hl0 dC dI cI cZ cO cJ o b v r n (nI (x % 3)) 0 (nI i) 0 y6 hinv (k := 2) (hp_c2 (hp_a2 (hp_kd3 x) heI) (hp_a0 (hp_a0 (hp_a0 (hp_a0 (hp_a1 h_y6)))))) (by decide)) hH_5 (by decide) rfl rfl hl.1 (Nat.le_of_ble_eq_true rfl) dL_refuses_824 dL_refuses_827 dL_refuses_829 (by decide) ⟨(Nat.le_of_ble_eq_true rfl), (Nat.le_of_ble_eq_true rfl)⟩ (fun H_6 locs_6 hH_6 => ?_)
  clear hH_5
  exact kk _ _ ls hH_6 hl
set_option maxHeartbeats 1000000 in
set_option maxRecDepth 100000 in
theorem rf_t2 {p : Program} {e : Env} {s : State} {m : MethodId} {args : Array Value} {below : List Frame} {meth : Method} {c : Code} {Q : State → Prop} {A : Nat → Prop} {dC : Nat → ClassId} {dI : Nat → Nat → Nat} {cI cZ cO cJ : ClassId} {o : Nat} {b : Nat → Nat} {v : Nat → Int32} {r : Nat → Nat → Int32} {n x : Nat} (l : Launch) (hl0 : l.stackTraces = false) (hx : p.tables.exec = Jvm.exec) (hb : c.code = cL_refuses) (hml : c.maxLocals = 12) (hown : s.vm.findClass RL = some m.cls) (hts : ∀ w ∈ wsL_refuses, w.before args s = true) (hT : hp_T (dC, dI) cI cZ cO cJ A s) (hinv : hp_inv v r n) (hxl : x < 9973) {i : Nat} {low T F O C B : Int32} (hbad : hp_bad v n T F O C B) (hi : i < n) (hrv : ∃ rv, rv ≤ 1000 ∧ v 2 = nI rv) {H_0 : Heap} {locs_0 : List Loc} {ls : Array Slot} (hH_0 : hp_H1 (dC, dI) cI cZ cO A s o b v r n H_0 locs_0) (hl : lv_has ls 12 [(11, .int (r 10 i)), (10, .int (nI i)), (9, .int 1), (0, .ref o), (1, .int (nI n)), (2, .int (nI x)), (3, .int low), (4, .int T), (5, .int F), (6, .int O), (7, .int C), (8, .int B)])
    (kk : ∀ (H : Heap) (locs : List Loc) (ls : Array Slot), hp_H1 (dC, dI) cI cZ cO A s o b v r n H locs → lv_has ls 12 [(11, .int (r 10 i)), (10, .int (nI i)), (9, .int 1), (0, .ref o), (1, .int (nI n)), (2, .int (nI x)), (3, .int low), (4, .int T), (5, .int F), (6, .int O), (7, .int C), (8, .int B)] → W p l e ({ frames := 8, cells := 64, slots := 500, locals := 182 } : Room) s m args below meth c H locs 56 380 Q (F0 m 895 ls [])) :
    W p l e ({ frames := 8, cells := 64, slots := 500, locals := 182 } : Room) s m args below meth c H_0 locs_0 52 356 Q (F0 m 832 ls []) := by
  have hn40 : n ≤ 40 := hinv.1
  obtain ⟨rv, hrv1, hv2⟩ := hrv
  have hcl : (nI i).toNatClampNeg = i := nI_clamp (by omega)
  have hei := hinv.2.1 i hi
  have heI := hp_el_nI hn40 hi
  have hF : CallFix p m c cL_refuses 12 s args wsL_refuses RL := ⟨hx, hb, hml, hown, hts⟩
  have hc_1 := hts (.constant RL 15 (-2000000001)) (by decide +kernel)
  have hc_2 := hts (.constant RL 18 (-2000000002)) (by decide +kernel)
  have cw_clash := vx_cwSW (R := ({ frames := 8, cells := 64, slots := 500, locals := 182 } : Room)) (rm := ({ frames := 7, cells := 1, slots := 6, locals := 115 } : Room)) (mc := 1) (ms := 6) 3 hts gL_refuses_L_clash rfl rfl rfl (by decide +kernel) ⟨(Nat.le_of_ble_eq_true rfl), (Nat.le_of_ble_eq_true rfl)⟩
  have cw_elementOf := vx_cwSW (R := ({ frames := 8, cells := 64, slots := 500, locals := 182 } : Room)) (rm := ({ frames := 7, cells := 1, slots := 6, locals := 105 } : Room)) (mc := 1) (ms := 6) 3 hts gL_refuses_L_elementOf rfl rfl rfl (by decide +kernel) ⟨(Nat.le_of_ble_eq_true rfl), (Nat.le_of_ble_eq_true rfl)⟩
  have cw_move := vx_cwSW (R := ({ frames := 8, cells := 64, slots := 500, locals := 182 } : Room)) (rm := ({ frames := 7, cells := 1, slots := 6, locals := 108 } : Room)) (mc := 1) (ms := 6) 6 hts gL_refuses_L_move rfl rfl rfl (by decide +kernel) ⟨(Nat.le_of_ble_eq_true rfl), (Nat.le_of_ble_eq_true rfl)⟩
  refine lv_aload_n hx hb dL_refuses_832 rfl (lv_at hl 3 rfl) ?_
  refine lv_iload_n hx hb dL_refuses_833 rfl (lv_at hl 5 rfl) ?_
  refine lv_iconst (v := 3) hx hb dL_refuses_834 (by decide) ?_
  refine lv_irem hx hb dL_refuses_835 (by decide) ?_
  refine hp_top (show nI x - nI x / 3 * 3 = nI (x % 3) from pk_rem (d := 3) (by omega) (by decide) (by decide)) ?_
  refine lv_iconst (v := 0) hx hb dL_refuses_836 (by decide) ?_
  refine lv_iload hx hb dL_refuses_837 (lv_at hl 1 rfl) ?_
  refine lv_iconst (v := (-1)) hx hb dL_refuses_839 (by decide) ?_
  refine lv_aload_n hx hb dL_refuses_840 rfl (lv_at hl 3 rfl) ?_
  refine lv_iload hx hb dL_refuses_841 (lv_at hl 1 rfl) ?_
  refine lv_iconst (v := 2) hx hb dL_refuses_843 (by decide) ?_
  refine hp_call1 (As := [.int (nI i), .int 2]) (rest := [.int (-1), .int (nI i), .int 0, .int (nI (x % 3)), .ref o]) hF hT cw_elementOf (wl_elementOf l hl0 dC dI cI cZ cO cJ o b v r n (nI i) 2 hinv (ans := r 6 i) (hp_eo2 hn40 hi)) hH_0 rfl rfl hl.1 (Nat.le_of_ble_eq_true rfl) dL_refuses_844 ⟨(Nat.le_of_ble_eq_true rfl), (Nat.le_of_ble_eq_true rfl)⟩ (fun H_1 locs_1 hH_1 => ?_)
  clear hH_0
  refine lv_isub hx hb dL_refuses_847 ?_
  refine lv_iconst (v := 0) hx hb dL_refuses_848 (by decide) ?_
  refine hp_refu (kc := -2000000002) (ki := 18) (tgt := 981) (As := [.int (nI (x % 3)), .int 0, .int (nI i), .int ((-1) - (r 6 i)), .int 0]) (rest := []) hF hT hc_2 cw_move (rl_move l hl0 dC dI cI cZ cO cJ o b v r n (nI (x % 3)) 0 (nI i) ((-1) - (r 6 i)) 0 hinv (k := 2) (hp_c2 (hp_a2 (hp_kd3 x) heI) (hp_a0 (hp_a0 (hp_a0 (by rw [hcl]; exact hp_a1 hp_left))))) (by decide)) hH_1 (by decide) rfl rfl hl.1 (Nat.le_of_ble_eq_true rfl) dL_refuses_849 dL_refuses_852 dL_refuses_854 (by decide) ⟨(Nat.le_of_ble_eq_true rfl), (Nat.le_of_ble_eq_true rfl)⟩ (fun H_2 locs_2 hH_2 => ?_)
  clear hH_1
  refine lv_aload_n hx hb dL_refuses_857 rfl (lv_at hl 3 rfl) ?_
  refine lv_iload hx hb dL_refuses_858 (lv_at hl 1 rfl) ?_
  refine lv_iload_n hx hb dL_refuses_860 rfl (lv_at hl 6 rfl) ?_
  refine hp_joinB 874 12 (fun y8 : Int32 => hp_in y8 0 9 = false) (fun y8 => [(11, .int (r 10 i)), (10, .int (nI i)), (9, .int 1), (0, .ref o), (1, .int (nI n)), (2, .int (nI x)), (3, .int low), (4, .int T), (5, .int F), (6, .int O), (7, .int C), (8, .int B)]) (fun y8 => [.int y8, .int (nI i), .ref o]) (fun jn => ?_) ?_
  · refine lv_if_eq (tgt := 870) hx hb dL_refuses_861 (by decide) (fun c9 => ?_) (fun c9 => ?_)
    · skip
      refine lv_bipush (v := 10) hx hb dL_refuses_870 (by decide) ?_
      refine lv_iload_n hx hb dL_refuses_872 rfl (lv_at hl 5 rfl) ?_
      refine lv_iadd hx hb dL_refuses_873 ?_
      refine hp_top (show (10 : Int32) + nI x = nI (10 + x) from nI_add 10 x) ?_
      exact jn (nI (10 + x)) (hp_hi (by show (9 : Int) < _; omega) (by omega)) _ hl
    · skip
      refine lv_iconst (v := (-1)) hx hb dL_refuses_864 (by decide) ?_
      refine lv_iload_n hx hb dL_refuses_865 rfl (lv_at hl 5 rfl) ?_
      refine lv_isub hx hb dL_refuses_866 ?_
      refine lv_goto (tgt := 874) hx hb dL_refuses_867 (by decide) ?_
      exact jn ((-1) - (nI x)) (hp_lo1 (by omega) rfl) _ hl
  intro y8 h_y8 ls hl
  refine hp_refu (kc := -2000000002) (ki := 18) (tgt := 981) (As := [.int (nI i), .int y8]) (rest := []) hF hT hc_2 cw_elementOf (rl_elementOf l hl0 dC dI cI cZ cO cJ o b v r n (nI i) y8 hinv (k := 2) (hp_c2 heI h_y8) (by decide)) hH_2 (by decide) rfl rfl hl.1 (Nat.le_of_ble_eq_true rfl) dL_refuses_874 dL_refuses_877 dL_refuses_879 (by decide) ⟨(Nat.le_of_ble_eq_true rfl), (Nat.le_of_ble_eq_true rfl)⟩ (fun H_3 locs_3 hH_3 => ?_)
  clear hH_2
  refine lv_aload_n hx hb dL_refuses_882 rfl (lv_at hl 3 rfl) ?_
  refine lv_iload hx hb dL_refuses_883 (lv_at hl 1 rfl) ?_
  refine lv_iload hx hb dL_refuses_885 (lv_at hl 9 rfl) ?_
  refine hp_refu (kc := -2000000001) (ki := 15) (tgt := 981) (As := [.int (nI i), .int O]) (rest := []) hF hT hc_1 cw_clash (rl_clash l hl0 dC dI cI cZ cO cJ o b v r n (nI i) O hinv (k := 1) (hp_c1 (hp_a1 hbad.2.2.1)) (by decide)) hH_3 (by decide) rfl rfl hl.1 (Nat.le_of_ble_eq_true rfl) dL_refuses_887 dL_refuses_890 dL_refuses_892 (by decide) ⟨(Nat.le_of_ble_eq_true rfl), (Nat.le_of_ble_eq_true rfl)⟩ (fun H_4 locs_4 hH_4 => ?_)
  clear hH_3
  exact kk _ _ ls hH_4 hl
set_option maxHeartbeats 1000000 in
set_option maxRecDepth 100000 in
theorem rf_t3 {p : Program} {e : Env} {s : State} {m : MethodId} {args : Array Value} {below : List Frame} {meth : Method} {c : Code} {Q : State → Prop} {A : Nat → Prop} {dC : Nat → ClassId} {dI : Nat → Nat → Nat} {cI cZ cO cJ : ClassId} {o : Nat} {b : Nat → Nat} {v : Nat → Int32} {r : Nat → Nat → Int32} {n x : Nat} (l : Launch) (hl0 : l.stackTraces = false) (hx : p.tables.exec = Jvm.exec) (hb : c.code = cL_refuses) (hml : c.maxLocals = 12) (hown : s.vm.findClass RL = some m.cls) (hts : ∀ w ∈ wsL_refuses, w.before args s = true) (hT : hp_T (dC, dI) cI cZ cO cJ A s) (hinv : hp_inv v r n) (hxl : x < 9973) {i : Nat} {low T F O C B : Int32} (hbad : hp_bad v n T F O C B) (hi : i < n) (hrv : ∃ rv, rv ≤ 1000 ∧ v 2 = nI rv) {H_0 : Heap} {locs_0 : List Loc} {ls : Array Slot} (hH_0 : hp_H1 (dC, dI) cI cZ cO A s o b v r n H_0 locs_0) (hl : lv_has ls 12 [(11, .int (r 10 i)), (10, .int (nI i)), (9, .int 1), (0, .ref o), (1, .int (nI n)), (2, .int (nI x)), (3, .int low), (4, .int T), (5, .int F), (6, .int O), (7, .int C), (8, .int B)])
    (kk : ∀ (H : Heap) (locs : List Loc) (ls : Array Slot), hp_H1 (dC, dI) cI cZ cO A s o b v r n H locs → lv_has ls 12 [(11, .int (r 10 i)), (10, .int (nI i)), (9, .int 1), (0, .ref o), (1, .int (nI n)), (2, .int (nI x)), (3, .int low), (4, .int T), (5, .int F), (6, .int O), (7, .int C), (8, .int B)] → W p l e ({ frames := 8, cells := 64, slots := 500, locals := 182 } : Room) s m args below meth c H locs 59 398 Q (F0 m 943 ls [])) :
    W p l e ({ frames := 8, cells := 64, slots := 500, locals := 182 } : Room) s m args below meth c H_0 locs_0 56 380 Q (F0 m 895 ls []) := by
  have hn40 : n ≤ 40 := hinv.1
  obtain ⟨rv, hrv1, hv2⟩ := hrv
  have hcl : (nI i).toNatClampNeg = i := nI_clamp (by omega)
  have hei := hinv.2.1 i hi
  have heI := hp_el_nI hn40 hi
  have hF : CallFix p m c cL_refuses 12 s args wsL_refuses RL := ⟨hx, hb, hml, hown, hts⟩
  have hc_3 := hts (.constant RL 21 (-2000000003)) (by decide +kernel)
  have cw_move := vx_cwSW (R := ({ frames := 8, cells := 64, slots := 500, locals := 182 } : Room)) (rm := ({ frames := 7, cells := 1, slots := 6, locals := 108 } : Room)) (mc := 1) (ms := 6) 6 hts gL_refuses_L_move rfl rfl rfl (by decide +kernel) ⟨(Nat.le_of_ble_eq_true rfl), (Nat.le_of_ble_eq_true rfl)⟩
  have cw_order := vx_cwSW (R := ({ frames := 8, cells := 64, slots := 500, locals := 182 } : Room)) (rm := ({ frames := 7, cells := 1, slots := 6, locals := 104 } : Room)) (mc := 1) (ms := 6) 2 hts gL_refuses_L_order rfl rfl rfl (by decide +kernel) ⟨(Nat.le_of_ble_eq_true rfl), (Nat.le_of_ble_eq_true rfl)⟩
  have cw_remove := vx_cwSW (R := ({ frames := 8, cells := 64, slots := 500, locals := 182 } : Room)) (rm := ({ frames := 7, cells := 1, slots := 6, locals := 106 } : Room)) (mc := 1) (ms := 6) 4 hts gL_refuses_L_remove rfl rfl rfl (by decide +kernel) ⟨(Nat.le_of_ble_eq_true rfl), (Nat.le_of_ble_eq_true rfl)⟩
  refine lv_iload hx hb dL_refuses_895 (lv_at hl 0 rfl) ?_
  refine lv_if_eq (tgt := 943) hx hb dL_refuses_897 (by decide) (fun _ => W.widen (k := 59) (n := 398) (Nat.le_of_ble_eq_true rfl) (Nat.le_of_ble_eq_true rfl) (kk _ _ ls hH_0 hl)) (fun c9 => ?_)
  have h10 : (r 10 (nI i).toNatClampNeg == 0) = false := by rw [hcl]; exact hp_eqf c9
  refine lv_aload_n hx hb dL_refuses_900 rfl (lv_at hl 3 rfl) ?_
  refine lv_iload_n hx hb dL_refuses_901 rfl (lv_at hl 5 rfl) ?_
  refine lv_iconst (v := 3) hx hb dL_refuses_902 (by decide) ?_
  refine lv_irem hx hb dL_refuses_903 (by decide) ?_
  refine hp_top (show nI x - nI x / 3 * 3 = nI (x % 3) from pk_rem (d := 3) (by omega) (by decide) (by decide)) ?_
  refine lv_iconst (v := 0) hx hb dL_refuses_904 (by decide) ?_
  refine lv_iload hx hb dL_refuses_905 (lv_at hl 1 rfl) ?_
  refine lv_iconst (v := 0) hx hb dL_refuses_907 (by decide) ?_
  refine lv_iconst (v := 0) hx hb dL_refuses_908 (by decide) ?_
  refine hp_refu (kc := -2000000003) (ki := 21) (tgt := 981) (As := [.int (nI (x % 3)), .int 0, .int (nI i), .int 0, .int 0]) (rest := []) hF hT hc_3 cw_move (rl_move l hl0 dC dI cI cZ cO cJ o b v r n (nI (x % 3)) 0 (nI i) 0 0 hinv (k := 3) (hp_c3 (hp_a2 (hp_kd3 x) heI) (by rw [hcl]; exact hp_mv0 hei hv2 hrv1) h10) (by decide)) hH_0 (by decide) rfl rfl hl.1 (Nat.le_of_ble_eq_true rfl) dL_refuses_909 dL_refuses_912 dL_refuses_914 (by decide) ⟨(Nat.le_of_ble_eq_true rfl), (Nat.le_of_ble_eq_true rfl)⟩ (fun H_1 locs_1 hH_1 => ?_)
  clear hH_0
  refine lv_aload_n hx hb dL_refuses_917 rfl (lv_at hl 3 rfl) ?_
  refine lv_iload_n hx hb dL_refuses_918 rfl (lv_at hl 5 rfl) ?_
  refine lv_iconst (v := 3) hx hb dL_refuses_919 (by decide) ?_
  refine lv_irem hx hb dL_refuses_920 (by decide) ?_
  refine hp_top (show nI x - nI x / 3 * 3 = nI (x % 3) from pk_rem (d := 3) (by omega) (by decide) (by decide)) ?_
  refine lv_iconst (v := 0) hx hb dL_refuses_921 (by decide) ?_
  refine lv_iload hx hb dL_refuses_922 (lv_at hl 1 rfl) ?_
  refine hp_refu (kc := -2000000003) (ki := 21) (tgt := 981) (As := [.int (nI (x % 3)), .int 0, .int (nI i)]) (rest := []) hF hT hc_3 cw_remove (rl_remove l hl0 dC dI cI cZ cO cJ o b v r n (nI (x % 3)) 0 (nI i) hinv (k := 3) (hp_c3 (hp_a2 (hp_kd3 x) heI) (hp_in00 hv2 hrv1) h10) (by decide)) hH_1 (by decide) rfl rfl hl.1 (Nat.le_of_ble_eq_true rfl) dL_refuses_924 dL_refuses_927 dL_refuses_929 (by decide) ⟨(Nat.le_of_ble_eq_true rfl), (Nat.le_of_ble_eq_true rfl)⟩ (fun H_2 locs_2 hH_2 => ?_)
  clear hH_1
  refine lv_aload_n hx hb dL_refuses_932 rfl (lv_at hl 3 rfl) ?_
  refine lv_iload hx hb dL_refuses_933 (lv_at hl 1 rfl) ?_
  refine hp_refu (kc := -2000000003) (ki := 21) (tgt := 981) (As := [.int (nI i)]) (rest := []) hF hT hc_3 cw_order (rl_order l hl0 dC dI cI cZ cO cJ o b v r n (nI i) hinv (k := 2) (hp_c2 heI h10) (by decide)) hH_2 (by decide) rfl rfl hl.1 (Nat.le_of_ble_eq_true rfl) dL_refuses_935 dL_refuses_938 dL_refuses_940 (by decide) ⟨(Nat.le_of_ble_eq_true rfl), (Nat.le_of_ble_eq_true rfl)⟩ (fun H_3 locs_3 hH_3 => ?_)
  clear hH_2
  exact kk _ _ ls hH_3 hl
set_option maxHeartbeats 1000000 in
set_option maxRecDepth 100000 in
theorem rf_t4 {p : Program} {e : Env} {s : State} {m : MethodId} {args : Array Value} {below : List Frame} {meth : Method} {c : Code} {Q : State → Prop} {A : Nat → Prop} {dC : Nat → ClassId} {dI : Nat → Nat → Nat} {cI cZ cO cJ : ClassId} {o : Nat} {b : Nat → Nat} {v : Nat → Int32} {r : Nat → Nat → Int32} {n x : Nat} (l : Launch) (hl0 : l.stackTraces = false) (hx : p.tables.exec = Jvm.exec) (hb : c.code = cL_refuses) (hml : c.maxLocals = 12) (hown : s.vm.findClass RL = some m.cls) (hts : ∀ w ∈ wsL_refuses, w.before args s = true) (hT : hp_T (dC, dI) cI cZ cO cJ A s) (hinv : hp_inv v r n) (hxl : x < 9973) {i : Nat} {low T F O C B : Int32} (hbad : hp_bad v n T F O C B) (hi : i < n) (hrv : ∃ rv, rv ≤ 1000 ∧ v 2 = nI rv) {H_0 : Heap} {locs_0 : List Loc} {ls : Array Slot} (hH_0 : hp_H1 (dC, dI) cI cZ cO A s o b v r n H_0 locs_0) (hl : lv_has ls 12 [(11, .int (r 10 i)), (10, .int (nI i)), (9, .int 1), (0, .ref o), (1, .int (nI n)), (2, .int (nI x)), (3, .int low), (4, .int T), (5, .int F), (6, .int O), (7, .int C), (8, .int B)])
    (kk : ∀ (H : Heap) (locs : List Loc) (ls : Array Slot), hp_H1 (dC, dI) cI cZ cO A s o b v r n H locs → lv_has ls 12 [(11, .int (r 10 i)), (10, .int (nI i)), (9, .int 1), (0, .ref o), (1, .int (nI n)), (2, .int (nI x)), (3, .int low), (4, .int T), (5, .int F), (6, .int O), (7, .int C), (8, .int B)] → W p l e ({ frames := 8, cells := 64, slots := 500, locals := 182 } : Room) s m args below meth c H locs 60 404 Q (F0 m 960 ls [])) :
    W p l e ({ frames := 8, cells := 64, slots := 500, locals := 182 } : Room) s m args below meth c H_0 locs_0 59 398 Q (F0 m 943 ls []) := by
  have hn40 : n ≤ 40 := hinv.1
  obtain ⟨rv, hrv1, hv2⟩ := hrv
  have hcl : (nI i).toNatClampNeg = i := nI_clamp (by omega)
  have hei := hinv.2.1 i hi
  have heI := hp_el_nI hn40 hi
  have hF : CallFix p m c cL_refuses 12 s args wsL_refuses RL := ⟨hx, hb, hml, hown, hts⟩
  have hc_3 := hts (.constant RL 21 (-2000000003)) (by decide +kernel)
  have cw_cancel := vx_cwSW (R := ({ frames := 8, cells := 64, slots := 500, locals := 182 } : Room)) (rm := ({ frames := 7, cells := 1, slots := 6, locals := 104 } : Room)) (mc := 1) (ms := 6) 2 hts gL_refuses_L_cancel rfl rfl rfl (by decide +kernel) ⟨(Nat.le_of_ble_eq_true rfl), (Nat.le_of_ble_eq_true rfl)⟩
  refine lv_iload hx hb dL_refuses_943 (lv_at hl 0 rfl) ?_
  refine lv_iconst (v := 1) hx hb dL_refuses_945 (by decide) ?_
  refine lv_icmp_eq (tgt := 960) hx hb dL_refuses_946 (by decide) (fun _ => W.widen (k := 60) (n := 404) (Nat.le_of_ble_eq_true rfl) (Nat.le_of_ble_eq_true rfl) (kk _ _ ls hH_0 hl)) (fun c9 => ?_)
  have h10 : (r 10 (nI i).toNatClampNeg == 1) = false := by rw [hcl]; exact hp_eqf c9
  refine lv_aload_n hx hb dL_refuses_949 rfl (lv_at hl 3 rfl) ?_
  refine lv_iload hx hb dL_refuses_950 (lv_at hl 1 rfl) ?_
  refine hp_refu (kc := -2000000003) (ki := 21) (tgt := 981) (As := [.int (nI i)]) (rest := []) hF hT hc_3 cw_cancel (rl_cancel l hl0 dC dI cI cZ cO cJ o b v r n (nI i) hinv (k := 2) (hp_c2 heI h10) (by decide)) hH_0 (by decide) rfl rfl hl.1 (Nat.le_of_ble_eq_true rfl) dL_refuses_952 dL_refuses_955 dL_refuses_957 (by decide) ⟨(Nat.le_of_ble_eq_true rfl), (Nat.le_of_ble_eq_true rfl)⟩ (fun H_1 locs_1 hH_1 => ?_)
  clear hH_0
  exact kk _ _ ls hH_1 hl
set_option maxHeartbeats 1000000 in
set_option maxRecDepth 100000 in
theorem rf_t5 {p : Program} {e : Env} {s : State} {m : MethodId} {args : Array Value} {below : List Frame} {meth : Method} {c : Code} {Q : State → Prop} {A : Nat → Prop} {dC : Nat → ClassId} {dI : Nat → Nat → Nat} {cI cZ cO cJ : ClassId} {o : Nat} {b : Nat → Nat} {v : Nat → Int32} {r : Nat → Nat → Int32} {n x : Nat} (l : Launch) (hl0 : l.stackTraces = false) (hx : p.tables.exec = Jvm.exec) (hb : c.code = cL_refuses) (hml : c.maxLocals = 12) (hown : s.vm.findClass RL = some m.cls) (hts : ∀ w ∈ wsL_refuses, w.before args s = true) (hT : hp_T (dC, dI) cI cZ cO cJ A s) (hinv : hp_inv v r n) (hxl : x < 9973) {i : Nat} {low T F O C B : Int32} (hbad : hp_bad v n T F O C B) (hi : i < n) (hrv : ∃ rv, rv ≤ 1000 ∧ v 2 = nI rv) {H_0 : Heap} {locs_0 : List Loc} {ls : Array Slot} (hH_0 : hp_H1 (dC, dI) cI cZ cO A s o b v r n H_0 locs_0) (hl : lv_has ls 12 [(11, .int (r 10 i)), (10, .int (nI i)), (9, .int 1), (0, .ref o), (1, .int (nI n)), (2, .int (nI x)), (3, .int low), (4, .int T), (5, .int F), (6, .int O), (7, .int C), (8, .int B)])
    (kk : ∀ (H : Heap) (locs : List Loc) (ls : Array Slot), hp_H1 (dC, dI) cI cZ cO A s o b v r n H locs → lv_has ls 12 [(11, .int (r 10 i)), (10, .int (nI i)), (9, .int 1), (0, .ref o), (1, .int (nI n)), (2, .int (nI x)), (3, .int low), (4, .int T), (5, .int F), (6, .int O), (7, .int C), (8, .int B)] → W p l e ({ frames := 8, cells := 64, slots := 500, locals := 182 } : Room) s m args below meth c H locs 61 410 Q (F0 m 977 ls [])) :
    W p l e ({ frames := 8, cells := 64, slots := 500, locals := 182 } : Room) s m args below meth c H_0 locs_0 60 404 Q (F0 m 960 ls []) := by
  have hn40 : n ≤ 40 := hinv.1
  obtain ⟨rv, hrv1, hv2⟩ := hrv
  have hcl : (nI i).toNatClampNeg = i := nI_clamp (by omega)
  have hei := hinv.2.1 i hi
  have heI := hp_el_nI hn40 hi
  have hF : CallFix p m c cL_refuses 12 s args wsL_refuses RL := ⟨hx, hb, hml, hown, hts⟩
  have hc_3 := hts (.constant RL 21 (-2000000003)) (by decide +kernel)
  have cw_build := vx_cwSW (R := ({ frames := 8, cells := 64, slots := 500, locals := 182 } : Room)) (rm := ({ frames := 7, cells := 1, slots := 6, locals := 137 } : Room)) (mc := 1) (ms := 6) 2 hts gL_refuses_L_build rfl rfl rfl (by decide +kernel) ⟨(Nat.le_of_ble_eq_true rfl), (Nat.le_of_ble_eq_true rfl)⟩
  refine lv_iload hx hb dL_refuses_960 (lv_at hl 0 rfl) ?_
  refine lv_iconst (v := 2) hx hb dL_refuses_962 (by decide) ?_
  refine lv_icmp_eq (tgt := 977) hx hb dL_refuses_963 (by decide) (fun _ => W.widen (k := 61) (n := 410) (Nat.le_of_ble_eq_true rfl) (Nat.le_of_ble_eq_true rfl) (kk _ _ ls hH_0 hl)) (fun c9 => ?_)
  have h10 : (r 10 (nI i).toNatClampNeg == 2) = false := by rw [hcl]; exact hp_eqf c9
  refine lv_aload_n hx hb dL_refuses_966 rfl (lv_at hl 3 rfl) ?_
  refine lv_iload hx hb dL_refuses_967 (lv_at hl 1 rfl) ?_
  refine hp_refu (kc := -2000000003) (ki := 21) (tgt := 981) (As := [.int (nI i)]) (rest := []) hF hT hc_3 cw_build (rl_build l hl0 dC dI cI cZ cO cJ o b v r n (nI i) hinv (k := 2) (hp_c2 heI h10) (by decide)) hH_0 (by decide) rfl rfl hl.1 (Nat.le_of_ble_eq_true rfl) dL_refuses_969 dL_refuses_972 dL_refuses_974 (by decide) ⟨(Nat.le_of_ble_eq_true rfl), (Nat.le_of_ble_eq_true rfl)⟩ (fun H_1 locs_1 hH_1 => ?_)
  clear hH_0
  exact kk _ _ ls hH_1 hl
