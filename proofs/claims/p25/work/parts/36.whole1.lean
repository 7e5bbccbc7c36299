/-! a house is whole: its parts, its clashes -/
set_option maxHeartbeats 1000000 in
set_option maxRecDepth 100000 in
theorem wh_cells {p : Program} {e : Env} {s : State} {m : MethodId} {below : List Frame} {meth : Method} {c : Code} {Q : State → Prop} {A : Nat → Prop} {dC : Nat → ClassId} {dI : Nat → Nat → Nat} {cI cZ cO cJ : ClassId} {o : Nat} {b : Nat → Nat} {v : Nat → Int32} {r : Nat → Nat → Int32} {n K : Nat} (l : Launch) (hl0 : l.stackTraces = false) (hx : p.tables.exec = Jvm.exec) (hb : c.code = cL_isWhole) (hml : c.maxLocals = 8) (hown : s.vm.findClass RL = some m.cls) (hts : ∀ w ∈ wsL_isWhole, w.before #[Value.ref o, Value.int (nI n)] s = true) (hT : hp_T (dC, dI) cI cZ cO cJ A s) (hinv : hp_inv v r n) (hext : hp_ext K v r n) (hK : K ≤ 1000) {q c0 s0 : Nat} (hc : c0 + 3 * n ≤ 40300) (hs : s0 + 18 * n ≤ 241800)
    (kk : ∀ (H : Heap) (locs : List Loc) (ls : Array Slot), hp_H1 (dC, dI) cI cZ cO A s o b v r n H locs → lv_has ls 8 [(5, .int (nI n)), (4, .int (hp_sum (hp_G r (nI q)) n)), (3, .int (nI q)), (2, .int 1), (0, .ref o), (1, .int (nI n))] → W p l e ({ frames := 8, cells := 40300, slots := 241800, locals := 182 } : Room) s m #[Value.ref o, Value.int (nI n)] below meth c H locs (c0 + 3 * n) (s0 + 18 * n) Q (F0 m 71 ls [])) :
    ∀ (f k : Nat), k + f = n → ∀ (H_0 : Heap) (locs_0 : List Loc) (ls : Array Slot), hp_H1 (dC, dI) cI cZ cO A s o b v r n H_0 locs_0 → lv_has ls 8 [(5, .int (nI k)), (4, .int (hp_sum (hp_G r (nI q)) k)), (3, .int (nI q)), (2, .int 1), (0, .ref o), (1, .int (nI n))] → W p l e ({ frames := 8, cells := 40300, slots := 241800, locals := 182 } : Room) s m #[Value.ref o, Value.int (nI n)] below meth c H_0 locs_0 (c0 + 3 * k) (s0 + 18 * k) Q (F0 m 19 ls []) := by
  have hn40 : n ≤ 40 := hinv.1
  have hF : CallFix p m c cL_isWhole 8 s #[Value.ref o, Value.int (nI n)] wsL_isWhole RL := ⟨hx, hb, hml, hown, hts⟩
  have cw_elementOf := vx_cwSW (R := ({ frames := 8, cells := 40300, slots := 241800, locals := 182 } : Room)) (rm := ({ frames := 7, cells := 1, slots := 6, locals := 105 } : Room)) (mc := 1) (ms := 6) 3 hts gL_isWhole_L_elementOf rfl rfl rfl (by decide +kernel) ⟨(Nat.le_of_ble_eq_true rfl), (Nat.le_of_ble_eq_true rfl)⟩
  intro f
  induction f with
  | zero =>
    intro k hk H_0 locs_0 ls hH_0 hl
    have hkn : k = n := by omega
    rw [hkn] at hl ⊢
    refine lv_iload hx hb dL_isWhole_19 (lv_at hl 0 rfl) ?_
    refine lv_iload_n hx hb dL_isWhole_21 rfl (lv_at hl 5 rfl) ?_
    refine lv_icmp_ge (tgt := 71) hx hb dL_isWhole_22 (by decide) (fun _ => ?_) (fun c9 => absurd (Int32.le_refl _) c9)
    exact kk _ _ ls hH_0 hl
  | succ f ih =>
    intro k hk H_0 locs_0 ls hH_0 hl
    refine lv_iload hx hb dL_isWhole_19 (lv_at hl 0 rfl) ?_
    refine lv_iload_n hx hb dL_isWhole_21 rfl (lv_at hl 5 rfl) ?_
    refine lv_icmp_ge (tgt := 71) hx hb dL_isWhole_22 (by decide) (fun c9 => absurd c9 (nI_ge (a := k) (b := n) (by omega) (by omega))) (fun _ => ?_)
    have tail : ∀ (z : Int32) (H : Heap) (locs : List Loc), z = hp_G r (nI q) k → hp_H1 (dC, dI) cI cZ cO A s o b v r n H locs → W p l e ({ frames := 8, cells := 40300, slots := 241800, locals := 182 } : Room) s m #[Value.ref o, Value.int (nI n)] below meth c H locs (c0 + 3 * (k + 1)) (s0 + 18 * (k + 1)) Q (F0 m 62 ls [.int z, .int (hp_sum (hp_G r (nI q)) k)]) := by
      intro z H locs hz hH
      refine lv_iadd hx hb dL_isWhole_62 ?_
      refine hp_top (show hp_sum (hp_G r (nI q)) k + z = hp_sum (hp_G r (nI q)) (k + 1) by rw [hz]; rfl) ?_
      refine lv_istore (lv' := [(4, .int (hp_sum (hp_G r (nI q)) (k + 1))), (5, .int (nI k)), (3, .int (nI q)), (2, .int 1), (0, .ref o), (1, .int (nI n))]) hx hb dL_isWhole_63 hl (by decide) rfl (fun ls hl => ?_)
      refine lv_iinc (v := nI (k + 1)) (lv' := [(5, .int (nI (k + 1))), (4, .int (hp_sum (hp_G r (nI q)) (k + 1))), (3, .int (nI q)), (2, .int 1), (0, .ref o), (1, .int (nI n))]) hx hb dL_isWhole_65 hl (k := 1) rfl (nI_add k 1) (by decide) rfl (fun ls hl => ?_)
      refine lv_goto (tgt := 19) hx hb dL_isWhole_68 (by decide) ?_
      exact ih (k + 1) (by omega) H locs ls hH (lv_sub hl [0, 1, 2, 3, 4, 5] rfl)
    refine lv_iload hx hb dL_isWhole_25 (lv_at hl 1 rfl) ?_
    refine lv_aload_n hx hb dL_isWhole_27 rfl (lv_at hl 4 rfl) ?_
    refine lv_iload hx hb dL_isWhole_28 (lv_at hl 0 rfl) ?_
    refine lv_iconst (v := 0) hx hb dL_isWhole_30 (by decide) ?_
    refine hp_call1 (As := [.int (nI k), .int 0]) (rest := [.int (hp_sum (hp_G r (nI q)) k)]) hF hT cw_elementOf (wl_elementOf l hl0 dC dI cI cZ cO cJ o b v r n (nI k) 0 hinv (ans := r 4 k) (hp_eo0 hn40 (by omega))) hH_0 rfl rfl hl.1 (Nat.le_of_ble_eq_true rfl) dL_isWhole_31 ⟨(by show _ ≤ 40300; omega), (by show _ ≤ 241800; omega)⟩ (fun H_a1 locs_a1 hH_a1 => ?_)
    clear hH_0
    refine lv_iload_n hx hb dL_isWhole_34 rfl (lv_at hl 2 rfl) ?_
    refine lv_icmp_ne (tgt := 61) hx hb dL_isWhole_35 (by decide) (fun c1 => ?_) (fun c1 => ?_)
    · skip
      refine lv_iconst (v := 0) hx hb dL_isWhole_61 (by decide) ?_
      refine W.widen (k := c0 + 3 * (k + 1)) (n := s0 + 18 * (k + 1)) (by omega) (by omega) ?_
      exact tail 0 _ _ (by unfold hp_G; rw [hp_eqf c1, Bool.false_and, if_neg (by decide)]) hH_a1
    · skip
      refine lv_aload_n hx hb dL_isWhole_38 rfl (lv_at hl 4 rfl) ?_
      refine lv_iload hx hb dL_isWhole_39 (lv_at hl 0 rfl) ?_
      refine lv_bipush (v := 6) hx hb dL_isWhole_41 (by decide) ?_
      refine hp_call1 (As := [.int (nI k), .int 6]) (rest := [.int (hp_sum (hp_G r (nI q)) k)]) hF hT cw_elementOf (wl_elementOf l hl0 dC dI cI cZ cO cJ o b v r n (nI k) 6 hinv (ans := r 10 k) (hp_eo6 hn40 (by omega))) hH_a1 rfl rfl hl.1 (Nat.le_of_ble_eq_true rfl) dL_isWhole_43 ⟨(by show _ ≤ 40300; omega), (by show _ ≤ 241800; omega)⟩ (fun H_a2 locs_a2 hH_a2 => ?_)
      clear hH_a1
      refine lv_iconst (v := 4) hx hb dL_isWhole_46 (by decide) ?_
      refine lv_icmp_ge (tgt := 61) hx hb dL_isWhole_47 (by decide) (fun c2 => ?_) (fun c2 => ?_)
      · skip
        refine lv_iconst (v := 0) hx hb dL_isWhole_61 (by decide) ?_
        refine W.widen (k := c0 + 3 * (k + 1)) (n := s0 + 18 * (k + 1)) (by omega) (by omega) ?_
        exact tail 0 _ _ (by unfold hp_G; rw [decide_eq_false (hp_len c2), Bool.and_false, if_neg (by decide)]) hH_a2
      · skip
        refine lv_aload_n hx hb dL_isWhole_50 rfl (lv_at hl 4 rfl) ?_
        refine lv_iload hx hb dL_isWhole_51 (lv_at hl 0 rfl) ?_
        refine lv_bipush (v := 9) hx hb dL_isWhole_53 (by decide) ?_
        refine hp_call1 (As := [.int (nI k), .int 9]) (rest := [.int (hp_sum (hp_G r (nI q)) k)]) hF hT cw_elementOf (wl_elementOf l hl0 dC dI cI cZ cO cJ o b v r n (nI k) 9 hinv (ans := hp_cel r k) (hp_eo9 hn40 (by omega))) hH_a2 rfl rfl hl.1 (Nat.le_of_ble_eq_true rfl) dL_isWhole_55 ⟨(by show _ ≤ 40300; omega), (by show _ ≤ 241800; omega)⟩ (fun H_a3 locs_a3 hH_a3 => ?_)
        clear hH_a2
        refine lv_goto (tgt := 62) hx hb dL_isWhole_58 (by decide) ?_
        refine W.widen (k := c0 + 3 * (k + 1)) (n := s0 + 18 * (k + 1)) (by omega) (by omega) ?_
        exact tail _ _ _ (by unfold hp_G; rw [decide_eq_true (hp_nle c2), c1, if_pos (by simp)]) hH_a3
set_option maxHeartbeats 1000000 in
set_option maxRecDepth 100000 in
theorem wh_kinds {p : Program} {e : Env} {s : State} {m : MethodId} {below : List Frame} {meth : Method} {c : Code} {Q : State → Prop} {A : Nat → Prop} {dC : Nat → ClassId} {dI : Nat → Nat → Nat} {cI cZ cO cJ : ClassId} {o : Nat} {b : Nat → Nat} {v : Nat → Int32} {r : Nat → Nat → Int32} {n K : Nat} (l : Launch) (hl0 : l.stackTraces = false) (hx : p.tables.exec = Jvm.exec) (hb : c.code = cL_isWhole) (hml : c.maxLocals = 8) (hown : s.vm.findClass RL = some m.cls) (hts : ∀ w ∈ wsL_isWhole, w.before #[Value.ref o, Value.int (nI n)] s = true) (hT : hp_T (dC, dI) cI cZ cO cJ A s) (hinv : hp_inv v r n) (hext : hp_ext K v r n) (hK : K ≤ 1000)
    (kk : ∀ (H : Heap) (locs : List Loc) (ls : Array Slot), hp_H1 (dC, dI) cI cZ cO A s o b v r n H locs → lv_has ls 8 [(3, .int (nI 3)), (2, .int 1), (0, .ref o), (1, .int (nI n))] → W p l e ({ frames := 8, cells := 40300, slots := 241800, locals := 182 } : Room) s m #[Value.ref o, Value.int (nI n)] below meth c H locs 390 2340 Q (F0 m 132 ls [])) :
    ∀ (f q : Nat), q + f = 3 → ∀ (H_0 : Heap) (locs_0 : List Loc) (ls : Array Slot), hp_H1 (dC, dI) cI cZ cO A s o b v r n H_0 locs_0 → lv_has ls 8 [(3, .int (nI q)), (2, .int 1), (0, .ref o), (1, .int (nI n))] → W p l e ({ frames := 8, cells := 40300, slots := 241800, locals := 182 } : Room) s m #[Value.ref o, Value.int (nI n)] below meth c H_0 locs_0 (130 * q) (780 * q) Q (F0 m 4 ls []) := by
  have hn40 : n ≤ 40 := hinv.1
  have hF : CallFix p m c cL_isWhole 8 s #[Value.ref o, Value.int (nI n)] wsL_isWhole RL := ⟨hx, hb, hml, hown, hts⟩
  have cw_anew := vx_cwSW (R := ({ frames := 8, cells := 40300, slots := 241800, locals := 182 } : Room)) (rm := ({ frames := 7, cells := 1, slots := 6, locals := 106 } : Room)) (mc := 1) (ms := 6) 2 hts gL_isWhole_L_anew rfl rfl rfl (by decide +kernel) ⟨(Nat.le_of_ble_eq_true rfl), (Nat.le_of_ble_eq_true rfl)⟩
  have cw_ordered := vx_cwSW (R := ({ frames := 8, cells := 40300, slots := 241800, locals := 182 } : Room)) (rm := ({ frames := 7, cells := 1, slots := 6, locals := 111 } : Room)) (mc := 1) (ms := 6) 2 hts gL_isWhole_L_ordered rfl rfl rfl (by decide +kernel) ⟨(Nat.le_of_ble_eq_true rfl), (Nat.le_of_ble_eq_true rfl)⟩
  have cw_parts := vx_cwSW (R := ({ frames := 8, cells := 40300, slots := 241800, locals := 182 } : Room)) (rm := ({ frames := 7, cells := 1, slots := 6, locals := 111 } : Room)) (mc := 1) (ms := 6) 2 hts gL_isWhole_L_parts rfl rfl rfl (by decide +kernel) ⟨(Nat.le_of_ble_eq_true rfl), (Nat.le_of_ble_eq_true rfl)⟩
  intro f
  induction f with
  | zero =>
    intro q hk H_0 locs_0 ls hH_0 hl
    obtain rfl : q = 3 := by omega
    refine lv_iload_n hx hb dL_isWhole_4 rfl (lv_at hl 0 rfl) ?_
    refine lv_iconst (v := 3) hx hb dL_isWhole_5 (by decide) ?_
    refine lv_icmp_ge (tgt := 132) hx hb dL_isWhole_6 (by decide) (fun _ => ?_) (fun c9 => absurd (Int32.le_refl _) c9)
    exact kk _ _ ls hH_0 hl
  | succ f ih =>
    intro q hk H_0 locs_0 ls hH_0 hl
    refine lv_iload_n hx hb dL_isWhole_4 rfl (lv_at hl 0 rfl) ?_
    refine lv_iconst (v := 3) hx hb dL_isWhole_5 (by decide) ?_
    refine lv_icmp_ge (tgt := 132) hx hb dL_isWhole_6 (by decide) (fun c9 => absurd c9 (nI_ge (a := q) (b := 3) (by omega) (by decide))) (fun _ => ?_)
    refine lv_iload_n hx hb dL_isWhole_9 rfl (lv_at hl 1 rfl) ?_
    refine lv_if_eq (tgt := 132) hx hb dL_isWhole_10 (by decide) (fun q9 => absurd q9 (by decide)) (fun _ => ?_)
    refine lv_iconst (v := 0) hx hb dL_isWhole_13 (by decide) ?_
    refine lv_istore (lv' := [(4, .int 0), (3, .int (nI q)), (2, .int 1), (0, .ref o), (1, .int (nI n))]) hx hb dL_isWhole_14 hl (by decide) rfl (fun ls hl => ?_)
    refine lv_iconst (v := 0) hx hb dL_isWhole_16 (by decide) ?_
    refine lv_istore (lv' := [(5, .int 0), (4, .int 0), (3, .int (nI q)), (2, .int 1), (0, .ref o), (1, .int (nI n))]) hx hb dL_isWhole_17 hl (by decide) rfl (fun ls hl => ?_)
    have hq3 : q < 3 := by omega
    obtain ⟨f1, f2, f3⟩ := hp_w1a hinv hq3
    refine wh_cells l hl0 hx hb hml hown hts hT hinv hext hK (q := q) (c0 := 130 * q) (s0 := 780 * q) (by omega) (by omega) (fun H1 locs1 ls hH_k hl => ?_) n 0 (by omega) _ _ ls hH_0 (lv_sub (l' := [(5, .int (nI 0)), (4, .int (hp_sum (hp_G r (nI q)) 0)), (3, .int (nI q)), (2, .int 1), (0, .ref o), (1, .int (nI n))]) hl [0, 1, 2, 3, 4, 5] rfl)
    refine W.widen (k := 130 * q + 120) (n := 780 * q + 720) (by omega) (by omega) ?_
    refine lv_aload_n hx hb dL_isWhole_71 rfl (lv_at hl 4 rfl) ?_
    refine lv_iload_n hx hb dL_isWhole_72 rfl (lv_at hl 2 rfl) ?_
    refine hp_call1 (As := [.int (nI q)]) (rest := []) hF hT cw_anew (wl_anew l hl0 dC dI cI cZ cO cJ o b v r n (nI q) hinv (ans := hp_lst r n (nI q) 0) (hp_pa0 hq3)) hH_k rfl rfl hl.1 (Nat.le_of_ble_eq_true rfl) dL_isWhole_73 ⟨(by show _ ≤ 40300; omega), (by show _ ≤ 241800; omega)⟩ (fun H_b1 locs_b1 hH_b1 => ?_)
    clear hH_k
    refine lv_aload_n hx hb dL_isWhole_76 rfl (lv_at hl 4 rfl) ?_
    refine lv_iload_n hx hb dL_isWhole_77 rfl (lv_at hl 2 rfl) ?_
    refine hp_call1 (As := [.int (nI q)]) (rest := [.int (hp_lst r n (nI q) 0)]) hF hT cw_parts (wl_parts l hl0 dC dI cI cZ cO cJ o b v r n (nI q) hinv (ans := hp_lst r n (nI q) 0) (hp_pa0 hq3)) hH_b1 rfl rfl hl.1 (Nat.le_of_ble_eq_true rfl) dL_isWhole_78 ⟨(by show _ ≤ 40300; omega), (by show _ ≤ 241800; omega)⟩ (fun H_b2 locs_b2 hH_b2 => ?_)
    clear hH_b1
    refine lv_icmp_ne (tgt := 124) hx hb dL_isWhole_81 (by decide) (fun q9 => absurd rfl q9) (fun _ => ?_)
    refine lv_aload_n hx hb dL_isWhole_84 rfl (lv_at hl 4 rfl) ?_
    refine lv_iload_n hx hb dL_isWhole_85 rfl (lv_at hl 2 rfl) ?_
    refine hp_call1 (As := [.int (nI q)]) (rest := []) hF hT cw_ordered (wl_ordered l hl0 dC dI cI cZ cO cJ o b v r n (nI q) hinv (ans := hp_lst r n (nI q) 1) (hp_pa0 hq3)) hH_b2 rfl rfl hl.1 (Nat.le_of_ble_eq_true rfl) dL_isWhole_86 ⟨(by show _ ≤ 40300; omega), (by show _ ≤ 241800; omega)⟩ (fun H_b3 locs_b3 hH_b3 => ?_)
    clear hH_b2
    refine lv_aload_n hx hb dL_isWhole_89 rfl (lv_at hl 4 rfl) ?_
    refine lv_iload_n hx hb dL_isWhole_90 rfl (lv_at hl 2 rfl) ?_
    refine hp_call1 (As := [.int (nI q)]) (rest := [.int (hp_lst r n (nI q) 1)]) hF hT cw_parts (wl_parts l hl0 dC dI cI cZ cO cJ o b v r n (nI q) hinv (ans := hp_lst r n (nI q) 0) (hp_pa0 hq3)) hH_b3 rfl rfl hl.1 (Nat.le_of_ble_eq_true rfl) dL_isWhole_91 ⟨(by show _ ≤ 40300; omega), (by show _ ≤ 241800; omega)⟩ (fun H_b4 locs_b4 hH_b4 => ?_)
    clear hH_b3
    refine lv_icmp_gt (tgt := 124) hx hb dL_isWhole_94 (by decide) (fun q9 => absurd q9 f1) (fun _ => ?_)
    refine lv_aload_n hx hb dL_isWhole_97 rfl (lv_at hl 4 rfl) ?_
    refine lv_iload_n hx hb dL_isWhole_98 rfl (lv_at hl 2 rfl) ?_
    refine hp_call1 (As := [.int (nI q)]) (rest := []) hF hT cw_parts (wl_parts l hl0 dC dI cI cZ cO cJ o b v r n (nI q) hinv (ans := hp_lst r n (nI q) 0) (hp_pa0 hq3)) hH_b4 rfl rfl hl.1 (Nat.le_of_ble_eq_true rfl) dL_isWhole_99 ⟨(by show _ ≤ 40300; omega), (by show _ ≤ 241800; omega)⟩ (fun H_b5 locs_b5 hH_b5 => ?_)
    clear hH_b4
    refine lv_iload hx hb dL_isWhole_102 (lv_at hl 1 rfl) ?_
    refine lv_icmp_gt (tgt := 124) hx hb dL_isWhole_104 (by decide) (fun q9 => absurd q9 f2) (fun _ => ?_)
    refine lv_bipush (v := 12) hx hb dL_isWhole_107 (by decide) ?_
    refine lv_aload_n hx hb dL_isWhole_109 rfl (lv_at hl 4 rfl) ?_
    refine lv_iload_n hx hb dL_isWhole_110 rfl (lv_at hl 2 rfl) ?_
    refine hp_call1 (As := [.int (nI q)]) (rest := [.int 12]) hF hT cw_parts (wl_parts l hl0 dC dI cI cZ cO cJ o b v r n (nI q) hinv (ans := hp_lst r n (nI q) 0) (hp_pa0 hq3)) hH_b5 rfl rfl hl.1 (Nat.le_of_ble_eq_true rfl) dL_isWhole_111 ⟨(by show _ ≤ 40300; omega), (by show _ ≤ 241800; omega)⟩ (fun H_b6 locs_b6 hH_b6 => ?_)
    clear hH_b5
    refine lv_imul hx hb dL_isWhole_114 ?_
    refine lv_iload hx hb dL_isWhole_115 (lv_at hl 1 rfl) ?_
    refine lv_icmp_lt (tgt := 124) hx hb dL_isWhole_117 (by decide) (fun q9 => absurd q9 f3) (fun _ => ?_)
    refine lv_iconst (v := 1) hx hb dL_isWhole_120 (by decide) ?_
    refine lv_goto (tgt := 125) hx hb dL_isWhole_121 (by decide) ?_
    refine lv_istore_n (lv' := [(2, .int 1), (5, .int (nI n)), (4, .int (hp_sum (hp_G r (nI q)) n)), (3, .int (nI q)), (0, .ref o), (1, .int (nI n))]) hx hb dL_isWhole_125 rfl hl (by decide) rfl (fun ls hl => ?_)
    refine lv_iinc (v := nI (q + 1)) (lv' := [(3, .int (nI (q + 1))), (2, .int 1), (5, .int (nI n)), (4, .int (hp_sum (hp_G r (nI q)) n)), (0, .ref o), (1, .int (nI n))]) hx hb dL_isWhole_126 hl (k := 3) rfl (nI_add q 1) (by decide) rfl (fun ls hl => ?_)
    refine lv_goto (tgt := 4) hx hb dL_isWhole_129 (by decide) ?_
    refine W.widen (k := 130 * (q + 1)) (n := 780 * (q + 1)) (by omega) (by omega) ?_
    exact ih (q + 1) (by omega) _ _ ls hH_b6 (lv_sub hl [0, 1, 4, 5] rfl)
set_option maxHeartbeats 1000000 in
set_option maxRecDepth 100000 in
theorem wh_pairs {p : Program} {e : Env} {s : State} {m : MethodId} {below : List Frame} {meth : Method} {c : Code} {Q : State → Prop} {A : Nat → Prop} {dC : Nat → ClassId} {dI : Nat → Nat → Nat} {cI cZ cO cJ : ClassId} {o : Nat} {b : Nat → Nat} {v : Nat → Int32} {r : Nat → Nat → Int32} {n K : Nat} (l : Launch) (hl0 : l.stackTraces = false) (hx : p.tables.exec = Jvm.exec) (hb : c.code = cL_isWhole) (hml : c.maxLocals = 8) (hown : s.vm.findClass RL = some m.cls) (hts : ∀ w ∈ wsL_isWhole, w.before #[Value.ref o, Value.int (nI n)] s = true) (hT : hp_T (dC, dI) cI cZ cO cJ A s) (hinv : hp_inv v r n) (hext : hp_ext K v r n) (hK : K ≤ 1000) {f a c0 s0 : Nat} (hf : f < 4) (ha : a < n) (haf : r 5 a = nI f) (hc : c0 + 6 * a ≤ 40300) (hs : s0 + 36 * a ≤ 241800)
    (kk : ∀ (H : Heap) (locs : List Loc) (ls : Array Slot), hp_H1 (dC, dI) cI cZ cO A s o b v r n H locs → lv_has ls 8 [(7, .int (nI a)), (6, .int 1), (5, .int (nI a)), (4, .int (hp_sum (fun i => hp_prs r (nI f) i i) a + hp_prs r (nI f) a a)), (3, .int (nI f)), (2, .int 1), (0, .ref o), (1, .int (nI n))] → W p l e ({ frames := 8, cells := 40300, slots := 241800, locals := 182 } : Room) s m #[Value.ref o, Value.int (nI n)] below meth c H locs (c0 + 6 * a) (s0 + 36 * a) Q (F0 m 298 ls [])) :
    ∀ (g k : Nat), k + g = a → ∀ (H_0 : Heap) (locs_0 : List Loc) (ls : Array Slot), hp_H1 (dC, dI) cI cZ cO A s o b v r n H_0 locs_0 → lv_has ls 8 [(7, .int (nI k)), (6, .int 1), (5, .int (nI a)), (4, .int (hp_sum (fun i => hp_prs r (nI f) i i) a + hp_prs r (nI f) a k)), (3, .int (nI f)), (2, .int 1), (0, .ref o), (1, .int (nI n))] → W p l e ({ frames := 8, cells := 40300, slots := 241800, locals := 182 } : Room) s m #[Value.ref o, Value.int (nI n)] below meth c H_0 locs_0 (c0 + 6 * k) (s0 + 36 * k) Q (F0 m 211 ls []) := by
  have hn40 : n ≤ 40 := hinv.1
  have hF : CallFix p m c cL_isWhole 8 s #[Value.ref o, Value.int (nI n)] wsL_isWhole RL := ⟨hx, hb, hml, hown, hts⟩
  have cw_clash := vx_cwSW (R := ({ frames := 8, cells := 40300, slots := 241800, locals := 182 } : Room)) (rm := ({ frames := 7, cells := 1, slots := 6, locals := 115 } : Room)) (mc := 1) (ms := 6) 3 hts gL_isWhole_L_clash rfl rfl rfl (by decide +kernel) ⟨(Nat.le_of_ble_eq_true rfl), (Nat.le_of_ble_eq_true rfl)⟩
  have cw_elementOf := vx_cwSW (R := ({ frames := 8, cells := 40300, slots := 241800, locals := 182 } : Room)) (rm := ({ frames := 7, cells := 1, slots := 6, locals := 105 } : Room)) (mc := 1) (ms := 6) 3 hts gL_isWhole_L_elementOf rfl rfl rfl (by decide +kernel) ⟨(Nat.le_of_ble_eq_true rfl), (Nat.le_of_ble_eq_true rfl)⟩
  have cw_isStopped := vx_cwSW (R := ({ frames := 8, cells := 40300, slots := 241800, locals := 182 } : Room)) (rm := ({ frames := 7, cells := 1, slots := 6, locals := 139 } : Room)) (mc := 1) (ms := 6) 3 hts gL_isWhole_L_isStopped rfl rfl rfl (by decide +kernel) ⟨(Nat.le_of_ble_eq_true rfl), (Nat.le_of_ble_eq_true rfl)⟩
  intro g
  induction g with
  | zero =>
    intro k hk H_0 locs_0 ls hH_0 hl
    have hkn : k = a := by omega
    rw [hkn] at hl ⊢
    refine lv_iload hx hb dL_isWhole_211 (lv_at hl 0 rfl) ?_
    refine lv_iload hx hb dL_isWhole_213 (lv_at hl 2 rfl) ?_
    refine lv_icmp_ge (tgt := 298) hx hb dL_isWhole_215 (by decide) (fun _ => ?_) (fun c9 => absurd (Int32.le_refl _) c9)
    exact kk _ _ ls hH_0 hl
  | succ g ih =>
    intro k hk H_0 locs_0 ls hH_0 hl
    refine lv_iload hx hb dL_isWhole_211 (lv_at hl 0 rfl) ?_
    refine lv_iload hx hb dL_isWhole_213 (lv_at hl 2 rfl) ?_
    refine lv_icmp_ge (tgt := 298) hx hb dL_isWhole_215 (by decide) (fun c9 => absurd c9 (nI_ge (a := k) (b := a) (by omega) (by omega))) (fun _ => ?_)
    refine lv_iload hx hb dL_isWhole_218 (lv_at hl 1 rfl) ?_
    refine lv_if_eq (tgt := 298) hx hb dL_isWhole_220 (by decide) (fun q9 => absurd q9 (by decide)) (fun _ => ?_)
    refine lv_iload_n hx hb dL_isWhole_223 rfl (lv_at hl 5 rfl) ?_
    refine lv_if_eq (tgt := 298) hx hb dL_isWhole_224 (by decide) (fun q9 => absurd q9 (by decide)) (fun _ => ?_)
    have hkn : k < n := by omega
    have hea := hinv.2.1 a ha
    have hek := hinv.2.1 k hkn
    refine lv_iload hx hb dL_isWhole_227 (lv_at hl 3 rfl) ?_
    refine lv_aload_n hx hb dL_isWhole_229 rfl (lv_at hl 6 rfl) ?_
    refine lv_iload hx hb dL_isWhole_230 (lv_at hl 2 rfl) ?_
    refine lv_iload hx hb dL_isWhole_232 (lv_at hl 0 rfl) ?_
    refine hp_call1 (As := [.int (nI a), .int (nI k)]) (rest := [.int (hp_sum (fun i => hp_prs r (nI f) i i) a + hp_prs r (nI f) a k)]) hF hT cw_clash (wl_clash l hl0 dC dI cI cZ cO cJ o b v r n (nI a) (nI k) hinv (ans := hp_b (hp_cla r a k)) (hp_cl0 hn40 ha hkn)) hH_0 rfl rfl hl.1 (Nat.le_of_ble_eq_true rfl) dL_isWhole_234 ⟨(by show _ ≤ 40300; omega), (by show _ ≤ 241800; omega)⟩ (fun H_a1 locs_a1 hH_a1 => ?_)
    clear hH_0
    refine lv_iadd hx hb dL_isWhole_237 ?_
    refine hp_top (show (hp_sum (fun i => hp_prs r (nI f) i i) a + hp_prs r (nI f) a k) + hp_b (hp_cla r a k) = hp_sum (fun i => hp_prs r (nI f) i i) a + hp_prs r (nI f) a (k + 1) by rw [hp_prs_step haf, Int32.add_assoc]) ?_
    refine lv_istore (lv' := [(4, .int (hp_sum (fun i => hp_prs r (nI f) i i) a + hp_prs r (nI f) a (k + 1))), (7, .int (nI k)), (6, .int 1), (5, .int (nI a)), (3, .int (nI f)), (2, .int 1), (0, .ref o), (1, .int (nI n))]) hx hb dL_isWhole_238 hl (by decide) rfl (fun ls hl => ?_)
    refine lv_aload_n hx hb dL_isWhole_240 rfl (lv_at hl 6 rfl) ?_
    refine lv_iload hx hb dL_isWhole_241 (lv_at hl 3 rfl) ?_
    refine lv_iload hx hb dL_isWhole_243 (lv_at hl 1 rfl) ?_
    refine hp_call1 (As := [.int (nI a), .int (nI k)]) (rest := []) hF hT cw_clash (wl_clash l hl0 dC dI cI cZ cO cJ o b v r n (nI a) (nI k) hinv (ans := hp_b (hp_cla r a k)) (hp_cl0 hn40 ha hkn)) hH_a1 rfl rfl hl.1 (Nat.le_of_ble_eq_true rfl) dL_isWhole_245 ⟨(by show _ ≤ 40300; omega), (by show _ ≤ 241800; omega)⟩ (fun H_a2 locs_a2 hH_a2 => ?_)
    clear hH_a1
    refine lv_aload_n hx hb dL_isWhole_248 rfl (lv_at hl 6 rfl) ?_
    refine lv_iload hx hb dL_isWhole_249 (lv_at hl 1 rfl) ?_
    refine lv_iload hx hb dL_isWhole_251 (lv_at hl 3 rfl) ?_
    refine hp_call1 (As := [.int (nI k), .int (nI a)]) (rest := [.int (hp_b (hp_cla r a k))]) hF hT cw_clash (wl_clash l hl0 dC dI cI cZ cO cJ o b v r n (nI k) (nI a) hinv (ans := hp_b (hp_cla r a k)) ((hp_cl0 hn40 hkn ha).trans (congrArg hp_b (hp_cla_sym hek hea hext.2.1)))) hH_a2 rfl rfl hl.1 (Nat.le_of_ble_eq_true rfl) dL_isWhole_253 ⟨(by show _ ≤ 40300; omega), (by show _ ≤ 241800; omega)⟩ (fun H_a3 locs_a3 hH_a3 => ?_)
    clear hH_a2
    refine lv_icmp_ne (tgt := 290) hx hb dL_isWhole_256 (by decide) (fun q9 => absurd rfl q9) (fun _ => ?_)
    refine lv_aload_n hx hb dL_isWhole_259 rfl (lv_at hl 6 rfl) ?_
    refine lv_iload hx hb dL_isWhole_260 (lv_at hl 3 rfl) ?_
    refine lv_iload hx hb dL_isWhole_262 (lv_at hl 1 rfl) ?_
    refine hp_call1 (As := [.int (nI a), .int (nI k)]) (rest := []) hF hT cw_clash (wl_clash l hl0 dC dI cI cZ cO cJ o b v r n (nI a) (nI k) hinv (ans := hp_b (hp_cla r a k)) (hp_cl0 hn40 ha hkn)) hH_a3 rfl rfl hl.1 (Nat.le_of_ble_eq_true rfl) dL_isWhole_264 ⟨(by show _ ≤ 40300; omega), (by show _ ≤ 241800; omega)⟩ (fun H_a4 locs_a4 hH_a4 => ?_)
    clear hH_a3
    have tail : ∀ (H : Heap) (locs : List Loc), hp_H1 (dC, dI) cI cZ cO A s o b v r n H locs → W p l e ({ frames := 8, cells := 40300, slots := 241800, locals := 182 } : Room) s m #[Value.ref o, Value.int (nI n)] below meth c H locs (c0 + 6 * (k + 1)) (s0 + 36 * (k + 1)) Q (F0 m 286 ls []) := by
      intro H locs hH
      refine lv_iconst (v := 1) hx hb dL_isWhole_286 (by decide) ?_
      refine lv_goto (tgt := 291) hx hb dL_isWhole_287 (by decide) ?_
      refine lv_istore_n (lv' := [(2, .int 1), (4, .int (hp_sum (fun i => hp_prs r (nI f) i i) a + hp_prs r (nI f) a (k + 1))), (7, .int (nI k)), (6, .int 1), (5, .int (nI a)), (3, .int (nI f)), (0, .ref o), (1, .int (nI n))]) hx hb dL_isWhole_291 rfl hl (by decide) rfl (fun ls hl => ?_)
      refine lv_iinc (v := nI (k + 1)) (lv' := [(7, .int (nI (k + 1))), (2, .int 1), (4, .int (hp_sum (fun i => hp_prs r (nI f) i i) a + hp_prs r (nI f) a (k + 1))), (6, .int 1), (5, .int (nI a)), (3, .int (nI f)), (0, .ref o), (1, .int (nI n))]) hx hb dL_isWhole_292 hl (k := 2) rfl (nI_add k 1) (by decide) rfl (fun ls hl => ?_)
      refine lv_goto (tgt := 211) hx hb dL_isWhole_295 (by decide) ?_
      exact ih (k + 1) (by omega) H locs ls hH (lv_sub hl [0, 3, 4, 2, 5, 1, 6, 7] rfl)
    refine lv_if_eq (tgt := 286) hx hb dL_isWhole_267 (by decide) (fun _ => ?_) (fun c1 => ?_)
    · refine W.widen (k := c0 + 6 * (k + 1)) (n := s0 + 36 * (k + 1)) (by omega) (by omega) ?_
      exact tail _ _ hH_a4
    · have hcl := hp_bn c1
      refine lv_aload_n hx hb dL_isWhole_270 rfl (lv_at hl 6 rfl) ?_
      refine lv_aload_n hx hb dL_isWhole_271 rfl (lv_at hl 6 rfl) ?_
      refine lv_iload hx hb dL_isWhole_272 (lv_at hl 3 rfl) ?_
      refine lv_iconst (v := 0) hx hb dL_isWhole_274 (by decide) ?_
      refine hp_call1 (As := [.int (nI a), .int 0]) (rest := [.ref o]) hF hT cw_elementOf (wl_elementOf l hl0 dC dI cI cZ cO cJ o b v r n (nI a) 0 hinv (ans := r 4 a) (hp_eo0 hn40 ha)) hH_a4 rfl rfl hl.1 (Nat.le_of_ble_eq_true rfl) dL_isWhole_275 ⟨(by show _ ≤ 40300; omega), (by show _ ≤ 241800; omega)⟩ (fun H_a5 locs_a5 hH_a5 => ?_)
      clear hH_a4
      refine lv_iload_n hx hb dL_isWhole_278 rfl (lv_at hl 4 rfl) ?_
      refine hp_call1 (As := [.int (r 4 a), .int (nI f)]) (rest := []) hF hT cw_isStopped (wl_isStopped l hl0 dC dI cI cZ cO cJ o b v r n (r 4 a) (nI f) hinv (ans := 1) (hp_sp1 (hp_elS hea).2.2.2 (hp_st_nI hf) (hp_cla_stp ha hkn haf hcl))) hH_a5 rfl rfl hl.1 (Nat.le_of_ble_eq_true rfl) dL_isWhole_279 ⟨(by show _ ≤ 40300; omega), (by show _ ≤ 241800; omega)⟩ (fun H_a6 locs_a6 hH_a6 => ?_)
      clear hH_a5
      refine lv_iconst (v := 1) hx hb dL_isWhole_282 (by decide) ?_
      refine lv_icmp_ne (tgt := 290) hx hb dL_isWhole_283 (by decide) (fun q9 => absurd rfl q9) (fun _ => ?_)
      refine W.widen (k := c0 + 6 * (k + 1)) (n := s0 + 36 * (k + 1)) (by omega) (by omega) ?_
      exact tail _ _ hH_a6
set_option maxHeartbeats 1000000 in
set_option maxRecDepth 100000 in
theorem wh_elems {p : Program} {e : Env} {s : State} {m : MethodId} {below : List Frame} {meth : Method} {c : Code} {Q : State → Prop} {A : Nat → Prop} {dC : Nat → ClassId} {dI : Nat → Nat → Nat} {cI cZ cO cJ : ClassId} {o : Nat} {b : Nat → Nat} {v : Nat → Int32} {r : Nat → Nat → Int32} {n K : Nat} (l : Launch) (hl0 : l.stackTraces = false) (hx : p.tables.exec = Jvm.exec) (hb : c.code = cL_isWhole) (hml : c.maxLocals = 8) (hown : s.vm.findClass RL = some m.cls) (hts : ∀ w ∈ wsL_isWhole, w.before #[Value.ref o, Value.int (nI n)] s = true) (hT : hp_T (dC, dI) cI cZ cO cJ A s) (hinv : hp_inv v r n) (hext : hp_ext K v r n) (hK : K ≤ 1000) {f c0 s0 : Nat} (hf : f < 4) (hc : c0 + 244 * n ≤ 40300) (hs : s0 + 1464 * n ≤ 241800)
    (kk : ∀ (H : Heap) (locs : List Loc) (ls : Array Slot), hp_H1 (dC, dI) cI cZ cO A s o b v r n H locs → lv_has ls 8 [(5, .int (nI n)), (4, .int (hp_sum (fun i => hp_prs r (nI f) i i) n)), (3, .int (nI f)), (2, .int 1), (0, .ref o), (1, .int (nI n))] → W p l e ({ frames := 8, cells := 40300, slots := 241800, locals := 182 } : Room) s m #[Value.ref o, Value.int (nI n)] below meth c H locs (c0 + 244 * n) (s0 + 1464 * n) Q (F0 m 304 ls [])) :
    ∀ (g a : Nat), a + g = n → ∀ (H_0 : Heap) (locs_0 : List Loc) (ls : Array Slot), hp_H1 (dC, dI) cI cZ cO A s o b v r n H_0 locs_0 → lv_has ls 8 [(5, .int (nI a)), (4, .int (hp_sum (fun i => hp_prs r (nI f) i i) a)), (3, .int (nI f)), (2, .int 1), (0, .ref o), (1, .int (nI n))] → W p l e ({ frames := 8, cells := 40300, slots := 241800, locals := 182 } : Room) s m #[Value.ref o, Value.int (nI n)] below meth c H_0 locs_0 (c0 + 244 * a) (s0 + 1464 * a) Q (F0 m 149 ls []) := by
  have hn40 : n ≤ 40 := hinv.1
  have hF : CallFix p m c cL_isWhole 8 s #[Value.ref o, Value.int (nI n)] wsL_isWhole RL := ⟨hx, hb, hml, hown, hts⟩
  have cw_elementOf := vx_cwSW (R := ({ frames := 8, cells := 40300, slots := 241800, locals := 182 } : Room)) (rm := ({ frames := 7, cells := 1, slots := 6, locals := 105 } : Room)) (mc := 1) (ms := 6) 3 hts gL_isWhole_L_elementOf rfl rfl rfl (by decide +kernel) ⟨(Nat.le_of_ble_eq_true rfl), (Nat.le_of_ble_eq_true rfl)⟩
  have cw_isLocked := vx_cwSW (R := ({ frames := 8, cells := 40300, slots := 241800, locals := 182 } : Room)) (rm := ({ frames := 7, cells := 1, slots := 6, locals := 103 } : Room)) (mc := 1) (ms := 6) 2 hts gL_isWhole_L_isLocked rfl rfl rfl (by decide +kernel) ⟨(Nat.le_of_ble_eq_true rfl), (Nat.le_of_ble_eq_true rfl)⟩
  intro g
  induction g with
  | zero =>
    intro a hk H_0 locs_0 ls hH_0 hl
    have hkn : a = n := by omega
    rw [hkn] at hl ⊢
    refine lv_iload hx hb dL_isWhole_149 (lv_at hl 0 rfl) ?_
    refine lv_iload_n hx hb dL_isWhole_151 rfl (lv_at hl 5 rfl) ?_
    refine lv_icmp_ge (tgt := 304) hx hb dL_isWhole_152 (by decide) (fun _ => ?_) (fun c9 => absurd (Int32.le_refl _) c9)
    exact kk _ _ ls hH_0 hl
  | succ g ih =>
    intro a hk H_0 locs_0 ls hH_0 hl
    refine lv_iload hx hb dL_isWhole_149 (lv_at hl 0 rfl) ?_
    refine lv_iload_n hx hb dL_isWhole_151 rfl (lv_at hl 5 rfl) ?_
    refine lv_icmp_ge (tgt := 304) hx hb dL_isWhole_152 (by decide) (fun c9 => absurd c9 (nI_ge (a := a) (b := n) (by omega) (by omega))) (fun _ => ?_)
    refine lv_iload_n hx hb dL_isWhole_155 rfl (lv_at hl 3 rfl) ?_
    refine lv_if_eq (tgt := 304) hx hb dL_isWhole_156 (by decide) (fun q9 => absurd q9 (by decide)) (fun _ => ?_)
    have ha : a < n := by omega
    refine lv_aload_n hx hb dL_isWhole_159 rfl (lv_at hl 4 rfl) ?_
    refine lv_iload hx hb dL_isWhole_160 (lv_at hl 0 rfl) ?_
    refine lv_iconst (v := 1) hx hb dL_isWhole_162 (by decide) ?_
    refine hp_call1 (As := [.int (nI a), .int 1]) (rest := []) hF hT cw_elementOf (wl_elementOf l hl0 dC dI cI cZ cO cJ o b v r n (nI a) 1 hinv (ans := r 5 a) (hp_eo1 hn40 ha)) hH_0 rfl rfl hl.1 (Nat.le_of_ble_eq_true rfl) dL_isWhole_163 ⟨(by show _ ≤ 40300; omega), (by show _ ≤ 241800; omega)⟩ (fun H_a1 locs_a1 hH_a1 => ?_)
    clear hH_0
    refine lv_iload_n hx hb dL_isWhole_166 rfl (lv_at hl 2 rfl) ?_
    refine lv_icmp_ne (tgt := 174) hx hb dL_isWhole_167 (by decide) (fun c1 => ?_) (fun c1 => ?_)
    · skip
      refine lv_iconst (v := 0) hx hb dL_isWhole_174 (by decide) ?_
      refine lv_istore (lv' := [(6, .int 0), (5, .int (nI a)), (4, .int (hp_sum (fun i => hp_prs r (nI f) i i) a)), (3, .int (nI f)), (2, .int 1), (0, .ref o), (1, .int (nI n))]) hx hb dL_isWhole_175 hl (by decide) rfl (fun ls hl => ?_)
      refine lv_iload hx hb dL_isWhole_177 (lv_at hl 0 rfl) ?_
      refine lv_if_eq (tgt := 202) hx hb dL_isWhole_179 (by decide) (fun _ => ?_) (fun q9 => absurd rfl q9)
      refine lv_iconst (v := 1) hx hb dL_isWhole_202 (by decide) ?_
      refine lv_goto (tgt := 207) hx hb dL_isWhole_203 (by decide) ?_
      refine lv_istore_n (lv' := [(2, .int 1), (6, .int 0), (5, .int (nI a)), (4, .int (hp_sum (fun i => hp_prs r (nI f) i i) a)), (3, .int (nI f)), (0, .ref o), (1, .int (nI n))]) hx hb dL_isWhole_207 rfl hl (by decide) rfl (fun ls hl => ?_)
      refine lv_iconst (v := 0) hx hb dL_isWhole_208 (by decide) ?_
      refine lv_istore (lv' := [(7, .int 0), (2, .int 1), (6, .int 0), (5, .int (nI a)), (4, .int (hp_sum (fun i => hp_prs r (nI f) i i) a)), (3, .int (nI f)), (0, .ref o), (1, .int (nI n))]) hx hb dL_isWhole_209 hl (by decide) rfl (fun ls hl => ?_)
      refine lv_iload hx hb dL_isWhole_211 (lv_at hl 0 rfl) ?_
      refine lv_iload hx hb dL_isWhole_213 (lv_at hl 3 rfl) ?_
      have hout : ∀ H locs, hp_H1 (dC, dI) cI cZ cO A s o b v r n H locs → ∀ ls : Array Slot, lv_has ls 8 [(7, .int 0), (2, .int 1), (6, .int 0), (5, .int (nI a)), (4, .int (hp_sum (fun i => hp_prs r (nI f) i i) a)), (3, .int (nI f)), (0, .ref o), (1, .int (nI n))] → W p l e ({ frames := 8, cells := 40300, slots := 241800, locals := 182 } : Room) s m #[Value.ref o, Value.int (nI n)] below meth c H locs (c0 + 244 * (a + 1)) (s0 + 1464 * (a + 1)) Q (F0 m 298 ls []) := by
        intro H locs hH ls hl
        refine lv_iinc (v := nI (a + 1)) (lv' := [(5, .int (nI (a + 1))), (7, .int 0), (2, .int 1), (6, .int 0), (4, .int (hp_sum (fun i => hp_prs r (nI f) i i) a)), (3, .int (nI f)), (0, .ref o), (1, .int (nI n))]) hx hb dL_isWhole_298 hl (k := 3) rfl (nI_add a 1) (by decide) rfl (fun ls hl => ?_)
        refine lv_goto (tgt := 149) hx hb dL_isWhole_301 (by decide) ?_
        have hz : hp_sum (fun i => hp_prs r (nI f) i i) a = hp_sum (fun i => hp_prs r (nI f) i i) (a + 1) := by
          show _ = hp_sum (fun i => hp_prs r (nI f) i i) a + hp_prs r (nI f) a a
          rw [hp_prs_f (hp_eqf c1) a, Int32.add_zero]
        rw [hz] at hl
        exact ih (a + 1) (by omega) H locs ls hH (lv_sub hl [0, 4, 5, 2, 6, 7] rfl)
      refine lv_icmp_ge (tgt := 298) hx hb dL_isWhole_215 (by decide) (fun _ => ?_) (fun _ => ?_)
      · refine W.widen (k := c0 + 244 * (a + 1)) (n := s0 + 1464 * (a + 1)) (by omega) (by omega) ?_
        exact hout _ _ hH_a1 ls hl
      · skip
        refine lv_iload hx hb dL_isWhole_218 (lv_at hl 2 rfl) ?_
        refine lv_if_eq (tgt := 298) hx hb dL_isWhole_220 (by decide) (fun _ => ?_) (fun q9 => absurd rfl q9)
        refine W.widen (k := c0 + 244 * (a + 1)) (n := s0 + 1464 * (a + 1)) (by omega) (by omega) ?_
        exact hout _ _ hH_a1 ls hl
    · skip
      refine lv_iconst (v := 1) hx hb dL_isWhole_170 (by decide) ?_
      refine lv_goto (tgt := 175) hx hb dL_isWhole_171 (by decide) ?_
      refine lv_istore (lv' := [(6, .int 1), (5, .int (nI a)), (4, .int (hp_sum (fun i => hp_prs r (nI f) i i) a)), (3, .int (nI f)), (2, .int 1), (0, .ref o), (1, .int (nI n))]) hx hb dL_isWhole_175 hl (by decide) rfl (fun ls hl => ?_)
      refine lv_iload hx hb dL_isWhole_177 (lv_at hl 0 rfl) ?_
      refine lv_if_eq (tgt := 202) hx hb dL_isWhole_179 (by decide) (fun q9 => absurd q9 (by decide)) (fun _ => ?_)
      have tail : ∀ (H : Heap) (locs : List Loc), hp_H1 (dC, dI) cI cZ cO A s o b v r n H locs → W p l e ({ frames := 8, cells := 40300, slots := 241800, locals := 182 } : Room) s m #[Value.ref o, Value.int (nI n)] below meth c H locs (c0 + 244 * a + 3) (s0 + 1464 * a + 18) Q (F0 m 202 ls []) := by
        intro H locs hH
        refine lv_iconst (v := 1) hx hb dL_isWhole_202 (by decide) ?_
        refine lv_goto (tgt := 207) hx hb dL_isWhole_203 (by decide) ?_
        refine lv_istore_n (lv' := [(2, .int 1), (6, .int 1), (5, .int (nI a)), (4, .int (hp_sum (fun i => hp_prs r (nI f) i i) a)), (3, .int (nI f)), (0, .ref o), (1, .int (nI n))]) hx hb dL_isWhole_207 rfl hl (by decide) rfl (fun ls hl => ?_)
        refine lv_iconst (v := 0) hx hb dL_isWhole_208 (by decide) ?_
        refine lv_istore (lv' := [(7, .int 0), (2, .int 1), (6, .int 1), (5, .int (nI a)), (4, .int (hp_sum (fun i => hp_prs r (nI f) i i) a)), (3, .int (nI f)), (0, .ref o), (1, .int (nI n))]) hx hb dL_isWhole_209 hl (by decide) rfl (fun ls hl => ?_)
        have hl := lv_sub (l' := [(7, .int (nI 0)), (6, .int 1), (5, .int (nI a)), (4, .int (hp_sum (fun i => hp_prs r (nI f) i i) a)), (3, .int (nI f)), (2, .int 1), (0, .ref o), (1, .int (nI n))]) hl [0, 2, 3, 4, 5, 1, 6, 7] rfl
        have hz : hp_sum (fun i => hp_prs r (nI f) i i) a = hp_sum (fun i => hp_prs r (nI f) i i) a + hp_prs r (nI f) a 0 := (Int32.add_zero _).symm
        rw [hz] at hl
        refine wh_pairs l hl0 hx hb hml hown hts hT hinv hext hK (f := f) (a := a) (c0 := c0 + 244 * a + 3) (s0 := s0 + 1464 * a + 18) hf ha c1 (by omega) (by omega) (fun H1 locs1 ls hH1 hl => ?_) a 0 (by omega) _ _ ls hH hl
        refine W.widen (k := c0 + 244 * (a + 1)) (n := s0 + 1464 * (a + 1)) (by omega) (by omega) ?_
        refine lv_iinc (v := nI (a + 1)) (lv' := [(5, .int (nI (a + 1))), (7, .int (nI a)), (6, .int 1), (4, .int (hp_sum (fun i => hp_prs r (nI f) i i) a + hp_prs r (nI f) a a)), (3, .int (nI f)), (2, .int 1), (0, .ref o), (1, .int (nI n))]) hx hb dL_isWhole_298 hl (k := 2) rfl (nI_add a 1) (by decide) rfl (fun ls hl => ?_)
        refine lv_goto (tgt := 149) hx hb dL_isWhole_301 (by decide) ?_
        exact ih (a + 1) (by omega) _ _ ls hH1 (lv_sub hl [0, 3, 4, 5, 6, 7] rfl)
      refine lv_aload_n hx hb dL_isWhole_182 rfl (lv_at hl 5 rfl) ?_
      refine lv_iload_n hx hb dL_isWhole_183 rfl (lv_at hl 3 rfl) ?_
      refine hp_call1 (As := [.int (nI f)]) (rest := []) hF hT cw_isLocked (wl_isLocked l hl0 dC dI cI cZ cO cJ o b v r n (nI f) hinv (ans := hp_b (!(r 17 f == 0))) (hp_lk0 hf)) hH_a1 rfl rfl hl.1 (Nat.le_of_ble_eq_true rfl) dL_isWhole_184 ⟨(by show _ ≤ 40300; omega), (by show _ ≤ 241800; omega)⟩ (fun H_a2 locs_a2 hH_a2 => ?_)
      clear hH_a1
      refine lv_if_eq (tgt := 202) hx hb dL_isWhole_187 (by decide) (fun _ => ?_) (fun c2 => ?_)
      · refine W.widen (k := c0 + 244 * a + 3) (n := s0 + 1464 * a + 18) (by omega) (by omega) ?_
        exact tail _ _ hH_a2
      · have h17 : ¬ r 17 f = 0 := by have := hp_bn c2; simpa using this
        refine lv_aload_n hx hb dL_isWhole_190 rfl (lv_at hl 5 rfl) ?_
        refine lv_iload hx hb dL_isWhole_191 (lv_at hl 1 rfl) ?_
        refine lv_bipush (v := 6) hx hb dL_isWhole_193 (by decide) ?_
        refine hp_call1 (As := [.int (nI a), .int 6]) (rest := []) hF hT cw_elementOf (wl_elementOf l hl0 dC dI cI cZ cO cJ o b v r n (nI a) 6 hinv (ans := r 10 a) (hp_eo6 hn40 ha)) hH_a2 rfl rfl hl.1 (Nat.le_of_ble_eq_true rfl) dL_isWhole_195 ⟨(by show _ ≤ 40300; omega), (by show _ ≤ 241800; omega)⟩ (fun H_a3 locs_a3 hH_a3 => ?_)
        clear hH_a2
        refine lv_iconst (v := 2) hx hb dL_isWhole_198 (by decide) ?_
        refine lv_icmp_le (tgt := 206) hx hb dL_isWhole_199 (by decide) (fun c3 => ?_) (fun _ => ?_)
        · rcases hext.2.2 f a hf ha h17 c1 with z | z
          · rw [z] at c3; exact absurd c3 (by decide)
          · rw [z] at c3; exact absurd c3 (by decide)
        · exact tail _ _ hH_a3
set_option maxHeartbeats 1000000 in
set_option maxRecDepth 100000 in
theorem wh_storeys {p : Program} {e : Env} {s : State} {m : MethodId} {below : List Frame} {meth : Method} {c : Code} {Q : State → Prop} {A : Nat → Prop} {dC : Nat → ClassId} {dI : Nat → Nat → Nat} {cI cZ cO cJ : ClassId} {o : Nat} {b : Nat → Nat} {v : Nat → Int32} {r : Nat → Nat → Int32} {n K : Nat} (l : Launch) (hl0 : l.stackTraces = false) (hx : p.tables.exec = Jvm.exec) (hb : c.code = cL_isWhole) (hml : c.maxLocals = 8) (hown : s.vm.findClass RL = some m.cls) (hts : ∀ w ∈ wsL_isWhole, w.before #[Value.ref o, Value.int (nI n)] s = true) (hT : hp_T (dC, dI) cI cZ cO cJ A s) (hinv : hp_inv v r n) (hext : hp_ext K v r n) (hK : K ≤ 1000)
    (kk : ∀ (H : Heap) (locs : List Loc) (ls : Array Slot), hp_H1 (dC, dI) cI cZ cO A s o b v r n H locs → lv_has ls 8 [(3, .int (nI 4)), (2, .int 1), (0, .ref o), (1, .int (nI n))] → W p l e ({ frames := 8, cells := 40300, slots := 241800, locals := 182 } : Room) s m #[Value.ref o, Value.int (nI n)] below meth c H locs 39438 236628 Q (F0 m 330 ls [])) :
    ∀ (g f : Nat), f + g = 4 → ∀ (H_0 : Heap) (locs_0 : List Loc) (ls : Array Slot), hp_H1 (dC, dI) cI cZ cO A s o b v r n H_0 locs_0 → lv_has ls 8 [(3, .int (nI f)), (2, .int 1), (0, .ref o), (1, .int (nI n))] → W p l e ({ frames := 8, cells := 40300, slots := 241800, locals := 182 } : Room) s m #[Value.ref o, Value.int (nI n)] below meth c H_0 locs_0 (390 + 9762 * f) (2340 + 58572 * f) Q (F0 m 134 ls []) := by
  have hn40 : n ≤ 40 := hinv.1
  have hF : CallFix p m c cL_isWhole 8 s #[Value.ref o, Value.int (nI n)] wsL_isWhole RL := ⟨hx, hb, hml, hown, hts⟩
  have cw_clashes := vx_cwSW (R := ({ frames := 8, cells := 40300, slots := 241800, locals := 182 } : Room)) (rm := ({ frames := 7, cells := 1, slots := 6, locals := 139 } : Room)) (mc := 1) (ms := 6) 2 hts gL_isWhole_L_clashes rfl rfl rfl (by decide +kernel) ⟨(Nat.le_of_ble_eq_true rfl), (Nat.le_of_ble_eq_true rfl)⟩
  intro g
  induction g with
  | zero =>
    intro f hk H_0 locs_0 ls hH_0 hl
    obtain rfl : f = 4 := by omega
    refine lv_iload_n hx hb dL_isWhole_134 rfl (lv_at hl 0 rfl) ?_
    refine lv_iconst (v := 4) hx hb dL_isWhole_135 (by decide) ?_
    refine lv_icmp_ge (tgt := 330) hx hb dL_isWhole_136 (by decide) (fun _ => ?_) (fun c9 => absurd (Int32.le_refl _) c9)
    exact kk _ _ ls hH_0 hl
  | succ g ih =>
    intro f hk H_0 locs_0 ls hH_0 hl
    refine lv_iload_n hx hb dL_isWhole_134 rfl (lv_at hl 0 rfl) ?_
    refine lv_iconst (v := 4) hx hb dL_isWhole_135 (by decide) ?_
    refine lv_icmp_ge (tgt := 330) hx hb dL_isWhole_136 (by decide) (fun c9 => absurd c9 (nI_ge (a := f) (b := 4) (by omega) (by decide))) (fun _ => ?_)
    refine lv_iload_n hx hb dL_isWhole_139 rfl (lv_at hl 1 rfl) ?_
    refine lv_if_eq (tgt := 330) hx hb dL_isWhole_140 (by decide) (fun q9 => absurd q9 (by decide)) (fun _ => ?_)
    refine lv_iconst (v := 0) hx hb dL_isWhole_143 (by decide) ?_
    refine lv_istore (lv' := [(4, .int 0), (3, .int (nI f)), (2, .int 1), (0, .ref o), (1, .int (nI n))]) hx hb dL_isWhole_144 hl (by decide) rfl (fun ls hl => ?_)
    refine lv_iconst (v := 0) hx hb dL_isWhole_146 (by decide) ?_
    refine lv_istore (lv' := [(5, .int 0), (4, .int 0), (3, .int (nI f)), (2, .int 1), (0, .ref o), (1, .int (nI n))]) hx hb dL_isWhole_147 hl (by decide) rfl (fun ls hl => ?_)
    have hf : f < 4 := by omega
    refine wh_elems l hl0 hx hb hml hown hts hT hinv hext hK (f := f) (c0 := 390 + 9762 * f) (s0 := 2340 + 58572 * f) hf (by omega) (by omega) (fun H1 locs1 ls hH_k hl => ?_) n 0 (by omega) _ _ ls hH_0 (lv_sub (l' := [(5, .int (nI 0)), (4, .int (hp_sum (fun i => hp_prs r (nI f) i i) 0)), (3, .int (nI f)), (2, .int 1), (0, .ref o), (1, .int (nI n))]) hl [0, 1, 2, 3, 4, 5] rfl)
    refine W.widen (k := 390 + 9762 * f + 9760) (n := 2340 + 58572 * f + 58560) (by omega) (by omega) ?_
    refine lv_iload_n hx hb dL_isWhole_304 rfl (lv_at hl 3 rfl) ?_
    refine lv_if_eq (tgt := 322) hx hb dL_isWhole_305 (by decide) (fun q9 => absurd q9 (by decide)) (fun _ => ?_)
    refine lv_iload hx hb dL_isWhole_308 (lv_at hl 1 rfl) ?_
    refine lv_aload_n hx hb dL_isWhole_310 rfl (lv_at hl 4 rfl) ?_
    refine lv_iload_n hx hb dL_isWhole_311 rfl (lv_at hl 2 rfl) ?_
    refine hp_call1 (As := [.int (nI f)]) (rest := [.int (hp_sum (fun i => hp_prs r (nI f) i i) n)]) hF hT cw_clashes (wl_clashes l hl0 dC dI cI cZ cO cJ o b v r n (nI f) hinv (ans := hp_sum (fun i => hp_prs r (nI f) i i) n) (hp_cs0 hf)) hH_k rfl rfl hl.1 (Nat.le_of_ble_eq_true rfl) dL_isWhole_312 ⟨(by show _ ≤ 40300; omega), (by show _ ≤ 241800; omega)⟩ (fun H_b1 locs_b1 hH_b1 => ?_)
    clear hH_k
    refine lv_icmp_ne (tgt := 322) hx hb dL_isWhole_315 (by decide) (fun q9 => absurd rfl q9) (fun _ => ?_)
    refine lv_iconst (v := 1) hx hb dL_isWhole_318 (by decide) ?_
    refine lv_goto (tgt := 323) hx hb dL_isWhole_319 (by decide) ?_
    refine lv_istore_n (lv' := [(2, .int 1), (5, .int (nI n)), (4, .int (hp_sum (fun i => hp_prs r (nI f) i i) n)), (3, .int (nI f)), (0, .ref o), (1, .int (nI n))]) hx hb dL_isWhole_323 rfl hl (by decide) rfl (fun ls hl => ?_)
    refine lv_iinc (v := nI (f + 1)) (lv' := [(3, .int (nI (f + 1))), (2, .int 1), (5, .int (nI n)), (4, .int (hp_sum (fun i => hp_prs r (nI f) i i) n)), (0, .ref o), (1, .int (nI n))]) hx hb dL_isWhole_324 hl (k := 3) rfl (nI_add f 1) (by decide) rfl (fun ls hl => ?_)
    refine lv_goto (tgt := 134) hx hb dL_isWhole_327 (by decide) ?_
    refine W.widen (k := 390 + 9762 * (f + 1)) (n := 2340 + 58572 * (f + 1)) (by omega) (by omega) ?_
    exact ih (f + 1) (by omega) _ _ ls hH_b1 (lv_sub hl [0, 1, 4, 5] rfl)
