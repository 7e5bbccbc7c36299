/-! the law: its switch -/
theorem hp_gt {L j : Nat} (hL : L ≤ 3584) (hj : 7 * j ≤ L) : Int32.ofNat L - 7 < nI (7 * j) ↔ L < 7 * j + 7 := by
  show nI L - nI 7 < nI (7 * j) ↔ _
  rw [Int32.lt_iff_toInt_lt, pk_sub_toInt (by omega) (by decide), nI_toInt (by omega)]
  omega
set_option maxHeartbeats 400000 in
set_option maxRecDepth 100000 in
theorem law_switch {p : Program} {e : Env} {s : State} {m : MethodId} {below : List Frame} {meth : Method} {c : Code} (l : Launch) (hl0 : l.stackTraces = false) {b L : Nat} {xs : Nat → Int32} (hx : p.tables.exec = Jvm.exec) (hb : c.code = code) (hml : c.maxLocals = 7) (hown : s.vm.findClass RL = some m.cls) (hts : ∀ w ∈ wsL_law, w.before #[Value.ref b] s = true) (hX : va_X b L xs s s.heap) (hbl : b < s.heap.size) (hL : L ≤ 3584) {dC : Nat → ClassId} {dI : Nat → Nat → Nat} {cI cZ cO cJ : ClassId} (hK : va_K (dC, dI) vwCl (hp_ty cI cZ cO cJ) s) (hN : hp_ex s) (hstr : hp_str s) (hZu : hp_Zu (hp_A s) s s.heap) (hZn : hp_Zn (hp_A s) s s.heap) (hnc : hp_nc s) {ox om oq : Nat} {bx am : Nat → Nat} {Q : State → Prop} {j : Nat} (hj : 7 * j + 7 ≤ L)
    (ih : ∀ (H : Heap) (locs : List Loc) (ls : Array Slot) (ad : Nat → Nat) (g : Nat → Int64) (v : Nat → Int32) (r : Nat → Nat → Int32) (n : Nat) (t : Int32), hp_LI (dC, dI) cI cZ cO cJ (hp_A s) ox om oq bx am ad g v r n t H → va_S (hp_A s) s.heap H locs → lv_has ls 7 [(4, .int (nI (7 * (j + 1)))), (0, .ref b), (1, .ref ox), (2, .ref om), (3, .ref oq)] → W p l e room_1 s m #[Value.ref b] below meth c H locs (22 + (j + 1)) (505 + 10 * (j + 1)) Q (F0 m 23 ls []))
    {H : Heap} {locs : List Loc} {ls : Array Slot} {ad : Nat → Nat} {g : Nat → Int64} {v : Nat → Int32} {r : Nat → Nat → Int32} {n : Nat} {t : Int32} (hI : hp_LI (dC, dI) cI cZ cO cJ (hp_A s) ox om oq bx am ad g v r n t H) (hS : va_S (hp_A s) s.heap H locs) (hl : lv_has ls 7 [(4, .int (nI (7 * j))), (0, .ref b), (1, .ref ox), (2, .ref om), (3, .ref oq)]) {k : Nat} (hk : k < 32) : W p l e room_1 s m #[Value.ref b] below meth c H locs (22 + j) (505 + 10 * j) Q (F0 m 40 ls [.int (nI k)]) := by
  match k, hk with
  | 0, _ => exact lv_tableIn (off := 104) (tgt := 144) hx hb dL_law_40 (by decide) (by decide) rfl (by decide) (law_add l hl0 hx hb hml hown hts hX hbl hL hK hN hstr hZu hZn hnc hj ih hI hS hl)
  | 1, _ => exact lv_tableIn (off := 222) (tgt := 262) hx hb dL_law_40 (by decide) (by decide) rfl (by decide) (law_move l hl0 hx hb hml hown hts hX hbl hL hK hN hstr hZu hZn hnc hj ih hI hS hl)
  | 2, _ => exact lv_tableIn (off := 333) (tgt := 373) hx hb dL_law_40 (by decide) (by decide) rfl (by decide) (law_remove l hl0 hx hb hml hown hts hX hbl hL hK hN hstr hZu hZn hnc hj ih hI hS hl)
  | 3, _ => exact lv_tableIn (off := 420) (tgt := 460) hx hb dL_law_40 (by decide) (by decide) rfl (by decide) (law_clear l hl0 hx hb hml hown hts hX hbl hL hK hN hstr hZu hZn hnc hj ih hI hS hl)
  | 4, _ => exact lv_tableIn (off := 500) (tgt := 540) hx hb dL_law_40 (by decide) (by decide) rfl (by decide) (law_part l hl0 hx hb hml hown hts hX hbl hL hK hN hstr hZu hZn hnc hj ih hI hS hl)
  | 5, _ => exact lv_tableIn (off := 568) (tgt := 608) hx hb dL_law_40 (by decide) (by decide) rfl (by decide) (law_lead l hl0 hx hb hml hown hts hX hbl hL hK hN hstr hZu hZn hnc hj ih hI hS hl)
  | 6, _ => exact lv_tableIn (off := 636) (tgt := 676) hx hb dL_law_40 (by decide) (by decide) rfl (by decide) (law_order l hl0 hx hb hml hown hts hX hbl hL hK hN hstr hZu hZn hnc hj ih hI hS hl)
  | 7, _ => exact lv_tableIn (off := 692) (tgt := 732) hx hb dL_law_40 (by decide) (by decide) rfl (by decide) (law_cancel l hl0 hx hb hml hown hts hX hbl hL hK hN hstr hZu hZn hnc hj ih hI hS hl)
  | 8, _ => exact lv_tableIn (off := 748) (tgt := 788) hx hb dL_law_40 (by decide) (by decide) rfl (by decide) (law_build l hl0 hx hb hml hown hts hX hbl hL hK hN hstr hZu hZn hnc hj ih hI hS hl)
  | 9, _ => exact lv_tableIn (off := 811) (tgt := 851) hx hb dL_law_40 (by decide) (by decide) rfl (by decide) (law_inspect l hl0 hx hb hml hown hts hX hbl hL hK hN hstr hZu hZn hnc hj ih hI hS hl)
  | 10, _ => exact lv_tableIn (off := 874) (tgt := 914) hx hb dL_law_40 (by decide) (by decide) rfl (by decide) (law_pass l hl0 hx hb hml hown hts hX hbl hL hK hN hstr hZu hZn hnc hj ih hI hS hl)
  | 11, _ => exact lv_tableIn (off := 930) (tgt := 970) hx hb dL_law_40 (by decide) (by decide) rfl (by decide) (law_day l hl0 hx hb hml hown hts hX hbl hL hK hN hstr hZu hZn hnc hj ih hI hS hl)
  | 12, _ => exact lv_tableIn (off := 943) (tgt := 983) hx hb dL_law_40 (by decide) (by decide) rfl (by decide) (law_revision l hl0 hx hb hml hown hts hX hbl hL hK hN hstr hZu hZn hnc hj ih hI hS hl)
  | 13, _ => exact lv_tableIn (off := 956) (tgt := 996) hx hb dL_law_40 (by decide) (by decide) rfl (by decide) (law_elementOf l hl0 hx hb hml hown hts hX hbl hL hK hN hstr hZu hZn hnc hj ih hI hS hl)
  | 14, _ => exact lv_tableIn (off := 1024) (tgt := 1064) hx hb dL_law_40 (by decide) (by decide) rfl (by decide) (law_clash l hl0 hx hb hml hown hts hX hbl hL hK hN hstr hZu hZn hnc hj ih hI hS hl)
  | 15, _ => exact lv_tableIn (off := 1099) (tgt := 1139) hx hb dL_law_40 (by decide) (by decide) rfl (by decide) (law_clashes l hl0 hx hb hml hown hts hX hbl hL hK hN hstr hZu hZn hnc hj ih hI hS hl)
  | 16, _ => exact lv_tableIn (off := 1155) (tgt := 1195) hx hb dL_law_40 (by decide) (by decide) rfl (by decide) (law_isStopped l hl0 hx hb hml hown hts hX hbl hL hK hN hstr hZu hZn hnc hj ih hI hS hl)
  | 17, _ => exact lv_tableIn (off := 1230) (tgt := 1270) hx hb dL_law_40 (by decide) (by decide) rfl (by decide) (law_parts l hl0 hx hb hml hown hts hX hbl hL hK hN hstr hZu hZn hnc hj ih hI hS hl)
  | 18, _ => exact lv_tableIn (off := 1286) (tgt := 1326) hx hb dL_law_40 (by decide) (by decide) rfl (by decide) (law_partsAnew l hl0 hx hb hml hown hts hX hbl hL hK hN hstr hZu hZn hnc hj ih hI hS hl)
  | 19, _ => exact lv_tableIn (off := 1342) (tgt := 1382) hx hb dL_law_40 (by decide) (by decide) rfl (by decide) (law_ordered l hl0 hx hb hml hown hts hX hbl hL hK hN hstr hZu hZn hnc hj ih hI hS hl)
  | 20, _ => exact lv_tableIn (off := 1398) (tgt := 1438) hx hb dL_law_40 (by decide) (by decide) rfl (by decide) (law_kindsAt l hl0 hx hb hml hown hts hX hbl hL hK hN hstr hZu hZn hnc hj ih hI hS hl)
  | 21, _ => exact lv_tableIn (off := 1478) (tgt := 1518) hx hb dL_law_40 (by decide) (by decide) rfl (by decide) (law_isLocked l hl0 hx hb hml hown hts hX hbl hL hK hN hstr hZu hZn hnc hj ih hI hS hl)
  | k + 22, hk =>
    refine lv_tableOut (tgt := 1581) hx hb dL_law_40 (Or.inr (by rw [nI_toInt (by omega)]; omega)) (by decide) ?_
    refine lv_iinc (v := nI (7 * (j + 1))) (lv' := [(4, .int (nI (7 * (j + 1)))), (0, .ref b), (1, .ref ox), (2, .ref om), (3, .ref oq)]) hx hb dL_law_1581 hl (k := 0) rfl (hp_i7 j) (by decide) rfl (fun ls hl => ?_)
    refine lv_goto (tgt := 23) hx hb dL_law_1584 (by decide) ?_
    refine W.widen (k := 22 + (j + 1)) (n := 505 + 10 * (j + 1)) (by omega) (by omega) ?_
    exact ih H _ ls ad g v r n t hI hS hl
/-! the law: where it starts -/
theorem hp_inv0 : hp_inv hp_v0 hp_r0 0 := by
  refine ⟨by decide, fun i h => absurd h (Nat.not_lt_zero i), fun i _ _ => ⟨rfl, rfl⟩, fun i _ => ⟨3, by decide, by decide, rfl⟩, fun i _ => ⟨5, by decide, rfl⟩, fun i _ => ⟨false, rfl⟩, ⟨0, by decide, rfl⟩⟩
theorem hp_v00 : hp_v0 = va_up hp_v0 0 0 := by
  funext j
  unfold va_up
  split
  · rfl
  · rfl
theorem hp_DM {A : Nat → Prop} {cI cZ : ClassId} {o : Nat} {a : Nat → Nat} {v v' : Nat → Int32} {r r' : Nat → Nat → Int32} {n n' : Nat} (h : va_D A (hp_M cI cZ o a v r n)) : va_D A (hp_M cI cZ o a v' r' n') := hp_dfst (by simp [hp_M]) h
