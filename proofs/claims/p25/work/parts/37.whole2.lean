/-! a house is whole: its elements; and all -/
set_option maxHeartbeats 1000000 in
set_option maxRecDepth 100000 in
theorem wh_each {p : Program} {e : Env} {s : State} {m : MethodId} {below : List Frame} {meth : Method} {c : Code} {Q : State → Prop} {A : Nat → Prop} {dC : Nat → ClassId} {dI : Nat → Nat → Nat} {cI cZ cO cJ : ClassId} {o : Nat} {b : Nat → Nat} {v : Nat → Int32} {r : Nat → Nat → Int32} {n K : Nat} (l : Launch) (hl0 : l.stackTraces = false) (hx : p.tables.exec = Jvm.exec) (hb : c.code = cL_isWhole) (hml : c.maxLocals = 8) (hown : s.vm.findClass RL = some m.cls) (hts : ∀ w ∈ wsL_isWhole, w.before #[Value.ref o, Value.int (nI n)] s = true) (hT : hp_T (dC, dI) cI cZ cO cJ A s) (hinv : hp_inv v r n) (hext : hp_ext K v r n) (hK : K ≤ 1000)
    (kk : ∀ (H : Heap) (locs : List Loc) (ls : Array Slot), hp_H1 (dC, dI) cI cZ cO A s o b v r n H locs → lv_has ls 8 [(3, .int (nI n)), (2, .int 1), (0, .ref o), (1, .int (nI n))] → W p l e ({ frames := 8, cells := 40300, slots := 241800, locals := 182 } : Room) s m #[Value.ref o, Value.int (nI n)] below meth c H locs (39438 + 20 * n) (236628 + 120 * n) Q (F0 m 537 ls [])) :
    ∀ (g k : Nat), k + g = n → ∀ (H_0 : Heap) (locs_0 : List Loc) (ls : Array Slot), hp_H1 (dC, dI) cI cZ cO A s o b v r n H_0 locs_0 → lv_has ls 8 [(3, .int (nI k)), (2, .int 1), (0, .ref o), (1, .int (nI n))] → W p l e ({ frames := 8, cells := 40300, slots := 241800, locals := 182 } : Room) s m #[Value.ref o, Value.int (nI n)] below meth c H_0 locs_0 (39438 + 20 * k) (236628 + 120 * k) Q (F0 m 332 ls []) := by
  have hn40 : n ≤ 40 := hinv.1
  have hF : CallFix p m c cL_isWhole 8 s #[Value.ref o, Value.int (nI n)] wsL_isWhole RL := ⟨hx, hb, hml, hown, hts⟩
  have cw_clash := vx_cwSW (R := ({ frames := 8, cells := 40300, slots := 241800, locals := 182 } : Room)) (rm := ({ frames := 7, cells := 1, slots := 6, locals := 115 } : Room)) (mc := 1) (ms := 6) 3 hts gL_isWhole_L_clash rfl rfl rfl (by decide +kernel) ⟨(Nat.le_of_ble_eq_true rfl), (Nat.le_of_ble_eq_true rfl)⟩
  have cw_elementOf := vx_cwSW (R := ({ frames := 8, cells := 40300, slots := 241800, locals := 182 } : Room)) (rm := ({ frames := 7, cells := 1, slots := 6, locals := 105 } : Room)) (mc := 1) (ms := 6) 3 hts gL_isWhole_L_elementOf rfl rfl rfl (by decide +kernel) ⟨(Nat.le_of_ble_eq_true rfl), (Nat.le_of_ble_eq_true rfl)⟩
  have cw_kindsAt := vx_cwSW (R := ({ frames := 8, cells := 40300, slots := 241800, locals := 182 } : Room)) (rm := ({ frames := 7, cells := 1, slots := 6, locals := 108 } : Room)) (mc := 1) (ms := 6) 4 hts gL_isWhole_L_kindsAt rfl rfl rfl (by decide +kernel) ⟨(Nat.le_of_ble_eq_true rfl), (Nat.le_of_ble_eq_true rfl)⟩
  intro g
  induction g with
  | zero =>
    intro k hk H_0 locs_0 ls hH_0 hl
    have hkn : k = n := by omega
    rw [hkn] at hl ⊢
    refine lv_iload_n hx hb dL_isWhole_332 rfl (lv_at hl 0 rfl) ?_
    refine lv_iload_n hx hb dL_isWhole_333 rfl (lv_at hl 3 rfl) ?_
    refine lv_icmp_ge (tgt := 537) hx hb dL_isWhole_334 (by decide) (fun _ => ?_) (fun c9 => absurd (Int32.le_refl _) c9)
    exact kk _ _ ls hH_0 hl
  | succ g ih =>
    intro k hk H_0 locs_0 ls hH_0 hl
    refine lv_iload_n hx hb dL_isWhole_332 rfl (lv_at hl 0 rfl) ?_
    refine lv_iload_n hx hb dL_isWhole_333 rfl (lv_at hl 3 rfl) ?_
    refine lv_icmp_ge (tgt := 537) hx hb dL_isWhole_334 (by decide) (fun c9 => absurd c9 (nI_ge (a := k) (b := n) (by omega) (by omega))) (fun _ => ?_)
    refine lv_iload_n hx hb dL_isWhole_337 rfl (lv_at hl 1 rfl) ?_
    refine lv_if_eq (tgt := 537) hx hb dL_isWhole_338 (by decide) (fun q9 => absurd q9 (by decide)) (fun _ => ?_)
    have hkn : k < n := by omega
    have hek := hinv.2.1 k hkn
    obtain ⟨rv, hr1, hr2, hr3⟩ := hext.1
    obtain ⟨cq, hq1, hq2, hq3⟩ := hr3 k hkn
    obtain ⟨g5, g6, g7, g4⟩ := hp_elS hek
    refine lv_aload_n hx hb dL_isWhole_341 rfl (lv_at hl 2 rfl) ?_
    refine lv_iload_n hx hb dL_isWhole_342 rfl (lv_at hl 0 rfl) ?_
    refine lv_iconst (v := 3) hx hb dL_isWhole_343 (by decide) ?_
    refine hp_call1 (As := [.int (nI k), .int 3]) (rest := []) hF hT cw_elementOf (wl_elementOf l hl0 dC dI cI cZ cO cJ o b v r n (nI k) 3 hinv (ans := r 7 k) (hp_eo3 hn40 hkn)) hH_0 rfl rfl hl.1 (Nat.le_of_ble_eq_true rfl) dL_isWhole_344 ⟨(by show _ ≤ 40300; omega), (by show _ ≤ 241800; omega)⟩ (fun H_a1 locs_a1 hH_a1 => ?_)
    clear hH_0
    refine lv_aload_n hx hb dL_isWhole_347 rfl (lv_at hl 2 rfl) ?_
    refine lv_iload_n hx hb dL_isWhole_348 rfl (lv_at hl 0 rfl) ?_
    refine lv_iconst (v := 5) hx hb dL_isWhole_349 (by decide) ?_
    refine hp_call1 (As := [.int (nI k), .int 5]) (rest := [.int (r 7 k)]) hF hT cw_elementOf (wl_elementOf l hl0 dC dI cI cZ cO cJ o b v r n (nI k) 5 hinv (ans := r 9 k) (hp_eo5 hn40 hkn)) hH_a1 rfl rfl hl.1 (Nat.le_of_ble_eq_true rfl) dL_isWhole_350 ⟨(by show _ ≤ 40300; omega), (by show _ ≤ 241800; omega)⟩ (fun H_a2 locs_a2 hH_a2 => ?_)
    clear hH_a1
    refine lv_icmp_ne (tgt := 360) hx hb dL_isWhole_353 (by decide) (fun c1 => ?_) (fun c1 => ?_)
    · have hcol : r 6 k = r 8 k := hek.2.2.2.2.2.2.2.resolve_right c1
      refine lv_iconst (v := 0) hx hb dL_isWhole_360 (by decide) ?_
      refine lv_istore (lv' := [(4, .int 0), (3, .int (nI k)), (2, .int 1), (0, .ref o), (1, .int (nI n))]) hx hb dL_isWhole_361 hl (by decide) rfl (fun ls hl => ?_)
      refine lv_iload hx hb dL_isWhole_363 (lv_at hl 0 rfl) ?_
      refine lv_if_eq (tgt := 384) hx hb dL_isWhole_365 (by decide) (fun _ => ?_) (fun q9 => absurd rfl q9)
      refine lv_aload_n hx hb dL_isWhole_384 rfl (lv_at hl 3 rfl) ?_
      refine lv_iload_n hx hb dL_isWhole_385 rfl (lv_at hl 1 rfl) ?_
      refine lv_iconst (v := 5) hx hb dL_isWhole_386 (by decide) ?_
      refine hp_call1 (As := [.int (nI k), .int 5]) (rest := []) hF hT cw_elementOf (wl_elementOf l hl0 dC dI cI cZ cO cJ o b v r n (nI k) 5 hinv (ans := r 9 k) (hp_eo5 hn40 hkn)) hH_a2 rfl rfl hl.1 (Nat.le_of_ble_eq_true rfl) dL_isWhole_387 ⟨(by show _ ≤ 40300; omega), (by show _ ≤ 241800; omega)⟩ (fun H_a3 locs_a3 hH_a3 => ?_)
      clear hH_a2
      refine lv_aload_n hx hb dL_isWhole_390 rfl (lv_at hl 3 rfl) ?_
      refine lv_iload_n hx hb dL_isWhole_391 rfl (lv_at hl 1 rfl) ?_
      refine lv_iconst (v := 3) hx hb dL_isWhole_392 (by decide) ?_
      refine hp_call1 (As := [.int (nI k), .int 3]) (rest := [.int (r 9 k)]) hF hT cw_elementOf (wl_elementOf l hl0 dC dI cI cZ cO cJ o b v r n (nI k) 3 hinv (ans := r 7 k) (hp_eo3 hn40 hkn)) hH_a3 rfl rfl hl.1 (Nat.le_of_ble_eq_true rfl) dL_isWhole_393 ⟨(by show _ ≤ 40300; omega), (by show _ ≤ 241800; omega)⟩ (fun H_a4 locs_a4 hH_a4 => ?_)
      clear hH_a3
      refine lv_isub hx hb dL_isWhole_396 ?_
      refine lv_istore (lv' := [(5, .int ((r 9 k) - (r 7 k))), (4, .int 0), (3, .int (nI k)), (2, .int 1), (0, .ref o), (1, .int (nI n))]) hx hb dL_isWhole_397 hl (by decide) rfl (fun ls hl => ?_)
      refine lv_iload hx hb dL_isWhole_399 (lv_at hl 1 rfl) ?_
      refine lv_if_ne (tgt := 419) hx hb dL_isWhole_401 (by decide) (fun q9 => absurd rfl q9) (fun _ => ?_)
      refine lv_aload_n hx hb dL_isWhole_404 rfl (lv_at hl 4 rfl) ?_
      refine lv_iload_n hx hb dL_isWhole_405 rfl (lv_at hl 2 rfl) ?_
      refine lv_iconst (v := 2) hx hb dL_isWhole_406 (by decide) ?_
      refine hp_call1 (As := [.int (nI k), .int 2]) (rest := []) hF hT cw_elementOf (wl_elementOf l hl0 dC dI cI cZ cO cJ o b v r n (nI k) 2 hinv (ans := r 6 k) (hp_eo2 hn40 hkn)) hH_a4 rfl rfl hl.1 (Nat.le_of_ble_eq_true rfl) dL_isWhole_407 ⟨(by show _ ≤ 40300; omega), (by show _ ≤ 241800; omega)⟩ (fun H_a5 locs_a5 hH_a5 => ?_)
      clear hH_a4
      refine lv_aload_n hx hb dL_isWhole_410 rfl (lv_at hl 4 rfl) ?_
      refine lv_iload_n hx hb dL_isWhole_411 rfl (lv_at hl 2 rfl) ?_
      refine lv_iconst (v := 4) hx hb dL_isWhole_412 (by decide) ?_
      refine hp_call1 (As := [.int (nI k), .int 4]) (rest := [.int (r 6 k)]) hF hT cw_elementOf (wl_elementOf l hl0 dC dI cI cZ cO cJ o b v r n (nI k) 4 hinv (ans := r 8 k) (hp_eo4 hn40 hkn)) hH_a5 rfl rfl hl.1 (Nat.le_of_ble_eq_true rfl) dL_isWhole_413 ⟨(by show _ ≤ 40300; omega), (by show _ ≤ 241800; omega)⟩ (fun H_a6 locs_a6 hH_a6 => ?_)
      clear hH_a5
      refine lv_icmp_ne (tgt := 529) hx hb dL_isWhole_416 (by decide) (fun q9 => absurd hcol q9) (fun _ => ?_)
      refine lv_aload_n hx hb dL_isWhole_419 rfl (lv_at hl 4 rfl) ?_
      refine lv_iload_n hx hb dL_isWhole_420 rfl (lv_at hl 2 rfl) ?_
      refine lv_bipush (v := 9) hx hb dL_isWhole_421 (by decide) ?_
      refine hp_call1 (As := [.int (nI k), .int 9]) (rest := []) hF hT cw_elementOf (wl_elementOf l hl0 dC dI cI cZ cO cJ o b v r n (nI k) 9 hinv (ans := hp_cel r k) (hp_eo9 hn40 hkn)) hH_a6 rfl rfl hl.1 (Nat.le_of_ble_eq_true rfl) dL_isWhole_423 ⟨(by show _ ≤ 40300; omega), (by show _ ≤ 241800; omega)⟩ (fun H_a7 locs_a7 hH_a7 => ?_)
      clear hH_a6
      refine lv_iload hx hb dL_isWhole_426 (lv_at hl 0 rfl) ?_
      refine hp_joinB 442 8 (fun y9 : Int32 => y9 = hp_cel r k) (fun y9 => [(5, .int ((r 9 k) - (r 7 k))), (4, .int 0), (3, .int (nI k)), (2, .int 1), (0, .ref o), (1, .int (nI n))]) (fun y9 => [.int y9, .int (hp_cel r k)]) (fun jn => ?_) ?_
      · refine lv_if_ge (tgt := 438) hx hb dL_isWhole_428 (by decide) (fun c9 => ?_) (fun c9 => ?_)
        · skip
          refine lv_iconst (v := 1) hx hb dL_isWhole_438 (by decide) ?_
          refine lv_iload hx hb dL_isWhole_439 (lv_at hl 0 rfl) ?_
          refine lv_iadd hx hb dL_isWhole_441 ?_
          exact jn (1 + ((r 9 k) - (r 7 k))) ((hp_al_hi c9).trans (hp_cel_col hcol)) _ hl
        · skip
          refine lv_iconst (v := 1) hx hb dL_isWhole_431 (by decide) ?_
          refine lv_iload hx hb dL_isWhole_432 (lv_at hl 0 rfl) ?_
          refine lv_isub hx hb dL_isWhole_434 ?_
          refine lv_goto (tgt := 442) hx hb dL_isWhole_435 (by decide) ?_
          exact jn (1 - ((r 9 k) - (r 7 k))) ((hp_al_lo c9).trans (hp_cel_col hcol)) _ hl
      intro y9 h_y9 ls hl
      refine lv_icmp_ne (tgt := 529) hx hb dL_isWhole_442 (by decide) (fun q9 => absurd h_y9.symm q9) (fun _ => ?_)
      refine lv_aload_n hx hb dL_isWhole_445 rfl (lv_at hl 4 rfl) ?_
      refine lv_iload_n hx hb dL_isWhole_446 rfl (lv_at hl 2 rfl) ?_
      refine lv_bipush (v := 7) hx hb dL_isWhole_447 (by decide) ?_
      refine hp_call1 (As := [.int (nI k), .int 7]) (rest := []) hF hT cw_elementOf (wl_elementOf l hl0 dC dI cI cZ cO cJ o b v r n (nI k) 7 hinv (ans := r 11 k) (hp_eo7 hn40 hkn)) hH_a7 rfl rfl hl.1 (Nat.le_of_ble_eq_true rfl) dL_isWhole_449 ⟨(by show _ ≤ 40300; omega), (by show _ ≤ 241800; omega)⟩ (fun H_a8 locs_a8 hH_a8 => ?_)
      clear hH_a7
      refine lv_iconst (v := 1) hx hb dL_isWhole_452 (by decide) ?_
      refine lv_icmp_lt (tgt := 529) hx hb dL_isWhole_453 (by decide) (fun q9 => absurd q9 (by rw [hq3]; exact nI_nlt (a := cq) (b := 1) (by omega) (by omega))) (fun _ => ?_)
      refine lv_aload_n hx hb dL_isWhole_456 rfl (lv_at hl 4 rfl) ?_
      refine lv_iload_n hx hb dL_isWhole_457 rfl (lv_at hl 2 rfl) ?_
      refine lv_bipush (v := 7) hx hb dL_isWhole_458 (by decide) ?_
      refine hp_call1 (As := [.int (nI k), .int 7]) (rest := []) hF hT cw_elementOf (wl_elementOf l hl0 dC dI cI cZ cO cJ o b v r n (nI k) 7 hinv (ans := r 11 k) (hp_eo7 hn40 hkn)) hH_a8 rfl rfl hl.1 (Nat.le_of_ble_eq_true rfl) dL_isWhole_460 ⟨(by show _ ≤ 40300; omega), (by show _ ≤ 241800; omega)⟩ (fun H_a9 locs_a9 hH_a9 => ?_)
      clear hH_a8
      refine lv_aload_n hx hb dL_isWhole_463 rfl (lv_at hl 4 rfl) ?_
      obtain ⟨⟨ad9, hP9, hD9⟩, hS9⟩ := id hH_a9
      refine vp_callSi (W.runV (As := []) (rest := [.int (r 11 k)]) ⟨hx, hb, hml, hown, hts⟩ (c_X1_revision l dC dI cI cZ cO cJ o b ad9 v r n) (cwV 0 hts gL_isWhole_X1_revision rfl rfl rfl (by decide +kernel) ⟨(Nat.le_of_ble_eq_true rfl), (Nat.le_of_ble_eq_true rfl)⟩) ⟨hp_fbX, va_recv hT.1 hP9 (ci := 1) (q0 := 0) rfl hp_X_o, fun U hU hW => ⟨rfl, hp_toX hP9 hT.1 hT.2.1 hU hW⟩⟩ rfl rfl hl.1 rfl (lv_room (Nat.le_of_ble_eq_true rfl)) dL_isWhole_464 ⟨(by show _ ≤ 40300; omega), (by show _ ≤ 241800; omega)⟩) (fun r_1 hr_1 => ?_)
      subst hr_1
      refine lv_icmp_gt (tgt := 529) hx hb dL_isWhole_467 (by decide) (fun q9 => absurd q9 (by rw [hq3, hr2]; exact nI_nlt hq2 (by omega))) (fun _ => ?_)
      have tail : ∀ (H : Heap) (locs : List Loc) (ls : Array Slot), hp_H1 (dC, dI) cI cZ cO A s o b v r n H locs → lv_has ls 8 [(5, .int ((r 9 k) - (r 7 k))), (4, .int 0), (3, .int (nI k)), (2, .int 1), (0, .ref o), (1, .int (nI n))] → W p l e ({ frames := 8, cells := 40300, slots := 241800, locals := 182 } : Room) s m #[Value.ref o, Value.int (nI n)] below meth c H locs (39438 + 20 * k + 19) (236628 + 120 * k + 114) Q (F0 m 516 ls []) := by
        intro H locs ls hH_t hl
        refine lv_aload_n hx hb dL_isWhole_516 rfl (lv_at hl 4 rfl) ?_
        refine lv_iload_n hx hb dL_isWhole_517 rfl (lv_at hl 2 rfl) ?_
        refine lv_iload_n hx hb dL_isWhole_518 rfl (lv_at hl 2 rfl) ?_
        refine hp_call1 (As := [.int (nI k), .int (nI k)]) (rest := []) hF hT cw_clash (wl_clash l hl0 dC dI cI cZ cO cJ o b v r n (nI k) (nI k) hinv (ans := hp_b (hp_cla r k k)) (hp_cl0 hn40 hkn hkn)) hH_t rfl rfl hl.1 (Nat.le_of_ble_eq_true rfl) dL_isWhole_519 ⟨(by show _ ≤ 40300; omega), (by show _ ≤ 241800; omega)⟩ (fun H_a30 locs_a30 hH_a30 => ?_)
        refine lv_if_ne (tgt := 529) hx hb dL_isWhole_522 (by decide) (fun q9 => absurd (by rw [hp_cla_self]; rfl) q9) (fun _ => ?_)
        refine lv_iconst (v := 1) hx hb dL_isWhole_525 (by decide) ?_
        refine lv_goto (tgt := 530) hx hb dL_isWhole_526 (by decide) ?_
        refine lv_istore_n (lv' := [(2, .int 1), (5, .int ((r 9 k) - (r 7 k))), (4, .int 0), (3, .int (nI k)), (0, .ref o), (1, .int (nI n))]) hx hb dL_isWhole_530 rfl hl (by decide) rfl (fun ls hl => ?_)
        refine lv_iinc (v := nI (k + 1)) (lv' := [(3, .int (nI (k + 1))), (2, .int 1), (5, .int ((r 9 k) - (r 7 k))), (4, .int 0), (0, .ref o), (1, .int (nI n))]) hx hb dL_isWhole_531 hl (k := 3) rfl (nI_add k 1) (by decide) rfl (fun ls hl => ?_)
        refine lv_goto (tgt := 332) hx hb dL_isWhole_534 (by decide) ?_
        refine W.widen (k := 39438 + 20 * (k + 1)) (n := 236628 + 120 * (k + 1)) (by omega) (by omega) ?_
        exact ih (k + 1) (by omega) _ _ ls hH_a30 (lv_sub hl [0, 1, 4, 5] rfl)
      refine lv_aload_n hx hb dL_isWhole_470 rfl (lv_at hl 4 rfl) ?_
      refine lv_iload_n hx hb dL_isWhole_471 rfl (lv_at hl 2 rfl) ?_
      refine lv_bipush (v := 6) hx hb dL_isWhole_472 (by decide) ?_
      refine hp_call1 (As := [.int (nI k), .int 6]) (rest := []) hF hT cw_elementOf (wl_elementOf l hl0 dC dI cI cZ cO cJ o b v r n (nI k) 6 hinv (ans := r 10 k) (hp_eo6 hn40 hkn)) hH_a9 rfl rfl hl.1 (Nat.le_of_ble_eq_true rfl) dL_isWhole_474 ⟨(by show _ ≤ 40300; omega), (by show _ ≤ 241800; omega)⟩ (fun H_a10 locs_a10 hH_a10 => ?_)
      clear hH_a9
      refine lv_iconst (v := 4) hx hb dL_isWhole_477 (by decide) ?_
      refine lv_icmp_eq (tgt := 516) hx hb dL_isWhole_478 (by decide) (fun _ => ?_) (fun c4 => ?_)
      · refine W.widen (k := 39438 + 20 * k + 19) (n := 236628 + 120 * k + 114) (by omega) (by omega) ?_
        exact tail _ _ ls hH_a10 hl
      · skip
        refine lv_aload_n hx hb dL_isWhole_481 rfl (lv_at hl 4 rfl) ?_
        refine lv_aload_n hx hb dL_isWhole_482 rfl (lv_at hl 4 rfl) ?_
        refine lv_iload_n hx hb dL_isWhole_483 rfl (lv_at hl 2 rfl) ?_
        refine lv_iconst (v := 1) hx hb dL_isWhole_484 (by decide) ?_
        refine hp_call1 (As := [.int (nI k), .int 1]) (rest := [.ref o]) hF hT cw_elementOf (wl_elementOf l hl0 dC dI cI cZ cO cJ o b v r n (nI k) 1 hinv (ans := r 5 k) (hp_eo1 hn40 hkn)) hH_a10 rfl rfl hl.1 (Nat.le_of_ble_eq_true rfl) dL_isWhole_485 ⟨(by show _ ≤ 40300; omega), (by show _ ≤ 241800; omega)⟩ (fun H_a11 locs_a11 hH_a11 => ?_)
        clear hH_a10
        refine lv_aload_n hx hb dL_isWhole_488 rfl (lv_at hl 4 rfl) ?_
        refine lv_iload_n hx hb dL_isWhole_489 rfl (lv_at hl 2 rfl) ?_
        refine lv_iconst (v := 2) hx hb dL_isWhole_490 (by decide) ?_
        refine hp_call1 (As := [.int (nI k), .int 2]) (rest := [.int (r 5 k), .ref o]) hF hT cw_elementOf (wl_elementOf l hl0 dC dI cI cZ cO cJ o b v r n (nI k) 2 hinv (ans := r 6 k) (hp_eo2 hn40 hkn)) hH_a11 rfl rfl hl.1 (Nat.le_of_ble_eq_true rfl) dL_isWhole_491 ⟨(by show _ ≤ 40300; omega), (by show _ ≤ 241800; omega)⟩ (fun H_a12 locs_a12 hH_a12 => ?_)
        clear hH_a11
        refine lv_aload_n hx hb dL_isWhole_494 rfl (lv_at hl 4 rfl) ?_
        refine lv_iload_n hx hb dL_isWhole_495 rfl (lv_at hl 2 rfl) ?_
        refine lv_iconst (v := 3) hx hb dL_isWhole_496 (by decide) ?_
        refine hp_call1 (As := [.int (nI k), .int 3]) (rest := [.int (r 6 k), .int (r 5 k), .ref o]) hF hT cw_elementOf (wl_elementOf l hl0 dC dI cI cZ cO cJ o b v r n (nI k) 3 hinv (ans := r 7 k) (hp_eo3 hn40 hkn)) hH_a12 rfl rfl hl.1 (Nat.le_of_ble_eq_true rfl) dL_isWhole_497 ⟨(by show _ ≤ 40300; omega), (by show _ ≤ 241800; omega)⟩ (fun H_a13 locs_a13 hH_a13 => ?_)
        clear hH_a12
        refine hp_call1 (As := [.int (r 5 k), .int (r 6 k), .int (r 7 k)]) (rest := []) hF hT cw_kindsAt (wl_kindsAt l hl0 dC dI cI cZ cO cJ o b v r n (r 5 k) (r 6 k) (r 7 k) hinv (ans := hp_bits r (r 5 k) (r 6 k) (r 7 k) n) (hp_ka1 g5 g6 g7)) hH_a13 rfl rfl hl.1 (Nat.le_of_ble_eq_true rfl) dL_isWhole_500 ⟨(by show _ ≤ 40300; omega), (by show _ ≤ 241800; omega)⟩ (fun H_a14 locs_a14 hH_a14 => ?_)
        clear hH_a13
        refine lv_aload_n hx hb dL_isWhole_503 rfl (lv_at hl 4 rfl) ?_
        refine lv_iload_n hx hb dL_isWhole_504 rfl (lv_at hl 2 rfl) ?_
        refine lv_iconst (v := 0) hx hb dL_isWhole_505 (by decide) ?_
        refine hp_call1 (As := [.int (nI k), .int 0]) (rest := [.int (hp_bits r (r 5 k) (r 6 k) (r 7 k) n)]) hF hT cw_elementOf (wl_elementOf l hl0 dC dI cI cZ cO cJ o b v r n (nI k) 0 hinv (ans := r 4 k) (hp_eo0 hn40 hkn)) hH_a14 rfl rfl hl.1 (Nat.le_of_ble_eq_true rfl) dL_isWhole_506 ⟨(by show _ ≤ 40300; omega), (by show _ ≤ 241800; omega)⟩ (fun H_a15 locs_a15 hH_a15 => ?_)
        clear hH_a14
        refine lv_ishr hx hb dL_isWhole_509 ?_
        refine lv_iconst (v := 1) hx hb dL_isWhole_510 (by decide) ?_
        refine lv_iand hx hb dL_isWhole_511 ?_
        refine hp_top (hp_bit1 hinv hkn c4) ?_
        refine lv_iconst (v := 1) hx hb dL_isWhole_512 (by decide) ?_
        refine lv_icmp_ne (tgt := 529) hx hb dL_isWhole_513 (by decide) (fun q9 => absurd rfl q9) (fun _ => ?_)
        refine W.widen (k := 39438 + 20 * k + 19) (n := 236628 + 120 * k + 114) (by omega) (by omega) ?_
        exact tail _ _ ls hH_a15 hl
    · skip
      refine lv_iconst (v := 1) hx hb dL_isWhole_356 (by decide) ?_
      refine lv_goto (tgt := 361) hx hb dL_isWhole_357 (by decide) ?_
      refine lv_istore (lv' := [(4, .int 1), (3, .int (nI k)), (2, .int 1), (0, .ref o), (1, .int (nI n))]) hx hb dL_isWhole_361 hl (by decide) rfl (fun ls hl => ?_)
      refine lv_iload hx hb dL_isWhole_363 (lv_at hl 0 rfl) ?_
      refine lv_if_eq (tgt := 384) hx hb dL_isWhole_365 (by decide) (fun q9 => absurd q9 (by decide)) (fun _ => ?_)
      refine lv_aload_n hx hb dL_isWhole_368 rfl (lv_at hl 3 rfl) ?_
      refine lv_iload_n hx hb dL_isWhole_369 rfl (lv_at hl 1 rfl) ?_
      refine lv_iconst (v := 4) hx hb dL_isWhole_370 (by decide) ?_
      refine hp_call1 (As := [.int (nI k), .int 4]) (rest := []) hF hT cw_elementOf (wl_elementOf l hl0 dC dI cI cZ cO cJ o b v r n (nI k) 4 hinv (ans := r 8 k) (hp_eo4 hn40 hkn)) hH_a2 rfl rfl hl.1 (Nat.le_of_ble_eq_true rfl) dL_isWhole_371 ⟨(by show _ ≤ 40300; omega), (by show _ ≤ 241800; omega)⟩ (fun H_a3 locs_a3 hH_a3 => ?_)
      clear hH_a2
      refine lv_aload_n hx hb dL_isWhole_374 rfl (lv_at hl 3 rfl) ?_
      refine lv_iload_n hx hb dL_isWhole_375 rfl (lv_at hl 1 rfl) ?_
      refine lv_iconst (v := 2) hx hb dL_isWhole_376 (by decide) ?_
      refine hp_call1 (As := [.int (nI k), .int 2]) (rest := [.int (r 8 k)]) hF hT cw_elementOf (wl_elementOf l hl0 dC dI cI cZ cO cJ o b v r n (nI k) 2 hinv (ans := r 6 k) (hp_eo2 hn40 hkn)) hH_a3 rfl rfl hl.1 (Nat.le_of_ble_eq_true rfl) dL_isWhole_377 ⟨(by show _ ≤ 40300; omega), (by show _ ≤ 241800; omega)⟩ (fun H_a4 locs_a4 hH_a4 => ?_)
      clear hH_a3
      refine lv_isub hx hb dL_isWhole_380 ?_
      refine lv_goto (tgt := 397) hx hb dL_isWhole_381 (by decide) ?_
      refine lv_istore (lv' := [(5, .int ((r 8 k) - (r 6 k))), (4, .int 1), (3, .int (nI k)), (2, .int 1), (0, .ref o), (1, .int (nI n))]) hx hb dL_isWhole_397 hl (by decide) rfl (fun ls hl => ?_)
      refine lv_iload hx hb dL_isWhole_399 (lv_at hl 1 rfl) ?_
      refine lv_if_ne (tgt := 419) hx hb dL_isWhole_401 (by decide) (fun _ => ?_) (fun q9 => absurd q9 (by decide))
      refine lv_aload_n hx hb dL_isWhole_419 rfl (lv_at hl 4 rfl) ?_
      refine lv_iload_n hx hb dL_isWhole_420 rfl (lv_at hl 2 rfl) ?_
      refine lv_bipush (v := 9) hx hb dL_isWhole_421 (by decide) ?_
      refine hp_call1 (As := [.int (nI k), .int 9]) (rest := []) hF hT cw_elementOf (wl_elementOf l hl0 dC dI cI cZ cO cJ o b v r n (nI k) 9 hinv (ans := hp_cel r k) (hp_eo9 hn40 hkn)) hH_a4 rfl rfl hl.1 (Nat.le_of_ble_eq_true rfl) dL_isWhole_423 ⟨(by show _ ≤ 40300; omega), (by show _ ≤ 241800; omega)⟩ (fun H_a5 locs_a5 hH_a5 => ?_)
      clear hH_a4
      refine lv_iload hx hb dL_isWhole_426 (lv_at hl 0 rfl) ?_
      refine hp_joinB 442 8 (fun y9 : Int32 => y9 = hp_cel r k) (fun y9 => [(5, .int ((r 8 k) - (r 6 k))), (4, .int 1), (3, .int (nI k)), (2, .int 1), (0, .ref o), (1, .int (nI n))]) (fun y9 => [.int y9, .int (hp_cel r k)]) (fun jn => ?_) ?_
      · refine lv_if_ge (tgt := 438) hx hb dL_isWhole_428 (by decide) (fun c9 => ?_) (fun c9 => ?_)
        · skip
          refine lv_iconst (v := 1) hx hb dL_isWhole_438 (by decide) ?_
          refine lv_iload hx hb dL_isWhole_439 (lv_at hl 0 rfl) ?_
          refine lv_iadd hx hb dL_isWhole_441 ?_
          exact jn (1 + ((r 8 k) - (r 6 k))) ((hp_al_hi c9).trans (hp_cel_row c1)) _ hl
        · skip
          refine lv_iconst (v := 1) hx hb dL_isWhole_431 (by decide) ?_
          refine lv_iload hx hb dL_isWhole_432 (lv_at hl 0 rfl) ?_
          refine lv_isub hx hb dL_isWhole_434 ?_
          refine lv_goto (tgt := 442) hx hb dL_isWhole_435 (by decide) ?_
          exact jn (1 - ((r 8 k) - (r 6 k))) ((hp_al_lo c9).trans (hp_cel_row c1)) _ hl
      intro y9 h_y9 ls hl
      refine lv_icmp_ne (tgt := 529) hx hb dL_isWhole_442 (by decide) (fun q9 => absurd h_y9.symm q9) (fun _ => ?_)
      refine lv_aload_n hx hb dL_isWhole_445 rfl (lv_at hl 4 rfl) ?_
      refine lv_iload_n hx hb dL_isWhole_446 rfl (lv_at hl 2 rfl) ?_
      refine lv_bipush (v := 7) hx hb dL_isWhole_447 (by decide) ?_
      refine hp_call1 (As := [.int (nI k), .int 7]) (rest := []) hF hT cw_elementOf (wl_elementOf l hl0 dC dI cI cZ cO cJ o b v r n (nI k) 7 hinv (ans := r 11 k) (hp_eo7 hn40 hkn)) hH_a5 rfl rfl hl.1 (Nat.le_of_ble_eq_true rfl) dL_isWhole_449 ⟨(by show _ ≤ 40300; omega), (by show _ ≤ 241800; omega)⟩ (fun H_a6 locs_a6 hH_a6 => ?_)
      clear hH_a5
      refine lv_iconst (v := 1) hx hb dL_isWhole_452 (by decide) ?_
      refine lv_icmp_lt (tgt := 529) hx hb dL_isWhole_453 (by decide) (fun q9 => absurd q9 (by rw [hq3]; exact nI_nlt (a := cq) (b := 1) (by omega) (by omega))) (fun _ => ?_)
      refine lv_aload_n hx hb dL_isWhole_456 rfl (lv_at hl 4 rfl) ?_
      refine lv_iload_n hx hb dL_isWhole_457 rfl (lv_at hl 2 rfl) ?_
      refine lv_bipush (v := 7) hx hb dL_isWhole_458 (by decide) ?_
      refine hp_call1 (As := [.int (nI k), .int 7]) (rest := []) hF hT cw_elementOf (wl_elementOf l hl0 dC dI cI cZ cO cJ o b v r n (nI k) 7 hinv (ans := r 11 k) (hp_eo7 hn40 hkn)) hH_a6 rfl rfl hl.1 (Nat.le_of_ble_eq_true rfl) dL_isWhole_460 ⟨(by show _ ≤ 40300; omega), (by show _ ≤ 241800; omega)⟩ (fun H_a7 locs_a7 hH_a7 => ?_)
      clear hH_a6
      refine lv_aload_n hx hb dL_isWhole_463 rfl (lv_at hl 4 rfl) ?_
      obtain ⟨⟨ad9, hP9, hD9⟩, hS9⟩ := id hH_a7
      refine vp_callSi (W.runV (As := []) (rest := [.int (r 11 k)]) ⟨hx, hb, hml, hown, hts⟩ (c_X1_revision l dC dI cI cZ cO cJ o b ad9 v r n) (cwV 0 hts gL_isWhole_X1_revision rfl rfl rfl (by decide +kernel) ⟨(Nat.le_of_ble_eq_true rfl), (Nat.le_of_ble_eq_true rfl)⟩) ⟨hp_fbX, va_recv hT.1 hP9 (ci := 1) (q0 := 0) rfl hp_X_o, fun U hU hW => ⟨rfl, hp_toX hP9 hT.1 hT.2.1 hU hW⟩⟩ rfl rfl hl.1 rfl (lv_room (Nat.le_of_ble_eq_true rfl)) dL_isWhole_464 ⟨(by show _ ≤ 40300; omega), (by show _ ≤ 241800; omega)⟩) (fun r_1 hr_1 => ?_)
      subst hr_1
      refine lv_icmp_gt (tgt := 529) hx hb dL_isWhole_467 (by decide) (fun q9 => absurd q9 (by rw [hq3, hr2]; exact nI_nlt hq2 (by omega))) (fun _ => ?_)
      have tail : ∀ (H : Heap) (locs : List Loc) (ls : Array Slot), hp_H1 (dC, dI) cI cZ cO A s o b v r n H locs → lv_has ls 8 [(5, .int ((r 8 k) - (r 6 k))), (4, .int 1), (3, .int (nI k)), (2, .int 1), (0, .ref o), (1, .int (nI n))] → W p l e ({ frames := 8, cells := 40300, slots := 241800, locals := 182 } : Room) s m #[Value.ref o, Value.int (nI n)] below meth c H locs (39438 + 20 * k + 19) (236628 + 120 * k + 114) Q (F0 m 516 ls []) := by
        intro H locs ls hH_t hl
        refine lv_aload_n hx hb dL_isWhole_516 rfl (lv_at hl 4 rfl) ?_
        refine lv_iload_n hx hb dL_isWhole_517 rfl (lv_at hl 2 rfl) ?_
        refine lv_iload_n hx hb dL_isWhole_518 rfl (lv_at hl 2 rfl) ?_
        refine hp_call1 (As := [.int (nI k), .int (nI k)]) (rest := []) hF hT cw_clash (wl_clash l hl0 dC dI cI cZ cO cJ o b v r n (nI k) (nI k) hinv (ans := hp_b (hp_cla r k k)) (hp_cl0 hn40 hkn hkn)) hH_t rfl rfl hl.1 (Nat.le_of_ble_eq_true rfl) dL_isWhole_519 ⟨(by show _ ≤ 40300; omega), (by show _ ≤ 241800; omega)⟩ (fun H_a28 locs_a28 hH_a28 => ?_)
        refine lv_if_ne (tgt := 529) hx hb dL_isWhole_522 (by decide) (fun q9 => absurd (by rw [hp_cla_self]; rfl) q9) (fun _ => ?_)
        refine lv_iconst (v := 1) hx hb dL_isWhole_525 (by decide) ?_
        refine lv_goto (tgt := 530) hx hb dL_isWhole_526 (by decide) ?_
        refine lv_istore_n (lv' := [(2, .int 1), (5, .int ((r 8 k) - (r 6 k))), (4, .int 1), (3, .int (nI k)), (0, .ref o), (1, .int (nI n))]) hx hb dL_isWhole_530 rfl hl (by decide) rfl (fun ls hl => ?_)
        refine lv_iinc (v := nI (k + 1)) (lv' := [(3, .int (nI (k + 1))), (2, .int 1), (5, .int ((r 8 k) - (r 6 k))), (4, .int 1), (0, .ref o), (1, .int (nI n))]) hx hb dL_isWhole_531 hl (k := 3) rfl (nI_add k 1) (by decide) rfl (fun ls hl => ?_)
        refine lv_goto (tgt := 332) hx hb dL_isWhole_534 (by decide) ?_
        refine W.widen (k := 39438 + 20 * (k + 1)) (n := 236628 + 120 * (k + 1)) (by omega) (by omega) ?_
        exact ih (k + 1) (by omega) _ _ ls hH_a28 (lv_sub hl [0, 1, 4, 5] rfl)
      refine lv_aload_n hx hb dL_isWhole_470 rfl (lv_at hl 4 rfl) ?_
      refine lv_iload_n hx hb dL_isWhole_471 rfl (lv_at hl 2 rfl) ?_
      refine lv_bipush (v := 6) hx hb dL_isWhole_472 (by decide) ?_
      refine hp_call1 (As := [.int (nI k), .int 6]) (rest := []) hF hT cw_elementOf (wl_elementOf l hl0 dC dI cI cZ cO cJ o b v r n (nI k) 6 hinv (ans := r 10 k) (hp_eo6 hn40 hkn)) hH_a7 rfl rfl hl.1 (Nat.le_of_ble_eq_true rfl) dL_isWhole_474 ⟨(by show _ ≤ 40300; omega), (by show _ ≤ 241800; omega)⟩ (fun H_a8 locs_a8 hH_a8 => ?_)
      clear hH_a7
      refine lv_iconst (v := 4) hx hb dL_isWhole_477 (by decide) ?_
      refine lv_icmp_eq (tgt := 516) hx hb dL_isWhole_478 (by decide) (fun _ => ?_) (fun c4 => ?_)
      · refine W.widen (k := 39438 + 20 * k + 19) (n := 236628 + 120 * k + 114) (by omega) (by omega) ?_
        exact tail _ _ ls hH_a8 hl
      · skip
        refine lv_aload_n hx hb dL_isWhole_481 rfl (lv_at hl 4 rfl) ?_
        refine lv_aload_n hx hb dL_isWhole_482 rfl (lv_at hl 4 rfl) ?_
        refine lv_iload_n hx hb dL_isWhole_483 rfl (lv_at hl 2 rfl) ?_
        refine lv_iconst (v := 1) hx hb dL_isWhole_484 (by decide) ?_
        refine hp_call1 (As := [.int (nI k), .int 1]) (rest := [.ref o]) hF hT cw_elementOf (wl_elementOf l hl0 dC dI cI cZ cO cJ o b v r n (nI k) 1 hinv (ans := r 5 k) (hp_eo1 hn40 hkn)) hH_a8 rfl rfl hl.1 (Nat.le_of_ble_eq_true rfl) dL_isWhole_485 ⟨(by show _ ≤ 40300; omega), (by show _ ≤ 241800; omega)⟩ (fun H_a9 locs_a9 hH_a9 => ?_)
        clear hH_a8
        refine lv_aload_n hx hb dL_isWhole_488 rfl (lv_at hl 4 rfl) ?_
        refine lv_iload_n hx hb dL_isWhole_489 rfl (lv_at hl 2 rfl) ?_
        refine lv_iconst (v := 2) hx hb dL_isWhole_490 (by decide) ?_
        refine hp_call1 (As := [.int (nI k), .int 2]) (rest := [.int (r 5 k), .ref o]) hF hT cw_elementOf (wl_elementOf l hl0 dC dI cI cZ cO cJ o b v r n (nI k) 2 hinv (ans := r 6 k) (hp_eo2 hn40 hkn)) hH_a9 rfl rfl hl.1 (Nat.le_of_ble_eq_true rfl) dL_isWhole_491 ⟨(by show _ ≤ 40300; omega), (by show _ ≤ 241800; omega)⟩ (fun H_a10 locs_a10 hH_a10 => ?_)
        clear hH_a9
        refine lv_aload_n hx hb dL_isWhole_494 rfl (lv_at hl 4 rfl) ?_
        refine lv_iload_n hx hb dL_isWhole_495 rfl (lv_at hl 2 rfl) ?_
        refine lv_iconst (v := 3) hx hb dL_isWhole_496 (by decide) ?_
        refine hp_call1 (As := [.int (nI k), .int 3]) (rest := [.int (r 6 k), .int (r 5 k), .ref o]) hF hT cw_elementOf (wl_elementOf l hl0 dC dI cI cZ cO cJ o b v r n (nI k) 3 hinv (ans := r 7 k) (hp_eo3 hn40 hkn)) hH_a10 rfl rfl hl.1 (Nat.le_of_ble_eq_true rfl) dL_isWhole_497 ⟨(by show _ ≤ 40300; omega), (by show _ ≤ 241800; omega)⟩ (fun H_a11 locs_a11 hH_a11 => ?_)
        clear hH_a10
        refine hp_call1 (As := [.int (r 5 k), .int (r 6 k), .int (r 7 k)]) (rest := []) hF hT cw_kindsAt (wl_kindsAt l hl0 dC dI cI cZ cO cJ o b v r n (r 5 k) (r 6 k) (r 7 k) hinv (ans := hp_bits r (r 5 k) (r 6 k) (r 7 k) n) (hp_ka1 g5 g6 g7)) hH_a11 rfl rfl hl.1 (Nat.le_of_ble_eq_true rfl) dL_isWhole_500 ⟨(by show _ ≤ 40300; omega), (by show _ ≤ 241800; omega)⟩ (fun H_a12 locs_a12 hH_a12 => ?_)
        clear hH_a11
        refine lv_aload_n hx hb dL_isWhole_503 rfl (lv_at hl 4 rfl) ?_
        refine lv_iload_n hx hb dL_isWhole_504 rfl (lv_at hl 2 rfl) ?_
        refine lv_iconst (v := 0) hx hb dL_isWhole_505 (by decide) ?_
        refine hp_call1 (As := [.int (nI k), .int 0]) (rest := [.int (hp_bits r (r 5 k) (r 6 k) (r 7 k) n)]) hF hT cw_elementOf (wl_elementOf l hl0 dC dI cI cZ cO cJ o b v r n (nI k) 0 hinv (ans := r 4 k) (hp_eo0 hn40 hkn)) hH_a12 rfl rfl hl.1 (Nat.le_of_ble_eq_true rfl) dL_isWhole_506 ⟨(by show _ ≤ 40300; omega), (by show _ ≤ 241800; omega)⟩ (fun H_a13 locs_a13 hH_a13 => ?_)
        clear hH_a12
        refine lv_ishr hx hb dL_isWhole_509 ?_
        refine lv_iconst (v := 1) hx hb dL_isWhole_510 (by decide) ?_
        refine lv_iand hx hb dL_isWhole_511 ?_
        refine hp_top (hp_bit1 hinv hkn c4) ?_
        refine lv_iconst (v := 1) hx hb dL_isWhole_512 (by decide) ?_
        refine lv_icmp_ne (tgt := 529) hx hb dL_isWhole_513 (by decide) (fun q9 => absurd rfl q9) (fun _ => ?_)
        refine W.widen (k := 39438 + 20 * k + 19) (n := 236628 + 120 * k + 114) (by omega) (by omega) ?_
        exact tail _ _ ls hH_a13 hl
set_option maxHeartbeats 1000000 in
set_option maxRecDepth 100000 in
theorem c_L_isWhole (l : Launch) (hl0 : l.stackTraces = false) (dC : Nat → ClassId) (dI : Nat → Nat → Nat) (cI cZ cO cJ : ClassId) (o : Nat) (b ad : Nat → Nat) (v : Nat → Int32) (r : Nat → Nat → Int32) (n sz : Nat) {K : Nat} (hinv : hp_inv v r n) (hext : hp_ext K v r n) (hK : K ≤ 1000) : Met l yL_isWhole wsL_isWhole ({ frames := 8, cells := 40300, slots := 241800, locals := 182 } : Room) (va_Pc [.ref o, .int (nI n)] (hp_prL (dC, dI) cI cZ cO cJ (hp_X cI cZ cO o b ad v r n) sz)) (va_Qi (S := Nat → Nat) (fun x9 _ => x9 = 1) (fun u9 t9 => va_P (dC, dI) vwCl (hp_X cI cZ cO o b u9 v r n) t9.heap ∧ va_D (va_A (hp_X cI cZ cO o b ad v r n) sz) (hp_X cI cZ cO o b u9 v r n)) (va_A (hp_X cI cZ cO o b ad v r n) sz)) 40300 241800 (va_A (hp_X cI cZ cO o b ad v r n) sz) := by
  refine Met.ofW (cc := cL_isWhole) (maxL := 8) (ret := some .boolean) (by decide) rfl ?_
  intro p e s m args below meth c s₁ B hml hv
  obtain ⟨rfl, ⟨hsz, hP, hK9, hD0, hN, hstr, hZu, hZn⟩, hnc⟩ := hv
  have hx := B.exec
  have hb := B.bytes
  have hr := B.returns
  have hts := atoms_spec (ws := wsL_isWhole) B.pre
  have hown : s.vm.findClass RL = some m.cls := findClass_of_methodNamed B.named
  have hlocks := B.notSynchronized
  subst hsz
  have hD := hD0.self (sz := s.heap.size)
  generalize hAe : va_A (hp_X cI cZ cO o b ad v r n) s.heap.size = A at hD hZu hZn ⊢
  have hA : ∀ q : Nat, s.heap.size ≤ q → A q := fun q h => by rw [← hAe]; exact Or.inr h
  have hS : va_S A s.heap s.heap [] := va_S.rf
  have hT : hp_T (dC, dI) cI cZ cO cJ A s := ⟨hK9, hN, hstr, hZu, hZn, hnc, hA⟩
  have hH : hp_H1 (dC, dI) cI cZ cO A s o b v r n s.heap [] := ⟨⟨ad, hP, hD⟩, hS⟩
  have hn40 : n ≤ 40 := hinv.1
  have hl := lv_entry ([.ref o, .int (nI n)]) (n := 8) (Nat.le_of_ble_eq_true rfl)
  rw [lg_entry_eq]
  generalize (lg_sl ([.ref o, .int (nI n)]) ++ List.replicate (8 - (lg_sl ([.ref o, .int (nI n)])).length) Slot.unset).toArray = ls at hl ⊢
  have hl : lv_has ls 8 [(0, .ref o), (1, .int (nI n))] := hl
  refine lv_iconst (v := 1) hx hb dL_isWhole_0 (by decide) ?_
  refine lv_istore_n (lv' := [(2, .int 1), (0, .ref o), (1, .int (nI n))]) hx hb dL_isWhole_1 rfl hl (by decide) rfl (fun ls hl => ?_)
  refine lv_iconst (v := 0) hx hb dL_isWhole_2 (by decide) ?_
  refine lv_istore_n (lv' := [(3, .int 0), (2, .int 1), (0, .ref o), (1, .int (nI n))]) hx hb dL_isWhole_3 rfl hl (by decide) rfl (fun ls hl => ?_)
  refine wh_kinds l hl0 hx hb hml hown hts hT hinv hext hK (fun H1 locs1 ls hH1 hl => ?_) 3 0 rfl _ _ ls hH (lv_sub (l' := [(3, .int (nI 0)), (2, .int 1), (0, .ref o), (1, .int (nI n))]) hl [0, 1, 2, 3] rfl)
  refine lv_iconst (v := 0) hx hb dL_isWhole_132 (by decide) ?_
  refine lv_istore_n (lv' := [(3, .int 0), (2, .int 1), (0, .ref o), (1, .int (nI n))]) hx hb dL_isWhole_133 rfl hl (by decide) rfl (fun ls hl => ?_)
  refine wh_storeys l hl0 hx hb hml hown hts hT hinv hext hK (fun H2 locs2 ls hH2 hl => ?_) 4 0 rfl _ _ ls hH1 (lv_sub (l' := [(3, .int (nI 0)), (2, .int 1), (0, .ref o), (1, .int (nI n))]) hl [0, 1, 2, 3] rfl)
  refine lv_iconst (v := 0) hx hb dL_isWhole_330 (by decide) ?_
  refine lv_istore_n (lv' := [(3, .int 0), (2, .int 1), (0, .ref o), (1, .int (nI n))]) hx hb dL_isWhole_331 rfl hl (by decide) rfl (fun ls hl => ?_)
  refine wh_each l hl0 hx hb hml hown hts hT hinv hext hK (fun H3 locs3 ls hH3 hl => ?_) n 0 (by omega) _ _ ls hH2 (lv_sub (l' := [(3, .int (nI 0)), (2, .int 1), (0, .ref o), (1, .int (nI n))]) hl [0, 1, 2, 3] rfl)
  refine lv_iload_n hx hb dL_isWhole_537 rfl (lv_at hl 1 rfl) ?_
  obtain ⟨⟨ad9, hP9, hD9⟩, hS9⟩ := hH3
  refine W.widen (k := 40300) (n := 241800) (by omega) (by omega) ?_
  exact W.zret (ty := .boolean) (v := 1) hx hb hr rfl (fun t9 ht9 hW9 => ⟨⟨1, ad9, rfl, rfl, hp_ht ht9 hP9, hD9⟩, hS9.F ht9⟩) hS9.2.2 dL_isWhole_538
