/-! two houses are alike -/
set_option maxHeartbeats 1000000 in
set_option maxRecDepth 100000 in
theorem al_loop {p : Program} {e : Env} {s : State} {m : MethodId} {below : List Frame} {meth : Method} {c : Code} {Q : State → Prop} {A : Nat → Prop} {dC : Nat → ClassId} {dI : Nat → Nat → Nat} {cI cZ cO cJ : ClassId} {o1 o2 : Nat} {b1 b2 : Nat → Nat} {v : Nat → Int32} {r : Nat → Nat → Int32} {n x : Nat} {w : Int32} (l : Launch) (hl0 : l.stackTraces = false) (hx : p.tables.exec = Jvm.exec) (hb : c.code = cL_isAlike) (hml : c.maxLocals = 7) (hown : s.vm.findClass RL = some m.cls) (hts : ∀ w ∈ wsL_isAlike, w.before #[Value.ref o1, Value.ref o2, Value.int (nI n), Value.int (nI x)] s = true) (hT : hp_T (dC, dI) cI cZ cO cJ A s) (hinv : hp_inv v r n) (hxl : x < 2 ^ 31)
    (kk : ∀ (H : Heap) (locs : List Loc) (ls : Array Slot), hp_H2 (dC, dI) cI cZ cO A s o1 b1 v r n o2 b2 v r n H locs → lv_has ls 7 [(6, .int (nI 10)), (5, .int 1), (4, .int w), (0, .ref o1), (1, .ref o2), (2, .int (nI n)), (3, .int (nI x))] → W p l e ({ frames := 8, cells := 64, slots := 400, locals := 182 } : Room) s m #[Value.ref o1, Value.ref o2, Value.int (nI n), Value.int (nI x)] below meth c H locs 52 312 Q (F0 m 232 ls [])) :
    ∀ (f k : Nat), k + f = 10 → ∀ (H_0 : Heap) (locs_0 : List Loc) (ls : Array Slot), hp_H2 (dC, dI) cI cZ cO A s o1 b1 v r n o2 b2 v r n H_0 locs_0 → lv_has ls 7 [(6, .int (nI k)), (5, .int 1), (4, .int w), (0, .ref o1), (1, .ref o2), (2, .int (nI n)), (3, .int (nI x))] → W p l e ({ frames := 8, cells := 64, slots := 400, locals := 182 } : Room) s m #[Value.ref o1, Value.ref o2, Value.int (nI n), Value.int (nI x)] below meth c H_0 locs_0 (12 + 4 * k) (72 + 24 * k) Q (F0 m 153 ls []) := by
  have hF : CallFix p m c cL_isAlike 7 s #[Value.ref o1, Value.ref o2, Value.int (nI n), Value.int (nI x)] wsL_isAlike RL := ⟨hx, hb, hml, hown, hts⟩
  have cw_elementOf := vx_cwSW (R := ({ frames := 8, cells := 64, slots := 400, locals := 182 } : Room)) (rm := ({ frames := 7, cells := 1, slots := 6, locals := 105 } : Room)) (mc := 1) (ms := 6) 3 hts gL_isAlike_L_elementOf rfl rfl rfl (by decide +kernel) ⟨(Nat.le_of_ble_eq_true rfl), (Nat.le_of_ble_eq_true rfl)⟩
  have cw_kindsAt := vx_cwSW (R := ({ frames := 8, cells := 64, slots := 400, locals := 182 } : Room)) (rm := ({ frames := 7, cells := 1, slots := 6, locals := 108 } : Room)) (mc := 1) (ms := 6) 4 hts gL_isAlike_L_kindsAt rfl rfl rfl (by decide +kernel) ⟨(Nat.le_of_ble_eq_true rfl), (Nat.le_of_ble_eq_true rfl)⟩
  intro f
  induction f with
  | zero =>
    intro k hk H_0 locs_0 ls hH_0 hl
    obtain rfl : k = 10 := by omega
    refine lv_iload hx hb dL_isAlike_153 (lv_at hl 0 rfl) ?_
    refine lv_bipush (v := 10) hx hb dL_isAlike_155 (by decide) ?_
    refine lv_icmp_ge (tgt := 232) hx hb dL_isAlike_157 (by decide) (fun _ => ?_) (fun c9 => absurd (Int32.le_refl _) c9)
    exact kk _ _ ls hH_0 hl
  | succ f ih =>
    intro k hk H_0 locs_0 ls hH_0 hl
    refine lv_iload hx hb dL_isAlike_153 (lv_at hl 0 rfl) ?_
    refine lv_bipush (v := 10) hx hb dL_isAlike_155 (by decide) ?_
    refine lv_icmp_ge (tgt := 232) hx hb dL_isAlike_157 (by decide) (fun c9 => absurd c9 (nI_ge (a := k) (b := 10) (by omega) (by decide))) (fun _ => ?_)
    refine lv_iload hx hb dL_isAlike_160 (lv_at hl 1 rfl) ?_
    refine lv_if_eq (tgt := 232) hx hb dL_isAlike_162 (by decide) (fun q => absurd q (by decide)) (fun _ => ?_)
    refine lv_aload_n hx hb dL_isAlike_165 rfl (lv_at hl 3 rfl) ?_
    refine lv_iload hx hb dL_isAlike_166 (lv_at hl 2 rfl) ?_
    refine lv_iload hx hb dL_isAlike_168 (lv_at hl 0 rfl) ?_
    refine hp_call2a (As := [.int w, .int (nI k)]) (rest := []) hF hT cw_elementOf (wl_elementOf l hl0 dC dI cI cZ cO cJ o1 b1 v r n w (nI k) hinv rfl) hH_0 rfl rfl hl.1 (Nat.le_of_ble_eq_true rfl) dL_isAlike_170 ⟨(by show _ ≤ 64; omega), (by show _ ≤ 400; omega)⟩ (fun H_1 locs_1 hH_1 => ?_)
    clear hH_0
    refine lv_aload_n hx hb dL_isAlike_173 rfl (lv_at hl 4 rfl) ?_
    refine lv_iload hx hb dL_isAlike_174 (lv_at hl 2 rfl) ?_
    refine lv_iload hx hb dL_isAlike_176 (lv_at hl 0 rfl) ?_
    refine hp_call2b (As := [.int w, .int (nI k)]) (rest := [.int (hp_w hp_K1 hp_K2 hp_K2 (hp_c_elementOf n w (nI k)) (hp_a_elementOf r n w (nI k)))]) hF hT cw_elementOf (wl_elementOf l hl0 dC dI cI cZ cO cJ o2 b2 v r n w (nI k) hinv rfl) hH_1 rfl rfl hl.1 (Nat.le_of_ble_eq_true rfl) dL_isAlike_178 ⟨(by show _ ≤ 64; omega), (by show _ ≤ 400; omega)⟩ (fun H_2 locs_2 hH_2 => ?_)
    clear hH_1
    refine lv_icmp_ne (tgt := 223) hx hb dL_isAlike_181 (by decide) (fun q => absurd rfl q) (fun _ => ?_)
    refine lv_aload_n hx hb dL_isAlike_184 rfl (lv_at hl 3 rfl) ?_
    refine lv_iload_n hx hb dL_isAlike_185 rfl (lv_at hl 6 rfl) ?_
    refine lv_bipush (v := 12) hx hb dL_isAlike_186 (by decide) ?_
    refine lv_idiv hx hb dL_isAlike_188 (by decide) ?_
    refine hp_top (show nI x / 12 = nI (x / 12) from pk_div (d := 12) (by omega) (by decide) (by decide)) ?_
    refine lv_iconst (v := 2) hx hb dL_isAlike_189 (by decide) ?_
    refine lv_irem hx hb dL_isAlike_190 (by decide) ?_
    refine hp_top (show nI (x / 12) - nI (x / 12) / 2 * 2 = nI ((x / 12) % 2) from pk_rem (d := 2) (by omega) (by decide) (by decide)) ?_
    refine lv_iload_n hx hb dL_isAlike_191 rfl (lv_at hl 6 rfl) ?_
    refine lv_bipush (v := 12) hx hb dL_isAlike_192 (by decide) ?_
    refine lv_irem hx hb dL_isAlike_194 (by decide) ?_
    refine hp_top (show nI x - nI x / 12 * 12 = nI (x % 12) from pk_rem (d := 12) (by omega) (by decide) (by decide)) ?_
    refine lv_iload hx hb dL_isAlike_195 (lv_at hl 0 rfl) ?_
    refine hp_call2a (As := [.int (nI ((x / 12) % 2)), .int (nI (x % 12)), .int (nI k)]) (rest := []) hF hT cw_kindsAt (wl_kindsAt l hl0 dC dI cI cZ cO cJ o1 b1 v r n (nI ((x / 12) % 2)) (nI (x % 12)) (nI k) hinv rfl) hH_2 rfl rfl hl.1 (Nat.le_of_ble_eq_true rfl) dL_isAlike_197 ⟨(by show _ ≤ 64; omega), (by show _ ≤ 400; omega)⟩ (fun H_3 locs_3 hH_3 => ?_)
    clear hH_2
    refine lv_aload_n hx hb dL_isAlike_200 rfl (lv_at hl 4 rfl) ?_
    refine lv_iload_n hx hb dL_isAlike_201 rfl (lv_at hl 6 rfl) ?_
    refine lv_bipush (v := 12) hx hb dL_isAlike_202 (by decide) ?_
    refine lv_idiv hx hb dL_isAlike_204 (by decide) ?_
    refine hp_top (show nI x / 12 = nI (x / 12) from pk_div (d := 12) (by omega) (by decide) (by decide)) ?_
    refine lv_iconst (v := 2) hx hb dL_isAlike_205 (by decide) ?_
    refine lv_irem hx hb dL_isAlike_206 (by decide) ?_
    refine hp_top (show nI (x / 12) - nI (x / 12) / 2 * 2 = nI ((x / 12) % 2) from pk_rem (d := 2) (by omega) (by decide) (by decide)) ?_
    refine lv_iload_n hx hb dL_isAlike_207 rfl (lv_at hl 6 rfl) ?_
    refine lv_bipush (v := 12) hx hb dL_isAlike_208 (by decide) ?_
    refine lv_irem hx hb dL_isAlike_210 (by decide) ?_
    refine hp_top (show nI x - nI x / 12 * 12 = nI (x % 12) from pk_rem (d := 12) (by omega) (by decide) (by decide)) ?_
    refine lv_iload hx hb dL_isAlike_211 (lv_at hl 0 rfl) ?_
    refine hp_call2b (As := [.int (nI ((x / 12) % 2)), .int (nI (x % 12)), .int (nI k)]) (rest := [.int (hp_w hp_K1 hp_K2 hp_K2 (hp_c_kindsAt (nI ((x / 12) % 2)) (nI (x % 12)) (nI k)) (hp_a_kindsAt r n (nI ((x / 12) % 2)) (nI (x % 12)) (nI k)))]) hF hT cw_kindsAt (wl_kindsAt l hl0 dC dI cI cZ cO cJ o2 b2 v r n (nI ((x / 12) % 2)) (nI (x % 12)) (nI k) hinv rfl) hH_3 rfl rfl hl.1 (Nat.le_of_ble_eq_true rfl) dL_isAlike_213 ⟨(by show _ ≤ 64; omega), (by show _ ≤ 400; omega)⟩ (fun H_4 locs_4 hH_4 => ?_)
    clear hH_3
    refine lv_icmp_ne (tgt := 223) hx hb dL_isAlike_216 (by decide) (fun q => absurd rfl q) (fun _ => ?_)
    refine lv_iconst (v := 1) hx hb dL_isAlike_219 (by decide) ?_
    refine lv_goto (tgt := 224) hx hb dL_isAlike_220 (by decide) ?_
    refine lv_istore (lv' := [(5, .int 1), (6, .int (nI k)), (4, .int w), (0, .ref o1), (1, .ref o2), (2, .int (nI n)), (3, .int (nI x))]) hx hb dL_isAlike_224 hl (by decide) rfl (fun ls hl => ?_)
    refine lv_iinc (v := nI (k + 1)) (lv' := [(6, .int (nI (k + 1))), (5, .int 1), (4, .int w), (0, .ref o1), (1, .ref o2), (2, .int (nI n)), (3, .int (nI x))]) hx hb dL_isAlike_226 hl (k := 1) rfl (nI_add k 1) (by decide) rfl (fun ls hl => ?_)
    refine lv_goto (tgt := 153) hx hb dL_isAlike_229 (by decide) ?_
    exact ih (k + 1) (by omega) _ _ ls hH_4 (lv_sub hl [0, 1, 2, 3, 4, 5, 6] rfl)
set_option maxHeartbeats 1000000 in
set_option maxRecDepth 100000 in
theorem c_L_isAlike (l : Launch) (hl0 : l.stackTraces = false) (dC : Nat → ClassId) (dI : Nat → Nat → Nat) (cI cZ cO cJ : ClassId) (o1 o2 : Nat) (b1 b2 ad1 ad2 : Nat → Nat) (v : Nat → Int32) (r : Nat → Nat → Int32) (n x sz : Nat) (hinv : hp_inv v r n) (hxl : x < 2 ^ 31) : Met l yL_isAlike wsL_isAlike ({ frames := 8, cells := 64, slots := 400, locals := 182 } : Room) (va_Pc [.ref o1, .ref o2, .int (nI n), .int (nI x)] (hp_prL (dC, dI) cI cZ cO cJ (hp_X cI cZ cO o1 b1 ad1 v r n ++ hp_X cI cZ cO o2 b2 ad2 v r n) sz)) (va_Qi (S := (Nat → Nat) × (Nat → Nat)) (fun x9 _ => x9 = 1) (fun u9 t9 => va_P (dC, dI) vwCl (hp_X cI cZ cO o1 b1 u9.1 v r n ++ hp_X cI cZ cO o2 b2 u9.2 v r n) t9.heap ∧ va_D (va_A (hp_X cI cZ cO o1 b1 ad1 v r n ++ hp_X cI cZ cO o2 b2 ad2 v r n) sz) (hp_X cI cZ cO o1 b1 u9.1 v r n ++ hp_X cI cZ cO o2 b2 u9.2 v r n)) (va_A (hp_X cI cZ cO o1 b1 ad1 v r n ++ hp_X cI cZ cO o2 b2 ad2 v r n) sz)) 64 400 (va_A (hp_X cI cZ cO o1 b1 ad1 v r n ++ hp_X cI cZ cO o2 b2 ad2 v r n) sz) := by
  refine Met.ofW (cc := cL_isAlike) (maxL := 7) (ret := some .boolean) (by decide) rfl ?_
  intro p e s m args below meth c s₁ B hml hv
  obtain ⟨rfl, ⟨hsz, hP, hK, hD0, hN, hstr, hZu, hZn⟩, hnc⟩ := hv
  have hx := B.exec
  have hb := B.bytes
  have hr := B.returns
  have hts := atoms_spec (ws := wsL_isAlike) B.pre
  have hown : s.vm.findClass RL = some m.cls := findClass_of_methodNamed B.named
  have hlocks := B.notSynchronized
  subst hsz
  have hD := hD0.self (sz := s.heap.size)
  generalize hAe : va_A (hp_X cI cZ cO o1 b1 ad1 v r n ++ hp_X cI cZ cO o2 b2 ad2 v r n) s.heap.size = A at hD hZu hZn ⊢
  have hA : ∀ q : Nat, s.heap.size ≤ q → A q := fun q h => by rw [← hAe]; exact Or.inr h
  have hS : va_S A s.heap s.heap [] := va_S.rf
  have hT : hp_T (dC, dI) cI cZ cO cJ A s := ⟨hK, hN, hstr, hZu, hZn, hnc, hA⟩
  have hP1 := hp_appL hP
  have hP2 := hp_appR hP
  obtain ⟨hD1, hD2, hsep⟩ := hp_appD hD
  have hH_0 : hp_H2 (dC, dI) cI cZ cO A s o1 b1 v r n o2 b2 v r n s.heap [] := ⟨⟨ad1, ad2, hP1, hD1, hP2, hD2, hsep⟩, hS⟩
  have hn40 : n ≤ 40 := hinv.1
  have hl := lv_entry ([.ref o1, .ref o2, .int (nI n), .int (nI x)]) (n := 7) (Nat.le_of_ble_eq_true rfl)
  rw [lg_entry_eq]
  generalize (lg_sl ([.ref o1, .ref o2, .int (nI n), .int (nI x)]) ++ List.replicate (7 - (lg_sl ([.ref o1, .ref o2, .int (nI n), .int (nI x)])).length) Slot.unset).toArray = ls at hl ⊢
  have hl : lv_has ls 7 [(0, .ref o1), (1, .ref o2), (2, .int (nI n)), (3, .int (nI x))] := hl
  have hF : CallFix p m c cL_isAlike 7 s #[Value.ref o1, Value.ref o2, Value.int (nI n), Value.int (nI x)] wsL_isAlike RL := ⟨hx, hb, hml, hown, hts⟩
  have cw_clash := vx_cwSW (R := ({ frames := 8, cells := 64, slots := 400, locals := 182 } : Room)) (rm := ({ frames := 7, cells := 1, slots := 6, locals := 115 } : Room)) (mc := 1) (ms := 6) 3 hts gL_isAlike_L_clash rfl rfl rfl (by decide +kernel) ⟨(Nat.le_of_ble_eq_true rfl), (Nat.le_of_ble_eq_true rfl)⟩
  have cw_clashes := vx_cwSW (R := ({ frames := 8, cells := 64, slots := 400, locals := 182 } : Room)) (rm := ({ frames := 7, cells := 1, slots := 6, locals := 139 } : Room)) (mc := 1) (ms := 6) 2 hts gL_isAlike_L_clashes rfl rfl rfl (by decide +kernel) ⟨(Nat.le_of_ble_eq_true rfl), (Nat.le_of_ble_eq_true rfl)⟩
  have cw_isLocked := vx_cwSW (R := ({ frames := 8, cells := 64, slots := 400, locals := 182 } : Room)) (rm := ({ frames := 7, cells := 1, slots := 6, locals := 103 } : Room)) (mc := 1) (ms := 6) 2 hts gL_isAlike_L_isLocked rfl rfl rfl (by decide +kernel) ⟨(Nat.le_of_ble_eq_true rfl), (Nat.le_of_ble_eq_true rfl)⟩
  have cw_isStopped := vx_cwSW (R := ({ frames := 8, cells := 64, slots := 400, locals := 182 } : Room)) (rm := ({ frames := 7, cells := 1, slots := 6, locals := 139 } : Room)) (mc := 1) (ms := 6) 3 hts gL_isAlike_L_isStopped rfl rfl rfl (by decide +kernel) ⟨(Nat.le_of_ble_eq_true rfl), (Nat.le_of_ble_eq_true rfl)⟩
  have cw_ordered := vx_cwSW (R := ({ frames := 8, cells := 64, slots := 400, locals := 182 } : Room)) (rm := ({ frames := 7, cells := 1, slots := 6, locals := 111 } : Room)) (mc := 1) (ms := 6) 2 hts gL_isAlike_L_ordered rfl rfl rfl (by decide +kernel) ⟨(Nat.le_of_ble_eq_true rfl), (Nat.le_of_ble_eq_true rfl)⟩
  have cw_parts := vx_cwSW (R := ({ frames := 8, cells := 64, slots := 400, locals := 182 } : Room)) (rm := ({ frames := 7, cells := 1, slots := 6, locals := 111 } : Room)) (mc := 1) (ms := 6) 2 hts gL_isAlike_L_parts rfl rfl rfl (by decide +kernel) ⟨(Nat.le_of_ble_eq_true rfl), (Nat.le_of_ble_eq_true rfl)⟩
  refine lv_iload_n hx hb dL_isAlike_0 rfl (lv_at hl 2 rfl) ?_
  refine hp_joinB 11 7 (fun _ : Int32 => True) (fun w => [(0, .ref o1), (1, .ref o2), (2, .int (nI n)), (3, .int (nI x))]) (fun w => [.int w]) (fun jn => ?_) ?_
  · refine lv_if_ne (tgt := 8) hx hb dL_isAlike_1 (by decide) (fun c9 => ?_) (fun c9 => ?_)
    · have hn0 : 0 < n := Nat.pos_of_ne_zero (fun q => c9 (by rw [q]; rfl))
      refine lv_iload_n hx hb dL_isAlike_8 rfl (lv_at hl 3 rfl) ?_
      refine lv_iload_n hx hb dL_isAlike_9 rfl (lv_at hl 2 rfl) ?_
      refine lv_irem hx hb dL_isAlike_10 (nI_ne0 hn0 (by omega)) ?_
      refine hp_top (show nI x - nI x / nI n * nI n = nI (x % n) from pk_rem (d := n) (by omega) hn0 (by omega)) ?_
      exact jn _ trivial _ hl
    · skip
      refine lv_iconst (v := 0) hx hb dL_isAlike_4 (by decide) ?_
      refine lv_goto (tgt := 11) hx hb dL_isAlike_5 (by decide) ?_
      exact jn _ trivial _ hl
  intro w _ ls hl
  refine lv_istore (lv' := [(4, .int w), (0, .ref o1), (1, .ref o2), (2, .int (nI n)), (3, .int (nI x))]) hx hb dL_isAlike_11 hl (by decide) rfl (fun ls hl => ?_)
  refine lv_aload_n hx hb dL_isAlike_13 rfl (lv_at hl 1 rfl) ?_
  refine vp_callSi (W.runV (As := []) (rest := []) ⟨hx, hb, hml, hown, hts⟩ (c_X1_day l dC dI cI cZ cO cJ o1 b1 ad1 v r n) (cwV 0 hts gL_isAlike_X1_day rfl rfl rfl (by decide +kernel) ⟨(Nat.le_of_ble_eq_true rfl), (Nat.le_of_ble_eq_true rfl)⟩) ⟨hp_fbX, va_recv hK hP1 (ci := 1) (q0 := 0) rfl hp_X_o, fun U hU hW => ⟨rfl, hp_toX hP1 hK hN hU hW⟩⟩ rfl rfl hl.1 rfl (lv_room (Nat.le_of_ble_eq_true rfl)) dL_isAlike_14 ⟨(Nat.zero_le _), (Nat.zero_le _)⟩) (fun r_1 hr_1 => ?_)
  subst hr_1
  refine lv_aload_n hx hb dL_isAlike_17 rfl (lv_at hl 2 rfl) ?_
  refine vp_callSi (W.runV (As := []) (rest := [.int (v 1)]) ⟨hx, hb, hml, hown, hts⟩ (c_X1_day l dC dI cI cZ cO cJ o2 b2 ad2 v r n) (cwV 0 hts gL_isAlike_X1_day rfl rfl rfl (by decide +kernel) ⟨(Nat.le_of_ble_eq_true rfl), (Nat.le_of_ble_eq_true rfl)⟩) ⟨hp_fbX, va_recv hK hP2 (ci := 1) (q0 := 0) rfl hp_X_o, fun U hU hW => ⟨rfl, hp_toX hP2 hK hN hU hW⟩⟩ rfl rfl hl.1 rfl (lv_room (Nat.le_of_ble_eq_true rfl)) dL_isAlike_18 ⟨(Nat.zero_le _), (Nat.zero_le _)⟩) (fun r_1 hr_1 => ?_)
  subst hr_1
  refine lv_icmp_ne (tgt := 147) hx hb dL_isAlike_21 (by decide) (fun q => absurd rfl q) (fun _ => ?_)
  refine lv_aload_n hx hb dL_isAlike_24 rfl (lv_at hl 1 rfl) ?_
  refine vp_callSi (W.runV (As := []) (rest := []) ⟨hx, hb, hml, hown, hts⟩ (c_X1_revision l dC dI cI cZ cO cJ o1 b1 ad1 v r n) (cwV 0 hts gL_isAlike_X1_revision rfl rfl rfl (by decide +kernel) ⟨(Nat.le_of_ble_eq_true rfl), (Nat.le_of_ble_eq_true rfl)⟩) ⟨hp_fbX, va_recv hK hP1 (ci := 1) (q0 := 0) rfl hp_X_o, fun U hU hW => ⟨rfl, hp_toX hP1 hK hN hU hW⟩⟩ rfl rfl hl.1 rfl (lv_room (Nat.le_of_ble_eq_true rfl)) dL_isAlike_25 ⟨(Nat.zero_le _), (Nat.zero_le _)⟩) (fun r_1 hr_1 => ?_)
  subst hr_1
  refine lv_aload_n hx hb dL_isAlike_28 rfl (lv_at hl 2 rfl) ?_
  refine vp_callSi (W.runV (As := []) (rest := [.int (v 2)]) ⟨hx, hb, hml, hown, hts⟩ (c_X1_revision l dC dI cI cZ cO cJ o2 b2 ad2 v r n) (cwV 0 hts gL_isAlike_X1_revision rfl rfl rfl (by decide +kernel) ⟨(Nat.le_of_ble_eq_true rfl), (Nat.le_of_ble_eq_true rfl)⟩) ⟨hp_fbX, va_recv hK hP2 (ci := 1) (q0 := 0) rfl hp_X_o, fun U hU hW => ⟨rfl, hp_toX hP2 hK hN hU hW⟩⟩ rfl rfl hl.1 rfl (lv_room (Nat.le_of_ble_eq_true rfl)) dL_isAlike_29 ⟨(Nat.zero_le _), (Nat.zero_le _)⟩) (fun r_1 hr_1 => ?_)
  subst hr_1
  refine lv_icmp_ne (tgt := 147) hx hb dL_isAlike_32 (by decide) (fun q => absurd rfl q) (fun _ => ?_)
  refine lv_aload_n hx hb dL_isAlike_35 rfl (lv_at hl 1 rfl) ?_
  refine lv_iload hx hb dL_isAlike_36 (lv_at hl 0 rfl) ?_
  refine lv_iconst (v := 0) hx hb dL_isAlike_38 (by decide) ?_
  refine hp_call2a (As := [.int w, .int 0]) (rest := []) hF hT cw_clash (wl_clash l hl0 dC dI cI cZ cO cJ o1 b1 v r n w 0 hinv rfl) hH_0 rfl rfl hl.1 (Nat.le_of_ble_eq_true rfl) dL_isAlike_39 ⟨(Nat.le_of_ble_eq_true rfl), (Nat.le_of_ble_eq_true rfl)⟩ (fun H_1 locs_1 hH_1 => ?_)
  clear hH_0
  refine lv_aload_n hx hb dL_isAlike_42 rfl (lv_at hl 2 rfl) ?_
  refine lv_iload hx hb dL_isAlike_43 (lv_at hl 0 rfl) ?_
  refine lv_iconst (v := 0) hx hb dL_isAlike_45 (by decide) ?_
  refine hp_call2b (As := [.int w, .int 0]) (rest := [.int (hp_w hp_K1 hp_K1 hp_K1 (hp_c_clash n w 0) (hp_b (hp_b_clash r n w 0)))]) hF hT cw_clash (wl_clash l hl0 dC dI cI cZ cO cJ o2 b2 v r n w 0 hinv rfl) hH_1 rfl rfl hl.1 (Nat.le_of_ble_eq_true rfl) dL_isAlike_46 ⟨(Nat.le_of_ble_eq_true rfl), (Nat.le_of_ble_eq_true rfl)⟩ (fun H_2 locs_2 hH_2 => ?_)
  clear hH_1
  refine lv_icmp_ne (tgt := 147) hx hb dL_isAlike_49 (by decide) (fun q => absurd rfl q) (fun _ => ?_)
  refine lv_aload_n hx hb dL_isAlike_52 rfl (lv_at hl 1 rfl) ?_
  refine lv_iload_n hx hb dL_isAlike_53 rfl (lv_at hl 4 rfl) ?_
  refine lv_iconst (v := 4) hx hb dL_isAlike_54 (by decide) ?_
  refine lv_irem hx hb dL_isAlike_55 (by decide) ?_
  refine hp_top (show nI x - nI x / 4 * 4 = nI (x % 4) from pk_rem (d := 4) (by omega) (by decide) (by decide)) ?_
  refine hp_call2a (As := [.int (nI (x % 4))]) (rest := []) hF hT cw_clashes (wl_clashes l hl0 dC dI cI cZ cO cJ o1 b1 v r n (nI (x % 4)) hinv rfl) hH_2 rfl rfl hl.1 (Nat.le_of_ble_eq_true rfl) dL_isAlike_56 ⟨(Nat.le_of_ble_eq_true rfl), (Nat.le_of_ble_eq_true rfl)⟩ (fun H_3 locs_3 hH_3 => ?_)
  clear hH_2
  refine lv_aload_n hx hb dL_isAlike_59 rfl (lv_at hl 2 rfl) ?_
  refine lv_iload_n hx hb dL_isAlike_60 rfl (lv_at hl 4 rfl) ?_
  refine lv_iconst (v := 4) hx hb dL_isAlike_61 (by decide) ?_
  refine lv_irem hx hb dL_isAlike_62 (by decide) ?_
  refine hp_top (show nI x - nI x / 4 * 4 = nI (x % 4) from pk_rem (d := 4) (by omega) (by decide) (by decide)) ?_
  refine hp_call2b (As := [.int (nI (x % 4))]) (rest := [.int (hp_w hp_K1 hp_K1 hp_K1 (hp_c_st (nI (x % 4))) (hp_a_clashes r n (nI (x % 4))))]) hF hT cw_clashes (wl_clashes l hl0 dC dI cI cZ cO cJ o2 b2 v r n (nI (x % 4)) hinv rfl) hH_3 rfl rfl hl.1 (Nat.le_of_ble_eq_true rfl) dL_isAlike_63 ⟨(Nat.le_of_ble_eq_true rfl), (Nat.le_of_ble_eq_true rfl)⟩ (fun H_4 locs_4 hH_4 => ?_)
  clear hH_3
  refine lv_icmp_ne (tgt := 147) hx hb dL_isAlike_66 (by decide) (fun q => absurd rfl q) (fun _ => ?_)
  refine lv_aload_n hx hb dL_isAlike_69 rfl (lv_at hl 1 rfl) ?_
  refine lv_iload_n hx hb dL_isAlike_70 rfl (lv_at hl 4 rfl) ?_
  refine lv_iconst (v := 3) hx hb dL_isAlike_71 (by decide) ?_
  refine lv_irem hx hb dL_isAlike_72 (by decide) ?_
  refine hp_top (show nI x - nI x / 3 * 3 = nI (x % 3) from pk_rem (d := 3) (by omega) (by decide) (by decide)) ?_
  refine lv_iload_n hx hb dL_isAlike_73 rfl (lv_at hl 4 rfl) ?_
  refine lv_iconst (v := 2) hx hb dL_isAlike_74 (by decide) ?_
  refine lv_irem hx hb dL_isAlike_75 (by decide) ?_
  refine hp_top (show nI x - nI x / 2 * 2 = nI (x % 2) from pk_rem (d := 2) (by omega) (by decide) (by decide)) ?_
  refine hp_call2a (As := [.int (nI (x % 3)), .int (nI (x % 2))]) (rest := []) hF hT cw_isStopped (wl_isStopped l hl0 dC dI cI cZ cO cJ o1 b1 v r n (nI (x % 3)) (nI (x % 2)) hinv rfl) hH_4 rfl rfl hl.1 (Nat.le_of_ble_eq_true rfl) dL_isAlike_76 ⟨(Nat.le_of_ble_eq_true rfl), (Nat.le_of_ble_eq_true rfl)⟩ (fun H_5 locs_5 hH_5 => ?_)
  clear hH_4
  refine lv_aload_n hx hb dL_isAlike_79 rfl (lv_at hl 2 rfl) ?_
  refine lv_iload_n hx hb dL_isAlike_80 rfl (lv_at hl 4 rfl) ?_
  refine lv_iconst (v := 3) hx hb dL_isAlike_81 (by decide) ?_
  refine lv_irem hx hb dL_isAlike_82 (by decide) ?_
  refine hp_top (show nI x - nI x / 3 * 3 = nI (x % 3) from pk_rem (d := 3) (by omega) (by decide) (by decide)) ?_
  refine lv_iload_n hx hb dL_isAlike_83 rfl (lv_at hl 4 rfl) ?_
  refine lv_iconst (v := 2) hx hb dL_isAlike_84 (by decide) ?_
  refine lv_irem hx hb dL_isAlike_85 (by decide) ?_
  refine hp_top (show nI x - nI x / 2 * 2 = nI (x % 2) from pk_rem (d := 2) (by omega) (by decide) (by decide)) ?_
  refine hp_call2b (As := [.int (nI (x % 3)), .int (nI (x % 2))]) (rest := [.int (hp_w hp_K1 hp_K1 hp_K1 (hp_c_stopped (nI (x % 3)) (nI (x % 2))) (hp_b (hp_b_stopped r n (nI (x % 3)) (nI (x % 2)))))]) hF hT cw_isStopped (wl_isStopped l hl0 dC dI cI cZ cO cJ o2 b2 v r n (nI (x % 3)) (nI (x % 2)) hinv rfl) hH_5 rfl rfl hl.1 (Nat.le_of_ble_eq_true rfl) dL_isAlike_86 ⟨(Nat.le_of_ble_eq_true rfl), (Nat.le_of_ble_eq_true rfl)⟩ (fun H_6 locs_6 hH_6 => ?_)
  clear hH_5
  refine lv_icmp_ne (tgt := 147) hx hb dL_isAlike_89 (by decide) (fun q => absurd rfl q) (fun _ => ?_)
  refine lv_aload_n hx hb dL_isAlike_92 rfl (lv_at hl 1 rfl) ?_
  refine lv_iload_n hx hb dL_isAlike_93 rfl (lv_at hl 4 rfl) ?_
  refine lv_iconst (v := 3) hx hb dL_isAlike_94 (by decide) ?_
  refine lv_irem hx hb dL_isAlike_95 (by decide) ?_
  refine hp_top (show nI x - nI x / 3 * 3 = nI (x % 3) from pk_rem (d := 3) (by omega) (by decide) (by decide)) ?_
  refine hp_call2a (As := [.int (nI (x % 3))]) (rest := []) hF hT cw_parts (wl_parts l hl0 dC dI cI cZ cO cJ o1 b1 v r n (nI (x % 3)) hinv rfl) hH_6 rfl rfl hl.1 (Nat.le_of_ble_eq_true rfl) dL_isAlike_96 ⟨(Nat.le_of_ble_eq_true rfl), (Nat.le_of_ble_eq_true rfl)⟩ (fun H_7 locs_7 hH_7 => ?_)
  clear hH_6
  refine lv_aload_n hx hb dL_isAlike_99 rfl (lv_at hl 2 rfl) ?_
  refine lv_iload_n hx hb dL_isAlike_100 rfl (lv_at hl 4 rfl) ?_
  refine lv_iconst (v := 3) hx hb dL_isAlike_101 (by decide) ?_
  refine lv_irem hx hb dL_isAlike_102 (by decide) ?_
  refine hp_top (show nI x - nI x / 3 * 3 = nI (x % 3) from pk_rem (d := 3) (by omega) (by decide) (by decide)) ?_
  refine hp_call2b (As := [.int (nI (x % 3))]) (rest := [.int (hp_w hp_K1 hp_K1 hp_K1 (hp_c_kd (nI (x % 3))) (hp_a_parts r n (nI (x % 3)) 0))]) hF hT cw_parts (wl_parts l hl0 dC dI cI cZ cO cJ o2 b2 v r n (nI (x % 3)) hinv rfl) hH_7 rfl rfl hl.1 (Nat.le_of_ble_eq_true rfl) dL_isAlike_103 ⟨(Nat.le_of_ble_eq_true rfl), (Nat.le_of_ble_eq_true rfl)⟩ (fun H_8 locs_8 hH_8 => ?_)
  clear hH_7
  refine lv_icmp_ne (tgt := 147) hx hb dL_isAlike_106 (by decide) (fun q => absurd rfl q) (fun _ => ?_)
  refine lv_aload_n hx hb dL_isAlike_109 rfl (lv_at hl 1 rfl) ?_
  refine lv_iload_n hx hb dL_isAlike_110 rfl (lv_at hl 4 rfl) ?_
  refine lv_iconst (v := 3) hx hb dL_isAlike_111 (by decide) ?_
  refine lv_irem hx hb dL_isAlike_112 (by decide) ?_
  refine hp_top (show nI x - nI x / 3 * 3 = nI (x % 3) from pk_rem (d := 3) (by omega) (by decide) (by decide)) ?_
  refine hp_call2a (As := [.int (nI (x % 3))]) (rest := []) hF hT cw_ordered (wl_ordered l hl0 dC dI cI cZ cO cJ o1 b1 v r n (nI (x % 3)) hinv rfl) hH_8 rfl rfl hl.1 (Nat.le_of_ble_eq_true rfl) dL_isAlike_113 ⟨(Nat.le_of_ble_eq_true rfl), (Nat.le_of_ble_eq_true rfl)⟩ (fun H_9 locs_9 hH_9 => ?_)
  clear hH_8
  refine lv_aload_n hx hb dL_isAlike_116 rfl (lv_at hl 2 rfl) ?_
  refine lv_iload_n hx hb dL_isAlike_117 rfl (lv_at hl 4 rfl) ?_
  refine lv_iconst (v := 3) hx hb dL_isAlike_118 (by decide) ?_
  refine lv_irem hx hb dL_isAlike_119 (by decide) ?_
  refine hp_top (show nI x - nI x / 3 * 3 = nI (x % 3) from pk_rem (d := 3) (by omega) (by decide) (by decide)) ?_
  refine hp_call2b (As := [.int (nI (x % 3))]) (rest := [.int (hp_w hp_K1 hp_K1 hp_K1 (hp_c_kd (nI (x % 3))) (hp_a_parts r n (nI (x % 3)) 1))]) hF hT cw_ordered (wl_ordered l hl0 dC dI cI cZ cO cJ o2 b2 v r n (nI (x % 3)) hinv rfl) hH_9 rfl rfl hl.1 (Nat.le_of_ble_eq_true rfl) dL_isAlike_120 ⟨(Nat.le_of_ble_eq_true rfl), (Nat.le_of_ble_eq_true rfl)⟩ (fun H_10 locs_10 hH_10 => ?_)
  clear hH_9
  refine lv_icmp_ne (tgt := 147) hx hb dL_isAlike_123 (by decide) (fun q => absurd rfl q) (fun _ => ?_)
  refine lv_aload_n hx hb dL_isAlike_126 rfl (lv_at hl 1 rfl) ?_
  refine lv_iload_n hx hb dL_isAlike_127 rfl (lv_at hl 4 rfl) ?_
  refine lv_iconst (v := 4) hx hb dL_isAlike_128 (by decide) ?_
  refine lv_irem hx hb dL_isAlike_129 (by decide) ?_
  refine hp_top (show nI x - nI x / 4 * 4 = nI (x % 4) from pk_rem (d := 4) (by omega) (by decide) (by decide)) ?_
  refine hp_call2a (As := [.int (nI (x % 4))]) (rest := []) hF hT cw_isLocked (wl_isLocked l hl0 dC dI cI cZ cO cJ o1 b1 v r n (nI (x % 4)) hinv rfl) hH_10 rfl rfl hl.1 (Nat.le_of_ble_eq_true rfl) dL_isAlike_130 ⟨(Nat.le_of_ble_eq_true rfl), (Nat.le_of_ble_eq_true rfl)⟩ (fun H_11 locs_11 hH_11 => ?_)
  clear hH_10
  refine lv_aload_n hx hb dL_isAlike_133 rfl (lv_at hl 2 rfl) ?_
  refine lv_iload_n hx hb dL_isAlike_134 rfl (lv_at hl 4 rfl) ?_
  refine lv_iconst (v := 4) hx hb dL_isAlike_135 (by decide) ?_
  refine lv_irem hx hb dL_isAlike_136 (by decide) ?_
  refine hp_top (show nI x - nI x / 4 * 4 = nI (x % 4) from pk_rem (d := 4) (by omega) (by decide) (by decide)) ?_
  refine hp_call2b (As := [.int (nI (x % 4))]) (rest := [.int (hp_w hp_K1 hp_K1 hp_K1 (hp_c_st (nI (x % 4))) (hp_b (hp_b_isLocked r (nI (x % 4)))))]) hF hT cw_isLocked (wl_isLocked l hl0 dC dI cI cZ cO cJ o2 b2 v r n (nI (x % 4)) hinv rfl) hH_11 rfl rfl hl.1 (Nat.le_of_ble_eq_true rfl) dL_isAlike_137 ⟨(Nat.le_of_ble_eq_true rfl), (Nat.le_of_ble_eq_true rfl)⟩ (fun H_12 locs_12 hH_12 => ?_)
  clear hH_11
  refine lv_icmp_ne (tgt := 147) hx hb dL_isAlike_140 (by decide) (fun q => absurd rfl q) (fun _ => ?_)
  refine lv_iconst (v := 1) hx hb dL_isAlike_143 (by decide) ?_
  refine lv_goto (tgt := 148) hx hb dL_isAlike_144 (by decide) ?_
  refine lv_istore (lv' := [(5, .int 1), (4, .int w), (0, .ref o1), (1, .ref o2), (2, .int (nI n)), (3, .int (nI x))]) hx hb dL_isAlike_148 hl (by decide) rfl (fun ls hl => ?_)
  refine lv_iconst (v := 0) hx hb dL_isAlike_150 (by decide) ?_
  refine lv_istore (lv' := [(6, .int 0), (5, .int 1), (4, .int w), (0, .ref o1), (1, .ref o2), (2, .int (nI n)), (3, .int (nI x))]) hx hb dL_isAlike_151 hl (by decide) rfl (fun ls hl => ?_)
  refine al_loop l hl0 hx hb hml hown hts hT hinv hxl (fun H9 locs9 ls hH9 hl => ?_) 10 0 rfl _ _ ls hH_12 (lv_sub (l' := [(6, .int (nI 0)), (5, .int 1), (4, .int w), (0, .ref o1), (1, .ref o2), (2, .int (nI n)), (3, .int (nI x))]) hl [0, 1, 2, 3, 4, 5, 6] rfl)
  refine lv_iload hx hb dL_isAlike_232 (lv_at hl 1 rfl) ?_
  obtain ⟨⟨ad8, ad9, hP8, hD8, hP9, hD9, hsep9⟩, hS9⟩ := hH9
  refine W.widen (k := 64) (n := 400) (Nat.le_of_ble_eq_true rfl) (Nat.le_of_ble_eq_true rfl) ?_
  exact W.zret (ty := .boolean) (v := 1) hx hb hr rfl (fun t9 ht9 hW9 => ⟨⟨1, (ad8, ad9), rfl, rfl, hp_ht ht9 (hP8.app hP9), va_D.app hD8 hD9 hsep9⟩, hS9.F ht9⟩) hS9.2.2 dL_isAlike_234
