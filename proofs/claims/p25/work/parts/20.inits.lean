/-! the constructors -/
def hp_v0 : Nat → Int32 := fun _ => 0
def hp_r0 : Nat → Nat → Int32 := fun k => if k = 15 then fun _ => 3 else if k = 16 then fun _ => 5 else fun _ => 0
theorem hp_cls {U : State} {c c' : ClassId} {ty : FieldType} (h : va_RA U c ty) (h' : va_RA U c' ty) : c = c' := by
  cases ty with
  | object C =>
    obtain ⟨_, _, _, _, _, h4⟩ := h
    obtain ⟨_, _, _, _, _, h4'⟩ := h'
    exact Option.some.inj (h4.symm.trans h4')
  | _ => exact Option.some.inj (Eq.trans (Eq.symm h) h')
theorem hp_Pc {D : va_G} {cl : List vw_C} {q : Nat × va_E} {ws : va_W} {H : Heap} : va_P D cl (q :: ws) H ↔ va_at D cl q H ∧ va_P D cl ws H := by
  refine ⟨fun h => ⟨h 0 q rfl, fun k x hx => h (k + 1) x hx⟩, fun h k x hx => ?_⟩
  cases k with
  | zero => cases hx; exact h.1
  | succ k => exact h.2 k x hx
theorem hp_vc {c : ClassId} {n : Nat} {f g : Nat → Int32} (h : ∀ j, j < n → f j = g j) : vp_cell c (n, .inl f) = vp_cell c (n, .inl g) := by
  rw [vp_cell_i, vp_cell_i]
  unfold arrV
  congr 2
  funext j
  exact congrArg Value.int (h j.val j.isLt)
theorem hp_vq {c : ClassId} {n : Nat} {f g : Nat → Option Nat} (h : ∀ j, j < n → f j = g j) : vp_cell c (n, .inr (.inr (.inr (.inr f)))) = vp_cell c (n, .inr (.inr (.inr (.inr g)))) := by
  rw [vp_cell_q, vp_cell_q]
  unfold arrV
  congr 2
  funext j
  exact congrArg va_rf (h j.val j.isLt)
theorem hp_ai {D : va_G} {cl : List vw_C} {q n : Nat} {c : ClassId} {f g : Nat → Int32} {H : Heap} (h : va_at D cl (q, .inl (c, n, .inl f)) H) (e : ∀ j, j < n → f j = g j) : va_at D cl (q, .inl (c, n, .inl g)) H := by
  show H[q]? = some (vp_cell c (n, .inl g))
  rw [← hp_vc e]
  exact h
theorem hp_aq {D : va_G} {cl : List vw_C} {q n : Nat} {c : ClassId} {f g : Nat → Option Nat} {H : Heap} (h : va_at D cl (q, .inl (c, n, .inr (.inr (.inr (.inr f))))) H) (e : ∀ j, j < n → f j = g j) : va_at D cl (q, .inl (c, n, .inr (.inr (.inr (.inr g))))) H := by
  show H[q]? = some (vp_cell c (n, _))
  rw [← hp_vq e]
  exact h
theorem hp_u3 {x : Int32} {j : Nat} (h : j < 3) : upd (upd (upd (fun _ => 0) 0 x) 1 x) 2 x j = x := by
  rcases (show j = 0 ∨ j = 1 ∨ j = 2 by omega) with rfl | rfl | rfl <;> rfl
theorem hp_X_ini {D : va_G} {H : Heap} {cI cZ cO : ClassId} {h0 q0 q1 q2 q3 q4 : Nat} {ad : Nat → Nat} (h : va_P D vwCl [(h0, .inr (1, [.ref q0, .int 0, .ref q1, .ref q2, .ref q3, .ref q4, .int 0, .int 0])), (q0, .inl (cO, 40, .inr (.inr (.inr (.inr (fun _ => none)))))), (q1, .inl (cI, 9, .inl (fun _ => 0))), (q2, .inl (cI, 3, .inl (upd (upd (upd (fun _ => 0) 0 3) 1 3) 2 3))), (q3, .inl (cI, 3, .inl (upd (upd (upd (fun _ => 0) 0 5) 1 5) 2 5))), (q4, .inl (cZ, 4, .inl (fun _ => 0)))] H) :
    va_P D vwCl (hp_X cI cZ cO h0 (fun k => if k = 0 then q0 else if k = 2 then q1 else if k = 3 then q2 else if k = 4 then q3 else q4) ad hp_v0 hp_r0 0) H := by
  simp only [hp_Pc] at h
  obtain ⟨h1, h2, h3, h4, h5, h6, -⟩ := h
  show va_P D vwCl (_ :: _ :: _ :: _ :: _ :: _ :: []) H
  simp only [hp_Pc]
  exact ⟨h1, hp_aq h2 (fun j _ => (if_neg (by omega)).symm), hp_ai h3 (fun j _ => rfl), hp_ai h4 (fun j hj => hp_u3 hj), hp_ai h5 (fun j hj => hp_u3 hj), hp_ai h6 (fun j _ => rfl), fun k q hq => by simp at hq⟩
set_option maxHeartbeats 400000 in
set_option maxRecDepth 100000 in
theorem c_X0_init (l : Launch) (dC : Nat → ClassId) (dI : Nat → Nat → Nat) (cI cZ cO cJ : ClassId) (h0 sz : Nat) (p1 p2 p3 p4 p5 p6 p7 : Int32) : Met l yX0_init wsX0_init ({ frames := 1, cells := 0, slots := 0, locals := 12 }) (va_Pc [.ref h0, .int p1, .int p2, .int p3, .int p4, .int p5, .int p6, .int p7] (hp_prm (dC, dI) cI cZ cO cJ [(h0, .inr (0, [.int 0, .int 0, .int 0, .int 0, .int 0, .int 0, .int 0, .int 0, .int 0, .int 0]))] sz)) (va_Qv (S := Unit) (fun _ => True) (fun u9 t9 => va_P (dC, dI) vwCl [(h0, .inr (0, [.int p1, .int p2, .int p3, .int p4, .int p5, .int p6, .int 0, .int p7, .int p1, .int 0]))] t9.heap) (va_A [(h0, .inr (0, [.int 0, .int 0, .int 0, .int 0, .int 0, .int 0, .int 0, .int 0, .int 0, .int 0]))] sz)) 0 0 (va_A [(h0, .inr (0, [.int 0, .int 0, .int 0, .int 0, .int 0, .int 0, .int 0, .int 0, .int 0, .int 0]))] sz) := by
  refine Met.ofW (cc := cX0_init) (maxL := 8) (ret := none) (by decide) rfl ?_
  intro p e s m args below meth c s₁ B hml hv
  obtain ⟨rfl, hsz, hP, hK, hD0⟩ := hv
  have hx := B.exec
  have hb := B.bytes
  have hr := B.returns
  have hts := atoms_spec (ws := wsX0_init) B.pre
  have hown : s.vm.findClass RX0 = some m.cls := findClass_of_methodNamed B.named
  have hlocks := B.notSynchronized
  have hin9 : meth.name = "<init>" := (name_of_methodNamed B.named B.method).1
  subst hsz
  have hD := hD0.self (sz := s.heap.size)
  generalize hAe : va_A [(h0, .inr (0, [.int 0, .int 0, .int 0, .int 0, .int 0, .int 0, .int 0, .int 0, .int 0, .int 0]))] s.heap.size = A at hD ⊢
  have hA : ∀ q : Nat, s.heap.size ≤ q → A q := fun q h => by rw [← hAe]; exact Or.inr h
  have hS : va_S A s.heap s.heap [] := va_S.rf
  have hP : va_P (dC, dI) vwCl [(h0, .inr (0, [.int 0, .int 0, .int 0, .int 0, .int 0, .int 0, .int 0, .int 0, .int 0, .int 0]))] s.heap := hP
  have hf_9 := hts (.fieldLink RX0 9 "Wallplan$Element" "state" "I") (by decide +kernel)
  have hf_15 := hts (.fieldLink RX0 15 "Wallplan$Element" "deliveryDay" "I") (by decide +kernel)
  have hf_18 := hts (.fieldLink RX0 18 "Wallplan$Element" "kind" "I") (by decide +kernel)
  have hf_21 := hts (.fieldLink RX0 21 "Wallplan$Element" "storey" "I") (by decide +kernel)
  have hf_24 := hts (.fieldLink RX0 24 "Wallplan$Element" "fromX" "I") (by decide +kernel)
  have hf_27 := hts (.fieldLink RX0 27 "Wallplan$Element" "fromY" "I") (by decide +kernel)
  have hf_30 := hts (.fieldLink RX0 30 "Wallplan$Element" "toX" "I") (by decide +kernel)
  have hf_33 := hts (.fieldLink RX0 33 "Wallplan$Element" "toY" "I") (by decide +kernel)
  have hf_36 := hts (.fieldLink RX0 36 "Wallplan$Element" "changeRevision" "I") (by decide +kernel)
  have hf_39 := hts (.fieldLink RX0 39 "Wallplan$Element" "changeTrade" "I") (by decide +kernel)
  have hin : ∀ w ∈ wsX00, w ∈ wsX0_init := by decide +kernel
  have hl := lv_entry ([.ref h0, .int p1, .int p2, .int p3, .int p4, .int p5, .int p6, .int p7]) (n := 8) (Nat.le_of_ble_eq_true rfl)
  rw [lg_entry_eq]
  generalize (lg_sl ([.ref h0, .int p1, .int p2, .int p3, .int p4, .int p5, .int p6, .int p7]) ++ List.replicate (8 - (lg_sl ([.ref h0, .int p1, .int p2, .int p3, .int p4, .int p5, .int p6, .int p7])).length) Slot.unset).toArray = ls at hl ⊢
  have hl : lv_has ls 8 [(0, .ref h0), (1, .int p1), (2, .int p2), (3, .int p3), (4, .int p4), (5, .int p5), (6, .int p6), (7, .int p7)] := hl
  refine lv_aload_n hx hb dX0_init_0 rfl (lv_at hl 0 rfl) ?_
  refine W.objInit hx hb hown (hts (.methodLink RX0 3 objectInit) (by decide +kernel)) (hts (.instanceMethod objectInit) (by decide +kernel)) (hts (.code objectInit ⟨#[0xb1]⟩ 1 none) (by decide +kernel)) rfl (by rw [hml]; exact hl.1) rfl dX0_init_1 (Nat.le_of_ble_eq_true rfl) (Nat.le_of_ble_eq_true rfl) ?_
  refine W.eq (g2 := F0 m 4 ls []) rfl ?_
  refine lv_aload_n hx hb dX0_init_4 rfl (lv_at hl 0 rfl) ?_
  refine lv_iconst (v := 0) hx hb dX0_init_5 (by decide) ?_
  refine va_put (D := (dC, dI)) (ci := 0) (v := .int 0) (ty := .int) (C := RX0) (T := TX0) (N := 10) hx hb hts hin tyX0 tyX0_ok nmX0 hown hK hP hD hS 0 rfl rfl 6 (by decide) hf_9 (fun _ h9 => h9) rfl (by decide +kernel) rfl rfl (Nat.le_of_ble_eq_true rfl) dX0_init_6 (fun H_5 locs_5 hP1 hD1 hS1 => ?_)
  replace hP : va_P (dC, dI) vwCl [(h0, .inr (0, [.int 0, .int 0, .int 0, .int 0, .int 0, .int 0, .int 0, .int 0, .int 0, .int 0]))] H_5 := hP1
  replace hD : va_D A [(h0, .inr (0, [.int 0, .int 0, .int 0, .int 0, .int 0, .int 0, .int 0, .int 0, .int 0, .int 0]))] := hD1
  replace hS := hS1
  clear hP1 hD1 hS1
  refine lv_aload_n hx hb dX0_init_9 rfl (lv_at hl 0 rfl) ?_
  refine lv_iconst (v := 0) hx hb dX0_init_10 (by decide) ?_
  refine va_put (D := (dC, dI)) (ci := 0) (v := .int 0) (ty := .int) (C := RX0) (T := TX0) (N := 10) hx hb hts hin tyX0 tyX0_ok nmX0 hown hK hP hD hS 0 rfl rfl 9 (by decide) hf_15 (fun _ h9 => h9) rfl (by decide +kernel) rfl rfl (Nat.le_of_ble_eq_true rfl) dX0_init_11 (fun H_8 locs_8 hP1 hD1 hS1 => ?_)
  replace hP : va_P (dC, dI) vwCl [(h0, .inr (0, [.int 0, .int 0, .int 0, .int 0, .int 0, .int 0, .int 0, .int 0, .int 0, .int 0]))] H_8 := hP1
  replace hD : va_D A [(h0, .inr (0, [.int 0, .int 0, .int 0, .int 0, .int 0, .int 0, .int 0, .int 0, .int 0, .int 0]))] := hD1
  replace hS := hS1
  clear hP1 hD1 hS1
  refine lv_aload_n hx hb dX0_init_14 rfl (lv_at hl 0 rfl) ?_
  refine lv_iload_n hx hb dX0_init_15 rfl (lv_at hl 1 rfl) ?_
  refine va_putF (D := (dC, dI)) (ci := 0) (v := .int p1) (ty := .int) (C := RX0) (T := TX0) (N := 10) hx hb hts hin tyX0 tyX0_ok nmX0 hown hK hP hD hS 0 rfl rfl 0 (by decide) hf_18 (fun _ h9 => h9) rfl hin9 rfl (by decide +kernel) rfl rfl (Nat.le_of_ble_eq_true rfl) dX0_init_16 (fun H_11 locs_11 hP1 hD1 hS1 => ?_)
  replace hP : va_P (dC, dI) vwCl [(h0, .inr (0, [.int p1, .int 0, .int 0, .int 0, .int 0, .int 0, .int 0, .int 0, .int 0, .int 0]))] H_11 := hP1
  replace hD : va_D A [(h0, .inr (0, [.int p1, .int 0, .int 0, .int 0, .int 0, .int 0, .int 0, .int 0, .int 0, .int 0]))] := hD1
  replace hS := hS1
  clear hP1 hD1 hS1
  refine lv_aload_n hx hb dX0_init_19 rfl (lv_at hl 0 rfl) ?_
  refine lv_iload_n hx hb dX0_init_20 rfl (lv_at hl 2 rfl) ?_
  refine va_putF (D := (dC, dI)) (ci := 0) (v := .int p2) (ty := .int) (C := RX0) (T := TX0) (N := 10) hx hb hts hin tyX0 tyX0_ok nmX0 hown hK hP hD hS 0 rfl rfl 1 (by decide) hf_21 (fun _ h9 => h9) rfl hin9 rfl (by decide +kernel) rfl rfl (Nat.le_of_ble_eq_true rfl) dX0_init_21 (fun H_14 locs_14 hP1 hD1 hS1 => ?_)
  replace hP : va_P (dC, dI) vwCl [(h0, .inr (0, [.int p1, .int p2, .int 0, .int 0, .int 0, .int 0, .int 0, .int 0, .int 0, .int 0]))] H_14 := hP1
  replace hD : va_D A [(h0, .inr (0, [.int p1, .int p2, .int 0, .int 0, .int 0, .int 0, .int 0, .int 0, .int 0, .int 0]))] := hD1
  replace hS := hS1
  clear hP1 hD1 hS1
  refine lv_aload_n hx hb dX0_init_24 rfl (lv_at hl 0 rfl) ?_
  refine lv_iload_n hx hb dX0_init_25 rfl (lv_at hl 3 rfl) ?_
  refine va_put (D := (dC, dI)) (ci := 0) (v := .int p3) (ty := .int) (C := RX0) (T := TX0) (N := 10) hx hb hts hin tyX0 tyX0_ok nmX0 hown hK hP hD hS 0 rfl rfl 2 (by decide) hf_24 (fun _ h9 => h9) rfl (by decide +kernel) rfl rfl (Nat.le_of_ble_eq_true rfl) dX0_init_26 (fun H_17 locs_17 hP1 hD1 hS1 => ?_)
  replace hP : va_P (dC, dI) vwCl [(h0, .inr (0, [.int p1, .int p2, .int p3, .int 0, .int 0, .int 0, .int 0, .int 0, .int 0, .int 0]))] H_17 := hP1
  replace hD : va_D A [(h0, .inr (0, [.int p1, .int p2, .int p3, .int 0, .int 0, .int 0, .int 0, .int 0, .int 0, .int 0]))] := hD1
  replace hS := hS1
  clear hP1 hD1 hS1
  refine lv_aload_n hx hb dX0_init_29 rfl (lv_at hl 0 rfl) ?_
  refine lv_iload hx hb dX0_init_30 (lv_at hl 4 rfl) ?_
  refine va_put (D := (dC, dI)) (ci := 0) (v := .int p4) (ty := .int) (C := RX0) (T := TX0) (N := 10) hx hb hts hin tyX0 tyX0_ok nmX0 hown hK hP hD hS 0 rfl rfl 3 (by decide) hf_27 (fun _ h9 => h9) rfl (by decide +kernel) rfl rfl (Nat.le_of_ble_eq_true rfl) dX0_init_32 (fun H_20 locs_20 hP1 hD1 hS1 => ?_)
  replace hP : va_P (dC, dI) vwCl [(h0, .inr (0, [.int p1, .int p2, .int p3, .int p4, .int 0, .int 0, .int 0, .int 0, .int 0, .int 0]))] H_20 := hP1
  replace hD : va_D A [(h0, .inr (0, [.int p1, .int p2, .int p3, .int p4, .int 0, .int 0, .int 0, .int 0, .int 0, .int 0]))] := hD1
  replace hS := hS1
  clear hP1 hD1 hS1
  refine lv_aload_n hx hb dX0_init_35 rfl (lv_at hl 0 rfl) ?_
  refine lv_iload hx hb dX0_init_36 (lv_at hl 5 rfl) ?_
  refine va_put (D := (dC, dI)) (ci := 0) (v := .int p5) (ty := .int) (C := RX0) (T := TX0) (N := 10) hx hb hts hin tyX0 tyX0_ok nmX0 hown hK hP hD hS 0 rfl rfl 4 (by decide) hf_30 (fun _ h9 => h9) rfl (by decide +kernel) rfl rfl (Nat.le_of_ble_eq_true rfl) dX0_init_38 (fun H_23 locs_23 hP1 hD1 hS1 => ?_)
  replace hP : va_P (dC, dI) vwCl [(h0, .inr (0, [.int p1, .int p2, .int p3, .int p4, .int p5, .int 0, .int 0, .int 0, .int 0, .int 0]))] H_23 := hP1
  replace hD : va_D A [(h0, .inr (0, [.int p1, .int p2, .int p3, .int p4, .int p5, .int 0, .int 0, .int 0, .int 0, .int 0]))] := hD1
  replace hS := hS1
  clear hP1 hD1 hS1
  refine lv_aload_n hx hb dX0_init_41 rfl (lv_at hl 0 rfl) ?_
  refine lv_iload hx hb dX0_init_42 (lv_at hl 6 rfl) ?_
  refine va_put (D := (dC, dI)) (ci := 0) (v := .int p6) (ty := .int) (C := RX0) (T := TX0) (N := 10) hx hb hts hin tyX0 tyX0_ok nmX0 hown hK hP hD hS 0 rfl rfl 5 (by decide) hf_33 (fun _ h9 => h9) rfl (by decide +kernel) rfl rfl (Nat.le_of_ble_eq_true rfl) dX0_init_44 (fun H_26 locs_26 hP1 hD1 hS1 => ?_)
  replace hP : va_P (dC, dI) vwCl [(h0, .inr (0, [.int p1, .int p2, .int p3, .int p4, .int p5, .int p6, .int 0, .int 0, .int 0, .int 0]))] H_26 := hP1
  replace hD : va_D A [(h0, .inr (0, [.int p1, .int p2, .int p3, .int p4, .int p5, .int p6, .int 0, .int 0, .int 0, .int 0]))] := hD1
  replace hS := hS1
  clear hP1 hD1 hS1
  refine lv_aload_n hx hb dX0_init_47 rfl (lv_at hl 0 rfl) ?_
  refine lv_iload hx hb dX0_init_48 (lv_at hl 7 rfl) ?_
  refine va_put (D := (dC, dI)) (ci := 0) (v := .int p7) (ty := .int) (C := RX0) (T := TX0) (N := 10) hx hb hts hin tyX0 tyX0_ok nmX0 hown hK hP hD hS 0 rfl rfl 7 (by decide) hf_36 (fun _ h9 => h9) rfl (by decide +kernel) rfl rfl (Nat.le_of_ble_eq_true rfl) dX0_init_50 (fun H_29 locs_29 hP1 hD1 hS1 => ?_)
  replace hP : va_P (dC, dI) vwCl [(h0, .inr (0, [.int p1, .int p2, .int p3, .int p4, .int p5, .int p6, .int 0, .int p7, .int 0, .int 0]))] H_29 := hP1
  replace hD : va_D A [(h0, .inr (0, [.int p1, .int p2, .int p3, .int p4, .int p5, .int p6, .int 0, .int p7, .int 0, .int 0]))] := hD1
  replace hS := hS1
  clear hP1 hD1 hS1
  refine lv_aload_n hx hb dX0_init_53 rfl (lv_at hl 0 rfl) ?_
  refine lv_iload_n hx hb dX0_init_54 rfl (lv_at hl 1 rfl) ?_
  refine va_put (D := (dC, dI)) (ci := 0) (v := .int p1) (ty := .int) (C := RX0) (T := TX0) (N := 10) hx hb hts hin tyX0 tyX0_ok nmX0 hown hK hP hD hS 0 rfl rfl 8 (by decide) hf_39 (fun _ h9 => h9) rfl (by decide +kernel) rfl rfl (Nat.le_of_ble_eq_true rfl) dX0_init_55 (fun H_32 locs_32 hP1 hD1 hS1 => ?_)
  replace hP : va_P (dC, dI) vwCl [(h0, .inr (0, [.int p1, .int p2, .int p3, .int p4, .int p5, .int p6, .int 0, .int p7, .int p1, .int 0]))] H_32 := hP1
  replace hD : va_D A [(h0, .inr (0, [.int p1, .int p2, .int p3, .int p4, .int p5, .int p6, .int 0, .int p7, .int p1, .int 0]))] := hD1
  replace hS := hS1
  clear hP1 hD1 hS1
  exact W.vret hx hb hr (fun t ht hW => ⟨⟨(), rfl, trivial, hp_ht ht hP⟩, hS.F ht⟩) hS.2.2 dX0_init_58
set_option maxHeartbeats 400000 in
set_option maxRecDepth 100000 in
theorem c_X1_init (l : Launch) (dC : Nat → ClassId) (dI : Nat → Nat → Nat) (cI cZ cO cJ : ClassId) (h0 sz : Nat) : Met l yX1_init wsX1_init ({ frames := 1, cells := 5, slots := 59, locals := 12 }) (va_Pc [.ref h0] (fun U => U.heap.size = sz ∧ va_P (dC, dI) vwCl [(h0, .inr (1, [.null, .int 0, .null, .null, .null, .null, .int 0, .int 0]))] U.heap ∧ va_K (dC, dI) vwCl (hp_ty cI cZ cO cJ) U ∧ va_D (fun _ => True) [(h0, .inr (1, [.null, .int 0, .null, .null, .null, .null, .int 0, .int 0]))] ∧ va_AO RX0 U)) (va_Qv (S := Nat → Nat) (fun _ => True) (fun u9 t9 => va_P (dC, dI) vwCl (hp_X cI cZ cO h0 u9 (fun _ => 0) hp_v0 hp_r0 0) t9.heap ∧ va_D (va_A [(h0, .inr (1, [.null, .int 0, .null, .null, .null, .null, .int 0, .int 0]))] sz) (hp_X cI cZ cO h0 u9 (fun _ => 0) hp_v0 hp_r0 0)) (va_A [(h0, .inr (1, [.null, .int 0, .null, .null, .null, .null, .int 0, .int 0]))] sz)) 5 59 (va_A [(h0, .inr (1, [.null, .int 0, .null, .null, .null, .null, .int 0, .int 0]))] sz) := by
  refine Met.ofW (cc := cX1_init) (maxL := 1) (ret := none) (by decide) rfl ?_
  intro p e s m args below meth c s₁ B hml hv
  obtain ⟨rfl, hsz, hP, hK, hD0, hAO⟩ := hv
  have hx := B.exec
  have hb := B.bytes
  have hr := B.returns
  have hts := atoms_spec (ws := wsX1_init) B.pre
  have hown : s.vm.findClass RX1 = some m.cls := findClass_of_methodNamed B.named
  have hlocks := B.notSynchronized
  have hin9 : meth.name = "<init>" := (name_of_methodNamed B.named B.method).1
  subst hsz
  have hD := hD0.self (sz := s.heap.size)
  generalize hAe : va_A [(h0, .inr (1, [.null, .int 0, .null, .null, .null, .null, .int 0, .int 0]))] s.heap.size = A at hD ⊢
  have hA : ∀ q : Nat, s.heap.size ≤ q → A q := fun q h => by rw [← hAe]; exact Or.inr h
  have hS : va_S A s.heap s.heap [] := va_S.rf
  have hP : va_P (dC, dI) vwCl [(h0, .inr (1, [.null, .int 0, .null, .null, .null, .null, .int 0, .int 0]))] s.heap := hP
  have hf_11 := hts (.fieldLink RX1 11 "Wallplan" "elements" "[LWallplan$Element;") (by decide +kernel)
  have hf_15 := hts (.fieldLink RX1 15 "Wallplan" "count" "I") (by decide +kernel)
  have hf_19 := hts (.fieldLink RX1 19 "Wallplan" "clearances" "[I") (by decide +kernel)
  have hf_23 := hts (.fieldLink RX1 23 "Wallplan" "partCells" "[I") (by decide +kernel)
  have hf_26 := hts (.fieldLink RX1 26 "Wallplan" "leadDays" "[I") (by decide +kernel)
  have hf_29 := hts (.fieldLink RX1 29 "Wallplan" "locked" "[Z") (by decide +kernel)
  have hf_33 := hts (.fieldLink RX1 33 "Wallplan" "latestRevision" "I") (by decide +kernel)
  have hf_36 := hts (.fieldLink RX1 36 "Wallplan" "today" "I") (by decide +kernel)
  have hin : ∀ w ∈ wsX10, w ∈ wsX1_init := by decide +kernel
  have hl := lv_entry ([.ref h0]) (n := 1) (Nat.le_of_ble_eq_true rfl)
  rw [lg_entry_eq]
  generalize (lg_sl ([.ref h0]) ++ List.replicate (1 - (lg_sl ([.ref h0])).length) Slot.unset).toArray = ls at hl ⊢
  have hl : lv_has ls 1 [(0, .ref h0)] := hl
  refine lv_aload_n hx hb dX1_init_0 rfl (lv_at hl 0 rfl) ?_
  refine W.objInit hx hb hown (hts (.methodLink RX1 1 objectInit) (by decide +kernel)) (hts (.instanceMethod objectInit) (by decide +kernel)) (hts (.code objectInit ⟨#[0xb1]⟩ 1 none) (by decide +kernel)) rfl (by rw [hml]; exact hl.1) rfl dX1_init_1 (Nat.le_of_ble_eq_true rfl) (Nat.le_of_ble_eq_true rfl) ?_
  refine W.eq (g2 := F0 m 4 ls []) rfl ?_
  refine lv_aload_n hx hb dX1_init_4 rfl (lv_at hl 0 rfl) ?_
  refine lv_bipush (v := 40) hx hb dX1_init_5 (by decide) ?_
  refine va_newq (C := RX0) hx hb hown (hts (.classLink RX1 9 RX0) (by decide +kernel)) hAO hK hP hD hS hA (N' := 40) (by decide) (by decide) (Nat.le_of_ble_eq_true rfl) (Nat.le_of_ble_eq_true rfl) (Nat.le_of_ble_eq_true rfl) dX1_init_7 (fun q_5 c_5 H_5 hK1 hP1 hD1 hS1 => ?_)
  have ec : cO = c_5 := hp_cls (hK.2 2 _ rfl).2 (hK1.2 4 _ rfl).2
  subst ec
  clear hK1
  replace hP : va_P (dC, dI) vwCl [(h0, .inr (1, [.null, .int 0, .null, .null, .null, .null, .int 0, .int 0])), (q_5, .inl (cO, 40, .inr (.inr (.inr (.inr (fun _ => none))))))] H_5 := hP1
  replace hD : va_D A [(h0, .inr (1, [.null, .int 0, .null, .null, .null, .null, .int 0, .int 0])), (q_5, .inl (cO, 40, .inr (.inr (.inr (.inr (fun _ => none))))))] := hD1
  replace hS := hS1
  clear hP1 hD1 hS1
  refine va_putF (D := (dC, dI)) (ci := 1) (v := .ref q_5) (ty := .array (.object "Wallplan$Element")) (C := RX1) (T := TX1) (N := 8) hx hb hts hin tyX1 tyX1_ok nmX1 hown hK hP hD hS 0 rfl rfl 0 (by decide) hf_11 (fun _ h9 => h9) rfl hin9 rfl (by decide +kernel) rfl rfl (Nat.le_of_ble_eq_true rfl) dX1_init_10 (fun H_6 locs_6 hP1 hD1 hS1 => ?_)
  replace hP : va_P (dC, dI) vwCl [(h0, .inr (1, [.ref q_5, .int 0, .null, .null, .null, .null, .int 0, .int 0])), (q_5, .inl (cO, 40, .inr (.inr (.inr (.inr (fun _ => none))))))] H_6 := hP1
  replace hD : va_D A [(h0, .inr (1, [.ref q_5, .int 0, .null, .null, .null, .null, .int 0, .int 0])), (q_5, .inl (cO, 40, .inr (.inr (.inr (.inr (fun _ => none))))))] := hD1
  replace hS := hS1
  clear hP1 hD1 hS1
  refine lv_aload_n hx hb dX1_init_13 rfl (lv_at hl 0 rfl) ?_
  refine lv_iconst (v := 0) hx hb dX1_init_14 (by decide) ?_
  refine va_put (D := (dC, dI)) (ci := 1) (v := .int 0) (ty := .int) (C := RX1) (T := TX1) (N := 8) hx hb hts hin tyX1 tyX1_ok nmX1 hown hK hP hD hS 0 rfl rfl 1 (by decide) hf_15 (fun _ h9 => h9) rfl (by decide +kernel) rfl rfl (Nat.le_of_ble_eq_true rfl) dX1_init_15 (fun H_9 locs_9 hP1 hD1 hS1 => ?_)
  replace hP : va_P (dC, dI) vwCl [(h0, .inr (1, [.ref q_5, .int 0, .null, .null, .null, .null, .int 0, .int 0])), (q_5, .inl (cO, 40, .inr (.inr (.inr (.inr (fun _ => none))))))] H_9 := hP1
  replace hD : va_D A [(h0, .inr (1, [.ref q_5, .int 0, .null, .null, .null, .null, .int 0, .int 0])), (q_5, .inl (cO, 40, .inr (.inr (.inr (.inr (fun _ => none))))))] := hD1
  replace hS := hS1
  clear hP1 hD1 hS1
  refine lv_aload_n hx hb dX1_init_18 rfl (lv_at hl 0 rfl) ?_
  refine lv_bipush (v := 9) hx hb dX1_init_19 (by decide) ?_
  refine va_newa (a0 := (9, .inl (fun _ => 0))) (ty := .int) (atype := .int) hx hb (hts (.arrayClass .int) (by decide +kernel)) rfl hK hP hD hS hA (fun _ => rfl) (by decide) (N' := 9) (by decide) (Nat.le_of_ble_eq_true rfl) (Nat.le_of_ble_eq_true rfl) (Nat.le_of_ble_eq_true rfl) dX1_init_21 (fun q_12 c_12 H_12 hK1 hP1 hD1 hS1 => ?_)
  have ec : cI = c_12 := hp_cls (hK.2 0 _ rfl).2 (hK1.2 4 _ rfl).2
  subst ec
  clear hK1
  replace hP : va_P (dC, dI) vwCl [(h0, .inr (1, [.ref q_5, .int 0, .null, .null, .null, .null, .int 0, .int 0])), (q_5, .inl (cO, 40, .inr (.inr (.inr (.inr (fun _ => none)))))), (q_12, .inl (cI, 9, .inl (fun _ => 0)))] H_12 := hP1
  replace hD : va_D A [(h0, .inr (1, [.ref q_5, .int 0, .null, .null, .null, .null, .int 0, .int 0])), (q_5, .inl (cO, 40, .inr (.inr (.inr (.inr (fun _ => none)))))), (q_12, .inl (cI, 9, .inl (fun _ => 0)))] := hD1
  replace hS := hS1
  clear hP1 hD1 hS1
  refine va_putF (D := (dC, dI)) (ci := 1) (v := .ref q_12) (ty := .array .int) (C := RX1) (T := TX1) (N := 8) hx hb hts hin tyX1 tyX1_ok nmX1 hown hK hP hD hS 0 rfl rfl 2 (by decide) hf_19 (fun _ h9 => h9) rfl hin9 rfl (by decide +kernel) rfl rfl (Nat.le_of_ble_eq_true rfl) dX1_init_23 (fun H_13 locs_13 hP1 hD1 hS1 => ?_)
  replace hP : va_P (dC, dI) vwCl [(h0, .inr (1, [.ref q_5, .int 0, .ref q_12, .null, .null, .null, .int 0, .int 0])), (q_5, .inl (cO, 40, .inr (.inr (.inr (.inr (fun _ => none)))))), (q_12, .inl (cI, 9, .inl (fun _ => 0)))] H_13 := hP1
  replace hD : va_D A [(h0, .inr (1, [.ref q_5, .int 0, .ref q_12, .null, .null, .null, .int 0, .int 0])), (q_5, .inl (cO, 40, .inr (.inr (.inr (.inr (fun _ => none)))))), (q_12, .inl (cI, 9, .inl (fun _ => 0)))] := hD1
  replace hS := hS1
  clear hP1 hD1 hS1
  refine lv_aload_n hx hb dX1_init_26 rfl (lv_at hl 0 rfl) ?_
  refine lv_iconst (v := 3) hx hb dX1_init_27 (by decide) ?_
  refine va_newa (a0 := (3, .inl (fun _ => 0))) (ty := .int) (atype := .int) hx hb (hts (.arrayClass .int) (by decide +kernel)) rfl hK hP hD hS hA (fun _ => rfl) (by decide) (N' := 3) (by decide) (Nat.le_of_ble_eq_true rfl) (Nat.le_of_ble_eq_true rfl) (Nat.le_of_ble_eq_true rfl) dX1_init_28 (fun q_16 c_16 H_16 hK1 hP1 hD1 hS1 => ?_)
  have ec : cI = c_16 := hp_cls (hK.2 0 _ rfl).2 (hK1.2 4 _ rfl).2
  subst ec
  clear hK1
  replace hP : va_P (dC, dI) vwCl [(h0, .inr (1, [.ref q_5, .int 0, .ref q_12, .null, .null, .null, .int 0, .int 0])), (q_5, .inl (cO, 40, .inr (.inr (.inr (.inr (fun _ => none)))))), (q_12, .inl (cI, 9, .inl (fun _ => 0))), (q_16, .inl (cI, 3, .inl (fun _ => 0)))] H_16 := hP1
  replace hD : va_D A [(h0, .inr (1, [.ref q_5, .int 0, .ref q_12, .null, .null, .null, .int 0, .int 0])), (q_5, .inl (cO, 40, .inr (.inr (.inr (.inr (fun _ => none)))))), (q_12, .inl (cI, 9, .inl (fun _ => 0))), (q_16, .inl (cI, 3, .inl (fun _ => 0)))] := hD1
  replace hS := hS1
  clear hP1 hD1 hS1
  refine lv_dup hx hb dX1_init_30 rfl ?_
  refine lv_iconst (v := 0) hx hb dX1_init_31 (by decide) ?_
  refine lv_iconst (v := 3) hx hb dX1_init_32 (by decide) ?_
  refine va_iast hx hb hK hP hD hS 3 0 rfl rfl (i := 0) (x := 3) (by unfold vp_in; decide) dX1_init_33 (fun H_20 locs_20 hP1 hD1 hS1 => ?_)
  replace hP : va_P (dC, dI) vwCl [(h0, .inr (1, [.ref q_5, .int 0, .ref q_12, .null, .null, .null, .int 0, .int 0])), (q_5, .inl (cO, 40, .inr (.inr (.inr (.inr (fun _ => none)))))), (q_12, .inl (cI, 9, .inl (fun _ => 0))), (q_16, .inl (cI, 3, .inl (upd (fun _ => 0) 0 3)))] H_20 := hP1
  replace hD : va_D A [(h0, .inr (1, [.ref q_5, .int 0, .ref q_12, .null, .null, .null, .int 0, .int 0])), (q_5, .inl (cO, 40, .inr (.inr (.inr (.inr (fun _ => none)))))), (q_12, .inl (cI, 9, .inl (fun _ => 0))), (q_16, .inl (cI, 3, .inl (upd (fun _ => 0) 0 3)))] := hD1
  replace hS := hS1
  clear hP1 hD1 hS1
  refine lv_dup hx hb dX1_init_34 rfl ?_
  refine lv_iconst (v := 1) hx hb dX1_init_35 (by decide) ?_
  refine lv_iconst (v := 3) hx hb dX1_init_36 (by decide) ?_
  refine va_iast hx hb hK hP hD hS 3 0 rfl rfl (i := 1) (x := 3) (by unfold vp_in; decide) dX1_init_37 (fun H_24 locs_24 hP1 hD1 hS1 => ?_)
  replace hP : va_P (dC, dI) vwCl [(h0, .inr (1, [.ref q_5, .int 0, .ref q_12, .null, .null, .null, .int 0, .int 0])), (q_5, .inl (cO, 40, .inr (.inr (.inr (.inr (fun _ => none)))))), (q_12, .inl (cI, 9, .inl (fun _ => 0))), (q_16, .inl (cI, 3, .inl (upd (upd (fun _ => 0) 0 3) 1 3)))] H_24 := hP1
  replace hD : va_D A [(h0, .inr (1, [.ref q_5, .int 0, .ref q_12, .null, .null, .null, .int 0, .int 0])), (q_5, .inl (cO, 40, .inr (.inr (.inr (.inr (fun _ => none)))))), (q_12, .inl (cI, 9, .inl (fun _ => 0))), (q_16, .inl (cI, 3, .inl (upd (upd (fun _ => 0) 0 3) 1 3)))] := hD1
  replace hS := hS1
  clear hP1 hD1 hS1
  refine lv_dup hx hb dX1_init_38 rfl ?_
  refine lv_iconst (v := 2) hx hb dX1_init_39 (by decide) ?_
  refine lv_iconst (v := 3) hx hb dX1_init_40 (by decide) ?_
  refine va_iast hx hb hK hP hD hS 3 0 rfl rfl (i := 2) (x := 3) (by unfold vp_in; decide) dX1_init_41 (fun H_28 locs_28 hP1 hD1 hS1 => ?_)
  replace hP : va_P (dC, dI) vwCl [(h0, .inr (1, [.ref q_5, .int 0, .ref q_12, .null, .null, .null, .int 0, .int 0])), (q_5, .inl (cO, 40, .inr (.inr (.inr (.inr (fun _ => none)))))), (q_12, .inl (cI, 9, .inl (fun _ => 0))), (q_16, .inl (cI, 3, .inl (upd (upd (upd (fun _ => 0) 0 3) 1 3) 2 3)))] H_28 := hP1
  replace hD : va_D A [(h0, .inr (1, [.ref q_5, .int 0, .ref q_12, .null, .null, .null, .int 0, .int 0])), (q_5, .inl (cO, 40, .inr (.inr (.inr (.inr (fun _ => none)))))), (q_12, .inl (cI, 9, .inl (fun _ => 0))), (q_16, .inl (cI, 3, .inl (upd (upd (upd (fun _ => 0) 0 3) 1 3) 2 3)))] := hD1
  replace hS := hS1
  clear hP1 hD1 hS1
  refine va_putF (D := (dC, dI)) (ci := 1) (v := .ref q_16) (ty := .array .int) (C := RX1) (T := TX1) (N := 8) hx hb hts hin tyX1 tyX1_ok nmX1 hown hK hP hD hS 0 rfl rfl 3 (by decide) hf_23 (fun _ h9 => h9) rfl hin9 rfl (by decide +kernel) rfl rfl (Nat.le_of_ble_eq_true rfl) dX1_init_42 (fun H_29 locs_29 hP1 hD1 hS1 => ?_)
  replace hP : va_P (dC, dI) vwCl [(h0, .inr (1, [.ref q_5, .int 0, .ref q_12, .ref q_16, .null, .null, .int 0, .int 0])), (q_5, .inl (cO, 40, .inr (.inr (.inr (.inr (fun _ => none)))))), (q_12, .inl (cI, 9, .inl (fun _ => 0))), (q_16, .inl (cI, 3, .inl (upd (upd (upd (fun _ => 0) 0 3) 1 3) 2 3)))] H_29 := hP1
  replace hD : va_D A [(h0, .inr (1, [.ref q_5, .int 0, .ref q_12, .ref q_16, .null, .null, .int 0, .int 0])), (q_5, .inl (cO, 40, .inr (.inr (.inr (.inr (fun _ => none)))))), (q_12, .inl (cI, 9, .inl (fun _ => 0))), (q_16, .inl (cI, 3, .inl (upd (upd (upd (fun _ => 0) 0 3) 1 3) 2 3)))] := hD1
  replace hS := hS1
  clear hP1 hD1 hS1
  refine lv_aload_n hx hb dX1_init_45 rfl (lv_at hl 0 rfl) ?_
  refine lv_iconst (v := 3) hx hb dX1_init_46 (by decide) ?_
  refine va_newa (a0 := (3, .inl (fun _ => 0))) (ty := .int) (atype := .int) hx hb (hts (.arrayClass .int) (by decide +kernel)) rfl hK hP hD hS hA (fun _ => rfl) (by decide) (N' := 3) (by decide) (Nat.le_of_ble_eq_true rfl) (Nat.le_of_ble_eq_true rfl) (Nat.le_of_ble_eq_true rfl) dX1_init_47 (fun q_32 c_32 H_32 hK1 hP1 hD1 hS1 => ?_)
  have ec : cI = c_32 := hp_cls (hK.2 0 _ rfl).2 (hK1.2 4 _ rfl).2
  subst ec
  clear hK1
  replace hP : va_P (dC, dI) vwCl [(h0, .inr (1, [.ref q_5, .int 0, .ref q_12, .ref q_16, .null, .null, .int 0, .int 0])), (q_5, .inl (cO, 40, .inr (.inr (.inr (.inr (fun _ => none)))))), (q_12, .inl (cI, 9, .inl (fun _ => 0))), (q_16, .inl (cI, 3, .inl (upd (upd (upd (fun _ => 0) 0 3) 1 3) 2 3))), (q_32, .inl (cI, 3, .inl (fun _ => 0)))] H_32 := hP1
  replace hD : va_D A [(h0, .inr (1, [.ref q_5, .int 0, .ref q_12, .ref q_16, .null, .null, .int 0, .int 0])), (q_5, .inl (cO, 40, .inr (.inr (.inr (.inr (fun _ => none)))))), (q_12, .inl (cI, 9, .inl (fun _ => 0))), (q_16, .inl (cI, 3, .inl (upd (upd (upd (fun _ => 0) 0 3) 1 3) 2 3))), (q_32, .inl (cI, 3, .inl (fun _ => 0)))] := hD1
  replace hS := hS1
  clear hP1 hD1 hS1
  refine lv_dup hx hb dX1_init_49 rfl ?_
  refine lv_iconst (v := 0) hx hb dX1_init_50 (by decide) ?_
  refine lv_iconst (v := 5) hx hb dX1_init_51 (by decide) ?_
  refine va_iast hx hb hK hP hD hS 4 0 rfl rfl (i := 0) (x := 5) (by unfold vp_in; decide) dX1_init_52 (fun H_36 locs_36 hP1 hD1 hS1 => ?_)
  replace hP : va_P (dC, dI) vwCl [(h0, .inr (1, [.ref q_5, .int 0, .ref q_12, .ref q_16, .null, .null, .int 0, .int 0])), (q_5, .inl (cO, 40, .inr (.inr (.inr (.inr (fun _ => none)))))), (q_12, .inl (cI, 9, .inl (fun _ => 0))), (q_16, .inl (cI, 3, .inl (upd (upd (upd (fun _ => 0) 0 3) 1 3) 2 3))), (q_32, .inl (cI, 3, .inl (upd (fun _ => 0) 0 5)))] H_36 := hP1
  replace hD : va_D A [(h0, .inr (1, [.ref q_5, .int 0, .ref q_12, .ref q_16, .null, .null, .int 0, .int 0])), (q_5, .inl (cO, 40, .inr (.inr (.inr (.inr (fun _ => none)))))), (q_12, .inl (cI, 9, .inl (fun _ => 0))), (q_16, .inl (cI, 3, .inl (upd (upd (upd (fun _ => 0) 0 3) 1 3) 2 3))), (q_32, .inl (cI, 3, .inl (upd (fun _ => 0) 0 5)))] := hD1
  replace hS := hS1
  clear hP1 hD1 hS1
  refine lv_dup hx hb dX1_init_53 rfl ?_
  refine lv_iconst (v := 1) hx hb dX1_init_54 (by decide) ?_
  refine lv_iconst (v := 5) hx hb dX1_init_55 (by decide) ?_
  refine va_iast hx hb hK hP hD hS 4 0 rfl rfl (i := 1) (x := 5) (by unfold vp_in; decide) dX1_init_56 (fun H_40 locs_40 hP1 hD1 hS1 => ?_)
  replace hP : va_P (dC, dI) vwCl [(h0, .inr (1, [.ref q_5, .int 0, .ref q_12, .ref q_16, .null, .null, .int 0, .int 0])), (q_5, .inl (cO, 40, .inr (.inr (.inr (.inr (fun _ => none)))))), (q_12, .inl (cI, 9, .inl (fun _ => 0))), (q_16, .inl (cI, 3, .inl (upd (upd (upd (fun _ => 0) 0 3) 1 3) 2 3))), (q_32, .inl (cI, 3, .inl (upd (upd (fun _ => 0) 0 5) 1 5)))] H_40 := hP1
  replace hD : va_D A [(h0, .inr (1, [.ref q_5, .int 0, .ref q_12, .ref q_16, .null, .null, .int 0, .int 0])), (q_5, .inl (cO, 40, .inr (.inr (.inr (.inr (fun _ => none)))))), (q_12, .inl (cI, 9, .inl (fun _ => 0))), (q_16, .inl (cI, 3, .inl (upd (upd (upd (fun _ => 0) 0 3) 1 3) 2 3))), (q_32, .inl (cI, 3, .inl (upd (upd (fun _ => 0) 0 5) 1 5)))] := hD1
  replace hS := hS1
  clear hP1 hD1 hS1
  refine lv_dup hx hb dX1_init_57 rfl ?_
  refine lv_iconst (v := 2) hx hb dX1_init_58 (by decide) ?_
  refine lv_iconst (v := 5) hx hb dX1_init_59 (by decide) ?_
  refine va_iast hx hb hK hP hD hS 4 0 rfl rfl (i := 2) (x := 5) (by unfold vp_in; decide) dX1_init_60 (fun H_44 locs_44 hP1 hD1 hS1 => ?_)
  replace hP : va_P (dC, dI) vwCl [(h0, .inr (1, [.ref q_5, .int 0, .ref q_12, .ref q_16, .null, .null, .int 0, .int 0])), (q_5, .inl (cO, 40, .inr (.inr (.inr (.inr (fun _ => none)))))), (q_12, .inl (cI, 9, .inl (fun _ => 0))), (q_16, .inl (cI, 3, .inl (upd (upd (upd (fun _ => 0) 0 3) 1 3) 2 3))), (q_32, .inl (cI, 3, .inl (upd (upd (upd (fun _ => 0) 0 5) 1 5) 2 5)))] H_44 := hP1
  replace hD : va_D A [(h0, .inr (1, [.ref q_5, .int 0, .ref q_12, .ref q_16, .null, .null, .int 0, .int 0])), (q_5, .inl (cO, 40, .inr (.inr (.inr (.inr (fun _ => none)))))), (q_12, .inl (cI, 9, .inl (fun _ => 0))), (q_16, .inl (cI, 3, .inl (upd (upd (upd (fun _ => 0) 0 3) 1 3) 2 3))), (q_32, .inl (cI, 3, .inl (upd (upd (upd (fun _ => 0) 0 5) 1 5) 2 5)))] := hD1
  replace hS := hS1
  clear hP1 hD1 hS1
  refine va_putF (D := (dC, dI)) (ci := 1) (v := .ref q_32) (ty := .array .int) (C := RX1) (T := TX1) (N := 8) hx hb hts hin tyX1 tyX1_ok nmX1 hown hK hP hD hS 0 rfl rfl 4 (by decide) hf_26 (fun _ h9 => h9) rfl hin9 rfl (by decide +kernel) rfl rfl (Nat.le_of_ble_eq_true rfl) dX1_init_61 (fun H_45 locs_45 hP1 hD1 hS1 => ?_)
  replace hP : va_P (dC, dI) vwCl [(h0, .inr (1, [.ref q_5, .int 0, .ref q_12, .ref q_16, .ref q_32, .null, .int 0, .int 0])), (q_5, .inl (cO, 40, .inr (.inr (.inr (.inr (fun _ => none)))))), (q_12, .inl (cI, 9, .inl (fun _ => 0))), (q_16, .inl (cI, 3, .inl (upd (upd (upd (fun _ => 0) 0 3) 1 3) 2 3))), (q_32, .inl (cI, 3, .inl (upd (upd (upd (fun _ => 0) 0 5) 1 5) 2 5)))] H_45 := hP1
  replace hD : va_D A [(h0, .inr (1, [.ref q_5, .int 0, .ref q_12, .ref q_16, .ref q_32, .null, .int 0, .int 0])), (q_5, .inl (cO, 40, .inr (.inr (.inr (.inr (fun _ => none)))))), (q_12, .inl (cI, 9, .inl (fun _ => 0))), (q_16, .inl (cI, 3, .inl (upd (upd (upd (fun _ => 0) 0 3) 1 3) 2 3))), (q_32, .inl (cI, 3, .inl (upd (upd (upd (fun _ => 0) 0 5) 1 5) 2 5)))] := hD1
  replace hS := hS1
  clear hP1 hD1 hS1
  refine lv_aload_n hx hb dX1_init_64 rfl (lv_at hl 0 rfl) ?_
  refine lv_iconst (v := 4) hx hb dX1_init_65 (by decide) ?_
  refine va_newa (a0 := (4, .inl (fun _ => 0))) (ty := .boolean) (atype := .boolean) hx hb (hts (.arrayClass .boolean) (by decide +kernel)) rfl hK hP hD hS hA (fun _ => rfl) (by decide) (N' := 4) (by decide) (Nat.le_of_ble_eq_true rfl) (Nat.le_of_ble_eq_true rfl) (Nat.le_of_ble_eq_true rfl) dX1_init_66 (fun q_48 c_48 H_48 hK1 hP1 hD1 hS1 => ?_)
  have ec : cZ = c_48 := hp_cls (hK.2 1 _ rfl).2 (hK1.2 4 _ rfl).2
  subst ec
  clear hK1
  replace hP : va_P (dC, dI) vwCl [(h0, .inr (1, [.ref q_5, .int 0, .ref q_12, .ref q_16, .ref q_32, .null, .int 0, .int 0])), (q_5, .inl (cO, 40, .inr (.inr (.inr (.inr (fun _ => none)))))), (q_12, .inl (cI, 9, .inl (fun _ => 0))), (q_16, .inl (cI, 3, .inl (upd (upd (upd (fun _ => 0) 0 3) 1 3) 2 3))), (q_32, .inl (cI, 3, .inl (upd (upd (upd (fun _ => 0) 0 5) 1 5) 2 5))), (q_48, .inl (cZ, 4, .inl (fun _ => 0)))] H_48 := hP1
  replace hD : va_D A [(h0, .inr (1, [.ref q_5, .int 0, .ref q_12, .ref q_16, .ref q_32, .null, .int 0, .int 0])), (q_5, .inl (cO, 40, .inr (.inr (.inr (.inr (fun _ => none)))))), (q_12, .inl (cI, 9, .inl (fun _ => 0))), (q_16, .inl (cI, 3, .inl (upd (upd (upd (fun _ => 0) 0 3) 1 3) 2 3))), (q_32, .inl (cI, 3, .inl (upd (upd (upd (fun _ => 0) 0 5) 1 5) 2 5))), (q_48, .inl (cZ, 4, .inl (fun _ => 0)))] := hD1
  replace hS := hS1
  clear hP1 hD1 hS1
  refine va_putF (D := (dC, dI)) (ci := 1) (v := .ref q_48) (ty := .array .boolean) (C := RX1) (T := TX1) (N := 8) hx hb hts hin tyX1 tyX1_ok nmX1 hown hK hP hD hS 0 rfl rfl 5 (by decide) hf_29 (fun _ h9 => h9) rfl hin9 rfl (by decide +kernel) rfl rfl (Nat.le_of_ble_eq_true rfl) dX1_init_68 (fun H_49 locs_49 hP1 hD1 hS1 => ?_)
  replace hP : va_P (dC, dI) vwCl [(h0, .inr (1, [.ref q_5, .int 0, .ref q_12, .ref q_16, .ref q_32, .ref q_48, .int 0, .int 0])), (q_5, .inl (cO, 40, .inr (.inr (.inr (.inr (fun _ => none)))))), (q_12, .inl (cI, 9, .inl (fun _ => 0))), (q_16, .inl (cI, 3, .inl (upd (upd (upd (fun _ => 0) 0 3) 1 3) 2 3))), (q_32, .inl (cI, 3, .inl (upd (upd (upd (fun _ => 0) 0 5) 1 5) 2 5))), (q_48, .inl (cZ, 4, .inl (fun _ => 0)))] H_49 := hP1
  replace hD : va_D A [(h0, .inr (1, [.ref q_5, .int 0, .ref q_12, .ref q_16, .ref q_32, .ref q_48, .int 0, .int 0])), (q_5, .inl (cO, 40, .inr (.inr (.inr (.inr (fun _ => none)))))), (q_12, .inl (cI, 9, .inl (fun _ => 0))), (q_16, .inl (cI, 3, .inl (upd (upd (upd (fun _ => 0) 0 3) 1 3) 2 3))), (q_32, .inl (cI, 3, .inl (upd (upd (upd (fun _ => 0) 0 5) 1 5) 2 5))), (q_48, .inl (cZ, 4, .inl (fun _ => 0)))] := hD1
  replace hS := hS1
  clear hP1 hD1 hS1
  refine lv_aload_n hx hb dX1_init_71 rfl (lv_at hl 0 rfl) ?_
  refine lv_iconst (v := 0) hx hb dX1_init_72 (by decide) ?_
  refine va_put (D := (dC, dI)) (ci := 1) (v := .int 0) (ty := .int) (C := RX1) (T := TX1) (N := 8) hx hb hts hin tyX1 tyX1_ok nmX1 hown hK hP hD hS 0 rfl rfl 6 (by decide) hf_33 (fun _ h9 => h9) rfl (by decide +kernel) rfl rfl (Nat.le_of_ble_eq_true rfl) dX1_init_73 (fun H_52 locs_52 hP1 hD1 hS1 => ?_)
  replace hP : va_P (dC, dI) vwCl [(h0, .inr (1, [.ref q_5, .int 0, .ref q_12, .ref q_16, .ref q_32, .ref q_48, .int 0, .int 0])), (q_5, .inl (cO, 40, .inr (.inr (.inr (.inr (fun _ => none)))))), (q_12, .inl (cI, 9, .inl (fun _ => 0))), (q_16, .inl (cI, 3, .inl (upd (upd (upd (fun _ => 0) 0 3) 1 3) 2 3))), (q_32, .inl (cI, 3, .inl (upd (upd (upd (fun _ => 0) 0 5) 1 5) 2 5))), (q_48, .inl (cZ, 4, .inl (fun _ => 0)))] H_52 := hP1
  replace hD : va_D A [(h0, .inr (1, [.ref q_5, .int 0, .ref q_12, .ref q_16, .ref q_32, .ref q_48, .int 0, .int 0])), (q_5, .inl (cO, 40, .inr (.inr (.inr (.inr (fun _ => none)))))), (q_12, .inl (cI, 9, .inl (fun _ => 0))), (q_16, .inl (cI, 3, .inl (upd (upd (upd (fun _ => 0) 0 3) 1 3) 2 3))), (q_32, .inl (cI, 3, .inl (upd (upd (upd (fun _ => 0) 0 5) 1 5) 2 5))), (q_48, .inl (cZ, 4, .inl (fun _ => 0)))] := hD1
  replace hS := hS1
  clear hP1 hD1 hS1
  refine lv_aload_n hx hb dX1_init_76 rfl (lv_at hl 0 rfl) ?_
  refine lv_iconst (v := 0) hx hb dX1_init_77 (by decide) ?_
  refine va_put (D := (dC, dI)) (ci := 1) (v := .int 0) (ty := .int) (C := RX1) (T := TX1) (N := 8) hx hb hts hin tyX1 tyX1_ok nmX1 hown hK hP hD hS 0 rfl rfl 7 (by decide) hf_36 (fun _ h9 => h9) rfl (by decide +kernel) rfl rfl (Nat.le_of_ble_eq_true rfl) dX1_init_78 (fun H_55 locs_55 hP1 hD1 hS1 => ?_)
  replace hP : va_P (dC, dI) vwCl [(h0, .inr (1, [.ref q_5, .int 0, .ref q_12, .ref q_16, .ref q_32, .ref q_48, .int 0, .int 0])), (q_5, .inl (cO, 40, .inr (.inr (.inr (.inr (fun _ => none)))))), (q_12, .inl (cI, 9, .inl (fun _ => 0))), (q_16, .inl (cI, 3, .inl (upd (upd (upd (fun _ => 0) 0 3) 1 3) 2 3))), (q_32, .inl (cI, 3, .inl (upd (upd (upd (fun _ => 0) 0 5) 1 5) 2 5))), (q_48, .inl (cZ, 4, .inl (fun _ => 0)))] H_55 := hP1
  replace hD : va_D A [(h0, .inr (1, [.ref q_5, .int 0, .ref q_12, .ref q_16, .ref q_32, .ref q_48, .int 0, .int 0])), (q_5, .inl (cO, 40, .inr (.inr (.inr (.inr (fun _ => none)))))), (q_12, .inl (cI, 9, .inl (fun _ => 0))), (q_16, .inl (cI, 3, .inl (upd (upd (upd (fun _ => 0) 0 3) 1 3) 2 3))), (q_32, .inl (cI, 3, .inl (upd (upd (upd (fun _ => 0) 0 5) 1 5) 2 5))), (q_48, .inl (cZ, 4, .inl (fun _ => 0)))] := hD1
  replace hS := hS1
  clear hP1 hD1 hS1
  have hP9 : va_P (dC, dI) vwCl (hp_X cI cZ cO h0 (fun k => if k = 0 then q_5 else if k = 2 then q_12 else if k = 3 then q_16 else if k = 4 then q_32 else q_48) (fun _ => 0) hp_v0 hp_r0 0) H_55 := hp_X_ini hP
  have hD9 : va_D A (hp_X cI cZ cO h0 (fun k => if k = 0 then q_5 else if k = 2 then q_12 else if k = 3 then q_16 else if k = 4 then q_32 else q_48) (fun _ => 0) hp_v0 hp_r0 0) := hp_dfst (by simp [hp_X, hp_X0, hp_Es]) hD
  refine W.widen (k := 5) (n := 59) (Nat.le_of_ble_eq_true rfl) (Nat.le_of_ble_eq_true rfl) ?_
  exact W.vret hx hb hr (fun t ht hW => ⟨⟨(fun k => if k = 0 then q_5 else if k = 2 then q_12 else if k = 3 then q_16 else if k = 4 then q_32 else q_48), rfl, trivial, hp_ht ht hP9, hD9⟩, hS.F ht⟩) hS.2.2 dX1_init_81