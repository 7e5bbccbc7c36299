/-! the class: add -/
theorem hp_41 {n : Nat} (h : n < 40) : (!(nI n == 40)) = true := by
  have : ¬ nI n = 40 := fun q => by
    have := (nI_eq (b := 40) (by omega) (by decide)).mp q
    omega
  simp [this]
theorem hp_lastP {D : va_G} {cl : List vw_C} {ws : va_W} {x : Nat × va_E} {H : Heap} (h : va_P D cl (ws ++ [x]) H) : va_P D cl [x] H := fun k q hq => by
  cases k with
  | zero => cases hq; exact h ws.length x (by simp)
  | succ k => simp at hq
theorem hp_lastD {A : Nat → Prop} {ws : va_W} {x : Nat × va_E} (h : va_D A (ws ++ [x])) : va_D A [x] := by
  refine ⟨fun i j p q hi hj _ => ?_, fun k q hq => ?_⟩
  · have h1 := (List.getElem?_eq_some_iff.mp hi).1
    have h2 := (List.getElem?_eq_some_iff.mp hj).1
    simp at h1 h2
    omega
  · cases k with
    | zero => cases hq; exact h.2 ws.length x (by simp)
    | succ k => simp at hq
theorem hp_lastK {D : va_G} {cl : List vw_C} {A : Nat → Prop} {ws : va_W} {q : Nat} {e e' : va_E} {H H1 : Heap} (hP : va_P D cl (ws ++ [(q, e)]) H) (hD : va_D A (ws ++ [(q, e)])) (hk : ∀ z : Nat, z < H.size → ¬ va_A [(q, e)] H.size z → H1[z]? = H[z]?) (hB : va_P D cl [(q, e')] H1) : va_P D cl (ws ++ [(q, e')]) H1 := by
  refine va_P.app (fun k x hx => ?_) hB
  have hl := (List.getElem?_eq_some_iff.mp hx).1
  have h1 : (ws ++ [(q, e)])[k]? = some x := by rw [List.getElem?_append_left hl]; exact hx
  have h2 : (ws ++ [(q, e)])[ws.length]? = some (q, e) := by simp
  refine (hP k x h1).kept (hk x.1 ((hP k x h1).lt) (fun h => ?_))
  rcases h with ⟨k2, e2, h⟩ | h
  · cases k2 with
    | zero =>
      have hq : x.1 = q := by
        have := Option.some.inj h
        exact (congrArg Prod.fst this).symm
      have := hD.1 k ws.length x (q, e) h1 h2 hq
      omega
    | succ k2 => simp at h
  · have := (hP k x h1).lt
    omega
theorem hp_Xa_o {cI cZ cO : ClassId} {o : Nat} {b ad : Nat → Nat} {v : Nat → Int32} {r : Nat → Nat → Int32} {n : Nat} {x : Nat × va_E} : (hp_X cI cZ cO o b ad v r n ++ [x])[0]? = some (o, .inr (1, [.ref (b 0), .int (nI n), .ref (b 2), .ref (b 3), .ref (b 4), .ref (b 5), .int (v 2), .int (v 1)])) := rfl
def hp_Z (cI cZ cO : ClassId) (o : Nat) (b : Nat → Nat) (v : Nat → Int32) (r : Nat → Nat → Int32) (ce : Int32) (E : Nat → Option Nat) (els : va_W) : va_W :=
  [(o, .inr (1, [.ref (b 0), .int ce, .ref (b 2), .ref (b 3), .ref (b 4), .ref (b 5), .int (v 2), .int (v 1)])), (b 0, .inl (cO, 40, .inr (.inr (.inr (.inr E))))), (b 2, .inl (cI, 9, .inl (r 14))), (b 3, .inl (cI, 3, .inl (r 15))), (b 4, .inl (cI, 3, .inl (r 16))), (b 5, .inl (cZ, 4, .inl (r 17)))] ++ els
theorem hp_XaZ {D : va_G} {H : Heap} {cI cZ cO : ClassId} {o : Nat} {b ad : Nat → Nat} {v : Nat → Int32} {r : Nat → Nat → Int32} {n : Nat} {x : Nat × va_E} (h : va_P D vwCl (hp_X cI cZ cO o b ad v r n ++ [x]) H) : va_P D vwCl (hp_Z cI cZ cO o b v r (nI n) (fun i => if i < n then some (ad i) else none) (hp_Es ad r n ++ [x])) H := hp_cP (by simp [hp_X, hp_X0, hp_Z]) h
theorem hp_Z_e {cI cZ cO : ClassId} {o : Nat} {b ad : Nat → Nat} {v : Nat → Int32} {r : Nat → Nat → Int32} {n : Nat} {ce : Int32} {E : Nat → Option Nat} {x : Nat × va_E} : (hp_Z cI cZ cO o b v r ce E (hp_Es ad r n ++ [x]))[6 + n]? = some x := by
  unfold hp_Z
  rw [List.getElem?_append_right (by simp), List.getElem?_append_right (by simp [hp_Es])]
  simp [hp_Es]
theorem hp_ZX {cI cZ cO : ClassId} {o q : Nat} {b ad : Nat → Nat} {v : Nat → Int32} {r : Nat → Nat → Int32} {n : Nat} {t f x y z w : Int32} (h : r 10 n = 0 ∧ r 13 n = 0) :
    hp_Z cI cZ cO o b (va_up v 2 (v 2 + 1)) r (nI (n + 1)) (va_up (fun i => if i < n then some (ad i) else none) n (some q)) (hp_Es ad r n ++ [(q, .inr (0, [.int t, .int f, .int x, .int y, .int z, .int w, .int 0, .int (v 2 + 1), .int t, .int 0]))]) = hp_X cI cZ cO o b (va_up ad n q) (hp_rv v) (hp_new r n t f x y z w (v 2 + 1)) (n + 1) := by
  have e1 : (va_up (fun i => if i < n then some (ad i) else none) n (some q)) = fun i => if i < n + 1 then some (va_up ad n q i) else none := by
    funext i
    by_cases hi : i = n
    · subst hi; simp [va_up]
    · have : (i < n + 1) ↔ (i < n) := by omega
      simp [va_up, hi, this]
  have e2 : hp_Es ad r n ++ [(q, .inr (0, [.int t, .int f, .int x, .int y, .int z, .int w, .int 0, .int (v 2 + 1), .int t, .int 0]))] = hp_Es (va_up ad n q) (hp_new r n t f x y z w (v 2 + 1)) (n + 1) := by
    unfold hp_Es
    rw [List.range_succ, List.map_append]
    congr 1
    · apply List.map_congr_left
      intro i hi
      have : i ≠ n := by
        have := List.mem_range.mp hi
        omega
      simp [va_up, this, hp_E, hp_new, hp_chg, hp_set, upd]
    · simp [va_up, hp_E, hp_new, hp_chg, hp_set, upd, h.1, h.2]
  rw [e1, e2]
  rfl
theorem hp_ZXf {cI cZ cO : ClassId} {o q : Nat} {b ad : Nat → Nat} {v v' : Nat → Int32} {r r' : Nat → Nat → Int32} {n : Nat} {ce : Int32} {E : Nat → Option Nat} {e : va_E} : (hp_Z cI cZ cO o b v r ce E (hp_Es ad r n ++ [(q, e)])).map Prod.fst = (hp_X cI cZ cO o b (va_up ad n q) v' r' (n + 1)).map Prod.fst := by
  have e2 : (hp_Es ad r n ++ [(q, e)]).map Prod.fst = (hp_Es (va_up ad n q) r' (n + 1)).map Prod.fst := by
    unfold hp_Es
    rw [List.range_succ, List.map_append, List.map_append, List.map_append]
    congr 1
    · rw [List.map_map, List.map_map]
      apply List.map_congr_left
      intro i hi
      have : i ≠ n := by
        have := List.mem_range.mp hi
        omega
      simp [va_up, this]
    · simp [va_up]
  unfold hp_Z hp_X hp_X0
  simp only [List.map_append] at e2 ⊢
  rw [e2]
  rfl
set_option maxHeartbeats 400000 in
set_option maxRecDepth 100000 in
theorem c_X1_add (l : Launch) (hl0 : l.stackTraces = false) (dC : Nat → ClassId) (dI : Nat → Nat → Nat) (cI cZ cO cJ : ClassId) (o : Nat) (b ad : Nat → Nat) (v : Nat → Int32) (r : Nat → Nat → Int32) (n : Nat) (sz : Nat)  (p0 p1 p2 p3 p4 p5 : Int32) (hinv : hp_inv v r n) : vx_Met l yX1_add wsX1_add ({ frames := 6, cells := 1, slots := 10, locals := 82 }) (va_Pc [.ref o, .int p0, .int p1, .int p2, .int p3, .int p4, .int p5] (hp_prT (dC, dI) cI cZ cO cJ (hp_X cI cZ cO o b ad v r n) sz)) (va_Qi (S := Nat → Nat) (fun x9 _ => hp_c_add r n p0 p1 p2 p3 p4 p5 = 0 ∧ x9 = hp_a_add r n p0 p1 p2 p3 p4 p5) (fun u9 t9 => va_P (dC, dI) vwCl (hp_X cI cZ cO o b u9 (hp_v_add v r n p0 p1 p2 p3 p4 p5) (hp_r_add v r n p0 p1 p2 p3 p4 p5) (hp_n_add r n p0 p1 p2 p3 p4 p5)) t9.heap ∧ va_D (va_A (hp_X cI cZ cO o b ad v r n) sz) (hp_X cI cZ cO o b u9 (hp_v_add v r n p0 p1 p2 p3 p4 p5) (hp_r_add v r n p0 p1 p2 p3 p4 p5) (hp_n_add r n p0 p1 p2 p3 p4 p5))) (va_A (hp_X cI cZ cO o b ad v r n) sz)) (vx_X (S := Unit) (fun _ => True) (fun E9 _ t9 => hp_xc [hp_E1, hp_E2, hp_E3] (hp_c_add r n p0 p1 p2 p3 p4 p5) E9 ∧ va_P (dC, dI) vwCl (hp_X cI cZ cO o b ad v r n) t9.heap) (va_A (hp_X cI cZ cO o b ad v r n) sz)) 1 10 (va_A (hp_X cI cZ cO o b ad v r n) sz) := by
  refine vx_ofW (cc := cX1_add) (maxL := 8) (ret := (some .int)) (by decide) rfl ?_
  intro p e s m args below meth c s₁ B hml htab hv
  obtain ⟨rfl, hsz, hP, hK, hD0, hN, hstr, hZu, hZn⟩ := hv
  have hx := B.exec
  have hb := B.bytes
  have hr := B.returns
  have hts := atoms_spec (ws := wsX1_add) B.pre
  have hown : s.vm.findClass RX1 = some m.cls := findClass_of_methodNamed B.named
  have hlocks := B.notSynchronized
  subst hsz
  have hD := hD0.self (sz := s.heap.size)
  generalize hAe : va_A (hp_X cI cZ cO o b ad v r n) s.heap.size = A at hD hZu hZn ⊢
  replace hD : ∀ v r, va_D A (hp_X cI cZ cO o b ad v r n) := fun _ _ => hp_dX hD
  have hA : ∀ q : Nat, s.heap.size ≤ q → A q := fun q h => by rw [← hAe]; exact Or.inr h
  have hS : va_S A s.heap s.heap [] := va_S.rf
  have hk_1 := hts (.classLink RX1 46 hp_E1) (by decide +kernel)
  have hi_1 := hts (.initialized hp_E1) (by decide +kernel)
  have hm_E1 : ∀ w ∈ (vx_atS RX1 50 hp_E1 hp_nm).filter goodWord, w ∈ wsX1_add := by decide +kernel
  have hat_1 : ∀ w ∈ vx_atS RX1 50 hp_E1 hp_nm, w.before _ s = true := vx_hat (fun w h => hts w (hm_E1 w h)) hp_nb1 (hp_nB_of hN)
  have hk_2 := hts (.classLink RX1 57 hp_E2) (by decide +kernel)
  have hi_2 := hts (.initialized hp_E2) (by decide +kernel)
  have hm_E2 : ∀ w ∈ (vx_atS RX1 61 hp_E2 hp_nm).filter goodWord, w ∈ wsX1_add := by decide +kernel
  have hat_2 : ∀ w ∈ vx_atS RX1 61 hp_E2 hp_nm, w.before _ s = true := vx_hat (fun w h => hts w (hm_E2 w h)) hp_nb2 (hp_nB_of hN)
  have hk_3 := hts (.classLink RX1 64 hp_E3) (by decide +kernel)
  have hi_3 := hts (.initialized hp_E3) (by decide +kernel)
  have hm_E3 : ∀ w ∈ (vx_atS RX1 68 hp_E3 hp_nm).filter goodWord, w ∈ wsX1_add := by decide +kernel
  have hat_3 : ∀ w ∈ vx_atS RX1 68 hp_E3 hp_nm, w.before _ s = true := vx_hat (fun w h => hts w (hm_E3 w h)) hp_nb3 (hp_nB_of hN)
  have hf_11 := hts (.fieldLink RX1 11 "Wallplan" "elements" "[LWallplan$Element;") (by decide +kernel)
  have hf_15 := hts (.fieldLink RX1 15 "Wallplan" "count" "I") (by decide +kernel)
  have hf_29 := hts (.fieldLink RX1 29 "Wallplan" "locked" "[Z") (by decide +kernel)
  have hf_33 := hts (.fieldLink RX1 33 "Wallplan" "latestRevision" "I") (by decide +kernel)
  have hinX1 : ∀ w ∈ wsX10, w ∈ wsX1_add := by decide +kernel
  have hinX0 : ∀ w ∈ wsX00, w ∈ wsX1_add := by decide +kernel
  have hl := lv_entry ([.ref o, .int p0, .int p1, .int p2, .int p3, .int p4, .int p5]) (n := 8) (Nat.le_of_ble_eq_true rfl)
  rw [lg_entry_eq]
  generalize (lg_sl ([.ref o, .int p0, .int p1, .int p2, .int p3, .int p4, .int p5]) ++ List.replicate (8 - (lg_sl ([.ref o, .int p0, .int p1, .int p2, .int p3, .int p4, .int p5])).length) Slot.unset).toArray = ls at hl ⊢
  have hl : lv_has ls 8 [(0, .ref o), (1, .int p0), (2, .int p1), (3, .int p2), (4, .int p3), (5, .int p4), (6, .int p5)] := hl
  have hn := hinv.1
  refine lv_iload_n hx hb dX1_add_0 rfl (lv_at hl 1 rfl) ?_
  refine vp_callSi (W.runS (As := [.int p0]) (rest := []) ⟨hx, hb, hml, hown, hts⟩ (c_X1_isKind l p0) (va_cwS 1 hts gX1_add_X1_isKind rfl rfl rfl (by decide +kernel) ⟨(Nat.le_of_ble_eq_true rfl), (Nat.le_of_ble_eq_true rfl)⟩) ⟨hp_nfb, fun _ _ _ => ⟨rfl, trivial⟩⟩ rfl rfl hl.1 rfl (lv_room (Nat.le_of_ble_eq_true rfl)) dX1_add_1 ⟨(Nat.zero_le _), (Nat.zero_le _)⟩) (fun r_1 hr_1 => ?_)
  subst hr_1
  refine lv_if_eq (tgt := 14) hx hb dX1_add_4 (by decide) (fun c_2 => ?_) (fun c_2 => ?_)
  · skip
    have c_2 := hp_bz c_2
    exact hp_thr (mc := 1) (ms := 10) (k := 0) (nL := 8) hx hb hl0 hml htab hlocks hown hk_1 hi_1 hstr (List.mem_of_getElem? (i := 10) rfl) hat_1 hp_gd1 (by decide +kernel) hZu hZn hP hl dX1_add_14 dX1_add_17 dX1_add_18 dX1_add_20 dX1_add_23 ⟨(Nat.le_of_ble_eq_true rfl), (Nat.le_of_ble_eq_true rfl), (Nat.le_of_ble_eq_true rfl), (Nat.le_of_ble_eq_true rfl)⟩ ⟨(Nat.le_of_ble_eq_true rfl), (Nat.le_of_ble_eq_true rfl)⟩ rfl ((hp_cd1 (by first | assumption | (simp [c_2]; done))).symm)
  · skip
    have c_2 := hp_bn c_2
    refine lv_iload_n hx hb dX1_add_7 rfl (lv_at hl 2 rfl) ?_
    refine vp_callSi (W.runS (As := [.int p1]) (rest := []) ⟨hx, hb, hml, hown, hts⟩ (c_X1_isStorey l p1) (va_cwS 1 hts gX1_add_X1_isStorey rfl rfl rfl (by decide +kernel) ⟨(Nat.le_of_ble_eq_true rfl), (Nat.le_of_ble_eq_true rfl)⟩) ⟨hp_nfb, fun _ _ _ => ⟨rfl, trivial⟩⟩ rfl rfl hl.1 rfl (lv_room (Nat.le_of_ble_eq_true rfl)) dX1_add_8 ⟨(Nat.zero_le _), (Nat.zero_le _)⟩) (fun r_3 hr_3 => ?_)
    subst hr_3
    refine lv_if_ne (tgt := 24) hx hb dX1_add_11 (by decide) (fun c_4 => ?_) (fun c_4 => ?_)
    · skip
      have c_4 := hp_bn c_4
      have xf := hp_st_ix c_4
      refine lv_iload_n hx hb dX1_add_24 rfl (lv_at hl 3 rfl) ?_
      refine lv_iload hx hb dX1_add_25 (lv_at hl 4 rfl) ?_
      refine vp_callSi (W.runS (As := [.int p2, .int p3]) (rest := []) ⟨hx, hb, hml, hown, hts⟩ (c_X1_isCell l p2 p3) (va_cwS 2 hts gX1_add_X1_isCell rfl rfl rfl (by decide +kernel) ⟨(Nat.le_of_ble_eq_true rfl), (Nat.le_of_ble_eq_true rfl)⟩) ⟨hp_nfb, fun _ _ _ => ⟨rfl, trivial⟩⟩ rfl rfl hl.1 rfl (lv_room (Nat.le_of_ble_eq_true rfl)) dX1_add_27 ⟨(Nat.zero_le _), (Nat.zero_le _)⟩) (fun r_5 hr_5 => ?_)
      subst hr_5
      refine lv_if_eq (tgt := 43) hx hb dX1_add_30 (by decide) (fun c_6 => ?_) (fun c_6 => ?_)
      · skip
        have c_6 := hp_bz c_6
        exact hp_thr (mc := 1) (ms := 10) (k := 1) (nL := 8) hx hb hl0 hml htab hlocks hown hk_2 hi_2 hstr (List.mem_of_getElem? (i := 11) rfl) hat_2 hp_gd2 (by decide +kernel) hZu hZn hP hl dX1_add_43 dX1_add_46 dX1_add_47 dX1_add_49 dX1_add_52 ⟨(Nat.le_of_ble_eq_true rfl), (Nat.le_of_ble_eq_true rfl), (Nat.le_of_ble_eq_true rfl), (Nat.le_of_ble_eq_true rfl)⟩ ⟨(Nat.le_of_ble_eq_true rfl), (Nat.le_of_ble_eq_true rfl)⟩ rfl ((hp_cd2 (by first | assumption | (simp [c_2, c_4, c_6]; done)) (by first | assumption | (simp [c_2, c_4, c_6]; done))).symm)
      · skip
        have c_6 := hp_bn c_6
        refine lv_iload hx hb dX1_add_33 (lv_at hl 5 rfl) ?_
        refine lv_iload hx hb dX1_add_35 (lv_at hl 6 rfl) ?_
        refine vp_callSi (W.runS (As := [.int p4, .int p5]) (rest := []) ⟨hx, hb, hml, hown, hts⟩ (c_X1_isCell l p4 p5) (va_cwS 2 hts gX1_add_X1_isCell rfl rfl rfl (by decide +kernel) ⟨(Nat.le_of_ble_eq_true rfl), (Nat.le_of_ble_eq_true rfl)⟩) ⟨hp_nfb, fun _ _ _ => ⟨rfl, trivial⟩⟩ rfl rfl hl.1 rfl (lv_room (Nat.le_of_ble_eq_true rfl)) dX1_add_37 ⟨(Nat.zero_le _), (Nat.zero_le _)⟩) (fun r_7 hr_7 => ?_)
        subst hr_7
        refine lv_if_ne (tgt := 53) hx hb dX1_add_40 (by decide) (fun c_8 => ?_) (fun c_8 => ?_)
        · skip
          have c_8 := hp_bn c_8
          refine hp_join 76 8 (fun x9 : Unit => (p2 == p4 || p3 == p5) = true) (fun x9 => [(0, .ref o), (1, .int p0), (2, .int p1), (3, .int p2), (4, .int p3), (5, .int p4), (6, .int p5)]) (fun x9 => []) (fun x9 hx_10 ls hl => ?_) (fun jn_10 => ?_)
          · skip
            refine lv_aload_n hx hb dX1_add_76 rfl (lv_at hl 0 rfl) ?_
            refine va_get (D := (dC, dI)) (ci := 1) (v := .ref (b 5)) (C := RX1) (T := TX1) (N := 8) hx hb hts hinX1 hown hK hP 0 hp_X_o rfl 5 (by decide) hf_29 (fun _ h9 => h9) rfl dX1_add_77 ?_
            refine lv_iload_n hx hb dX1_add_80 rfl (lv_at hl 2 rfl) ?_
            refine hp_zaldx (v := r 17 p1.toNatClampNeg) hx hb hK hP 5 1 hp_X_17 rfl (i := p1) (hp_vin xf (by decide) (by decide)) rfl dX1_add_81 ?_
            refine lv_if_eq (tgt := 95) hx hb dX1_add_82 (by decide) (fun c_11 => ?_) (fun c_11 => ?_)
            · skip
              refine lv_aload_n hx hb dX1_add_95 rfl (lv_at hl 0 rfl) ?_
              refine va_get (D := (dC, dI)) (ci := 1) (v := .int (nI n)) (C := RX1) (T := TX1) (N := 8) hx hb hts hinX1 hown hK hP 0 hp_X_o rfl 1 (by decide) hf_15 (fun _ h9 => h9) rfl dX1_add_96 ?_
              refine lv_istore (lv' := [(7, .int (nI n)), (0, .ref o), (1, .int p0), (2, .int p1), (3, .int p2), (4, .int p3), (5, .int p4), (6, .int p5)]) hx hb dX1_add_99 hl (by decide) rfl (fun ls hl => ?_)
              refine lv_iload hx hb dX1_add_101 (lv_at hl 0 rfl) ?_
              refine lv_if_lt (tgt := 116) hx hb dX1_add_103 (by decide) (fun c_12 => absurd c_12 (nI_pos (by omega))) (fun _ => ?_)
              refine lv_iload hx hb dX1_add_106 (lv_at hl 0 rfl) ?_
              refine lv_aload_n hx hb dX1_add_108 rfl (lv_at hl 1 rfl) ?_
              refine va_get (D := (dC, dI)) (ci := 1) (v := .ref (b 0)) (C := RX1) (T := TX1) (N := 8) hx hb hts hinX1 hown hK hP 0 hp_X_o rfl 0 (by decide) hf_11 (fun _ h9 => h9) rfl dX1_add_109 ?_
              refine va_alen (v := 40) hx hb hK hP 1 2 hp_X_0 rfl (by rfl) dX1_add_112 ?_
              refine lv_icmp_lt (tgt := 126) hx hb dX1_add_113 (by decide) (fun c_13 => ?_) (fun c_13 => ?_)
              · skip
                have c_13n := hp_ltn c_13
                have hn40 : n < 40 := (nI_ltI (b := 40) (by omega) (by decide)).mp c_13
                have h40 : (!(nI n == 40)) = true := hp_41 hn40
                refine lv_aload_n hx hb dX1_add_126 rfl (lv_at hl 1 rfl) ?_
                refine lv_dup hx hb dX1_add_127 rfl ?_
                refine va_get (D := (dC, dI)) (ci := 1) (v := .int (v 2)) (C := RX1) (T := TX1) (N := 8) hx hb hts hinX1 hown hK hP 0 hp_X_o rfl 6 (by decide) hf_33 (fun _ h9 => h9) rfl dX1_add_128 ?_
                refine lv_iconst (v := 1) hx hb dX1_add_131 (by decide) ?_
                refine lv_iadd hx hb dX1_add_132 ?_
                refine va_put (D := (dC, dI)) (ci := 1) (v := .int ((v 2) + 1)) (ty := .int) (C := RX1) (T := TX1) (N := 8) hx hb hts hinX1 tyX1 tyX1_ok nmX1 hown hK hP (hD _ _) hS 0 hp_X_o rfl 6 (by decide) hf_33 (fun _ h9 => h9) rfl (by decide +kernel) rfl rfl (Nat.le_of_ble_eq_true rfl) dX1_add_133 (fun H_14 locs_14 hP1 _ hS1 => ?_)
                replace hP : va_P (dC, dI) vwCl (hp_X cI cZ cO o b ad (va_up v 2 ((v 2) + 1)) r n) H_14 := hp_cP hp_X_p2 hP1
                replace hS := hS1
                clear hP1 hS1
                refine lv_aload_n hx hb dX1_add_136 rfl (lv_at hl 1 rfl) ?_
                refine va_get (D := (dC, dI)) (ci := 1) (v := .ref (b 0)) (C := RX1) (T := TX1) (N := 8) hx hb hts hinX1 hown hK hP 0 hp_X_o rfl 0 (by decide) hf_11 (fun _ h9 => h9) rfl dX1_add_137 ?_
                refine lv_iload hx hb dX1_add_140 (lv_at hl 0 rfl) ?_
                have hP : va_P (dC, dI) vwCl (hp_X cI cZ cO o b ad (va_up v 2 (v 2 + 1)) r n) H_14 := hP
                refine va_new (ci := 0) (fs := [.int 0, .int 0, .int 0, .int 0, .int 0, .int 0, .int 0, .int 0, .int 0, .int 0]) (C := RX0) (T := TX0) (N := 10) hx hb hts hinX0 tyX0 tyX0_ok hown (hts (.classLink RX1 9 RX0) (by decide +kernel)) (hts (.instantiable RX0 10) (by decide +kernel)) (hts (.initialized RX0) (by decide +kernel)) hK hP (hD _ _) hS hA rfl (fun j hj => by rcases hp_w9 (show j ≤ 9 by omega) with rfl | rfl | rfl | rfl | rfl | rfl | rfl | rfl | rfl | rfl <;> rfl) (Nat.le_of_ble_eq_true rfl) (Nat.le_of_ble_eq_true rfl) dX1_add_142 (fun q H1 hP1 hD1 hS1 => ?_)
                clear hP hS
                refine lv_dup hx hb dX1_add_145 rfl ?_
                refine lv_iload_n hx hb dX1_add_146 rfl (lv_at hl 2 rfl) ?_
                refine lv_iload_n hx hb dX1_add_147 rfl (lv_at hl 3 rfl) ?_
                refine lv_iload_n hx hb dX1_add_148 rfl (lv_at hl 4 rfl) ?_
                refine lv_iload hx hb dX1_add_149 (lv_at hl 5 rfl) ?_
                refine lv_iload hx hb dX1_add_151 (lv_at hl 6 rfl) ?_
                refine lv_iload hx hb dX1_add_153 (lv_at hl 7 rfl) ?_
                refine lv_aload_n hx hb dX1_add_155 rfl (lv_at hl 1 rfl) ?_
                refine va_get (D := (dC, dI)) (ci := 1) (v := .int (v 2 + 1)) (C := RX1) (T := TX1) (N := 8) hx hb hts hinX1 hown hK hP1 0 hp_Xa_o rfl 6 (by decide) hf_33 (fun _ h9 => h9) rfl dX1_add_156 ?_
                have hFc := hp_free (hp_lastD hD1) hS1 hA
                refine va_callv (va_runI (As := [.int p0, .int p1, .int p2, .int p3, .int p4, .int p5, .int (v 2 + 1)]) (rest := [.ref q, .int (nI n), .ref (b 0)]) ⟨hx, hb, hml, hown, hts⟩ (c_X0_init l dC dI cI cZ cO cJ q H1.size p0 p1 p2 p3 p4 p5 (v 2 + 1)) (cwI 7 hts gX1_add_X0_init rfl rfl rfl (hts (.initialized RX0) (by decide +kernel)) (hts (.methodLink RX1 71 yX0_init) (by decide +kernel)) (hts (.instanceMethod yX0_init) (by decide +kernel)) rfl (by decide +kernel) ⟨(Nat.le_of_ble_eq_true rfl), (Nat.le_of_ble_eq_true rfl)⟩) ⟨hp_mfb, fun U hU hW => ⟨rfl, hp_mto (hp_lastP hP1) hK (hp_lastD hD1) hU hW⟩⟩ rfl rfl hl.1 rfl (lv_room (Nat.le_of_ble_eq_true rfl)) dX1_add_159 ⟨(Nat.le_of_ble_eq_true rfl), (Nat.le_of_ble_eq_true rfl)⟩) hS1 (fun z _ h => hFc z h) hFc (fun u_ t_ H2 locs2 ht _ _ hB _ hkk hS2 => ?_)
                have hP2 := hp_XaZ (hp_lastK hP1 hD1 hkk (hp_th ht hB))
                have hDz : ∀ E ce, va_D A (hp_Z cI cZ cO o b (va_up v 2 (v 2 + 1)) r ce E (hp_Es ad r n ++ [(q, .inr (0, [.int p0, .int p1, .int p2, .int p3, .int p4, .int p5, .int 0, .int (v 2 + 1), .int p0, .int 0]))])) := fun _ _ => hp_dfst (by simp [hp_X, hp_X0, hp_Z, hp_Es]) hD1
                clear hP1 hS1 hB hkk ht hFc
                refine va_astq (r := (RX0, TX0, 10)) hx hb hK hP2 (hDz _ _) hS2 1 2 (6 + n) 0 rfl rfl hp_Z_e rfl (vp_in_nI hn40 (by decide)) dX1_add_162 (fun H3 locs3 hP3 _ hS3 => ?_)
                rw [nI_clamp (show n < 2 ^ 31 by omega)] at hP3
                replace hP3 : va_P (dC, dI) vwCl (hp_Z cI cZ cO o b (va_up v 2 (v 2 + 1)) r (nI n) (va_up (fun i => if i < n then some (ad i) else none) n (some q)) (hp_Es ad r n ++ [(q, .inr (0, [.int p0, .int p1, .int p2, .int p3, .int p4, .int p5, .int 0, .int (v 2 + 1), .int p0, .int 0]))])) H3 := hP3
                clear hP2 hS2
                refine lv_aload_n hx hb dX1_add_163 rfl (lv_at hl 1 rfl) ?_
                refine lv_dup hx hb dX1_add_164 rfl ?_
                refine va_get (D := (dC, dI)) (ci := 1) (v := .int (nI n)) (C := RX1) (T := TX1) (N := 8) hx hb hts hinX1 hown hK hP3 0 rfl rfl 1 (by decide) hf_15 (fun _ h9 => h9) rfl dX1_add_165 ?_
                refine lv_iconst (v := 1) hx hb dX1_add_168 (by decide) ?_
                refine lv_iadd hx hb dX1_add_169 ?_
                refine hp_top (nI_1 _) ?_
                refine va_put (D := (dC, dI)) (ci := 1) (v := .int (nI (n + 1))) (ty := .int) (C := RX1) (T := TX1) (N := 8) hx hb hts hinX1 tyX1 tyX1_ok nmX1 hown hK hP3 (hDz _ _) hS3 0 rfl rfl 1 (by decide) hf_15 (fun _ h9 => h9) rfl (by decide +kernel) rfl rfl (Nat.le_of_ble_eq_true rfl) dX1_add_170 (fun H4 locs4 hP4 _ hS4 => ?_)
                replace hP4 : va_P (dC, dI) vwCl (hp_Z cI cZ cO o b (va_up v 2 (v 2 + 1)) r (nI (n + 1)) (va_up (fun i => if i < n then some (ad i) else none) n (some q)) (hp_Es ad r n ++ [(q, .inr (0, [.int p0, .int p1, .int p2, .int p3, .int p4, .int p5, .int 0, .int (v 2 + 1), .int p0, .int 0]))])) H4 := hP4
                clear hP3 hS3
                refine lv_iload hx hb dX1_add_173 (lv_at hl 0 rfl) ?_
                have hc : hp_c_add r n p0 p1 p2 p3 p4 p5 = 0 := (hp_cdz (by first | assumption | (simp [c_2, c_4, c_6, c_8, hx_10, c_11, c_13, c_13n, h40]; done)) (by first | assumption | (simp [c_2, c_4, c_6, c_8, hx_10, c_11, c_13, c_13n, h40]; done)) (by first | assumption | (simp [c_2, c_4, c_6, c_8, hx_10, c_11, c_13, c_13n, h40]; done))).symm
                have hP9 : va_P (dC, dI) vwCl (hp_X cI cZ cO o b (va_up ad n q) (hp_v_add v r n p0 p1 p2 p3 p4 p5) (hp_r_add v r n p0 p1 p2 p3 p4 p5) (hp_n_add r n p0 p1 p2 p3 p4 p5)) H4 := by simp only [hp_v_add, hp_r_add, hp_n_add, if_pos hc]; exact hp_cP (hp_ZX (hinv.2.2.1 n (Nat.le_refl n) hn40)) hP4
                have hD9 : va_D A (hp_X cI cZ cO o b (va_up ad n q) (hp_v_add v r n p0 p1 p2 p3 p4 p5) (hp_r_add v r n p0 p1 p2 p3 p4 p5) (hp_n_add r n p0 p1 p2 p3 p4 p5)) := by simp only [hp_v_add, hp_r_add, hp_n_add, if_pos hc]; exact hp_dfst hp_ZXf (hDz (fun _ => none) 0)
                exact vx_ret (W.iret (v := nI n) hx hb hr (fun t ht hW => ⟨⟨nI n, va_up ad n q, rfl, ⟨hc, by rw [hp_a_add, if_pos hc]⟩, hp_ht ht hP9, hD9⟩, hS4.F ht⟩) hS4.2.2 dX1_add_175)
              · skip
                have c_13p := hp_nlt c_13
                have h40 := hp_40 hn c_13
                exact hp_thr (mc := 1) (ms := 10) (k := 2) (nL := 8) hx hb hl0 hml htab hlocks hown hk_3 hi_3 hstr (List.mem_of_getElem? (i := 14) rfl) hat_3 hp_gd3 (by decide +kernel) hZu hZn hP hl dX1_add_116 dX1_add_119 dX1_add_120 dX1_add_122 dX1_add_125 ⟨(Nat.le_of_ble_eq_true rfl), (Nat.le_of_ble_eq_true rfl), (Nat.le_of_ble_eq_true rfl), (Nat.le_of_ble_eq_true rfl)⟩ ⟨(Nat.le_of_ble_eq_true rfl), (Nat.le_of_ble_eq_true rfl)⟩ rfl ((hp_cd3 (by first | assumption | (simp [c_2, c_4, c_6, c_8, hx_10, c_11, c_13, c_13p, h40]; done)) (by first | assumption | (simp [c_2, c_4, c_6, c_8, hx_10, c_11, c_13, c_13p, h40]; done)) (by first | assumption | (simp [c_2, c_4, c_6, c_8, hx_10, c_11, c_13, c_13p, h40]; done))).symm)
            · skip
              exact hp_thr (mc := 1) (ms := 10) (k := 2) (nL := 8) hx hb hl0 hml htab hlocks hown hk_3 hi_3 hstr (List.mem_of_getElem? (i := 13) rfl) hat_3 hp_gd3 (by decide +kernel) hZu hZn hP hl dX1_add_85 dX1_add_88 dX1_add_89 dX1_add_91 dX1_add_94 ⟨(Nat.le_of_ble_eq_true rfl), (Nat.le_of_ble_eq_true rfl), (Nat.le_of_ble_eq_true rfl), (Nat.le_of_ble_eq_true rfl)⟩ ⟨(Nat.le_of_ble_eq_true rfl), (Nat.le_of_ble_eq_true rfl)⟩ rfl ((hp_cd3 (by first | assumption | (simp [c_2, c_4, c_6, c_8, hx_10, c_11]; done)) (by first | assumption | (simp [c_2, c_4, c_6, c_8, hx_10, c_11]; done)) (by first | assumption | (simp [c_2, c_4, c_6, c_8, hx_10, c_11]; done))).symm)
          · skip
            refine lv_iload_n hx hb dX1_add_53 rfl (lv_at hl 3 rfl) ?_
            refine lv_iload hx hb dX1_add_54 (lv_at hl 5 rfl) ?_
            refine lv_icmp_eq (tgt := 76) hx hb dX1_add_56 (by decide) (fun c_15 => ?_) (fun c_15 => ?_)
            · skip
              exact jn_10 () (by simp [c_2, c_4, c_6, c_8, c_15]) _ (lv_sub hl [0, 1, 2, 3, 4, 5, 6] rfl)
            · skip
              refine lv_iload hx hb dX1_add_59 (lv_at hl 4 rfl) ?_
              refine lv_iload hx hb dX1_add_61 (lv_at hl 6 rfl) ?_
              refine lv_icmp_eq (tgt := 76) hx hb dX1_add_63 (by decide) (fun c_16 => ?_) (fun c_16 => ?_)
              · skip
                exact jn_10 () (by simp [c_2, c_4, c_6, c_8, c_15, c_16]) _ (lv_sub hl [0, 1, 2, 3, 4, 5, 6] rfl)
              · skip
                exact hp_thr (mc := 1) (ms := 10) (k := 1) (nL := 8) hx hb hl0 hml htab hlocks hown hk_2 hi_2 hstr (List.mem_of_getElem? (i := 12) rfl) hat_2 hp_gd2 (by decide +kernel) hZu hZn hP hl dX1_add_66 dX1_add_69 dX1_add_70 dX1_add_72 dX1_add_75 ⟨(Nat.le_of_ble_eq_true rfl), (Nat.le_of_ble_eq_true rfl), (Nat.le_of_ble_eq_true rfl), (Nat.le_of_ble_eq_true rfl)⟩ ⟨(Nat.le_of_ble_eq_true rfl), (Nat.le_of_ble_eq_true rfl)⟩ rfl ((hp_cd2 (by first | assumption | (simp [c_2, c_4, c_6, c_8, c_15, c_16]; done)) (by first | assumption | (simp [c_2, c_4, c_6, c_8, c_15, c_16]; done))).symm)
        · skip
          have c_8 := hp_bz c_8
          exact hp_thr (mc := 1) (ms := 10) (k := 1) (nL := 8) hx hb hl0 hml htab hlocks hown hk_2 hi_2 hstr (List.mem_of_getElem? (i := 11) rfl) hat_2 hp_gd2 (by decide +kernel) hZu hZn hP hl dX1_add_43 dX1_add_46 dX1_add_47 dX1_add_49 dX1_add_52 ⟨(Nat.le_of_ble_eq_true rfl), (Nat.le_of_ble_eq_true rfl), (Nat.le_of_ble_eq_true rfl), (Nat.le_of_ble_eq_true rfl)⟩ ⟨(Nat.le_of_ble_eq_true rfl), (Nat.le_of_ble_eq_true rfl)⟩ rfl ((hp_cd2 (by first | assumption | (simp [c_2, c_4, c_6, c_8]; done)) (by first | assumption | (simp [c_2, c_4, c_6, c_8]; done))).symm)
    · skip
      have c_4 := hp_bz c_4
      exact hp_thr (mc := 1) (ms := 10) (k := 0) (nL := 8) hx hb hl0 hml htab hlocks hown hk_1 hi_1 hstr (List.mem_of_getElem? (i := 10) rfl) hat_1 hp_gd1 (by decide +kernel) hZu hZn hP hl dX1_add_14 dX1_add_17 dX1_add_18 dX1_add_20 dX1_add_23 ⟨(Nat.le_of_ble_eq_true rfl), (Nat.le_of_ble_eq_true rfl), (Nat.le_of_ble_eq_true rfl), (Nat.le_of_ble_eq_true rfl)⟩ ⟨(Nat.le_of_ble_eq_true rfl), (Nat.le_of_ble_eq_true rfl)⟩ rfl ((hp_cd1 (by first | assumption | (simp [c_2, c_4]; done))).symm)
