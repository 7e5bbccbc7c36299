/-! the law's calls of its own methods -/
def hp_Ln (l : Launch) (y : MethodName) (ws : List Cond) (rm : Room) (As : List Value) (D : va_G) (cI cZ cO cJ : ClassId) (o : Nat) (b : Nat → Nat) (v : Nat → Int32) (r : Nat → Nat → Int32) (n : Nat) (ans : Int32) (v' : Nat → Int32) (r' : Nat → Nat → Int32) (n' : Nat) (mc ms : Nat) : Prop :=
  ∀ (ad : Nat → Nat) (sz : Nat), Met l y ws rm (va_Pc (.ref o :: As) (hp_prL D cI cZ cO cJ (hp_X cI cZ cO o b ad v r n) sz)) (va_Qi (S := Nat → Nat) (fun x9 _ => x9 = ans) (fun u9 t9 => va_P D vwCl (hp_X cI cZ cO o b u9 v' r' n') t9.heap ∧ va_D (va_A (hp_X cI cZ cO o b ad v r n) sz) (hp_X cI cZ cO o b u9 v' r' n')) (va_A (hp_X cI cZ cO o b ad v r n) sz)) mc ms (va_A (hp_X cI cZ cO o b ad v r n) sz)
section HPCALLN
variable {p : Program} {l : Launch} {e : Env} {R : Room} {s : State} {m : MethodId} {args : Array Value} {below : List Frame} {meth : Method} {c : Code} {H : Heap} {locs : List Loc} {cells slots : Nat} {Q : State → Prop}
variable {cc : ByteArray} {pc : Nat} {ls : Array Slot} {rest st : List Value} {A : Nat → Prop} {D : va_G} {cI cZ cO cJ : ClassId} {o : Nat} {b ad : Nat → Nat} {v v' : Nat → Int32} {r r' : Nat → Nat → Int32} {n n' : Nat}
variable {y : MethodName} {ws Ts : List Cond} {rm : Room} {As : List Value} {ans : Int32} {mc ms nL index maxL k : Nat} {bytes : ByteArray} {ret : Option FieldType}
variable {o2 : Nat} {b2 : Nat → Nat} {v2 : Nat → Int32} {r2 : Nat → Nat → Int32} {n2 : Nat}
theorem hp_callN2a (S : CallFix p m c cc nL s args Ts RL) (hT : hp_T D cI cZ cO cJ A s) (cw : CallB R s args RL index y bytes maxL ret ws rm mc ms k ∧ (Cond.static y).before args s = true) (hM : hp_Ln l y ws rm As D cI cZ cO cJ o b v r n ans v' r' n' mc ms) (hH : hp_H2 D cI cZ cO A s o b v r n o2 b2 v2 r2 n2 H locs)
    (hst : st = (Value.ref o :: As).reverse ++ rest) (hk : (Value.ref o :: As).length = k) (hls : ls.size = nL) (hrm : (rest.map fun v => v.category).sum ≤ 8) (hdg : decode cc pc = .ok (.invokestatic index, 3)) (hf : cells + mc ≤ R.cells ∧ slots + ms ≤ R.slots)
    (kk : ∀ (H1 : Heap) (locs1 : List Loc), hp_H2 D cI cZ cO A s o b v' r' n' o2 b2 v2 r2 n2 H1 locs1 → W p l e R s m args below meth c H1 locs1 (cells + mc) (slots + ms) Q (F0 m (pc + 3) ls (.int ans :: rest))) :
    W p l e R s m args below meth c H locs cells slots Q (F0 m pc ls st) := by
  subst hst
  obtain ⟨⟨ad, ad2, hP, hD, hP2, hD2, hsep⟩, hS⟩ := hH
  have hFc := hp_free hD hS hT.2.2.2.2.2.2
  refine va_calli (va_runS (As := .ref o :: As) (rest := rest) S (hM ad H.size) cw ⟨hp_fbL, fun U hU hW => ⟨rfl, hT.to hP hD hS hU hW⟩⟩ rfl hk hls rfl (lv_room hrm) hdg hf) hS (fun q _ h => hFc q h) hFc (fun r9 u t H1 locs1 ht _ hw hB _ hkk hS1 => ?_)
  subst hw
  obtain ⟨hPx, hDx⟩ := hB
  have h1 := hp_sepP hP2 (hp_sep_sym hsep) hkk
  have h2 := hp_sepN hP2 (hp_sep_sym hsep) hDx
  exact kk H1 locs1 ⟨⟨u, ad2, hp_th ht hPx, hDx.weaken (fun k q _ h => hFc q.1 h), h1, hD2, hp_sep_sym h2⟩, hS1⟩
theorem hp_callN2b (S : CallFix p m c cc nL s args Ts RL) (hT : hp_T D cI cZ cO cJ A s) (cw : CallB R s args RL index y bytes maxL ret ws rm mc ms k ∧ (Cond.static y).before args s = true) (hM : hp_Ln l y ws rm As D cI cZ cO cJ o b v r n ans v' r' n' mc ms) (hH : hp_H2 D cI cZ cO A s o2 b2 v2 r2 n2 o b v r n H locs)
    (hst : st = (Value.ref o :: As).reverse ++ rest) (hk : (Value.ref o :: As).length = k) (hls : ls.size = nL) (hrm : (rest.map fun v => v.category).sum ≤ 8) (hdg : decode cc pc = .ok (.invokestatic index, 3)) (hf : cells + mc ≤ R.cells ∧ slots + ms ≤ R.slots)
    (kk : ∀ (H1 : Heap) (locs1 : List Loc), hp_H2 D cI cZ cO A s o2 b2 v2 r2 n2 o b v' r' n' H1 locs1 → W p l e R s m args below meth c H1 locs1 (cells + mc) (slots + ms) Q (F0 m (pc + 3) ls (.int ans :: rest))) :
    W p l e R s m args below meth c H locs cells slots Q (F0 m pc ls st) :=
  hp_callN2a S hT cw hM hH.sym hst hk hls hrm hdg hf (fun H1 locs1 h => kk H1 locs1 h.sym)
end HPCALLN
section HPCALLA
variable {p : Program} {l : Launch} {e : Env} {R : Room} {s : State} {m : MethodId} {args : Array Value} {below : List Frame} {meth : Method} {c : Code} {H : Heap} {locs : List Loc} {cells slots : Nat} {Q : State → Prop}
variable {cc : ByteArray} {pc : Nat} {ls : Array Slot} {rest st : List Value} {A : Nat → Prop} {dC : Nat → ClassId} {dI : Nat → Nat → Nat} {cI cZ cO cJ : ClassId} {o1 o2 : Nat} {b1 b2 : Nat → Nat} {v : Nat → Int32} {r : Nat → Nat → Int32} {n x : Nat}
variable {Ts : List Cond} {nL index maxL k : Nat} {bytes : ByteArray} {ret : Option FieldType}
theorem hp_callAl (hl0 : l.stackTraces = false) (S : CallFix p m c cc nL s args Ts RL) (hT : hp_T (dC, dI) cI cZ cO cJ A s) (cw : CallB R s args RL index yL_isAlike bytes maxL ret wsL_isAlike ({ frames := 8, cells := 64, slots := 400, locals := 182 } : Room) 64 400 k ∧ (Cond.static yL_isAlike).before args s = true) (hinv : hp_inv v r n) (hxl : x < 2 ^ 31) (hH : hp_H2 (dC, dI) cI cZ cO A s o1 b1 v r n o2 b2 v r n H locs)
    (hst : st = ([.ref o1, .ref o2, .int (nI n), .int (nI x)] : List Value).reverse ++ rest) (hk : ([.ref o1, .ref o2, .int (nI n), .int (nI x)] : List Value).length = k) (hls : ls.size = nL) (hrm : (rest.map fun v => v.category).sum ≤ 8) (hdg : decode cc pc = .ok (.invokestatic index, 3)) (hf : cells + 64 ≤ R.cells ∧ slots + 400 ≤ R.slots)
    (kk : ∀ (H1 : Heap) (locs1 : List Loc), hp_H2 (dC, dI) cI cZ cO A s o1 b1 v r n o2 b2 v r n H1 locs1 → W p l e R s m args below meth c H1 locs1 (cells + 64) (slots + 400) Q (F0 m (pc + 3) ls (.int 1 :: rest))) :
    W p l e R s m args below meth c H locs cells slots Q (F0 m pc ls st) := by
  subst hst
  obtain ⟨⟨ad1, ad2, hP, hD, hP2, hD2, hsep⟩, hS⟩ := hH
  have hPA := hP.app hP2
  have hDA := va_D.app hD hD2 hsep
  have hFc := hp_free hDA hS hT.2.2.2.2.2.2
  refine va_calli (va_runS (As := [.ref o1, .ref o2, .int (nI n), .int (nI x)]) (rest := rest) S (c_L_isAlike l hl0 dC dI cI cZ cO cJ o1 o2 b1 b2 ad1 ad2 v r n x H.size hinv hxl) cw ⟨hp_fbL, fun U hU hW => ⟨rfl, hT.to hPA hDA hS hU hW⟩⟩ rfl hk hls rfl (lv_room hrm) hdg hf) hS (fun q _ h => hFc q h) hFc (fun r9 u t H1 locs1 ht _ hw hB _ hkk hS1 => ?_)
  subst hw
  obtain ⟨hPx, hDx⟩ := hB
  have hPx := hp_th ht hPx
  have hDx := hDx.weaken (fun k q _ h => hFc q.1 h)
  obtain ⟨g1, g2, g3⟩ := hp_appD hDx
  exact kk H1 locs1 ⟨⟨u.1, u.2, hp_appL hPx, g1, hp_appR hPx, g2, g3⟩, hS1⟩
end HPCALLA
/-! what is drawn -/
def hp_prD (b L : Nat) (xs : Nat → Int32) : State → Prop := fun U => va_X b L xs U U.heap
theorem hp_fbD {b L : Nat} {xs : Nat → Int32} {av : List Value} : FrameBlind (va_Pc av (hp_prD b L xs)) := fun a U g mk q => ⟨q.1, va_X.moved (u := U) (U := U.calling g mk a) (Vm.Alike.refl U.vm) q.2⟩
set_option maxHeartbeats 400000 in
set_option maxRecDepth 100000 in
theorem c_L_drawn (l : Launch) (b L : Nat) (xs : Nat → Int32) (k : Nat) (p0 : Int32) (hp0 : p0 = nI k) (hL : L ≤ 260) (hk : k < 1000) : Met l yL_drawn wsL_drawn ({ frames := 0, cells := 0, slots := 0, locals := 0 }) (va_Pc [.ref b, .int p0] (hp_prD b L xs)) (vp_Si (fun x9 => ∃ z, z < 2 ^ 31 ∧ x9 = nI z)) 0 0 (fun _ => False) := by
  refine Met.ofW (cc := cL_drawn) (maxL := 2) (ret := some .int) (by decide) rfl ?_
  intro p e s m args below meth c s₁ B hml hv
  obtain ⟨rfl, hX⟩ := hv
  have hx := B.exec
  have hb := B.bytes
  have hr := B.returns
  have hts := atoms_spec (ws := wsL_drawn) B.pre
  have hown : s.vm.findClass RL = some m.cls := findClass_of_methodNamed B.named
  have hlocks := B.notSynchronized
  subst hp0
  have hX : va_X b L xs s s.heap := hX
  have hbl : b < s.heap.size := by
    obtain ⟨scr, h1, -⟩ := hX
    exact (Array.getElem?_eq_some_iff.mp h1).1
  have hbA : ¬ (fun q : Nat => s.heap.size ≤ q) b := Nat.not_le.mpr hbl
  have hS : va_S (fun q : Nat => s.heap.size ≤ q) s.heap s.heap [] := va_S.rf
  have hcl_86 := hts (.constant RL 86 (15526843)) (by decide +kernel)
  have hcl_87 := hts (.constant RL 87 (2147483647)) (by decide +kernel)
  have hl := lv_entry ([.ref b, .int (nI k)]) (n := 2) (Nat.le_of_ble_eq_true rfl)
  rw [lg_entry_eq]
  generalize (lg_sl ([.ref b, .int (nI k)]) ++ List.replicate (2 - (lg_sl ([.ref b, .int (nI k)])).length) Slot.unset).toArray = ls at hl ⊢
  have hl : lv_has ls 2 [(0, .ref b), (1, .int (nI k))] := hl
  have tail : ∀ x : Int32, W p l e ({ frames := 0, cells := 0, slots := 0, locals := 0 } : Room) s m #[Value.ref b, Value.int (nI k)] below meth c s.heap [] 0 0 (MQ below (vp_Si (fun x9 => ∃ z, z < 2 ^ 31 ∧ x9 = nI z)) #[Value.ref b, Value.int (nI k)] s 0 0 (fun _ => False)) (F0 m 22 ls [.int x]) := by
    intro x
    refine lv_ldc hx hb hown hcl_87 dL_drawn_22 ?_
    refine lv_iand hx hb dL_drawn_24 ?_
    obtain ⟨j, hj, ej⟩ := pk_andE x (m := 2147483647) 31 (by decide)
    refine hp_top ej ?_
    exact W.iret (v := nI j) hx hb hr (fun t ht hW => ⟨_, rfl, ⟨j, hj, rfl⟩, ht⟩) (fun _ h => nomatch h) dL_drawn_25
  refine lv_iload_n hx hb dL_drawn_0 rfl (lv_at hl 1 rfl) ?_
  refine lv_aload_n hx hb dL_drawn_1 rfl (lv_at hl 0 rfl) ?_
  refine va_slen hx hb hX hbl hbA hS dL_drawn_2 ?_
  refine lv_icmp_ge (tgt := 12) hx hb dL_drawn_3 (by decide) (fun c9 => ?_) (fun c9 => ?_)
  · refine lv_ldc hx hb hown hcl_86 dL_drawn_12 ?_
    refine lv_iload_n hx hb dL_drawn_14 rfl (lv_at hl 1 rfl) ?_
    refine lv_iconst (v := 3) hx hb dL_drawn_15 (by decide) ?_
    refine lv_iadd hx hb dL_drawn_16 ?_
    refine lv_imul hx hb dL_drawn_17 ?_
    refine lv_sipush (v := 14851) hx hb dL_drawn_18 (by decide) ?_
    refine lv_iadd hx hb dL_drawn_21 ?_
    exact tail _
  · have hkL : k < L := by
      rcases Nat.lt_or_ge k L with q | q
      · exact q
      · exact absurd (show Int32.ofNat L ≤ nI k from nI_le q (by omega)) c9
    refine lv_aload_n hx hb dL_drawn_6 rfl (lv_at hl 0 rfl) ?_
    refine lv_iload_n hx hb dL_drawn_7 rfl (lv_at hl 1 rfl) ?_
    refine va_sld hx hb hX hbl hbA hS (i := nI k) (vp_in_nI hkL (by omega)) dL_drawn_8 ?_
    refine lv_goto (tgt := 22) hx hb dL_drawn_9 (by decide) ?_
    exact tail _
