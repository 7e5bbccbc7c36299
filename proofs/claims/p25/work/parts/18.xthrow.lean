/-! the class: how its methods throw -/
def hp_strL : List (Nat × String) := [(110, "no such kind"), (116, "the cells are out of range"), (118, "the days are out of range"), (120, "no such element"), (140, "the element is not ORDERED"), (142, "the element is not DELIVERED"), (147, "no such storey"), (152, "it would be above the last day"), (179, "what is asked is out of range"), (201, "the cell is out of range"), (48, "no such trade or storey"), (59, "a cell is out of range"), (62, "the cells are in no column or row"), (66, "the storey is locked"), (69, "there are as many elements as there can be"), (78, "no such trade or element"), (83, "the base is out of range"), (91, "the element would leave the storey"), (96, "the element is not DRAWN")]
def hp_str (U : State) : Prop := ∀ q ∈ hp_strL, ∃ a, vk_R RX1 q.1 q.2 a U
theorem hp_str_vm {s U : State} (hv : U.vm = s.vm) (h : hp_str s) : hp_str U := fun q hq => (h q hq).imp fun _ h => vk_R.same hv h
theorem hp_str_warm {s U : State} (hW : s.WarmedH U.vm) (h : hp_str s) : hp_str U := fun q hq => (h q hq).imp fun _ h => vk_R.warm hW h
abbrev hp_Zu (A : Nat → Prop) (U : State) (H : Heap) : Prop := vx_Zq Bundle.tN "UNASSIGNED_STACK" Bundle.steD A U H
abbrev hp_Zn (A : Nat → Prop) (U : State) (H : Heap) : Prop := vx_Zq Bundle.tN "SUPPRESSED_SENTINEL" Bundle.listD A U H
def hp_prT (D : va_G) (cI cZ cO cJ : ClassId) (w : va_W) (sz : Nat) : State → Prop := fun U => U.heap.size = sz ∧ va_P D vwCl w U.heap ∧ va_K D vwCl (hp_ty cI cZ cO cJ) U ∧ va_D (fun _ => True) w ∧ hp_ex U ∧ hp_str U ∧ hp_Zu (va_A w sz) U U.heap ∧ hp_Zn (va_A w sz) U U.heap
theorem hp_fbT {D : va_G} {cI cZ cO cJ : ClassId} {w : va_W} {sz : Nat} {av : List Value} : FrameBlind (va_Pc av (hp_prT D cI cZ cO cJ w sz)) := fun a U g mk q => ⟨q.1, q.2.1, q.2.2.1, va_K.moved (u := U) (U := U.calling g mk a) (Vm.Alike.refl U.vm) q.2.2.2.1, q.2.2.2.2.1, hp_ex_vm (s := U) rfl q.2.2.2.2.2.1, hp_str_vm (s := U) rfl q.2.2.2.2.2.2.1, vx_Zq.moved (u := U) (U := U.calling g mk a) (Vm.Alike.refl U.vm) q.2.2.2.2.2.2.2.1, vx_Zq.moved (u := U) (U := U.calling g mk a) (Vm.Alike.refl U.vm) q.2.2.2.2.2.2.2.2⟩
theorem hp_toT {D : va_G} {cI cZ cO cJ : ClassId} {w : va_W} {s U : State} {H : Heap} {A : Nat → Prop} {locs : List Loc} (hP : va_P D vwCl w H) (hK : va_K D vwCl (hp_ty cI cZ cO cJ) s) (hD : va_D A w) (hN : hp_ex s) (hst : hp_str s) (hu : hp_Zu A s s.heap) (hn : hp_Zn A s s.heap) (hS : va_S A s.heap H locs) (hA : ∀ q, s.heap.size ≤ q → A q) (hU : U.heap = H) (hW : s.WarmedH U.vm) : hp_prT D cI cZ cO cJ w H.size U :=
  ⟨by rw [hU], by rw [hU]; exact hP, va_K.moved hW.alike hK, hD.weaken (fun _ _ _ _ => trivial), hp_ex_warm hW hN, hp_str_warm hW hst, by rw [hU]; exact ((hu.kept hS.2.1).narrow (hp_free hD hS hA)).moved hW.alike, by rw [hU]; exact ((hn.kept hS.2.1).narrow (hp_free hD hS hA)).moved hW.alike⟩
/-- which exception tells which code -/
def hp_xc (L : List String) (c : Int32) (E : String) : Prop := ∃ k : Nat, L[k]? = some E ∧ c = nI (k + 1)
abbrev hp_nm : List String := ["java/lang/RuntimeException", "java/lang/Exception"]
theorem hp_gd1 : ∀ w ∈ Cond.classLink RX1 46 hp_E1 :: Cond.initialized hp_E1 :: vx_atS RX1 50 hp_E1 hp_nm, vx_ot w = true := by decide +kernel
theorem hp_gd2 : ∀ w ∈ Cond.classLink RX1 57 hp_E2 :: Cond.initialized hp_E2 :: vx_atS RX1 61 hp_E2 hp_nm, vx_ot w = true := by decide +kernel
theorem hp_gd3 : ∀ w ∈ Cond.classLink RX1 64 hp_E3 :: Cond.initialized hp_E3 :: vx_atS RX1 68 hp_E3 hp_nm, vx_ot w = true := by decide +kernel
def hp_nB : List Cond := [.declares (Bundle.initS "java/lang/RuntimeException"), .declares (Bundle.initS "java/lang/Exception"), .declares (Bundle.initS Bundle.tN), .castable hp_E1 hp_E1, .castable hp_E2 hp_E2, .castable hp_E3 hp_E3]
theorem hp_nB_of {args : Array Value} {s : State} (h : hp_ex s) : ∀ w ∈ hp_nB, w.before args s = true := vx_c (va_Nw.use rfl h.1) (vx_c (va_Nw.use rfl h.2.1) (vx_c (va_Nw.use rfl h.2.2.1) (vx_c (va_Nw.use rfl h.2.2.2.1) (vx_c (va_Nw.use rfl h.2.2.2.2.1) (vx_c (va_Nw.use rfl h.2.2.2.2.2.1) vx_n)))))
theorem hp_nb1 : ∀ w ∈ (vx_atS RX1 50 hp_E1 hp_nm).filter (fun w => !goodWord w), w ∈ hp_nB := by decide +kernel
theorem hp_nb2 : ∀ w ∈ (vx_atS RX1 61 hp_E2 hp_nm).filter (fun w => !goodWord w), w ∈ hp_nB := by decide +kernel
theorem hp_nb3 : ∀ w ∈ (vx_atS RX1 68 hp_E3 hp_nm).filter (fun w => !goodWord w), w ∈ hp_nB := by decide +kernel
section HPT
variable {p : Program} {l : Launch} {e : Env} {R : Room} {s : State} {m : MethodId} {args : Array Value} {below : List Frame} {meth : Method} {c : Code}
theorem hp_thr {cc : ByteArray} {pc : Nat} {ls : Array Slot} {cls : String} {ik is ic mc ms k nL : Nat} {text : String} {A : Nat → Prop} {D : va_G} {w : va_W} {L : List String} {C : Int32} {Qc : Array Value → State → Outcome → State → Prop} {lv : List (Nat × Value)} (hx : p.tables.exec = Jvm.exec) (hb : c.code = cc) (hl0 : l.stackTraces = false) (hml : c.maxLocals = nL) (htab : ∀ x ∈ c.exceptionTable.toList, False) (hlocks : meth.locks = false)
    (hown : s.vm.findClass RX1 = some m.cls) (hk : (Cond.classLink RX1 ik cls).before args s = true) (hini : (Cond.initialized cls).before args s = true) (hstr : hp_str s) (hq : (is, text) ∈ hp_strL) (hat : ∀ w ∈ vx_atS RX1 ic cls hp_nm, w.before args s = true)
    (hgood : ∀ w ∈ Cond.classLink RX1 ik cls :: Cond.initialized cls :: vx_atS RX1 ic cls hp_nm, vx_ot w = true) (hcls : Bundle.fit cls = true) (hZu : hp_Zu A s s.heap) (hZn : hp_Zn A s s.heap) (hP : va_P D vwCl w s.heap) (hl : lv_has ls nL lv)
    (d0 : decode cc pc = .ok (.new ik, 3)) (d3 : decode cc (pc + 3) = .ok (.dup, 1)) (d4 : decode cc (pc + 4) = .ok (.ldc is, 2)) (d6 : decode cc (pc + 6) = .ok (.invokespecial ic, 3)) (d9 : decode cc (pc + 9) = .ok (.athrow, 1))
    (hR : 6 ≤ R.frames ∧ 82 ≤ R.locals ∧ 1 ≤ R.cells ∧ 6 ≤ R.slots) (hm : 1 ≤ mc ∧ 6 ≤ ms) (hL : L[k]? = some cls) (hC : C = nI (k + 1)) :
    W p l e R s m args below meth c s.heap [] 0 0 (vx_MQ below Qc (vx_X (S := Unit) (fun _ => True) (fun E9 _ t9 => hp_xc L C E9 ∧ va_P D vwCl w t9.heap) A) args s mc ms A) (F0 m pc ls []) := by
  obtain ⟨sa, hsa⟩ := hstr _ hq
  exact vx_throwS (own := RX1) (cls := cls) (text := text) (names := hp_nm) (ik := ik) (is := is) (ic := ic) (sa := sa) (A := A) hx hb hl0 hown hcls (by decide +kernel) hk hini hsa hat hgood hZu hZn va_S.rf (hl.1.trans hml.symm) d0 d3 d4 d6 d9 (fun x h => (htab x h).elim)
    (show 5 < R.frames from hR.1) (show 0 + 82 ≤ R.locals by omega) (by omega) (by omega) hlocks
    (fun t _ hz hq => ⟨(), trivial, ⟨⟨k, hL, hC⟩, hP.kept (fun k9 q9 h9 => hq q9.1 ((hP k9 q9 h9).lt))⟩, hz, fun q h1 _ => hq q h1⟩) (fun z h => nomatch h) (by omega) (by omega)
end HPT
theorem hp_el_or (n : Nat) (x : Int32) : hp_el n x = false ∨ hp_el n x = true := by cases hp_el n x <;> simp
theorem hp_mvG {i a b c d : Bool} (h : ((a && b) && (c && d)) = false) : (i && a && c && b && d) = false := by cases i <;> cases a <;> cases b <;> cases c <;> cases d <;> simp_all
theorem hp_mvT {a b c d : Bool} (h : ((a && b) && (c && d)) = true) : a = true ∧ b = true ∧ c = true ∧ d = true := by cases a <;> cases b <;> cases c <;> cases d <;> simp_all
theorem hp_dif_dl (r : Nat → Nat → Int32) (d : Int32) (k : Nat) : hp_dif (hp_dl r d k) k d = hp_dl r d (k + 1) := by
  unfold hp_dif
  rw [hp_dlk, show hp_dl r d k 13 k = r 13 k from rfl]
  by_cases h : ((r 10 k == 1) && decide (r 13 k ≤ d)) = true
  · rw [if_pos h, ← hp_dl1, if_pos h]
  · rw [if_neg h]
    funext a i
    by_cases ha : a = 10
    · subst ha
      by_cases hi : i = k
      · subst hi
        have h2 : ((r 10 i == 1) && decide (r 13 i ≤ d)) = false := by simpa using h
        simp only [hp_dl, va_up, if_true, Bool.and_assoc, h2, Bool.and_false]
      · have e : (i < k + 1) ↔ (i < k) := by omega
        simp [hp_dl, va_up, e]
    · simp [hp_dl, va_up, ha]
theorem hp_ord {r : Nat → Nat → Int32} {i : Nat} {d t : Int32} (h : d ≤ t ↔ d = t) : hp_dif (hp_set (hp_set r 10 i 1) 13 i d) i t = hp_set (hp_set r 13 i d) 10 i (if d = t then 2 else 1) := by
  unfold hp_dif
  have e1 : (hp_set (hp_set r 10 i 1) 13 i d) 10 i = 1 := by simp [hp_set, va_up, upd]
  have e2 : (hp_set (hp_set r 10 i 1) 13 i d) 13 i = d := by simp [hp_set, va_up, upd]
  rw [e1, e2]
  by_cases hd : d = t
  · rw [if_pos (by simp [h, hd]), if_pos hd]
    funext a j
    by_cases ha : a = 10
    · subst ha
      by_cases hj : j = i <;> simp [hp_set, va_up, upd, hj]
    · by_cases hb : a = 13
      · subst hb; simp [hp_set, va_up]
      · simp [hp_set, va_up, ha, hb]
  · rw [if_neg (by simp [h, hd]), if_neg hd]
    funext a j
    by_cases ha : a = 10
    · subst ha; simp [hp_set, va_up]
    · by_cases hb : a = 13
      · subst hb; simp [hp_set, va_up]
      · simp [hp_set, va_up, ha, hb]
theorem hp_due_le {v : Nat → Int32} {r : Nat → Nat → Int32} {n i : Nat} (h : hp_inv v r n) (hi : i < n) : hp_due v r i ≤ v 1 ↔ hp_due v r i = v 1 := by
  obtain ⟨⟨k, hk, e⟩, -⟩ := h.2.1 i hi
  obtain ⟨c, hc, ec⟩ := h.2.2.2.2.1 k hk
  obtain ⟨d, hd, ed⟩ := h.2.2.2.2.2.2
  unfold hp_due
  rw [e, nI_clamp (by omega), ec, ed, nI_add, nI_leI (by omega) (by omega), nI_eq (by omega) (by omega)]
  omega
theorem hp_there {r : Nat → Nat → Int32} {i : Nat} (h : hp_elm r i) : hp_in (r 10 i) 0 3 = !(r 10 i == 4) := by
  obtain ⟨-, -, -, -, -, -, ⟨k, hk, e⟩, -⟩ := h
  rw [e]
  rcases (show k = 0 ∨ k = 1 ∨ k = 2 ∨ k = 3 ∨ k = 4 by omega) with rfl | rfl | rfl | rfl | rfl <;> decide
theorem hp_prs_t {r : Nat → Nat → Int32} {f : Int32} {i : Nat} (h : (r 5 i == f) = true) (n : Nat) : hp_prs r f i n = hp_sum (fun j => if hp_cla r i j = true then 1 else 0) n := by
  unfold hp_prs
  simp only [h, Bool.true_and]
theorem hp_prs_f {r : Nat → Nat → Int32} {f : Int32} {i : Nat} (h : (r 5 i == f) = false) (n : Nat) : hp_prs r f i n = 0 := by
  unfold hp_prs
  have e : (fun j => if (r 5 i == f && hp_cla r i j) = true then (1 : Int32) else 0) = fun _ => 0 := by
    funext j
    rw [h, Bool.false_and]
    rfl
  rw [e]
  induction n with
  | zero => rfl
  | succ n ih => simp only [hp_sum, ih]; rfl
theorem hp_40 {n : Nat} (hn : n ≤ 40) (h : ¬ nI n < 40) : (!(nI n == 40)) = false := by
  have : n = 40 := by
    rcases Nat.lt_or_ge n 40 with q | q
    · exact absurd (nI_lt (b := 40) q (by decide)) h
    · omega
  subst this
  decide
theorem hp_w9or (x : Int32) : hp_in x 0 9 = false ∨ ∃ w, w ≤ 9 ∧ x = nI w := by
  cases h : hp_in x 0 9 with
  | false => exact Or.inl rfl
  | true => exact Or.inr (hp_in_of (N := 9) (by decide) h)
theorem hp_out9 {x : Int32} (h : hp_in x 0 9 = false) : x.toInt < 0 ∨ 9 < x.toInt := by
  rcases Int.lt_or_le x.toInt 0 with q | q
  · exact Or.inl q
  · rcases Int.lt_or_le 9 x.toInt with q2 | q2
    · exact Or.inr q2
    · have : hp_in x 0 9 = true := hp_in_iff.mpr ⟨Int32.le_iff_toInt_le.mpr q, Int32.le_iff_toInt_le.mpr q2⟩
      exact absurd this (by rw [h]; decide)
theorem hp_clt {r : Nat → Nat → Int32} {f : Int32} {k : Nat} (h : (r 5 k == f) = true) : hp_sum (fun i => hp_prs r f i i) (k + 1) = hp_sum (fun i => hp_prs r f i i) k + hp_sum (fun j => if hp_cla r k j = true then 1 else 0) k := by
  show _ + hp_prs r f k k = _
  rw [hp_prs_t h]
theorem hp_clf {r : Nat → Nat → Int32} {f : Int32} {k : Nat} (h : (r 5 k == f) = false) : hp_sum (fun i => hp_prs r f i i) (k + 1) = hp_sum (fun i => hp_prs r f i i) k := by
  show _ + hp_prs r f k k = _
  rw [hp_prs_f h, Int32.add_zero]
theorem hp_pal {r : Nat → Nat → Int32} {p0 : Int32} {k c : Nat} (hth : hp_in (r 10 k) 0 3 = !(r 10 k == 4)) (h3 : r 15 p0.toNatClampNeg = nI c) (h : r 4 k = p0 ∧ ¬ r 10 k = 4) : hp_sum (fun i => if (r 4 i == p0) && hp_in (r 10 i) 0 3 then hp_par r i else 0) (k + 1) = hp_sum (fun i => if (r 4 i == p0) && hp_in (r 10 i) 0 3 then hp_par r i else 0) k + (hp_cel r k + nI c - 1) / nI c := by
  obtain ⟨h1, h2⟩ := h
  show _ + (if (r 4 k == p0) && hp_in (r 10 k) 0 3 then hp_par r k else 0) = _
  rw [hth]
  have e : ((r 4 k == p0) && !(r 10 k == 4)) = true := by simp [h1, h2]
  rw [if_pos e]
  unfold hp_par
  rw [h1, h3]
theorem hp_paf {r : Nat → Nat → Int32} {p0 : Int32} {k : Nat} (hth : hp_in (r 10 k) 0 3 = !(r 10 k == 4)) (h : ((r 4 k == p0) && !(r 10 k == 4)) = false) : hp_sum (fun i => if (r 4 i == p0) && hp_in (r 10 i) 0 3 then hp_par r i else 0) (k + 1) = hp_sum (fun i => if (r 4 i == p0) && hp_in (r 10 i) 0 3 then hp_par r i else 0) k := by
  show _ + (if (r 4 k == p0) && hp_in (r 10 k) 0 3 then hp_par r k else 0) = _
  rw [hth, if_neg (by rw [h]; decide), Int32.add_zero]
theorem hp_atc {r : Nat → Nat → Int32} {f x y : Int32} {k : Nat} (h : hp_cov r k x y = ((hp_gap (r 6 k) (r 8 k) x x == 0) && (hp_gap (r 7 k) (r 9 k) y y == 0))) : hp_at r f x y k = (!(r 10 k == 4) && (r 5 k == f) && hp_cov r k x y) := by
  rw [h]
  unfold hp_at
  rw [Bool.and_assoc, Bool.and_assoc]
theorem hp_bits_t {r : Nat → Nat → Int32} {f x y : Int32} {k : Nat} (h : hp_at r f x y k = true) : hp_bits r f x y (k + 1) = hp_bits r f x y k ||| (1 <<< (r 4 k &&& 31)) := by
  show _ ||| (if hp_at r f x y k = true then _ else _) = _
  rw [if_pos h]
theorem hp_bits_f {r : Nat → Nat → Int32} {f x y : Int32} {k : Nat} (h : hp_at r f x y k = false) : hp_bits r f x y (k + 1) = hp_bits r f x y k := by
  show _ ||| (if hp_at r f x y k = true then _ else _) = _
  rw [if_neg (by rw [h]; decide)]
  simp
theorem hp_bnn (b : Bool) : hp_b b = hp_b (!(hp_b b == 0)) := by cases b <;> rfl
