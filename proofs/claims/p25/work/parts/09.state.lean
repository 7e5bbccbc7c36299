/-! what a house IS, as numbers: v 0 thrown, v 1 the day, v 2 the revision; r 4 .. r 13 the elements' numbers (kind, storey, fromX, fromY, toX, toY, state, changed, by, due), r 14 the clearances, r 15 the cells of a part, r 16 the lead times, r 17 the locks; n: how many elements -/
def hp_b (b : Bool) : Int32 := if b = true then 1 else 0
theorem hp_bz {b : Bool} (h : hp_b b = 0) : b = false := by cases b with | false => rfl | true => exact absurd h (by decide)
theorem hp_bn {b : Bool} (h : ¬ hp_b b = 0) : b = true := by cases b with | false => exact absurd rfl h | true => rfl
theorem hp_bt {b : Bool} (h : b = true) : hp_b b = 1 := by rw [h]; rfl
theorem hp_bf {b : Bool} (h : b = false) : hp_b b = 0 := by rw [h]; rfl
theorem hp_tf {b : Bool} (h : b = true) (h2 : b = false) : False := by rw [h] at h2; cases h2
theorem hp_nar (b : Bool) : narrow .boolean (.int (hp_b b)) = .int (hp_b b) := by cases b <;> rfl
theorem hp_nle {a b : Int32} (h : ¬ a ≤ b) : b < a := Int32.not_le.mp h
theorem hp_nlt {a b : Int32} (h : ¬ a < b) : b ≤ a := Int32.not_lt.mp h
theorem hp_len {a b : Int32} (h : a ≤ b) : ¬ b < a := Int32.not_lt.mpr h
theorem hp_ltn {a b : Int32} (h : a < b) : ¬ b ≤ a := Int32.not_le.mpr h
def hp_in (x lo hi : Int32) : Bool := decide (lo ≤ x) && decide (x ≤ hi)
def hp_kd (x : Int32) : Bool := hp_in x 0 2
def hp_st (x : Int32) : Bool := hp_in x 0 3
def hp_si (x : Int32) : Bool := hp_in x 0 11
def hp_el (n : Nat) (x : Int32) : Bool := hp_in x 0 (nI n - 1)
theorem hp_in_iff {x lo hi : Int32} : hp_in x lo hi = true ↔ lo ≤ x ∧ x ≤ hi := by simp [hp_in]
theorem hp_in_of {x hi : Int32} {N : Nat} (hN : hi.toInt = (N : Int)) (h : hp_in x 0 hi = true) : ∃ k, k ≤ N ∧ x = nI k := by
  obtain ⟨h1, h2⟩ := hp_in_iff.mp h
  exact nI_of2 hN (hp_len h1) h2
theorem hp_in_nI {k : Nat} {hi : Int32} {N : Nat} (hN : hi.toInt = (N : Int)) (hk : k ≤ N) (hb : N < 2 ^ 31) : hp_in (nI k) 0 hi = true := by
  refine hp_in_iff.mpr ⟨nI_pos' (by omega), ?_⟩
  rw [Int32.le_iff_toInt_le, nI_toInt (by omega), hN]
  omega
theorem hp_kd_of {x : Int32} (h : hp_kd x = true) : ∃ k, k < 3 ∧ x = nI k := by
  obtain ⟨k, h1, h2⟩ := hp_in_of (N := 2) (by decide) h
  exact ⟨k, by omega, h2⟩
theorem hp_st_of {x : Int32} (h : hp_st x = true) : ∃ k, k < 4 ∧ x = nI k := by
  obtain ⟨k, h1, h2⟩ := hp_in_of (N := 3) (by decide) h
  exact ⟨k, by omega, h2⟩
theorem hp_si_of {x : Int32} (h : hp_si x = true) : ∃ k, k < 12 ∧ x = nI k := by
  obtain ⟨k, h1, h2⟩ := hp_in_of (N := 11) (by decide) h
  exact ⟨k, by omega, h2⟩
theorem hp_kd_nI {k : Nat} (h : k < 3) : hp_kd (nI k) = true := hp_in_nI (N := 2) (by decide) (by omega) (by decide)
theorem hp_st_nI {k : Nat} (h : k < 4) : hp_st (nI k) = true := hp_in_nI (N := 3) (by decide) (by omega) (by decide)
theorem hp_si_nI {k : Nat} (h : k < 12) : hp_si (nI k) = true := hp_in_nI (N := 11) (by decide) (by omega) (by decide)
theorem hp_el_of {n : Nat} (hn : n ≤ 40) {x : Int32} (h : hp_el n x = true) : ∃ i, i < n ∧ x = nI i := by
  cases n with
  | zero =>
    obtain ⟨h1, h2⟩ := hp_in_iff.mp h
    exact absurd (Int32.le_trans h1 h2) (by decide)
  | succ n =>
    have h' : hp_in x 0 (nI n) = true := by
      have e : nI (n + 1) - 1 = nI n := nI_pred n
      unfold hp_el at h
      rw [e] at h
      exact h
    obtain ⟨k, h1, h2⟩ := hp_in_of (N := n) (nI_toInt (by omega)) h'
    exact ⟨k, by omega, h2⟩
theorem hp_el_nI {n i : Nat} (hn : n ≤ 40) (h : i < n) : hp_el n (nI i) = true := by
  cases n with
  | zero => omega
  | succ n =>
    unfold hp_el
    rw [nI_pred n]
    exact hp_in_nI (N := n) (nI_toInt (by omega)) (by omega) (by omega)
theorem hp_cl {k : Nat} (h : k < 2 ^ 31) : (nI k).toNatClampNeg = k := nI_clamp h
/-- the numbers of a row that changes in one place -/
def hp_set (r : Nat → Nat → Int32) (a i : Nat) (x : Int32) : Nat → Nat → Int32 := va_up r a (upd (r a) i x)
/-- some of the first n, and the sum over them -/
def hp_any (f : Nat → Bool) : Nat → Bool
  | 0 => false
  | n + 1 => hp_any f n || f n
def hp_sum (f : Nat → Int32) : Nat → Int32
  | 0 => 0
  | n + 1 => hp_sum f n + f n
def hp_all (f : Nat → Bool) : Nat → Bool
  | 0 => true
  | n + 1 => hp_all f n && f n
theorem hp_any_of {f : Nat → Bool} {n i : Nat} (hi : i < n) (h : f i = true) : hp_any f n = true := by
  induction n with
  | zero => omega
  | succ n ih =>
    rcases Nat.lt_succ_iff_lt_or_eq.mp hi with q | q
    · simp [hp_any, ih q]
    · subst q; simp [hp_any, h]
def hp_gap (a b c d : Int32) : Int32 :=
  if (if a < b then b else a) < (if c < d then c else d) then (if c < d then c else d) - (if a < b then b else a)
  else if (if c < d then d else c) < (if a < b then a else b) then (if a < b then a else b) - (if c < d then d else c) else 0
def hp_abs (x : Int32) : Int32 := if x < 0 then -x else x
def hp_max (a b : Int32) : Int32 := if b < a then a else b
def hp_cix (r : Nat → Nat → Int32) (i j : Nat) : Nat := (3 * r 4 i + r 4 j).toNatClampNeg
/-- elements i and j clash -/
def hp_cla (r : Nat → Nat → Int32) (i j : Nat) : Bool :=
  !(i == j) && !(r 10 i == 4) && !(r 10 j == 4) && (r 5 i == r 5 j) && decide (hp_max (hp_gap (r 6 i) (r 8 i) (r 6 j) (r 8 j)) (hp_gap (r 7 i) (r 9 i) (r 7 j) (r 9 j)) < r 14 (hp_cix r i j))
def hp_has (r : Nat → Nat → Int32) (n i : Nat) : Bool := hp_any (fun j => hp_cla r i j) n
def hp_cel (r : Nat → Nat → Int32) (i : Nat) : Int32 := 1 + hp_abs (r 8 i - r 6 i) + hp_abs (r 9 i - r 7 i)
def hp_par (r : Nat → Nat → Int32) (i : Nat) : Int32 := (hp_cel r i + r 15 (r 4 i).toNatClampNeg - 1) / r 15 (r 4 i).toNatClampNeg
def hp_lst (r : Nat → Nat → Int32) (n : Nat) (k low : Int32) : Int32 := hp_sum (fun i => if (r 4 i == k) && hp_in (r 10 i) low 3 then hp_par r i else 0) n
/-- what the numbers hold to -/
def hp_elm (r : Nat → Nat → Int32) (i : Nat) : Prop :=
  (∃ k, k < 3 ∧ r 4 i = nI k) ∧ (∃ k, k < 4 ∧ r 5 i = nI k) ∧ (∃ k, k < 12 ∧ r 6 i = nI k) ∧ (∃ k, k < 12 ∧ r 7 i = nI k) ∧ (∃ k, k < 12 ∧ r 8 i = nI k) ∧ (∃ k, k < 12 ∧ r 9 i = nI k) ∧ (∃ k, k < 5 ∧ r 10 i = nI k) ∧ (r 6 i = r 8 i ∨ r 7 i = r 9 i)
def hp_inv (v : Nat → Int32) (r : Nat → Nat → Int32) (n : Nat) : Prop :=
  n ≤ 40 ∧ (∀ i, i < n → hp_elm r i) ∧ (∀ i, n ≤ i → i < 40 → r 10 i = 0 ∧ r 13 i = 0) ∧ (∀ i, i < 3 → ∃ k, 1 ≤ k ∧ k ≤ 12 ∧ r 15 i = nI k) ∧ (∀ i, i < 3 → ∃ k, k ≤ 100 ∧ r 16 i = nI k) ∧ (∀ i, i < 4 → ∃ b : Bool, r 17 i = hp_b b) ∧ (∃ d, d ≤ 500 ∧ v 1 = nI d)
/-! the worlds -/
abbrev hp_ty (cI cZ cO cJ : ClassId) : List (ClassId × FieldType) := [(cI, .int), (cZ, .boolean), (cO, .object RX0), (cJ, .int)]
abbrev hp_E (r : Nat → Nat → Int32) (i : Nat) : va_E := .inr (0, [.int (r 4 i), .int (r 5 i), .int (r 6 i), .int (r 7 i), .int (r 8 i), .int (r 9 i), .int (r 10 i), .int (r 11 i), .int (r 12 i), .int (r 13 i)])
def hp_Es (ad : Nat → Nat) (r : Nat → Nat → Int32) (n : Nat) : va_W := (List.range n).map (fun i => (ad i, hp_E r i))
def hp_X0 (cI cZ cO : ClassId) (o : Nat) (b : Nat → Nat) (ad : Nat → Nat) (v : Nat → Int32) (r : Nat → Nat → Int32) (n : Nat) : va_W :=
  [(o, .inr (1, [.ref (b 0), .int (nI n), .ref (b 2), .ref (b 3), .ref (b 4), .ref (b 5), .int (v 2), .int (v 1)])), (b 0, .inl (cO, 40, .inr (.inr (.inr (.inr (fun i => if i < n then some (ad i) else none)))))), (b 2, .inl (cI, 9, .inl (r 14))), (b 3, .inl (cI, 3, .inl (r 15))), (b 4, .inl (cI, 3, .inl (r 16))), (b 5, .inl (cZ, 4, .inl (r 17)))]
def hp_X (cI cZ cO : ClassId) (o : Nat) (b : Nat → Nat) (ad : Nat → Nat) (v : Nat → Int32) (r : Nat → Nat → Int32) (n : Nat) : va_W := hp_X0 cI cZ cO o b ad v r n ++ hp_Es ad r n
theorem hp_Es_get {X : va_W} {ad : Nat → Nat} {r : Nat → Nat → Int32} {n i : Nat} (k : Nat) (hk : X.length = k) (h : i < n) : (X ++ hp_Es ad r n)[k + i]? = some (ad i, hp_E r i) := by
  subst hk
  rw [List.getElem?_append_right (by omega), Nat.add_sub_cancel_left]
  simp [hp_Es, h]
/-! a method that reads a world: its start -/
def hp_pre (D : va_G) (cI cZ cO cJ : ClassId) (w : va_W) : State → Prop := fun U => va_P D vwCl w U.heap ∧ va_K D vwCl (hp_ty cI cZ cO cJ) U
theorem hp_fb {D : va_G} {cI cZ cO cJ : ClassId} {w : va_W} {av : List Value} : FrameBlind (va_Pc av (hp_pre D cI cZ cO cJ w)) := fun a U g mk q => ⟨q.1, q.2.1, va_K.moved (u := U) (U := U.calling g mk a) (Vm.Alike.refl U.vm) q.2.2⟩
theorem hp_to {D : va_G} {cI cZ cO cJ : ClassId} {w : va_W} {s U : State} {H : Heap} (hP : va_P D vwCl w H) (hK : va_K D vwCl (hp_ty cI cZ cO cJ) s) (hU : U.heap = H) (hW : s.WarmedH U.vm) : hp_pre D cI cZ cO cJ w U := ⟨by rw [hU]; exact hP, va_K.moved hW.alike hK⟩
def hp_no : State → Prop := fun _ => True
theorem hp_nfb {av : List Value} : FrameBlind (va_Pc av hp_no) := fun _ _ _ _ q => q
/-! joins and loops of a walk -/
section HPW
variable {p : Program} {l : Launch} {e : Env} {R : Room} {s : State} {m : MethodId} {args : Array Value} {below : List Frame} {meth : Method} {c : Code} {H : Heap} {locs : List Loc} {cells slots : Nat} {Q : State → Prop}
theorem hp_join {g : JFrame} {i : Type} (pc nL : Nat) (P : i → Prop) (LV : i → List (Nat × Value)) (ST : i → List Value)
    (J : ∀ x, P x → ∀ ls : Array Slot, lv_has ls nL (LV x) → W p l e R s m args below meth c H locs cells slots Q (F0 m pc ls (ST x)))
    (B : (∀ x, P x → ∀ ls : Array Slot, lv_has ls nL (LV x) → W p l e R s m args below meth c H locs cells slots Q (F0 m pc ls (ST x))) → W p l e R s m args below meth c H locs cells slots Q g) : W p l e R s m args below meth c H locs cells slots Q g := B J
theorem hp_loop {pc nL : Nat} (LV : Nat → List (Nat × Value)) (N : Nat)
    (step : ∀ k, k ≤ N → (k < N → ∀ ls : Array Slot, lv_has ls nL (LV (k + 1)) → W p l e R s m args below meth c H locs cells slots Q (F0 m pc ls [])) → ∀ ls : Array Slot, lv_has ls nL (LV k) → W p l e R s m args below meth c H locs cells slots Q (F0 m pc ls []))
    {ls : Array Slot} (hl : lv_has ls nL (LV 0)) : W p l e R s m args below meth c H locs cells slots Q (F0 m pc ls []) := by
  have key : ∀ f k, k ≤ N → N - k ≤ f → ∀ ls : Array Slot, lv_has ls nL (LV k) → W p l e R s m args below meth c H locs cells slots Q (F0 m pc ls []) := by
    intro f
    induction f with
    | zero => exact fun k hk hf => step k hk (fun hlt => absurd hlt (by omega))
    | succ f ih => exact fun k hk hf => step k hk (fun hlt => ih (k + 1) (by omega) (by omega))
  exact key N 0 (Nat.zero_le N) (by omega) ls hl
end HPW
/-! arrays by a place that is a number -/
section HPA
variable {p : Program} {l : Launch} {e : Env} {R : Room} {s : State} {m : MethodId} {args : Array Value} {below : List Frame} {meth : Method} {c : Code} {H : Heap} {locs : List Loc} {cells slots : Nat} {Q : State → Prop}
variable {cc : ByteArray} {pc : Nat} {ls : Array Slot} {rest : List Value} {D : va_G} {cl : List vw_C} {A : Nat → Prop} {a : Nat} {tys : List (ClassId × FieldType)} {ws : va_W} {H0 : Heap}
theorem hp_iald (hexec : p.tables.exec = Jvm.exec) (hb : c.code = cc) (hK : va_K D cl tys s) (hP : va_P D cl ws H) (q0 t0 : Nat) {cA : ClassId} {n k : Nat} {f : Nat → Int32} {v : Int32} (ha : ws[q0]? = some (a, .inl (cA, n, .inl f))) (ht : tys[t0]? = some (cA, .int)) (hk : k < n) (hn : n < 2 ^ 31) (hv : f k = v) (hdg : decode cc pc = .ok (.iaload, 1))
    (kk : W p l e R s m args below meth c H locs cells slots Q (F0 m (pc + 1) ls (.int v :: rest))) : W p l e R s m args below meth c H locs cells slots Q (F0 m pc ls (.int (nI k) :: .ref a :: rest)) :=
  va_iald hexec hb hK hP q0 t0 ha ht (vp_in_nI hk hn) hdg (by rw [nI_clamp (Nat.lt_trans hk hn), hv]; exact kk)
theorem hp_zald (hexec : p.tables.exec = Jvm.exec) (hb : c.code = cc) (hK : va_K D cl tys s) (hP : va_P D cl ws H) (q0 t0 : Nat) {cA : ClassId} {n k : Nat} {f : Nat → Int32} {v : Int32} (ha : ws[q0]? = some (a, .inl (cA, n, .inl f))) (ht : tys[t0]? = some (cA, .boolean)) (hk : k < n) (hn : n < 2 ^ 31) (hv : f k = v) (hdg : decode cc pc = .ok (.baload, 1))
    (kk : W p l e R s m args below meth c H locs cells slots Q (F0 m (pc + 1) ls (.int v :: rest))) : W p l e R s m args below meth c H locs cells slots Q (F0 m pc ls (.int (nI k) :: .ref a :: rest)) :=
  va_zald hexec hb hK hP q0 t0 ha ht (vp_in_nI hk hn) hdg (by rw [nI_clamp (Nat.lt_trans hk hn), hv]; exact kk)
theorem hp_aald {C : String} (hexec : p.tables.exec = Jvm.exec) (hb : c.code = cc) (hK : va_K D cl tys s) (hP : va_P D cl ws H) (q0 t0 : Nat) {cA : ClassId} {n k : Nat} {f : Nat → Option Nat} (ha : ws[q0]? = some (a, .inl (cA, n, .inr (.inr (.inr (.inr f)))))) (ht : tys[t0]? = some (cA, .object C)) (hk : k < n) (hn : n < 2 ^ 31) (hdg : decode cc pc = .ok (.aaload, 1))
    (kk : W p l e R s m args below meth c H locs cells slots Q (F0 m (pc + 1) ls (va_rf (f k) :: rest))) : W p l e R s m args below meth c H locs cells slots Q (F0 m pc ls (.int (nI k) :: .ref a :: rest)) :=
  va_aldq (C := C) hexec hb hK hP q0 t0 ha ht (vp_in_nI hk hn) hdg (by rw [nI_clamp (Nat.lt_trans hk hn)]; exact kk)
theorem hp_iast (hexec : p.tables.exec = Jvm.exec) (hb : c.code = cc) (hK : va_K D cl tys s) (hP : va_P D cl ws H) (hD : va_D A ws) (hS : va_S A H0 H locs) (q0 t0 : Nat) {cA : ClassId} {n k : Nat} {f : Nat → Int32} {x : Int32} (ha : ws[q0]? = some (a, .inl (cA, n, .inl f))) (ht : tys[t0]? = some (cA, .int)) (hk : k < n) (hn : n < 2 ^ 31) (hdg : decode cc pc = .ok (.iastore, 1))
    (kk : ∀ (H1 : Heap) (locs1 : List Loc), va_P D cl (ws.set q0 (a, .inl (cA, n, .inl (upd f k x)))) H1 → va_D A (ws.set q0 (a, .inl (cA, n, .inl (upd f k x)))) → va_S A H0 H1 locs1 → W p l e R s m args below meth c H1 locs1 cells slots Q (F0 m (pc + 1) ls rest)) : W p l e R s m args below meth c H locs cells slots Q (F0 m pc ls (.int x :: .int (nI k) :: .ref a :: rest)) :=
  va_iast hexec hb hK hP hD hS q0 t0 ha ht (vp_in_nI hk hn) hdg (by rw [nI_clamp (Nat.lt_trans hk hn)]; exact kk)
end HPA
theorem hp_cP {D : va_G} {cl : List vw_C} {H : Heap} {ws ws' : va_W} (e : ws = ws') (h : va_P D cl ws H) : va_P D cl ws' H := e ▸ h
theorem hp_cD {A : Nat → Prop} {ws ws' : va_W} (e : ws = ws') (h : va_D A ws) : va_D A ws' := e ▸ h
theorem hp_Es_set {X : va_W} {ad : Nat → Nat} {r r' : Nat → Nat → Int32} {n i : Nat} {e : va_E} (k : Nat) (hk : X.length = k) (h : i < n) (he : e = hp_E r' i) (hr : ∀ j, j ≠ i → hp_E r' j = hp_E r j) : (X ++ hp_Es ad r n).set (k + i) (ad i, e) = X ++ hp_Es ad r' n := by
  subst hk
  subst he
  apply List.ext_getElem?
  intro j
  by_cases hj : j < X.length
  · rw [List.getElem?_set_ne (by omega), List.getElem?_append_left hj, List.getElem?_append_left hj]
  · rw [List.getElem?_append_right (by omega)]
    by_cases hji : j = X.length + i
    · subst hji
      rw [List.getElem?_set_self (by rw [List.length_append]; simp [hp_Es]; omega), Nat.add_sub_cancel_left]
      simp [hp_Es, h]
    · rw [List.getElem?_set_ne (by omega), List.getElem?_append_right (by omega)]
      have hne : j - X.length ≠ i := by omega
      simp only [hp_Es, List.getElem?_map]
      by_cases hr2 : j - X.length < n
      · rw [List.getElem?_range hr2]
        simp [hr _ hne]
      · rw [List.getElem?_eq_none (by simp; omega)]
        rfl
/-! a method that writes in a world -/
def hp_prm (D : va_G) (cI cZ cO cJ : ClassId) (w : va_W) (sz : Nat) : State → Prop := fun U => U.heap.size = sz ∧ va_P D vwCl w U.heap ∧ va_K D vwCl (hp_ty cI cZ cO cJ) U ∧ va_D (fun _ => True) w
theorem hp_mfb {D : va_G} {cI cZ cO cJ : ClassId} {w : va_W} {sz : Nat} {av : List Value} : FrameBlind (va_Pc av (hp_prm D cI cZ cO cJ w sz)) := fun a U g mk q => ⟨q.1, q.2.1, q.2.2.1, va_K.moved (u := U) (U := U.calling g mk a) (Vm.Alike.refl U.vm) q.2.2.2.1, q.2.2.2.2⟩
theorem hp_mto {D : va_G} {cI cZ cO cJ : ClassId} {w : va_W} {s U : State} {H : Heap} {A : Nat → Prop} (hP : va_P D vwCl w H) (hK : va_K D vwCl (hp_ty cI cZ cO cJ) s) (hD : va_D A w) (hU : U.heap = H) (hW : s.WarmedH U.vm) : hp_prm D cI cZ cO cJ w H.size U := ⟨by rw [hU], by rw [hU]; exact hP, va_K.moved hW.alike hK, hD.weaken (fun _ _ _ _ => trivial)⟩
theorem hp_free {A : Nat → Prop} {w : va_W} {H0 H : Heap} {locs : List Loc} (hD : va_D A w) (hS : va_S A H0 H locs) (hA : ∀ q, H0.size ≤ q → A q) : ∀ q, va_A w H.size q → A q := by
  intro q h
  rcases h with ⟨k, e, h⟩ | h
  · exact hD.2 k (q, e) h
  · exact hA q (Nat.le_trans hS.1 h)
theorem hp_dfst {A : Nat → Prop} {w w' : va_W} (he : w.map Prod.fst = w'.map Prod.fst) (h : va_D A w) : va_D A w' := by
  have key : ∀ (k : Nat) (q : Nat × va_E), w'[k]? = some q → ∃ q0, w[k]? = some q0 ∧ q0.1 = q.1 := by
    intro k q hk
    have h1 : (w'.map Prod.fst)[k]? = some q.1 := by rw [List.getElem?_map, hk]; rfl
    rw [← he, List.getElem?_map] at h1
    cases h2 : w[k]? with
    | none => rw [h2] at h1; cases h1
    | some q0 => rw [h2] at h1; exact ⟨q0, rfl, Option.some.inj h1⟩
  refine ⟨fun i j x y hi hj hxy => ?_, fun k q hk => ?_⟩
  · obtain ⟨x0, h1, h2⟩ := key i x hi
    obtain ⟨y0, h3, h4⟩ := key j y hj
    exact h.1 i j x0 y0 h1 h3 (h2.trans (hxy.trans h4.symm))
  · obtain ⟨q0, h1, h2⟩ := key k q hk
    rw [← h2]
    exact h.2 k q0 h1
theorem hp_dX {A : Nat → Prop} {cI cZ cO : ClassId} {o : Nat} {b ad : Nat → Nat} {v v' : Nat → Int32} {r r' : Nat → Nat → Int32} {n : Nat} (h : va_D A (hp_X cI cZ cO o b ad v r n)) : va_D A (hp_X cI cZ cO o b ad v' r' n) := hp_dfst (w := hp_X cI cZ cO o b ad v r n) (by simp [hp_X, hp_X0, hp_Es]) h
theorem hp_kd_in {r : Nat → Nat → Int32} {i : Nat} (h : hp_elm r i) : vp_in (r 4 i) 3 := by
  obtain ⟨⟨k, hk, e⟩, -⟩ := h
  rw [e]
  exact vp_in_nI hk (by decide)
theorem hp_cix_nat {r : Nat → Nat → Int32} {i j : Nat} (hi : hp_elm r i) (hj : hp_elm r j) : ∃ a b, a < 3 ∧ b < 3 ∧ r 4 i = nI a ∧ r 4 j = nI b ∧ 3 * r 4 i + r 4 j = nI (3 * a + b) ∧ r 4 i * 3 + r 4 j = nI (3 * a + b) ∧ hp_cix r i j = 3 * a + b := by
  obtain ⟨⟨a, ha, ea⟩, -⟩ := hi
  obtain ⟨⟨b, hb, eb⟩, -⟩ := hj
  have e1 : 3 * r 4 i + r 4 j = nI (3 * a + b) := by
    rw [ea, eb]
    show nI 3 * nI a + nI b = _
    rw [pk_mul, nI_add]
  have e2 : r 4 i * 3 + r 4 j = nI (3 * a + b) := by
    rw [ea, eb]
    show nI a * nI 3 + nI b = _
    rw [pk_mul, nI_add, Nat.mul_comm]
  refine ⟨a, b, ha, hb, ea, eb, e1, e2, ?_⟩
  unfold hp_cix
  rw [e1, nI_clamp (by omega)]
theorem hp_cix_in {r : Nat → Nat → Int32} {i j : Nat} (hi : hp_elm r i) (hj : hp_elm r j) : vp_in (3 * r 4 i + r 4 j) 9 := by
  obtain ⟨a, b, ha, hb, -, -, e, -⟩ := hp_cix_nat hi hj
  rw [e]
  exact vp_in_nI (by omega) (by decide)
theorem hp_pc_pos {v : Nat → Int32} {r : Nat → Nat → Int32} {n i : Nat} (h : hp_inv v r n) (hi : i < n) : ∃ c, 1 ≤ c ∧ c ≤ 12 ∧ r 15 (r 4 i).toNatClampNeg = nI c := by
  obtain ⟨⟨k, hk, e⟩, -⟩ := h.2.1 i hi
  rw [e, nI_clamp (by omega)]
  exact h.2.2.2.1 k hk
theorem hp_pc_ne {v : Nat → Int32} {r : Nat → Nat → Int32} {n i : Nat} (h : hp_inv v r n) (hi : i < n) : ¬ r 15 (r 4 i).toNatClampNeg = 0 := by
  obtain ⟨c, h1, h2, e⟩ := hp_pc_pos h hi
  rw [e]
  exact nI_ne0 (by omega) (by omega)
/-! .. and in the class's -/
theorem hp_X_o {cI cZ cO : ClassId} {o : Nat} {b ad : Nat → Nat} {v : Nat → Int32} {r : Nat → Nat → Int32} {n : Nat} : (hp_X cI cZ cO o b ad v r n)[0]? = some (o, .inr (1, [.ref (b 0), .int (nI n), .ref (b 2), .ref (b 3), .ref (b 4), .ref (b 5), .int (v 2), .int (v 1)])) := rfl
theorem hp_X_0 {cI cZ cO : ClassId} {o : Nat} {b ad : Nat → Nat} {v : Nat → Int32} {r : Nat → Nat → Int32} {n : Nat} : (hp_X cI cZ cO o b ad v r n)[1]? = some (b 0, .inl (cO, 40, .inr (.inr (.inr (.inr (fun i => if i < n then some (ad i) else none)))))) := rfl
theorem hp_X_14 {cI cZ cO : ClassId} {o : Nat} {b ad : Nat → Nat} {v : Nat → Int32} {r : Nat → Nat → Int32} {n : Nat} : (hp_X cI cZ cO o b ad v r n)[2]? = some (b 2, .inl (cI, 9, .inl (r 14))) := rfl
theorem hp_X_s14 {cI cZ cO : ClassId} {o : Nat} {b ad : Nat → Nat} {v : Nat → Int32} {r : Nat → Nat → Int32} {n : Nat} {i : Nat} {x : Int32} : (hp_X cI cZ cO o b ad v r n).set 2 (b 2, .inl (cI, 9, .inl (upd (r 14) i x))) = hp_X cI cZ cO o b ad v (hp_set r 14 i x) n := rfl
theorem hp_X_15 {cI cZ cO : ClassId} {o : Nat} {b ad : Nat → Nat} {v : Nat → Int32} {r : Nat → Nat → Int32} {n : Nat} : (hp_X cI cZ cO o b ad v r n)[3]? = some (b 3, .inl (cI, 3, .inl (r 15))) := rfl
theorem hp_X_s15 {cI cZ cO : ClassId} {o : Nat} {b ad : Nat → Nat} {v : Nat → Int32} {r : Nat → Nat → Int32} {n : Nat} {i : Nat} {x : Int32} : (hp_X cI cZ cO o b ad v r n).set 3 (b 3, .inl (cI, 3, .inl (upd (r 15) i x))) = hp_X cI cZ cO o b ad v (hp_set r 15 i x) n := rfl
theorem hp_X_16 {cI cZ cO : ClassId} {o : Nat} {b ad : Nat → Nat} {v : Nat → Int32} {r : Nat → Nat → Int32} {n : Nat} : (hp_X cI cZ cO o b ad v r n)[4]? = some (b 4, .inl (cI, 3, .inl (r 16))) := rfl
theorem hp_X_s16 {cI cZ cO : ClassId} {o : Nat} {b ad : Nat → Nat} {v : Nat → Int32} {r : Nat → Nat → Int32} {n : Nat} {i : Nat} {x : Int32} : (hp_X cI cZ cO o b ad v r n).set 4 (b 4, .inl (cI, 3, .inl (upd (r 16) i x))) = hp_X cI cZ cO o b ad v (hp_set r 16 i x) n := rfl
theorem hp_X_17 {cI cZ cO : ClassId} {o : Nat} {b ad : Nat → Nat} {v : Nat → Int32} {r : Nat → Nat → Int32} {n : Nat} : (hp_X cI cZ cO o b ad v r n)[5]? = some (b 5, .inl (cZ, 4, .inl (r 17))) := rfl
theorem hp_X_s17 {cI cZ cO : ClassId} {o : Nat} {b ad : Nat → Nat} {v : Nat → Int32} {r : Nat → Nat → Int32} {n : Nat} {i : Nat} {x : Int32} : (hp_X cI cZ cO o b ad v r n).set 5 (b 5, .inl (cZ, 4, .inl (upd (r 17) i x))) = hp_X cI cZ cO o b ad v (hp_set r 17 i x) n := rfl
theorem hp_X_p2 {cI cZ cO : ClassId} {o : Nat} {b ad : Nat → Nat} {v : Nat → Int32} {r : Nat → Nat → Int32} {n : Nat} {x : Int32} : (hp_X cI cZ cO o b ad v r n).set 0 (o, .inr (1, ([.ref (b 0), .int (nI n), .ref (b 2), .ref (b 3), .ref (b 4), .ref (b 5), .int (v 2), .int (v 1)] : List Value).set 6 (.int x))) = hp_X cI cZ cO o b ad (va_up v 2 x) r n := rfl
theorem hp_X_p1 {cI cZ cO : ClassId} {o : Nat} {b ad : Nat → Nat} {v : Nat → Int32} {r : Nat → Nat → Int32} {n : Nat} {x : Int32} : (hp_X cI cZ cO o b ad v r n).set 0 (o, .inr (1, ([.ref (b 0), .int (nI n), .ref (b 2), .ref (b 3), .ref (b 4), .ref (b 5), .int (v 2), .int (v 1)] : List Value).set 7 (.int x))) = hp_X cI cZ cO o b ad (va_up v 1 x) r n := rfl
theorem hp_X_e {cI cZ cO : ClassId} {o : Nat} {b ad : Nat → Nat} {v : Nat → Int32} {r : Nat → Nat → Int32} {n : Nat} {i : Nat} (h : i < n) : (hp_X cI cZ cO o b ad v r n)[6 + i]? = some (ad i, .inr (0, [.int (r 4 i), .int (r 5 i), .int (r 6 i), .int (r 7 i), .int (r 8 i), .int (r 9 i), .int (r 10 i), .int (r 11 i), .int (r 12 i), .int (r 13 i)])) := hp_Es_get 6 rfl h
theorem hp_X_f2 {cI cZ cO : ClassId} {o : Nat} {b ad : Nat → Nat} {v : Nat → Int32} {r : Nat → Nat → Int32} {n : Nat} {i : Nat} {x : Int32} (h : i < n) : (hp_X cI cZ cO o b ad v r n).set (6 + i) (ad i, .inr (0, ([.int (r 4 i), .int (r 5 i), .int (r 6 i), .int (r 7 i), .int (r 8 i), .int (r 9 i), .int (r 10 i), .int (r 11 i), .int (r 12 i), .int (r 13 i)] : List Value).set 2 (.int x))) = hp_X cI cZ cO o b ad v (hp_set r 6 i x) n := hp_Es_set 6 rfl h (by simp [hp_E, hp_set, va_up, upd]) (fun j hj => by simp [hp_E, hp_set, va_up, upd, hj])
theorem hp_X_f3 {cI cZ cO : ClassId} {o : Nat} {b ad : Nat → Nat} {v : Nat → Int32} {r : Nat → Nat → Int32} {n : Nat} {i : Nat} {x : Int32} (h : i < n) : (hp_X cI cZ cO o b ad v r n).set (6 + i) (ad i, .inr (0, ([.int (r 4 i), .int (r 5 i), .int (r 6 i), .int (r 7 i), .int (r 8 i), .int (r 9 i), .int (r 10 i), .int (r 11 i), .int (r 12 i), .int (r 13 i)] : List Value).set 3 (.int x))) = hp_X cI cZ cO o b ad v (hp_set r 7 i x) n := hp_Es_set 6 rfl h (by simp [hp_E, hp_set, va_up, upd]) (fun j hj => by simp [hp_E, hp_set, va_up, upd, hj])
theorem hp_X_f4 {cI cZ cO : ClassId} {o : Nat} {b ad : Nat → Nat} {v : Nat → Int32} {r : Nat → Nat → Int32} {n : Nat} {i : Nat} {x : Int32} (h : i < n) : (hp_X cI cZ cO o b ad v r n).set (6 + i) (ad i, .inr (0, ([.int (r 4 i), .int (r 5 i), .int (r 6 i), .int (r 7 i), .int (r 8 i), .int (r 9 i), .int (r 10 i), .int (r 11 i), .int (r 12 i), .int (r 13 i)] : List Value).set 4 (.int x))) = hp_X cI cZ cO o b ad v (hp_set r 8 i x) n := hp_Es_set 6 rfl h (by simp [hp_E, hp_set, va_up, upd]) (fun j hj => by simp [hp_E, hp_set, va_up, upd, hj])
theorem hp_X_f5 {cI cZ cO : ClassId} {o : Nat} {b ad : Nat → Nat} {v : Nat → Int32} {r : Nat → Nat → Int32} {n : Nat} {i : Nat} {x : Int32} (h : i < n) : (hp_X cI cZ cO o b ad v r n).set (6 + i) (ad i, .inr (0, ([.int (r 4 i), .int (r 5 i), .int (r 6 i), .int (r 7 i), .int (r 8 i), .int (r 9 i), .int (r 10 i), .int (r 11 i), .int (r 12 i), .int (r 13 i)] : List Value).set 5 (.int x))) = hp_X cI cZ cO o b ad v (hp_set r 9 i x) n := hp_Es_set 6 rfl h (by simp [hp_E, hp_set, va_up, upd]) (fun j hj => by simp [hp_E, hp_set, va_up, upd, hj])
theorem hp_X_f6 {cI cZ cO : ClassId} {o : Nat} {b ad : Nat → Nat} {v : Nat → Int32} {r : Nat → Nat → Int32} {n : Nat} {i : Nat} {x : Int32} (h : i < n) : (hp_X cI cZ cO o b ad v r n).set (6 + i) (ad i, .inr (0, ([.int (r 4 i), .int (r 5 i), .int (r 6 i), .int (r 7 i), .int (r 8 i), .int (r 9 i), .int (r 10 i), .int (r 11 i), .int (r 12 i), .int (r 13 i)] : List Value).set 6 (.int x))) = hp_X cI cZ cO o b ad v (hp_set r 10 i x) n := hp_Es_set 6 rfl h (by simp [hp_E, hp_set, va_up, upd]) (fun j hj => by simp [hp_E, hp_set, va_up, upd, hj])
theorem hp_X_f7 {cI cZ cO : ClassId} {o : Nat} {b ad : Nat → Nat} {v : Nat → Int32} {r : Nat → Nat → Int32} {n : Nat} {i : Nat} {x : Int32} (h : i < n) : (hp_X cI cZ cO o b ad v r n).set (6 + i) (ad i, .inr (0, ([.int (r 4 i), .int (r 5 i), .int (r 6 i), .int (r 7 i), .int (r 8 i), .int (r 9 i), .int (r 10 i), .int (r 11 i), .int (r 12 i), .int (r 13 i)] : List Value).set 7 (.int x))) = hp_X cI cZ cO o b ad v (hp_set r 11 i x) n := hp_Es_set 6 rfl h (by simp [hp_E, hp_set, va_up, upd]) (fun j hj => by simp [hp_E, hp_set, va_up, upd, hj])
theorem hp_X_f8 {cI cZ cO : ClassId} {o : Nat} {b ad : Nat → Nat} {v : Nat → Int32} {r : Nat → Nat → Int32} {n : Nat} {i : Nat} {x : Int32} (h : i < n) : (hp_X cI cZ cO o b ad v r n).set (6 + i) (ad i, .inr (0, ([.int (r 4 i), .int (r 5 i), .int (r 6 i), .int (r 7 i), .int (r 8 i), .int (r 9 i), .int (r 10 i), .int (r 11 i), .int (r 12 i), .int (r 13 i)] : List Value).set 8 (.int x))) = hp_X cI cZ cO o b ad v (hp_set r 12 i x) n := hp_Es_set 6 rfl h (by simp [hp_E, hp_set, va_up, upd]) (fun j hj => by simp [hp_E, hp_set, va_up, upd, hj])
theorem hp_X_f9 {cI cZ cO : ClassId} {o : Nat} {b ad : Nat → Nat} {v : Nat → Int32} {r : Nat → Nat → Int32} {n : Nat} {i : Nat} {x : Int32} (h : i < n) : (hp_X cI cZ cO o b ad v r n).set (6 + i) (ad i, .inr (0, ([.int (r 4 i), .int (r 5 i), .int (r 6 i), .int (r 7 i), .int (r 8 i), .int (r 9 i), .int (r 10 i), .int (r 11 i), .int (r 12 i), .int (r 13 i)] : List Value).set 9 (.int x))) = hp_X cI cZ cO o b ad v (hp_set r 13 i x) n := hp_Es_set 6 rfl h (by simp [hp_E, hp_set, va_up, upd]) (fun j hj => by simp [hp_E, hp_set, va_up, upd, hj])
