/-! what each call answers, and what it changes, in the numbers of a house -/
def hp_cd (a b c : Bool) : Int32 := if a = false then 1 else if b = false then 2 else if c = false then 3 else 0
theorem hp_cd0 {a b c : Bool} (h : hp_cd a b c = 0) : a = true ∧ b = true ∧ c = true := by
  cases a <;> cases b <;> cases c <;> first | exact ⟨rfl, rfl, rfl⟩ | exact absurd h (by decide)
theorem hp_cd_ok {a b c : Bool} (h : ¬ hp_cd a b c = 0) : a = false ∨ (a = true ∧ b = false) ∨ (a = true ∧ b = true ∧ c = false) := by
  cases a <;> cases b <;> cases c <;> simp_all [hp_cd]
theorem hp_andl {a b : Bool} (h : (a && b) = true) : a = true := by cases a <;> simp_all
theorem hp_andr {a b : Bool} (h : (a && b) = true) : b = true := by cases a <;> simp_all
theorem hp_eq0 {x : Int32} (h : (!(x == 0)) = false) : x = 0 := by simpa using h
theorem hp_ne0 {x : Int32} (h : (!(x == 0)) = true) : ¬ x = 0 := by simpa using h
theorem hp_el_ix {n : Nat} (hn : n ≤ 40) {x : Int32} (h : hp_el n x = true) : x = nI x.toNatClampNeg ∧ x.toNatClampNeg < n := by
  obtain ⟨i, hi, rfl⟩ := hp_el_of hn h
  rw [nI_clamp (by omega)]
  exact ⟨rfl, hi⟩
theorem hp_kd_ix {x : Int32} (h : hp_kd x = true) : x = nI x.toNatClampNeg ∧ x.toNatClampNeg < 3 := by
  obtain ⟨i, hi, rfl⟩ := hp_kd_of h
  rw [nI_clamp (by omega)]
  exact ⟨rfl, hi⟩
theorem hp_st_ix {x : Int32} (h : hp_st x = true) : x = nI x.toNatClampNeg ∧ x.toNatClampNeg < 4 := by
  obtain ⟨i, hi, rfl⟩ := hp_st_of h
  rw [nI_clamp (by omega)]
  exact ⟨rfl, hi⟩
theorem hp_vin {x : Int32} {N M : Nat} (h : x = nI x.toNatClampNeg ∧ x.toNatClampNeg < N) (hM : N ≤ M) (hb : M < 2 ^ 31) : vp_in x M := by
  rw [h.1]
  exact vp_in_nI (by omega) hb
/-- the codes -/
abbrev hp_c_add (r : Nat → Nat → Int32) (n : Nat) (t f x y z w : Int32) : Int32 := hp_cd (hp_kd t && hp_st f) (hp_si x && hp_si y && hp_si z && hp_si w && (x == z || y == w)) ((r 17 f.toNatClampNeg == 0) && !(nI n == 40))
abbrev hp_c_move (v : Nat → Int32) (r : Nat → Nat → Int32) (n : Nat) (t b p x y : Int32) : Int32 := hp_cd (hp_kd t && hp_el n p) (hp_in b 0 (v 2) && hp_in x (-11) 11 && hp_in y (-11) 11 && hp_si (r 6 p.toNatClampNeg + x) && hp_si (r 8 p.toNatClampNeg + x) && hp_si (r 7 p.toNatClampNeg + y) && hp_si (r 9 p.toNatClampNeg + y)) (r 10 p.toNatClampNeg == 0)
abbrev hp_c_remove (v : Nat → Int32) (r : Nat → Nat → Int32) (n : Nat) (t b p : Int32) : Int32 := hp_cd (hp_kd t && hp_el n p) (hp_in b 0 (v 2)) (r 10 p.toNatClampNeg == 0)
abbrev hp_c_clear (k j c : Int32) : Int32 := hp_cd (hp_kd k && hp_kd j) (hp_in c 0 3) true
abbrev hp_c_part (k c : Int32) : Int32 := hp_cd (hp_kd k) (hp_in c 1 12) true
abbrev hp_c_lead (k c : Int32) : Int32 := hp_cd (hp_kd k) (hp_in c 0 100) true
abbrev hp_c_sta (r : Nat → Nat → Int32) (n : Nat) (p q : Int32) : Int32 := hp_cd (hp_el n p) (r 10 p.toNatClampNeg == q) true
abbrev hp_c_inspect (r : Nat → Nat → Int32) (f : Int32) : Int32 := hp_cd (hp_st f) (r 17 f.toNatClampNeg == 0) true
abbrev hp_c_pass (v : Nat → Int32) (d : Int32) : Int32 := hp_cd (hp_in d 1 100) (decide (v 1 + d ≤ 500)) true
abbrev hp_c_elementOf (n : Nat) (p w : Int32) : Int32 := hp_cd (hp_el n p) (hp_in w 0 9) true
abbrev hp_c_clash (n : Nat) (p q : Int32) : Int32 := hp_cd (hp_el n p && hp_el n q) true true
abbrev hp_c_st (f : Int32) : Int32 := hp_cd (hp_st f) true true
abbrev hp_c_kd (f : Int32) : Int32 := hp_cd (hp_kd f) true true
abbrev hp_c_stopped (t f : Int32) : Int32 := hp_cd (hp_kd t && hp_st f) true true
abbrev hp_c_kindsAt (f x y : Int32) : Int32 := hp_cd (hp_st f) (hp_si x && hp_si y) true
/-- changes -/
def hp_chg (r : Nat → Nat → Int32) (i : Nat) (rev t : Int32) : Nat → Nat → Int32 := hp_set (hp_set r 11 i rev) 12 i t
def hp_new (r : Nat → Nat → Int32) (n : Nat) (t f x y z w rev : Int32) : Nat → Nat → Int32 :=
  hp_chg (hp_set (hp_set (hp_set (hp_set (hp_set (hp_set r 4 n t) 5 n f) 6 n x) 7 n y) 8 n z) 9 n w) n rev t
def hp_mov (r : Nat → Nat → Int32) (i : Nat) (x y : Int32) : Nat → Nat → Int32 :=
  hp_set (hp_set (hp_set (hp_set r 6 i (r 6 i + x)) 8 i (r 8 i + x)) 7 i (r 7 i + y)) 9 i (r 9 i + y)
def hp_tk (r : Nat → Nat → Int32) (t b : Int32) (i : Nat) : Bool := decide (r 11 i ≤ b) || r 12 i == t || decide (t < r 12 i)
def hp_rv (v : Nat → Int32) : Nat → Int32 := va_up v 2 (v 2 + 1)
def hp_r_add (v : Nat → Int32) (r : Nat → Nat → Int32) (n : Nat) (t f x y z w : Int32) : Nat → Nat → Int32 := if hp_c_add r n t f x y z w = 0 then hp_new r n t f x y z w (v 2 + 1) else r
def hp_v_add (v : Nat → Int32) (r : Nat → Nat → Int32) (n : Nat) (t f x y z w : Int32) : Nat → Int32 := if hp_c_add r n t f x y z w = 0 then hp_rv v else v
def hp_n_add (r : Nat → Nat → Int32) (n : Nat) (t f x y z w : Int32) : Nat := if hp_c_add r n t f x y z w = 0 then n + 1 else n
def hp_a_add (r : Nat → Nat → Int32) (n : Nat) (t f x y z w : Int32) : Int32 := if hp_c_add r n t f x y z w = 0 then nI n else 0
def hp_b_move (v : Nat → Int32) (r : Nat → Nat → Int32) (n : Nat) (t b p x y : Int32) : Bool := decide (hp_c_move v r n t b p x y = 0) && hp_tk r t b p.toNatClampNeg
def hp_r_move (v : Nat → Int32) (r : Nat → Nat → Int32) (n : Nat) (t b p x y : Int32) : Nat → Nat → Int32 := if hp_b_move v r n t b p x y = true then hp_chg (hp_mov r p.toNatClampNeg x y) p.toNatClampNeg (v 2 + 1) t else r
def hp_v_move (v : Nat → Int32) (r : Nat → Nat → Int32) (n : Nat) (t b p x y : Int32) : Nat → Int32 := if hp_b_move v r n t b p x y = true then hp_rv v else v
def hp_r_remove (v : Nat → Int32) (r : Nat → Nat → Int32) (n : Nat) (t b p : Int32) : Nat → Nat → Int32 := if hp_c_remove v r n t b p = 0 then hp_chg (hp_set r 10 p.toNatClampNeg 4) p.toNatClampNeg (v 2 + 1) t else r
def hp_v_remove (v : Nat → Int32) (r : Nat → Nat → Int32) (n : Nat) (t b p : Int32) : Nat → Int32 := if hp_c_remove v r n t b p = 0 then hp_rv v else v
def hp_ci (k j : Int32) : Nat := (3 * k + j).toNatClampNeg
def hp_r_clear (r : Nat → Nat → Int32) (k j c : Int32) : Nat → Nat → Int32 := if hp_c_clear k j c = 0 then hp_set (hp_set r 14 (hp_ci k j) c) 14 (hp_ci j k) c else r
def hp_a_clear (r : Nat → Nat → Int32) (k j c : Int32) : Int32 := if hp_c_clear k j c = 0 then r 14 (hp_ci k j) else 0
def hp_r_part (r : Nat → Nat → Int32) (k c : Int32) : Nat → Nat → Int32 := if hp_c_part k c = 0 then hp_set r 15 k.toNatClampNeg c else r
def hp_a_part (r : Nat → Nat → Int32) (k c : Int32) : Int32 := if hp_c_part k c = 0 then r 15 k.toNatClampNeg else 0
def hp_r_lead (r : Nat → Nat → Int32) (k c : Int32) : Nat → Nat → Int32 := if hp_c_lead k c = 0 then hp_set r 16 k.toNatClampNeg c else r
def hp_a_lead (r : Nat → Nat → Int32) (k c : Int32) : Int32 := if hp_c_lead k c = 0 then r 16 k.toNatClampNeg else 0
def hp_due (v : Nat → Int32) (r : Nat → Nat → Int32) (i : Nat) : Int32 := v 1 + r 16 (r 4 i).toNatClampNeg
def hp_r_order (v : Nat → Int32) (r : Nat → Nat → Int32) (n : Nat) (p : Int32) : Nat → Nat → Int32 := if hp_c_sta r n p 0 = 0 then hp_set (hp_set r 13 p.toNatClampNeg (hp_due v r p.toNatClampNeg)) 10 p.toNatClampNeg (if hp_due v r p.toNatClampNeg = v 1 then 2 else 1) else r
def hp_a_order (r : Nat → Nat → Int32) (n : Nat) (p : Int32) : Int32 := if hp_c_sta r n p 0 = 0 then hp_par r p.toNatClampNeg else 0
def hp_r_cancel (r : Nat → Nat → Int32) (n : Nat) (p : Int32) : Nat → Nat → Int32 := if hp_c_sta r n p 1 = 0 then hp_set r 10 p.toNatClampNeg 0 else r
def hp_a_cancel (v : Nat → Int32) (r : Nat → Nat → Int32) (n : Nat) (p : Int32) : Int32 := if hp_c_sta r n p 1 = 0 then r 13 p.toNatClampNeg - v 1 else 0
def hp_b_build (r : Nat → Nat → Int32) (n : Nat) (p : Int32) : Bool := decide (hp_c_sta r n p 2 = 0) && !(hp_has r n p.toNatClampNeg)
def hp_r_build (r : Nat → Nat → Int32) (n : Nat) (p : Int32) : Nat → Nat → Int32 := if hp_b_build r n p = true then hp_set r 10 p.toNatClampNeg 3 else r
/-- element i counts on the storey f, and it is in order there -/
def hp_on (r : Nat → Nat → Int32) (f : Int32) (i : Nat) : Bool := r 5 i == f && !(r 10 i == 4)
def hp_oki (r : Nat → Nat → Int32) (n : Nat) (f : Int32) (i : Nat) : Bool := !(hp_on r f i) || (r 10 i == 3 && !(hp_has r n i))
def hp_cnt (f : Nat → Bool) : Nat → Nat
  | 0 => 0
  | n + 1 => hp_cnt f n + (if f n = true then 1 else 0)
def hp_fin (r : Nat → Nat → Int32) (n : Nat) (f : Int32) : Bool := hp_all (hp_oki r n f) n && hp_any (hp_on r f) n
def hp_b_inspect (r : Nat → Nat → Int32) (n : Nat) (f : Int32) : Bool := decide (hp_c_inspect r f = 0) && hp_fin r n f
def hp_r_inspect (r : Nat → Nat → Int32) (n : Nat) (f : Int32) : Nat → Nat → Int32 := if hp_c_inspect r f = 0 then hp_set r 17 f.toNatClampNeg (hp_b (hp_fin r n f)) else r
def hp_dl (r : Nat → Nat → Int32) (d : Int32) (n : Nat) : Nat → Nat → Int32 := va_up r 10 (fun i => if (decide (i < n) && (r 10 i == 1) && decide (r 13 i ≤ d)) = true then 2 else r 10 i)
def hp_r_pass (v : Nat → Int32) (r : Nat → Nat → Int32) (n : Nat) (d : Int32) : Nat → Nat → Int32 := if hp_c_pass v d = 0 then hp_dl r (v 1 + d) n else r
def hp_v_pass (v : Nat → Int32) (d : Int32) : Nat → Int32 := if hp_c_pass v d = 0 then va_up v 1 (v 1 + d) else v
def hp_a_pass (v : Nat → Int32) (d : Int32) : Int32 := if hp_c_pass v d = 0 then v 1 + d else 0
def hp_elof (r : Nat → Nat → Int32) (i : Nat) (w : Int32) : Int32 := if w = 0 then r 4 i else if w = 1 then r 5 i else if w = 2 then r 6 i else if w = 3 then r 7 i else if w = 4 then r 8 i else if w = 5 then r 9 i else if w = 6 then r 10 i else if w = 7 then r 11 i else if w = 8 then r 12 i else hp_cel r i
def hp_a_elementOf (r : Nat → Nat → Int32) (n : Nat) (p w : Int32) : Int32 := if hp_c_elementOf n p w = 0 then hp_elof r p.toNatClampNeg w else 0
def hp_b_clash (r : Nat → Nat → Int32) (n : Nat) (p q : Int32) : Bool := decide (hp_c_clash n p q = 0) && hp_cla r p.toNatClampNeg q.toNatClampNeg
def hp_b2n (b : Bool) : Int32 := hp_b b
/-- the pairs of element i with those of a lower number, on the storey f -/
def hp_prs (r : Nat → Nat → Int32) (f : Int32) (i : Nat) : Nat → Int32 := hp_sum (fun j => if (r 5 i == f && hp_cla r i j) = true then 1 else 0)
def hp_a_clashes (r : Nat → Nat → Int32) (n : Nat) (f : Int32) : Int32 := if hp_c_st f = 0 then hp_sum (fun i => hp_prs r f i i) n else 0
def hp_stp (r : Nat → Nat → Int32) (n : Nat) (t f : Int32) (i : Nat) : Bool := r 4 i == t && r 5 i == f && hp_has r n i
def hp_b_stopped (r : Nat → Nat → Int32) (n : Nat) (t f : Int32) : Bool := decide (hp_c_stopped t f = 0) && hp_any (hp_stp r n t f) n
def hp_a_parts (r : Nat → Nat → Int32) (n : Nat) (k low : Int32) : Int32 := if hp_c_kd k = 0 then hp_lst r n k low else 0
def hp_at (r : Nat → Nat → Int32) (f x y : Int32) (i : Nat) : Bool := !(r 10 i == 4) && (r 5 i == f) && (hp_gap (r 6 i) (r 8 i) x x == 0) && (hp_gap (r 7 i) (r 9 i) y y == 0)
def hp_bits (r : Nat → Nat → Int32) (f x y : Int32) : Nat → Int32
  | 0 => 0
  | n + 1 => hp_bits r f x y n ||| (if hp_at r f x y n = true then 1 <<< (r 4 n &&& 31) else 0)
def hp_a_kindsAt (r : Nat → Nat → Int32) (n : Nat) (f x y : Int32) : Int32 := if hp_c_kindsAt f x y = 0 then hp_bits r f x y n else 0
def hp_b_isLocked (r : Nat → Nat → Int32) (f : Int32) : Bool := decide (hp_c_st f = 0) && !(r 17 f.toNatClampNeg == 0)
theorem hp_cd1 {a b c : Bool} (h : a = false) : 1 = hp_cd a b c := by rw [h]; rfl
theorem hp_cd2 {a b c : Bool} (h : a = true) (h2 : b = false) : 2 = hp_cd a b c := by rw [h, h2]; rfl
theorem hp_cd3 {a b c : Bool} (h : a = true) (h2 : b = true) (h3 : c = false) : 3 = hp_cd a b c := by rw [h, h2, h3]; rfl
theorem hp_cdz {a b c : Bool} (h : a = true) (h2 : b = true) (h3 : c = true) : 0 = hp_cd a b c := by rw [h, h2, h3]; rfl
theorem hp_lt40 {n : Nat} (hn : n ≤ 40) (h : (!(nI n == 40)) = true) : n < 40 := by
  rcases Nat.lt_or_ge n 40 with q | q
  · exact q
  · have : n = 40 := by omega
    subst this
    exact absurd h (by decide)
theorem hp_ci_in {k j : Int32} (hk : hp_kd k = true) (hj : hp_kd j = true) : vp_in (3 * k + j) 9 := by
  obtain ⟨a, ha, rfl⟩ := hp_kd_of hk
  obtain ⟨b, hb, rfl⟩ := hp_kd_of hj
  show vp_in (nI 3 * nI a + nI b) 9
  rw [pk_mul, nI_add]
  exact vp_in_nI (by omega) (by decide)
theorem hp_cnt_le (f : Nat → Bool) (n : Nat) : hp_cnt f n ≤ n := by
  induction n with
  | zero => exact Nat.le_refl 0
  | succ n ih => simp only [hp_cnt]; split <;> omega
theorem hp_cnt_any (f : Nat → Bool) (n : Nat) : (0 < hp_cnt f n) ↔ hp_any f n = true := by
  induction n with
  | zero => simp [hp_cnt, hp_any]
  | succ n ih =>
    simp only [hp_cnt, hp_any, Bool.or_eq_true]
    by_cases h : f n = true
    · simp [h]
    · simp [h, ih]
theorem hp_cntP {f : Nat → Bool} {n : Nat} (hn : n ≤ 40) (h : ¬ nI (hp_cnt f n) ≤ 0) : hp_any f n = true := by
  have h1 := hp_cnt_le f n
  refine (hp_cnt_any f n).mp (Nat.pos_of_ne_zero (fun e => h ?_))
  rw [e]
  decide
theorem hp_cntN {f : Nat → Bool} {n : Nat} (hn : n ≤ 40) (h : nI (hp_cnt f n) ≤ 0) : hp_any f n = false := by
  have h1 := hp_cnt_le f n
  cases hq : hp_any f n with
  | false => rfl
  | true => exact absurd h (nI_nle ((hp_cnt_any f n).mpr hq) (by omega))
theorem hp_dl0 (r : Nat → Nat → Int32) (d : Int32) : hp_dl r d 0 = r := by
  funext a i
  by_cases h : a = 10
  · subst h
    simp [hp_dl, va_up]
  · simp [hp_dl, va_up, h]
theorem hp_dl1 (r : Nat → Nat → Int32) (d : Int32) (k : Nat) : hp_set (hp_dl r d k) 10 k (if ((r 10 k == 1) && decide (r 13 k ≤ d)) = true then 2 else r 10 k) = hp_dl r d (k + 1) := by
  funext a i
  by_cases h : a = 10
  · subst h
    by_cases hi : i = k
    · subst hi
      simp [hp_set, hp_dl, va_up, upd]
    · have e : (i < k + 1) ↔ (i < k) := by omega
      simp [hp_set, hp_dl, va_up, upd, hi, e]
  · simp [hp_set, hp_dl, va_up, h]
theorem hp_dlk (r : Nat → Nat → Int32) (d : Int32) (k : Nat) : hp_dl r d k 10 k = r 10 k := by simp [hp_dl, va_up]
/-! more rows -/
section HPB
variable {p : Program} {l : Launch} {e : Env} {R : Room} {s : State} {m : MethodId} {args : Array Value} {below : List Frame} {meth : Method} {c : Code} {H : Heap} {locs : List Loc} {cells slots : Nat} {Q : State → Prop}
variable {cc : ByteArray} {pc : Nat} {ls : Array Slot} {rest : List Value} {D : va_G} {cl : List vw_C} {A : Nat → Prop} {a : Nat} {tys : List (ClassId × FieldType)} {ws : va_W} {H0 : Heap}
theorem hp_ialdx (hexec : p.tables.exec = Jvm.exec) (hb : c.code = cc) (hK : va_K D cl tys s) (hP : va_P D cl ws H) (q0 t0 : Nat) {cA : ClassId} {n : Nat} {i v : Int32} {f : Nat → Int32} (ha : ws[q0]? = some (a, .inl (cA, n, .inl f))) (ht : tys[t0]? = some (cA, .int)) (hin : vp_in i n) (hv : f i.toNatClampNeg = v) (hdg : decode cc pc = .ok (.iaload, 1))
    (kk : W p l e R s m args below meth c H locs cells slots Q (F0 m (pc + 1) ls (.int v :: rest))) : W p l e R s m args below meth c H locs cells slots Q (F0 m pc ls (.int i :: .ref a :: rest)) :=
  va_iald hexec hb hK hP q0 t0 ha ht hin hdg (by rw [hv]; exact kk)
theorem hp_zaldx (hexec : p.tables.exec = Jvm.exec) (hb : c.code = cc) (hK : va_K D cl tys s) (hP : va_P D cl ws H) (q0 t0 : Nat) {cA : ClassId} {n : Nat} {i v : Int32} {f : Nat → Int32} (ha : ws[q0]? = some (a, .inl (cA, n, .inl f))) (ht : tys[t0]? = some (cA, .boolean)) (hin : vp_in i n) (hv : f i.toNatClampNeg = v) (hdg : decode cc pc = .ok (.baload, 1))
    (kk : W p l e R s m args below meth c H locs cells slots Q (F0 m (pc + 1) ls (.int v :: rest))) : W p l e R s m args below meth c H locs cells slots Q (F0 m pc ls (.int i :: .ref a :: rest)) :=
  va_zald hexec hb hK hP q0 t0 ha ht hin hdg (by rw [hv]; exact kk)
theorem hp_top {x y : Int32} (h : x = y) (k : W p l e R s m args below meth c H locs cells slots Q (F0 m pc ls (.int y :: rest))) : W p l e R s m args below meth c H locs cells slots Q (F0 m pc ls (.int x :: rest)) := by rw [h]; exact k
theorem hp_loopM {pc nL : Nat} (LV : Nat → List (Nat × Value)) (WS : Nat → va_W) (N : Nat)
    (step : ∀ k, k ≤ N → (k < N → ∀ (H : Heap) (locs : List Loc) (ls : Array Slot), va_P D cl (WS (k + 1)) H → va_S A H0 H locs → lv_has ls nL (LV (k + 1)) → W p l e R s m args below meth c H locs cells slots Q (F0 m pc ls [])) → ∀ (H : Heap) (locs : List Loc) (ls : Array Slot), va_P D cl (WS k) H → va_S A H0 H locs → lv_has ls nL (LV k) → W p l e R s m args below meth c H locs cells slots Q (F0 m pc ls []))
    (hP : va_P D cl (WS 0) H) (hS : va_S A H0 H locs) (hl : lv_has ls nL (LV 0)) : W p l e R s m args below meth c H locs cells slots Q (F0 m pc ls []) := by
  have key : ∀ f k, k ≤ N → N - k ≤ f → ∀ (H : Heap) (locs : List Loc) (ls : Array Slot), va_P D cl (WS k) H → va_S A H0 H locs → lv_has ls nL (LV k) → W p l e R s m args below meth c H locs cells slots Q (F0 m pc ls []) := by
    intro f
    induction f with
    | zero => exact fun k hk hf => step k hk (fun hlt => absurd hlt (by omega))
    | succ f ih => exact fun k hk hf => step k hk (fun hlt => ih (k + 1) (by omega) (by omega))
  exact key N 0 (Nat.zero_le N) (by omega) H locs ls hP hS hl
end HPB
theorem hp_bt2 {b : Bool} (h : b = true) : 1 = hp_b b := by rw [h]; rfl
theorem hp_bf2 {b : Bool} (h : b = false) : 0 = hp_b b := by rw [h]; rfl
theorem hp_ht {D : va_G} {cl : List vw_C} {w : va_W} {t : State} {H : Heap} (ht : t.heap = H) (h : va_P D cl w H) : va_P D cl w t.heap := by rw [ht]; exact h
theorem hp_th {D : va_G} {cl : List vw_C} {w : va_W} {t : State} {H : Heap} (ht : t.heap = H) (h : va_P D cl w t.heap) : va_P D cl w H := by rw [← ht]; exact h
theorem hp_up_rv (v : Nat → Int32) (c : Int32) : hp_rv (va_up v 0 c) = va_up (hp_rv v) 0 c := by
  funext j
  by_cases h : j = 2
  · subst h; simp [hp_rv, va_up]
  · simp [hp_rv, va_up, h]
theorem hp_up_1 (v : Nat → Int32) (c d : Int32) : va_up (va_up v 0 c) 1 d = va_up (va_up v 1 d) 0 c := by
  funext j
  by_cases h : j = 1
  · subst h; simp [va_up]
  · simp [va_up, h]
theorem hp_mvF {a b c d e f : Bool} (h : (a && b) = false) : (a && (b && c && d && e && f)) = false := by cases a <;> cases b <;> simp_all
theorem hp_w9 {w : Nat} (h : w ≤ 9) : w = 0 ∨ w = 1 ∨ w = 2 ∨ w = 3 ∨ w = 4 ∨ w = 5 ∨ w = 6 ∨ w = 7 ∨ w = 8 ∨ w = 9 := by omega
theorem hp_lve {ls : Array Slot} {n : Nat} {L L' : List (Nat × Value)} (h : lv_has ls n L) (e : L = L') : lv_has ls n L' := e ▸ h
theorem hp_nz (b : Bool) : vp_nar .boolean (hp_b b) = hp_b b := by cases b <;> rfl
section HPC
variable {p : Program} {l : Launch} {e : Env} {R : Room} {s : State} {m : MethodId} {args : Array Value} {below : List Frame} {meth : Method} {c : Code} {H : Heap} {locs : List Loc} {cells slots : Nat} {Q : State → Prop}
variable {cc : ByteArray} {pc : Nat} {ls : Array Slot} {rest : List Value} {D : va_G} {cl : List vw_C} {A : Nat → Prop} {a : Nat} {tys : List (ClassId × FieldType)} {ws : va_W} {H0 : Heap}
theorem hp_zastx (hexec : p.tables.exec = Jvm.exec) (hb : c.code = cc) (hK : va_K D cl tys s) (hP : va_P D cl ws H) (hD : va_D A ws) (hS : va_S A H0 H locs) (q0 t0 : Nat) {cA : ClassId} {n : Nat} {f : Nat → Int32} (ha : ws[q0]? = some (a, .inl (cA, n, .inl f))) (ht : tys[t0]? = some (cA, .boolean)) {i : Int32} {x : Int32} (hin : vp_in i n) (hz : vp_nar .boolean x = x) (hdg : decode cc pc = .ok (.bastore, 1))
    (kk : ∀ (H1 : Heap) (locs1 : List Loc), va_P D cl (ws.set q0 (a, .inl (cA, n, .inl (upd f i.toNatClampNeg x)))) H1 → va_D A (ws.set q0 (a, .inl (cA, n, .inl (upd f i.toNatClampNeg x)))) → va_S A H0 H1 locs1 → W p l e R s m args below meth c H1 locs1 cells slots Q (F0 m (pc + 1) ls rest)) : W p l e R s m args below meth c H locs cells slots Q (F0 m pc ls (.int x :: .int i :: .ref a :: rest)) :=
  va_zast hexec hb hK hP hD hS q0 t0 ha ht hin hdg (by rw [hz]; exact kk)
end HPC
