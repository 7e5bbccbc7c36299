/-! numbers that are out of a range, and codes of calls that throw -/
theorem hp_in_f1 {x lo hi : Int32} (h : x.toInt < lo.toInt) : hp_in x lo hi = false := by
  unfold hp_in
  rw [decide_eq_false (fun q => by have := Int32.le_iff_toInt_le.mp q; omega), Bool.false_and]
theorem hp_in_f2 {x lo hi : Int32} (h : hi.toInt < x.toInt) : hp_in x lo hi = false := by
  unfold hp_in
  rw [decide_eq_false (p := x ≤ hi) (fun q => by have := Int32.le_iff_toInt_le.mp q; omega), Bool.and_false]
theorem hp_sub_toInt {a b : Int32} (h1 : -(2 ^ 31) ≤ a.toInt - b.toInt) (h2 : a.toInt - b.toInt < 2 ^ 31) : (a - b).toInt = a.toInt - b.toInt := by
  rw [Int32.toInt_sub]
  exact Int.bmod_eq_of_le (by omega) (by omega)
theorem hp_lo1 {x : Nat} (hx : x < 2 ^ 30) {lo hi : Int32} (h : lo.toInt = 0) : hp_in (-1 - nI x) lo hi = false := by
  refine hp_in_f1 ?_
  have e1 : (-1 : Int32).toInt = -1 := rfl
  rw [hp_sub_toInt (by rw [e1, nI_toInt (by omega)]; omega) (by rw [e1, nI_toInt (by omega)]; omega), e1, nI_toInt (by omega), h]
  omega
theorem hp_lo12 {x : Nat} (hx : x < 2 ^ 30) : hp_in (-12 - nI x) (-11) 11 = false := by
  refine hp_in_f1 ?_
  have e1 : (-12 : Int32).toInt = -12 := rfl
  have e2 : (-11 : Int32).toInt = -11 := rfl
  rw [hp_sub_toInt (by rw [e1, nI_toInt (by omega)]; omega) (by rw [e1, nI_toInt (by omega)]; omega), e1, nI_toInt (by omega), e2]
  omega
theorem hp_lo0 {x : Nat} (hx : x < 2 ^ 30) {hi : Int32} : hp_in (-nI x) 1 hi = false := by
  refine hp_in_f1 ?_
  have e0 : (0 : Int32).toInt = 0 := rfl
  have e1 : (1 : Int32).toInt = 1 := rfl
  have e : -nI x = 0 - nI x := by simp
  rw [e, hp_sub_toInt (by rw [e0, nI_toInt (by omega)]; omega) (by rw [e0, nI_toInt (by omega)]; omega), e0, nI_toInt (by omega), e1]
  omega
theorem hp_hi {x : Nat} {lo hi : Int32} (h : hi.toInt < (x : Int)) (hx : x < 2 ^ 31) : hp_in (nI x) lo hi = false := hp_in_f2 (by rw [nI_toInt hx]; exact h)
theorem hp_hiE {n x : Nat} (hn : n ≤ 40) (hx : x < 2 ^ 30) : hp_el n (nI (n + x)) = false := by
  unfold hp_el
  cases n with
  | zero => exact hp_hi (by show (nI 0 - 1).toInt < _; have : (nI 0 - 1).toInt = -1 := rfl; omega) (by omega)
  | succ n =>
    rw [nI_pred n]
    exact hp_hi (by rw [nI_toInt (by omega)]; omega) (by omega)
/-- what the bad numbers of a refused call hold to -/
def hp_bad (v : Nat → Int32) (n : Nat) (T F O C B : Int32) : Prop := hp_kd T = false ∧ hp_st F = false ∧ hp_el n O = false ∧ hp_si C = false ∧ hp_in B 0 (v 2) = false
theorem hp_bad_lo {v : Nat → Int32} {n x : Nat} (hx : x < 2 ^ 30) : hp_bad v n (-1 - nI x) (-1 - nI x) (-1 - nI x) (-1 - nI x) (-1 - nI x) := ⟨hp_lo1 hx rfl, hp_lo1 hx rfl, hp_lo1 hx rfl, hp_lo1 hx rfl, hp_lo1 hx rfl⟩
theorem hp_bad_hi {v : Nat → Int32} {n x rv : Nat} (hn : n ≤ 40) (hx : x < 2 ^ 30) (hv : v 2 = nI rv) (hr : rv ≤ 1000) : hp_bad v n (nI (3 + x)) (nI (4 + x)) (nI (n + x)) (nI (12 + x)) (nI (rv + 1 + x)) :=
  ⟨hp_hi (by show (2 : Int) < _; omega) (by omega), hp_hi (by show (3 : Int) < _; omega) (by omega), hp_hiE hn hx, hp_hi (by show (11 : Int) < _; omega) (by omega), by rw [hv]; exact hp_hi (by rw [nI_toInt (by omega)]; omega) (by omega)⟩
theorem hp_kd3 (x : Nat) : hp_kd (nI (x % 3)) = true := hp_kd_nI (Nat.mod_lt _ (by decide))
theorem hp_st4 (x : Nat) : hp_st (nI (x % 4)) = true := hp_st_nI (Nat.mod_lt _ (by decide))
theorem hp_wk {a b d c k x : Int32} (h : c = k) (h0 : ¬ k = 0) : hp_w a b d c x = hp_w a b d k 0 := by
  subst h
  unfold hp_w
  rw [if_neg h0, if_neg h0]
theorem hp_a0 {a b : Bool} (h : a = false) : (a && b) = false := by rw [h]; rfl
theorem hp_a1 {a b : Bool} (h : b = false) : (a && b) = false := by rw [h]; cases a <;> rfl
theorem hp_a2 {a b : Bool} (h : a = true) (h2 : b = true) : (a && b) = true := by rw [h, h2]; rfl
theorem hp_c1 {a b c : Bool} (h : a = false) : hp_cd a b c = 1 := (hp_cd1 h).symm
theorem hp_c2 {a b c : Bool} (h : a = true) (h2 : b = false) : hp_cd a b c = 2 := (hp_cd2 h h2).symm
theorem hp_c3 {a b c : Bool} (h : a = true) (h2 : b = true) (h3 : c = false) : hp_cd a b c = 3 := (hp_cd3 h h2 h3).symm
theorem hp_c0 {a b c : Bool} (h : a = true) (h2 : b = true) (h3 : c = true) : hp_cd a b c = 0 := (hp_cdz h h2 h3).symm
theorem hp_dia (x : Nat) : (hp_si (nI (x % 11)) && hp_si 3 && hp_si (nI (x % 11 + 1)) && hp_si 4 && (nI (x % 11) == nI (x % 11 + 1) || (3 : Int32) == 4)) = false := by
  refine hp_a1 ?_
  have h : (nI (x % 11) == nI (x % 11 + 1)) = false := by
    rw [beq_eq_false_iff_ne]
    intro q
    have hm := Nat.mod_lt x (show 0 < 11 by decide)
    have := (nI_eq (a := x % 11) (b := x % 11 + 1) (by omega) (by omega)).mp q
    omega
  rw [h]
  rfl
theorem hp_left {x : Int32} : hp_si (x + (-1 - x)) = false := by
  have e : x + (-1 - x) = -1 := by
    rw [Int32.add_comm]
    exact Int32.sub_add_cancel _ _
  rw [e]
  rfl
/-- the range of a move by nothing that is not taken for its state -/
theorem hp_mv0 {v : Nat → Int32} {r : Nat → Nat → Int32} {i rv : Nat} (he : hp_elm r i) (hv : v 2 = nI rv) (hr : rv ≤ 1000) : (hp_in 0 0 (v 2) && hp_in 0 (-11) 11 && hp_in 0 (-11) 11 && hp_si (r 6 i + 0) && hp_si (r 8 i + 0) && hp_si (r 7 i + 0) && hp_si (r 9 i + 0)) = true := by
  obtain ⟨-, -, ⟨a, ha, ea⟩, ⟨b, hb, eb⟩, ⟨c, hc, ec⟩, ⟨d, hd, ed⟩, -⟩ := he
  have h0 : hp_in 0 0 (v 2) = true := by
    rw [hv]
    exact hp_in_nI (k := 0) (N := rv) (nI_toInt (by omega)) (by omega) (by omega)
  rw [h0, ea, eb, ec, ed, Int32.add_zero, Int32.add_zero, Int32.add_zero, Int32.add_zero, hp_si_nI ha, hp_si_nI hb, hp_si_nI hc, hp_si_nI hd]
  rfl
theorem hp_in00 {v : Nat → Int32} {rv : Nat} (hv : v 2 = nI rv) (hr : rv ≤ 1000) : hp_in 0 0 (v 2) = true := by
  rw [hv]
  exact hp_in_nI (k := 0) (N := rv) (nI_toInt (by omega)) (by omega) (by omega)
theorem hp_eqf {x y : Int32} (h : ¬ x = y) : (x == y) = false := by rw [beq_eq_false_iff_ne]; exact h
/-! what the readers answer of an element that is there -/
theorem hp_eo {a b d : Int32} {r : Nat → Nat → Int32} {n i : Nat} {w : Int32} (hn : n ≤ 40) (hi : i < n) (hw : hp_in w 0 9 = true) : hp_w a b d (hp_c_elementOf n (nI i) w) (hp_a_elementOf r n (nI i) w) = hp_elof r i w := by
  have hc : hp_c_elementOf n (nI i) w = 0 := hp_c0 (hp_el_nI hn hi) hw rfl
  rw [hp_w0 hc]
  unfold hp_a_elementOf
  rw [if_pos hc, nI_clamp (by omega)]
theorem hp_eo0 {a b d : Int32} {r : Nat → Nat → Int32} {n i : Nat} (hn : n ≤ 40) (hi : i < n) : hp_w a b d (hp_c_elementOf n (nI i) 0) (hp_a_elementOf r n (nI i) 0) = r 4 i := (hp_eo hn hi rfl).trans rfl
theorem hp_eo1 {a b d : Int32} {r : Nat → Nat → Int32} {n i : Nat} (hn : n ≤ 40) (hi : i < n) : hp_w a b d (hp_c_elementOf n (nI i) 1) (hp_a_elementOf r n (nI i) 1) = r 5 i := (hp_eo hn hi rfl).trans rfl
theorem hp_eo2 {a b d : Int32} {r : Nat → Nat → Int32} {n i : Nat} (hn : n ≤ 40) (hi : i < n) : hp_w a b d (hp_c_elementOf n (nI i) 2) (hp_a_elementOf r n (nI i) 2) = r 6 i := (hp_eo hn hi rfl).trans rfl
theorem hp_eo3 {a b d : Int32} {r : Nat → Nat → Int32} {n i : Nat} (hn : n ≤ 40) (hi : i < n) : hp_w a b d (hp_c_elementOf n (nI i) 3) (hp_a_elementOf r n (nI i) 3) = r 7 i := (hp_eo hn hi rfl).trans rfl
theorem hp_eo4 {a b d : Int32} {r : Nat → Nat → Int32} {n i : Nat} (hn : n ≤ 40) (hi : i < n) : hp_w a b d (hp_c_elementOf n (nI i) 4) (hp_a_elementOf r n (nI i) 4) = r 8 i := (hp_eo hn hi rfl).trans rfl
theorem hp_eo5 {a b d : Int32} {r : Nat → Nat → Int32} {n i : Nat} (hn : n ≤ 40) (hi : i < n) : hp_w a b d (hp_c_elementOf n (nI i) 5) (hp_a_elementOf r n (nI i) 5) = r 9 i := (hp_eo hn hi rfl).trans rfl
theorem hp_eo6 {a b d : Int32} {r : Nat → Nat → Int32} {n i : Nat} (hn : n ≤ 40) (hi : i < n) : hp_w a b d (hp_c_elementOf n (nI i) 6) (hp_a_elementOf r n (nI i) 6) = r 10 i := (hp_eo hn hi rfl).trans rfl
theorem hp_eo7 {a b d : Int32} {r : Nat → Nat → Int32} {n i : Nat} (hn : n ≤ 40) (hi : i < n) : hp_w a b d (hp_c_elementOf n (nI i) 7) (hp_a_elementOf r n (nI i) 7) = r 11 i := (hp_eo hn hi rfl).trans rfl
theorem hp_eo9 {a b d : Int32} {r : Nat → Nat → Int32} {n i : Nat} (hn : n ≤ 40) (hi : i < n) : hp_w a b d (hp_c_elementOf n (nI i) 9) (hp_a_elementOf r n (nI i) 9) = hp_cel r i := (hp_eo hn hi rfl).trans rfl
theorem hp_cl0 {a b d : Int32} {r : Nat → Nat → Int32} {n i j : Nat} (hn : n ≤ 40) (hi : i < n) (hj : j < n) : hp_w a b d (hp_c_clash n (nI i) (nI j)) (hp_b (hp_b_clash r n (nI i) (nI j))) = hp_b (hp_cla r i j) := by
  have hc : hp_c_clash n (nI i) (nI j) = 0 := hp_c0 (hp_a2 (hp_el_nI hn hi) (hp_el_nI hn hj)) rfl rfl
  rw [hp_w0 hc]
  unfold hp_b_clash
  rw [decide_eq_true hc, Bool.true_and, nI_clamp (by omega), nI_clamp (by omega)]
theorem hp_pa0 {a b d : Int32} {r : Nat → Nat → Int32} {n k : Nat} {low : Int32} (hk : k < 3) : hp_w a b d (hp_c_kd (nI k)) (hp_a_parts r n (nI k) low) = hp_lst r n (nI k) low := by
  have hc : hp_c_kd (nI k) = 0 := hp_c0 (hp_kd_nI hk) rfl rfl
  rw [hp_w0 hc]
  unfold hp_a_parts
  rw [if_pos hc]
theorem hp_lk0 {a b d : Int32} {r : Nat → Nat → Int32} {f : Nat} (hf : f < 4) : hp_w a b d (hp_c_st (nI f)) (hp_b (hp_b_isLocked r (nI f))) = hp_b (!(r 17 f == 0)) := by
  have hc : hp_c_st (nI f) = 0 := hp_c0 (hp_st_nI hf) rfl rfl
  rw [hp_w0 hc]
  unfold hp_b_isLocked
  rw [decide_eq_true hc, Bool.true_and, nI_clamp (by omega)]
theorem hp_cs0 {a b d : Int32} {r : Nat → Nat → Int32} {n f : Nat} (hf : f < 4) : hp_w a b d (hp_c_st (nI f)) (hp_a_clashes r n (nI f)) = hp_sum (fun i => hp_prs r (nI f) i i) n := by
  have hc : hp_c_st (nI f) = 0 := hp_c0 (hp_st_nI hf) rfl rfl
  rw [hp_w0 hc]
  unfold hp_a_clashes
  rw [if_pos hc]
theorem hp_sp0 {a b d : Int32} {r : Nat → Nat → Int32} {n k f : Nat} (hk : k < 3) (hf : f < 4) : hp_w a b d (hp_c_stopped (nI k) (nI f)) (hp_b (hp_b_stopped r n (nI k) (nI f))) = hp_b (hp_any (hp_stp r n (nI k) (nI f)) n) := by
  have hc : hp_c_stopped (nI k) (nI f) = 0 := hp_c0 (hp_a2 (hp_kd_nI hk) (hp_st_nI hf)) rfl rfl
  rw [hp_w0 hc]
  unfold hp_b_stopped
  rw [decide_eq_true hc, Bool.true_and]
theorem hp_ka0 {a b d : Int32} {r : Nat → Nat → Int32} {n f x y : Nat} (hf : f < 4) (hx : x < 12) (hy : y < 12) : hp_w a b d (hp_c_kindsAt (nI f) (nI x) (nI y)) (hp_a_kindsAt r n (nI f) (nI x) (nI y)) = hp_bits r (nI f) (nI x) (nI y) n := by
  have hc : hp_c_kindsAt (nI f) (nI x) (nI y) = 0 := hp_c0 (hp_st_nI hf) (hp_a2 (hp_si_nI hx) (hp_si_nI hy)) rfl
  rw [hp_w0 hc]
  unfold hp_a_kindsAt
  rw [if_pos hc]
