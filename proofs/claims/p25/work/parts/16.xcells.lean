/-! parts found cell by cell: the count of the cells that an element covers -/
def hp_pp (s c : Nat) : Nat := (c + s - 1) / s
def hp_pl (s c : Nat) : Nat := hp_pp s c * s - c
theorem hp_pp_m {s c : Nat} (hs : 1 ≤ s) : ∃ m, m < s ∧ hp_pp s c * s + m = c + s - 1 := by
  refine ⟨(c + s - 1) % s, Nat.mod_lt _ (by omega), ?_⟩
  unfold hp_pp
  rw [Nat.mul_comm]
  exact Nat.div_add_mod _ _
theorem hp_pp_up {s c q m : Nat} (hs : 1 ≤ s) (hm : m < s) (h : q * s + m = c + s - 1) : hp_pp s c = q := by
  unfold hp_pp
  rw [← h, Nat.add_comm, Nat.add_mul_div_right _ _ (by omega), Nat.div_eq_of_lt hm, Nat.zero_add]
theorem hp_pp_0 {s c : Nat} (hs : 1 ≤ s) (h : hp_pl s c = 0) : hp_pp s (c + 1) = hp_pp s c + 1 ∧ hp_pl s (c + 1) = s - 1 := by
  obtain ⟨m, hm, e⟩ := hp_pp_m (c := c) hs
  unfold hp_pl at h
  have e1 : hp_pp s (c + 1) = hp_pp s c + 1 := by
    refine hp_pp_up (m := 0) hs (by omega) ?_
    rw [Nat.add_mul]
    omega
  refine ⟨e1, ?_⟩
  unfold hp_pl
  rw [e1, Nat.add_mul]
  omega
theorem hp_pp_1 {s c : Nat} (hs : 1 ≤ s) (h : 0 < hp_pl s c) : hp_pp s (c + 1) = hp_pp s c ∧ hp_pl s (c + 1) = hp_pl s c - 1 := by
  obtain ⟨m, hm, e⟩ := hp_pp_m (c := c) hs
  unfold hp_pl at h ⊢
  have e1 : hp_pp s (c + 1) = hp_pp s c := by
    refine hp_pp_up (m := m + 1) hs (by omega) ?_
    omega
  refine ⟨e1, ?_⟩
  rw [e1]
  omega
theorem hp_pl_lt {s c : Nat} (hs : 1 ≤ s) : hp_pl s c < s := by
  obtain ⟨m, hm, e⟩ := hp_pp_m (c := c) hs
  unfold hp_pl
  omega
def hp_cx (r : Nat → Nat → Int32) (i : Nat) (x : Nat) : Bool := hp_in (nI x) (hp_mn (r 6 i) (r 8 i)) (hp_mx (r 6 i) (r 8 i))
def hp_cy (r : Nat → Nat → Int32) (i : Nat) (y : Nat) : Bool := hp_in (nI y) (hp_mn (r 7 i) (r 9 i)) (hp_mx (r 7 i) (r 9 i))
def hp_cc (r : Nat → Nat → Int32) (i y x : Nat) : Nat := hp_cnt (hp_cy r i) y * hp_cnt (hp_cx r i) 12 + (if hp_cy r i y = true then hp_cnt (hp_cx r i) x else 0)
theorem hp_cc_0 (r : Nat → Nat → Int32) (i y : Nat) : hp_cc r i y 0 = hp_cnt (hp_cy r i) y * hp_cnt (hp_cx r i) 12 := by
  unfold hp_cc
  split <;> simp [hp_cnt]
theorem hp_cc_r (r : Nat → Nat → Int32) (i y : Nat) : hp_cc r i y 12 = hp_cc r i (y + 1) 0 := by
  rw [hp_cc_0]
  unfold hp_cc
  generalize hp_cnt (hp_cx r i) 12 = w
  show _ = (hp_cnt (hp_cy r i) y + (if hp_cy r i y = true then 1 else 0)) * w
  by_cases h : hp_cy r i y = true
  · rw [if_pos h, if_pos h, Nat.add_mul, Nat.one_mul]
  · rw [if_neg h, if_neg h, Nat.add_zero, Nat.add_zero]
theorem hp_cc_t {r : Nat → Nat → Int32} {i y x : Nat} (h : hp_cov r i (nI x) (nI y) = true) : hp_cc r i y (x + 1) = hp_cc r i y x + 1 := by
  have h1 : hp_cx r i x = true := hp_andl h
  have h2 : hp_cy r i y = true := hp_andr h
  unfold hp_cc
  rw [if_pos h2, if_pos h2]
  simp only [hp_cnt, if_pos h1]
  omega
theorem hp_cc_f {r : Nat → Nat → Int32} {i y x : Nat} (h : hp_cov r i (nI x) (nI y) = false) : hp_cc r i y (x + 1) = hp_cc r i y x := by
  have h0 : (hp_cx r i x && hp_cy r i y) = false := h
  unfold hp_cc
  by_cases h2 : hp_cy r i y = true
  · rw [h2, Bool.and_true] at h0
    rw [if_pos h2, if_pos h2]
    simp only [hp_cnt, h0]
    rfl
  · rw [if_neg h2, if_neg h2]
theorem hp_cnt_congr {f g : Nat → Bool} {n : Nat} (h : ∀ i, i < n → f i = g i) : hp_cnt f n = hp_cnt g n := by
  induction n with
  | zero => rfl
  | succ n ih =>
    simp only [hp_cnt]
    rw [ih (fun i hi => h i (by omega)), h n (by omega)]
theorem hp_cnt_12 : ∀ a, a < 12 → ∀ b, b < 12 → hp_cnt (fun x => decide (min a b ≤ x ∧ x ≤ max a b)) 12 = max a b - min a b + 1 := by decide +kernel
theorem hp_cnt_c {a b : Nat} (ha : a < 12) (hb : b < 12) : hp_cnt (fun x => hp_in (nI x) (hp_mn (nI a) (nI b)) (hp_mx (nI a) (nI b))) 12 = max a b - min a b + 1 := by
  rw [← hp_cnt_12 a ha b hb]
  refine hp_cnt_congr fun x hx => ?_
  rw [hp_mn_nI (by omega) (by omega), hp_mx_nI (by omega) (by omega), Bool.eq_iff_iff, hp_in_iff, decide_eq_true_eq, nI_leI (by omega) (by omega), nI_leI (by omega) (by omega)]
theorem hp_abs_nI {a b : Nat} (ha : a < 12) (hb : b < 12) : hp_abs (nI b - nI a) = nI (max a b - min a b) := by
  unfold hp_abs
  by_cases h : b < a
  · rw [if_pos (pk_sneg (by omega) h), Int32.neg_sub, pk_sub (by omega)]
    congr 1
    omega
  · rw [pk_sub (by omega), if_neg (nI_pos (by omega))]
    congr 1
    omega
theorem hp_cel_cc {r : Nat → Nat → Int32} {i : Nat} (h : hp_elm r i) : hp_cel r i = nI (hp_cc r i 12 0) ∧ 1 ≤ hp_cc r i 12 0 ∧ hp_cc r i 12 0 ≤ 144 := by
  obtain ⟨-, -, ⟨a, ha, ea⟩, ⟨c, hc, ec⟩, ⟨b, hb, eb⟩, ⟨d, hd, ed⟩, -, hst⟩ := h
  have e1 : hp_cnt (hp_cx r i) 12 = max a b - min a b + 1 := by
    rw [← hp_cnt_c ha hb, ← ea, ← eb]
    rfl
  have e2 : hp_cnt (hp_cy r i) 12 = max c d - min c d + 1 := by
    rw [← hp_cnt_c hc hd, ← ec, ← ed]
    rfl
  have e3 : hp_cel r i = nI (1 + (max a b - min a b) + (max c d - min c d)) := by
    unfold hp_cel
    rw [ea, eb, ec, ed, hp_abs_nI ha hb, hp_abs_nI hc hd]
    show nI 1 + _ + _ = _
    rw [nI_add, nI_add]
  have e4 : hp_cc r i 12 0 = 1 + (max a b - min a b) + (max c d - min c d) := by
    rw [hp_cc_0, e1, e2]
    rcases hst with q | q
    · have : a = b := by
        rw [ea, eb] at q
        exact (nI_eq (by omega) (by omega)).mp q
      subst this
      rw [Nat.max_self, Nat.min_self, Nat.sub_self, Nat.zero_add, Nat.mul_one]
      omega
    · have : c = d := by
        rw [ec, ed] at q
        exact (nI_eq (by omega) (by omega)).mp q
      subst this
      rw [Nat.max_self, Nat.min_self, Nat.sub_self, Nat.zero_add, Nat.one_mul]
      omega
  rw [e3, e4]
  exact ⟨rfl, by omega, by omega⟩
theorem hp_pp_cel {r : Nat → Nat → Int32} {i s : Nat} (h : hp_elm r i) (hs : 1 ≤ s) (hs2 : s ≤ 12) : nI (hp_pp s (hp_cc r i 12 0)) = (hp_cel r i + nI s - 1) / nI s := by
  obtain ⟨e, h1, h2⟩ := hp_cel_cc h
  rw [e, nI_add]
  show _ = (nI _ - nI 1) / nI s
  rw [pk_sub (by omega), pk_div (by omega) (by omega) (by omega)]
  rfl
theorem hp_pred {n : Nat} (h : 0 < n) : nI n + (-1) = nI (n - 1) := by
  obtain ⟨m, rfl⟩ : ∃ m, n = m + 1 := ⟨n - 1, by omega⟩
  rw [pk_m1, Nat.add_sub_cancel]
theorem hp_p00 {r : Nat → Nat → Int32} {i s : Nat} (hs : 1 ≤ s) : hp_pp s (hp_cc r i 0 0) = 0 ∧ hp_pl s (hp_cc r i 0 0) = 0 := by
  have e : hp_cc r i 0 0 = 0 := by
    rw [hp_cc_0]
    show 0 * _ = 0
    exact Nat.zero_mul _
  have e2 : hp_pp s 0 = 0 := by
    unfold hp_pp
    exact Nat.div_eq_of_lt (by omega)
  rw [e]
  refine ⟨e2, ?_⟩
  unfold hp_pl
  rw [e2, Nat.zero_mul]
