/-! the law's whole: sums -/
def hp_ns (f : Nat → Nat) : Nat → Nat
  | 0 => 0
  | n + 1 => hp_ns f n + f n
theorem hp_sum_ns {F : Nat → Int32} {f : Nat → Nat} {n : Nat} (h : ∀ i, i < n → F i = nI (f i)) : hp_sum F n = nI (hp_ns f n) := by
  induction n with
  | zero => rfl
  | succ n ih =>
    show hp_sum F n + F n = nI (hp_ns f n + f n)
    rw [ih (fun i hi => h i (by omega)), h n (by omega), nI_add]
theorem hp_ns_le {f g : Nat → Nat} {n : Nat} (h : ∀ i, i < n → f i ≤ g i) : hp_ns f n ≤ hp_ns g n := by
  induction n with
  | zero => exact Nat.le_refl 0
  | succ n ih => exact Nat.add_le_add (ih (fun i hi => h i (by omega))) (h n (by omega))
theorem hp_ns_12 {f g : Nat → Nat} {n : Nat} (h : ∀ i, i < n → g i ≤ 12 * f i) : hp_ns g n ≤ 12 * hp_ns f n := by
  induction n with
  | zero => exact Nat.le_refl 0
  | succ n ih =>
    have h1 := ih (fun i hi => h i (by omega))
    have h2 := h n (by omega)
    show hp_ns g n + g n ≤ 12 * (hp_ns f n + f n)
    omega
theorem hp_ns_b {f : Nat → Nat} {n B : Nat} (h : ∀ i, i < n → f i ≤ B) : hp_ns f n ≤ n * B := by
  induction n with
  | zero => simp [hp_ns]
  | succ n ih =>
    have h1 := ih (fun i hi => h i (by omega))
    have h2 := h n (by omega)
    show hp_ns f n + f n ≤ (n + 1) * B
    rw [Nat.add_mul, Nat.one_mul]
    omega
theorem hp_pp_b {s c : Nat} (hs : 1 ≤ s) (hs2 : s ≤ 12) : hp_pp s c ≤ c ∧ c ≤ 12 * hp_pp s c := by
  obtain ⟨m, hm, h⟩ := hp_pp_m (c := c) hs
  constructor
  · rcases Nat.lt_or_ge c (hp_pp s c) with q | q
    · have h1 : (c + 1) * s ≤ hp_pp s c * s := Nat.mul_le_mul_right s q
      have h2 : c * 1 ≤ c * s := Nat.mul_le_mul_left c hs
      rw [Nat.add_mul, Nat.one_mul] at h1
      omega
    · exact q
  · have h1 : hp_pp s c * s ≤ hp_pp s c * 12 := Nat.mul_le_mul_left _ hs2
    omega
/-- the cells of a kind, as the law sums them -/
def hp_G (r : Nat → Nat → Int32) (k : Int32) (i : Nat) : Int32 := if (r 4 i == k) && decide (r 10 i < 4) then hp_cel r i else 0
theorem hp_st_lt {r : Nat → Nat → Int32} {i : Nat} (h : hp_elm r i) : decide (r 10 i < 4) = hp_in (r 10 i) 0 3 := by
  obtain ⟨-, -, -, -, -, -, ⟨k, hk, e⟩, -⟩ := h
  rw [e]
  match k, hk with
  | 0, _ => rfl
  | 1, _ => rfl
  | 2, _ => rfl
  | 3, _ => rfl
  | 4, _ => rfl
theorem hp_in13 {x : Int32} (h : hp_in x 1 3 = true) : hp_in x 0 3 = true := by
  obtain ⟨h1, h2⟩ := hp_in_iff.mp h
  exact hp_in_iff.mpr ⟨Int32.le_trans (by decide) h1, h2⟩
theorem hp_lst_sums {v : Nat → Int32} {r : Nat → Nat → Int32} {n k : Nat} (hi : hp_inv v r n) (hk : k < 3) : ∃ a b c : Nat, hp_lst r n (nI k) 1 = nI a ∧ hp_lst r n (nI k) 0 = nI b ∧ hp_sum (hp_G r (nI k)) n = nI c ∧ a ≤ b ∧ b ≤ c ∧ c ≤ 12 * b ∧ c ≤ 5760 := by
  obtain ⟨s, hs1, hs2, es⟩ := hi.2.2.2.1 k hk
  have hpar : ∀ i, i < n → (r 4 i == nI k) = true → hp_par r i = nI (hp_pp s (hp_cc r i 12 0)) := by
    intro i hin h
    have e4 : r 4 i = nI k := by simpa using h
    unfold hp_par
    rw [e4, nI_clamp (by omega), es]
    exact (hp_pp_cel (hi.2.1 i hin) hs1 hs2).symm
  have L : ∀ low : Int32, hp_lst r n (nI k) low = nI (hp_ns (fun i => if (r 4 i == nI k) && hp_in (r 10 i) low 3 then hp_pp s (hp_cc r i 12 0) else 0) n) := by
    intro low
    unfold hp_lst
    refine hp_sum_ns (fun i hin => ?_)
    by_cases h : ((r 4 i == nI k) && hp_in (r 10 i) low 3) = true
    · rw [if_pos h, if_pos h]
      exact hpar i hin (hp_andl h)
    · rw [if_neg h, if_neg h]
      rfl
  have C : hp_sum (hp_G r (nI k)) n = nI (hp_ns (fun i => if (r 4 i == nI k) && hp_in (r 10 i) 0 3 then hp_cc r i 12 0 else 0) n) := by
    refine hp_sum_ns (fun i hin => ?_)
    unfold hp_G
    rw [hp_st_lt (hi.2.1 i hin)]
    by_cases h : ((r 4 i == nI k) && hp_in (r 10 i) 0 3) = true
    · rw [if_pos h, if_pos h]
      exact (hp_cel_cc (hi.2.1 i hin)).1
    · rw [if_neg h, if_neg h]
      rfl
  refine ⟨_, _, _, L 1, L 0, C, hp_ns_le (fun i hin => ?_), hp_ns_le (fun i hin => ?_), hp_ns_12 (fun i hin => ?_), ?_⟩
  · by_cases h : ((r 4 i == nI k) && hp_in (r 10 i) 1 3) = true
    · rw [if_pos h, if_pos (hp_a2 (hp_andl h) (hp_in13 (hp_andr h)))]
      exact Nat.le_refl _
    · rw [if_neg h]
      exact Nat.zero_le _
  · by_cases h : ((r 4 i == nI k) && hp_in (r 10 i) 0 3) = true
    · rw [if_pos h, if_pos h]
      exact (hp_pp_b hs1 hs2).1
    · rw [if_neg h, if_neg h]
      exact Nat.le_refl _
  · by_cases h : ((r 4 i == nI k) && hp_in (r 10 i) 0 3) = true
    · rw [if_pos h, if_pos h]
      exact (hp_pp_b hs1 hs2).2
    · rw [if_neg h, if_neg h]
      exact Nat.zero_le _
  · have hb : ∀ i, i < n → (if (r 4 i == nI k) && hp_in (r 10 i) 0 3 then hp_cc r i 12 0 else 0) ≤ 144 := fun i hin => by
      split
      · exact (hp_cel_cc (hi.2.1 i hin)).2.2
      · exact Nat.zero_le _
    have h1 := hp_ns_b hb
    have h2 : n * 144 ≤ 40 * 144 := Nat.mul_le_mul_right _ hi.1
    omega
theorem hp_w1a {v : Nat → Int32} {r : Nat → Nat → Int32} {n k : Nat} (hi : hp_inv v r n) (hk : k < 3) : ¬ hp_lst r n (nI k) 0 < hp_lst r n (nI k) 1 ∧ ¬ hp_sum (hp_G r (nI k)) n < hp_lst r n (nI k) 0 ∧ ¬ 12 * hp_lst r n (nI k) 0 < hp_sum (hp_G r (nI k)) n := by
  obtain ⟨a, b, c, e1, e2, e3, h1, h2, h3, h4⟩ := hp_lst_sums hi hk
  rw [e1, e2, e3]
  refine ⟨nI_nlt h1 (by omega), nI_nlt h2 (by omega), ?_⟩
  rw [show (12 : Int32) * nI b = nI (12 * b) from pk_mul 12 b]
  exact nI_nlt h3 (by omega)
/-! clashes are the same either way -/
theorem hp_gap_sym {a b c d : Int32} (ha : ∃ k, k < 12 ∧ a = nI k) (hb : ∃ k, k < 12 ∧ b = nI k) (hc : ∃ k, k < 12 ∧ c = nI k) (hd : ∃ k, k < 12 ∧ d = nI k) : hp_gap a b c d = hp_gap c d a b := by
  obtain ⟨a, ha, rfl⟩ := ha
  obtain ⟨b, hb, rfl⟩ := hb
  obtain ⟨c, hc, rfl⟩ := hc
  obtain ⟨d, hd, rfl⟩ := hd
  rw [hp_gap_nI ha hb hc hd, hp_gap_nI hc hd ha hb, Nat.add_comm]
theorem hp_cix_eq {r : Nat → Nat → Int32} {i j a b : Nat} (ha : r 4 i = nI a) (hb : r 4 j = nI b) (h1 : a < 3) (h2 : b < 3) : hp_cix r i j = 3 * a + b := by
  unfold hp_cix
  rw [ha, hb]
  show (nI 3 * nI a + nI b).toNatClampNeg = _
  rw [pk_mul, nI_add, nI_clamp (by omega)]
theorem hp_cla_sym {r : Nat → Nat → Int32} {i j : Nat} (hi : hp_elm r i) (hj : hp_elm r j) (h2 : hp_e2 r) : hp_cla r i j = hp_cla r j i := by
  obtain ⟨⟨a, ha, ea⟩, -, i6, i7, i8, i9, -, -⟩ := hi
  obtain ⟨⟨b, hb, eb⟩, -, j6, j7, j8, j9, -, -⟩ := hj
  unfold hp_cla
  rw [hp_cix_eq ea eb ha hb, hp_cix_eq eb ea hb ha, h2 a b ha hb, hp_gap_sym i6 i8 j6 j8, hp_gap_sym i7 i9 j7 j9]
  have e1 : (i == j) = (j == i) := by rw [Bool.eq_iff_iff, beq_iff_eq, beq_iff_eq]; exact ⟨Eq.symm, Eq.symm⟩
  have e2 : (r 5 i == r 5 j) = (r 5 j == r 5 i) := by rw [Bool.eq_iff_iff, beq_iff_eq, beq_iff_eq]; exact ⟨Eq.symm, Eq.symm⟩
  rw [e1, e2]
  generalize (r 10 i == 4) = p
  generalize (r 10 j == 4) = q
  cases p <;> cases q <;> simp
theorem hp_cla_stp {r : Nat → Nat → Int32} {n i j : Nat} {f : Int32} (hi : i < n) (hj : j < n) (hf : r 5 i = f) (h : hp_cla r i j = true) : hp_any (hp_stp r n (r 4 i) f) n = true := by
  refine hp_any_of hi ?_
  unfold hp_stp hp_has
  rw [hf, hp_any_of (f := fun j => hp_cla r i j) hj h]
  simp
theorem hp_cla_self {r : Nat → Nat → Int32} {i : Nat} : hp_cla r i i = false := by
  unfold hp_cla
  simp
theorem hp_prs_step {r : Nat → Nat → Int32} {f : Int32} {i j : Nat} (h : r 5 i = f) : hp_prs r f i (j + 1) = hp_prs r f i j + hp_b (hp_cla r i j) := by
  show hp_prs r f i j + (if (r 5 i == f && hp_cla r i j) = true then 1 else 0) = _
  have e : (r 5 i == f) = true := by simpa using h
  rw [e, Bool.true_and]
  cases hp_cla r i j <;> rfl
/-! one element -/
theorem hp_al_lo {x : Int32} (h : ¬ 0 ≤ x) : 1 - x = 1 + hp_abs x := by
  unfold hp_abs
  rw [if_pos (hp_nle h), Int32.sub_eq_add_neg]
theorem hp_al_hi {x : Int32} (h : 0 ≤ x) : 1 + x = 1 + hp_abs x := by
  unfold hp_abs
  rw [if_neg (hp_len h)]
theorem hp_cel_row {r : Nat → Nat → Int32} {i : Nat} (h : r 7 i = r 9 i) : 1 + hp_abs (r 8 i - r 6 i) = hp_cel r i := by
  unfold hp_cel
  rw [h]
  have e : hp_abs (r 9 i - r 9 i) = 0 := by rw [Int32.sub_self]; rfl
  rw [e, Int32.add_zero]
theorem hp_cel_col {r : Nat → Nat → Int32} {i : Nat} (h : r 6 i = r 8 i) : 1 + hp_abs (r 9 i - r 7 i) = hp_cel r i := by
  unfold hp_cel
  rw [h]
  have e : hp_abs (r 8 i - r 8 i) = 0 := by rw [Int32.sub_self]; rfl
  rw [e, Int32.add_zero]
theorem hp_at_own {r : Nat → Nat → Int32} {i : Nat} (h : hp_elm r i) (h4 : ¬ r 10 i = 4) : hp_at r (r 5 i) (r 6 i) (r 7 i) i = true := by
  obtain ⟨-, -, ⟨a, ha, ea⟩, ⟨c, hc, ec⟩, ⟨b, hb, eb⟩, ⟨d, hd, ed⟩, -⟩ := h
  unfold hp_at
  rw [ea, eb, ec, ed, hp_gap_nI ha hb ha ha, hp_gap_nI hc hd hc hc, hp_eqf h4]
  have e1 : min a a - max a b + (min a b - max a a) = 0 := by omega
  have e2 : min c c - max c d + (min c d - max c c) = 0 := by omega
  rw [e1, e2]
  simp [nI_0]
theorem hp_or8 : ∀ m, m < 8 → ∀ k, k < 3 → nI m ||| (1 <<< (nI k &&& 31)) = nI (m ||| 2 ^ k) ∧ m ||| 2 ^ k < 8 ∧ (m ||| 2 ^ k).testBit k = true ∧ (∀ j, j < 3 → m.testBit j = true → (m ||| 2 ^ k).testBit j = true) := by decide
theorem hp_sh8 : ∀ m, m < 8 → ∀ k, k < 3 → m.testBit k = true → (nI m >>> (nI k &&& 31)) &&& 1 = 1 := by decide
theorem hp_bits8 {r : Nat → Nat → Int32} {n : Nat} {f x y : Int32} (he : ∀ i, i < n → ∃ k, k < 3 ∧ r 4 i = nI k) : ∃ m, m < 8 ∧ hp_bits r f x y n = nI m ∧ ∀ i k, i < n → hp_at r f x y i = true → r 4 i = nI k → k < 3 → m.testBit k = true := by
  induction n with
  | zero => exact ⟨0, by decide, rfl, fun i k h => absurd h (Nat.not_lt_zero i)⟩
  | succ n ih =>
    obtain ⟨m, h1, h2, h3⟩ := ih (fun i hi => he i (by omega))
    obtain ⟨q, hq, eq⟩ := he n (by omega)
    by_cases ha : hp_at r f x y n = true
    · obtain ⟨a1, a2, a3, a4⟩ := hp_or8 m h1 q hq
      refine ⟨m ||| 2 ^ q, a2, ?_, fun i k hi hat hk hk3 => ?_⟩
      · rw [hp_bits_t ha, h2, eq, a1]
      · rcases Nat.lt_succ_iff_lt_or_eq.mp hi with z | z
        · exact a4 k hk3 (h3 i k z hat hk hk3)
        · subst z
          have : k = q := (nI_eq (a := k) (b := q) (by omega) (by omega)).mp (hk.symm.trans eq)
          subst this
          exact a3
    · refine ⟨m, h1, ?_, fun i k hi hat hk hk3 => ?_⟩
      · rw [hp_bits_f (by cases h : hp_at r f x y n with | false => rfl | true => exact absurd h ha), h2]
      · rcases Nat.lt_succ_iff_lt_or_eq.mp hi with z | z
        · exact h3 i k z hat hk hk3
        · subst z
          exact absurd hat ha
theorem hp_bit1 {v : Nat → Int32} {r : Nat → Nat → Int32} {n i : Nat} (hinv : hp_inv v r n) (hi : i < n) (h4 : ¬ r 10 i = 4) : (hp_bits r (r 5 i) (r 6 i) (r 7 i) n >>> (r 4 i &&& 31)) &&& 1 = 1 := by
  obtain ⟨m, h1, h2, h3⟩ := hp_bits8 (r := r) (n := n) (f := r 5 i) (x := r 6 i) (y := r 7 i) (fun j hj => (hinv.2.1 j hj).1)
  obtain ⟨k, hk, ek⟩ := (hinv.2.1 i hi).1
  rw [h2, ek]
  exact hp_sh8 m h1 k hk (h3 i k hi (hp_at_own (hinv.2.1 i hi) h4) ek hk)
theorem hp_elS {r : Nat → Nat → Int32} {i : Nat} (h : hp_elm r i) : hp_st (r 5 i) = true ∧ hp_si (r 6 i) = true ∧ hp_si (r 7 i) = true ∧ hp_kd (r 4 i) = true := by
  obtain ⟨⟨k, hk, e4⟩, ⟨f, hf, e5⟩, ⟨a, ha, e6⟩, ⟨c, hc, e7⟩, -⟩ := h
  rw [e4, e5, e6, e7]
  exact ⟨hp_st_nI hf, hp_si_nI ha, hp_si_nI hc, hp_kd_nI hk⟩
theorem hp_ka1 {a b d : Int32} {r : Nat → Nat → Int32} {n : Nat} {f x y : Int32} (hf : hp_st f = true) (hx : hp_si x = true) (hy : hp_si y = true) : hp_w a b d (hp_c_kindsAt f x y) (hp_a_kindsAt r n f x y) = hp_bits r f x y n := by
  have hc : hp_c_kindsAt f x y = 0 := hp_c0 hf (hp_a2 hx hy) rfl
  rw [hp_w0 hc]
  unfold hp_a_kindsAt
  rw [if_pos hc]
theorem hp_sp1 {a b d : Int32} {r : Nat → Nat → Int32} {n : Nat} {t f : Int32} (ht : hp_kd t = true) (hf : hp_st f = true) (h : hp_any (hp_stp r n t f) n = true) : hp_w a b d (hp_c_stopped t f) (hp_b (hp_b_stopped r n t f)) = 1 := by
  have hc : hp_c_stopped t f = 0 := hp_c0 (hp_a2 ht hf) rfl rfl
  rw [hp_w0 hc]
  unfold hp_b_stopped
  rw [decide_eq_true hc, Bool.true_and, h]
  rfl
