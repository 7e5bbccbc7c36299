/-! what an act answers, and the house behind it -/
def hp_ao (n y : Nat) : Nat := if n = 0 then 0 else y % n
abbrev hp_S : Type := Int32 × (Nat → Int32) × (Nat → Nat → Int32) × Nat
abbrev hp_t_add (v : Nat → Int32) (r : Nat → Nat → Int32) (n : Nat) (p0 p1 p2 p3 p4 p5 : Int32) : hp_S := (hp_w hp_K1 hp_K2 hp_K3 (hp_c_add r n p0 p1 p2 p3 p4 p5) (hp_a_add r n p0 p1 p2 p3 p4 p5), (hp_v_add v r n p0 p1 p2 p3 p4 p5), (hp_r_add v r n p0 p1 p2 p3 p4 p5), (hp_n_add r n p0 p1 p2 p3 p4 p5))
abbrev hp_t_move (v : Nat → Int32) (r : Nat → Nat → Int32) (n : Nat) (p0 p1 p2 p3 p4 : Int32) : hp_S := (hp_w hp_K1 hp_K2 hp_K3 (hp_c_move v r n p0 p1 p2 p3 p4) (hp_b (hp_b_move v r n p0 p1 p2 p3 p4)), (hp_v_move v r n p0 p1 p2 p3 p4), (hp_r_move v r n p0 p1 p2 p3 p4), n)
abbrev hp_t_remove (v : Nat → Int32) (r : Nat → Nat → Int32) (n : Nat) (p0 p1 p2 : Int32) : hp_S := (hp_w hp_K1 hp_K2 hp_K3 (hp_c_remove v r n p0 p1 p2) (1), (hp_v_remove v r n p0 p1 p2), (hp_r_remove v r n p0 p1 p2), n)
abbrev hp_t_clear (v : Nat → Int32) (r : Nat → Nat → Int32) (n : Nat) (p0 p1 p2 : Int32) : hp_S := (hp_w hp_K1 hp_K2 hp_K2 (hp_c_clear p0 p1 p2) (hp_a_clear r p0 p1 p2), v, (hp_r_clear r p0 p1 p2), n)
abbrev hp_t_part (v : Nat → Int32) (r : Nat → Nat → Int32) (n : Nat) (p0 p1 : Int32) : hp_S := (hp_w hp_K1 hp_K2 hp_K2 (hp_c_part p0 p1) (hp_a_part r p0 p1), v, (hp_r_part r p0 p1), n)
abbrev hp_t_lead (v : Nat → Int32) (r : Nat → Nat → Int32) (n : Nat) (p0 p1 : Int32) : hp_S := (hp_w hp_K1 hp_K2 hp_K2 (hp_c_lead p0 p1) (hp_a_lead r p0 p1), v, (hp_r_lead r p0 p1), n)
abbrev hp_t_order (v : Nat → Int32) (r : Nat → Nat → Int32) (n : Nat) (p0 : Int32) : hp_S := (hp_w hp_K1 hp_K3 hp_K3 (hp_c_sta r n p0 0) (hp_a_order r n p0), v, (hp_r_order v r n p0), n)
abbrev hp_t_cancel (v : Nat → Int32) (r : Nat → Nat → Int32) (n : Nat) (p0 : Int32) : hp_S := (hp_w hp_K1 hp_K3 hp_K3 (hp_c_sta r n p0 1) (hp_a_cancel v r n p0), v, (hp_r_cancel r n p0), n)
abbrev hp_t_build (v : Nat → Int32) (r : Nat → Nat → Int32) (n : Nat) (p0 : Int32) : hp_S := (hp_w hp_K1 hp_K3 hp_K3 (hp_c_sta r n p0 2) (hp_b (hp_b_build r n p0)), v, (hp_r_build r n p0), n)
abbrev hp_t_inspect (v : Nat → Int32) (r : Nat → Nat → Int32) (n : Nat) (p0 : Int32) : hp_S := (hp_w hp_K1 hp_K3 hp_K3 (hp_c_inspect r p0) (hp_b (hp_b_inspect r n p0)), v, (hp_r_inspect r n p0), n)
abbrev hp_t_pass (v : Nat → Int32) (r : Nat → Nat → Int32) (n : Nat) (p0 : Int32) : hp_S := (hp_w hp_K2 hp_K3 hp_K3 (hp_c_pass v p0) (hp_a_pass v p0), (hp_v_pass v p0), (hp_r_pass v r n p0), n)
def hp_ay (v : Nat → Int32) (r : Nat → Nat → Int32) (n x y w : Nat) : hp_S :=
  if x % 20 < 4 then (if y % 2 = 0 then hp_t_add v r n (nI (y / 2 % 3)) (nI (y / 6 % 2)) (nI (y / 12 % 12)) (nI (y / 144 % 12)) (nI (y / 1728 % 12)) (nI (y / 144 % 12)) else hp_t_add v r n (nI (y / 2 % 3)) (nI (y / 6 % 2)) (nI (y / 12 % 12)) (nI (y / 144 % 12)) (nI (y / 12 % 12)) (nI (y / 1728 % 12)))
  else if x % 20 < 8 then hp_t_move v r n (nI (y / 40 % 3)) (v 2 - nI (y / 120 % 5)) (nI w) (nI (y / 600 % 7) - 3) (nI (y / 4200 % 7) - 3)
  else if x % 20 < 9 then (if y % 2 = 0 then hp_t_remove v r n (nI (y / 40 % 3)) (v 2 - nI (y / 120 % 5)) (nI w) else hp_t_clear v r n (nI (y / 2 % 3)) (nI (y / 6 % 3)) (nI (y / 18 % 4)))
  else if x % 20 < 10 then hp_t_clear v r n (nI (y % 3)) (nI (y / 3 % 3)) (nI (y / 9 % 4))
  else if x % 20 < 11 then (if y % 2 = 0 then hp_t_part v r n (nI (y / 2 % 3)) (nI (1 + y / 6 % 12)) else hp_t_lead v r n (nI (y / 2 % 3)) (nI (y / 6 % 9)))
  else if x % 20 < 14 then hp_t_order v r n (nI w)
  else if x % 20 < 15 then (if y % 3 = 0 then hp_t_cancel v r n (nI w) else hp_t_order v r n (nI w))
  else if x % 20 < 17 then hp_t_build v r n (nI w)
  else if x % 20 < 18 then hp_t_inspect v r n (nI (y % 2))
  else hp_t_pass v r n (nI (1 + y % 7))
def hp_act (v : Nat → Int32) (r : Nat → Nat → Int32) (n x : Nat) : hp_S := hp_ay v r n x (x / 20) (hp_ao n (x / 20))
theorem hp_act_ay {v : Nat → Int32} {r : Nat → Nat → Int32} {n x y w : Nat} (hy : x / 20 = y) (hw : hp_ao n y = w) : hp_act v r n x = hp_ay v r n x y w := by subst hy; subst hw; rfl
theorem hp_ay_add0 {v : Nat → Int32} {r : Nat → Nat → Int32} {n x y w : Nat} (h1 : 0 ≤ x % 20) (h2 : x % 20 < 4) (h3 : y % 2 = 0) : hp_ay v r n x y w = hp_t_add v r n (nI (y / 2 % 3)) (nI (y / 6 % 2)) (nI (y / 12 % 12)) (nI (y / 144 % 12)) (nI (y / 1728 % 12)) (nI (y / 144 % 12)) := by
  unfold hp_ay
  rw [if_pos (show x % 20 < 4 by omega), if_pos h3]
theorem hp_ay_add1 {v : Nat → Int32} {r : Nat → Nat → Int32} {n x y w : Nat} (h1 : 0 ≤ x % 20) (h2 : x % 20 < 4) (h3 : ¬ y % 2 = 0) : hp_ay v r n x y w = hp_t_add v r n (nI (y / 2 % 3)) (nI (y / 6 % 2)) (nI (y / 12 % 12)) (nI (y / 144 % 12)) (nI (y / 12 % 12)) (nI (y / 1728 % 12)) := by
  unfold hp_ay
  rw [if_pos (show x % 20 < 4 by omega), if_neg h3]
theorem hp_ay_move {v : Nat → Int32} {r : Nat → Nat → Int32} {n x y w : Nat} (h1 : 4 ≤ x % 20) (h2 : x % 20 < 8) : hp_ay v r n x y w = hp_t_move v r n (nI (y / 40 % 3)) (v 2 - nI (y / 120 % 5)) (nI w) (nI (y / 600 % 7) - 3) (nI (y / 4200 % 7) - 3) := by
  unfold hp_ay
  rw [if_neg (show ¬ x % 20 < 4 by omega), if_pos (show x % 20 < 8 by omega)]
theorem hp_ay_remove {v : Nat → Int32} {r : Nat → Nat → Int32} {n x y w : Nat} (h1 : 8 ≤ x % 20) (h2 : x % 20 < 9) (h3 : y % 2 = 0) : hp_ay v r n x y w = hp_t_remove v r n (nI (y / 40 % 3)) (v 2 - nI (y / 120 % 5)) (nI w) := by
  unfold hp_ay
  rw [if_neg (show ¬ x % 20 < 4 by omega), if_neg (show ¬ x % 20 < 8 by omega), if_pos (show x % 20 < 9 by omega), if_pos h3]
theorem hp_ay_clear8 {v : Nat → Int32} {r : Nat → Nat → Int32} {n x y w : Nat} (h1 : 8 ≤ x % 20) (h2 : x % 20 < 9) (h3 : ¬ y % 2 = 0) : hp_ay v r n x y w = hp_t_clear v r n (nI (y / 2 % 3)) (nI (y / 6 % 3)) (nI (y / 18 % 4)) := by
  unfold hp_ay
  rw [if_neg (show ¬ x % 20 < 4 by omega), if_neg (show ¬ x % 20 < 8 by omega), if_pos (show x % 20 < 9 by omega), if_neg h3]
theorem hp_ay_clear9 {v : Nat → Int32} {r : Nat → Nat → Int32} {n x y w : Nat} (h1 : 9 ≤ x % 20) (h2 : x % 20 < 10) : hp_ay v r n x y w = hp_t_clear v r n (nI (y % 3)) (nI (y / 3 % 3)) (nI (y / 9 % 4)) := by
  unfold hp_ay
  rw [if_neg (show ¬ x % 20 < 4 by omega), if_neg (show ¬ x % 20 < 8 by omega), if_neg (show ¬ x % 20 < 9 by omega), if_pos (show x % 20 < 10 by omega)]
theorem hp_ay_part {v : Nat → Int32} {r : Nat → Nat → Int32} {n x y w : Nat} (h1 : 10 ≤ x % 20) (h2 : x % 20 < 11) (h3 : y % 2 = 0) : hp_ay v r n x y w = hp_t_part v r n (nI (y / 2 % 3)) (nI (1 + y / 6 % 12)) := by
  unfold hp_ay
  rw [if_neg (show ¬ x % 20 < 4 by omega), if_neg (show ¬ x % 20 < 8 by omega), if_neg (show ¬ x % 20 < 9 by omega), if_neg (show ¬ x % 20 < 10 by omega), if_pos (show x % 20 < 11 by omega), if_pos h3]
theorem hp_ay_lead {v : Nat → Int32} {r : Nat → Nat → Int32} {n x y w : Nat} (h1 : 10 ≤ x % 20) (h2 : x % 20 < 11) (h3 : ¬ y % 2 = 0) : hp_ay v r n x y w = hp_t_lead v r n (nI (y / 2 % 3)) (nI (y / 6 % 9)) := by
  unfold hp_ay
  rw [if_neg (show ¬ x % 20 < 4 by omega), if_neg (show ¬ x % 20 < 8 by omega), if_neg (show ¬ x % 20 < 9 by omega), if_neg (show ¬ x % 20 < 10 by omega), if_pos (show x % 20 < 11 by omega), if_neg h3]
theorem hp_ay_order {v : Nat → Int32} {r : Nat → Nat → Int32} {n x y w : Nat} (h1 : 11 ≤ x % 20) (h2 : x % 20 < 14) : hp_ay v r n x y w = hp_t_order v r n (nI w) := by
  unfold hp_ay
  rw [if_neg (show ¬ x % 20 < 4 by omega), if_neg (show ¬ x % 20 < 8 by omega), if_neg (show ¬ x % 20 < 9 by omega), if_neg (show ¬ x % 20 < 10 by omega), if_neg (show ¬ x % 20 < 11 by omega), if_pos (show x % 20 < 14 by omega)]
theorem hp_ay_cancel {v : Nat → Int32} {r : Nat → Nat → Int32} {n x y w : Nat} (h1 : 14 ≤ x % 20) (h2 : x % 20 < 15) (h3 : y % 3 = 0) : hp_ay v r n x y w = hp_t_cancel v r n (nI w) := by
  unfold hp_ay
  rw [if_neg (show ¬ x % 20 < 4 by omega), if_neg (show ¬ x % 20 < 8 by omega), if_neg (show ¬ x % 20 < 9 by omega), if_neg (show ¬ x % 20 < 10 by omega), if_neg (show ¬ x % 20 < 11 by omega), if_neg (show ¬ x % 20 < 14 by omega), if_pos (show x % 20 < 15 by omega), if_pos h3]
theorem hp_ay_order14 {v : Nat → Int32} {r : Nat → Nat → Int32} {n x y w : Nat} (h1 : 14 ≤ x % 20) (h2 : x % 20 < 15) (h3 : ¬ y % 3 = 0) : hp_ay v r n x y w = hp_t_order v r n (nI w) := by
  unfold hp_ay
  rw [if_neg (show ¬ x % 20 < 4 by omega), if_neg (show ¬ x % 20 < 8 by omega), if_neg (show ¬ x % 20 < 9 by omega), if_neg (show ¬ x % 20 < 10 by omega), if_neg (show ¬ x % 20 < 11 by omega), if_neg (show ¬ x % 20 < 14 by omega), if_pos (show x % 20 < 15 by omega), if_neg h3]
theorem hp_ay_build {v : Nat → Int32} {r : Nat → Nat → Int32} {n x y w : Nat} (h1 : 15 ≤ x % 20) (h2 : x % 20 < 17) : hp_ay v r n x y w = hp_t_build v r n (nI w) := by
  unfold hp_ay
  rw [if_neg (show ¬ x % 20 < 4 by omega), if_neg (show ¬ x % 20 < 8 by omega), if_neg (show ¬ x % 20 < 9 by omega), if_neg (show ¬ x % 20 < 10 by omega), if_neg (show ¬ x % 20 < 11 by omega), if_neg (show ¬ x % 20 < 14 by omega), if_neg (show ¬ x % 20 < 15 by omega), if_pos (show x % 20 < 17 by omega)]
theorem hp_ay_inspect {v : Nat → Int32} {r : Nat → Nat → Int32} {n x y w : Nat} (h1 : 17 ≤ x % 20) (h2 : x % 20 < 18) : hp_ay v r n x y w = hp_t_inspect v r n (nI (y % 2)) := by
  unfold hp_ay
  rw [if_neg (show ¬ x % 20 < 4 by omega), if_neg (show ¬ x % 20 < 8 by omega), if_neg (show ¬ x % 20 < 9 by omega), if_neg (show ¬ x % 20 < 10 by omega), if_neg (show ¬ x % 20 < 11 by omega), if_neg (show ¬ x % 20 < 14 by omega), if_neg (show ¬ x % 20 < 15 by omega), if_neg (show ¬ x % 20 < 17 by omega), if_pos (show x % 20 < 18 by omega)]
theorem hp_ay_pas {v : Nat → Int32} {r : Nat → Nat → Int32} {n x y w : Nat} (h1 : 18 ≤ x % 20) (h2 : x % 20 < 20) : hp_ay v r n x y w = hp_t_pass v r n (nI (1 + y % 7)) := by
  unfold hp_ay
  rw [if_neg (show ¬ x % 20 < 4 by omega), if_neg (show ¬ x % 20 < 8 by omega), if_neg (show ¬ x % 20 < 9 by omega), if_neg (show ¬ x % 20 < 10 by omega), if_neg (show ¬ x % 20 < 11 by omega), if_neg (show ¬ x % 20 < 14 by omega), if_neg (show ¬ x % 20 < 15 by omega), if_neg (show ¬ x % 20 < 17 by omega), if_neg (show ¬ x % 20 < 18 by omega)]
theorem hp_act_x {K : Nat} {v : Nat → Int32} {r : Nat → Nat → Int32} {n x : Nat} (hi : hp_inv v r n) (he : hp_ext K v r n) : hp_inv (hp_act v r n x).2.1 (hp_act v r n x).2.2.1 (hp_act v r n x).2.2.2 ∧ hp_ext (K + 1) (hp_act v r n x).2.1 (hp_act v r n x).2.2.1 (hp_act v r n x).2.2.2 := by
  unfold hp_act hp_ay
  repeat' split
  · exact ⟨hp_i_add hi _ _ _ _ _ _, hp_x_add he _ _ _ _ _ _⟩
  · exact ⟨hp_i_add hi _ _ _ _ _ _, hp_x_add he _ _ _ _ _ _⟩
  · exact ⟨hp_i_move hi _ _ _ _ _, hp_x_move he _ _ _ _ _⟩
  · exact ⟨hp_i_remove hi _ _ _, hp_x_remove he _ _ _⟩
  · exact ⟨hp_i_clear hi _ _ _, hp_x_clear he _ _ _⟩
  · exact ⟨hp_i_clear hi _ _ _, hp_x_clear he _ _ _⟩
  · exact ⟨hp_i_part hi _ _, hp_x_part he _ _⟩
  · exact ⟨hp_i_lead hi _ _, hp_x_lead he _ _⟩
  · exact ⟨hp_i_order hi _, hp_x_order he _⟩
  · exact ⟨hp_i_cancel hi _, hp_x_cancel he _⟩
  · exact ⟨hp_i_order hi _, hp_x_order he _⟩
  · exact ⟨hp_i_build hi _, hp_x_build he _⟩
  · exact ⟨hp_i_inspect hi _, hp_x_inspect he _⟩
  · exact ⟨hp_i_pass hi _, hp_x_pass he _⟩
theorem hp_nk {k : Nat} (h : k < 2 ^ 31) : 0 ≤ nI k := nI_pos' h
theorem hp_act_n {v : Nat → Int32} {r : Nat → Nat → Int32} {n x : Nat} (hi : hp_inv v r n) : (hp_act v r n x).2.2.2 = if x % 20 < 4 ∧ 0 ≤ (hp_act v r n x).1 then n + 1 else n := by
  have hn := hi.1
  by_cases h : x % 20 < 4
  · have key : ∀ t f a b c d : Int32, (hp_t_add v r n t f a b c d).2.2.2 = if 0 ≤ (hp_t_add v r n t f a b c d).1 then n + 1 else n := by
      intro t f a b c d
      show hp_n_add r n t f a b c d = if 0 ≤ hp_w hp_K1 hp_K2 hp_K3 (hp_c_add r n t f a b c d) (hp_a_add r n t f a b c d) then n + 1 else n
      unfold hp_n_add hp_a_add
      by_cases hc : hp_c_add r n t f a b c d = 0
      · rw [if_pos hc, if_pos hc, hp_w0 hc, if_pos (nI_pos' (by omega))]
      · rw [if_neg hc, if_neg]
        unfold hp_w
        rw [if_neg hc]
        split
        · decide
        · split <;> decide
    have e : (x % 20 < 4 ∧ 0 ≤ (hp_act v r n x).1) = (0 ≤ (hp_act v r n x).1) := by simp [h]
    simp only [e]
    by_cases h3 : x / 20 % 2 = 0
    · have e2 := hp_ay_add0 (v := v) (r := r) (n := n) (w := hp_ao n (x / 20)) (Nat.zero_le _) h h3
      unfold hp_act
      rw [e2]
      exact key _ _ _ _ _ _
    · have e2 := hp_ay_add1 (v := v) (r := r) (n := n) (w := hp_ao n (x / 20)) (Nat.zero_le _) h h3
      unfold hp_act
      rw [e2]
      exact key _ _ _ _ _ _
  · rw [if_neg (fun q => h q.1)]
    unfold hp_act hp_ay
    rw [if_neg h]
    repeat' split
    all_goals rfl
