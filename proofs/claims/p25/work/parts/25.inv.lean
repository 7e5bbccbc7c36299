/-! what the numbers hold to stays -/
theorem hp_elm_of {r r' : Nat → Nat → Int32} {i : Nat} (h : hp_elm r i) (e : ∀ a, 4 ≤ a → a ≤ 10 → r' a i = r a i) : hp_elm r' i := by
  unfold hp_elm
  rw [e 4 (by omega) (by omega), e 5 (by omega) (by omega), e 6 (by omega) (by omega), e 7 (by omega) (by omega), e 8 (by omega) (by omega), e 9 (by omega) (by omega), e 10 (by omega) (by omega)]
  exact h
theorem hp_set_ne {r : Nat → Nat → Int32} {a i b j : Nat} {x : Int32} (h : b ≠ a ∨ j ≠ i) : hp_set r a i x b j = r b j := by
  unfold hp_set
  by_cases hb : b = a
  · subst hb
    rw [va_up_self, pk_un (h.resolve_left (fun q => q rfl))]
  · rw [va_up_ne _ _ hb]
theorem hp_set_eq {r : Nat → Nat → Int32} {a i : Nat} {x : Int32} : hp_set r a i x a i = x := by
  unfold hp_set
  rw [va_up_self, pk_us]
/-- a state is put -/
theorem hp_elm_10 {r : Nat → Nat → Int32} {i j : Nat} {x : Int32} (h : hp_elm r i) (hx : ∃ k, k < 5 ∧ x = nI k) : hp_elm (hp_set r 10 j x) i := by
  obtain ⟨h4, h5, h6, h7, h8, h9, h10, hs⟩ := h
  unfold hp_elm
  rw [hp_set_ne (Or.inl (by decide)), hp_set_ne (Or.inl (by decide)), hp_set_ne (Or.inl (by decide)), hp_set_ne (Or.inl (by decide)), hp_set_ne (Or.inl (by decide)), hp_set_ne (Or.inl (by decide))]
  refine ⟨h4, h5, h6, h7, h8, h9, ?_, hs⟩
  by_cases hij : i = j
  · subst hij; rw [hp_set_eq]; exact hx
  · rw [hp_set_ne (Or.inr hij)]; exact h10
/-- rows 4 .. 17 but 10 and 13 are kept, these above n too: the parts of the invariant -/
theorem hp_inv_mk {v v' : Nat → Int32} {r r' : Nat → Nat → Int32} {n : Nat} (h : hp_inv v r n) (h1 : v' 1 = v 1) (he : ∀ i, i < n → hp_elm r' i) (hz : ∀ i, n ≤ i → i < 40 → r' 10 i = r 10 i ∧ r' 13 i = r 13 i) (h15 : r' 15 = r 15) (h16 : r' 16 = r 16) (h17 : r' 17 = r 17) : hp_inv v' r' n := by
  obtain ⟨a1, a2, a3, a4, a5, a6, a7⟩ := h
  refine ⟨a1, he, fun i h1 h2 => ?_, ?_, ?_, ?_, ?_⟩
  · rw [(hz i h1 h2).1, (hz i h1 h2).2]; exact a3 i h1 h2
  · rw [h15]; exact a4
  · rw [h16]; exact a5
  · rw [h17]; exact a6
  · rw [h1]; exact a7
theorem hp_inv_up {v : Nat → Int32} {r : Nat → Nat → Int32} {n : Nat} (t : Int32) (h : hp_inv v r n) : hp_inv (va_up v 0 t) r n := h
theorem hp_i_add {v : Nat → Int32} {r : Nat → Nat → Int32} {n : Nat} (h : hp_inv v r n) (t f x y z w : Int32) : hp_inv (hp_v_add v r n t f x y z w) (hp_r_add v r n t f x y z w) (hp_n_add r n t f x y z w) := by
  by_cases hc : hp_c_add r n t f x y z w = 0
  · simp only [hp_v_add, hp_r_add, hp_n_add, if_pos hc]
    obtain ⟨g1, g2, g3⟩ := hp_cd0 hc
    have hn40 := hp_lt40 h.1 (hp_andr g3)
    have ht := hp_kd_of (hp_andl g1)
    have hf := hp_st_of (hp_andr g1)
    have hst := hp_andr g2
    have g2a := hp_andl g2
    have hw := hp_si_of (hp_andr g2a)
    have g2b := hp_andl g2a
    have hz := hp_si_of (hp_andr g2b)
    have g2c := hp_andl g2b
    have hy := hp_si_of (hp_andr g2c)
    have hx := hp_si_of (hp_andl g2c)
    obtain ⟨a1, a2, a3, a4, a5, a6, a7⟩ := h
    have keep : ∀ a j, j ≠ n → hp_new r n t f x y z w (v 2 + 1) a j = r a j := by
      intro a j hj
      unfold hp_new hp_chg
      rw [hp_set_ne (Or.inr hj), hp_set_ne (Or.inr hj), hp_set_ne (Or.inr hj), hp_set_ne (Or.inr hj), hp_set_ne (Or.inr hj), hp_set_ne (Or.inr hj), hp_set_ne (Or.inr hj), hp_set_ne (Or.inr hj)]
    refine ⟨by omega, fun i hi => ?_, fun i h1 h2 => ?_, a4, a5, a6, a7⟩
    · by_cases hin : i = n
      · subst hin
        have e10 : hp_new r i t f x y z w (v 2 + 1) 10 i = r 10 i := by simp [hp_new, hp_chg, hp_set, va_up]
        have e4 : hp_new r i t f x y z w (v 2 + 1) 4 i = t := by simp [hp_new, hp_chg, hp_set, va_up, upd]
        have e5 : hp_new r i t f x y z w (v 2 + 1) 5 i = f := by simp [hp_new, hp_chg, hp_set, va_up, upd]
        have e6 : hp_new r i t f x y z w (v 2 + 1) 6 i = x := by simp [hp_new, hp_chg, hp_set, va_up, upd]
        have e7 : hp_new r i t f x y z w (v 2 + 1) 7 i = y := by simp [hp_new, hp_chg, hp_set, va_up, upd]
        have e8 : hp_new r i t f x y z w (v 2 + 1) 8 i = z := by simp [hp_new, hp_chg, hp_set, va_up, upd]
        have e9 : hp_new r i t f x y z w (v 2 + 1) 9 i = w := by simp [hp_new, hp_chg, hp_set, va_up, upd]
        unfold hp_elm
        rw [e4, e5, e6, e7, e8, e9, e10]
        refine ⟨ht, hf, hx, hy, hz, hw, ⟨0, by decide, (a3 i (Nat.le_refl i) hn40).1⟩, ?_⟩
        simpa using hst
      · exact hp_elm_of (a2 i (by omega)) (fun a _ _ => keep a i hin)
    · rw [keep 10 i (by omega), keep 13 i (by omega)]
      exact a3 i (by omega) h2
  · simp only [hp_v_add, hp_r_add, hp_n_add, if_neg hc]
    exact h
theorem hp_i_move {v : Nat → Int32} {r : Nat → Nat → Int32} {n : Nat} (h : hp_inv v r n) (t b p x y : Int32) : hp_inv (hp_v_move v r n t b p x y) (hp_r_move v r n t b p x y) n := by
  by_cases hb : hp_b_move v r n t b p x y = true
  · simp only [hp_v_move, hp_r_move, if_pos hb]
    have hc := of_decide_eq_true (hp_andl hb)
    obtain ⟨g1, g2, g3⟩ := hp_cd0 hc
    have xp := hp_el_ix h.1 (hp_andr g1)
    have s9 := hp_si_of (hp_andr g2)
    have g2a := hp_andl g2
    have s7 := hp_si_of (hp_andr g2a)
    have g2b := hp_andl g2a
    have s8 := hp_si_of (hp_andr g2b)
    have s6 := hp_si_of (hp_andr (hp_andl g2b))
    generalize p.toNatClampNeg = i at xp s6 s7 s8 s9 ⊢
    refine hp_inv_mk h rfl (fun j hj => ?_) (fun j _ _ => ?_) rfl rfl rfl
    · by_cases hij : j = i
      · subst hij
        obtain ⟨h4, h5, h6, h7, h8, h9, h10, hs⟩ := h.2.1 j hj
        have e4 : hp_chg (hp_mov r j x y) j (v 2 + 1) t 4 j = r 4 j := by simp [hp_mov, hp_chg, hp_set, va_up]
        have e5 : hp_chg (hp_mov r j x y) j (v 2 + 1) t 5 j = r 5 j := by simp [hp_mov, hp_chg, hp_set, va_up]
        have e6 : hp_chg (hp_mov r j x y) j (v 2 + 1) t 6 j = r 6 j + x := by simp [hp_mov, hp_chg, hp_set, va_up, upd]
        have e7 : hp_chg (hp_mov r j x y) j (v 2 + 1) t 7 j = r 7 j + y := by simp [hp_mov, hp_chg, hp_set, va_up, upd]
        have e8 : hp_chg (hp_mov r j x y) j (v 2 + 1) t 8 j = r 8 j + x := by simp [hp_mov, hp_chg, hp_set, va_up, upd]
        have e9 : hp_chg (hp_mov r j x y) j (v 2 + 1) t 9 j = r 9 j + y := by simp [hp_mov, hp_chg, hp_set, va_up, upd]
        have e10 : hp_chg (hp_mov r j x y) j (v 2 + 1) t 10 j = r 10 j := by simp [hp_mov, hp_chg, hp_set, va_up]
        unfold hp_elm
        rw [e4, e5, e6, e7, e8, e9, e10]
        exact ⟨h4, h5, s6, s7, s8, s9, h10, hs.imp (fun q => by rw [q]) (fun q => by rw [q])⟩
      · refine hp_elm_of (h.2.1 j hj) (fun a _ _ => ?_)
        unfold hp_chg hp_mov
        rw [hp_set_ne (Or.inr hij), hp_set_ne (Or.inr hij), hp_set_ne (Or.inr hij), hp_set_ne (Or.inr hij), hp_set_ne (Or.inr hij), hp_set_ne (Or.inr hij)]
    · exact ⟨rfl, rfl⟩
  · simp only [hp_v_move, hp_r_move, if_neg hb]
    exact h
theorem hp_i_remove {v : Nat → Int32} {r : Nat → Nat → Int32} {n : Nat} (h : hp_inv v r n) (t b p : Int32) : hp_inv (hp_v_remove v r n t b p) (hp_r_remove v r n t b p) n := by
  by_cases hc : hp_c_remove v r n t b p = 0
  · simp only [hp_v_remove, hp_r_remove, if_pos hc]
    obtain ⟨g1, g2, g3⟩ := hp_cd0 hc
    have xp := hp_el_ix h.1 (hp_andr g1)
    generalize p.toNatClampNeg = i at xp ⊢
    refine hp_inv_mk h rfl (fun j hj => ?_) (fun j hj _ => ?_) rfl rfl rfl
    · refine hp_elm_of (hp_elm_10 (j := i) (x := 4) (h.2.1 j hj) ⟨4, by decide, rfl⟩) (fun a h1 h2 => ?_)
      unfold hp_chg
      rw [hp_set_ne (Or.inl (by omega)), hp_set_ne (Or.inl (by omega))]
    · have hij : j ≠ i := by omega
      unfold hp_chg
      refine ⟨?_, rfl⟩
      rw [hp_set_ne (Or.inl (by decide)), hp_set_ne (Or.inl (by decide)), hp_set_ne (Or.inr hij)]
  · simp only [hp_v_remove, hp_r_remove, if_neg hc]
    exact h
theorem hp_i_clear {v : Nat → Int32} {r : Nat → Nat → Int32} {n : Nat} (h : hp_inv v r n) (k j c : Int32) : hp_inv v (hp_r_clear r k j c) n := by
  by_cases hc : hp_c_clear k j c = 0
  · simp only [hp_r_clear, if_pos hc]
    refine hp_inv_mk h rfl (fun i hi => hp_elm_of (h.2.1 i hi) (fun a h1 h2 => ?_)) (fun i _ _ => ⟨rfl, rfl⟩) rfl rfl rfl
    rw [hp_set_ne (Or.inl (by omega)), hp_set_ne (Or.inl (by omega))]
  · simp only [hp_r_clear, if_neg hc]
    exact h
theorem hp_i_part {v : Nat → Int32} {r : Nat → Nat → Int32} {n : Nat} (h : hp_inv v r n) (k c : Int32) : hp_inv v (hp_r_part r k c) n := by
  by_cases hc : hp_c_part k c = 0
  · simp only [hp_r_part, if_pos hc]
    obtain ⟨g1, g2, -⟩ := hp_cd0 hc
    obtain ⟨q1, q2⟩ := hp_in_iff.mp g2
    have hx : ∃ d, 1 ≤ d ∧ d ≤ 12 ∧ c = nI d := by
      obtain ⟨d, hd, e⟩ := nI_of2 (M := 12) (n := 12) (by decide) (hp_len (Int32.le_trans (by decide) q1)) q2
      refine ⟨d, ?_, hd, e⟩
      rcases Nat.eq_zero_or_pos d with z | z
      · subst z
        rw [e] at q1
        exact absurd q1 (by decide)
      · exact z
    obtain ⟨a1, a2, a3, a4, a5, a6, a7⟩ := h
    refine ⟨a1, fun i hi => hp_elm_of (a2 i hi) (fun a h1 h2 => hp_set_ne (Or.inl (by omega))), a3, fun i hi => ?_, a5, a6, a7⟩
    by_cases hik : i = k.toNatClampNeg
    · subst hik; rw [hp_set_eq]; exact hx
    · rw [hp_set_ne (Or.inr hik)]; exact a4 i hi
  · simp only [hp_r_part, if_neg hc]
    exact h
theorem hp_i_lead {v : Nat → Int32} {r : Nat → Nat → Int32} {n : Nat} (h : hp_inv v r n) (k c : Int32) : hp_inv v (hp_r_lead r k c) n := by
  by_cases hc : hp_c_lead k c = 0
  · simp only [hp_r_lead, if_pos hc]
    obtain ⟨g1, g2, -⟩ := hp_cd0 hc
    have hx : ∃ d, d ≤ 100 ∧ c = nI d := hp_in_of (N := 100) (by decide) g2
    obtain ⟨a1, a2, a3, a4, a5, a6, a7⟩ := h
    refine ⟨a1, fun i hi => hp_elm_of (a2 i hi) (fun a h1 h2 => hp_set_ne (Or.inl (by omega))), a3, a4, fun i hi => ?_, a6, a7⟩
    by_cases hik : i = k.toNatClampNeg
    · subst hik; rw [hp_set_eq]; exact hx
    · rw [hp_set_ne (Or.inr hik)]; exact a5 i hi
  · simp only [hp_r_lead, if_neg hc]
    exact h
/-- row 10 in one place, row 13 there too -/
theorem hp_i_st {v : Nat → Int32} {r : Nat → Nat → Int32} {n i : Nat} {x d : Int32} (h : hp_inv v r n) (hi : i < n) (hx : ∃ k, k < 5 ∧ x = nI k) : hp_inv v (hp_set (hp_set r 13 i d) 10 i x) n := by
  refine hp_inv_mk h rfl (fun j hj => hp_elm_10 (hp_elm_of (h.2.1 j hj) (fun a h1 h2 => hp_set_ne (Or.inl (by omega)))) hx) (fun j hj _ => ?_) rfl rfl rfl
  have hij : j ≠ i := by omega
  rw [hp_set_ne (Or.inr hij), hp_set_ne (Or.inr hij), hp_set_ne (Or.inr hij), hp_set_ne (Or.inr hij)]
  exact ⟨rfl, rfl⟩
theorem hp_i_st1 {v : Nat → Int32} {r : Nat → Nat → Int32} {n i : Nat} {x : Int32} (h : hp_inv v r n) (hi : i < n) (hx : ∃ k, k < 5 ∧ x = nI k) : hp_inv v (hp_set r 10 i x) n := by
  refine hp_inv_mk h rfl (fun j hj => hp_elm_10 (h.2.1 j hj) hx) (fun j hj _ => ?_) rfl rfl rfl
  have hij : j ≠ i := by omega
  rw [hp_set_ne (Or.inr hij), hp_set_ne (Or.inr hij)]
  exact ⟨rfl, rfl⟩
theorem hp_i_order {v : Nat → Int32} {r : Nat → Nat → Int32} {n : Nat} (h : hp_inv v r n) (p : Int32) : hp_inv v (hp_r_order v r n p) n := by
  by_cases hc : hp_c_sta r n p 0 = 0
  · simp only [hp_r_order, if_pos hc]
    obtain ⟨g1, g2, -⟩ := hp_cd0 hc
    have xp := hp_el_ix h.1 g1
    refine hp_i_st h xp.2 ?_
    split
    · exact ⟨2, by decide, rfl⟩
    · exact ⟨1, by decide, rfl⟩
  · simp only [hp_r_order, if_neg hc]
    exact h
theorem hp_i_cancel {v : Nat → Int32} {r : Nat → Nat → Int32} {n : Nat} (h : hp_inv v r n) (p : Int32) : hp_inv v (hp_r_cancel r n p) n := by
  by_cases hc : hp_c_sta r n p 1 = 0
  · simp only [hp_r_cancel, if_pos hc]
    obtain ⟨g1, g2, -⟩ := hp_cd0 hc
    exact hp_i_st1 h (hp_el_ix h.1 g1).2 ⟨0, by decide, rfl⟩
  · simp only [hp_r_cancel, if_neg hc]
    exact h
theorem hp_i_build {v : Nat → Int32} {r : Nat → Nat → Int32} {n : Nat} (h : hp_inv v r n) (p : Int32) : hp_inv v (hp_r_build r n p) n := by
  by_cases hb : hp_b_build r n p = true
  · simp only [hp_r_build, if_pos hb]
    obtain ⟨g1, g2, -⟩ := hp_cd0 (of_decide_eq_true (hp_andl hb))
    exact hp_i_st1 h (hp_el_ix h.1 g1).2 ⟨3, by decide, rfl⟩
  · simp only [hp_r_build, if_neg hb]
    exact h
theorem hp_i_inspect {v : Nat → Int32} {r : Nat → Nat → Int32} {n : Nat} (h : hp_inv v r n) (f : Int32) : hp_inv v (hp_r_inspect r n f) n := by
  by_cases hc : hp_c_inspect r f = 0
  · simp only [hp_r_inspect, if_pos hc]
    obtain ⟨a1, a2, a3, a4, a5, a6, a7⟩ := h
    refine ⟨a1, fun i hi => hp_elm_of (a2 i hi) (fun a h1 h2 => hp_set_ne (Or.inl (by omega))), a3, a4, a5, fun i hi => ?_, a7⟩
    by_cases hik : i = f.toNatClampNeg
    · subst hik; rw [hp_set_eq]; exact ⟨_, rfl⟩
    · rw [hp_set_ne (Or.inr hik)]; exact a6 i hi
  · simp only [hp_r_inspect, if_neg hc]
    exact h
theorem hp_i_pass {v : Nat → Int32} {r : Nat → Nat → Int32} {n : Nat} (h : hp_inv v r n) (d : Int32) : hp_inv (hp_v_pass v d) (hp_r_pass v r n d) n := by
  by_cases hc : hp_c_pass v d = 0
  · simp only [hp_v_pass, hp_r_pass, if_pos hc]
    obtain ⟨g1, g2, -⟩ := hp_cd0 hc
    obtain ⟨q1, q2⟩ := hp_in_iff.mp g1
    obtain ⟨a1, a2, a3, a4, a5, a6, ⟨k, hk, ek⟩⟩ := h
    obtain ⟨c, hc2, ec⟩ := nI_of2 (M := 100) (n := 100) (by decide) (hp_len (Int32.le_trans (by decide) q1)) q2
    have hs : v 1 + d = nI (k + c) := by rw [ek, ec, nI_add]
    refine ⟨a1, fun i hi => ?_, fun i h1 h2 => ?_, a4, a5, a6, k + c, ?_, ?_⟩
    · obtain ⟨h4, h5, h6, h7, h8, h9, h10, hst⟩ := a2 i hi
      refine ⟨h4, h5, h6, h7, h8, h9, ?_, hst⟩
      show ∃ k, k < 5 ∧ (if (decide (i < n) && (r 10 i == 1) && decide (r 13 i ≤ v 1 + d)) = true then (2 : Int32) else r 10 i) = nI k
      split
      · exact ⟨2, by decide, rfl⟩
      · exact h10
    · refine ⟨?_, (a3 i h1 h2).2⟩
      show (if (decide (i < n) && (r 10 i == 1) && decide (r 13 i ≤ v 1 + d)) = true then (2 : Int32) else r 10 i) = 0
      rw [decide_eq_false (show ¬ i < n by omega), Bool.false_and, Bool.false_and, if_neg (by decide)]
      exact (a3 i h1 h2).1
    · have := of_decide_eq_true g2
      rw [hs] at this
      exact (nI_leI (b := 500) (by omega) (by decide)).mp this
    · rw [va_up_self, hs]
  · simp only [hp_v_pass, hp_r_pass, if_neg hc]
    exact h