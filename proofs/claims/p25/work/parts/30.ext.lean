/-! what holds beside the invariant: revisions, clearances both ways round, locked storeys -/
def hp_e1 (K : Nat) (v : Nat → Int32) (r : Nat → Nat → Int32) (n : Nat) : Prop := ∃ rv, rv ≤ K ∧ v 2 = nI rv ∧ ∀ i, i < n → ∃ q, 1 ≤ q ∧ q ≤ rv ∧ r 11 i = nI q
def hp_e2 (r : Nat → Nat → Int32) : Prop := ∀ i j, i < 3 → j < 3 → r 14 (3 * i + j) = r 14 (3 * j + i)
def hp_e3 (r : Nat → Nat → Int32) (n : Nat) : Prop := ∀ f i, f < 4 → i < n → ¬ r 17 f = 0 → r 5 i = nI f → r 10 i = 3 ∨ r 10 i = 4
def hp_ext (K : Nat) (v : Nat → Int32) (r : Nat → Nat → Int32) (n : Nat) : Prop := hp_e1 K v r n ∧ hp_e2 r ∧ hp_e3 r n
theorem hp_e1_up {K L : Nat} {v v' : Nat → Int32} {r r' : Nat → Nat → Int32} {n : Nat} (h : hp_e1 K v r n) (hK : K ≤ L) (hv : v' 2 = v 2) (hr : ∀ i, i < n → r' 11 i = r 11 i) : hp_e1 L v' r' n := by
  obtain ⟨rv, h1, h2, h3⟩ := h
  exact ⟨rv, by omega, by rw [hv]; exact h2, fun i hi => by rw [hr i hi]; exact h3 i hi⟩
theorem hp_e1_chg {K : Nat} {v : Nat → Int32} {r r' : Nat → Nat → Int32} {n i : Nat} {t : Int32} (h : hp_e1 K v r n) (hr : ∀ j, j < n → j ≠ i → r' 11 j = r 11 j) (hi : r' 11 i = v 2 + 1) : hp_e1 (K + 1) (hp_rv v) r' n := by
  obtain ⟨rv, h1, h2, h3⟩ := h
  refine ⟨rv + 1, by omega, ?_, fun j hj => ?_⟩
  · show va_up v 2 (v 2 + 1) 2 = _
    rw [va_up_self, h2]
    exact nI_add rv 1
  · by_cases hji : j = i
    · subst hji
      exact ⟨rv + 1, by omega, by omega, by rw [hi, h2]; exact nI_add rv 1⟩
    · obtain ⟨q, a1, a2, a3⟩ := h3 j hj
      exact ⟨q, a1, by omega, by rw [hr j hj hji]; exact a3⟩
theorem hp_chg_11 {r : Nat → Nat → Int32} {i : Nat} {x t : Int32} : hp_chg r i x t 11 i = x := by
  unfold hp_chg
  rw [hp_set_ne (Or.inl (by decide)), hp_set_eq]
theorem hp_chg_ne {r : Nat → Nat → Int32} {i j a : Nat} {x t : Int32} (h : j ≠ i ∨ (a ≠ 11 ∧ a ≠ 12)) : hp_chg r i x t a j = r a j := by
  unfold hp_chg
  rcases h with h | h
  · rw [hp_set_ne (Or.inr h), hp_set_ne (Or.inr h)]
  · rw [hp_set_ne (Or.inl h.2), hp_set_ne (Or.inl h.1)]
theorem hp_new_ne {r : Nat → Nat → Int32} {n j a : Nat} {t f x y z w e : Int32} (h : j ≠ n) : hp_new r n t f x y z w e a j = r a j := by
  unfold hp_new
  rw [hp_chg_ne (Or.inl h), hp_set_ne (Or.inr h), hp_set_ne (Or.inr h), hp_set_ne (Or.inr h), hp_set_ne (Or.inr h), hp_set_ne (Or.inr h), hp_set_ne (Or.inr h)]
theorem hp_new_row {r : Nat → Nat → Int32} {n j a : Nat} {t f x y z w e : Int32} (h : 13 < a) : hp_new r n t f x y z w e a j = r a j := by
  unfold hp_new
  rw [hp_chg_ne (Or.inr ⟨by omega, by omega⟩), hp_set_ne (Or.inl (by omega)), hp_set_ne (Or.inl (by omega)), hp_set_ne (Or.inl (by omega)), hp_set_ne (Or.inl (by omega)), hp_set_ne (Or.inl (by omega)), hp_set_ne (Or.inl (by omega))]
theorem hp_mov_ne {r : Nat → Nat → Int32} {i j a : Nat} {x y : Int32} (h : 9 < a ∨ a < 6) : hp_mov r i x y a j = r a j := by
  unfold hp_mov
  rw [hp_set_ne (Or.inl (by omega)), hp_set_ne (Or.inl (by omega)), hp_set_ne (Or.inl (by omega)), hp_set_ne (Or.inl (by omega))]
theorem hp_x_mono {K L : Nat} {v : Nat → Int32} {r : Nat → Nat → Int32} {n : Nat} (h : hp_ext K v r n) (hK : K ≤ L) : hp_ext L v r n := ⟨hp_e1_up h.1 hK rfl (fun _ _ => rfl), h.2⟩
theorem hp_x_add {K : Nat} {v : Nat → Int32} {r : Nat → Nat → Int32} {n : Nat} (h : hp_ext K v r n) (t f x y z w : Int32) : hp_ext (K + 1) (hp_v_add v r n t f x y z w) (hp_r_add v r n t f x y z w) (hp_n_add r n t f x y z w) := by
  by_cases hc : hp_c_add r n t f x y z w = 0
  · simp only [hp_v_add, hp_r_add, hp_n_add, if_pos hc]
    obtain ⟨g1, g2, g3⟩ := hp_cd0 hc
    obtain ⟨h1, h2, h3⟩ := h
    obtain ⟨rv, a1, a2, a3⟩ := h1
    refine ⟨⟨rv + 1, by omega, ?_, fun j hj => ?_⟩, fun i j hi hj => ?_, fun g i hg hi hl hs => ?_⟩
    · show va_up v 2 (v 2 + 1) 2 = _
      rw [va_up_self, a2]
      exact nI_add rv 1
    · by_cases hjn : j = n
      · subst hjn
        refine ⟨rv + 1, by omega, by omega, ?_⟩
        unfold hp_new
        rw [hp_chg_11, a2]
        exact nI_add rv 1
      · obtain ⟨q, b1, b2, b3⟩ := a3 j (by omega)
        exact ⟨q, b1, by omega, by rw [hp_new_ne hjn]; exact b3⟩
    · rw [hp_new_row (by decide), hp_new_row (by decide)]
      exact h2 i j hi hj
    · rw [hp_new_row (by decide)] at hl
      by_cases hin : i = n
      · subst hin
        have e5 : hp_new r i t f x y z w (v 2 + 1) 5 i = f := by simp [hp_new, hp_chg, hp_set, va_up, upd]
        rw [e5] at hs
        subst hs
        have := hp_andl g3
        rw [nI_clamp (by omega)] at this
        exact absurd (by simpa using this) hl
      · rw [hp_new_ne hin] at hs ⊢
        exact h3 g i hg (by omega) hl hs
  · simp only [hp_v_add, hp_r_add, hp_n_add, if_neg hc]
    exact hp_x_mono h (by omega)
theorem hp_x_move {K : Nat} {v : Nat → Int32} {r : Nat → Nat → Int32} {n : Nat} (h : hp_ext K v r n) (t b p x y : Int32) : hp_ext (K + 1) (hp_v_move v r n t b p x y) (hp_r_move v r n t b p x y) n := by
  by_cases hb : hp_b_move v r n t b p x y = true
  · simp only [hp_v_move, hp_r_move, if_pos hb]
    generalize p.toNatClampNeg = i
    obtain ⟨h1, h2, h3⟩ := h
    refine ⟨hp_e1_chg (i := i) (t := t) h1 (fun j _ hj => by rw [hp_chg_ne (Or.inl hj), hp_mov_ne (Or.inl (by decide))]) hp_chg_11, fun k j hk hj => ?_, fun g j hg hj hl hs => ?_⟩
    · rw [hp_chg_ne (Or.inr (by decide)), hp_chg_ne (Or.inr (by decide)), hp_mov_ne (Or.inl (by decide)), hp_mov_ne (Or.inl (by decide))]
      exact h2 k j hk hj
    · rw [hp_chg_ne (Or.inr (by decide)), hp_mov_ne (Or.inl (by decide))] at hl
      rw [hp_chg_ne (Or.inr (by decide)), hp_mov_ne (Or.inr (by decide))] at hs
      rw [hp_chg_ne (Or.inr (by decide)), hp_mov_ne (Or.inl (by decide))]
      exact h3 g j hg hj hl hs
  · simp only [hp_v_move, hp_r_move, if_neg hb]
    exact hp_x_mono h (by omega)
theorem hp_x_remove {K : Nat} {v : Nat → Int32} {r : Nat → Nat → Int32} {n : Nat} (h : hp_ext K v r n) (t b p : Int32) : hp_ext (K + 1) (hp_v_remove v r n t b p) (hp_r_remove v r n t b p) n := by
  by_cases hc : hp_c_remove v r n t b p = 0
  · simp only [hp_v_remove, hp_r_remove, if_pos hc]
    generalize p.toNatClampNeg = i
    obtain ⟨h1, h2, h3⟩ := h
    refine ⟨hp_e1_chg (i := i) (t := t) h1 (fun j _ hj => by rw [hp_chg_ne (Or.inl hj), hp_set_ne (Or.inl (by decide))]) hp_chg_11, fun k j hk hj => ?_, fun g j hg hj hl hs => ?_⟩
    · rw [hp_chg_ne (Or.inr (by decide)), hp_chg_ne (Or.inr (by decide)), hp_set_ne (Or.inl (by decide)), hp_set_ne (Or.inl (by decide))]
      exact h2 k j hk hj
    · rw [hp_chg_ne (Or.inr (by decide)), hp_set_ne (Or.inl (by decide))] at hl
      rw [hp_chg_ne (Or.inr (by decide)), hp_set_ne (Or.inl (by decide))] at hs
      rw [hp_chg_ne (Or.inr (by decide))]
      by_cases hji : j = i
      · subst hji
        exact Or.inr hp_set_eq
      · rw [hp_set_ne (Or.inr hji)]
        exact h3 g j hg hj hl hs
  · simp only [hp_v_remove, hp_r_remove, if_neg hc]
    exact hp_x_mono h (by omega)
theorem hp_x_clear {K : Nat} {v : Nat → Int32} {r : Nat → Nat → Int32} {n : Nat} (h : hp_ext K v r n) (k j c : Int32) : hp_ext (K + 1) v (hp_r_clear r k j c) n := by
  by_cases hc : hp_c_clear k j c = 0
  · simp only [hp_r_clear, if_pos hc]
    obtain ⟨g1, g2, -⟩ := hp_cd0 hc
    obtain ⟨a, ha, rfl⟩ := hp_kd_of (hp_andl g1)
    obtain ⟨b, hb, rfl⟩ := hp_kd_of (hp_andr g1)
    have e1 : hp_ci (nI a) (nI b) = 3 * a + b := by
      show (nI 3 * nI a + nI b).toNatClampNeg = _
      rw [pk_mul, nI_add, nI_clamp (by omega)]
    have e2 : hp_ci (nI b) (nI a) = 3 * b + a := by
      show (nI 3 * nI b + nI a).toNatClampNeg = _
      rw [pk_mul, nI_add, nI_clamp (by omega)]
    rw [e1, e2]
    obtain ⟨h1, h2, h3⟩ := h
    refine ⟨hp_e1_up h1 (by omega) rfl (fun i _ => by rw [hp_set_ne (Or.inl (by decide)), hp_set_ne (Or.inl (by decide))]), fun i q hi hq => ?_, fun g i hg hi hl hs => ?_⟩
    · by_cases c1 : i = a ∧ q = b
      · obtain ⟨rfl, rfl⟩ := c1
        rw [hp_set_eq]
        by_cases c2 : 3 * i + q = 3 * q + i
        · rw [c2, hp_set_eq]
        · rw [hp_set_ne (Or.inr c2), hp_set_eq]
      · by_cases c2 : i = b ∧ q = a
        · obtain ⟨rfl, rfl⟩ := c2
          rw [hp_set_eq]
          by_cases c3 : 3 * q + i = 3 * i + q
          · rw [c3, hp_set_eq]
          · rw [hp_set_ne (Or.inr c3), hp_set_eq]
        · rw [hp_set_ne (Or.inr (by omega)), hp_set_ne (Or.inr (by omega)), hp_set_ne (Or.inr (by omega)), hp_set_ne (Or.inr (by omega))]
          exact h2 i q hi hq
    · rw [hp_set_ne (Or.inl (by decide)), hp_set_ne (Or.inl (by decide))] at hl hs
      rw [hp_set_ne (Or.inl (by decide)), hp_set_ne (Or.inl (by decide))]
      exact h3 g i hg hi hl hs
  · simp only [hp_r_clear, if_neg hc]
    exact hp_x_mono h (by omega)
theorem hp_x_set {K a i : Nat} {v : Nat → Int32} {r : Nat → Nat → Int32} {n : Nat} {x : Int32} (h : hp_ext K v r n) (ha : a = 15 ∨ a = 16) : hp_ext (K + 1) v (hp_set r a i x) n := by
  obtain ⟨h1, h2, h3⟩ := h
  refine ⟨hp_e1_up h1 (by omega) rfl (fun j _ => by rw [hp_set_ne (Or.inl (by omega))]), fun k j hk hj => ?_, fun g j hg hj hl hs => ?_⟩
  · rw [hp_set_ne (Or.inl (by omega)), hp_set_ne (Or.inl (by omega))]
    exact h2 k j hk hj
  · rw [hp_set_ne (Or.inl (by omega))] at hl hs
    rw [hp_set_ne (Or.inl (by omega))]
    exact h3 g j hg hj hl hs
theorem hp_x_part {K : Nat} {v : Nat → Int32} {r : Nat → Nat → Int32} {n : Nat} (h : hp_ext K v r n) (k c : Int32) : hp_ext (K + 1) v (hp_r_part r k c) n := by
  unfold hp_r_part
  split
  · exact hp_x_set h (Or.inl rfl)
  · exact hp_x_mono h (by omega)
theorem hp_x_lead {K : Nat} {v : Nat → Int32} {r : Nat → Nat → Int32} {n : Nat} (h : hp_ext K v r n) (k c : Int32) : hp_ext (K + 1) v (hp_r_lead r k c) n := by
  unfold hp_r_lead
  split
  · exact hp_x_set h (Or.inr rfl)
  · exact hp_x_mono h (by omega)
/-- a state is put where it was none of 3 and 4, or 3 is put -/
theorem hp_x_st {K i : Nat} {v : Nat → Int32} {r : Nat → Nat → Int32} {n : Nat} {x d : Int32} (h : hp_ext K v r n) (hx : x = 3 ∨ (¬ r 10 i = 3 ∧ ¬ r 10 i = 4)) : hp_ext (K + 1) v (hp_set (hp_set r 13 i d) 10 i x) n := by
  obtain ⟨h1, h2, h3⟩ := h
  refine ⟨hp_e1_up h1 (by omega) rfl (fun j _ => by rw [hp_set_ne (Or.inl (by decide)), hp_set_ne (Or.inl (by decide))]), fun k j hk hj => ?_, fun g j hg hj hl hs => ?_⟩
  · rw [hp_set_ne (Or.inl (by decide)), hp_set_ne (Or.inl (by decide)), hp_set_ne (Or.inl (by decide)), hp_set_ne (Or.inl (by decide))]
    exact h2 k j hk hj
  · rw [hp_set_ne (Or.inl (by decide)), hp_set_ne (Or.inl (by decide))] at hl hs
    have h9 := h3 g j hg hj hl hs
    by_cases hji : j = i
    · subst hji
      rw [hp_set_eq]
      rcases hx with hx | hx
      · exact Or.inl hx
      · exact (h9.elim hx.1 hx.2).elim
    · rw [hp_set_ne (Or.inr hji), hp_set_ne (Or.inr hji)]
      exact h9
theorem hp_x_st1 {K i : Nat} {v : Nat → Int32} {r : Nat → Nat → Int32} {n : Nat} {x : Int32} (h : hp_ext K v r n) (hx : x = 3 ∨ (¬ r 10 i = 3 ∧ ¬ r 10 i = 4)) : hp_ext (K + 1) v (hp_set r 10 i x) n := by
  have e : hp_set (hp_set r 13 i (r 13 i)) 10 i x = hp_set r 10 i x := by
    have e2 : hp_set r 13 i (r 13 i) = r := by
      funext a j
      by_cases ha : a = 13 ∧ j = i
      · obtain ⟨rfl, rfl⟩ := ha
        exact hp_set_eq
      · exact hp_set_ne (by omega)
    rw [e2]
  rw [← e]
  exact hp_x_st h hx
theorem hp_x_order {K : Nat} {v : Nat → Int32} {r : Nat → Nat → Int32} {n : Nat} (h : hp_ext K v r n) (p : Int32) : hp_ext (K + 1) v (hp_r_order v r n p) n := by
  by_cases hc : hp_c_sta r n p 0 = 0
  · simp only [hp_r_order, if_pos hc]
    obtain ⟨g1, g2, -⟩ := hp_cd0 hc
    have h0 : r 10 p.toNatClampNeg = 0 := by simpa using g2
    exact hp_x_st h (Or.inr (by rw [h0]; decide))
  · simp only [hp_r_order, if_neg hc]
    exact hp_x_mono h (by omega)
theorem hp_x_cancel {K : Nat} {v : Nat → Int32} {r : Nat → Nat → Int32} {n : Nat} (h : hp_ext K v r n) (p : Int32) : hp_ext (K + 1) v (hp_r_cancel r n p) n := by
  by_cases hc : hp_c_sta r n p 1 = 0
  · simp only [hp_r_cancel, if_pos hc]
    obtain ⟨g1, g2, -⟩ := hp_cd0 hc
    have h0 : r 10 p.toNatClampNeg = 1 := by simpa using g2
    exact hp_x_st1 h (Or.inr (by rw [h0]; decide))
  · simp only [hp_r_cancel, if_neg hc]
    exact hp_x_mono h (by omega)
theorem hp_x_build {K : Nat} {v : Nat → Int32} {r : Nat → Nat → Int32} {n : Nat} (h : hp_ext K v r n) (p : Int32) : hp_ext (K + 1) v (hp_r_build r n p) n := by
  by_cases hb : hp_b_build r n p = true
  · simp only [hp_r_build, if_pos hb]
    exact hp_x_st1 h (Or.inl rfl)
  · simp only [hp_r_build, if_neg hb]
    exact hp_x_mono h (by omega)
theorem hp_all_of {f : Nat → Bool} {n i : Nat} (h : hp_all f n = true) (hi : i < n) : f i = true := by
  cases q : f i with
  | true => rfl
  | false => rw [hp_all_no hi q] at h; cases h
theorem hp_x_inspect {K : Nat} {v : Nat → Int32} {r : Nat → Nat → Int32} {n : Nat} (h : hp_ext K v r n) (f : Int32) : hp_ext (K + 1) v (hp_r_inspect r n f) n := by
  by_cases hc : hp_c_inspect r f = 0
  · simp only [hp_r_inspect, if_pos hc]
    obtain ⟨g1, g2, -⟩ := hp_cd0 hc
    obtain ⟨k, hk, rfl⟩ := hp_st_of g1
    rw [nI_clamp (by omega)]
    obtain ⟨h1, h2, h3⟩ := h
    refine ⟨hp_e1_up h1 (by omega) rfl (fun j _ => by rw [hp_set_ne (Or.inl (by decide))]), fun i j hi hj => ?_, fun g j hg hj hl hs => ?_⟩
    · rw [hp_set_ne (Or.inl (by decide)), hp_set_ne (Or.inl (by decide))]
      exact h2 i j hi hj
    · rw [hp_set_ne (Or.inl (by decide))] at hs
      rw [hp_set_ne (Or.inl (by decide))]
      by_cases hgk : g = k
      · subst hgk
        rw [hp_set_eq] at hl
        have hf := hp_bn hl
        have ho := hp_all_of (hp_andl hf) hj
        unfold hp_oki hp_on at ho
        rw [hs] at ho
        by_cases h4 : r 10 j = 4
        · exact Or.inr h4
        · refine Or.inl ?_
          rw [hp_eqf h4] at ho
          have : (r 10 j == 3) = true := by simp at ho; simpa using ho.1
          simpa using this
      · rw [hp_set_ne (Or.inr hgk)] at hl
        exact h3 g j hg hj hl hs
  · simp only [hp_r_inspect, if_neg hc]
    exact hp_x_mono h (by omega)
theorem hp_x_pass {K : Nat} {v : Nat → Int32} {r : Nat → Nat → Int32} {n : Nat} (h : hp_ext K v r n) (d : Int32) : hp_ext (K + 1) (hp_v_pass v d) (hp_r_pass v r n d) n := by
  by_cases hc : hp_c_pass v d = 0
  · simp only [hp_v_pass, hp_r_pass, if_pos hc]
    obtain ⟨h1, h2, h3⟩ := h
    refine ⟨hp_e1_up h1 (by omega) (va_up_ne _ _ (by decide)) (fun j _ => rfl), fun i j hi hj => h2 i j hi hj, fun g j hg hj hl hs => ?_⟩
    have h9 := h3 g j hg hj hl hs
    show (if (decide (j < n) && (r 10 j == 1) && decide (r 13 j ≤ v 1 + d)) = true then (2 : Int32) else r 10 j) = 3 ∨ _ = (4 : Int32)
    have h1 : (r 10 j == 1) = false := hp_eqf (fun q => by rcases h9 with z | z <;> rw [q] at z <;> exact absurd z (by decide))
    show (if (decide (j < n) && (r 10 j == 1) && decide (r 13 j ≤ v 1 + d)) = true then (2 : Int32) else r 10 j) = 3 ∨ (if (decide (j < n) && (r 10 j == 1) && decide (r 13 j ≤ v 1 + d)) = true then (2 : Int32) else r 10 j) = 4
    rw [h1, Bool.and_false, Bool.false_and, if_neg (by decide)]
    exact h9
  · simp only [hp_v_pass, hp_r_pass, if_neg hc]
    exact hp_x_mono h (by omega)
theorem hp_inv0 : hp_inv hp_v0 hp_r0 0 := by
  refine ⟨by decide, fun i h => absurd h (Nat.not_lt_zero i), fun i _ _ => ⟨rfl, rfl⟩, fun i _ => ⟨3, by decide, by decide, rfl⟩, fun i _ => ⟨5, by decide, rfl⟩, fun i _ => ⟨false, rfl⟩, ⟨0, by decide, rfl⟩⟩
theorem hp_ext0 : hp_ext 0 hp_v0 hp_r0 0 := ⟨⟨0, by decide, rfl, fun i h => absurd h (Nat.not_lt_zero i)⟩, fun _ _ _ _ => rfl, fun _ i _ h => absurd h (Nat.not_lt_zero i)⟩
