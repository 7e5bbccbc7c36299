/-! the law: its cells at the start -/
theorem hp_frA {D : va_G} {cl : List vw_C} {A : Nat → Prop} {ws : va_W} {q : Nat} {e : va_E} {H : Heap} (hP : va_P D cl (ws ++ [(q, e)]) H) (hD : va_D A (ws ++ [(q, e)])) (k : Nat) (x : Nat × va_E) (hx : ws[k]? = some x) : x.1 < H.size ∧ ¬ va_A [(q, e)] H.size x.1 := by
  have hl := (List.getElem?_eq_some_iff.mp hx).1
  have h1 : (ws ++ [(q, e)])[k]? = some x := by rw [List.getElem?_append_left hl]; exact hx
  have h2 : (ws ++ [(q, e)])[ws.length]? = some (q, e) := by simp
  have h3 := (hP k x h1).lt
  refine ⟨h3, fun h => ?_⟩
  rcases h with ⟨k2, e2, h⟩ | h
  · cases k2 with
    | zero =>
      have hq : x.1 = q := (congrArg Prod.fst (Option.some.inj h)).symm
      have := hD.1 k ws.length x (q, e) h1 h2 hq
      omega
    | succ k2 => simp at h
  · omega
theorem hp_frP {D : va_G} {cl : List vw_C} {A : Nat → Prop} {ws : va_W} {q : Nat} {e : va_E} {H H1 : Heap} (hP : va_P D cl (ws ++ [(q, e)]) H) (hD : va_D A (ws ++ [(q, e)])) (hk : ∀ z : Nat, z < H.size → ¬ va_A [(q, e)] H.size z → H1[z]? = H[z]?) : va_P D cl ws H1 := fun k x hx => by
  obtain ⟨h1, h2⟩ := hp_frA hP hD k x hx
  have hl := (List.getElem?_eq_some_iff.mp hx).1
  exact (hP k x (by rw [List.getElem?_append_left hl]; exact hx)).kept (hk x.1 h1 h2)
theorem hp_frS {D : va_G} {cl : List vw_C} {A : Nat → Prop} {ws wM : va_W} {q : Nat} {e : va_E} {H : Heap} (hP : va_P D cl (ws ++ [(q, e)]) H) (hD : va_D A (ws ++ [(q, e)])) (hM : va_D (va_A [(q, e)] H.size) wM) : hp_sep wM ws := fun i j x y hx hy h => (hp_frA hP hD j y hy).2 (h ▸ hM.2 i x hx)
theorem hp_frD {A : Nat → Prop} {ws : va_W} {x : Nat × va_E} (hD : va_D A (ws ++ [x])) : va_D A ws := ⟨fun i j p q hi hj h => by
  have hli := (List.getElem?_eq_some_iff.mp hi).1
  have hlj := (List.getElem?_eq_some_iff.mp hj).1
  exact hD.1 i j p q (by rw [List.getElem?_append_left hli]; exact hi) (by rw [List.getElem?_append_left hlj]; exact hj) h, fun k q hk => by
  have hl := (List.getElem?_eq_some_iff.mp hk).1
  exact hD.2 k q (by rw [List.getElem?_append_left hl]; exact hk)⟩
theorem hp_st9 {A : Nat → Prop} {D : va_G} {cl : List vw_C} {wM wX : va_W} {x : Nat × va_E} {H : Heap} (hP : va_P D cl ((wM ++ wX) ++ [x]) H) (hD : va_D A ((wM ++ wX) ++ [x])) : va_P D cl (x :: wX) H ∧ va_D A (x :: wX) ∧ va_P D cl wM H ∧ va_D A wM ∧ hp_sep wM (x :: wX) := by
  have gM : ∀ (k : Nat) (q : Nat × va_E), wM[k]? = some q → ((wM ++ wX) ++ [x])[k]? = some q ∧ k < wM.length := fun k q hq => by
    have hl := (List.getElem?_eq_some_iff.mp hq).1
    exact ⟨by rw [List.getElem?_append_left (by rw [List.length_append]; omega), List.getElem?_append_left hl]; exact hq, hl⟩
  have gX : ∀ (k : Nat) (q : Nat × va_E), (x :: wX)[k]? = some q → ((wM ++ wX) ++ [x])[if k = 0 then wM.length + wX.length else wM.length + (k - 1)]? = some q ∧ k ≤ wX.length := fun k q hq => by
    cases k with
    | zero =>
      cases hq
      exact ⟨by rw [if_pos rfl, List.getElem?_append_right (by rw [List.length_append]; omega), List.length_append, Nat.sub_self]; rfl, Nat.zero_le _⟩
    | succ k =>
      have hq2 : wX[k]? = some q := hq
      have hl := (List.getElem?_eq_some_iff.mp hq2).1
      refine ⟨?_, hl⟩
      rw [if_neg (Nat.succ_ne_zero k), Nat.add_sub_cancel, List.getElem?_append_left (by rw [List.length_append]; omega), List.getElem?_append_right (by omega), Nat.add_sub_cancel_left]
      exact hq2
  refine ⟨fun k q hq => hP _ q (gX k q hq).1, ⟨fun i j p q hi hj h => ?_, fun k q hq => hD.2 _ q (gX k q hq).1⟩, fun k q hq => hP k q (gM k q hq).1, ⟨fun i j p q hi hj h => hD.1 i j p q (gM i p hi).1 (gM j q hj).1 h, fun k q hq => hD.2 k q (gM k q hq).1⟩, fun i j p q hi hj h => ?_⟩
  · have h1 := hD.1 _ _ p q (gX i p hi).1 (gX j q hj).1 h
    have h2 := (gX i p hi).2
    have h3 := (gX j q hj).2
    split at h1 <;> split at h1 <;> omega
  · have h1 := hD.1 _ _ p q (gM i p hi).1 (gX j q hj).1 h
    have h2 := (gM i p hi).2
    split at h1 <;> omega
