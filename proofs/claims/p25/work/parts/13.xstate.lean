/-! the class: what its methods want beside their world -/
def hp_E1 : String := "java/lang/IndexOutOfBoundsException"
def hp_E2 : String := "java/lang/IllegalArgumentException"
def hp_E3 : String := "java/lang/IllegalStateException"
def hp_exL : List Cond := [.declares (Bundle.initS "java/lang/RuntimeException"), .declares (Bundle.initS "java/lang/Exception"), .declares (Bundle.initS Bundle.tN), .castable hp_E1 hp_E1, .castable hp_E2 hp_E2, .castable hp_E3 hp_E3, .methodLinkNest RX0 55 yX1_isWithin RX1, .methodLinkNest RX0 59 yX1_isCell RX1]
def hp_ex (U : State) : Prop := va_Nw (.declares (Bundle.initS "java/lang/RuntimeException")) U ∧ va_Nw (.declares (Bundle.initS "java/lang/Exception")) U ∧ va_Nw (.declares (Bundle.initS Bundle.tN)) U ∧ va_Nw (.castable hp_E1 hp_E1) U ∧ va_Nw (.castable hp_E2 hp_E2) U ∧ va_Nw (.castable hp_E3 hp_E3) U ∧ va_Nw (.methodLinkNest RX0 55 yX1_isWithin RX1) U ∧ va_Nw (.methodLinkNest RX0 59 yX1_isCell RX1) U
theorem hp_ex_warm {s U : State} (hW : s.WarmedH U.vm) (h : hp_ex s) : hp_ex U := ⟨va_Nw.warmD hW h.1, va_Nw.warmD hW h.2.1, va_Nw.warmD hW h.2.2.1, va_Nw.warmC hW h.2.2.2.1, va_Nw.warmC hW h.2.2.2.2.1, va_Nw.warmC hW h.2.2.2.2.2.1, va_Nw.warmM hW h.2.2.2.2.2.2.1, va_Nw.warmM hW h.2.2.2.2.2.2.2⟩
theorem hp_ex_vm {s U : State} (hv : s.vm = U.vm) (h : hp_ex s) : hp_ex U := ⟨va_Nw.same rfl hv h.1, va_Nw.same rfl hv h.2.1, va_Nw.same rfl hv h.2.2.1, va_Nw.same rfl hv h.2.2.2.1, va_Nw.same rfl hv h.2.2.2.2.1, va_Nw.same rfl hv h.2.2.2.2.2.1, va_Nw.same rfl hv h.2.2.2.2.2.2.1, va_Nw.same rfl hv h.2.2.2.2.2.2.2⟩
def hp_prX (D : va_G) (cI cZ cO cJ : ClassId) (w : va_W) : State → Prop := fun U => va_P D vwCl w U.heap ∧ va_K D vwCl (hp_ty cI cZ cO cJ) U ∧ hp_ex U
theorem hp_fbX {D : va_G} {cI cZ cO cJ : ClassId} {w : va_W} {av : List Value} : FrameBlind (va_Pc av (hp_prX D cI cZ cO cJ w)) := fun a U g mk q => ⟨q.1, q.2.1, va_K.moved (u := U) (U := U.calling g mk a) (Vm.Alike.refl U.vm) q.2.2.1, hp_ex_vm (s := U) rfl q.2.2.2⟩
theorem hp_toX {D : va_G} {cI cZ cO cJ : ClassId} {w : va_W} {s U : State} {H : Heap} (hP : va_P D vwCl w H) (hK : va_K D vwCl (hp_ty cI cZ cO cJ) s) (hN : hp_ex s) (hU : U.heap = H) (hW : s.WarmedH U.vm) : hp_prX D cI cZ cO cJ w U := ⟨by rw [hU]; exact hP, va_K.moved hW.alike hK, hp_ex_warm hW hN⟩
def hp_prmX (D : va_G) (cI cZ cO cJ : ClassId) (w : va_W) (sz : Nat) : State → Prop := fun U => U.heap.size = sz ∧ va_P D vwCl w U.heap ∧ va_K D vwCl (hp_ty cI cZ cO cJ) U ∧ va_D (fun _ => True) w ∧ hp_ex U
theorem hp_mfbX {D : va_G} {cI cZ cO cJ : ClassId} {w : va_W} {sz : Nat} {av : List Value} : FrameBlind (va_Pc av (hp_prmX D cI cZ cO cJ w sz)) := fun a U g mk q => ⟨q.1, q.2.1, q.2.2.1, va_K.moved (u := U) (U := U.calling g mk a) (Vm.Alike.refl U.vm) q.2.2.2.1, q.2.2.2.2.1, hp_ex_vm (s := U) rfl q.2.2.2.2.2⟩
theorem hp_mtoX {D : va_G} {cI cZ cO cJ : ClassId} {w : va_W} {s U : State} {H : Heap} {A : Nat → Prop} (hP : va_P D vwCl w H) (hK : va_K D vwCl (hp_ty cI cZ cO cJ) s) (hD : va_D A w) (hN : hp_ex s) (hU : U.heap = H) (hW : s.WarmedH U.vm) : hp_prmX D cI cZ cO cJ w H.size U := ⟨by rw [hU], by rw [hU]; exact hP, va_K.moved hW.alike hK, hD.weaken (fun _ _ _ _ => trivial), hp_ex_warm hW hN⟩
/-! numbers: the class's own ways to the same answers -/
def hp_mn (a b : Int32) : Int32 := if a < b then a else b
def hp_mx (a b : Int32) : Int32 := if a < b then b else a
def hp_gx (a b c d : Int32) : Int32 := hp_mx 0 (hp_mx (hp_mn c d - hp_mx a b) (hp_mn a b - hp_mx c d))
theorem hp_mn_nI {a b : Nat} (ha : a < 2 ^ 31) (hb : b < 2 ^ 31) : hp_mn (nI a) (nI b) = nI (min a b) := by
  unfold hp_mn
  by_cases h : a < b
  · rw [if_pos (nI_lt h hb), Nat.min_eq_left (by omega)]
  · rw [if_neg (nI_nlt (by omega) ha), Nat.min_eq_right (by omega)]
theorem hp_mx_nI {a b : Nat} (ha : a < 2 ^ 31) (hb : b < 2 ^ 31) : hp_mx (nI a) (nI b) = nI (max a b) := by
  unfold hp_mx
  by_cases h : a < b
  · rw [if_pos (nI_lt h hb), Nat.max_eq_right (by omega)]
  · rw [if_neg (nI_nlt (by omega) ha), Nat.max_eq_left (by omega)]
theorem hp_gap_nI {a b c d : Nat} (ha : a < 12) (hb : b < 12) (hc : c < 12) (hd : d < 12) : hp_gap (nI a) (nI b) (nI c) (nI d) = nI ((min c d - max a b) + (min a b - max c d)) := by
  have e1 : (if nI a < nI b then nI b else nI a) = nI (max a b) := hp_mx_nI (by omega) (by omega)
  have e2 : (if nI c < nI d then nI c else nI d) = nI (min c d) := hp_mn_nI (by omega) (by omega)
  have e3 : (if nI c < nI d then nI d else nI c) = nI (max c d) := hp_mx_nI (by omega) (by omega)
  have e4 : (if nI a < nI b then nI a else nI b) = nI (min a b) := hp_mn_nI (by omega) (by omega)
  unfold hp_gap
  rw [e1, e2, e3, e4]
  by_cases h1 : max a b < min c d
  · rw [if_pos (nI_lt h1 (by omega)), pk_sub (by omega)]
    congr 1
    omega
  · rw [if_neg (nI_nlt (by omega) (by omega))]
    by_cases h2 : max c d < min a b
    · rw [if_pos (nI_lt h2 (by omega)), pk_sub (by omega)]
      congr 1
      omega
    · rw [if_neg (nI_nlt (by omega) (by omega))]
      show nI 0 = _
      congr 1
      omega
theorem hp_nsub {a b : Nat} (ha : a < 12) (hb : b < 12) (h : a ≤ b) : ¬ 0 < nI a - nI b ∧ (a = b → nI a - nI b = 0) ∧ ∀ c, c < 12 → nI a - nI b ≤ nI c := by
  have e : (nI a - nI b).toInt = (a : Int) - b := pk_sub_toInt (by omega) (by omega)
  refine ⟨fun q => ?_, fun q => by subst q; simp, fun c hc => ?_⟩
  · have := Int32.lt_iff_toInt_lt.mp q
    rw [e] at this
    have z : (0 : Int32).toInt = 0 := rfl
    rw [z] at this
    omega
  · rw [Int32.le_iff_toInt_le, e, nI_toInt (by omega)]
    omega
theorem hp_gx_nI {a b c d : Nat} (ha : a < 12) (hb : b < 12) (hc : c < 12) (hd : d < 12) : hp_gx (nI a) (nI b) (nI c) (nI d) = nI ((min c d - max a b) + (min a b - max c d)) := by
  unfold hp_gx
  rw [hp_mn_nI (by omega) (by omega), hp_mn_nI (by omega) (by omega), hp_mx_nI (by omega) (by omega), hp_mx_nI (by omega) (by omega)]
  by_cases h1 : max a b < min c d
  · have h2 : min a b ≤ max c d := by omega
    obtain ⟨-, -, q3⟩ := hp_nsub (a := min a b) (b := max c d) (by omega) (by omega) h2
    have e : nI (min c d) - nI (max a b) = nI (min c d - max a b) := pk_sub (by omega)
    rw [e]
    have s1 : hp_mx (nI (min c d - max a b)) (nI (min a b) - nI (max c d)) = nI (min c d - max a b) := by
      unfold hp_mx
      exact if_neg (hp_len (q3 _ (by omega)))
    rw [s1]
    show hp_mx (nI 0) _ = _
    rw [hp_mx_nI (by decide) (by omega)]
    congr 1
    omega
  · obtain ⟨p1, p2, p3⟩ := hp_nsub (a := min c d) (b := max a b) (by omega) (by omega) (by omega)
    by_cases h2 : max c d ≤ min a b
    · have e : nI (min a b) - nI (max c d) = nI (min a b - max c d) := pk_sub h2
      rw [e]
      have s1 : hp_mx (nI (min c d) - nI (max a b)) (nI (min a b - max c d)) = nI (min a b - max c d) := by
        unfold hp_mx
        by_cases h3 : nI (min c d) - nI (max a b) < nI (min a b - max c d)
        · exact if_pos h3
        · rw [if_neg h3]
          exact Int32.le_antisymm (p3 _ (by omega)) (hp_nlt h3)
      rw [s1]
      show hp_mx (nI 0) _ = _
      rw [hp_mx_nI (by decide) (by omega)]
      congr 1
      omega
    · obtain ⟨q1, q2, q3⟩ := hp_nsub (a := min a b) (b := max c d) (by omega) (by omega) (by omega)
      have s1 : ¬ 0 < hp_mx (nI (min c d) - nI (max a b)) (nI (min a b) - nI (max c d)) := by
        unfold hp_mx
        split
        · exact q1
        · exact p1
      have s2 : hp_mx 0 (hp_mx (nI (min c d) - nI (max a b)) (nI (min a b) - nI (max c d))) = 0 := if_neg s1
      rw [s2]
      show nI 0 = _
      congr 1
      omega
theorem hp_gx_eq {a b c d : Int32} (ha : ∃ k, k < 12 ∧ a = nI k) (hb : ∃ k, k < 12 ∧ b = nI k) (hc : ∃ k, k < 12 ∧ c = nI k) (hd : ∃ k, k < 12 ∧ d = nI k) : hp_gx a b c d = hp_gap a b c d := by
  obtain ⟨a, ha, rfl⟩ := ha
  obtain ⟨b, hb, rfl⟩ := hb
  obtain ⟨c, hc, rfl⟩ := hc
  obtain ⟨d, hd, rfl⟩ := hd
  rw [hp_gx_nI ha hb hc hd, hp_gap_nI ha hb hc hd]
/-- does the element i cover the cell x, y, as the class asks it -/
def hp_cov (r : Nat → Nat → Int32) (i : Nat) (x y : Int32) : Bool := hp_in x (hp_mn (r 6 i) (r 8 i)) (hp_mx (r 6 i) (r 8 i)) && hp_in y (hp_mn (r 7 i) (r 9 i)) (hp_mx (r 7 i) (r 9 i))
theorem hp_in_gap {a b x : Nat} (ha : a < 12) (hb : b < 12) (hx : x < 12) : hp_in (nI x) (hp_mn (nI a) (nI b)) (hp_mx (nI a) (nI b)) = (hp_gap (nI a) (nI b) (nI x) (nI x) == 0) := by
  rw [hp_mn_nI (by omega) (by omega), hp_mx_nI (by omega) (by omega), hp_gap_nI ha hb hx hx, Nat.min_self, Nat.max_self]
  have e : (nI (x - max a b + (min a b - x)) == 0) = decide (min a b ≤ x ∧ x ≤ max a b) := by
    rw [Bool.eq_iff_iff]
    simp only [beq_iff_eq, decide_eq_true_eq]
    show nI _ = nI 0 ↔ _
    rw [nI_eq (by omega) (by decide)]
    omega
  rw [e]
  unfold hp_in
  rw [Bool.eq_iff_iff]
  simp only [Bool.and_eq_true, decide_eq_true_eq]
  rw [nI_leI (by omega) (by omega), nI_leI (by omega) (by omega)]
theorem hp_cov_at {r : Nat → Nat → Int32} {i : Nat} {x y : Int32} (h : hp_elm r i) (hx : ∃ k, k < 12 ∧ x = nI k) (hy : ∃ k, k < 12 ∧ y = nI k) : hp_cov r i x y = ((hp_gap (r 6 i) (r 8 i) x x == 0) && (hp_gap (r 7 i) (r 9 i) y y == 0)) := by
  obtain ⟨-, -, ⟨a, ha, ea⟩, ⟨c, hc, ec⟩, ⟨b, hb, eb⟩, ⟨d, hd, ed⟩, -⟩ := h
  obtain ⟨x, hx, rfl⟩ := hx
  obtain ⟨y, hy, rfl⟩ := hy
  unfold hp_cov
  rw [ea, eb, ec, ed, hp_in_gap ha hb hx, hp_in_gap hc hd hy]
theorem hp_los (r : Nat → Nat → Int32) (t b : Int32) (i : Nat) : (decide (b < r 11 i) && decide (r 12 i < t)) = !(hp_tk r t b i) := by
  unfold hp_tk
  by_cases h1 : r 11 i ≤ b
  · simp [h1, hp_len h1]
  · by_cases h2 : r 12 i = t
    · simp [h1, h2]
    · by_cases h3 : t < r 12 i
      · have : ¬ r 12 i < t := hp_len (Int32.le_of_lt h3)
        simp [h1, h2, h3, this]
      · have h4 : r 12 i < t := by
          rcases Int32.lt_or_eq_of_le (hp_nlt h3) with q | q
          · exact q
          · exact absurd q h2
        simp [hp_nle h1, h2, h3, h4, h1]
theorem hp_comm1 (a b : Int32) : a + b + 1 = 1 + a + b := by
  rw [Int32.add_comm (a + b) 1, Int32.add_assoc]
theorem hp_abs2 (x : Int32) : (if 0 ≤ x then x else 0 - x) = hp_abs x := by
  unfold hp_abs
  by_cases h : 0 ≤ x
  · rw [if_pos h, if_neg (hp_len h)]
  · rw [if_neg h, if_pos (hp_nle h)]
    simp
section HPL
variable {p : Program} {l : Launch} {e : Env} {R : Room} {s : State} {m : MethodId} {args : Array Value} {below : List Frame} {meth : Method} {c : Code} {H : Heap} {locs : List Loc} {cells slots : Nat} {Q : State → Prop}
theorem hp_loopI {pc nL : Nat} (LV : Nat → List (Nat × Value)) (I : Nat → Prop) (N : Nat)
    (step : ∀ k, k ≤ N → I k → (k < N → I (k + 1) → ∀ ls : Array Slot, lv_has ls nL (LV (k + 1)) → W p l e R s m args below meth c H locs cells slots Q (F0 m pc ls [])) → ∀ ls : Array Slot, lv_has ls nL (LV k) → W p l e R s m args below meth c H locs cells slots Q (F0 m pc ls []))
    {ls : Array Slot} (h0 : I 0) (hl : lv_has ls nL (LV 0)) : W p l e R s m args below meth c H locs cells slots Q (F0 m pc ls []) := by
  have key : ∀ f k, k ≤ N → N - k ≤ f → I k → ∀ ls : Array Slot, lv_has ls nL (LV k) → W p l e R s m args below meth c H locs cells slots Q (F0 m pc ls []) := by
    intro f
    induction f with
    | zero => exact fun k hk hf hI => step k hk hI (fun hlt => absurd hlt (by omega))
    | succ f ih => exact fun k hk hf hI => step k hk hI (fun hlt hI' => ih (k + 1) (by omega) (by omega) hI')
  exact key N 0 (Nat.zero_le N) (by omega) h0 ls hl
end HPL
theorem hp_mxx (a b : Int32) : hp_mx a b = hp_max a b := by
  unfold hp_mx hp_max
  by_cases h : a < b
  · rw [if_pos h, if_neg (hp_len (Int32.le_of_lt h))]
  · rw [if_neg h]
    by_cases h2 : b < a
    · rw [if_pos h2]
    · rw [if_neg h2]
      exact Int32.le_antisymm (hp_nlt h2) (hp_nlt h)
theorem hp_kdr {r : Nat → Nat → Int32} {i : Nat} (h : hp_elm r i) : hp_kd (r 4 i) = true := by
  obtain ⟨⟨k, hk, e⟩, -⟩ := h
  rw [e]
  exact hp_kd_nI hk
theorem hp_all_no {f : Nat → Bool} {n i : Nat} (hi : i < n) (h : f i = false) : hp_all f n = false := by
  induction n with
  | zero => omega
  | succ n ih =>
    rcases Nat.lt_succ_iff_lt_or_eq.mp hi with q | q
    · simp [hp_all, ih q]
    · subst q; simp [hp_all, h]
theorem hp_fin_no {r : Nat → Nat → Int32} {n i : Nat} {f : Int32} (hi : i < n) (h : hp_oki r n f i = false) : hp_fin r n f = false := by
  unfold hp_fin
  rw [hp_all_no hi h, Bool.false_and]
theorem hp_mn2 (x y : Int32) : (if y < x then y else x) = hp_mn x y := by
  unfold hp_mn
  by_cases h : y < x
  · rw [if_pos h, if_neg (hp_len (Int32.le_of_lt h))]
  · rw [if_neg h]
    by_cases h2 : x < y
    · rw [if_pos h2]
    · rw [if_neg h2]
      exact Int32.le_antisymm (hp_nlt h) (hp_nlt h2)
theorem hp_cixe (r : Nat → Nat → Int32) (i j : Nat) : hp_cix r i j = hp_ci (r 4 i) (r 4 j) := rfl
def hp_shf (r : Nat → Nat → Int32) (i : Nat) (x y : Int32) : Nat → Nat → Int32 := hp_set (hp_set (hp_set (hp_set r 6 i (r 6 i + x)) 7 i (r 7 i + y)) 8 i (r 8 i + x)) 9 i (r 9 i + y)
theorem hp_shf_mov (r : Nat → Nat → Int32) (i : Nat) (x y : Int32) : hp_shf r i x y = hp_mov r i x y := by
  funext a j
  by_cases h6 : a = 6
  · subst h6; simp [hp_shf, hp_mov, hp_set, va_up]
  · by_cases h7 : a = 7
    · subst h7; simp [hp_shf, hp_mov, hp_set, va_up]
    · by_cases h8 : a = 8
      · subst h8; simp [hp_shf, hp_mov, hp_set, va_up]
      · by_cases h9 : a = 9
        · subst h9; simp [hp_shf, hp_mov, hp_set, va_up]
        · simp [hp_shf, hp_mov, hp_set, va_up, h6, h7, h8, h9]
def hp_dif (r : Nat → Nat → Int32) (i : Nat) (d : Int32) : Nat → Nat → Int32 := if ((r 10 i == 1) && decide (r 13 i ≤ d)) = true then hp_set r 10 i 2 else r
