/-! the law: what holds between two calls -/
abbrev hp_A (s : State) : Nat → Prop := fun q => s.heap.size ≤ q
def hp_sep (a b : va_W) : Prop := ∀ (i j : Nat) (p q : Nat × va_E), a[i]? = some p → b[j]? = some q → p.1 ≠ q.1
theorem hp_sep_sym {a b : va_W} (h : hp_sep a b) : hp_sep b a := fun i j p q hp hq e => h j i q p hq hp e.symm
/-- a is the world that is called, b the other one -/
theorem hp_sepP {D : va_G} {cl : List vw_C} {a b : va_W} {H H1 : Heap} (hb : va_P D cl b H) (h : hp_sep b a) (hk : ∀ q : Nat, q < H.size → ¬ va_A a H.size q → H1[q]? = H[q]?) : va_P D cl b H1 := hb.kept fun k q hq => hk q.1 ((hb k q hq).lt) (fun z => by
  rcases z with ⟨i, e, z⟩ | z
  · exact h k i q (q.1, e) hq z rfl
  · have := (hb k q hq).lt
    omega)
theorem hp_sepN {D : va_G} {cl : List vw_C} {a a' b : va_W} {H : Heap} (hb : va_P D cl b H) (h : hp_sep b a) (hD : va_D (va_A a H.size) a') : hp_sep b a' := fun i j p q hp hq e => by
  have hl := (hb i p hp).lt
  rcases hD.2 j q hq with ⟨k, e2, z⟩ | z
  · exact h i k p (q.1, e2) hp z e
  · omega
theorem hp_sepM {cI cZ : ClassId} {o : Nat} {a : Nat → Nat} {v v' : Nat → Int32} {r r' : Nat → Nat → Int32} {n n' : Nat} {w : va_W} (h : hp_sep (hp_M cI cZ o a v r n) w) : hp_sep (hp_M cI cZ o a v' r' n') w := fun i j p q hp hq e => by
  have he : (hp_M cI cZ o a v r n).map Prod.fst = (hp_M cI cZ o a v' r' n').map Prod.fst := by simp [hp_M]
  have h1 : ((hp_M cI cZ o a v' r' n').map Prod.fst)[i]? = some p.1 := by rw [List.getElem?_map, hp]; rfl
  rw [← he, List.getElem?_map] at h1
  cases h2 : (hp_M cI cZ o a v r n)[i]? with
  | none => rw [h2] at h1; cases h1
  | some p0 =>
    rw [h2] at h1
    exact h i j p0 q h2 hq ((Option.some.inj h1).trans e)
def hp_LI (D : va_G) (cI cZ cO cJ : ClassId) (A : Nat → Prop) (ox om oq : Nat) (bx am ad : Nat → Nat) (g : Nat → Int64) (v : Nat → Int32) (r : Nat → Nat → Int32) (n : Nat) (t : Int32) (H : Heap) : Prop :=
  va_P D vwCl ((oq, .inl (cJ, 1, .inr (.inl (g)))) :: hp_X cI cZ cO ox bx ad v r n) H ∧ va_D A ((oq, .inl (cJ, 1, .inr (.inl (g)))) :: hp_X cI cZ cO ox bx ad v r n) ∧ va_P D vwCl (hp_M cI cZ om am (va_up v 0 t) r n) H ∧ (∀ v r n, va_D A (hp_M cI cZ om am v r n)) ∧ hp_sep (hp_M cI cZ om am (va_up v 0 t) r n) ((oq, .inl (cJ, 1, .inr (.inl (g)))) :: hp_X cI cZ cO ox bx ad v r n) ∧ hp_inv v r n
theorem hp_i7 (j : Nat) : nI (7 * j) + Int32.ofInt 7 = nI (7 * (j + 1)) := by
  show nI (7 * j) + nI 7 = _
  rw [nI_add]
  rfl
section HPS
variable {p : Program} {l : Launch} {e : Env} {R : Room} {s : State} {m : MethodId} {args : Array Value} {below : List Frame} {meth : Method} {c : Code} {H : Heap} {locs : List Loc} {cells slots : Nat} {Q : State → Prop}
variable {cc : ByteArray} {pc : Nat} {ls : Array Slot} {rest : List Value} {A : Nat → Prop} {H0 : Heap}
theorem hp_sld (hexec : p.tables.exec = Jvm.exec) (hb : c.code = cc) {b L : Nat} {xs : Nat → Int32} (hX : va_X b L xs s H0) (hbl : b < H0.size) (hbA : ¬ A b) (hS : va_S A H0 H locs) {i : Nat} (hi : i < L) (hs : i < 2 ^ 31) (hdg : decode cc pc = .ok (.iaload, 1))
    (kk : W p l e R s m args below meth c H locs cells slots Q (F0 m (pc + 1) ls (.int (xs i) :: rest))) : W p l e R s m args below meth c H locs cells slots Q (F0 m pc ls (.int (nI i) :: .ref b :: rest)) :=
  va_sld hexec hb hX hbl hbA hS (i := nI i) (by
    rintro (q | q)
    · exact nI_pos hs q
    · rw [nI_clamp hs] at q; omega) hdg (by rw [nI_clamp hs]; exact kk)
theorem hp_topl {x y : Int64} (h : x = y) (k : W p l e R s m args below meth c H locs cells slots Q (F0 m pc ls (.long y :: rest))) : W p l e R s m args below meth c H locs cells slots Q (F0 m pc ls (.long x :: rest)) := by rw [h]; exact k
theorem hp_cmp (x : Int64) : lg_cmp x x = 0 := by simp [lg_cmp]
theorem hp_lcmp (hexec : p.tables.exec = Jvm.exec) (hb : c.code = cc) {x y : Int64} (hdg : decode cc pc = .ok (.lcmp, 1)) (h : x = y) (k : W p l e R s m args below meth c H locs cells slots Q (F0 m (pc + 1) ls (.int 0 :: rest))) : W p l e R s m args below meth c H locs cells slots Q (F0 m pc ls (.long y :: .long x :: rest)) := by
  subst h
  refine W.lcmp hexec hb hdg ?_
  rw [hp_cmp]
  exact k
end HPS
