/-! the law's own small methods: a call of the class, its answer or its exception's number -/
def hp_nc (U : State) : Prop := va_Nc hp_E2 hp_E1 U ∧ va_Nc hp_E3 hp_E1 U ∧ va_Nc hp_E3 hp_E2 U
theorem hp_nc_mv {s U : State} (hv : s.vm.Alike U.vm) (h : hp_nc s) : hp_nc U := ⟨va_Nc.moved hv h.1, va_Nc.moved hv h.2.1, va_Nc.moved hv h.2.2⟩
def hp_prL (D : va_G) (cI cZ cO cJ : ClassId) (w : va_W) (sz : Nat) : State → Prop := fun U => hp_prT D cI cZ cO cJ w sz U ∧ hp_nc U
theorem hp_fbL {D : va_G} {cI cZ cO cJ : ClassId} {w : va_W} {sz : Nat} {av : List Value} : FrameBlind (va_Pc av (hp_prL D cI cZ cO cJ w sz)) := fun a U g mk q => ⟨q.1, (hp_fbT (av := av) a U g mk ⟨q.1, q.2.1⟩).2, hp_nc_mv (s := U) (U := U.calling g mk a) (Vm.Alike.refl U.vm) q.2.2⟩
theorem hp_Dt {A : Nat → Prop} {x : Nat × va_E} {ws : va_W} (h : va_D A (x :: ws)) : va_D A ws := ⟨fun i j p q hi hj e => by
  have := h.1 (i + 1) (j + 1) p q hi hj e
  omega, fun k q hk => h.2 (k + 1) q hk⟩
theorem hp_reO {A : Nat → Prop} {D : va_G} {cl : List vw_C} {x : Nat × va_E} {ws ws' : va_W} {H H1 : Heap} (hP : va_P D cl (x :: ws) H) (hD : va_D A (x :: ws)) (hk : ∀ q : Nat, q < H.size → ¬ va_A ws H.size q → H1[q]? = H[q]?) (hP1 : va_P D cl ws' H1) (hD1 : va_D (va_A ws H.size) ws') (hf : ∀ q, va_A ws H.size q → A q := by first | assumption | exact fun q h => (by assumption) q h) : va_P D cl (x :: ws') H1 ∧ va_D A (x :: ws') := by
  have hx : x.1 < H.size := (hP 0 x rfl).lt
  have hn : ¬ va_A ws H.size x.1 := by
    intro h
    rcases h with ⟨k, e, h⟩ | h
    · have := hD.1 0 (k + 1) x (x.1, e) rfl h rfl
      omega
    · omega
  refine ⟨hp_Pc.mpr ⟨(hP 0 x rfl).kept (hk x.1 hx hn), hP1⟩, fun i j p q hi hj e => ?_, fun k q hq => ?_⟩
  · cases i with
    | zero =>
      cases j with
      | zero => rfl
      | succ j =>
        cases hi
        exact absurd (e ▸ hD1.2 j q hj) hn
    | succ i =>
      cases j with
      | zero =>
        cases hj
        exact absurd (e ▸ hD1.2 i p hi) hn
      | succ j =>
        have := hD1.1 i j p q hi hj e
        omega
  · cases k with
    | zero => cases hq; exact hD.2 0 x rfl
    | succ k => exact hf q.1 (hD1.2 k q hq)
theorem hp_o0 {u : Nat → Nat} {g : Nat → Int64} {A B : Int64} (h : A = B) : ((u, vp_updL g 0 A) : (Nat → Nat) × (Nat → Int64)).2 0 = B := by
  subst h
  simp [vp_updL]
