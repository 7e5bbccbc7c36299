/-! the law's own small methods: a call of the class, its answer or its exception's number -/
abbrev hp_K1 : Int32 := -2000000001
abbrev hp_K2 : Int32 := -2000000002
abbrev hp_K3 : Int32 := -2000000003
def hp_w (a b d c x : Int32) : Int32 := if c = 0 then x else if c = 1 then a else if c = 2 then b else d
theorem hp_w0 {a b d c x : Int32} (h : c = 0) : hp_w a b d c x = x := if_pos h
theorem hp_w1 {a b d c x : Int32} (h : c = nI (0 + 1)) : a = hp_w a b d c x := by subst h; rfl
theorem hp_w2 {a b d c x : Int32} (h : c = nI (0 + 1 + 1)) : b = hp_w a b d c x := by subst h; rfl
theorem hp_w3 {a b d c x : Int32} (h : c = nI (0 + 1 + 1 + 1)) : d = hp_w a b d c x := by subst h; rfl
def hp_nc (U : State) : Prop := va_Nc hp_E2 hp_E1 U ∧ va_Nc hp_E3 hp_E1 U ∧ va_Nc hp_E3 hp_E2 U
theorem hp_nc_mv {s U : State} (hv : s.vm.Alike U.vm) (h : hp_nc s) : hp_nc U := ⟨va_Nc.moved hv h.1, va_Nc.moved hv h.2.1, va_Nc.moved hv h.2.2⟩
def hp_prL (D : va_G) (cI cZ cO cJ : ClassId) (w : va_W) (sz : Nat) : State → Prop := fun U => hp_prT D cI cZ cO cJ w sz U ∧ hp_nc U
theorem hp_fbL {D : va_G} {cI cZ cO cJ : ClassId} {w : va_W} {sz : Nat} {av : List Value} : FrameBlind (va_Pc av (hp_prL D cI cZ cO cJ w sz)) := fun a U g mk q => ⟨q.1, (hp_fbT (av := av) a U g mk ⟨q.1, q.2.1⟩).2, hp_nc_mv (s := U) (U := U.calling g mk a) (Vm.Alike.refl U.vm) q.2.2⟩
