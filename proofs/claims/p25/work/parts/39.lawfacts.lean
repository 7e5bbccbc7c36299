/-! the law: what its start gives -/
abbrev hp_A (s : State) : Nat → Prop := fun q => s.heap.size ≤ q
theorem hp_RAi {s : State} {A : Array Value} {ty : FieldType} (h : (Cond.arrayClass ty).before A s = true) : ∃ c : ClassId, ArrOfT s c ty ∧ s.vm.findClass ("[" ++ ty.toString) = some c := by
  obtain ⟨c, k, comp, h1, h2, h3⟩ := Cond.arrayClass_spec h
  exact ⟨c, fun n z => ⟨(fun k h => by cases h), k, h2, comp, h3⟩, h1⟩
theorem hp_RAo {s : State} {A : Array Value} {C : String} (h : (Cond.arrayOver (.object C)).before A s = true) : ∃ c : ClassId, ArrOfT s c (.object C) ∧ va_RA s c (.object C) := by
  obtain ⟨comp, c, k, h1, h2, h3, h4, h5⟩ := Cond.arrayOver_spec h
  exact ⟨c, fun n z => ⟨(fun k h => by cases h), k, h3, comp, h4⟩, k, comp, h3, h4, h1, h5⟩
def hp_strW : List Cond := hp_strL.map (fun q => Cond.stringRef RX1 q.1 q.2)
def hp_strN : List Cond := hp_strL.map (fun q => Cond.exactly (Term.string RX1 q.1) "java/lang/String")
theorem hp_strW_in : ∀ w ∈ hp_strW, w ∈ lw_tbl := by decide +kernel
theorem hp_strN_in : ∀ w ∈ hp_strN, w ∈ flatC (Jvm.Cond.and given_1 narrow_1) := by decide +kernel
set_option maxRecDepth 20000 in
theorem law_facts {s : State} {b : Addr} (hts : ∀ w ∈ lw_tbl, w.before #[Value.ref b] s = true) (hgv : (Jvm.Cond.and given_1 narrow_1).before #[Value.ref b] s = true) :
    ∃ (dC : Nat → ClassId) (dI : Nat → Nat → Nat) (cI cZ cO cJ : ClassId), va_K (dC, dI) vwCl (hp_ty cI cZ cO cJ) s ∧ hp_ex s ∧ hp_str s ∧ hp_Zu (hp_A s) s s.heap ∧ hp_Zn (hp_A s) s s.heap ∧ hp_nc s := by
  have hg := flat_of_before _ hgv
  obtain ⟨c0, iS0, hKn0⟩ := u_known (C := RX0) (T := TX0) (N := 10) (n := 10) hts inX0 (hts (.instantiable RX0 10) (by decide +kernel))
  obtain ⟨c1, iS1, hKn1⟩ := u_known (C := RX1) (T := TX1) (N := 8) (n := 8) hts inX1 (hts (.instantiable RX1 8) (by decide +kernel))
  obtain ⟨cI, i1, i2⟩ := hp_RAi (hts (.arrayClass .int) (by decide +kernel))
  obtain ⟨cZ, z1, z2⟩ := hp_RAi (hts (.arrayClass .boolean) (by decide +kernel))
  obtain ⟨cO, o1, o2⟩ := hp_RAo (hts (.arrayOver (.object RX0)) (by decide +kernel))
  refine ⟨fun k => if k = 0 then c0 else c1, fun k => if k = 0 then iS0 else iS1, cI, cZ, cO, cI, ⟨fun k q hq => ?_, fun k q hq => ?_⟩, ⟨?_, ?_, ?_, ?_, ?_, ?_, ?_, ?_⟩, fun q hq => ?_, ?_, ?_, ⟨?_, ?_, ?_⟩⟩
  · match k, hq with
    | 0, hq => cases hq; exact hKn0
    | 1, hq => cases hq; exact hKn1
    | k + 2, hq => simp [vwCl] at hq
  · match k, hq with
    | 0, hq => cases hq; exact ⟨i1, i2⟩
    | 1, hq => cases hq; exact ⟨z1, z2⟩
    | 2, hq => cases hq; exact ⟨o1, o2⟩
    | 3, hq => cases hq; exact ⟨i1, i2⟩
    | k + 4, hq => simp [hp_ty] at hq
  · exact va_Nw.of rfl (hts (.declares (Bundle.initS "java/lang/RuntimeException")) (by decide +kernel))
  · exact va_Nw.of rfl (hts (.declares (Bundle.initS "java/lang/Exception")) (by decide +kernel))
  · exact va_Nw.of rfl (hts (.declares (Bundle.initS Bundle.tN)) (by decide +kernel))
  · exact va_Nw.of rfl (hts (.castable hp_E1 hp_E1) (by decide +kernel))
  · exact va_Nw.of rfl (hts (.castable hp_E2 hp_E2) (by decide +kernel))
  · exact va_Nw.of rfl (hts (.castable hp_E3 hp_E3) (by decide +kernel))
  · exact va_Nw.of rfl (hts (.methodLinkNest RX0 55 yX1_isWithin RX1) (by decide +kernel))
  · exact va_Nw.of rfl (hts (.methodLinkNest RX0 59 yX1_isCell RX1) (by decide +kernel))
  · obtain ⟨a, -, -, -, h, -⟩ := Cond.exactly_spec (hg _ (hp_strN_in _ (List.mem_map_of_mem (f := fun q : Nat × String => Cond.exactly (Term.string RX1 q.1) "java/lang/String") hq)))
    exact ⟨a, vk_R.of (hts _ (hp_strW_in _ (List.mem_map_of_mem (f := fun q : Nat × String => Cond.stringRef RX1 q.1 q.2) hq))) h⟩
  · exact vx_Zqof (hts _ (by decide +kernel)) (hts (.initialized Bundle.tN) (by decide +kernel)) (hg _ (by decide +kernel)) (fun a h => Nat.not_le.mpr h)
  · exact vx_Zqof (hts _ (by decide +kernel)) (hts (.initialized Bundle.tN) (by decide +kernel)) (hg _ (by decide +kernel)) (fun a h => Nat.not_le.mpr h)
  · exact va_Nc.of (hg (.not (.castable hp_E2 hp_E1)) (by decide +kernel))
  · exact va_Nc.of (hg (.not (.castable hp_E3 hp_E1)) (by decide +kernel))
  · exact va_Nc.of (hg (.not (.castable hp_E3 hp_E2)) (by decide +kernel))
theorem law_hl0 {l : Launch} (h : l.flags = flags0) : l.stackTraces = false := by
  show (!l.flags.contains noTraceFlag) = false
  rw [h]
  decide +kernel
theorem law_AO {s : State} {b : Addr} (hts : ∀ w ∈ lw_tbl, w.before #[Value.ref b] s = true) : va_AO RX0 s := va_AO.of (hts (.arrayOver (.object RX0)) (by decide +kernel))
/-! the law: its cells at the start -/
theorem hp_frA {D : va_G} {cl : List vw_C} {A : Nat → Prop} {ws : va_W} {q : Nat} {e : va_E} {H : Heap} (hP : va_P D cl (ws ++ [(q, e)]) H) (hD : va_D A (ws ++ [(q, e)])) (k : Nat) (x : Nat × va_E) (hx : ws[k]? = some x) : x.1 < H.size ∧ ¬ va_A [(q, e)] H.size x.1 := by
  have hl := (List.getElem?_eq_some_iff.mp hx).1
  have h1 : (ws ++ [(q, e)])[k]? = some x := by rw [List.getElem?_append_left hl]; exact hx
  have h2 : (ws ++ [(q, e)])[ws.length]? = some (q, e) := by simp
  have h3 := (hP k x h1).lt
  refine ⟨h3, fun h => ?_⟩
  rcases h with ⟨k2, e2, h⟩ | h
  · cases k2 with
    | zero =>
      have hq : x.1 = q := (congrArg Prod.fst (Option.some.inj h)).symm
      have := hD.1 k ws.length x (q, e) h1 h2 hq
      omega
    | succ k2 => simp at h
  · omega
theorem hp_frP {D : va_G} {cl : List vw_C} {A : Nat → Prop} {ws : va_W} {q : Nat} {e : va_E} {H H1 : Heap} (hP : va_P D cl (ws ++ [(q, e)]) H) (hD : va_D A (ws ++ [(q, e)])) (hk : ∀ z : Nat, z < H.size → ¬ va_A [(q, e)] H.size z → H1[z]? = H[z]?) : va_P D cl ws H1 := fun k x hx => by
  obtain ⟨h1, h2⟩ := hp_frA hP hD k x hx
  have hl := (List.getElem?_eq_some_iff.mp hx).1
  exact (hP k x (by rw [List.getElem?_append_left hl]; exact hx)).kept (hk x.1 h1 h2)
theorem hp_frS {D : va_G} {cl : List vw_C} {A : Nat → Prop} {ws wM : va_W} {q : Nat} {e : va_E} {H : Heap} (hP : va_P D cl (ws ++ [(q, e)]) H) (hD : va_D A (ws ++ [(q, e)])) (hM : va_D (va_A [(q, e)] H.size) wM) : hp_sep wM ws := fun i j x y hx hy h => (hp_frA hP hD j y hy).2 (h ▸ hM.2 i x hx)
theorem hp_frD {A : Nat → Prop} {ws : va_W} {x : Nat × va_E} (hD : va_D A (ws ++ [x])) : va_D A ws := ⟨fun i j p q hi hj h => by
  have hli := (List.getElem?_eq_some_iff.mp hi).1
  have hlj := (List.getElem?_eq_some_iff.mp hj).1
  exact hD.1 i j p q (by rw [List.getElem?_append_left hli]; exact hi) (by rw [List.getElem?_append_left hlj]; exact hj) h, fun k q hk => by
  have hl := (List.getElem?_eq_some_iff.mp hk).1
  exact hD.2 k q (by rw [List.getElem?_append_left hl]; exact hk)⟩
