section
-- ===== PART A: goes FIRST, ahead of the names: the tables' words, and 'selects' of the private methods out of them =====
/-- a private method of a class that the tables say can be made, by its rows of tables_1 -/
def lw_okq (q : MethodName × Nat) : Prop := (q.1.cls ≠ "java/lang/invoke/MethodHandle" ∧ q.1.cls ≠ "java/lang/invoke/VarHandle") ∧ Cond.instantiable q.1.cls q.2 ∈ tables_1 ∧ Cond.privateMethod q.1 ∈ tables_1 ∧ Cond.instanceMethod q.1 ∈ tables_1
theorem lw_p0 : lw_okq (⟨"java/lang/Throwable", "fillInStackTrace", "(I)Ljava/lang/Throwable;"⟩, 6) := ⟨⟨by decide +kernel, by decide +kernel⟩, List.mem_of_getElem? (i := 114) (by decide +kernel), List.mem_of_getElem? (i := 112) (by decide +kernel), List.mem_of_getElem? (i := 113) (by decide +kernel)⟩
theorem lw_p1 : lw_okq (⟨"Wallplan", "find", "(I)LWallplan$Element;"⟩, 8) := ⟨⟨by decide +kernel, by decide +kernel⟩, List.mem_of_getElem? (i := 12) (by decide +kernel), List.mem_of_getElem? (i := 234) (by decide +kernel), List.mem_of_getElem? (i := 235) (by decide +kernel)⟩
theorem lw_p2 : lw_okq (⟨"Wallplan", "isBase", "(I)Z"⟩, 8) := ⟨⟨by decide +kernel, by decide +kernel⟩, List.mem_of_getElem? (i := 12) (by decide +kernel), List.mem_of_getElem? (i := 239) (by decide +kernel), List.mem_of_getElem? (i := 240) (by decide +kernel)⟩
theorem lw_p3 : lw_okq (⟨"Wallplan", "noteChange", "(LWallplan$Element;I)V"⟩, 8) := ⟨⟨by decide +kernel, by decide +kernel⟩, List.mem_of_getElem? (i := 12) (by decide +kernel), List.mem_of_getElem? (i := 261) (by decide +kernel), List.mem_of_getElem? (i := 262) (by decide +kernel)⟩
theorem lw_p4 : lw_okq (⟨"Wallplan", "leadDaysOf", "(I)I"⟩, 8) := ⟨⟨by decide +kernel, by decide +kernel⟩, List.mem_of_getElem? (i := 12) (by decide +kernel), List.mem_of_getElem? (i := 304) (by decide +kernel), List.mem_of_getElem? (i := 305) (by decide +kernel)⟩
theorem lw_p5 : lw_okq (⟨"Wallplan", "partsOf", "(LWallplan$Element;)I"⟩, 8) := ⟨⟨by decide +kernel, by decide +kernel⟩, List.mem_of_getElem? (i := 12) (by decide +kernel), List.mem_of_getElem? (i := 312) (by decide +kernel), List.mem_of_getElem? (i := 313) (by decide +kernel)⟩
theorem lw_p6 : lw_okq (⟨"Wallplan", "clashesWithAny", "(I)Z"⟩, 8) := ⟨⟨by decide +kernel, by decide +kernel⟩, List.mem_of_getElem? (i := 12) (by decide +kernel), List.mem_of_getElem? (i := 339) (by decide +kernel), List.mem_of_getElem? (i := 340) (by decide +kernel)⟩
theorem lw_p7 : lw_okq (⟨"Wallplan", "isClashingPair", "(II)Z"⟩, 8) := ⟨⟨by decide +kernel, by decide +kernel⟩, List.mem_of_getElem? (i := 12) (by decide +kernel), List.mem_of_getElem? (i := 343) (by decide +kernel), List.mem_of_getElem? (i := 344) (by decide +kernel)⟩
theorem lw_p8 : lw_okq (⟨"Wallplan", "clearanceOf", "(II)I"⟩, 8) := ⟨⟨by decide +kernel, by decide +kernel⟩, List.mem_of_getElem? (i := 12) (by decide +kernel), List.mem_of_getElem? (i := 364) (by decide +kernel), List.mem_of_getElem? (i := 365) (by decide +kernel)⟩
theorem lw_p9 : lw_okq (⟨"Wallplan", "isFinished", "(I)Z"⟩, 8) := ⟨⟨by decide +kernel, by decide +kernel⟩, List.mem_of_getElem? (i := 12) (by decide +kernel), List.mem_of_getElem? (i := 376) (by decide +kernel), List.mem_of_getElem? (i := 377) (by decide +kernel)⟩
theorem lw_p10 : lw_okq (⟨"Wallplan", "isOnStorey", "(II)Z"⟩, 8) := ⟨⟨by decide +kernel, by decide +kernel⟩, List.mem_of_getElem? (i := 12) (by decide +kernel), List.mem_of_getElem? (i := 410) (by decide +kernel), List.mem_of_getElem? (i := 411) (by decide +kernel)⟩
theorem lw_p11 : lw_okq (⟨"Wallplan", "clashesWithEarlier", "(I)I"⟩, 8) := ⟨⟨by decide +kernel, by decide +kernel⟩, List.mem_of_getElem? (i := 12) (by decide +kernel), List.mem_of_getElem? (i := 414) (by decide +kernel), List.mem_of_getElem? (i := 415) (by decide +kernel)⟩
theorem lw_p12 : lw_okq (⟨"Wallplan", "partsInStates", "(III)I"⟩, 8) := ⟨⟨by decide +kernel, by decide +kernel⟩, List.mem_of_getElem? (i := 12) (by decide +kernel), List.mem_of_getElem? (i := 432) (by decide +kernel), List.mem_of_getElem? (i := 433) (by decide +kernel)⟩
theorem lw_p13 : lw_okq (⟨"WallplanModel", "refused", "(I)Z"⟩, 18) := ⟨⟨by decide +kernel, by decide +kernel⟩, List.mem_of_getElem? (i := 475) (by decide +kernel), List.mem_of_getElem? (i := 556) (by decide +kernel), List.mem_of_getElem? (i := 557) (by decide +kernel)⟩
theorem lw_p14 : lw_okq (⟨"WallplanModel", "change", "(II)V"⟩, 18) := ⟨⟨by decide +kernel, by decide +kernel⟩, List.mem_of_getElem? (i := 475) (by decide +kernel), List.mem_of_getElem? (i := 560) (by decide +kernel), List.mem_of_getElem? (i := 561) (by decide +kernel)⟩
theorem lw_p15 : lw_okq (⟨"WallplanModel", "isElement", "(I)Z"⟩, 18) := ⟨⟨by decide +kernel, by decide +kernel⟩, List.mem_of_getElem? (i := 475) (by decide +kernel), List.mem_of_getElem? (i := 568) (by decide +kernel), List.mem_of_getElem? (i := 569) (by decide +kernel)⟩
def lw_privs_1 : List (MethodName × Nat) := [(⟨"java/lang/Throwable", "fillInStackTrace", "(I)Ljava/lang/Throwable;"⟩, 6), (⟨"Wallplan", "find", "(I)LWallplan$Element;"⟩, 8), (⟨"Wallplan", "isBase", "(I)Z"⟩, 8), (⟨"Wallplan", "noteChange", "(LWallplan$Element;I)V"⟩, 8), (⟨"Wallplan", "leadDaysOf", "(I)I"⟩, 8), (⟨"Wallplan", "partsOf", "(LWallplan$Element;)I"⟩, 8), (⟨"Wallplan", "clashesWithAny", "(I)Z"⟩, 8), (⟨"Wallplan", "isClashingPair", "(II)Z"⟩, 8), (⟨"Wallplan", "clearanceOf", "(II)I"⟩, 8), (⟨"Wallplan", "isFinished", "(I)Z"⟩, 8), (⟨"Wallplan", "isOnStorey", "(II)Z"⟩, 8), (⟨"Wallplan", "clashesWithEarlier", "(I)I"⟩, 8), (⟨"Wallplan", "partsInStates", "(III)I"⟩, 8), (⟨"WallplanModel", "refused", "(I)Z"⟩, 18), (⟨"WallplanModel", "change", "(II)V"⟩, 18), (⟨"WallplanModel", "isElement", "(I)Z"⟩, 18)]
theorem lw_r1 : ∀ q ∈ lw_privs_1, lw_okq q := List.forall_mem_cons.mpr ⟨lw_p0, List.forall_mem_cons.mpr ⟨lw_p1, List.forall_mem_cons.mpr ⟨lw_p2, List.forall_mem_cons.mpr ⟨lw_p3, List.forall_mem_cons.mpr ⟨lw_p4, List.forall_mem_cons.mpr ⟨lw_p5, List.forall_mem_cons.mpr ⟨lw_p6, List.forall_mem_cons.mpr ⟨lw_p7, List.forall_mem_cons.mpr ⟨lw_p8, List.forall_mem_cons.mpr ⟨lw_p9, List.forall_mem_cons.mpr ⟨lw_p10, List.forall_mem_cons.mpr ⟨lw_p11, List.forall_mem_cons.mpr ⟨lw_p12, List.forall_mem_cons.mpr ⟨lw_p13, List.forall_mem_cons.mpr ⟨lw_p14, List.forall_mem_cons.mpr ⟨lw_p15, fun _ h => absurd h List.not_mem_nil⟩⟩⟩⟩⟩⟩⟩⟩⟩⟩⟩⟩⟩⟩⟩⟩
theorem lw_p16 : lw_okq (⟨"WallplanModel", "isTaken", "(III)Z"⟩, 18) := ⟨⟨by decide +kernel, by decide +kernel⟩, List.mem_of_getElem? (i := 475) (by decide +kernel), List.mem_of_getElem? (i := 572) (by decide +kernel), List.mem_of_getElem? (i := 573) (by decide +kernel)⟩
theorem lw_p17 : lw_okq (⟨"WallplanModel", "partsOf", "(I)I"⟩, 18) := ⟨⟨by decide +kernel, by decide +kernel⟩, List.mem_of_getElem? (i := 475) (by decide +kernel), List.mem_of_getElem? (i := 596) (by decide +kernel), List.mem_of_getElem? (i := 597) (by decide +kernel)⟩
theorem lw_p18 : lw_okq (⟨"WallplanModel", "cellsOf", "(I)I"⟩, 18) := ⟨⟨by decide +kernel, by decide +kernel⟩, List.mem_of_getElem? (i := 475) (by decide +kernel), List.mem_of_getElem? (i := 600) (by decide +kernel), List.mem_of_getElem? (i := 601) (by decide +kernel)⟩
theorem lw_p19 : lw_okq (⟨"WallplanModel", "hasClash", "(I)Z"⟩, 18) := ⟨⟨by decide +kernel, by decide +kernel⟩, List.mem_of_getElem? (i := 475) (by decide +kernel), List.mem_of_getElem? (i := 615) (by decide +kernel), List.mem_of_getElem? (i := 616) (by decide +kernel)⟩
theorem lw_p20 : lw_okq (⟨"WallplanModel", "doClash", "(II)Z"⟩, 18) := ⟨⟨by decide +kernel, by decide +kernel⟩, List.mem_of_getElem? (i := 475) (by decide +kernel), List.mem_of_getElem? (i := 619) (by decide +kernel), List.mem_of_getElem? (i := 620) (by decide +kernel)⟩
theorem lw_p21 : lw_okq (⟨"WallplanModel", "partsFrom", "(II)I"⟩, 18) := ⟨⟨by decide +kernel, by decide +kernel⟩, List.mem_of_getElem? (i := 475) (by decide +kernel), List.mem_of_getElem? (i := 662) (by decide +kernel), List.mem_of_getElem? (i := 663) (by decide +kernel)⟩
def lw_privs_2 : List (MethodName × Nat) := [(⟨"WallplanModel", "isTaken", "(III)Z"⟩, 18), (⟨"WallplanModel", "partsOf", "(I)I"⟩, 18), (⟨"WallplanModel", "cellsOf", "(I)I"⟩, 18), (⟨"WallplanModel", "hasClash", "(I)Z"⟩, 18), (⟨"WallplanModel", "doClash", "(II)Z"⟩, 18), (⟨"WallplanModel", "partsFrom", "(II)I"⟩, 18)]
theorem lw_r2 : ∀ q ∈ lw_privs_2, lw_okq q := List.forall_mem_cons.mpr ⟨lw_p16, List.forall_mem_cons.mpr ⟨lw_p17, List.forall_mem_cons.mpr ⟨lw_p18, List.forall_mem_cons.mpr ⟨lw_p19, List.forall_mem_cons.mpr ⟨lw_p20, List.forall_mem_cons.mpr ⟨lw_p21, fun _ h => absurd h List.not_mem_nil⟩⟩⟩⟩⟩⟩
def lw_privs : List (MethodName × Nat) := lw_privs_1 ++ (lw_privs_2)
def lw_tbl : List Cond := k2_sels lw_privs ++ tables_1
theorem lw_privs_ok : ∀ q ∈ lw_privs, lw_okq q := by
  show ∀ q ∈ lw_privs_1 ++ (lw_privs_2), lw_okq q
  exact List.forall_mem_append.mpr ⟨lw_r1, lw_r2⟩
-- ===== end of PART A; then your names; then what follows =====
end
section
/-! ===== BEGIN words of one list among another's, by their places ===== -/
theorem goodIn_r {big : List Cond} (ws : List Cond) (ps : List Nat) (hp : ws = ps.filterMap (fun i => big[i]?)) (h : ws.all goodWord = true) : GoodIn big ws := by
  intro w hw
  have h1 := List.all_eq_true.mp h w hw
  rw [hp] at hw
  obtain ⟨i, -, hi⟩ := List.mem_filterMap.mp hw
  have hm : w ∈ big := by first | exact List.mem_of_getElem? hi | exact List.getElem?_mem hi
  exact ⟨hm, good_of_word h1⟩
theorem goodIn_app {big a b : List Cond} (ha : GoodIn big a) (hb : GoodIn big b) : GoodIn big (a ++ b) := fun w h => (List.mem_append.mp h).elim (ha w) (hb w)
theorem goodIn_ca {big a b : List Cond} {c : Cond} (ha : GoodIn big (c :: a)) (hb : GoodIn big b) : GoodIn big (c :: (a ++ b)) := fun w h => (List.mem_cons.mp h).elim (fun e => ha w (List.mem_cons.mpr (Or.inl e))) (fun h => (List.mem_append.mp h).elim (fun h => ha w (List.mem_cons.mpr (Or.inr h))) (hb w))
theorem goodIn_sub {big ws : List Cond} (hm : ∀ w ∈ ws, w ∈ big) (h : ws.all goodWord = true) : GoodIn big ws := fun w hw => ⟨hm w hw, good_of_word (List.all_eq_true.mp h w hw)⟩
/-! ===== END ===== -/

/-! ===== BEGIN exceptions that leave a method, and their catching by the caller (launches without stack traces) ===== -/
section VXA
/-! The laws vx_back, vx_callV, vx_callS, vx_callSW, vx_throw0, vx_throwS follow proofs of the library, with one case more: JvmDerived/Free/Laws.lean (Back.of_free), Shelf42/LK1.lean (callV, callS), Shelf/KitTraced.lean (throwNew0V, throwNewS). -/
/-- where a method has thrown q: the class by its name, the cell, what was written, the world -/
def vx_T (XC : String → State → State → Prop) (st : State) (q : Addr) (t : State) (mc ms : Nat) (free : Addr → Prop) : Prop :=
  ∃ (E : String) (ce : Cell) (L : List Loc), XC E st t ∧ t.heap[q]? = some ce ∧ ce.vm = .none ∧ st.vm.findClass E = some ce.cls ∧ st.WarmedH t.vm ∧ st.sameButNew ({ t with vm := st.vm } : State) L mc ms ∧ ∀ z ∈ L, free z.base
def vx_Q (Qc : Array Value → State → Outcome → State → Prop) (XC : String → State → State → Prop) (mc ms : Nat) (free : Addr → Prop) : Array Value → State → Outcome → State → Prop := fun a st o t =>
  (Qc a st o t ∧ ∃ L, FrameEnd st o t L mc ms ∧ ∀ q ∈ L, free q.base) ∨ ∃ q, o = .threw q ∧ vx_T XC st q t mc ms free
/-- a callee that returns or throws -/
def vx_Met (l : Launch) (y : MethodName) (ws : List Cond) (rm : Room) (Pc : Array Value → State → Prop) (Qc : Array Value → State → Outcome → State → Prop) (XC : String → State → State → Prop) (mc ms : Nat) (free : Addr → Prop) : Prop :=
  MetFree l y (headSpec ws rm) Pc (fun _ _ _ _ _ => True) (vx_Q Qc XC mc ms free)
def vx_Post (XC : String → State → State → Prop) (mc ms : Nat) (free : Addr → Prop) : Pt → Array Value → Addr → Pt → Prop := fun A a q B =>
  ∃ (g : JFrame) (mk : MethodId) (t : State) (L : List Loc) (E : String) (ce : Cell), B.U.heap = t.heap ∧ B.U.vm = t.vm ∧ XC E (A.U.calling g mk a) t ∧ t.heap[q]? = some ce ∧ ce.vm = .none ∧ A.U.vm.findClass E = some ce.cls ∧ B.locs = A.locs ++ L ∧ (∀ z ∈ L, free z.base) ∧ B.cells = A.cells + mc ∧ B.slots = A.slots + ms
def vx_Back (l : Launch) (R : Room) (p : Program) (e : Env) (below : List Frame) (s : State) (sargs : Array Value) (y : MethodName) (len W9 : Nat)
    (Pre : Pt → Array Value → Prop) (Post : Pt → Array Value → Option Value → Pt → Prop) (PostX : Pt → Array Value → Addr → Pt → Prop) : Prop :=
  ∀ (m : MethodId) (meth : Method) (c : Code) (A : Pt) (g : JFrame) (ig : Instr) (mk : MethodId) (a : Array Value),
    Stand p l e R s m sargs below meth c A.U A.locs A.cells A.slots → g.method = m → g.locals.size = c.maxLocals → decode c.code g.pc = .ok (ig, len) →
    2 * g.monitorRoom + (g.stack.map fun v => v.category).sum ≤ W9 → A.U.methodNamed? y = some mk → Pre A a →
    (∃ (v : Option Value) (B : Pt), Stand p l e R s m sargs below meth c B.U B.locs B.cells B.slots ∧ Post A a v B ∧
      Steps p.tables e below (doInvoke e (A.U.setTop g) [] mk a).1 (B.U.setTop { g with pc := g.pc + len, stack := v.toList ++ g.stack })) ∨
    (∃ (q : Addr) (B : Pt), Stand p l e R s m sargs below meth c B.U B.locs B.cells B.slots ∧ PostX A a q B ∧
      Steps p.tables e below (doInvoke e (A.U.setTop g) [] mk a).1 ((B.U.setTop g).pushFrame (.throwing q)))
section Payer
variable {l : Launch} {R : Room} {p : Program} {e : Env} {below : List Frame} {s : State} {sargs : Array Value} {y : MethodName} {len W9 : Nat}
theorem vx_back {ws : List Cond} {rm : Room} {Pc : Array Value → State → Prop} {Qc : Array Value → State → Outcome → State → Prop} {XC : String → State → State → Prop} {mc ms : Nat} {free : Addr → Prop} {bytes : ByteArray} {maxL : Nat} {ret : Option FieldType}
    (hM : vx_Met l y ws rm Pc Qc XC mc ms free) (hblind : FrameBlind Pc) (hrc : rm.cells = mc) (hrs : rm.slots = ms)
    (hframes : rm.frames + 1 ≤ R.frames) (hlocals : W9 + (maxL + 11) + rm.locals ≤ R.locals)
    (hws : ∀ w ∈ ws, ∀ a' U, s.WarmedH U.vm → w.before a' U = true) (hcode : Cond.code y bytes maxL ret ∈ ws) (hinit : ∀ a' U, s.WarmedH U.vm → (Cond.initialized y.cls).before a' U = true) :
    vx_Back l R p e below s sargs y len W9 (PreOf R mc ms Pc) (PostOf Qc mc ms free) (vx_Post XC mc ms free) := by
  intro m meth c A g ig mk a X hg hsize hdg hW hn hp
  have h1 : (headSpec ws rm).pre.before a A.U = true := atoms_intro fun w hw => hws w hw _ _ X.warmed
  have h2 : (Cond.code y bytes maxL ret).before a A.U = true := hws _ hcode _ _ X.warmed
  have h3 : (Cond.initialized y.cls).before a A.U = true := hinit _ _ X.warmed
  have h4 : A.cells + (headSpec ws rm).room.cells ≤ R.cells := by rw [show (headSpec ws rm).room.cells = mc from hrc]; exact hp.1
  have h5 : A.slots + (headSpec ws rm).room.slots ≤ R.slots := by rw [show (headSpec ws rm).room.slots = ms from hrs]; exact hp.2.1
  have hPc : Pc a (A.U.calling g mk a) := hblind _ _ _ _ hp.2.2
  obtain ⟨U, Ls, c0, s0⟩ := A
  dsimp only [Pt.U, Pt.locs, Pt.cells, Pt.slots] at h1 h2 h3 h4 h5 X hn hPc ⊢
  obtain ⟨methY, cY, hmY, hcY, -, hlY, -, -, -, -⟩ := Cond.code_spec hn h2
  obtain ⟨kY, hkY, -⟩ := className_of_methodNamed hn
  have hinitY : kY.init = .initialized := Cond.initialized_spec (findClass_of_methodNamed hn) hkY h3
  have h : At U g.method c below := by rw [hg]; exact X.here
  have hlocals9 : W9 + (maxL + 11) + (headSpec ws rm).room.locals ≤ R.locals := hlocals
  have happ : (headSpec ws rm).appliesLoose y e.platform (U.calling g mk a) = true :=
    Spec.appliesLoose_calling (g := g) h hdg hn hkY hinitY
      (X.room_calling (g := g) (R' := (headSpec ws rm).room) hsize hmY hcY hframes (by rw [hlY]; omega) h4 h5) h1
  obtain ⟨mid, hmid⟩ := h.above
  have hfr : (U.setTop g).frames = (.java g :: mid) ++ below := by rw [State.frames_setTop' g h.top, hmid]; rfl
  obtain ⟨o, s₂, hsteps, -, hend, hq⟩ := Steps.callFree hM p X.admits X.cas X.clock (acts := []) hfr happ hPc trivial
  have hq' : vx_Q Qc XC mc ms free a (U.calling g mk a) o s₂ := hq
  rw [State.frames_setTop' g h.top] at hend
  obtain ⟨g₀, hg0⟩ := Option.isSome_iff_exists.mp h.top
  obtain ⟨r, hr⟩ := State.topJava?_eq_some.mp hg0
  have hr' : (({ U with heap := s₂.heap, slotsUsed := s₂.slotsUsed } : State).setVm s₂.vm).frames = .java g₀ :: r := hr
  rcases hq' with ⟨hqc, L, hfe, hL⟩ | ⟨q, rfl, E, ce, L, hx, hce, hcv, hcl, hW₂, hsm, hL⟩
  · obtain ⟨⟨v, rfl⟩, hW₂, e2, q2, q3, q4, q5, q6⟩ := id hfe
    have e3 : s₂ = ({ (U.calling g mk a).setFrames s₂.frames with heap := s₂.heap, slotsUsed := s₂.slotsUsed } : State).setVm s₂.vm := by
      have : s₂ = ({ s₂ with vm := (U.calling g mk a).vm } : State).setVm s₂.vm := rfl
      rw [e2] at this
      exact this
    obtain ⟨c₂, i₂, len₂, hc₂, hd₂, hf₂⟩ := hend
    have hW' : U.WarmedH s₂.vm := hW₂
    have hcc : c₂ = c := by
      have h1 : s₂.code? g.method = U.code? g.method := by
        rw [State.code?_eq, State.code?_eq, hW'.alike.method?]
      exact Option.some.inj (hc₂.symm.trans (h1.trans h.code))
    subst hcc
    have hlen : len₂ = len := by rw [hdg] at hd₂; cases hd₂; rfl
    subst hlen
    have hs₂ : s₂ = (({ U with heap := s₂.heap, slotsUsed := s₂.slotsUsed } : State).setVm s₂.vm).setTop { g with pc := g.pc + len₂, stack := v.toList ++ g.stack } := by
      refine e3.trans ?_
      rw [hf₂, State.calling_eq h.top, State.setFrames_setFrames, State.setTop_of_frames _ hr', hr]
      rfl
    have hsame : U.sameButNew ({ U with heap := s₂.heap, slotsUsed := s₂.slotsUsed } : State) L mc ms := by
      refine ⟨?_, q2, q3, q4, q5, q6⟩
      obtain ⟨t, ht, -⟩ := State.frames_cons hr
      show ({ U with heap := s₂.heap, slotsUsed := s₂.slotsUsed } : State) = { U.setFrames U.frames with heap := s₂.heap, slotsUsed := s₂.slotsUsed }
      rw [State.setFrames_self ht]
    subst hg
    refine Or.inl ⟨v, ⟨(({ U with heap := s₂.heap, slotsUsed := s₂.slotsUsed } : State).setVm s₂.vm), Ls ++ L, c0 + mc, s0 + ms⟩,
      ⟨X.admits, X.cas, X.clock, X.frames, X.room, X.hears, X.method, X.code, (X.here.setHeapUsed s₂.heap s₂.slotsUsed).setVm hW'.alike, X.tail, State.WarmedH.trans X.warmed hW', X.limits, X.bytes, X.same.trans (hsame.setVm s.vm)⟩,
      ⟨g, mk, s₂, L, rfl, rfl, hqc, rfl, hL, rfl, rfl⟩, ?_⟩
    show Steps p.tables e below _ ((({ U with heap := s₂.heap, slotsUsed := s₂.slotsUsed } : State).setVm s₂.vm).setTop { g with pc := g.pc + len₂, stack := v.toList ++ g.stack })
    rw [← hs₂]
    exact hsteps
  · obtain ⟨e2, q2, q3, q4, q5, q6⟩ := id hsm
    have e3 : s₂ = ({ (U.calling g mk a).setFrames s₂.frames with heap := s₂.heap, slotsUsed := s₂.slotsUsed } : State).setVm s₂.vm := by
      have : s₂ = ({ s₂ with vm := (U.calling g mk a).vm } : State).setVm s₂.vm := rfl
      rw [e2] at this
      exact this
    have hf₂ : s₂.frames = .throwing q :: .java g :: U.frames.tail := hend
    have hW' : U.WarmedH s₂.vm := hW₂
    have hs₂ : s₂ = ((({ U with heap := s₂.heap, slotsUsed := s₂.slotsUsed } : State).setVm s₂.vm).setTop g).pushFrame (.throwing q) := by
      refine e3.trans ?_
      rw [hf₂, State.calling_eq h.top, State.setFrames_setFrames, State.pushFrame, State.frames_setTop _ hr', State.setTop_of_frames _ hr', State.setFrames_setFrames, hr]
      rfl
    have hsame : U.sameButNew ({ U with heap := s₂.heap, slotsUsed := s₂.slotsUsed } : State) L mc ms := by
      refine ⟨?_, q2, q3, q4, q5, q6⟩
      obtain ⟨t, ht, -⟩ := State.frames_cons hr
      show ({ U with heap := s₂.heap, slotsUsed := s₂.slotsUsed } : State) = { U.setFrames U.frames with heap := s₂.heap, slotsUsed := s₂.slotsUsed }
      rw [State.setFrames_self ht]
    subst hg
    refine Or.inr ⟨q, ⟨(({ U with heap := s₂.heap, slotsUsed := s₂.slotsUsed } : State).setVm s₂.vm), Ls ++ L, c0 + mc, s0 + ms⟩,
      ⟨X.admits, X.cas, X.clock, X.frames, X.room, X.hears, X.method, X.code, (X.here.setHeapUsed s₂.heap s₂.slotsUsed).setVm hW'.alike, X.tail, State.WarmedH.trans X.warmed hW', X.limits, X.bytes, X.same.trans (hsame.setVm s.vm)⟩,
      ⟨g, mk, s₂, L, E, ce, rfl, rfl, hx, hce, hcv, hcl, rfl, hL, rfl, rfl⟩, ?_⟩
    show Steps p.tables e below _ (((({ U with heap := s₂.heap, slotsUsed := s₂.slotsUsed } : State).setVm s₂.vm).setTop g).pushFrame (.throwing q))
    rw [← hs₂]
    exact hsteps
end Payer
section Calls
variable {p : Program} {l : Launch} {e : Env} {R : Room} {s : State} {m : MethodId} {args : Array Value} {below : List Frame} {meth : Method} {c : Code} {T : State} {locs : List Loc} {cells slots : Nat}
theorem vx_callV (X : Stand p l e R s m args below meth c T locs cells slots) (hexec : p.tables.exec = Jvm.exec) {own C : String} {index : Nat} {y : MethodName} {bytes : ByteArray} {maxL : Nat} {ret : Option FieldType}
    (hown : s.vm.findClass own = some m.cls) (hlink : (Cond.methodLink own index y).before args s = true) (hinst : (Cond.instanceMethod y).before args s = true) (hsel : (Cond.selects C y y).before args s = true)
    (hcode : (Cond.code y bytes maxL ret).before args s = true) (hy : y.cls ≠ "java/lang/invoke/MethodHandle" ∧ y.cls ≠ "java/lang/invoke/VarHandle")
    {W9 : Nat} {Pre : Pt → Array Value → Prop} {Post : Pt → Array Value → Option Value → Pt → Prop} {PostX : Pt → Array Value → Addr → Pt → Prop} (hK : vx_Back l R p e below s args y 3 W9 Pre Post PostX)
    {b : Addr} {cellB : Cell} (hcell : T.heap[b]? = some cellB) (hobj : cellB.vm.isStatics = false) (hcls : s.vm.findClass C = some cellB.cls)
    {g : JFrame} (hg : g.method = m) (hsize : g.locals.size = c.maxLocals) {argsL rest : List Value} (hlen : ∀ sig, parseMethodDescriptor y.desc = some sig → argsL.length = sig.parameters.length)
    (hstack : g.stack = argsL.reverse ++ .ref b :: rest) (hW : 2 * g.monitorRoom + (rest.map fun v => v.category).sum ≤ W9) (hdg : decode c.code g.pc = .ok (.invokevirtual index, 3))
    (hpre : ∀ vm₁, s.WarmedH vm₁ → Pre ⟨T.setVm vm₁, locs, cells, slots⟩ (Value.ref b :: argsL).toArray) :
    (∃ (v : Option Value) (vm₁ : Vm) (B : Pt), s.WarmedH vm₁ ∧ Stand p l e R s m args below meth c B.U B.locs B.cells B.slots ∧ Post ⟨T.setVm vm₁, locs, cells, slots⟩ (Value.ref b :: argsL).toArray v B ∧
      ∀ target, Steps p.tables e below (B.U.setTop { g with pc := g.pc + 3, stack := v.toList ++ rest }) target → Steps p.tables e below (T.setTop g) target) ∨
    (∃ (q : Addr) (vm₁ : Vm) (B : Pt), s.WarmedH vm₁ ∧ Stand p l e R s m args below meth c B.U B.locs B.cells B.slots ∧ PostX ⟨T.setVm vm₁, locs, cells, slots⟩ (Value.ref b :: argsL).toArray q B ∧
      Steps p.tables e below (T.setTop g) ((B.U.setTop { g with stack := rest }).pushFrame (.throwing q))) := by
  obtain ⟨mk, methM, hnamed, hmethM, hstM, habM⟩ := Cond.instanceMethod_spec hinst
  obtain ⟨methM', cM, hmethM', -, -, -, -, -, -, hsigM⟩ := Cond.code_spec hnamed hcode
  cases hmethM.symm.trans hmethM'
  obtain ⟨c2, r2, m2, q1, q2, q3, q4, kP, hkP, hkPi⟩ := Cond.selects_spec hsel
  cases hcls.symm.trans q1
  cases (State.methodFound?_of_named hnamed hy).symm.trans q2
  cases hnamed.symm.trans q3
  have hselP : selectMethod e.platform s.vm cellB.cls mk = .method mk := by rw [Launch.admits_selectMethod X.admits]; exact q4
  obtain ⟨vm₁, X₁, hstep₁⟩ := X.invokevirtual hexec hown hlink hnamed hmethM hstM hkP hkPi hy (a := b) (cell := cellB) hcell
    (fun z h => by rw [h] at hobj; cases hobj) hselP hmethM habM hkP hkPi (g := g) hg (argsL := argsL) (rest := rest) (hlen _ hsigM) hstack hdg
  rcases hK m meth c ⟨T.setVm vm₁, locs, cells, slots⟩ { g with stack := rest } (.invokevirtual index) mk (Value.ref b :: argsL).toArray X₁ hg hsize hdg hW (X₁.named hnamed) (hpre vm₁ X₁.warmed) with ⟨v, B, X', hpost, hsteps⟩ | ⟨q, B, X', hpost, hsteps⟩
  · exact Or.inl ⟨v, vm₁, B, X₁.warmed, X', hpost, fun target h => hstep₁ _ fun acts => by rw [doInvoke_state]; exact hsteps.trans h⟩
  · exact Or.inr ⟨q, vm₁, B, X₁.warmed, X', hpost, hstep₁ _ fun acts => by rw [doInvoke_state]; exact hsteps⟩
theorem vx_callS (X : Stand p l e R s m args below meth c T locs cells slots) (hexec : p.tables.exec = Jvm.exec) {own : String} {index : Nat} {y : MethodName} {bytes : ByteArray} {maxL : Nat} {ret : Option FieldType}
    (hown : s.vm.findClass own = some m.cls) (hlink : (Cond.methodLink own index y).before args s = true) (hstat : (Cond.static y).before args s = true) (hinit : (Cond.initialized y.cls).before args s = true)
    (hcode : (Cond.code y bytes maxL ret).before args s = true) (hy : y.cls ≠ "java/lang/invoke/MethodHandle" ∧ y.cls ≠ "java/lang/invoke/VarHandle")
    {W9 : Nat} {Pre : Pt → Array Value → Prop} {Post : Pt → Array Value → Option Value → Pt → Prop} {PostX : Pt → Array Value → Addr → Pt → Prop} (hK : vx_Back l R p e below s args y 3 W9 Pre Post PostX)
    {g : JFrame} (hg : g.method = m) (hsize : g.locals.size = c.maxLocals) {argsL rest : List Value} (hlen : ∀ sig, parseMethodDescriptor y.desc = some sig → argsL.length = sig.parameters.length)
    (hstack : g.stack = argsL.reverse ++ rest) (hW : 2 * g.monitorRoom + (rest.map fun v => v.category).sum ≤ W9) (hdg : decode c.code g.pc = .ok (.invokestatic index, 3))
    (hpre : ∀ vm₁, s.WarmedH vm₁ → Pre ⟨T.setVm vm₁, locs, cells, slots⟩ argsL.toArray) :
    (∃ (v : Option Value) (vm₁ : Vm) (B : Pt), s.WarmedH vm₁ ∧ Stand p l e R s m args below meth c B.U B.locs B.cells B.slots ∧ Post ⟨T.setVm vm₁, locs, cells, slots⟩ argsL.toArray v B ∧
      ∀ target, Steps p.tables e below (B.U.setTop { g with pc := g.pc + 3, stack := v.toList ++ rest }) target → Steps p.tables e below (T.setTop g) target) ∨
    (∃ (q : Addr) (vm₁ : Vm) (B : Pt), s.WarmedH vm₁ ∧ Stand p l e R s m args below meth c B.U B.locs B.cells B.slots ∧ PostX ⟨T.setVm vm₁, locs, cells, slots⟩ argsL.toArray q B ∧
      Steps p.tables e below (T.setTop g) ((B.U.setTop { g with stack := rest }).pushFrame (.throwing q))) := by
  obtain ⟨mk, hnamed⟩ := Cond.code_named hcode
  obtain ⟨methM, cM, hmethM, -, -, -, -, -, -, hsigM⟩ := Cond.code_spec hnamed hcode
  have hstatic : methM.isStatic = true := Cond.static_spec hnamed hmethM hstat
  obtain ⟨kP, hkP, -⟩ := className_of_methodNamed hnamed
  have hinitP : kP.init = .initialized := Cond.initialized_spec (findClass_of_methodNamed hnamed) hkP hinit
  obtain ⟨vm₁, X₁, hstep₁⟩ := X.invokestatic hexec hown hlink hnamed hmethM hstatic hkP hinitP hy (g := g) hg (argsL := argsL) (rest := rest) (hlen _ hsigM) hstack hdg
  rcases hK m meth c ⟨T.setVm vm₁, locs, cells, slots⟩ { g with stack := rest } (.invokestatic index) mk argsL.toArray X₁ hg hsize hdg hW (X₁.named hnamed) (hpre vm₁ X₁.warmed) with ⟨v, B, X', hpost, hsteps⟩ | ⟨q, B, X', hpost, hsteps⟩
  · exact Or.inl ⟨v, vm₁, B, X₁.warmed, X', hpost, fun target h => hstep₁ _ fun acts => by rw [doInvoke_state]; exact hsteps.trans h⟩
  · exact Or.inr ⟨q, vm₁, B, X₁.warmed, X', hpost, hstep₁ _ fun acts => by rw [doInvoke_state]; exact hsteps⟩
end Calls
theorem vx_cls {s : State} {T : State} {vm₁ : Vm} {E : String} {k : ClassId} (hW : s.WarmedH vm₁) (h : (T.setVm vm₁).vm.findClass E = some k) : s.vm.findClass E = some k := by
  have h1 : vm₁.findClass E = some k := h
  rw [hW.alike.findClass] at h1
  exact h1
/-- the method's frame g, with q thrown over it -/
def vx_W (p : Program) (l : Launch) (e : Env) (R : Room) (s : State) (m : MethodId) (args : Array Value) (below : List Frame) (meth : Method) (c : Code) (H : Heap) (locs : List Loc) (cells slots : Nat) (Q : State → Prop) (g : JFrame) (q : Addr) : Prop :=
  ∀ T : State, T.heap = H → Stand p l e R s m args below meth c T locs cells slots → ∃ t, Steps p.tables e below ((T.setTop g).pushFrame (.throwing q)) t ∧ Q t
def vx_Run (p : Program) (l : Launch) (e : Env) (R : Room) (s : State) (m : MethodId) (args : Array Value) (below : List Frame) (meth : Method) (c : Code) (H : Heap) (locs : List Loc) (cells slots mc ms : Nat) (g : JFrame) (rest : List Value) (Qa : State → Outcome → State → Prop) (XC : String → State → State → Prop) (free : Addr → Prop) : Prop :=
  ∀ T : State, T.heap = H → Stand p l e R s m args below meth c T locs cells slots →
    (∃ (v : Option Value) (st₀ t T' : State) (L : List Loc), st₀.heap = H ∧ Stand p l e R s m args below meth c T' (locs ++ L) (cells + mc) (slots + ms) ∧ (∀ q ∈ L, free q.base) ∧ T'.heap = t.heap ∧ T'.vm = t.vm ∧ Qa st₀ (.returned v) t ∧
      Goes p e below T g T' { g with pc := g.pc + 3, stack := v.toList ++ rest }) ∨
    (∃ (q : Addr) (st₀ t T' : State) (L : List Loc) (E : String) (ce : Cell), st₀.heap = H ∧ Stand p l e R s m args below meth c T' (locs ++ L) (cells + mc) (slots + ms) ∧ (∀ z ∈ L, free z.base) ∧ T'.heap = t.heap ∧ T'.vm = t.vm ∧ XC E st₀ t ∧ t.heap[q]? = some ce ∧ ce.vm = .none ∧ s.vm.findClass E = some ce.cls ∧
      Steps p.tables e below (T.setTop g) ((T'.setTop { g with stack := rest }).pushFrame (.throwing q)))
def vx_X {S : Type} (px : S → Prop) (B : String → S → State → Prop) (A : Nat → Prop) : String → State → State → Prop := fun E st t => ∃ u : S, px u ∧ B E u t ∧ va_F A st t
section Runs
variable {p : Program} {l : Launch} {e : Env} {R : Room} {s : State} {m : MethodId} {args : Array Value} {below : List Frame} {meth : Method} {c : Code} {H : Heap} {locs : List Loc} {cells slots : Nat}
variable {y : MethodName} {bytes cc : ByteArray} {maxL nL mc ms n index : Nat} {ret : Option FieldType} {ws : List Cond} {rm : Room} {Pc : Array Value → State → Prop} {Qc : Array Value → State → Outcome → State → Prop} {XC : String → State → State → Prop} {free : Addr → Prop} {Ts : List Cond} {own C : String} {b : Addr} {As rest : List Value} {g : JFrame}
theorem vx_callBack (cb : CallB R s args own index y bytes maxL ret ws rm mc ms n) (hM : vx_Met l y ws rm Pc Qc XC mc ms free) (hbl : FrameBlind Pc) : vx_Back l R p e below s args y 3 8 (PreOf R mc ms Pc) (PostOf Qc mc ms free) (vx_Post XC mc ms free) := by
  obtain ⟨hrc, hrs, hfr, hlo, hws, hcw, -, hini, -⟩ := cb
  exact vx_back (bytes := bytes) (maxL := maxL) (ret := ret) hM hbl hrc hrs hfr hlo hws hcw (fun a' U hW => word_at hW (Or.inl (by first | rfl | simp [Cond.onTables, Cond.keeps, Cond.steady])) hini)
theorem vx_runV (S : CallFix p m c cc nL s args Ts own) (hM : vx_Met l y ws rm Pc Qc XC mc ms free) (cw : CallW R s args own C index y bytes maxL ret ws rm mc ms n) (hp : PreV s H C b Pc As)
    (hg : g.method = m) (hn : As.length = n) (hsize : g.locals.size = nL) (hstack : g.stack = As.reverse ++ .ref b :: rest) (hW : 2 * g.monitorRoom + (rest.map fun v => v.category).sum ≤ 8) (hdg : decode cc g.pc = .ok (.invokevirtual index, 3)) (hf : cells + mc ≤ R.cells ∧ slots + ms ≤ R.slots) :
    vx_Run p l e R s m args below meth c H locs cells slots mc ms g rest (Qc (Value.ref b :: As).toArray) XC free := by
  have hK : vx_Back l R p e below s args y 3 8 (PreOf R mc ms Pc) (PostOf Qc mc ms free) (vx_Post XC mc ms free) := vx_callBack cw.1 hM hp.1
  obtain ⟨⟨-, -, -, -, -, -, hcode, -, hy, hlen, hl⟩, hin, hse⟩ := cw
  obtain ⟨hx, hb, hml, ho, -⟩ := S
  obtain ⟨-, ⟨cellB, hcB, hoB, hclB⟩, hPc⟩ := hp
  intro T hT X
  rcases vx_callV X hx (C := C) (bytes := bytes) (maxL := maxL) (ret := ret) ho hl hin hse hcode hy hK (by rw [hT]; exact hcB) hoB hclB hg (hsize.trans hml.symm) (argsL := As) (rest := rest) (fun sig h => hn.trans (hlen sig h)) hstack hW (by rw [hb]; exact hdg)
    (fun vm₁ hW₁ => ⟨hf.1, hf.2, hPc (T.setVm vm₁) hT hW₁⟩) with ⟨v, vm₁, ⟨U', l2, c2, s2⟩, hW₁, X', ⟨g', mk, t, L, e1, e2, hq, h1, hL, h2, h3⟩, st⟩ | ⟨q, vm₁, ⟨U', l2, c2, s2⟩, hW₁, X', ⟨g', mk, t, L, E, ce, e1, e2, hq, hce, hcv, hcl, h1, hL, h2, h3⟩, st⟩
  · dsimp only [Pt.U, Pt.locs, Pt.cells, Pt.slots] at X' e1 e2 h1 h2 h3 st
    subst h1; subst h2; subst h3
    exact Or.inl ⟨v, (T.setVm vm₁).calling g' mk (Value.ref b :: As).toArray, t, U', L, hT, X', hL, e1, e2, hq, st⟩
  · dsimp only [Pt.U, Pt.locs, Pt.cells, Pt.slots] at X' e1 e2 h1 h2 h3 st hcl
    subst h1; subst h2; subst h3
    exact Or.inr ⟨q, (T.setVm vm₁).calling g' mk (Value.ref b :: As).toArray, t, U', L, E, ce, hT, X', hL, e1, e2, hq, hce, hcv, vx_cls hW₁ hcl, st⟩
theorem vx_runS (S : CallFix p m c cc nL s args Ts own) (hM : vx_Met l y ws rm Pc Qc XC mc ms free) (cw : CallB R s args own index y bytes maxL ret ws rm mc ms n ∧ (Cond.static y).before args s = true) (hp : PreS s H Pc As)
    (hg : g.method = m) (hn : As.length = n) (hsize : g.locals.size = nL) (hstack : g.stack = As.reverse ++ rest) (hW : 2 * g.monitorRoom + (rest.map fun v => v.category).sum ≤ 8) (hdg : decode cc g.pc = .ok (.invokestatic index, 3)) (hf : cells + mc ≤ R.cells ∧ slots + ms ≤ R.slots) :
    vx_Run p l e R s m args below meth c H locs cells slots mc ms g rest (Qc As.toArray) XC free := by
  have hK : vx_Back l R p e below s args y 3 8 (PreOf R mc ms Pc) (PostOf Qc mc ms free) (vx_Post XC mc ms free) := vx_callBack cw.1 hM hp.1
  obtain ⟨⟨-, -, -, -, -, -, hcode, hini, hy, hlen, hl⟩, hstt⟩ := cw
  obtain ⟨hx, hb, hml, ho, -⟩ := S
  intro T hT X
  rcases vx_callS X hx (bytes := bytes) (maxL := maxL) (ret := ret) ho hl hstt hini hcode hy hK hg (hsize.trans hml.symm) (argsL := As) (rest := rest) (fun sig h => hn.trans (hlen sig h)) hstack hW (by rw [hb]; exact hdg)
    (fun vm₁ hW₁ => ⟨hf.1, hf.2, hp.2 (T.setVm vm₁) hT hW₁⟩) with ⟨v, vm₁, ⟨U', l2, c2, s2⟩, hW₁, X', ⟨g', mk, t, L, e1, e2, hq, h1, hL, h2, h3⟩, st⟩ | ⟨q, vm₁, ⟨U', l2, c2, s2⟩, hW₁, X', ⟨g', mk, t, L, E, ce, e1, e2, hq, hce, hcv, hcl, h1, hL, h2, h3⟩, st⟩
  · dsimp only [Pt.U, Pt.locs, Pt.cells, Pt.slots] at X' e1 e2 h1 h2 h3 st
    subst h1; subst h2; subst h3
    exact Or.inl ⟨v, (T.setVm vm₁).calling g' mk As.toArray, t, U', L, hT, X', hL, e1, e2, hq, st⟩
  · dsimp only [Pt.U, Pt.locs, Pt.cells, Pt.slots] at X' e1 e2 h1 h2 h3 st hcl
    subst h1; subst h2; subst h3
    exact Or.inr ⟨q, (T.setVm vm₁).calling g' mk As.toArray, t, U', L, E, ce, hT, X', hL, e1, e2, hq, hce, hcv, vx_cls hW₁ hcl, st⟩
end Runs
section Rows
variable {p : Program} {l : Launch} {e : Env} {R : Room} {s : State} {m : MethodId} {args : Array Value} {below : List Frame} {meth : Method} {c : Code} {H : Heap} {locs : List Loc} {cells slots : Nat} {Q : State → Prop}
variable {mc ms : Nat} {free : Addr → Prop} {A0 A1 : Nat → Prop} {H0 : Heap} {a : Array Value} {pc : Nat} {ls : Array Slot} {st0 rest : List Value}
theorem vx_keep {st₀ t T' : State} {L : List Loc} (h0 : st₀.heap = H) (e1 : T'.heap = t.heap) (hS : va_S A0 H0 H locs) (hA : ∀ q, q < H.size → A1 q → A0 q) (hf : ∀ q, free q → A0 q) (hL : ∀ q ∈ L, free q.base) (hF : va_F A1 st₀ t) :
    H.size ≤ T'.heap.size ∧ (∀ q : Nat, q < H.size → ¬ A1 q → T'.heap[q]? = H[q]?) ∧ va_S A0 H0 T'.heap (locs ++ L) := by
  obtain ⟨hz, hk⟩ := hF
  rw [h0] at hz hk
  exact ⟨by rw [e1]; exact hz, fun q h1 h2 => by rw [e1]; exact hk q h1 h2,
    ⟨Nat.le_trans hS.1 (by rw [e1]; exact hz), fun q h1 h2 => by rw [e1, hk q (Nat.lt_of_lt_of_le h1 hS.1) (fun z => h2 (hA q (Nat.lt_of_lt_of_le h1 hS.1) z))]; exact hS.2.1 q h1 h2, fun q hq => by
      rcases List.mem_append.mp hq with h | h
      · exact hS.2.2 q h
      · exact hf _ (hL q h)⟩⟩
theorem vx_calli {S SX : Type} {post : Int32 → S → Prop} {px : SX → Prop} {B : S → State → Prop} {BX : String → SX → State → Prop} {AX : Nat → Prop} (hr : vx_Run p l e R s m args below meth c H locs cells slots mc ms (F0 m pc ls st0) rest (va_Qi post B A1 a) (vx_X px BX AX) free) (hS : va_S A0 H0 H locs) (hA : ∀ q, q < H.size → A1 q → A0 q) (hf : ∀ q, free q → A0 q) (hAX : ∀ q, q < H.size → AX q → A0 q)
    (kx : ∀ (E : String) (ce : Cell) (q9 : Addr) (u : SX) (t : State) (H1 : Heap) (locs1 : List Loc), t.heap = H1 → s.vm.Alike t.vm → px u → BX E u t → H.size ≤ H1.size → (∀ q : Nat, q < H.size → ¬ AX q → H1[q]? = H[q]?) → va_S A0 H0 H1 locs1 → H1[q9]? = some ce → ce.vm = .none → s.vm.findClass E = some ce.cls → vx_W p l e R s m args below meth c H1 locs1 (cells + mc) (slots + ms) Q (F0 m pc ls rest) q9)
    (kk : ∀ (r : Int32) (u : S) (t : State) (H1 : Heap) (locs1 : List Loc), t.heap = H1 → s.vm.Alike t.vm → post r u → B u t → H.size ≤ H1.size → (∀ q : Nat, q < H.size → ¬ A1 q → H1[q]? = H[q]?) → va_S A0 H0 H1 locs1 → W p l e R s m args below meth c H1 locs1 (cells + mc) (slots + ms) Q (F0 m (pc + 3) ls (.int r :: rest))) : W p l e R s m args below meth c H locs cells slots Q (F0 m pc ls st0) := by
  intro T hT X
  rcases hr T hT X with ⟨v, st₀, t, T', L, h0, X', hL, e1, e2, ⟨⟨r, u, hv, hp, hb⟩, hF⟩, st⟩ | ⟨q, st₀, t, T', L, E, ce, h0, X', hL, e1, e2, ⟨u, hp, hb, hF⟩, hce, hcv, hcl, st⟩
  · cases hv
    obtain ⟨k1, k2, k3⟩ := vx_keep h0 e1 hS hA hf hL hF
    obtain ⟨t2, a1, b1⟩ := kk r u t T'.heap (locs ++ L) e1.symm (by rw [← e2]; exact X'.warmed.alike) hp hb k1 k2 k3 T' rfl X'
    exact ⟨t2, st t2 a1, b1⟩
  · obtain ⟨k1, k2, k3⟩ := vx_keep h0 e1 hS hAX hf hL hF
    obtain ⟨t2, a1, b1⟩ := kx E ce q u t T'.heap (locs ++ L) e1.symm (by rw [← e2]; exact X'.warmed.alike) hp hb k1 k2 k3 (by rw [e1]; exact hce) hcv hcl T' rfl X'
    exact ⟨t2, st.trans a1, b1⟩
theorem vx_calll {S SX : Type} {post : Int64 → S → Prop} {px : SX → Prop} {B : S → State → Prop} {BX : String → SX → State → Prop} {AX : Nat → Prop} (hr : vx_Run p l e R s m args below meth c H locs cells slots mc ms (F0 m pc ls st0) rest (va_Ql post B A1 a) (vx_X px BX AX) free) (hS : va_S A0 H0 H locs) (hA : ∀ q, q < H.size → A1 q → A0 q) (hf : ∀ q, free q → A0 q) (hAX : ∀ q, q < H.size → AX q → A0 q)
    (kx : ∀ (E : String) (ce : Cell) (q9 : Addr) (u : SX) (t : State) (H1 : Heap) (locs1 : List Loc), t.heap = H1 → s.vm.Alike t.vm → px u → BX E u t → H.size ≤ H1.size → (∀ q : Nat, q < H.size → ¬ AX q → H1[q]? = H[q]?) → va_S A0 H0 H1 locs1 → H1[q9]? = some ce → ce.vm = .none → s.vm.findClass E = some ce.cls → vx_W p l e R s m args below meth c H1 locs1 (cells + mc) (slots + ms) Q (F0 m pc ls rest) q9)
    (kk : ∀ (r : Int64) (u : S) (t : State) (H1 : Heap) (locs1 : List Loc), t.heap = H1 → s.vm.Alike t.vm → post r u → B u t → H.size ≤ H1.size → (∀ q : Nat, q < H.size → ¬ A1 q → H1[q]? = H[q]?) → va_S A0 H0 H1 locs1 → W p l e R s m args below meth c H1 locs1 (cells + mc) (slots + ms) Q (F0 m (pc + 3) ls (.long r :: rest))) : W p l e R s m args below meth c H locs cells slots Q (F0 m pc ls st0) := by
  intro T hT X
  rcases hr T hT X with ⟨v, st₀, t, T', L, h0, X', hL, e1, e2, ⟨⟨r, u, hv, hp, hb⟩, hF⟩, st⟩ | ⟨q, st₀, t, T', L, E, ce, h0, X', hL, e1, e2, ⟨u, hp, hb, hF⟩, hce, hcv, hcl, st⟩
  · cases hv
    obtain ⟨k1, k2, k3⟩ := vx_keep h0 e1 hS hA hf hL hF
    obtain ⟨t2, a1, b1⟩ := kk r u t T'.heap (locs ++ L) e1.symm (by rw [← e2]; exact X'.warmed.alike) hp hb k1 k2 k3 T' rfl X'
    exact ⟨t2, st t2 a1, b1⟩
  · obtain ⟨k1, k2, k3⟩ := vx_keep h0 e1 hS hAX hf hL hF
    obtain ⟨t2, a1, b1⟩ := kx E ce q u t T'.heap (locs ++ L) e1.symm (by rw [← e2]; exact X'.warmed.alike) hp hb k1 k2 k3 (by rw [e1]; exact hce) hcv hcl T' rfl X'
    exact ⟨t2, st.trans a1, b1⟩
theorem vx_callf {S SX : Type} {post : UInt32 → S → Prop} {px : SX → Prop} {B : S → State → Prop} {BX : String → SX → State → Prop} {AX : Nat → Prop} (hr : vx_Run p l e R s m args below meth c H locs cells slots mc ms (F0 m pc ls st0) rest (va_Qf post B A1 a) (vx_X px BX AX) free) (hS : va_S A0 H0 H locs) (hA : ∀ q, q < H.size → A1 q → A0 q) (hf : ∀ q, free q → A0 q) (hAX : ∀ q, q < H.size → AX q → A0 q)
    (kx : ∀ (E : String) (ce : Cell) (q9 : Addr) (u : SX) (t : State) (H1 : Heap) (locs1 : List Loc), t.heap = H1 → s.vm.Alike t.vm → px u → BX E u t → H.size ≤ H1.size → (∀ q : Nat, q < H.size → ¬ AX q → H1[q]? = H[q]?) → va_S A0 H0 H1 locs1 → H1[q9]? = some ce → ce.vm = .none → s.vm.findClass E = some ce.cls → vx_W p l e R s m args below meth c H1 locs1 (cells + mc) (slots + ms) Q (F0 m pc ls rest) q9)
    (kk : ∀ (r : UInt32) (u : S) (t : State) (H1 : Heap) (locs1 : List Loc), t.heap = H1 → s.vm.Alike t.vm → post r u → B u t → H.size ≤ H1.size → (∀ q : Nat, q < H.size → ¬ A1 q → H1[q]? = H[q]?) → va_S A0 H0 H1 locs1 → W p l e R s m args below meth c H1 locs1 (cells + mc) (slots + ms) Q (F0 m (pc + 3) ls (.float r :: rest))) : W p l e R s m args below meth c H locs cells slots Q (F0 m pc ls st0) := by
  intro T hT X
  rcases hr T hT X with ⟨v, st₀, t, T', L, h0, X', hL, e1, e2, ⟨⟨r, u, hv, hp, hb⟩, hF⟩, st⟩ | ⟨q, st₀, t, T', L, E, ce, h0, X', hL, e1, e2, ⟨u, hp, hb, hF⟩, hce, hcv, hcl, st⟩
  · cases hv
    obtain ⟨k1, k2, k3⟩ := vx_keep h0 e1 hS hA hf hL hF
    obtain ⟨t2, a1, b1⟩ := kk r u t T'.heap (locs ++ L) e1.symm (by rw [← e2]; exact X'.warmed.alike) hp hb k1 k2 k3 T' rfl X'
    exact ⟨t2, st t2 a1, b1⟩
  · obtain ⟨k1, k2, k3⟩ := vx_keep h0 e1 hS hAX hf hL hF
    obtain ⟨t2, a1, b1⟩ := kx E ce q u t T'.heap (locs ++ L) e1.symm (by rw [← e2]; exact X'.warmed.alike) hp hb k1 k2 k3 (by rw [e1]; exact hce) hcv hcl T' rfl X'
    exact ⟨t2, st.trans a1, b1⟩
theorem vx_calld {S SX : Type} {post : UInt64 → S → Prop} {px : SX → Prop} {B : S → State → Prop} {BX : String → SX → State → Prop} {AX : Nat → Prop} (hr : vx_Run p l e R s m args below meth c H locs cells slots mc ms (F0 m pc ls st0) rest (va_Qd post B A1 a) (vx_X px BX AX) free) (hS : va_S A0 H0 H locs) (hA : ∀ q, q < H.size → A1 q → A0 q) (hf : ∀ q, free q → A0 q) (hAX : ∀ q, q < H.size → AX q → A0 q)
    (kx : ∀ (E : String) (ce : Cell) (q9 : Addr) (u : SX) (t : State) (H1 : Heap) (locs1 : List Loc), t.heap = H1 → s.vm.Alike t.vm → px u → BX E u t → H.size ≤ H1.size → (∀ q : Nat, q < H.size → ¬ AX q → H1[q]? = H[q]?) → va_S A0 H0 H1 locs1 → H1[q9]? = some ce → ce.vm = .none → s.vm.findClass E = some ce.cls → vx_W p l e R s m args below meth c H1 locs1 (cells + mc) (slots + ms) Q (F0 m pc ls rest) q9)
    (kk : ∀ (r : UInt64) (u : S) (t : State) (H1 : Heap) (locs1 : List Loc), t.heap = H1 → s.vm.Alike t.vm → post r u → B u t → H.size ≤ H1.size → (∀ q : Nat, q < H.size → ¬ A1 q → H1[q]? = H[q]?) → va_S A0 H0 H1 locs1 → W p l e R s m args below meth c H1 locs1 (cells + mc) (slots + ms) Q (F0 m (pc + 3) ls (.double r :: rest))) : W p l e R s m args below meth c H locs cells slots Q (F0 m pc ls st0) := by
  intro T hT X
  rcases hr T hT X with ⟨v, st₀, t, T', L, h0, X', hL, e1, e2, ⟨⟨r, u, hv, hp, hb⟩, hF⟩, st⟩ | ⟨q, st₀, t, T', L, E, ce, h0, X', hL, e1, e2, ⟨u, hp, hb, hF⟩, hce, hcv, hcl, st⟩
  · cases hv
    obtain ⟨k1, k2, k3⟩ := vx_keep h0 e1 hS hA hf hL hF
    obtain ⟨t2, a1, b1⟩ := kk r u t T'.heap (locs ++ L) e1.symm (by rw [← e2]; exact X'.warmed.alike) hp hb k1 k2 k3 T' rfl X'
    exact ⟨t2, st t2 a1, b1⟩
  · obtain ⟨k1, k2, k3⟩ := vx_keep h0 e1 hS hAX hf hL hF
    obtain ⟨t2, a1, b1⟩ := kx E ce q u t T'.heap (locs ++ L) e1.symm (by rw [← e2]; exact X'.warmed.alike) hp hb k1 k2 k3 (by rw [e1]; exact hce) hcv hcl T' rfl X'
    exact ⟨t2, st.trans a1, b1⟩
theorem vx_callv {S SX : Type} {post : S → Prop} {px : SX → Prop} {B : S → State → Prop} {BX : String → SX → State → Prop} {AX : Nat → Prop} (hr : vx_Run p l e R s m args below meth c H locs cells slots mc ms (F0 m pc ls st0) rest (va_Qv post B A1 a) (vx_X px BX AX) free) (hS : va_S A0 H0 H locs) (hA : ∀ q, q < H.size → A1 q → A0 q) (hf : ∀ q, free q → A0 q) (hAX : ∀ q, q < H.size → AX q → A0 q)
    (kx : ∀ (E : String) (ce : Cell) (q9 : Addr) (u : SX) (t : State) (H1 : Heap) (locs1 : List Loc), t.heap = H1 → s.vm.Alike t.vm → px u → BX E u t → H.size ≤ H1.size → (∀ q : Nat, q < H.size → ¬ AX q → H1[q]? = H[q]?) → va_S A0 H0 H1 locs1 → H1[q9]? = some ce → ce.vm = .none → s.vm.findClass E = some ce.cls → vx_W p l e R s m args below meth c H1 locs1 (cells + mc) (slots + ms) Q (F0 m pc ls rest) q9)
    (kk : ∀ (u : S) (t : State) (H1 : Heap) (locs1 : List Loc), t.heap = H1 → s.vm.Alike t.vm → post u → B u t → H.size ≤ H1.size → (∀ q : Nat, q < H.size → ¬ A1 q → H1[q]? = H[q]?) → va_S A0 H0 H1 locs1 → W p l e R s m args below meth c H1 locs1 (cells + mc) (slots + ms) Q (F0 m (pc + 3) ls (rest))) : W p l e R s m args below meth c H locs cells slots Q (F0 m pc ls st0) := by
  intro T hT X
  rcases hr T hT X with ⟨v, st₀, t, T', L, h0, X', hL, e1, e2, ⟨⟨u, hv, hp, hb⟩, hF⟩, st⟩ | ⟨q, st₀, t, T', L, E, ce, h0, X', hL, e1, e2, ⟨u, hp, hb, hF⟩, hce, hcv, hcl, st⟩
  · cases hv
    obtain ⟨k1, k2, k3⟩ := vx_keep h0 e1 hS hA hf hL hF
    obtain ⟨t2, a1, b1⟩ := kk u t T'.heap (locs ++ L) e1.symm (by rw [← e2]; exact X'.warmed.alike) hp hb k1 k2 k3 T' rfl X'
    exact ⟨t2, st t2 a1, b1⟩
  · obtain ⟨k1, k2, k3⟩ := vx_keep h0 e1 hS hAX hf hL hF
    obtain ⟨t2, a1, b1⟩ := kx E ce q u t T'.heap (locs ++ L) e1.symm (by rw [← e2]; exact X'.warmed.alike) hp hb k1 k2 k3 (by rw [e1]; exact hce) hcv hcl T' rfl X'
    exact ⟨t2, st.trans a1, b1⟩
/-- caught by the row x of this method's table; the rows ahead don't take it -/
theorem vx_catch {own name : String} {E : String} {ce : Cell} {q : Addr} (hown : s.vm.findClass own = some m.cls) (pre : List ExceptionTableEntry) (x : ExceptionTableEntry) (suf : List ExceptionTableEntry) (hsplit : c.exceptionTable.toList = pre ++ x :: suf)
    (hpass : ∀ z ∈ pre, covers z pc = false ∨ (z.catchType ≠ 0 ∧ ∃ nm : String, (Cond.classLink own z.catchType nm).before args s = true ∧ va_Nc E nm s)) (hx : covers x pc = true) (h0 : x.catchType ≠ 0)
    (hlink : (Cond.classLink own x.catchType name).before args s = true) (hcast : (Cond.castable E name).before args s = true) (hcell : H[q]? = some ce) (hv : ce.vm = .none) (hcl : s.vm.findClass E = some ce.cls)
    (kk : W p l e R s m args below meth c H locs cells slots Q (F0 m x.handlerPc ls [.ref q])) : vx_W p l e R s m args below meth c H locs cells slots Q (F0 m pc ls rest) q := by
  intro T hT X
  have hpl : e.platform.magicAccessors = ({} : Platform).magicAccessors := by rw [X.admits.platform]
  obtain ⟨c3, c4, hc3, hc4, hasg⟩ := Cond.castable_spec hcast
  cases Option.some.inj (hc3.symm.trans hcl)
  obtain ⟨c5, hc5, hcl5⟩ := Cond.classLink_spec hown hlink e.platform hpl
  cases Option.some.inj (hc4.symm.trans hc5)
  obtain ⟨vm', X', st⟩ := X.thenCaughtThrough q (g := F0 m pc ls rest) rfl (Steps.refl _) (by rw [hT]; exact hcell) (by rw [hv]; rfl) (by obtain ⟨k9, h9, -⟩ := Vm.findClass_spec hcl; exact ⟨k9, h9⟩) pre x suf hsplit
    (fun z hz => by
      rcases hpass z hz with h | ⟨hz0, nm, hl1, hn1⟩
      · exact Or.inl h
      · obtain ⟨c6, hc6, hcl6⟩ := Cond.classLink_spec hown hl1 e.platform hpl
        obtain ⟨a8, b8, h1, h2, h3⟩ := hn1
        cases Option.some.inj (h1.symm.trans hcl)
        cases Option.some.inj (h2.symm.trans hc6)
        exact Or.inr ⟨hz0, _, hcl6, h3⟩) hx (Or.inr ⟨h0, c4, hcl5, hasg⟩)
  obtain ⟨t, a1, b1⟩ := kk (T.setVm vm') hT X'
  exact ⟨t, st.trans a1, b1⟩
end Rows
section Ends
variable {p : Program} {l : Launch} {e : Env} {R : Room} {s : State} {m : MethodId} {args : Array Value} {below : List Frame} {meth : Method} {c : Code} {H : Heap} {locs : List Loc} {cells slots : Nat} {Q : State → Prop}
variable {mc ms : Nat} {free : Addr → Prop} {A0 A1 : Nat → Prop} {H0 : Heap} {a : Array Value} {ls : Array Slot} {st0 rest : List Value}
variable {Qc : Array Value → State → Outcome → State → Prop} {XC : String → State → State → Prop}
/-- what a body that may throw owes at its end -/
def vx_MQ (below : List Frame) (Qc : Array Value → State → Outcome → State → Prop) (XC : String → State → State → Prop) (a : Array Value) (s : State) (mc ms : Nat) (free : Addr → Prop) : State → Prop := fun t =>
  ∃ o, t.status = .running ∧ Ended t below o ∧ vx_Q Qc XC mc ms free a s o t
theorem vx_ret {g : JFrame} {mc ms : Nat} (k : W p l e R s m args below meth c H locs cells slots (MQ below Qc args s mc ms free) g) : W p l e R s m args below meth c H locs cells slots (vx_MQ below Qc XC args s mc ms free) g := by
  intro T hT X
  obtain ⟨t, a1, o, b1, b2, b3, b4⟩ := k T hT X
  exact ⟨t, a1, o, b1, b2, Or.inl ⟨b3, b4⟩⟩
/-- not caught here: it goes on to the caller -/
theorem vx_widen {g : JFrame} {q : Addr} {k n : Nat} (h1 : cells ≤ k) (h2 : slots ≤ n) (kk : vx_W p l e R s m args below meth c H locs k n Q g q) : vx_W p l e R s m args below meth c H locs cells slots Q g q := fun T hT X => kk T hT (stand_widen X h1 h2)
theorem vx_out {pc : Nat} {E : String} {ce : Cell} {q : Addr} {mc ms : Nat} (hout : ∀ x ∈ c.exceptionTable.toList, covers x pc = false) (hlocks : meth.locks = false) (hcell : H[q]? = some ce) (hv : ce.vm = .none) (hcl : s.vm.findClass E = some ce.cls)
    (hx : ∀ t : State, t.heap = H → s.vm.Alike t.vm → XC E s t) (hf : ∀ z ∈ locs, free z.base) (hc : cells ≤ mc) (hs : slots ≤ ms) :
    vx_W p l e R s m args below meth c H locs cells slots (vx_MQ below Qc XC args s mc ms free) (F0 m pc ls rest) q := by
  intro T hT X
  obtain ⟨st1, hrun, hend, hW, hsm⟩ := X.leaveThrown q (g := F0 m pc ls rest) rfl rfl rfl hout hlocks
  have hcell9 : (T.setFrames (.throwing q :: below)).heap[q]? = some ce := by
    show T.heap[q]? = some ce
    rw [hT]; exact hcell
  exact ⟨_, st1, .threw q, hrun, hend, Or.inr ⟨q, rfl, E, ce, locs, hx _ hT hW.alike, hcell9, hv, hcl, hW, hsm.mono hc hs, hf⟩⟩
theorem vx_frame {U : State} {k n : Nat} (h : s.sameButNew ({ U with vm := s.vm } : State) locs k n) : s.heap.size ≤ U.heap.size ∧ ∀ q : Nat, q < s.heap.size → (∀ z ∈ locs, z.base ≠ q) → U.heap[q]? = s.heap[q]? := by
  obtain ⟨-, h2, -, -, -, h6⟩ := h
  refine ⟨h2, fun q hq hz => ?_⟩
  obtain ⟨c9, e1, e2, e3, e4⟩ := h6 q _ (Array.getElem?_eq_getElem hq)
  have hs : c9.slots = (s.heap[q]).slots := Array.ext_getElem? fun i => e4 i fun hm => hz _ hm rfl
  have h9 : c9 = s.heap[q] := by
    rw [hs] at e2
    exact e2
  have e5 : U.heap[q]? = some c9 := e1
  rw [e5, h9, Array.getElem?_eq_getElem hq]
/-- the words of a throw but the four that speak of the heap -/
def vx_no (w : Cond) : Bool := decide (w ≠ .isRef (.static Bundle.tN "UNASSIGNED_STACK" Bundle.steD)) && decide (w ≠ .isRef (.static Bundle.tN "SUPPRESSED_SENTINEL" Bundle.listD)) && decide (w ≠ .laysStatic Bundle.tN "UNASSIGNED_STACK" Bundle.steD) && decide (w ≠ .laysStatic Bundle.tN "SUPPRESSED_SENTINEL" Bundle.listD)
def vx_at0 (own : String) (ic : Nat) (X : String) (names : List String) : List Cond := (Bundle.ownAtoms0 own ic X names).filter vx_no
def vx_atS (own : String) (ic : Nat) (X : String) (names : List String) : List Cond := (Bundle.ownAtoms own ic X names).filter vx_no
/-- a word that the tables alone decide, or a good one -/
def vx_ot (w : Cond) : Bool := w.onTables || goodWord w
theorem vx_ot_at {args a' : Array Value} {s U : State} {w : Cond} (hW : s.WarmedH U.vm) (hvm : s.vm = U.vm) (hg : vx_ot w = true) (h : w.before args s = true) : w.before a' U = true := by
  simp only [vx_ot, Bool.or_eq_true] at hg
  rcases hg with hg | hg
  · exact va_tabs hg hvm h
  · exact word_at hW (good_of_word hg) h
/-- a list's words: the good ones out of the method's own list, the others by premises of their own -/
theorem vx_hat {args : Array Value} {s : State} {L B : List Cond} (h1 : ∀ w ∈ L.filter goodWord, w.before args s = true) (h2 : ∀ w ∈ L.filter (fun w => !goodWord w), w ∈ B) (h3 : ∀ w ∈ B, w.before args s = true) : ∀ w ∈ L, w.before args s = true := by
  intro w hw
  by_cases g : goodWord w = true
  · exact h1 w (List.mem_filter.mpr ⟨hw, g⟩)
  · refine h3 w (h2 w (List.mem_filter.mpr ⟨hw, ?_⟩))
    show (!goodWord w) = true
    cases hgw : goodWord w
    · rfl
    · exact absurd hgw g
theorem vx_c {args : Array Value} {s : State} {w : Cond} {B : List Cond} (h : w.before args s = true) (t : ∀ w ∈ B, w.before args s = true) : ∀ w' ∈ w :: B, w'.before args s = true := fun w' h' => (List.mem_cons.mp h').elim (fun e => by rw [e]; exact h) (t w')
theorem vx_n {args : Array Value} {s : State} : ∀ w ∈ ([] : List Cond), w.before args s = true := fun _ h => nomatch h
theorem vx_own {args : Array Value} {s : State} {L : List Cond} (h1 : ∀ w ∈ L.filter vx_no, w.before args s = true)
    (hU : (Cond.isRef (.static Bundle.tN "UNASSIGNED_STACK" Bundle.steD)).before args s = true) (hN : (Cond.isRef (.static Bundle.tN "SUPPRESSED_SENTINEL" Bundle.listD)).before args s = true)
    (lU : (Cond.laysStatic Bundle.tN "UNASSIGNED_STACK" Bundle.steD).before args s = true) (lN : (Cond.laysStatic Bundle.tN "SUPPRESSED_SENTINEL" Bundle.listD).before args s = true) : ∀ w ∈ L, w.before args s = true := by
  intro w hw
  by_cases e1 : w = .isRef (.static Bundle.tN "UNASSIGNED_STACK" Bundle.steD)
  · rw [e1]; exact hU
  · by_cases e2 : w = .isRef (.static Bundle.tN "SUPPRESSED_SENTINEL" Bundle.listD)
    · rw [e2]; exact hN
    · by_cases e3 : w = .laysStatic Bundle.tN "UNASSIGNED_STACK" Bundle.steD
      · rw [e3]; exact lU
      · by_cases e4 : w = .laysStatic Bundle.tN "SUPPRESSED_SENTINEL" Bundle.listD
        · rw [e4]; exact lN
        · exact h1 w (List.mem_filter.mpr ⟨hw, by unfold vx_no; rw [decide_eq_true e1, decide_eq_true e2, decide_eq_true e3, decide_eq_true e4]; rfl⟩)
/-- where a static field lies, its class's statics cell in H -/
def vx_L (C n d : String) (A : Nat → Prop) (U : State) (H : Heap) : Prop := ∃ (c : ClassId) (k : Class) (i : Nat) (f : Field) (a : Nat) (cell : Cell), U.vm.findClass C = some c ∧ U.fieldFound? C n d = some (c, k, i, f) ∧ f.isStatic = true ∧ k.statics = some a ∧ H[a]? = some cell ∧ cell.vm.isStatics = true ∧ cell.cls = c ∧ f.slot < cell.slots.size ∧ k.staticTypes[f.slot]? = some f.type ∧ ¬ A a
theorem vx_L.moved {C n d : String} {A : Nat → Prop} {u U : State} {H : Heap} (hvm : u.vm.Alike U.vm) (h : vx_L C n d A u H) : vx_L C n d A U H := by
  obtain ⟨c, k, i, f, a, cell, h1, h2, h3, h4, h5, h6, h7, h8, h9, h10⟩ := h
  obtain ⟨k', hi', he⟩ := State.fieldFound?_setVm hvm h2
  exact ⟨c, k', i, f, a, cell, by rw [hvm.findClass]; exact h1, hi', h3, by rw [he]; exact h4, h5, h6, h7, h8, by rw [he]; exact h9, h10⟩
theorem vx_L.kept {C n d : String} {A : Nat → Prop} {U : State} {H H1 : Heap} (h : vx_L C n d A U H) (hq : ∀ a : Nat, a < H.size → ¬ A a → H1[a]? = H[a]?) : vx_L C n d A U H1 := by
  obtain ⟨c, k, i, f, a, cell, h1, h2, h3, h4, h5, h6, h7, h8, h9, h10⟩ := h
  exact ⟨c, k, i, f, a, cell, h1, h2, h3, h4, by rw [hq a (Array.getElem?_eq_some_iff.mp h5).1 h10]; exact h5, h6, h7, h8, h9, h10⟩
theorem vx_L.narrow {C n d : String} {A B : Nat → Prop} {U : State} {H : Heap} (h : vx_L C n d A U H) (hAB : ∀ q, B q → A q) : vx_L C n d B U H := by
  obtain ⟨c, k, i, f, a, cell, h1, h2, h3, h4, h5, h6, h7, h8, h9, h10⟩ := h
  exact ⟨c, k, i, f, a, cell, h1, h2, h3, h4, h5, h6, h7, h8, h9, fun z => h10 (hAB _ z)⟩
theorem vx_L.word {C n d : String} {A : Nat → Prop} {s : State} {args : Array Value} (h : vx_L C n d A s s.heap) : (Cond.laysStatic C n d).before args s = true := by
  obtain ⟨c, k, i, f, a, cell, h1, h2, h3, h4, h5, h6, h7, h8, h9, -⟩ := h
  show (Cond.laysStatic C n d).holds args s none s [] = true
  exact Cond.laysStatic_of h1 h2 h3 h4 h5 h6 h7 h8 h9
/-- .. and what it holds: null or some reference -/
def vx_Zq (C n d : String) (A : Nat → Prop) (U : State) (H : Heap) : Prop := va_Zq C n d A U H ∧ vx_L C n d A U H
theorem vx_Zq.moved {C n d : String} {A : Nat → Prop} {u U : State} {H : Heap} (hvm : u.vm.Alike U.vm) (h : vx_Zq C n d A u H) : vx_Zq C n d A U H := ⟨va_Zq.moved hvm h.1, vx_L.moved hvm h.2⟩
theorem vx_Zq.kept {C n d : String} {A : Nat → Prop} {U : State} {H H1 : Heap} (h : vx_Zq C n d A U H) (hq : ∀ a : Nat, a < H.size → ¬ A a → H1[a]? = H[a]?) : vx_Zq C n d A U H1 := ⟨va_Zq.kept h.1 hq, vx_L.kept h.2 hq⟩
theorem vx_Zq.narrow {C n d : String} {A B : Nat → Prop} {U : State} {H : Heap} (h : vx_Zq C n d A U H) (hAB : ∀ q, B q → A q) : vx_Zq C n d B U H := ⟨va_Zq.narrow h.1 hAB, vx_L.narrow h.2 hAB⟩
theorem vx_Zqof {args : Array Value} {s : State} {C n d : String} {A : Nat → Prop} (hl : (Cond.laysStatic C n d).before args s = true) (hini : (Cond.initialized C).before args s = true) (h : (Cond.isRef (.static C n d)).before args s = true) (hA : ∀ a : Nat, a < s.heap.size → ¬ A a) : vx_Zq C n d A s s.heap := by
  refine ⟨va_Zqof hl hini h hA, ?_⟩
  obtain ⟨c, k, i, f, a, cell, h1, h2, h3, h4, h5, h6, h7, h8, h9⟩ := Cond.laysStatic_spec hl
  exact ⟨c, k, i, f, a, cell, h1, h2, h3, h4, h5, h6, h7, h8, h9, hA a (Array.getElem?_eq_some_iff.mp h5).1⟩
theorem vx_isRef {C n d : String} {v : Value} {A : Nat → Prop} {s : State} {args : Array Value} (h : va_Z C n d v A s s.heap) (hv : v.isRef = true) : (Cond.isRef (.static C n d)).before args s = true := by
  obtain ⟨cf, kf, fi, f, a, cell, h1, h2, h3, h4, h5, h6, h7, -⟩ := h
  have he : (Term.static C n d).eval args s none [] s = some v := by
    simp [Term.eval, State.fieldNamed?, h1, h2, h4, h5, h6, h7]
  simp only [Cond.before, Cond.holds, Cond.value, he]
  cases v <;> simp_all [Value.isRef]
theorem vx_isRefq {C n d : String} {A : Nat → Prop} {s : State} {args : Array Value} (h : va_Zq C n d A s s.heap) : (Cond.isRef (.static C n d)).before args s = true := by
  rcases h with h | ⟨t, h⟩
  · exact vx_isRef h rfl
  · exact vx_isRef h rfl
/-- the same frame, seen from here: as if the method were called anew in this heap -/
theorem vx_rebase {T : State} (X : Stand p l e R s m args below meth c T locs cells slots) {R' : Room} (hf : R'.frames ≤ R.frames) (hl : R'.locals ≤ R.locals) (hc : cells + R'.cells ≤ R.cells) (hs : slots + R'.slots ≤ R.slots) :
    Stand p l e R' ((T.setVm s.vm).setFrames (.invoking m args :: below)) m args below meth c T [] 0 0 := by
  have htop : (T.setVm s.vm).topJava?.isSome := X.here.top
  have hF : ((T.setVm s.vm).setFrames (.invoking m args :: below)).frames = .invoking m args :: below := State.frames_setFrames _ (State.cur_lt_of_top htop)
  obtain ⟨g₀, hg0⟩ := Option.isSome_iff_exists.mp htop
  obtain ⟨r, hr⟩ := State.topJava?_eq_some.mp hg0
  have hl9 : e.platform.stackLimits (T.setVm s.vm).me = e.platform.stackLimits s.me := X.limits
  have hb9 : (T.setVm s.vm).me.stackBytes = s.me.stackBytes := X.bytes
  refine ⟨X.admits, X.cas, X.clock, hF, ?_, X.hears, X.method, X.code, X.here, X.tail, X.warmed, ?_, ?_, ?_⟩
  · have h := X.room
    have hU : ((T.setVm s.vm).setFrames (.invoking m args :: below)).localsInUse = s.localsInUse := by
      rw [State.localsInUse_invoking hF (meth := meth) (c := c) X.method X.code, State.localsInUse_invoking X.frames X.method X.code]
    simp only [State.hasRoom, Bool.and_eq_true, decide_eq_true_eq] at h ⊢
    obtain ⟨⟨⟨⟨h1, h2, h3, h4, h5, h6⟩, h7⟩, h8⟩, h9⟩ := h
    rw [X.frames, List.length_cons] at h2 h3
    have q1 := X.heapSize
    have q2 := X.used
    simp only [hF, hU, List.length_cons, State.stackLimits_setFrames, State.stackBytes_setFrames, hl9, hb9]
    refine ⟨⟨⟨⟨by omega, by omega, by omega, by omega, by omega, h6⟩, ?_⟩, ?_⟩, X.book⟩
    · show T.heap.size + R'.cells ≤ e.platform.maxCells
      omega
    · show T.slotsUsed + R'.slots ≤ e.platform.maxSlots
      omega
  · rw [State.stackLimits_setFrames]; rfl
  · rw [State.stackBytes_setFrames]; rfl
  · refine ⟨?_, Nat.le_refl _, Nat.le_refl _, ?_, ?_, fun a c9 h9 => ⟨c9, h9, rfl, rfl, fun _ _ => rfl⟩⟩
    · obtain ⟨t, ht, -⟩ := State.frames_cons hr
      show T.setVm s.vm = { ((T.setVm s.vm).setFrames (.invoking m args :: below)).setFrames (T.setVm s.vm).frames with heap := T.heap, slotsUsed := T.slotsUsed }
      rw [State.setFrames_setFrames, State.setFrames_self ht]
      rfl
    · show T.slotsUsed = T.slotsUsed + ((T.heap.toList.drop T.heap.size).map (·.slots.size)).sum
      rw [List.drop_eq_nil_of_le (Nat.le_of_eq Array.length_toList)]
      rfl
    · show ((T.heap.toList.drop T.heap.size).map (·.slots.size)).sum ≤ 0
      rw [List.drop_eq_nil_of_le (Nat.le_of_eq Array.length_toList)]
      exact Nat.le_refl _
/-- 'throw new E()': new; dup; invokespecial; athrow -/
theorem vx_throw0 {cc : ByteArray} {pc : Nat} (hexec : p.tables.exec = Jvm.exec) (hb : c.code = cc) (hl : l.stackTraces = false) {own cls : String} {names : List String} {ik ic mc ms : Nat} {A : Nat → Prop}
    (hown : s.vm.findClass own = some m.cls) (hcls : Bundle.fit cls = true) (hnames : ∀ n ∈ names, Bundle.fit n = true)
    (hk : (Cond.classLink own ik cls).before args s = true) (hini : (Cond.initialized cls).before args s = true) (hat : ∀ w ∈ vx_at0 own ic cls names, w.before args s = true)
    (hgood : ∀ w ∈ Cond.classLink own ik cls :: Cond.initialized cls :: vx_at0 own ic cls names, vx_ot w = true)
    (hU : vx_Zq Bundle.tN "UNASSIGNED_STACK" Bundle.steD A s s.heap) (hN : vx_Zq Bundle.tN "SUPPRESSED_SENTINEL" Bundle.listD A s s.heap) (hS : va_S A s.heap H locs) (hsize : ls.size = c.maxLocals)
    (d0 : decode cc pc = .ok (.new ik, 3)) (d3 : decode cc (pc + 3) = .ok (.dup, 1)) (d4 : decode cc (pc + 4) = .ok (.invokespecial ic, 3)) (d7 : decode cc (pc + 7) = .ok (.athrow, 1))
    (hout : ∀ x ∈ c.exceptionTable.toList, covers x (pc + 7) = false)
    (hRframes : names.length + 3 < R.frames) (hRlocals : (rest.map fun v => v.category).sum + (13 * (names.length + 1) + 42) ≤ R.locals) (hRcells : cells + 1 ≤ R.cells) (hRslots : slots + 6 ≤ R.slots) (hlocks : meth.locks = false)
    (hx : ∀ t : State, s.vm.Alike t.vm → H.size ≤ t.heap.size → (∀ q : Nat, q < H.size → t.heap[q]? = H[q]?) → XC cls s t)
    (hf : ∀ z ∈ locs, free z.base) (hc : cells + 1 ≤ mc) (hs : slots + 6 ≤ ms) :
    W p l e R s m args below meth c H locs cells slots (vx_MQ below Qc XC args s mc ms free) (F0 m pc ls rest) := by
  intro T hT X
  have htr : e.platform.stackTraces = false := (show e.platform.stackTraces = l.stackTraces by rw [X.admits.platform]).trans hl
  have Y := vx_rebase X (R' := { frames := R.frames, locals := R.locals, cells := 1, slots := 6 }) (Nat.le_refl _) (Nat.le_refl _) hRcells hRslots
  obtain ⟨s', hA⟩ : ∃ z, z = (T.setVm s.vm).setFrames (.invoking m args :: below) := ⟨_, rfl⟩
  rw [← hA] at Y
  have hvm : s'.vm = s.vm := by rw [hA]; rfl
  have hhp : s'.heap = H := by rw [hA]; exact hT
  have hW0 : s.WarmedH s'.vm := by rw [hvm]; exact State.WarmedH.refl s
  have hat' : ∀ w ∈ vx_at0 own ic cls names, w.before args s' = true := fun w hw => vx_ot_at hW0 hvm.symm (hgood w (List.mem_cons_of_mem _ (List.mem_cons_of_mem _ hw))) (hat w hw)
  have hk' : (Cond.classLink own ik cls).before args s' = true := vx_ot_at hW0 hvm.symm (hgood _ List.mem_cons_self) hk
  have hini' : (Cond.initialized cls).before args s' = true := vx_ot_at hW0 hvm.symm (hgood _ (List.mem_cons_of_mem _ List.mem_cons_self)) hini
  have hU' : vx_Zq Bundle.tN "UNASSIGNED_STACK" Bundle.steD A s' s'.heap := by rw [hhp]; exact vx_Zq.moved hW0.alike (hU.kept hS.2.1)
  have hN' : vx_Zq Bundle.tN "SUPPRESSED_SENTINEL" Bundle.listD A s' s'.heap := by rw [hhp]; exact vx_Zq.moved hW0.alike (hN.kept hS.2.1)
  have h : ∀ w ∈ Bundle.ownAtoms0 own ic cls names, w.before args s' = true := vx_own hat' (vx_isRefq hU'.1) (vx_isRefq hN'.1) hU'.2.word hN'.2.word
  have hown' : s'.vm.findClass own = some m.cls := by rw [hvm]; exact hown
  have hins : (Cond.instantiable cls 6).before args s' = true := h _ (by simp [Bundle.ownAtoms0])
  obtain ⟨vm₁, cX, kX, hfX, hkX, -, -, X₁, st1⟩ := Y.newCold hexec (own := own) (C := cls) (index := ik) (n := 6) hown' hk' hins hini'
    (g := F0 m pc ls rest) rfl (by rw [hb]; exact d0) (Nat.le_refl _) (Nat.le_refl _)
  generalize hT1 : (T.setVm vm₁).pushCell { cls := cX, slots := kX.instanceTypes.map defaultValue, vm := .none } = T1 at X₁ st1
  have hcat : (Value.ref T.heap.size).category = 1 := rfl
  have hcellA : T1.heap[T.heap.size]? = some (freshCell cX kX) := by rw [← hT1]; exact State.heap_pushCell_size _ _
  have d3' : decode c.code (pc + 3) = .ok (.dup, 1) := by rw [hb]; exact d3
  obtain ⟨U, hsteps, hrun, hend, hW, hsame, ce, hce, hO⟩ := X₁.ctorThrow0 hexec htr (own := own) (cls := cls) (names := names) (ic := ic) hown' hcls hnames h (fun x hx => nomatch hx) hfX hkX hcellA (by rw [hhp, hT]; exact Nat.le_refl _)
    (g := { method := m, pc := pc + 4, locals := ls, stack := .ref T.heap.size :: .ref T.heap.size :: rest, locked := none }) rfl hsize rfl rfl (rest := rest) rfl
    (by rw [hb]; exact d4) (by rw [hb]; exact d7) hout hRframes (by simp only [List.map_cons, List.sum_cons, hcat]; omega) hlocks
  obtain ⟨f1, f2⟩ := vx_frame hsame
  rw [hhp] at f1 f2
  have hWs : s.WarmedH U.vm := State.WarmedH.trans hW0 hW
  have hcl : s.vm.findClass cls = some ce.cls := by
    have h9 := hO.cls
    rw [hvm] at h9
    exact h9
  have hall : s.sameButNew ({ U with vm := s.vm } : State) locs mc ms := by
    subst hA
    obtain ⟨e1, e2⟩ := hsame
    rw [State.setFrames_setFrames] at e1
    have h2 : (T.setVm s.vm).sameButNew ({ U with vm := s.vm } : State) [] (0 + 1) (0 + 6) := ⟨e1, e2⟩
    have h3 := X.same.trans h2
    rw [List.append_nil] at h3
    exact h3.mono hc hs
  refine ⟨U, ?_, .threw T.heap.size, hrun, hend, Or.inr ⟨T.heap.size, rfl, cls, ce, locs, hx U hWs.alike f1 (fun q hq => f2 q hq (fun z hz => nomatch hz)), hce, hO.vm, hcl, hWs, hall, hf⟩⟩
  refine st1 _ ?_
  show Steps p.tables e below (T1.setTop { method := m, pc := pc + 3, locals := ls, stack := .ref T.heap.size :: rest, locked := none }) _
  jvm_step X₁.here [X₁.here.top, hexec, d3', Value.category]
  exact hsteps
/-- 'throw new E("text")': new; dup; ldc; invokespecial; athrow -/
theorem vx_throwS {cc : ByteArray} {pc : Nat} (hexec : p.tables.exec = Jvm.exec) (hb : c.code = cc) (hl : l.stackTraces = false) {own cls text : String} {names : List String} {ik is ic mc ms sa : Nat} {A : Nat → Prop}
    (hown : s.vm.findClass own = some m.cls) (hcls : Bundle.fit cls = true) (hnames : ∀ n ∈ names, Bundle.fit n = true)
    (hk : (Cond.classLink own ik cls).before args s = true) (hini : (Cond.initialized cls).before args s = true) (hstr : vk_R own is text sa s) (hat : ∀ w ∈ vx_atS own ic cls names, w.before args s = true)
    (hgood : ∀ w ∈ Cond.classLink own ik cls :: Cond.initialized cls :: vx_atS own ic cls names, vx_ot w = true)
    (hU : vx_Zq Bundle.tN "UNASSIGNED_STACK" Bundle.steD A s s.heap) (hN : vx_Zq Bundle.tN "SUPPRESSED_SENTINEL" Bundle.listD A s s.heap) (hS : va_S A s.heap H locs) (hsize : ls.size = c.maxLocals)
    (d0 : decode cc pc = .ok (.new ik, 3)) (d3 : decode cc (pc + 3) = .ok (.dup, 1)) (d4 : decode cc (pc + 4) = .ok (.ldc is, 2)) (d6 : decode cc (pc + 6) = .ok (.invokespecial ic, 3)) (d9 : decode cc (pc + 9) = .ok (.athrow, 1))
    (hout : ∀ x ∈ c.exceptionTable.toList, covers x (pc + 9) = false)
    (hRframes : names.length + 3 < R.frames) (hRlocals : (rest.map fun v => v.category).sum + (13 * (names.length + 1) + 43) ≤ R.locals) (hRcells : cells + 1 ≤ R.cells) (hRslots : slots + 6 ≤ R.slots) (hlocks : meth.locks = false)
    (hx : ∀ t : State, s.vm.Alike t.vm → H.size ≤ t.heap.size → (∀ q : Nat, q < H.size → t.heap[q]? = H[q]?) → XC cls s t)
    (hf : ∀ z ∈ locs, free z.base) (hc : cells + 1 ≤ mc) (hs : slots + 6 ≤ ms) :
    W p l e R s m args below meth c H locs cells slots (vx_MQ below Qc XC args s mc ms free) (F0 m pc ls rest) := by
  intro T hT X
  have htr : e.platform.stackTraces = false := (show e.platform.stackTraces = l.stackTraces by rw [X.admits.platform]).trans hl
  have Y := vx_rebase X (R' := { frames := R.frames, locals := R.locals, cells := 1, slots := 6 }) (Nat.le_refl _) (Nat.le_refl _) hRcells hRslots
  obtain ⟨s', hA⟩ : ∃ z, z = (T.setVm s.vm).setFrames (.invoking m args :: below) := ⟨_, rfl⟩
  rw [← hA] at Y
  have hvm : s'.vm = s.vm := by rw [hA]; rfl
  have hhp : s'.heap = H := by rw [hA]; exact hT
  have hW0 : s.WarmedH s'.vm := by rw [hvm]; exact State.WarmedH.refl s
  have hat' : ∀ w ∈ vx_atS own ic cls names, w.before args s' = true := fun w hw => vx_ot_at hW0 hvm.symm (hgood w (List.mem_cons_of_mem _ (List.mem_cons_of_mem _ hw))) (hat w hw)
  have hk' : (Cond.classLink own ik cls).before args s' = true := vx_ot_at hW0 hvm.symm (hgood _ List.mem_cons_self) hk
  have hini' : (Cond.initialized cls).before args s' = true := vx_ot_at hW0 hvm.symm (hgood _ (List.mem_cons_of_mem _ List.mem_cons_self)) hini
  have hU' : vx_Zq Bundle.tN "UNASSIGNED_STACK" Bundle.steD A s' s'.heap := by rw [hhp]; exact vx_Zq.moved hW0.alike (hU.kept hS.2.1)
  have hN' : vx_Zq Bundle.tN "SUPPRESSED_SENTINEL" Bundle.listD A s' s'.heap := by rw [hhp]; exact vx_Zq.moved hW0.alike (hN.kept hS.2.1)
  have h : ∀ w ∈ Bundle.ownAtoms own ic cls names, w.before args s' = true := vx_own hat' (vx_isRefq hU'.1) (vx_isRefq hN'.1) hU'.2.word hN'.2.word
  have hown' : s'.vm.findClass own = some m.cls := by rw [hvm]; exact hown
  have hins : (Cond.instantiable cls 6).before args s' = true := h _ (by simp [Bundle.ownAtoms])
  obtain ⟨vm₁, cX, kX, hfX, hkX, -, -, X₁, st1⟩ := Y.newCold hexec (own := own) (C := cls) (index := ik) (n := 6) hown' hk' hins hini'
    (g := F0 m pc ls rest) rfl (by rw [hb]; exact d0) (Nat.le_refl _) (Nat.le_refl _)
  generalize hT1 : (T.setVm vm₁).pushCell { cls := cX, slots := kX.instanceTypes.map defaultValue, vm := .none } = T1 at X₁ st1
  have hcat : (Value.ref T.heap.size).category = 1 := rfl
  have hcellA : T1.heap[T.heap.size]? = some (freshCell cX kX) := by rw [← hT1]; exact State.heap_pushCell_size _ _
  have d3' : decode c.code (pc + 3) = .ok (.dup, 1) := by rw [hb]; exact d3
  have d4' : decode c.code (pc + 4) = .ok (.ldc is, 2) := by rw [hb]; exact d4
  have hstr' : vk_R own is text sa s' := vk_R.warm hW0 hstr
  obtain ⟨U, hsteps, hrun, hend, hW, hsame, ce, hce, hO⟩ := X₁.ctorThrowS hexec htr (own := own) (cls := cls) (names := names) (ic := ic) hown' hcls hnames h (fun x hx => nomatch hx) hfX hkX hcellA (by rw [hhp, hT]; exact Nat.le_refl _) (msg := .ref sa) rfl
    (g := { method := m, pc := pc + 6, locals := ls, stack := .ref sa :: .ref T.heap.size :: .ref T.heap.size :: rest, locked := none }) rfl hsize rfl rfl (rest := rest) rfl
    (by rw [hb]; exact d6) (by rw [hb]; exact d9) hout hRframes (by simp only [List.map_cons, List.sum_cons, hcat]; omega) hlocks
  obtain ⟨f1, f2⟩ := vx_frame hsame
  rw [hhp] at f1 f2
  have hWs : s.WarmedH U.vm := State.WarmedH.trans hW0 hW
  have hcl : s.vm.findClass cls = some ce.cls := by
    have h9 := hO.cls
    rw [hvm] at h9
    exact h9
  have hall : s.sameButNew ({ U with vm := s.vm } : State) locs mc ms := by
    subst hA
    obtain ⟨e1, e2⟩ := hsame
    rw [State.setFrames_setFrames] at e1
    have h2 : (T.setVm s.vm).sameButNew ({ U with vm := s.vm } : State) [] (0 + 1) (0 + 6) := ⟨e1, e2⟩
    have h3 := X.same.trans h2
    rw [List.append_nil] at h3
    exact h3.mono hc hs
  refine ⟨U, ?_, .threw T.heap.size, hrun, hend, Or.inr ⟨T.heap.size, rfl, cls, ce, locs, hx U hWs.alike f1 (fun q hq => f2 q hq (fun z hz => nomatch hz)), hce, hO.vm, hcl, hWs, hall, hf⟩⟩
  refine st1 _ ?_
  show Steps p.tables e below (T1.setTop { method := m, pc := pc + 3, locals := ls, stack := .ref T.heap.size :: rest, locked := none }) _
  jvm_step X₁.here [X₁.here.top, hexec, d3', Value.category]
  exact X₁.ldcString hexec (own := own) (text := text) (index := is) (a := sa) hown' hstr'.1 hstr'.2
    (g := { method := m, pc := pc + 4, locals := ls, stack := .ref T.heap.size :: .ref T.heap.size :: rest, locked := none }) rfl d4' _ hsteps
/-- 'throw new E("text")', the text by a wide index -/
theorem vx_throwSW {cc : ByteArray} {pc : Nat} (hexec : p.tables.exec = Jvm.exec) (hb : c.code = cc) (hl : l.stackTraces = false) {own cls text : String} {names : List String} {ik is ic mc ms sa : Nat} {A : Nat → Prop}
    (hown : s.vm.findClass own = some m.cls) (hcls : Bundle.fit cls = true) (hnames : ∀ n ∈ names, Bundle.fit n = true)
    (hk : (Cond.classLink own ik cls).before args s = true) (hini : (Cond.initialized cls).before args s = true) (hstr : vk_R own is text sa s) (hat : ∀ w ∈ vx_atS own ic cls names, w.before args s = true)
    (hgood : ∀ w ∈ Cond.classLink own ik cls :: Cond.initialized cls :: vx_atS own ic cls names, vx_ot w = true)
    (hU : vx_Zq Bundle.tN "UNASSIGNED_STACK" Bundle.steD A s s.heap) (hN : vx_Zq Bundle.tN "SUPPRESSED_SENTINEL" Bundle.listD A s s.heap) (hS : va_S A s.heap H locs) (hsize : ls.size = c.maxLocals)
    (d0 : decode cc pc = .ok (.new ik, 3)) (d3 : decode cc (pc + 3) = .ok (.dup, 1)) (d4 : decode cc (pc + 4) = .ok (.ldc_w is, 3)) (d7 : decode cc (pc + 7) = .ok (.invokespecial ic, 3)) (d10 : decode cc (pc + 10) = .ok (.athrow, 1))
    (hout : ∀ x ∈ c.exceptionTable.toList, covers x (pc + 10) = false)
    (hRframes : names.length + 3 < R.frames) (hRlocals : (rest.map fun v => v.category).sum + (13 * (names.length + 1) + 43) ≤ R.locals) (hRcells : cells + 1 ≤ R.cells) (hRslots : slots + 6 ≤ R.slots) (hlocks : meth.locks = false)
    (hx : ∀ t : State, s.vm.Alike t.vm → H.size ≤ t.heap.size → (∀ q : Nat, q < H.size → t.heap[q]? = H[q]?) → XC cls s t)
    (hf : ∀ z ∈ locs, free z.base) (hc : cells + 1 ≤ mc) (hs : slots + 6 ≤ ms) :
    W p l e R s m args below meth c H locs cells slots (vx_MQ below Qc XC args s mc ms free) (F0 m pc ls rest) := by
  intro T hT X
  have htr : e.platform.stackTraces = false := (show e.platform.stackTraces = l.stackTraces by rw [X.admits.platform]).trans hl
  have Y := vx_rebase X (R' := { frames := R.frames, locals := R.locals, cells := 1, slots := 6 }) (Nat.le_refl _) (Nat.le_refl _) hRcells hRslots
  obtain ⟨s', hA⟩ : ∃ z, z = (T.setVm s.vm).setFrames (.invoking m args :: below) := ⟨_, rfl⟩
  rw [← hA] at Y
  have hvm : s'.vm = s.vm := by rw [hA]; rfl
  have hhp : s'.heap = H := by rw [hA]; exact hT
  have hW0 : s.WarmedH s'.vm := by rw [hvm]; exact State.WarmedH.refl s
  have hat' : ∀ w ∈ vx_atS own ic cls names, w.before args s' = true := fun w hw => vx_ot_at hW0 hvm.symm (hgood w (List.mem_cons_of_mem _ (List.mem_cons_of_mem _ hw))) (hat w hw)
  have hk' : (Cond.classLink own ik cls).before args s' = true := vx_ot_at hW0 hvm.symm (hgood _ List.mem_cons_self) hk
  have hini' : (Cond.initialized cls).before args s' = true := vx_ot_at hW0 hvm.symm (hgood _ (List.mem_cons_of_mem _ List.mem_cons_self)) hini
  have hU' : vx_Zq Bundle.tN "UNASSIGNED_STACK" Bundle.steD A s' s'.heap := by rw [hhp]; exact vx_Zq.moved hW0.alike (hU.kept hS.2.1)
  have hN' : vx_Zq Bundle.tN "SUPPRESSED_SENTINEL" Bundle.listD A s' s'.heap := by rw [hhp]; exact vx_Zq.moved hW0.alike (hN.kept hS.2.1)
  have h : ∀ w ∈ Bundle.ownAtoms own ic cls names, w.before args s' = true := vx_own hat' (vx_isRefq hU'.1) (vx_isRefq hN'.1) hU'.2.word hN'.2.word
  have hown' : s'.vm.findClass own = some m.cls := by rw [hvm]; exact hown
  have hins : (Cond.instantiable cls 6).before args s' = true := h _ (by simp [Bundle.ownAtoms])
  obtain ⟨vm₁, cX, kX, hfX, hkX, -, -, X₁, st1⟩ := Y.newCold hexec (own := own) (C := cls) (index := ik) (n := 6) hown' hk' hins hini'
    (g := F0 m pc ls rest) rfl (by rw [hb]; exact d0) (Nat.le_refl _) (Nat.le_refl _)
  generalize hT1 : (T.setVm vm₁).pushCell { cls := cX, slots := kX.instanceTypes.map defaultValue, vm := .none } = T1 at X₁ st1
  have hcat : (Value.ref T.heap.size).category = 1 := rfl
  have hcellA : T1.heap[T.heap.size]? = some (freshCell cX kX) := by rw [← hT1]; exact State.heap_pushCell_size _ _
  have d3' : decode c.code (pc + 3) = .ok (.dup, 1) := by rw [hb]; exact d3
  have d4' : decode c.code (pc + 4) = .ok (.ldc_w is, 3) := by rw [hb]; exact d4
  have hstr' : vk_R own is text sa s' := vk_R.warm hW0 hstr
  obtain ⟨U, hsteps, hrun, hend, hW, hsame, ce, hce, hO⟩ := X₁.ctorThrowS hexec htr (own := own) (cls := cls) (names := names) (ic := ic) hown' hcls hnames h (fun x hx => nomatch hx) hfX hkX hcellA (by rw [hhp, hT]; exact Nat.le_refl _) (msg := .ref sa) rfl
    (g := { method := m, pc := pc + 7, locals := ls, stack := .ref sa :: .ref T.heap.size :: .ref T.heap.size :: rest, locked := none }) rfl hsize rfl rfl (rest := rest) rfl
    (by rw [hb]; exact d7) (by rw [hb]; exact d10) hout hRframes (by simp only [List.map_cons, List.sum_cons, hcat]; omega) hlocks
  obtain ⟨f1, f2⟩ := vx_frame hsame
  rw [hhp] at f1 f2
  have hWs : s.WarmedH U.vm := State.WarmedH.trans hW0 hW
  have hcl : s.vm.findClass cls = some ce.cls := by
    have h9 := hO.cls
    rw [hvm] at h9
    exact h9
  have hall : s.sameButNew ({ U with vm := s.vm } : State) locs mc ms := by
    subst hA
    obtain ⟨e1, e2⟩ := hsame
    rw [State.setFrames_setFrames] at e1
    have h2 : (T.setVm s.vm).sameButNew ({ U with vm := s.vm } : State) [] (0 + 1) (0 + 6) := ⟨e1, e2⟩
    have h3 := X.same.trans h2
    rw [List.append_nil] at h3
    exact h3.mono hc hs
  refine ⟨U, ?_, .threw T.heap.size, hrun, hend, Or.inr ⟨T.heap.size, rfl, cls, ce, locs, hx U hWs.alike f1 (fun q hq => f2 q hq (fun z hz => nomatch hz)), hce, hO.vm, hcl, hWs, hall, hf⟩⟩
  refine st1 _ ?_
  show Steps p.tables e below (T1.setTop { method := m, pc := pc + 3, locals := ls, stack := .ref T.heap.size :: rest, locked := none }) _
  jvm_step X₁.here [X₁.here.top, hexec, d3', Value.category]
  exact X₁.ldcStringW hexec (own := own) (text := text) (index := is) (a := sa) hown' hstr'.1 hstr'.2
    (g := { method := m, pc := pc + 4, locals := ls, stack := .ref T.heap.size :: .ref T.heap.size :: rest, locked := none }) rfl d4' _ hsteps
end Ends
section Bodies
variable {l : Launch}
theorem vx_ofW {y : MethodName} {ws ws' : List Cond} {rm : Room} {Pc : Array Value → State → Prop} {Qc : Array Value → State → Outcome → State → Prop} {XC : String → State → State → Prop} {mc ms : Nat} {free : Addr → Prop} {cc : ByteArray} {maxL : Nat} {ret : Option FieldType}
    (hy : plainName y.cls = true) (hw : ws = Cond.code y cc maxL ret :: ws')
    (body : ∀ p e s m args below meth c s₁, BodyLoose p l y (headSpec ws rm) cc maxL ret e s m args below meth c s₁ → c.maxLocals = maxL → (∀ x ∈ c.exceptionTable.toList, False) → Pc args s →
      W p l e (headSpec ws rm).room s m args below meth c s.heap [] 0 0 (vx_MQ below Qc XC args s mc ms free) (entryFrame m args maxL)) : vx_Met l y ws rm Pc Qc XC mc ms free := by
  refine MetFree.of_bodyS (code := cc) (maxLocals := maxL) (ret := ret) hy ?_ ?_
  · intro args s m h hn
    obtain ⟨meth, c, h1, h2, h3, h4, h5, h6, -, -⟩ := Cond.code_spec hn (atoms_spec (ws := ws) h _ (by rw [hw]; exact List.mem_cons_self))
    exact ⟨meth, c, h1, h2, h3, h4, h5, h6⟩
  · intro p e s m args below meth c s₁ B hml hP _
    have hh0 : s₁.heap = s.heap := by rw [B.state]; rfl
    have ht : ∀ x ∈ c.exceptionTable.toList, False := by
      obtain ⟨meth9, c9, h1, h2, -, -, -, -, h7, -⟩ := Cond.code_spec B.named (atoms_spec (ws := ws) B.pre _ (by rw [hw]; exact List.mem_cons_self))
      cases Option.some.inj (h1.symm.trans B.method)
      cases Option.some.inj (h2.symm.trans (Stand.of_body B).code)
      intro x hx
      rw [Array.isEmpty_iff.mp h7] at hx
      cases hx
    obtain ⟨t, a1, o, b1, b2, b3⟩ := body p e s m args below meth c s₁ B hml ht hP s₁ hh0 (Stand.of_body B)
    exact ⟨t, o, a1, b1, b2, b3⟩
/-- the table of a body with handlers -/
theorem vx_table {p : Program} {x y : MethodName} {S : Spec} {cc bytes : ByteArray} {maxL maxL' : Nat} {ret ret' : Option FieldType} {e : Env} {s s₁ : State} {m : MethodId} {args : Array Value} {below : List Frame} {meth : Method} {c : Code} {hh : List (Nat × Nat × Nat × Nat)}
    (B : BodyLoose p l y S cc maxL ret e s m args below meth c s₁) (h : (Cond.codeWith y bytes maxL' ret' hh).before args s = true) : c.exceptionTable.toList = tableOf hh := by
  obtain ⟨m9, meth9, c9, hn9, h1, h2, -, -, h6, -⟩ := Cond.codeWith_spec h
  cases Option.some.inj (hn9.symm.trans B.named)
  cases Option.some.inj (h1.symm.trans B.method)
  cases Option.some.inj (h2.symm.trans (Stand.of_body B).code)
  rw [← h6, table_eq]
end Bodies
end VXA
/-! ===== END ===== -/
/-! ===== BEGIN a static call of a method with an exception table ===== -/
section VXS
variable {p : Program} {l : Launch} {e : Env} {R : Room} {s : State} {m : MethodId} {args : Array Value} {below : List Frame} {meth : Method} {c : Code} {T : State} {H : Heap} {locs : List Loc} {cells slots : Nat}
abbrev vx_CSW (R : Room) (s : State) (args : Array Value) (own : String) (index : Nat) (y : MethodName) (bytes : ByteArray) (maxL : Nat) (ret : Option FieldType) (hh : List (Nat × Nat × Nat × Nat)) (ws : List Cond) (rm : Room) (mc ms n : Nat) : Prop :=
  (rm.cells = mc ∧ rm.slots = ms ∧ rm.frames + 1 ≤ R.frames ∧ 8 + (maxL + 11) + rm.locals ≤ R.locals ∧ (∀ w ∈ ws, ∀ (a' : Array Value) (U : State), s.WarmedH U.vm → w.before a' U = true) ∧ Cond.codeWith y bytes maxL ret hh ∈ ws) ∧
  (Cond.codeWith y bytes maxL ret hh).before args s = true ∧ (Cond.initialized y.cls).before args s = true ∧ (y.cls ≠ "java/lang/invoke/MethodHandle" ∧ y.cls ≠ "java/lang/invoke/VarHandle") ∧
  (∀ sig, parseMethodDescriptor y.desc = some sig → n = sig.parameters.length) ∧ (Cond.methodLink own index y).before args s = true ∧ (Cond.static y).before args s = true
theorem vx_cwSW {own : String} {index maxL mc ms : Nat} {y : MethodName} {bytes : ByteArray} {ret : Option FieldType} {hh : List (Nat × Nat × Nat × Nat)} {Ts ws ws' : List Cond} {rm : Room} (n : Nat) (ht : ∀ w ∈ Ts, w.before args s = true) (hT : GoodIn Ts (va_wsS own index y ws)) (hw : ws = Cond.codeWith y bytes maxL ret hh :: ws') (hrc : rm.cells = mc) (hrs : rm.slots = ms)
    (hd : y.cls ≠ "java/lang/invoke/MethodHandle" ∧ y.cls ≠ "java/lang/invoke/VarHandle" ∧ (parseMethodDescriptor y.desc).map (fun d => d.parameters.length) = some n) (hR : rm.frames + 1 ≤ R.frames ∧ 8 + (maxL + 11) + rm.locals ≤ R.locals) :
    vx_CSW R s args own index y bytes maxL ret hh ws rm mc ms n := by
  have ok : ∀ w ∈ va_wsS own index y ws, w.before args s = true := fun w h => ht w (hT w h).1
  have hG : GoodIn Ts ws := fun w h => hT w (by unfold va_wsS; exact List.mem_append_right _ h)
  have hc : Cond.codeWith y bytes maxL ret hh ∈ ws := by rw [hw]; exact List.mem_cons_self
  refine ⟨⟨hrc, hrs, hR.1, hR.2, pay_in ht hG, hc⟩, ht _ (hG _ hc).1, ok _ (by simp [va_wsS]), ⟨hd.1, hd.2.1⟩, fun sig h => ?_, ok _ (by simp [va_wsS]), ok _ (by simp [va_wsS])⟩
  have h2 := hd.2.2
  rw [h] at h2
  exact (Option.some.inj h2).symm
theorem vx_callSW (X : Stand p l e R s m args below meth c T locs cells slots) (hexec : p.tables.exec = Jvm.exec) {own : String} {index : Nat} {y : MethodName} {bytes : ByteArray} {maxL : Nat} {ret : Option FieldType} {hh : List (Nat × Nat × Nat × Nat)}
    (hown : s.vm.findClass own = some m.cls) (hlink : (Cond.methodLink own index y).before args s = true) (hstat : (Cond.static y).before args s = true) (hinit : (Cond.initialized y.cls).before args s = true)
    (hcode : (Cond.codeWith y bytes maxL ret hh).before args s = true) (hy : y.cls ≠ "java/lang/invoke/MethodHandle" ∧ y.cls ≠ "java/lang/invoke/VarHandle")
    {W9 : Nat} {Pre : Pt → Array Value → Prop} {Post : Pt → Array Value → Option Value → Pt → Prop} (hK : Back l R p e below s args y 3 W9 Pre Post)
    {g : JFrame} (hg : g.method = m) (hsize : g.locals.size = c.maxLocals) {argsL rest : List Value} (hlen : ∀ sig, parseMethodDescriptor y.desc = some sig → argsL.length = sig.parameters.length)
    (hstack : g.stack = argsL.reverse ++ rest) (hW : 2 * g.monitorRoom + (rest.map fun v => v.category).sum ≤ W9) (hdg : decode c.code g.pc = .ok (.invokestatic index, 3))
    (hpre : ∀ vm₁, s.WarmedH vm₁ → Pre ⟨T.setVm vm₁, locs, cells, slots⟩ argsL.toArray) :
    ∃ (v : Option Value) (vm₁ : Vm) (B : Pt), s.WarmedH vm₁ ∧ Stand p l e R s m args below meth c B.U B.locs B.cells B.slots ∧ Post ⟨T.setVm vm₁, locs, cells, slots⟩ argsL.toArray v B ∧
      ∀ target, Steps p.tables e below (B.U.setTop { g with pc := g.pc + 3, stack := v.toList ++ rest }) target → Steps p.tables e below (T.setTop g) target := by
  obtain ⟨mk, methM, cM, hnamed, hmethM, -, -, -, -, -, -, hsigM⟩ := Cond.codeWith_spec hcode
  have hstatic : methM.isStatic = true := Cond.static_spec hnamed hmethM hstat
  obtain ⟨kP, hkP, -⟩ := className_of_methodNamed hnamed
  have hinitP : kP.init = .initialized := Cond.initialized_spec (findClass_of_methodNamed hnamed) hkP hinit
  obtain ⟨vm₁, X₁, hstep₁⟩ := X.invokestatic hexec hown hlink hnamed hmethM hstatic hkP hinitP hy (g := g) hg (argsL := argsL) (rest := rest) (hlen _ hsigM) hstack hdg
  obtain ⟨v, B, X', hpost, hsteps⟩ := hK m meth c ⟨T.setVm vm₁, locs, cells, slots⟩ { g with stack := rest } (.invokestatic index) mk argsL.toArray X₁ hg hsize hdg hW (X₁.named hnamed) (hpre vm₁ X₁.warmed)
  exact ⟨v, vm₁, B, X₁.warmed, X', hpost, fun target h => hstep₁ _ fun acts => by rw [doInvoke_state]; exact hsteps.trans h⟩
theorem vx_runSW {y : MethodName} {bytes cc : ByteArray} {maxL nL mc ms n index : Nat} {ret : Option FieldType} {hh : List (Nat × Nat × Nat × Nat)} {ws : List Cond} {rm : Room} {Pc : Array Value → State → Prop} {Qc : Array Value → State → Outcome → State → Prop} {free : Addr → Prop} {Ts : List Cond} {own : String} {As rest : List Value} {g : JFrame}
    (S : CallFix p m c cc nL s args Ts own) (hM : Met l y ws rm Pc Qc mc ms free) (cw : vx_CSW R s args own index y bytes maxL ret hh ws rm mc ms n) (hp : PreS s H Pc As)
    (hg : g.method = m) (hn : As.length = n) (hsize : g.locals.size = nL) (hstack : g.stack = As.reverse ++ rest) (hW : 2 * g.monitorRoom + (rest.map fun v => v.category).sum ≤ 8) (hdg : decode cc g.pc = .ok (.invokestatic index, 3)) (hf : cells + mc ≤ R.cells ∧ slots + ms ≤ R.slots) :
    va_Run p l e R s m args below meth c H locs cells slots mc ms g rest (Qc As.toArray) (free) := by
  obtain ⟨⟨hrc, hrs, hfr, hlo, hws, hcw⟩, hcode, hini, hy, hlen, hl, hstt⟩ := cw
  have hK : Back l R p e below s args y 3 8 (PreOf R mc ms Pc) (PostOf Qc mc ms free) := va_backW (hh := hh) (bytes := bytes) (maxL := maxL) (ret := ret) hM hp.1 hrc hrs hfr hlo hws hcw (fun a' U hW => word_at hW (Or.inl (by first | rfl | simp [Cond.onTables, Cond.keeps, Cond.steady])) hini)
  obtain ⟨hx, hb, hml, ho, -⟩ := S
  intro T hT X
  obtain ⟨v, vm₁, ⟨U', l2, c2, s2⟩, hW₁, X', ⟨g', mk, t, L, e1, e2, hq, h1, hL, h2, h3⟩, st⟩ := vx_callSW X hx (hh := hh) (bytes := bytes) (maxL := maxL) (ret := ret) ho hl hstt hini hcode hy hK hg (hsize.trans hml.symm) (argsL := As) (rest := rest) (fun sig h => hn.trans (hlen sig h)) hstack hW (by rw [hb]; exact hdg)
    (fun vm₁ hW₁ => ⟨hf.1, hf.2, hp.2 (T.setVm vm₁) hT hW₁⟩)
  dsimp only [Pt.U, Pt.locs, Pt.cells, Pt.slots] at X' e1 e2 h1 h2 h3 st
  subst h1; subst h2; subst h3
  exact ⟨v, (T.setVm vm₁).calling g' mk As.toArray, t, U', L, hT, X', hL, e1, e2, hq, st⟩
/-- not caught here, past rows that name other classes: it goes on to the caller -/
theorem vx_outP {p : Program} {l : Launch} {e : Env} {R : Room} {s : State} {m : MethodId} {args : Array Value} {below : List Frame} {meth : Method} {c : Code} {H : Heap} {locs : List Loc} {cells slots : Nat} {free : Addr → Prop} {ls : Array Slot} {rest : List Value} {Qc : Array Value → State → Outcome → State → Prop} {XC : String → State → State → Prop}
    {pc : Nat} {own E : String} {ce : Cell} {q : Addr} {mc ms : Nat} (hown : s.vm.findClass own = some m.cls) (hlocks : meth.locks = false)
    (hpass : ∀ z ∈ c.exceptionTable.toList, covers z pc = false ∨ (z.catchType ≠ 0 ∧ ∃ nm : String, (Cond.classLink own z.catchType nm).before args s = true ∧ va_Nc E nm s)) (hcell : H[q]? = some ce) (hv : ce.vm = .none) (hcl : s.vm.findClass E = some ce.cls)
    (hx : ∀ t : State, t.heap = H → s.vm.Alike t.vm → XC E s t) (hf : ∀ z ∈ locs, free z.base) (hc : cells ≤ mc) (hs : slots ≤ ms) :
    vx_W p l e R s m args below meth c H locs cells slots (vx_MQ below Qc XC args s mc ms free) (F0 m pc ls rest) q := by
  intro T hT X
  have hpl : e.platform.magicAccessors = ({} : Platform).magicAccessors := by rw [X.admits.platform]
  obtain ⟨vm', hW', X', st⟩ := X.outThrough hlocks q (g := F0 m pc ls rest) rfl rfl rfl (cell := ce) (by rw [hT]; exact hcell) (by rw [hv]; rfl)
    (by obtain ⟨k9, h9, -⟩ := Vm.findClass_spec hcl; exact ⟨k9, h9⟩) (fun z hz => by
      rcases hpass z hz with h | ⟨hz0, nm, hl1, hn1⟩
      · exact Or.inl h
      · obtain ⟨c6, hc6, hcl6⟩ := Cond.classLink_spec hown hl1 e.platform hpl
        obtain ⟨a8, b8, h1, h2, h3⟩ := hn1
        cases Option.some.inj (h1.symm.trans hcl)
        cases Option.some.inj (h2.symm.trans hc6)
        exact Or.inr ⟨hz0, _, hcl6, h3⟩)
  obtain ⟨g₀, hfr⟩ := X'.frames_eq
  have hcell9 : ((T.setVm vm').setFrames (.throwing q :: below)).heap[q]? = some ce := by
    show T.heap[q]? = some ce
    rw [hT]; exact hcell
  have hend : Ended ((T.setVm vm').setFrames (.throwing q :: below)) below (.threw q) := State.frames_setFrames _ (State.cur_lt_of_frames hfr)
  refine ⟨(T.setVm vm').setFrames (.throwing q :: below), ?_, .threw q, X'.here.running, hend, Or.inr ⟨q, rfl, E, ce, locs, hx _ hT (X'.ends _).1.alike, hcell9, hv, hcl, (X'.ends _).1, (X'.ends _).2.mono hc hs, hf⟩⟩
  rw [X.pushThrowing_eq]
  exact st
/-- a thing of a world lies in the heap -/
theorem vx_lt {D : va_G} {cl : List vw_C} {ws : va_W} {H1 : Heap} (h : va_P D cl ws H1) {k : Nat} {q : Nat × va_E} (hk : ws[k]? = some q) : q.1 < H1.size := (h k q hk).lt
end VXS
/-! ===== END ===== -/
/-! ===== BEGIN methods with a table of their own: called by a name, returning or throwing ===== -/
section VXH
/-! vx_backW, vx_callVX, vx_callSX, vx_callVW, vx_runVW, vx_runVX, vx_runSX, vx_ofWH follow the same proofs as their sisters above (Free/Laws.lean, Shelf42/LK1.lean); vx_outP calls Shelf42/NT130.lean (outThrough). -/
section
variable {l : Launch} {R : Room} {p : Program} {e : Env} {below : List Frame} {s : State} {sargs : Array Value} {y : MethodName} {len W9 : Nat}
theorem vx_backW {ws : List Cond} {rm : Room} {Pc : Array Value → State → Prop} {Qc : Array Value → State → Outcome → State → Prop} {XC : String → State → State → Prop} {mc ms : Nat} {free : Addr → Prop} {bytes : ByteArray} {maxL : Nat} {ret : Option FieldType} {hh : List (Nat × Nat × Nat × Nat)}
    (hM : vx_Met l y ws rm Pc Qc XC mc ms free) (hblind : FrameBlind Pc) (hrc : rm.cells = mc) (hrs : rm.slots = ms)
    (hframes : rm.frames + 1 ≤ R.frames) (hlocals : W9 + (maxL + 11) + rm.locals ≤ R.locals)
    (hws : ∀ w ∈ ws, ∀ a' U, s.WarmedH U.vm → w.before a' U = true) (hcode : Cond.codeWith y bytes maxL ret hh ∈ ws) (hinit : ∀ a' U, s.WarmedH U.vm → (Cond.initialized y.cls).before a' U = true) :
    vx_Back l R p e below s sargs y len W9 (PreOf R mc ms Pc) (PostOf Qc mc ms free) (vx_Post XC mc ms free) := by
  intro m meth c A g ig mk a X hg hsize hdg hW hn hp
  have h1 : (headSpec ws rm).pre.before a A.U = true := atoms_intro fun w hw => hws w hw _ _ X.warmed
  have h2 : (Cond.codeWith y bytes maxL ret hh).before a A.U = true := hws _ hcode _ _ X.warmed
  have h3 : (Cond.initialized y.cls).before a A.U = true := hinit _ _ X.warmed
  have h4 : A.cells + (headSpec ws rm).room.cells ≤ R.cells := by rw [show (headSpec ws rm).room.cells = mc from hrc]; exact hp.1
  have h5 : A.slots + (headSpec ws rm).room.slots ≤ R.slots := by rw [show (headSpec ws rm).room.slots = ms from hrs]; exact hp.2.1
  have hPc : Pc a (A.U.calling g mk a) := hblind _ _ _ _ hp.2.2
  obtain ⟨U, Ls, c0, s0⟩ := A
  dsimp only [Pt.U, Pt.locs, Pt.cells, Pt.slots] at h1 h2 h3 h4 h5 X hn hPc ⊢
  obtain ⟨m9, methY, cY, hn9, hmY, hcY, -, hlY, -⟩ := Cond.codeWith_spec h2
  cases Option.some.inj (hn9.symm.trans hn)
  obtain ⟨kY, hkY, -⟩ := className_of_methodNamed hn
  have hinitY : kY.init = .initialized := Cond.initialized_spec (findClass_of_methodNamed hn) hkY h3
  have h : At U g.method c below := by rw [hg]; exact X.here
  have hlocals9 : W9 + (maxL + 11) + (headSpec ws rm).room.locals ≤ R.locals := hlocals
  have happ : (headSpec ws rm).appliesLoose y e.platform (U.calling g mk a) = true :=
    Spec.appliesLoose_calling (g := g) h hdg hn hkY hinitY
      (X.room_calling (g := g) (R' := (headSpec ws rm).room) hsize hmY hcY hframes (by rw [hlY]; omega) h4 h5) h1
  obtain ⟨mid, hmid⟩ := h.above
  have hfr : (U.setTop g).frames = (.java g :: mid) ++ below := by rw [State.frames_setTop' g h.top, hmid]; rfl
  obtain ⟨o, s₂, hsteps, -, hend, hq⟩ := Steps.callFree hM p X.admits X.cas X.clock (acts := []) hfr happ hPc trivial
  have hq' : vx_Q Qc XC mc ms free a (U.calling g mk a) o s₂ := hq
  rw [State.frames_setTop' g h.top] at hend
  obtain ⟨g₀, hg0⟩ := Option.isSome_iff_exists.mp h.top
  obtain ⟨r, hr⟩ := State.topJava?_eq_some.mp hg0
  have hr' : (({ U with heap := s₂.heap, slotsUsed := s₂.slotsUsed } : State).setVm s₂.vm).frames = .java g₀ :: r := hr
  rcases hq' with ⟨hqc, L, hfe, hL⟩ | ⟨q, rfl, E, ce, L, hx, hce, hcv, hcl, hW₂, hsm, hL⟩
  · obtain ⟨⟨v, rfl⟩, hW₂, e2, q2, q3, q4, q5, q6⟩ := id hfe
    have e3 : s₂ = ({ (U.calling g mk a).setFrames s₂.frames with heap := s₂.heap, slotsUsed := s₂.slotsUsed } : State).setVm s₂.vm := by
      have : s₂ = ({ s₂ with vm := (U.calling g mk a).vm } : State).setVm s₂.vm := rfl
      rw [e2] at this
      exact this
    obtain ⟨c₂, i₂, len₂, hc₂, hd₂, hf₂⟩ := hend
    have hW' : U.WarmedH s₂.vm := hW₂
    have hcc : c₂ = c := by
      have h1 : s₂.code? g.method = U.code? g.method := by
        rw [State.code?_eq, State.code?_eq, hW'.alike.method?]
      exact Option.some.inj (hc₂.symm.trans (h1.trans h.code))
    subst hcc
    have hlen : len₂ = len := by rw [hdg] at hd₂; cases hd₂; rfl
    subst hlen
    have hs₂ : s₂ = (({ U with heap := s₂.heap, slotsUsed := s₂.slotsUsed } : State).setVm s₂.vm).setTop { g with pc := g.pc + len₂, stack := v.toList ++ g.stack } := by
      refine e3.trans ?_
      rw [hf₂, State.calling_eq h.top, State.setFrames_setFrames, State.setTop_of_frames _ hr', hr]
      rfl
    have hsame : U.sameButNew ({ U with heap := s₂.heap, slotsUsed := s₂.slotsUsed } : State) L mc ms := by
      refine ⟨?_, q2, q3, q4, q5, q6⟩
      obtain ⟨t, ht, -⟩ := State.frames_cons hr
      show ({ U with heap := s₂.heap, slotsUsed := s₂.slotsUsed } : State) = { U.setFrames U.frames with heap := s₂.heap, slotsUsed := s₂.slotsUsed }
      rw [State.setFrames_self ht]
    subst hg
    refine Or.inl ⟨v, ⟨(({ U with heap := s₂.heap, slotsUsed := s₂.slotsUsed } : State).setVm s₂.vm), Ls ++ L, c0 + mc, s0 + ms⟩,
      ⟨X.admits, X.cas, X.clock, X.frames, X.room, X.hears, X.method, X.code, (X.here.setHeapUsed s₂.heap s₂.slotsUsed).setVm hW'.alike, X.tail, State.WarmedH.trans X.warmed hW', X.limits, X.bytes, X.same.trans (hsame.setVm s.vm)⟩,
      ⟨g, mk, s₂, L, rfl, rfl, hqc, rfl, hL, rfl, rfl⟩, ?_⟩
    show Steps p.tables e below _ ((({ U with heap := s₂.heap, slotsUsed := s₂.slotsUsed } : State).setVm s₂.vm).setTop { g with pc := g.pc + len₂, stack := v.toList ++ g.stack })
    rw [← hs₂]
    exact hsteps
  · obtain ⟨e2, q2, q3, q4, q5, q6⟩ := id hsm
    have e3 : s₂ = ({ (U.calling g mk a).setFrames s₂.frames with heap := s₂.heap, slotsUsed := s₂.slotsUsed } : State).setVm s₂.vm := by
      have : s₂ = ({ s₂ with vm := (U.calling g mk a).vm } : State).setVm s₂.vm := rfl
      rw [e2] at this
      exact this
    have hf₂ : s₂.frames = .throwing q :: .java g :: U.frames.tail := hend
    have hW' : U.WarmedH s₂.vm := hW₂
    have hs₂ : s₂ = ((({ U with heap := s₂.heap, slotsUsed := s₂.slotsUsed } : State).setVm s₂.vm).setTop g).pushFrame (.throwing q) := by
      refine e3.trans ?_
      rw [hf₂, State.calling_eq h.top, State.setFrames_setFrames, State.pushFrame, State.frames_setTop _ hr', State.setTop_of_frames _ hr', State.setFrames_setFrames, hr]
      rfl
    have hsame : U.sameButNew ({ U with heap := s₂.heap, slotsUsed := s₂.slotsUsed } : State) L mc ms := by
      refine ⟨?_, q2, q3, q4, q5, q6⟩
      obtain ⟨t, ht, -⟩ := State.frames_cons hr
      show ({ U with heap := s₂.heap, slotsUsed := s₂.slotsUsed } : State) = { U.setFrames U.frames with heap := s₂.heap, slotsUsed := s₂.slotsUsed }
      rw [State.setFrames_self ht]
    subst hg
    refine Or.inr ⟨q, ⟨(({ U with heap := s₂.heap, slotsUsed := s₂.slotsUsed } : State).setVm s₂.vm), Ls ++ L, c0 + mc, s0 + ms⟩,
      ⟨X.admits, X.cas, X.clock, X.frames, X.room, X.hears, X.method, X.code, (X.here.setHeapUsed s₂.heap s₂.slotsUsed).setVm hW'.alike, X.tail, State.WarmedH.trans X.warmed hW', X.limits, X.bytes, X.same.trans (hsame.setVm s.vm)⟩,
      ⟨g, mk, s₂, L, E, ce, rfl, rfl, hx, hce, hcv, hcl, rfl, hL, rfl, rfl⟩, ?_⟩
    show Steps p.tables e below _ (((({ U with heap := s₂.heap, slotsUsed := s₂.slotsUsed } : State).setVm s₂.vm).setTop g).pushFrame (.throwing q))
    rw [← hs₂]
    exact hsteps
end
variable {p : Program} {l : Launch} {e : Env} {R : Room} {s : State} {m : MethodId} {args : Array Value} {below : List Frame} {meth : Method} {c : Code} {T : State} {H : Heap} {locs : List Loc} {cells slots : Nat}
theorem vx_callVX (X : Stand p l e R s m args below meth c T locs cells slots) (hexec : p.tables.exec = Jvm.exec) {own C : String} {index : Nat} {y : MethodName} {bytes : ByteArray} {maxL : Nat} {ret : Option FieldType} {hh : List (Nat × Nat × Nat × Nat)}
    (hown : s.vm.findClass own = some m.cls) (hlink : (Cond.methodLink own index y).before args s = true) (hinst : (Cond.instanceMethod y).before args s = true) (hsel : (Cond.selects C y y).before args s = true)
    (hcode : (Cond.codeWith y bytes maxL ret hh).before args s = true) (hy : y.cls ≠ "java/lang/invoke/MethodHandle" ∧ y.cls ≠ "java/lang/invoke/VarHandle")
    {W9 : Nat} {Pre : Pt → Array Value → Prop} {Post : Pt → Array Value → Option Value → Pt → Prop} {PostX : Pt → Array Value → Addr → Pt → Prop} (hK : vx_Back l R p e below s args y 3 W9 Pre Post PostX)
    {b : Addr} {cellB : Cell} (hcell : T.heap[b]? = some cellB) (hobj : cellB.vm.isStatics = false) (hcls : s.vm.findClass C = some cellB.cls)
    {g : JFrame} (hg : g.method = m) (hsize : g.locals.size = c.maxLocals) {argsL rest : List Value} (hlen : ∀ sig, parseMethodDescriptor y.desc = some sig → argsL.length = sig.parameters.length)
    (hstack : g.stack = argsL.reverse ++ .ref b :: rest) (hW : 2 * g.monitorRoom + (rest.map fun v => v.category).sum ≤ W9) (hdg : decode c.code g.pc = .ok (.invokevirtual index, 3))
    (hpre : ∀ vm₁, s.WarmedH vm₁ → Pre ⟨T.setVm vm₁, locs, cells, slots⟩ (Value.ref b :: argsL).toArray) :
    (∃ (v : Option Value) (vm₁ : Vm) (B : Pt), s.WarmedH vm₁ ∧ Stand p l e R s m args below meth c B.U B.locs B.cells B.slots ∧ Post ⟨T.setVm vm₁, locs, cells, slots⟩ (Value.ref b :: argsL).toArray v B ∧
      ∀ target, Steps p.tables e below (B.U.setTop { g with pc := g.pc + 3, stack := v.toList ++ rest }) target → Steps p.tables e below (T.setTop g) target) ∨
    (∃ (q : Addr) (vm₁ : Vm) (B : Pt), s.WarmedH vm₁ ∧ Stand p l e R s m args below meth c B.U B.locs B.cells B.slots ∧ PostX ⟨T.setVm vm₁, locs, cells, slots⟩ (Value.ref b :: argsL).toArray q B ∧
      Steps p.tables e below (T.setTop g) ((B.U.setTop { g with stack := rest }).pushFrame (.throwing q))) := by
  obtain ⟨mk, methM, hnamed, hmethM, hstM, habM⟩ := Cond.instanceMethod_spec hinst
  obtain ⟨m8, methM', cM, hn8, hmethM', -, -, -, -, -, -, hsigM⟩ := Cond.codeWith_spec hcode
  cases Option.some.inj (hn8.symm.trans hnamed)
  cases hmethM.symm.trans hmethM'
  obtain ⟨c2, r2, m2, q1, q2, q3, q4, kP, hkP, hkPi⟩ := Cond.selects_spec hsel
  cases hcls.symm.trans q1
  cases (State.methodFound?_of_named hnamed hy).symm.trans q2
  cases hnamed.symm.trans q3
  have hselP : selectMethod e.platform s.vm cellB.cls mk = .method mk := by rw [Launch.admits_selectMethod X.admits]; exact q4
  obtain ⟨vm₁, X₁, hstep₁⟩ := X.invokevirtual hexec hown hlink hnamed hmethM hstM hkP hkPi hy (a := b) (cell := cellB) hcell
    (fun z h => by rw [h] at hobj; cases hobj) hselP hmethM habM hkP hkPi (g := g) hg (argsL := argsL) (rest := rest) (hlen _ hsigM) hstack hdg
  rcases hK m meth c ⟨T.setVm vm₁, locs, cells, slots⟩ { g with stack := rest } (.invokevirtual index) mk (Value.ref b :: argsL).toArray X₁ hg hsize hdg hW (X₁.named hnamed) (hpre vm₁ X₁.warmed) with ⟨v, B, X', hpost, hsteps⟩ | ⟨q, B, X', hpost, hsteps⟩
  · exact Or.inl ⟨v, vm₁, B, X₁.warmed, X', hpost, fun target h => hstep₁ _ fun acts => by rw [doInvoke_state]; exact hsteps.trans h⟩
  · exact Or.inr ⟨q, vm₁, B, X₁.warmed, X', hpost, hstep₁ _ fun acts => by rw [doInvoke_state]; exact hsteps⟩
theorem vx_callSX (X : Stand p l e R s m args below meth c T locs cells slots) (hexec : p.tables.exec = Jvm.exec) {own : String} {index : Nat} {y : MethodName} {bytes : ByteArray} {maxL : Nat} {ret : Option FieldType} {hh : List (Nat × Nat × Nat × Nat)}
    (hown : s.vm.findClass own = some m.cls) (hlink : (Cond.methodLink own index y).before args s = true) (hstat : (Cond.static y).before args s = true) (hinit : (Cond.initialized y.cls).before args s = true)
    (hcode : (Cond.codeWith y bytes maxL ret hh).before args s = true) (hy : y.cls ≠ "java/lang/invoke/MethodHandle" ∧ y.cls ≠ "java/lang/invoke/VarHandle")
    {W9 : Nat} {Pre : Pt → Array Value → Prop} {Post : Pt → Array Value → Option Value → Pt → Prop} {PostX : Pt → Array Value → Addr → Pt → Prop} (hK : vx_Back l R p e below s args y 3 W9 Pre Post PostX)
    {g : JFrame} (hg : g.method = m) (hsize : g.locals.size = c.maxLocals) {argsL rest : List Value} (hlen : ∀ sig, parseMethodDescriptor y.desc = some sig → argsL.length = sig.parameters.length)
    (hstack : g.stack = argsL.reverse ++ rest) (hW : 2 * g.monitorRoom + (rest.map fun v => v.category).sum ≤ W9) (hdg : decode c.code g.pc = .ok (.invokestatic index, 3))
    (hpre : ∀ vm₁, s.WarmedH vm₁ → Pre ⟨T.setVm vm₁, locs, cells, slots⟩ argsL.toArray) :
    (∃ (v : Option Value) (vm₁ : Vm) (B : Pt), s.WarmedH vm₁ ∧ Stand p l e R s m args below meth c B.U B.locs B.cells B.slots ∧ Post ⟨T.setVm vm₁, locs, cells, slots⟩ argsL.toArray v B ∧
      ∀ target, Steps p.tables e below (B.U.setTop { g with pc := g.pc + 3, stack := v.toList ++ rest }) target → Steps p.tables e below (T.setTop g) target) ∨
    (∃ (q : Addr) (vm₁ : Vm) (B : Pt), s.WarmedH vm₁ ∧ Stand p l e R s m args below meth c B.U B.locs B.cells B.slots ∧ PostX ⟨T.setVm vm₁, locs, cells, slots⟩ argsL.toArray q B ∧
      Steps p.tables e below (T.setTop g) ((B.U.setTop { g with stack := rest }).pushFrame (.throwing q))) := by
  obtain ⟨mk, methM, cM, hnamed, hmethM, -, -, -, -, -, -, hsigM⟩ := Cond.codeWith_spec hcode
  have hstatic : methM.isStatic = true := Cond.static_spec hnamed hmethM hstat
  obtain ⟨kP, hkP, -⟩ := className_of_methodNamed hnamed
  have hinitP : kP.init = .initialized := Cond.initialized_spec (findClass_of_methodNamed hnamed) hkP hinit
  obtain ⟨vm₁, X₁, hstep₁⟩ := X.invokestatic hexec hown hlink hnamed hmethM hstatic hkP hinitP hy (g := g) hg (argsL := argsL) (rest := rest) (hlen _ hsigM) hstack hdg
  rcases hK m meth c ⟨T.setVm vm₁, locs, cells, slots⟩ { g with stack := rest } (.invokestatic index) mk argsL.toArray X₁ hg hsize hdg hW (X₁.named hnamed) (hpre vm₁ X₁.warmed) with ⟨v, B, X', hpost, hsteps⟩ | ⟨q, B, X', hpost, hsteps⟩
  · exact Or.inl ⟨v, vm₁, B, X₁.warmed, X', hpost, fun target h => hstep₁ _ fun acts => by rw [doInvoke_state]; exact hsteps.trans h⟩
  · exact Or.inr ⟨q, vm₁, B, X₁.warmed, X', hpost, hstep₁ _ fun acts => by rw [doInvoke_state]; exact hsteps⟩
theorem vx_callVW (X : Stand p l e R s m args below meth c T locs cells slots) (hexec : p.tables.exec = Jvm.exec) {own C : String} {index : Nat} {y : MethodName} {bytes : ByteArray} {maxL : Nat} {ret : Option FieldType} {hh : List (Nat × Nat × Nat × Nat)}
    (hown : s.vm.findClass own = some m.cls) (hlink : (Cond.methodLink own index y).before args s = true) (hinst : (Cond.instanceMethod y).before args s = true) (hsel : (Cond.selects C y y).before args s = true)
    (hcode : (Cond.codeWith y bytes maxL ret hh).before args s = true) (hy : y.cls ≠ "java/lang/invoke/MethodHandle" ∧ y.cls ≠ "java/lang/invoke/VarHandle")
    {W9 : Nat} {Pre : Pt → Array Value → Prop} {Post : Pt → Array Value → Option Value → Pt → Prop} (hK : Back l R p e below s args y 3 W9 Pre Post)
    {b : Addr} {cellB : Cell} (hcell : T.heap[b]? = some cellB) (hobj : cellB.vm.isStatics = false) (hcls : s.vm.findClass C = some cellB.cls)
    {g : JFrame} (hg : g.method = m) (hsize : g.locals.size = c.maxLocals) {argsL rest : List Value} (hlen : ∀ sig, parseMethodDescriptor y.desc = some sig → argsL.length = sig.parameters.length)
    (hstack : g.stack = argsL.reverse ++ .ref b :: rest) (hW : 2 * g.monitorRoom + (rest.map fun v => v.category).sum ≤ W9) (hdg : decode c.code g.pc = .ok (.invokevirtual index, 3))
    (hpre : ∀ vm₁, s.WarmedH vm₁ → Pre ⟨T.setVm vm₁, locs, cells, slots⟩ (Value.ref b :: argsL).toArray) :
    ∃ (v : Option Value) (vm₁ : Vm) (B : Pt), s.WarmedH vm₁ ∧ Stand p l e R s m args below meth c B.U B.locs B.cells B.slots ∧ Post ⟨T.setVm vm₁, locs, cells, slots⟩ (Value.ref b :: argsL).toArray v B ∧
      ∀ target, Steps p.tables e below (B.U.setTop { g with pc := g.pc + 3, stack := v.toList ++ rest }) target → Steps p.tables e below (T.setTop g) target := by
  obtain ⟨mk, methM, hnamed, hmethM, hstM, habM⟩ := Cond.instanceMethod_spec hinst
  obtain ⟨m8, methM', cM, hn8, hmethM', -, -, -, -, -, -, hsigM⟩ := Cond.codeWith_spec hcode
  cases Option.some.inj (hn8.symm.trans hnamed)
  cases hmethM.symm.trans hmethM'
  obtain ⟨c2, r2, m2, q1, q2, q3, q4, kP, hkP, hkPi⟩ := Cond.selects_spec hsel
  cases hcls.symm.trans q1
  cases (State.methodFound?_of_named hnamed hy).symm.trans q2
  cases hnamed.symm.trans q3
  have hselP : selectMethod e.platform s.vm cellB.cls mk = .method mk := by rw [Launch.admits_selectMethod X.admits]; exact q4
  obtain ⟨vm₁, X₁, hstep₁⟩ := X.invokevirtual hexec hown hlink hnamed hmethM hstM hkP hkPi hy (a := b) (cell := cellB) hcell
    (fun z h => by rw [h] at hobj; cases hobj) hselP hmethM habM hkP hkPi (g := g) hg (argsL := argsL) (rest := rest) (hlen _ hsigM) hstack hdg
  obtain ⟨v, B, X', hpost, hsteps⟩ := hK m meth c ⟨T.setVm vm₁, locs, cells, slots⟩ { g with stack := rest } (.invokevirtual index) mk (Value.ref b :: argsL).toArray X₁ hg hsize hdg hW (X₁.named hnamed) (hpre vm₁ X₁.warmed)
  exact ⟨v, vm₁, B, X₁.warmed, X', hpost, fun target h => hstep₁ _ fun acts => by rw [doInvoke_state]; exact hsteps.trans h⟩
abbrev vx_CVW (R : Room) (s : State) (args : Array Value) (own C : String) (index : Nat) (y : MethodName) (bytes : ByteArray) (maxL : Nat) (ret : Option FieldType) (hh : List (Nat × Nat × Nat × Nat)) (ws : List Cond) (rm : Room) (mc ms n : Nat) : Prop :=
  (rm.cells = mc ∧ rm.slots = ms ∧ rm.frames + 1 ≤ R.frames ∧ 8 + (maxL + 11) + rm.locals ≤ R.locals ∧ (∀ w ∈ ws, ∀ (a' : Array Value) (U : State), s.WarmedH U.vm → w.before a' U = true) ∧ Cond.codeWith y bytes maxL ret hh ∈ ws) ∧
  (Cond.codeWith y bytes maxL ret hh).before args s = true ∧ (Cond.initialized y.cls).before args s = true ∧ (y.cls ≠ "java/lang/invoke/MethodHandle" ∧ y.cls ≠ "java/lang/invoke/VarHandle") ∧
  (∀ sig, parseMethodDescriptor y.desc = some sig → n = sig.parameters.length) ∧ (Cond.methodLink own index y).before args s = true ∧ (Cond.instanceMethod y).before args s = true ∧ (Cond.selects C y y).before args s = true
theorem vx_cwVW {own C : String} {index maxL mc ms : Nat} {y : MethodName} {bytes : ByteArray} {ret : Option FieldType} {hh : List (Nat × Nat × Nat × Nat)} {Ts ws ws' : List Cond} {rm : Room} (n : Nat) (ht : ∀ w ∈ Ts, w.before args s = true) (hT : GoodIn Ts (wsV own index C y ws)) (hw : ws = Cond.codeWith y bytes maxL ret hh :: ws') (hrc : rm.cells = mc) (hrs : rm.slots = ms)
    (hd : y.cls = C ∧ y.cls ≠ "java/lang/invoke/MethodHandle" ∧ y.cls ≠ "java/lang/invoke/VarHandle" ∧ (parseMethodDescriptor y.desc).map (fun d => d.parameters.length) = some n) (hR : rm.frames + 1 ≤ R.frames ∧ 8 + (maxL + 11) + rm.locals ≤ R.locals) :
    vx_CVW R s args own C index y bytes maxL ret hh ws rm mc ms n := by
  obtain ⟨hC, hd⟩ := hd
  subst hC
  have ok : ∀ w ∈ wsV own index y.cls y ws, w.before args s = true := fun w h => ht w (hT w h).1
  have hG : GoodIn Ts ws := fun w h => hT w (by unfold wsV; exact List.mem_append_right _ h)
  have hc : Cond.codeWith y bytes maxL ret hh ∈ ws := by rw [hw]; exact List.mem_cons_self
  refine ⟨⟨hrc, hrs, hR.1, hR.2, pay_in ht hG, hc⟩, ht _ (hG _ hc).1, ok _ (by simp [wsV]), ⟨hd.1, hd.2.1⟩, fun sig h => ?_, ok _ (by simp [wsV]), ok _ (by simp [wsV]), ok _ (by simp [wsV])⟩
  have h2 := hd.2.2
  rw [h] at h2
  exact (Option.some.inj h2).symm
theorem vx_runVW {y : MethodName} {bytes cc : ByteArray} {maxL nL mc ms n index : Nat} {ret : Option FieldType} {hh : List (Nat × Nat × Nat × Nat)} {ws : List Cond} {rm : Room} {Pc : Array Value → State → Prop} {Qc : Array Value → State → Outcome → State → Prop} {free : Addr → Prop} {Ts : List Cond} {own C : String} {b : Addr} {As rest : List Value} {g : JFrame}
    (S : CallFix p m c cc nL s args Ts own) (hM : Met l y ws rm Pc Qc mc ms free) (cw : vx_CVW R s args own C index y bytes maxL ret hh ws rm mc ms n) (hp : PreV s H C b Pc As)
    (hg : g.method = m) (hn : As.length = n) (hsize : g.locals.size = nL) (hstack : g.stack = As.reverse ++ .ref b :: rest) (hW : 2 * g.monitorRoom + (rest.map fun v => v.category).sum ≤ 8) (hdg : decode cc g.pc = .ok (.invokevirtual index, 3)) (hf : cells + mc ≤ R.cells ∧ slots + ms ≤ R.slots) :
    va_Run p l e R s m args below meth c H locs cells slots mc ms g rest (Qc (Value.ref b :: As).toArray) free := by
  obtain ⟨⟨hrc, hrs, hfr, hlo, hws, hcw⟩, hcode, hini, hy, hlen, hl, hin, hse⟩ := cw
  have hK : Back l R p e below s args y 3 8 (PreOf R mc ms Pc) (PostOf Qc mc ms free) := va_backW (hh := hh) (bytes := bytes) (maxL := maxL) (ret := ret) hM hp.1 hrc hrs hfr hlo hws hcw (fun a' U hW => word_at hW (Or.inl (by first | rfl | simp [Cond.onTables, Cond.keeps, Cond.steady])) hini)
  obtain ⟨hx, hb, hml, ho, -⟩ := S
  obtain ⟨-, ⟨cellB, hcB, hoB, hclB⟩, hPc⟩ := hp
  intro T hT X
  obtain ⟨v, vm₁, ⟨U', l2, c2, s2⟩, hW₁, X', ⟨g', mk, t, L, e1, e2, hq, h1, hL, h2, h3⟩, st⟩ := vx_callVW X hx (C := C) (hh := hh) (bytes := bytes) (maxL := maxL) (ret := ret) ho hl hin hse hcode hy hK (by rw [hT]; exact hcB) hoB hclB hg (hsize.trans hml.symm) (argsL := As) (rest := rest) (fun sig h => hn.trans (hlen sig h)) hstack hW (by rw [hb]; exact hdg)
    (fun vm₁ hW₁ => ⟨hf.1, hf.2, hPc (T.setVm vm₁) hT hW₁⟩)
  dsimp only [Pt.U, Pt.locs, Pt.cells, Pt.slots] at X' e1 e2 h1 h2 h3 st
  subst h1; subst h2; subst h3
  exact ⟨v, (T.setVm vm₁).calling g' mk (Value.ref b :: As).toArray, t, U', L, hT, X', hL, e1, e2, hq, st⟩
section
variable {y : MethodName} {bytes cc : ByteArray} {maxL nL mc ms n index : Nat} {ret : Option FieldType} {ws : List Cond} {rm : Room} {Pc : Array Value → State → Prop} {Qc : Array Value → State → Outcome → State → Prop} {XC : String → State → State → Prop} {free : Addr → Prop} {Ts : List Cond} {own C : String} {b : Addr} {As rest : List Value} {g : JFrame}
theorem vx_runVX {hh : List (Nat × Nat × Nat × Nat)} (S : CallFix p m c cc nL s args Ts own) (hM : vx_Met l y ws rm Pc Qc XC mc ms free) (cw : vx_CVW R s args own C index y bytes maxL ret hh ws rm mc ms n) (hp : PreV s H C b Pc As)
    (hg : g.method = m) (hn : As.length = n) (hsize : g.locals.size = nL) (hstack : g.stack = As.reverse ++ .ref b :: rest) (hW : 2 * g.monitorRoom + (rest.map fun v => v.category).sum ≤ 8) (hdg : decode cc g.pc = .ok (.invokevirtual index, 3)) (hf : cells + mc ≤ R.cells ∧ slots + ms ≤ R.slots) :
    vx_Run p l e R s m args below meth c H locs cells slots mc ms g rest (Qc (Value.ref b :: As).toArray) XC free := by
  obtain ⟨⟨hrc, hrs, hfr, hlo, hws, hcw⟩, hcode, hini, hy, hlen, hl, hin, hse⟩ := cw
  have hK : vx_Back l R p e below s args y 3 8 (PreOf R mc ms Pc) (PostOf Qc mc ms free) (vx_Post XC mc ms free) := vx_backW (hh := hh) (bytes := bytes) (maxL := maxL) (ret := ret) hM hp.1 hrc hrs hfr hlo hws hcw (fun a' U hW => word_at hW (Or.inl (by first | rfl | simp [Cond.onTables, Cond.keeps, Cond.steady])) hini)
  obtain ⟨hx, hb, hml, ho, -⟩ := S
  obtain ⟨-, ⟨cellB, hcB, hoB, hclB⟩, hPc⟩ := hp
  intro T hT X
  rcases vx_callVX X hx (C := C) (hh := hh) (bytes := bytes) (maxL := maxL) (ret := ret) ho hl hin hse hcode hy hK (by rw [hT]; exact hcB) hoB hclB hg (hsize.trans hml.symm) (argsL := As) (rest := rest) (fun sig h => hn.trans (hlen sig h)) hstack hW (by rw [hb]; exact hdg)
    (fun vm₁ hW₁ => ⟨hf.1, hf.2, hPc (T.setVm vm₁) hT hW₁⟩) with ⟨v, vm₁, ⟨U', l2, c2, s2⟩, hW₁, X', ⟨g', mk, t, L, e1, e2, hq, h1, hL, h2, h3⟩, st⟩ | ⟨q, vm₁, ⟨U', l2, c2, s2⟩, hW₁, X', ⟨g', mk, t, L, E, ce, e1, e2, hq, hce, hcv, hcl, h1, hL, h2, h3⟩, st⟩
  · dsimp only [Pt.U, Pt.locs, Pt.cells, Pt.slots] at X' e1 e2 h1 h2 h3 st
    subst h1; subst h2; subst h3
    exact Or.inl ⟨v, (T.setVm vm₁).calling g' mk (Value.ref b :: As).toArray, t, U', L, hT, X', hL, e1, e2, hq, st⟩
  · dsimp only [Pt.U, Pt.locs, Pt.cells, Pt.slots] at X' e1 e2 h1 h2 h3 st hcl
    subst h1; subst h2; subst h3
    exact Or.inr ⟨q, (T.setVm vm₁).calling g' mk (Value.ref b :: As).toArray, t, U', L, E, ce, hT, X', hL, e1, e2, hq, hce, hcv, vx_cls hW₁ hcl, st⟩
theorem vx_runSX {hh : List (Nat × Nat × Nat × Nat)} (S : CallFix p m c cc nL s args Ts own) (hM : vx_Met l y ws rm Pc Qc XC mc ms free) (cw : vx_CSW R s args own index y bytes maxL ret hh ws rm mc ms n) (hp : PreS s H Pc As)
    (hg : g.method = m) (hn : As.length = n) (hsize : g.locals.size = nL) (hstack : g.stack = As.reverse ++ rest) (hW : 2 * g.monitorRoom + (rest.map fun v => v.category).sum ≤ 8) (hdg : decode cc g.pc = .ok (.invokestatic index, 3)) (hf : cells + mc ≤ R.cells ∧ slots + ms ≤ R.slots) :
    vx_Run p l e R s m args below meth c H locs cells slots mc ms g rest (Qc As.toArray) XC free := by
  obtain ⟨⟨hrc, hrs, hfr, hlo, hws, hcw⟩, hcode, hini, hy, hlen, hl, hstt⟩ := cw
  have hK : vx_Back l R p e below s args y 3 8 (PreOf R mc ms Pc) (PostOf Qc mc ms free) (vx_Post XC mc ms free) := vx_backW (hh := hh) (bytes := bytes) (maxL := maxL) (ret := ret) hM hp.1 hrc hrs hfr hlo hws hcw (fun a' U hW => word_at hW (Or.inl (by first | rfl | simp [Cond.onTables, Cond.keeps, Cond.steady])) hini)
  obtain ⟨hx, hb, hml, ho, -⟩ := S
  intro T hT X
  rcases vx_callSX X hx (hh := hh) (bytes := bytes) (maxL := maxL) (ret := ret) ho hl hstt hini hcode hy hK hg (hsize.trans hml.symm) (argsL := As) (rest := rest) (fun sig h => hn.trans (hlen sig h)) hstack hW (by rw [hb]; exact hdg)
    (fun vm₁ hW₁ => ⟨hf.1, hf.2, hp.2 (T.setVm vm₁) hT hW₁⟩) with ⟨v, vm₁, ⟨U', l2, c2, s2⟩, hW₁, X', ⟨g', mk, t, L, e1, e2, hq, h1, hL, h2, h3⟩, st⟩ | ⟨q, vm₁, ⟨U', l2, c2, s2⟩, hW₁, X', ⟨g', mk, t, L, E, ce, e1, e2, hq, hce, hcv, hcl, h1, hL, h2, h3⟩, st⟩
  · dsimp only [Pt.U, Pt.locs, Pt.cells, Pt.slots] at X' e1 e2 h1 h2 h3 st
    subst h1; subst h2; subst h3
    exact Or.inl ⟨v, (T.setVm vm₁).calling g' mk As.toArray, t, U', L, hT, X', hL, e1, e2, hq, st⟩
  · dsimp only [Pt.U, Pt.locs, Pt.cells, Pt.slots] at X' e1 e2 h1 h2 h3 st hcl
    subst h1; subst h2; subst h3
    exact Or.inr ⟨q, (T.setVm vm₁).calling g' mk As.toArray, t, U', L, E, ce, hT, X', hL, e1, e2, hq, hce, hcv, vx_cls hW₁ hcl, st⟩
end
end VXH
theorem vx_ofWH {l : Launch} {y : MethodName} {ws ws' : List Cond} {rm : Room} {Pc : Array Value → State → Prop} {Qc : Array Value → State → Outcome → State → Prop} {XC : String → State → State → Prop} {mc ms : Nat} {free : Addr → Prop} {cc : ByteArray} {maxL : Nat} {ret : Option FieldType} {hh : List (Nat × Nat × Nat × Nat)}
    (hy : plainName y.cls = true) (hw : ws = Cond.codeWith y cc maxL ret hh :: ws')
    (body : ∀ p e s m args below meth c s₁, BodyLoose p l y (headSpec ws rm) cc maxL ret e s m args below meth c s₁ → c.maxLocals = maxL → Pc args s →
      W p l e (headSpec ws rm).room s m args below meth c s.heap [] 0 0 (vx_MQ below Qc XC args s mc ms free) (entryFrame m args maxL)) : vx_Met l y ws rm Pc Qc XC mc ms free := by
  refine MetFree.of_bodyS (code := cc) (maxLocals := maxL) (ret := ret) hy ?_ ?_
  · intro args s m h hn
    obtain ⟨m9, meth, c, hn9, h1, h2, h3, h4, -, h5, h6, -⟩ := Cond.codeWith_spec (atoms_spec (ws := ws) h _ (by rw [hw]; exact List.mem_cons_self))
    cases hn.symm.trans hn9
    exact ⟨meth, c, h1, h2, h3, h4, h5, h6⟩
  · intro p e s m args below meth c s₁ B hml hP _
    have hh0 : s₁.heap = s.heap := by rw [B.state]; rfl
    obtain ⟨t, a1, o, b1, b2, b3⟩ := body p e s m args below meth c s₁ B hml hP s₁ hh0 (Stand.of_body B)
    exact ⟨t, o, a1, b1, b2, b3⟩
/-! ===== END ===== -/
end
section
/-! ===== BEGIN printed: names, fields, word lists, decode rows ===== -/
def RX0 : String := "Wallplan$Element"
def TX0 : u_T := fun k => match k with
  | 0 => ("Wallplan$Element", "kind", "I", true)
  | 1 => ("Wallplan$Element", "storey", "I", true)
  | 2 => ("Wallplan$Element", "fromX", "I", false)
  | 3 => ("Wallplan$Element", "fromY", "I", false)
  | 4 => ("Wallplan$Element", "toX", "I", false)
  | 5 => ("Wallplan$Element", "toY", "I", false)
  | 6 => ("Wallplan$Element", "state", "I", false)
  | 7 => ("Wallplan$Element", "changeRevision", "I", false)
  | 8 => ("Wallplan$Element", "changeTrade", "I", false)
  | _ => ("Wallplan$Element", "deliveryDay", "I", false)
def tyX0 : Nat → FieldType := fun k => match k with
  | 0 => .int
  | 1 => .int
  | 2 => .int
  | 3 => .int
  | 4 => .int
  | 5 => .int
  | 6 => .int
  | 7 => .int
  | 8 => .int
  | _ => .int
abbrev wsX00 : List Cond := u_ws RX0 TX0 10
theorem nmX0 : ∀ a, a < 10 → ∀ b, b < 10 → a ≠ b → (TX0 a).2.1 ≠ (TX0 b).2.1 := by decide +kernel
theorem tyX0_ok : ∀ k, k < 10 → parseFieldDescriptor (TX0 k).2.2.1 = some (tyX0 k) := by decide +kernel
abbrev cX0_init : ByteArray := prog_2_method_1_code
def yX0_init : MethodName := ⟨RX0, "<init>", "(IIIIIII)V"⟩
abbrev cX0_isThere : ByteArray := prog_2_method_2_code
def yX0_isThere : MethodName := ⟨RX0, "isThere", "()Z"⟩
abbrev cX0_cells : ByteArray := prog_2_method_3_code
def yX0_cells : MethodName := ⟨RX0, "cells", "()I"⟩
abbrev cX0_covers : ByteArray := prog_2_method_4_code
def yX0_covers : MethodName := ⟨RX0, "covers", "(II)Z"⟩
abbrev cX0_staysInside : ByteArray := prog_2_method_5_code
def yX0_staysInside : MethodName := ⟨RX0, "staysInside", "(II)Z"⟩
abbrev cX0_shift : ByteArray := prog_2_method_6_code
def yX0_shift : MethodName := ⟨RX0, "shift", "(II)V"⟩
abbrev cX0_deliverIfDue : ByteArray := prog_2_method_7_code
def yX0_deliverIfDue : MethodName := ⟨RX0, "deliverIfDue", "(I)V"⟩
abbrev cX0_distanceTo : ByteArray := prog_2_method_8_code
def yX0_distanceTo : MethodName := ⟨RX0, "distanceTo", "(LWallplan$Element;)I"⟩
abbrev cX0_gap : ByteArray := prog_2_method_9_code
def yX0_gap : MethodName := ⟨RX0, "gap", "(IIII)I"⟩
abbrev cX0_partsCellByCell : ByteArray := prog_2_method_10_code
def yX0_partsCellByCell : MethodName := ⟨RX0, "partsCellByCell", "(I)I"⟩
def RX1 : String := "Wallplan"
def TX1 : u_T := fun k => match k with
  | 0 => ("Wallplan", "elements", "[LWallplan$Element;", true)
  | 1 => ("Wallplan", "count", "I", false)
  | 2 => ("Wallplan", "clearances", "[I", true)
  | 3 => ("Wallplan", "partCells", "[I", true)
  | 4 => ("Wallplan", "leadDays", "[I", true)
  | 5 => ("Wallplan", "locked", "[Z", true)
  | 6 => ("Wallplan", "latestRevision", "I", false)
  | _ => ("Wallplan", "today", "I", false)
def tyX1 : Nat → FieldType := fun k => match k with
  | 0 => .array (.object "Wallplan$Element")
  | 1 => .int
  | 2 => .array .int
  | 3 => .array .int
  | 4 => .array .int
  | 5 => .array .boolean
  | 6 => .int
  | _ => .int
abbrev wsX10 : List Cond := u_ws RX1 TX1 8
theorem nmX1 : ∀ a, a < 8 → ∀ b, b < 8 → a ≠ b → (TX1 a).2.1 ≠ (TX1 b).2.1 := by decide +kernel
theorem tyX1_ok : ∀ k, k < 8 → parseFieldDescriptor (TX1 k).2.2.1 = some (tyX1 k) := by decide +kernel
abbrev cX1_init : ByteArray := prog_1_method_1_code
def yX1_init : MethodName := ⟨RX1, "<init>", "()V"⟩
abbrev cX1_add : ByteArray := prog_1_method_2_code
def yX1_add : MethodName := ⟨RX1, "add", "(IIIIII)I"⟩
abbrev cX1_move : ByteArray := prog_1_method_3_code
def yX1_move : MethodName := ⟨RX1, "move", "(IIIII)Z"⟩
abbrev cX1_remove : ByteArray := prog_1_method_4_code
def yX1_remove : MethodName := ⟨RX1, "remove", "(III)Z"⟩
abbrev cX1_clear : ByteArray := prog_1_method_5_code
def yX1_clear : MethodName := ⟨RX1, "clear", "(III)I"⟩
abbrev cX1_part : ByteArray := prog_1_method_6_code
def yX1_part : MethodName := ⟨RX1, "part", "(II)I"⟩
abbrev cX1_lead : ByteArray := prog_1_method_7_code
def yX1_lead : MethodName := ⟨RX1, "lead", "(II)I"⟩
abbrev cX1_order : ByteArray := prog_1_method_8_code
def yX1_order : MethodName := ⟨RX1, "order", "(I)I"⟩
abbrev cX1_cancel : ByteArray := prog_1_method_9_code
def yX1_cancel : MethodName := ⟨RX1, "cancel", "(I)I"⟩
abbrev cX1_build : ByteArray := prog_1_method_10_code
def yX1_build : MethodName := ⟨RX1, "build", "(I)Z"⟩
abbrev cX1_inspect : ByteArray := prog_1_method_11_code
def yX1_inspect : MethodName := ⟨RX1, "inspect", "(I)Z"⟩
abbrev cX1_pass : ByteArray := prog_1_method_12_code
def yX1_pass : MethodName := ⟨RX1, "pass", "(I)I"⟩
abbrev cX1_day : ByteArray := prog_1_method_13_code
def yX1_day : MethodName := ⟨RX1, "day", "()I"⟩
abbrev cX1_revision : ByteArray := prog_1_method_14_code
def yX1_revision : MethodName := ⟨RX1, "revision", "()I"⟩
abbrev cX1_elementOf : ByteArray := prog_1_method_15_code
def yX1_elementOf : MethodName := ⟨RX1, "elementOf", "(II)I"⟩
abbrev cX1_clash : ByteArray := prog_1_method_16_code
def yX1_clash : MethodName := ⟨RX1, "clash", "(II)Z"⟩
abbrev cX1_clashes : ByteArray := prog_1_method_17_code
def yX1_clashes : MethodName := ⟨RX1, "clashes", "(I)I"⟩
abbrev cX1_isStopped : ByteArray := prog_1_method_18_code
def yX1_isStopped : MethodName := ⟨RX1, "isStopped", "(II)Z"⟩
abbrev cX1_parts : ByteArray := prog_1_method_19_code
def yX1_parts : MethodName := ⟨RX1, "parts", "(I)I"⟩
abbrev cX1_partsAnew : ByteArray := prog_1_method_20_code
def yX1_partsAnew : MethodName := ⟨RX1, "partsAnew", "(I)I"⟩
abbrev cX1_ordered : ByteArray := prog_1_method_21_code
def yX1_ordered : MethodName := ⟨RX1, "ordered", "(I)I"⟩
abbrev cX1_kindsAt : ByteArray := prog_1_method_22_code
def yX1_kindsAt : MethodName := ⟨RX1, "kindsAt", "(III)I"⟩
abbrev cX1_isLocked : ByteArray := prog_1_method_23_code
def yX1_isLocked : MethodName := ⟨RX1, "isLocked", "(I)Z"⟩
abbrev cX1_isWithin : ByteArray := prog_1_method_24_code
def yX1_isWithin : MethodName := ⟨RX1, "isWithin", "(III)Z"⟩
abbrev cX1_isKind : ByteArray := prog_1_method_25_code
def yX1_isKind : MethodName := ⟨RX1, "isKind", "(I)Z"⟩
abbrev cX1_isStorey : ByteArray := prog_1_method_26_code
def yX1_isStorey : MethodName := ⟨RX1, "isStorey", "(I)Z"⟩
abbrev cX1_isCell : ByteArray := prog_1_method_27_code
def yX1_isCell : MethodName := ⟨RX1, "isCell", "(II)Z"⟩
abbrev cX1_isStep : ByteArray := prog_1_method_28_code
def yX1_isStep : MethodName := ⟨RX1, "isStep", "(I)Z"⟩
abbrev cX1_isBase : ByteArray := prog_1_method_29_code
def yX1_isBase : MethodName := ⟨RX1, "isBase", "(I)Z"⟩
abbrev cX1_find : ByteArray := prog_1_method_30_code
def yX1_find : MethodName := ⟨RX1, "find", "(I)LWallplan$Element;"⟩
abbrev cX1_isOnStorey : ByteArray := prog_1_method_31_code
def yX1_isOnStorey : MethodName := ⟨RX1, "isOnStorey", "(II)Z"⟩
abbrev cX1_losesAgainstLastChange : ByteArray := prog_1_method_32_code
def yX1_losesAgainstLastChange : MethodName := ⟨RX1, "losesAgainstLastChange", "(LWallplan$Element;II)Z"⟩
abbrev cX1_noteChange : ByteArray := prog_1_method_33_code
def yX1_noteChange : MethodName := ⟨RX1, "noteChange", "(LWallplan$Element;I)V"⟩
abbrev cX1_isClashingPair : ByteArray := prog_1_method_34_code
def yX1_isClashingPair : MethodName := ⟨RX1, "isClashingPair", "(II)Z"⟩
abbrev cX1_clearanceOf : ByteArray := prog_1_method_35_code
def yX1_clearanceOf : MethodName := ⟨RX1, "clearanceOf", "(II)I"⟩
abbrev cX1_clashesWithAny : ByteArray := prog_1_method_36_code
def yX1_clashesWithAny : MethodName := ⟨RX1, "clashesWithAny", "(I)Z"⟩
abbrev cX1_clashesWithEarlier : ByteArray := prog_1_method_37_code
def yX1_clashesWithEarlier : MethodName := ⟨RX1, "clashesWithEarlier", "(I)I"⟩
abbrev cX1_isFinished : ByteArray := prog_1_method_38_code
def yX1_isFinished : MethodName := ⟨RX1, "isFinished", "(I)Z"⟩
abbrev cX1_leadDaysOf : ByteArray := prog_1_method_39_code
def yX1_leadDaysOf : MethodName := ⟨RX1, "leadDaysOf", "(I)I"⟩
abbrev cX1_partsOf : ByteArray := prog_1_method_40_code
def yX1_partsOf : MethodName := ⟨RX1, "partsOf", "(LWallplan$Element;)I"⟩
abbrev cX1_partsInStates : ByteArray := prog_1_method_41_code
def yX1_partsInStates : MethodName := ⟨RX1, "partsInStates", "(III)I"⟩
def RX2 : String := "WallplanModel"
def TX2 : u_T := fun k => match k with
  | 0 => ("WallplanModel", "thrown", "I", false)
  | 1 => ("WallplanModel", "day", "I", false)
  | 2 => ("WallplanModel", "revision", "I", false)
  | 3 => ("WallplanModel", "elements", "I", false)
  | 4 => ("WallplanModel", "kind", "[I", true)
  | 5 => ("WallplanModel", "storey", "[I", true)
  | 6 => ("WallplanModel", "fromX", "[I", true)
  | 7 => ("WallplanModel", "fromY", "[I", true)
  | 8 => ("WallplanModel", "toX", "[I", true)
  | 9 => ("WallplanModel", "toY", "[I", true)
  | 10 => ("WallplanModel", "state", "[I", true)
  | 11 => ("WallplanModel", "changed", "[I", true)
  | 12 => ("WallplanModel", "by", "[I", true)
  | 13 => ("WallplanModel", "due", "[I", true)
  | 14 => ("WallplanModel", "clearance", "[I", true)
  | 15 => ("WallplanModel", "cells", "[I", true)
  | 16 => ("WallplanModel", "leads", "[I", true)
  | _ => ("WallplanModel", "locks", "[Z", true)
def tyX2 : Nat → FieldType := fun k => match k with
  | 0 => .int
  | 1 => .int
  | 2 => .int
  | 3 => .int
  | 4 => .array .int
  | 5 => .array .int
  | 6 => .array .int
  | 7 => .array .int
  | 8 => .array .int
  | 9 => .array .int
  | 10 => .array .int
  | 11 => .array .int
  | 12 => .array .int
  | 13 => .array .int
  | 14 => .array .int
  | 15 => .array .int
  | 16 => .array .int
  | _ => .array .boolean
abbrev wsX20 : List Cond := u_ws RX2 TX2 18
theorem nmX2 : ∀ a, a < 18 → ∀ b, b < 18 → a ≠ b → (TX2 a).2.1 ≠ (TX2 b).2.1 := by decide +kernel
theorem tyX2_ok : ∀ k, k < 18 → parseFieldDescriptor (TX2 k).2.2.1 = some (tyX2 k) := by decide +kernel
abbrev cX2_init : ByteArray := prog_4_method_1_code
def yX2_init : MethodName := ⟨RX2, "<init>", "()V"⟩
abbrev cX2_thrown : ByteArray := prog_4_method_2_code
def yX2_thrown : MethodName := ⟨RX2, "thrown", "()I"⟩
abbrev cX2_in : ByteArray := prog_4_method_3_code
def yX2_in : MethodName := ⟨RX2, "in", "(III)Z"⟩
abbrev cX2_refused : ByteArray := prog_4_method_4_code
def yX2_refused : MethodName := ⟨RX2, "refused", "(I)Z"⟩
abbrev cX2_isTrade : ByteArray := prog_4_method_5_code
def yX2_isTrade : MethodName := ⟨RX2, "isTrade", "(I)Z"⟩
abbrev cX2_isStorey : ByteArray := prog_4_method_6_code
def yX2_isStorey : MethodName := ⟨RX2, "isStorey", "(I)Z"⟩
abbrev cX2_isElement : ByteArray := prog_4_method_7_code
def yX2_isElement : MethodName := ⟨RX2, "isElement", "(I)Z"⟩
abbrev cX2_isSide : ByteArray := prog_4_method_8_code
def yX2_isSide : MethodName := ⟨RX2, "isSide", "(I)Z"⟩
abbrev cX2_size : ByteArray := prog_4_method_9_code
def yX2_size : MethodName := ⟨RX2, "size", "(I)I"⟩
abbrev cX2_change : ByteArray := prog_4_method_10_code
def yX2_change : MethodName := ⟨RX2, "change", "(II)V"⟩
abbrev cX2_add : ByteArray := prog_4_method_11_code
def yX2_add : MethodName := ⟨RX2, "add", "(IIIIII)I"⟩
abbrev cX2_isTaken : ByteArray := prog_4_method_12_code
def yX2_isTaken : MethodName := ⟨RX2, "isTaken", "(III)Z"⟩
abbrev cX2_move : ByteArray := prog_4_method_13_code
def yX2_move : MethodName := ⟨RX2, "move", "(IIIII)Z"⟩
abbrev cX2_remove : ByteArray := prog_4_method_14_code
def yX2_remove : MethodName := ⟨RX2, "remove", "(III)Z"⟩
abbrev cX2_clear : ByteArray := prog_4_method_15_code
def yX2_clear : MethodName := ⟨RX2, "clear", "(III)I"⟩
abbrev cX2_part : ByteArray := prog_4_method_16_code
def yX2_part : MethodName := ⟨RX2, "part", "(II)I"⟩
abbrev cX2_lead : ByteArray := prog_4_method_17_code
def yX2_lead : MethodName := ⟨RX2, "lead", "(II)I"⟩
abbrev cX2_cellsOf : ByteArray := prog_4_method_18_code
def yX2_cellsOf : MethodName := ⟨RX2, "cellsOf", "(I)I"⟩
abbrev cX2_partsOf : ByteArray := prog_4_method_19_code
def yX2_partsOf : MethodName := ⟨RX2, "partsOf", "(I)I"⟩
abbrev cX2_order : ByteArray := prog_4_method_20_code
def yX2_order : MethodName := ⟨RX2, "order", "(I)I"⟩
abbrev cX2_cancel : ByteArray := prog_4_method_21_code
def yX2_cancel : MethodName := ⟨RX2, "cancel", "(I)I"⟩
abbrev cX2_gap : ByteArray := prog_4_method_22_code
def yX2_gap : MethodName := ⟨RX2, "gap", "(IIII)I"⟩
abbrev cX2_doClash : ByteArray := prog_4_method_23_code
def yX2_doClash : MethodName := ⟨RX2, "doClash", "(II)Z"⟩
abbrev cX2_hasClash : ByteArray := prog_4_method_24_code
def yX2_hasClash : MethodName := ⟨RX2, "hasClash", "(I)Z"⟩
abbrev cX2_build : ByteArray := prog_4_method_25_code
def yX2_build : MethodName := ⟨RX2, "build", "(I)Z"⟩
abbrev cX2_inspect : ByteArray := prog_4_method_26_code
def yX2_inspect : MethodName := ⟨RX2, "inspect", "(I)Z"⟩
abbrev cX2_pass : ByteArray := prog_4_method_27_code
def yX2_pass : MethodName := ⟨RX2, "pass", "(I)I"⟩
abbrev cX2_day : ByteArray := prog_4_method_28_code
def yX2_day : MethodName := ⟨RX2, "day", "()I"⟩
abbrev cX2_revision : ByteArray := prog_4_method_29_code
def yX2_revision : MethodName := ⟨RX2, "revision", "()I"⟩
abbrev cX2_elementOf : ByteArray := prog_4_method_30_code
def yX2_elementOf : MethodName := ⟨RX2, "elementOf", "(II)I"⟩
abbrev cX2_clash : ByteArray := prog_4_method_31_code
def yX2_clash : MethodName := ⟨RX2, "clash", "(II)Z"⟩
abbrev cX2_clashes : ByteArray := prog_4_method_32_code
def yX2_clashes : MethodName := ⟨RX2, "clashes", "(I)I"⟩
abbrev cX2_isStopped : ByteArray := prog_4_method_33_code
def yX2_isStopped : MethodName := ⟨RX2, "isStopped", "(II)Z"⟩
abbrev cX2_partsFrom : ByteArray := prog_4_method_34_code
def yX2_partsFrom : MethodName := ⟨RX2, "partsFrom", "(II)I"⟩
abbrev cX2_parts : ByteArray := prog_4_method_35_code
def yX2_parts : MethodName := ⟨RX2, "parts", "(I)I"⟩
abbrev cX2_partsAnew : ByteArray := prog_4_method_36_code
def yX2_partsAnew : MethodName := ⟨RX2, "partsAnew", "(I)I"⟩
abbrev cX2_ordered : ByteArray := prog_4_method_37_code
def yX2_ordered : MethodName := ⟨RX2, "ordered", "(I)I"⟩
abbrev cX2_kindsAt : ByteArray := prog_4_method_38_code
def yX2_kindsAt : MethodName := ⟨RX2, "kindsAt", "(III)I"⟩
abbrev cX2_isLocked : ByteArray := prog_4_method_39_code
def yX2_isLocked : MethodName := ⟨RX2, "isLocked", "(I)Z"⟩
def RJ9 : String := "java/lang/Math"
def TJ9 : u_T := fun k => match k with
  | _ => ("", "", "", false)
def tyJ9 : Nat → FieldType := fun k => match k with
  | _ => .int
abbrev wsJ90 : List Cond := u_ws RJ9 TJ9 0
theorem nmJ9 : ∀ a, a < 0 → ∀ b, b < 0 → a ≠ b → (TJ9 a).2.1 ≠ (TJ9 b).2.1 := by decide +kernel
theorem tyJ9_ok : ∀ k, k < 0 → parseFieldDescriptor (TJ9 k).2.2.1 = some (tyJ9 k) := by decide +kernel
abbrev cJ9_abs_0f7a4 : ByteArray := prog_9_method_59_code
def yJ9_abs_0f7a4 : MethodName := ⟨RJ9, "abs", "(I)I"⟩
abbrev cJ9_max_7cf53 : ByteArray := prog_9_method_65_code
def yJ9_max_7cf53 : MethodName := ⟨RJ9, "max", "(II)I"⟩
abbrev cJ9_min_7cf53 : ByteArray := prog_9_method_69_code
def yJ9_min_7cf53 : MethodName := ⟨RJ9, "min", "(II)I"⟩
def RJ0 : String := "java/lang/String"
def TJ0 : u_T := fun k => match k with
  | _ => ("", "", "", false)
def tyJ0 : Nat → FieldType := fun k => match k with
  | _ => .int
abbrev wsJ00 : List Cond := u_ws RJ0 TJ0 0
theorem nmJ0 : ∀ a, a < 0 → ∀ b, b < 0 → a ≠ b → (TJ0 a).2.1 ≠ (TJ0 b).2.1 := by decide +kernel
theorem tyJ0_ok : ∀ k, k < 0 → parseFieldDescriptor (TJ0 k).2.2.1 = some (tyJ0 k) := by decide +kernel
def RL : String := "WallplanLaw"
abbrev cL_add : ByteArray := method_3_code
def yL_add : MethodName := ⟨RL, "add", "(LWallplan;IIIIII[J)I"⟩
abbrev cL_move : ByteArray := method_4_code
def yL_move : MethodName := ⟨RL, "move", "(LWallplan;IIIII[J)I"⟩
abbrev cL_remove : ByteArray := method_5_code
def yL_remove : MethodName := ⟨RL, "remove", "(LWallplan;III[J)I"⟩
abbrev cL_clear : ByteArray := method_6_code
def yL_clear : MethodName := ⟨RL, "clear", "(LWallplan;III[J)I"⟩
abbrev cL_part : ByteArray := method_7_code
def yL_part : MethodName := ⟨RL, "part", "(LWallplan;II[J)I"⟩
abbrev cL_lead : ByteArray := method_8_code
def yL_lead : MethodName := ⟨RL, "lead", "(LWallplan;II[J)I"⟩
abbrev cL_order : ByteArray := method_9_code
def yL_order : MethodName := ⟨RL, "order", "(LWallplan;I[J)I"⟩
abbrev cL_cancel : ByteArray := method_10_code
def yL_cancel : MethodName := ⟨RL, "cancel", "(LWallplan;I[J)I"⟩
abbrev cL_build : ByteArray := method_11_code
def yL_build : MethodName := ⟨RL, "build", "(LWallplan;I[J)I"⟩
abbrev cL_inspect : ByteArray := method_12_code
def yL_inspect : MethodName := ⟨RL, "inspect", "(LWallplan;I[J)I"⟩
abbrev cL_pass : ByteArray := method_13_code
def yL_pass : MethodName := ⟨RL, "pass", "(LWallplan;I[J)I"⟩
abbrev cL_elementOf : ByteArray := method_14_code
def yL_elementOf : MethodName := ⟨RL, "elementOf", "(LWallplan;II[J)I"⟩
abbrev cL_clash : ByteArray := method_15_code
def yL_clash : MethodName := ⟨RL, "clash", "(LWallplan;II[J)I"⟩
abbrev cL_clashes : ByteArray := method_16_code
def yL_clashes : MethodName := ⟨RL, "clashes", "(LWallplan;I[J)I"⟩
abbrev cL_isStopped : ByteArray := method_17_code
def yL_isStopped : MethodName := ⟨RL, "isStopped", "(LWallplan;II[J)I"⟩
abbrev cL_parts : ByteArray := method_18_code
def yL_parts : MethodName := ⟨RL, "parts", "(LWallplan;I[J)I"⟩
abbrev cL_partsAnew : ByteArray := method_19_code
def yL_partsAnew : MethodName := ⟨RL, "partsAnew", "(LWallplan;I[J)I"⟩
abbrev cL_ordered : ByteArray := method_20_code
def yL_ordered : MethodName := ⟨RL, "ordered", "(LWallplan;I[J)I"⟩
abbrev cL_kindsAt : ByteArray := method_21_code
def yL_kindsAt : MethodName := ⟨RL, "kindsAt", "(LWallplan;III[J)I"⟩
abbrev cL_isLocked : ByteArray := method_22_code
def yL_isLocked : MethodName := ⟨RL, "isLocked", "(LWallplan;I[J)I"⟩
abbrev cL_law : ByteArray := code
def yL_law : MethodName := ⟨RL, "law", "([I)Z"⟩
def wsX0_init : List Cond := .code yX0_init cX0_init 8 none :: ([.methodLink RX0 3 objectInit, .instanceMethod objectInit, .code objectInit ⟨#[0xb1]⟩ 1 none, .fieldLink RX0 9 "Wallplan$Element" "state" "I", .fieldLink RX0 15 "Wallplan$Element" "deliveryDay" "I", .fieldLink RX0 18 "Wallplan$Element" "kind" "I", .fieldLink RX0 21 "Wallplan$Element" "storey" "I", .fieldLink RX0 24 "Wallplan$Element" "fromX" "I", .fieldLink RX0 27 "Wallplan$Element" "fromY" "I", .fieldLink RX0 30 "Wallplan$Element" "toX" "I", .fieldLink RX0 33 "Wallplan$Element" "toY" "I", .fieldLink RX0 36 "Wallplan$Element" "changeRevision" "I", .fieldLink RX0 39 "Wallplan$Element" "changeTrade" "I"] ++ wsX00)
def wsX0_isThere : List Cond := .code yX0_isThere cX0_isThere 1 (some .boolean) :: ([.fieldLink RX0 9 "Wallplan$Element" "state" "I"] ++ wsX00)
def wsX0_cells : List Cond := .code yX0_cells cX0_cells 1 (some .int) :: ([.fieldLink RX0 30 "Wallplan$Element" "toX" "I", .fieldLink RX0 24 "Wallplan$Element" "fromX" "I", .methodLink RX0 42 Lib.Math.abs.name, .static Lib.Math.abs.name, .initialized "java/lang/Math", .code Lib.Math.abs.name Lib.Math.abs.code 1 (some .int), .fieldLink RX0 33 "Wallplan$Element" "toY" "I", .fieldLink RX0 27 "Wallplan$Element" "fromY" "I"] ++ wsX00)
def wsX1_isWithin : List Cond := .code yX1_isWithin cX1_isWithin 3 (some .boolean) :: ([])
def wsX0_covers : List Cond := .code yX0_covers cX0_covers 3 (some .boolean) :: ([.fieldLink RX0 24 "Wallplan$Element" "fromX" "I", .fieldLink RX0 30 "Wallplan$Element" "toX" "I", .methodLink RX0 48 Lib.Math.min.name, .static Lib.Math.min.name, .initialized "java/lang/Math", .code Lib.Math.min.name Lib.Math.min.code 2 (some .int), .methodLink RX0 52 Lib.Math.max.name, .static Lib.Math.max.name, .code Lib.Math.max.name Lib.Math.max.code 2 (some .int), .fieldLink RX0 27 "Wallplan$Element" "fromY" "I", .fieldLink RX0 33 "Wallplan$Element" "toY" "I", .static yX1_isWithin, .initialized RX1, .code yX1_isWithin cX1_isWithin 3 (some .boolean)] ++ wsX00)
def wsX1_isCell : List Cond := .code yX1_isCell cX1_isCell 2 (some .boolean) :: ([.methodLink RX1 112 yX1_isWithin, .static yX1_isWithin, .initialized RX1, .code yX1_isWithin cX1_isWithin 3 (some .boolean)])
def wsX0_staysInside : List Cond := .code yX0_staysInside cX0_staysInside 3 (some .boolean) :: ([.fieldLink RX0 24 "Wallplan$Element" "fromX" "I", .fieldLink RX0 27 "Wallplan$Element" "fromY" "I", .fieldLink RX0 30 "Wallplan$Element" "toX" "I", .fieldLink RX0 33 "Wallplan$Element" "toY" "I", .static yX1_isCell, .initialized RX1, .code yX1_isCell cX1_isCell 2 (some .boolean), .methodLink RX1 112 yX1_isWithin, .static yX1_isWithin, .code yX1_isWithin cX1_isWithin 3 (some .boolean)] ++ wsX00)
def wsX0_shift : List Cond := .code yX0_shift cX0_shift 3 none :: ([.fieldLink RX0 24 "Wallplan$Element" "fromX" "I", .fieldLink RX0 27 "Wallplan$Element" "fromY" "I", .fieldLink RX0 30 "Wallplan$Element" "toX" "I", .fieldLink RX0 33 "Wallplan$Element" "toY" "I"] ++ wsX00)
def wsX0_deliverIfDue : List Cond := .code yX0_deliverIfDue cX0_deliverIfDue 2 none :: ([.fieldLink RX0 9 "Wallplan$Element" "state" "I", .fieldLink RX0 15 "Wallplan$Element" "deliveryDay" "I"] ++ wsX00)
def wsX0_gap : List Cond := .code yX0_gap cX0_gap 6 (some .int) :: ([.methodLink RX0 48 Lib.Math.min.name, .static Lib.Math.min.name, .initialized "java/lang/Math", .code Lib.Math.min.name Lib.Math.min.code 2 (some .int), .methodLink RX0 52 Lib.Math.max.name, .static Lib.Math.max.name, .code Lib.Math.max.name Lib.Math.max.code 2 (some .int)])
def wsX0_distanceTo : List Cond := .code yX0_distanceTo cX0_distanceTo 4 (some .int) :: ([.fieldLink RX0 24 "Wallplan$Element" "fromX" "I", .fieldLink RX0 30 "Wallplan$Element" "toX" "I", .fieldLink RX0 27 "Wallplan$Element" "fromY" "I", .fieldLink RX0 33 "Wallplan$Element" "toY" "I", .methodLink RX0 52 Lib.Math.max.name, .static Lib.Math.max.name, .initialized "java/lang/Math", .code Lib.Math.max.name Lib.Math.max.code 2 (some .int), .methodLink RX0 63 yX0_gap, .static yX0_gap, .initialized RX0, .code yX0_gap cX0_gap 6 (some .int), .methodLink RX0 48 Lib.Math.min.name, .static Lib.Math.min.name, .code Lib.Math.min.name Lib.Math.min.code 2 (some .int)] ++ wsX00)
def wsX0_partsCellByCell : List Cond := .code yX0_partsCellByCell cX0_partsCellByCell 6 (some .int) :: ([.methodLink RX0 67 yX0_covers, .instanceMethod yX0_covers, .selects RX0 yX0_covers yX0_covers, .initialized RX0, .code yX0_covers cX0_covers 3 (some .boolean), .fieldLink RX0 24 "Wallplan$Element" "fromX" "I", .fieldLink RX0 30 "Wallplan$Element" "toX" "I", .methodLink RX0 48 Lib.Math.min.name, .static Lib.Math.min.name, .initialized "java/lang/Math", .code Lib.Math.min.name Lib.Math.min.code 2 (some .int), .methodLink RX0 52 Lib.Math.max.name, .static Lib.Math.max.name, .code Lib.Math.max.name Lib.Math.max.code 2 (some .int), .fieldLink RX0 27 "Wallplan$Element" "fromY" "I", .fieldLink RX0 33 "Wallplan$Element" "toY" "I", .static yX1_isWithin, .initialized RX1, .code yX1_isWithin cX1_isWithin 3 (some .boolean)] ++ wsX00)
def wsX1_init : List Cond := .code yX1_init cX1_init 1 none :: ([.methodLink RX1 1 objectInit, .instanceMethod objectInit, .code objectInit ⟨#[0xb1]⟩ 1 none, .classLink RX1 9 RX0, .fieldLink RX1 11 "Wallplan" "elements" "[LWallplan$Element;", .fieldLink RX1 15 "Wallplan" "count" "I", .arrayClass .int, .fieldLink RX1 19 "Wallplan" "clearances" "[I", .fieldLink RX1 23 "Wallplan" "partCells" "[I", .fieldLink RX1 26 "Wallplan" "leadDays" "[I", .arrayClass .boolean, .fieldLink RX1 29 "Wallplan" "locked" "[Z", .fieldLink RX1 33 "Wallplan" "latestRevision" "I", .fieldLink RX1 36 "Wallplan" "today" "I"] ++ wsX10)
def wsX1_isKind : List Cond := .code yX1_isKind cX1_isKind 1 (some .boolean) :: ([.methodLink RX1 112 yX1_isWithin, .static yX1_isWithin, .initialized RX1, .code yX1_isWithin cX1_isWithin 3 (some .boolean)])
def wsX1_isStorey : List Cond := .code yX1_isStorey cX1_isStorey 1 (some .boolean) :: ([.methodLink RX1 112 yX1_isWithin, .static yX1_isWithin, .initialized RX1, .code yX1_isWithin cX1_isWithin 3 (some .boolean)])
def wsX1_add_r1 : List Cond := [Cond.classLink RX1 46 "java/lang/IndexOutOfBoundsException", Cond.initialized "java/lang/IndexOutOfBoundsException", Cond.classLink RX1 57 "java/lang/IllegalArgumentException", Cond.initialized "java/lang/IllegalArgumentException", Cond.classLink RX1 64 "java/lang/IllegalStateException", Cond.initialized "java/lang/IllegalStateException", Cond.fieldLink RX1 29 "Wallplan" "locked" "[Z", Cond.fieldLink RX1 15 "Wallplan" "count" "I", Cond.fieldLink RX1 11 "Wallplan" "elements" "[LWallplan$Element;", Cond.fieldLink RX1 33 "Wallplan" "latestRevision" "I", Cond.classLink RX1 9 RX0, Cond.instantiable RX0 10, Cond.initialized RX0, Cond.methodLink RX1 39 yX1_isKind, Cond.static yX1_isKind, Cond.initialized RX1, Cond.code yX1_isKind cX1_isKind 1 (some .boolean), Cond.methodLink RX1 112 yX1_isWithin, Cond.static yX1_isWithin, Cond.code yX1_isWithin cX1_isWithin 3 (some .boolean), Cond.methodLink RX1 43 yX1_isStorey, Cond.static yX1_isStorey, Cond.code yX1_isStorey cX1_isStorey 1 (some .boolean), Cond.methodLink RX1 53 yX1_isCell]
def wsX1_add_r2 : List Cond := [Cond.static yX1_isCell, Cond.code yX1_isCell cX1_isCell 2 (some .boolean), Cond.methodLink RX1 71 yX0_init, Cond.instanceMethod yX0_init, Cond.code yX0_init cX0_init 8 none, Cond.methodLink RX0 3 objectInit, Cond.instanceMethod objectInit, Cond.code objectInit ⟨#[0xb1]⟩ 1 none, Cond.fieldLink RX0 9 "Wallplan$Element" "state" "I", Cond.fieldLink RX0 15 "Wallplan$Element" "deliveryDay" "I", Cond.fieldLink RX0 18 "Wallplan$Element" "kind" "I", Cond.fieldLink RX0 21 "Wallplan$Element" "storey" "I", Cond.fieldLink RX0 24 "Wallplan$Element" "fromX" "I", Cond.fieldLink RX0 27 "Wallplan$Element" "fromY" "I", Cond.fieldLink RX0 30 "Wallplan$Element" "toX" "I", Cond.fieldLink RX0 33 "Wallplan$Element" "toY" "I", Cond.fieldLink RX0 36 "Wallplan$Element" "changeRevision" "I", Cond.fieldLink RX0 39 "Wallplan$Element" "changeTrade" "I"]
def wsX1_add : List Cond := .code yX1_add cX1_add 8 (some .int) :: ((wsX1_add_r1 ++ wsX1_add_r2) ++ wsX10 ++ wsX00 ++ (vx_atS RX1 50 "java/lang/IndexOutOfBoundsException" ["java/lang/RuntimeException", "java/lang/Exception"]).filter goodWord ++ (vx_atS RX1 61 "java/lang/IllegalArgumentException" ["java/lang/RuntimeException", "java/lang/Exception"]).filter goodWord ++ (vx_atS RX1 68 "java/lang/IllegalStateException" ["java/lang/RuntimeException", "java/lang/Exception"]).filter goodWord)
def wsX1_find : List Cond := .code yX1_find cX1_find 2 (some (.object "Wallplan$Element")) :: ([.fieldLink RX1 11 "Wallplan" "elements" "[LWallplan$Element;", .methodLink RX1 112 yX1_isWithin, .static yX1_isWithin, .initialized RX1, .code yX1_isWithin cX1_isWithin 3 (some .boolean)] ++ wsX10)
def wsX1_isBase : List Cond := .code yX1_isBase cX1_isBase 2 (some .boolean) :: ([.fieldLink RX1 33 "Wallplan" "latestRevision" "I", .methodLink RX1 112 yX1_isWithin, .static yX1_isWithin, .initialized RX1, .code yX1_isWithin cX1_isWithin 3 (some .boolean)] ++ wsX10)
def wsX1_isStep : List Cond := .code yX1_isStep cX1_isStep 1 (some .boolean) :: ([.methodLink RX1 112 yX1_isWithin, .static yX1_isWithin, .initialized RX1, .code yX1_isWithin cX1_isWithin 3 (some .boolean)])
def wsX1_losesAgainstLastChange : List Cond := .code yX1_losesAgainstLastChange cX1_losesAgainstLastChange 3 (some .boolean) :: ([.fieldLink RX1 169 "Wallplan$Element" "changeRevision" "I", .fieldLink RX1 172 "Wallplan$Element" "changeTrade" "I"] ++ wsX00)
def wsX1_noteChange : List Cond := .code yX1_noteChange cX1_noteChange 3 none :: ([.fieldLink RX1 33 "Wallplan" "latestRevision" "I", .fieldLink RX1 169 "Wallplan$Element" "changeRevision" "I", .fieldLink RX1 172 "Wallplan$Element" "changeTrade" "I"] ++ wsX10 ++ wsX00)
def wsX1_move_r1 : List Cond := [Cond.classLink RX1 46 "java/lang/IndexOutOfBoundsException", Cond.initialized "java/lang/IndexOutOfBoundsException", Cond.classLink RX1 57 "java/lang/IllegalArgumentException", Cond.initialized "java/lang/IllegalArgumentException", Cond.classLink RX1 64 "java/lang/IllegalStateException", Cond.initialized "java/lang/IllegalStateException", Cond.fieldLink RX1 93 "Wallplan$Element" "state" "I", Cond.methodLink RX1 74 yX1_find, Cond.instanceMethod yX1_find, Cond.selects RX1 yX1_find yX1_find, Cond.initialized RX1, Cond.code yX1_find cX1_find 2 (some (.object "Wallplan$Element")), Cond.fieldLink RX1 11 "Wallplan" "elements" "[LWallplan$Element;", Cond.methodLink RX1 112 yX1_isWithin, Cond.static yX1_isWithin, Cond.code yX1_isWithin cX1_isWithin 3 (some .boolean), Cond.methodLink RX1 39 yX1_isKind, Cond.static yX1_isKind, Cond.code yX1_isKind cX1_isKind 1 (some .boolean), Cond.methodLink RX1 80 yX1_isBase, Cond.instanceMethod yX1_isBase, Cond.selects RX1 yX1_isBase yX1_isBase, Cond.code yX1_isBase cX1_isBase 2 (some .boolean), Cond.fieldLink RX1 33 "Wallplan" "latestRevision" "I"]
def wsX1_move_r2 : List Cond := [Cond.methodLink RX1 85 yX1_isStep, Cond.static yX1_isStep, Cond.code yX1_isStep cX1_isStep 1 (some .boolean), Cond.methodLink RX1 88 yX0_staysInside, Cond.instanceMethod yX0_staysInside, Cond.selects RX0 yX0_staysInside yX0_staysInside, Cond.initialized RX0, Cond.code yX0_staysInside cX0_staysInside 3 (some .boolean), Cond.fieldLink RX0 24 "Wallplan$Element" "fromX" "I", Cond.fieldLink RX0 27 "Wallplan$Element" "fromY" "I", Cond.fieldLink RX0 30 "Wallplan$Element" "toX" "I", Cond.fieldLink RX0 33 "Wallplan$Element" "toY" "I", Cond.static yX1_isCell, Cond.code yX1_isCell cX1_isCell 2 (some .boolean), Cond.methodLink RX1 98 yX1_losesAgainstLastChange, Cond.static yX1_losesAgainstLastChange, Cond.code yX1_losesAgainstLastChange cX1_losesAgainstLastChange 3 (some .boolean), Cond.fieldLink RX1 169 "Wallplan$Element" "changeRevision" "I", Cond.fieldLink RX1 172 "Wallplan$Element" "changeTrade" "I", Cond.methodLink RX1 102 yX0_shift, Cond.instanceMethod yX0_shift, Cond.selects RX0 yX0_shift yX0_shift, Cond.code yX0_shift cX0_shift 3 none, Cond.methodLink RX1 106 yX1_noteChange]
def wsX1_move_r3 : List Cond := [Cond.instanceMethod yX1_noteChange, Cond.selects RX1 yX1_noteChange yX1_noteChange, Cond.code yX1_noteChange cX1_noteChange 3 none]
def wsX1_move : List Cond := .code yX1_move cX1_move 7 (some .boolean) :: ((wsX1_move_r1 ++ (wsX1_move_r2 ++ wsX1_move_r3)) ++ wsX00 ++ wsX10 ++ (vx_atS RX1 50 "java/lang/IndexOutOfBoundsException" ["java/lang/RuntimeException", "java/lang/Exception"]).filter goodWord ++ (vx_atS RX1 61 "java/lang/IllegalArgumentException" ["java/lang/RuntimeException", "java/lang/Exception"]).filter goodWord ++ (vx_atS RX1 68 "java/lang/IllegalStateException" ["java/lang/RuntimeException", "java/lang/Exception"]).filter goodWord)
def wsX1_remove_r1 : List Cond := [Cond.classLink RX1 46 "java/lang/IndexOutOfBoundsException", Cond.initialized "java/lang/IndexOutOfBoundsException", Cond.classLink RX1 57 "java/lang/IllegalArgumentException", Cond.initialized "java/lang/IllegalArgumentException", Cond.classLink RX1 64 "java/lang/IllegalStateException", Cond.initialized "java/lang/IllegalStateException", Cond.fieldLink RX1 93 "Wallplan$Element" "state" "I", Cond.methodLink RX1 74 yX1_find, Cond.instanceMethod yX1_find, Cond.selects RX1 yX1_find yX1_find, Cond.initialized RX1, Cond.code yX1_find cX1_find 2 (some (.object "Wallplan$Element")), Cond.fieldLink RX1 11 "Wallplan" "elements" "[LWallplan$Element;", Cond.methodLink RX1 112 yX1_isWithin, Cond.static yX1_isWithin, Cond.code yX1_isWithin cX1_isWithin 3 (some .boolean), Cond.methodLink RX1 39 yX1_isKind, Cond.static yX1_isKind, Cond.code yX1_isKind cX1_isKind 1 (some .boolean), Cond.methodLink RX1 80 yX1_isBase, Cond.instanceMethod yX1_isBase, Cond.selects RX1 yX1_isBase yX1_isBase, Cond.code yX1_isBase cX1_isBase 2 (some .boolean), Cond.fieldLink RX1 33 "Wallplan" "latestRevision" "I"]
def wsX1_remove_r2 : List Cond := [Cond.methodLink RX1 106 yX1_noteChange, Cond.instanceMethod yX1_noteChange, Cond.selects RX1 yX1_noteChange yX1_noteChange, Cond.code yX1_noteChange cX1_noteChange 3 none, Cond.fieldLink RX1 169 "Wallplan$Element" "changeRevision" "I", Cond.fieldLink RX1 172 "Wallplan$Element" "changeTrade" "I"]
def wsX1_remove : List Cond := .code yX1_remove cX1_remove 5 (some .boolean) :: ((wsX1_remove_r1 ++ wsX1_remove_r2) ++ wsX00 ++ wsX10 ++ (vx_atS RX1 50 "java/lang/IndexOutOfBoundsException" ["java/lang/RuntimeException", "java/lang/Exception"]).filter goodWord ++ (vx_atS RX1 61 "java/lang/IllegalArgumentException" ["java/lang/RuntimeException", "java/lang/Exception"]).filter goodWord ++ (vx_atS RX1 68 "java/lang/IllegalStateException" ["java/lang/RuntimeException", "java/lang/Exception"]).filter goodWord)
def wsX1_clear : List Cond := .code yX1_clear cX1_clear 5 (some .int) :: ([.classLink RX1 46 "java/lang/IndexOutOfBoundsException", .initialized "java/lang/IndexOutOfBoundsException", .classLink RX1 57 "java/lang/IllegalArgumentException", .initialized "java/lang/IllegalArgumentException", .fieldLink RX1 19 "Wallplan" "clearances" "[I", .methodLink RX1 39 yX1_isKind, .static yX1_isKind, .initialized RX1, .code yX1_isKind cX1_isKind 1 (some .boolean), .methodLink RX1 112 yX1_isWithin, .static yX1_isWithin, .code yX1_isWithin cX1_isWithin 3 (some .boolean)] ++ wsX10 ++ (vx_atS RX1 50 "java/lang/IndexOutOfBoundsException" ["java/lang/RuntimeException", "java/lang/Exception"]).filter goodWord ++ (vx_atS RX1 61 "java/lang/IllegalArgumentException" ["java/lang/RuntimeException", "java/lang/Exception"]).filter goodWord)
def wsX1_part : List Cond := .code yX1_part cX1_part 4 (some .int) :: ([.classLink RX1 46 "java/lang/IndexOutOfBoundsException", .initialized "java/lang/IndexOutOfBoundsException", .classLink RX1 57 "java/lang/IllegalArgumentException", .initialized "java/lang/IllegalArgumentException", .fieldLink RX1 23 "Wallplan" "partCells" "[I", .methodLink RX1 39 yX1_isKind, .static yX1_isKind, .initialized RX1, .code yX1_isKind cX1_isKind 1 (some .boolean), .methodLink RX1 112 yX1_isWithin, .static yX1_isWithin, .code yX1_isWithin cX1_isWithin 3 (some .boolean)] ++ wsX10 ++ (vx_atS RX1 50 "java/lang/IndexOutOfBoundsException" ["java/lang/RuntimeException", "java/lang/Exception"]).filter goodWord ++ (vx_atS RX1 61 "java/lang/IllegalArgumentException" ["java/lang/RuntimeException", "java/lang/Exception"]).filter goodWord)
def wsX1_lead : List Cond := .code yX1_lead cX1_lead 4 (some .int) :: ([.classLink RX1 46 "java/lang/IndexOutOfBoundsException", .initialized "java/lang/IndexOutOfBoundsException", .classLink RX1 57 "java/lang/IllegalArgumentException", .initialized "java/lang/IllegalArgumentException", .fieldLink RX1 26 "Wallplan" "leadDays" "[I", .methodLink RX1 39 yX1_isKind, .static yX1_isKind, .initialized RX1, .code yX1_isKind cX1_isKind 1 (some .boolean), .methodLink RX1 112 yX1_isWithin, .static yX1_isWithin, .code yX1_isWithin cX1_isWithin 3 (some .boolean)] ++ wsX10 ++ (vx_atS RX1 50 "java/lang/IndexOutOfBoundsException" ["java/lang/RuntimeException", "java/lang/Exception"]).filter goodWord ++ (vx_atS RX1 61 "java/lang/IllegalArgumentException" ["java/lang/RuntimeException", "java/lang/Exception"]).filter goodWord)
def wsX1_leadDaysOf : List Cond := .code yX1_leadDaysOf cX1_leadDaysOf 2 (some .int) :: ([.fieldLink RX1 26 "Wallplan" "leadDays" "[I", .methodLink RX1 39 yX1_isKind, .static yX1_isKind, .initialized RX1, .code yX1_isKind cX1_isKind 1 (some .boolean), .methodLink RX1 112 yX1_isWithin, .static yX1_isWithin, .code yX1_isWithin cX1_isWithin 3 (some .boolean)] ++ wsX10)
def wsX1_partsOf : List Cond := .code yX1_partsOf cX1_partsOf 3 (some .int) :: ([.fieldLink RX1 122 "Wallplan$Element" "kind" "I", .fieldLink RX1 23 "Wallplan" "partCells" "[I", .methodLink RX1 39 yX1_isKind, .static yX1_isKind, .initialized RX1, .code yX1_isKind cX1_isKind 1 (some .boolean), .methodLink RX1 112 yX1_isWithin, .static yX1_isWithin, .code yX1_isWithin cX1_isWithin 3 (some .boolean), .methodLink RX1 175 yX0_cells, .instanceMethod yX0_cells, .selects RX0 yX0_cells yX0_cells, .initialized RX0, .code yX0_cells cX0_cells 1 (some .int), .fieldLink RX0 30 "Wallplan$Element" "toX" "I", .fieldLink RX0 24 "Wallplan$Element" "fromX" "I", .methodLink RX0 42 Lib.Math.abs.name, .static Lib.Math.abs.name, .initialized "java/lang/Math", .code Lib.Math.abs.name Lib.Math.abs.code 1 (some .int), .fieldLink RX0 33 "Wallplan$Element" "toY" "I", .fieldLink RX0 27 "Wallplan$Element" "fromY" "I"] ++ wsX00 ++ wsX10)
def wsX1_order_r1 : List Cond := [Cond.classLink RX1 46 "java/lang/IndexOutOfBoundsException", Cond.initialized "java/lang/IndexOutOfBoundsException", Cond.classLink RX1 64 "java/lang/IllegalStateException", Cond.initialized "java/lang/IllegalStateException", Cond.fieldLink RX1 93 "Wallplan$Element" "state" "I", Cond.fieldLink RX1 36 "Wallplan" "today" "I", Cond.fieldLink RX1 122 "Wallplan$Element" "kind" "I", Cond.fieldLink RX1 129 "Wallplan$Element" "deliveryDay" "I", Cond.methodLink RX1 74 yX1_find, Cond.instanceMethod yX1_find, Cond.selects RX1 yX1_find yX1_find, Cond.initialized RX1, Cond.code yX1_find cX1_find 2 (some (.object "Wallplan$Element")), Cond.fieldLink RX1 11 "Wallplan" "elements" "[LWallplan$Element;", Cond.methodLink RX1 112 yX1_isWithin, Cond.static yX1_isWithin, Cond.code yX1_isWithin cX1_isWithin 3 (some .boolean), Cond.methodLink RX1 125 yX1_leadDaysOf, Cond.instanceMethod yX1_leadDaysOf, Cond.selects RX1 yX1_leadDaysOf yX1_leadDaysOf, Cond.code yX1_leadDaysOf cX1_leadDaysOf 2 (some .int), Cond.fieldLink RX1 26 "Wallplan" "leadDays" "[I", Cond.methodLink RX1 39 yX1_isKind, Cond.static yX1_isKind]
def wsX1_order_r2 : List Cond := [Cond.code yX1_isKind cX1_isKind 1 (some .boolean), Cond.methodLink RX1 132 yX0_deliverIfDue, Cond.instanceMethod yX0_deliverIfDue, Cond.selects RX0 yX0_deliverIfDue yX0_deliverIfDue, Cond.initialized RX0, Cond.code yX0_deliverIfDue cX0_deliverIfDue 2 none, Cond.fieldLink RX0 9 "Wallplan$Element" "state" "I", Cond.fieldLink RX0 15 "Wallplan$Element" "deliveryDay" "I", Cond.methodLink RX1 136 yX1_partsOf, Cond.instanceMethod yX1_partsOf, Cond.selects RX1 yX1_partsOf yX1_partsOf, Cond.code yX1_partsOf cX1_partsOf 3 (some .int), Cond.fieldLink RX1 23 "Wallplan" "partCells" "[I", Cond.methodLink RX1 175 yX0_cells, Cond.instanceMethod yX0_cells, Cond.selects RX0 yX0_cells yX0_cells, Cond.code yX0_cells cX0_cells 1 (some .int), Cond.fieldLink RX0 30 "Wallplan$Element" "toX" "I", Cond.fieldLink RX0 24 "Wallplan$Element" "fromX" "I", Cond.methodLink RX0 42 Lib.Math.abs.name, Cond.static Lib.Math.abs.name, Cond.initialized "java/lang/Math", Cond.code Lib.Math.abs.name Lib.Math.abs.code 1 (some .int), Cond.fieldLink RX0 33 "Wallplan$Element" "toY" "I"]
def wsX1_order_r3 : List Cond := [Cond.fieldLink RX0 27 "Wallplan$Element" "fromY" "I"]
def wsX1_order : List Cond := .code yX1_order cX1_order 3 (some .int) :: ((wsX1_order_r1 ++ (wsX1_order_r2 ++ wsX1_order_r3)) ++ wsX00 ++ wsX10 ++ (vx_atS RX1 50 "java/lang/IndexOutOfBoundsException" ["java/lang/RuntimeException", "java/lang/Exception"]).filter goodWord ++ (vx_atS RX1 68 "java/lang/IllegalStateException" ["java/lang/RuntimeException", "java/lang/Exception"]).filter goodWord)
def wsX1_cancel : List Cond := .code yX1_cancel cX1_cancel 3 (some .int) :: ([.classLink RX1 46 "java/lang/IndexOutOfBoundsException", .initialized "java/lang/IndexOutOfBoundsException", .classLink RX1 64 "java/lang/IllegalStateException", .initialized "java/lang/IllegalStateException", .fieldLink RX1 93 "Wallplan$Element" "state" "I", .fieldLink RX1 129 "Wallplan$Element" "deliveryDay" "I", .fieldLink RX1 36 "Wallplan" "today" "I", .methodLink RX1 74 yX1_find, .instanceMethod yX1_find, .selects RX1 yX1_find yX1_find, .initialized RX1, .code yX1_find cX1_find 2 (some (.object "Wallplan$Element")), .fieldLink RX1 11 "Wallplan" "elements" "[LWallplan$Element;", .methodLink RX1 112 yX1_isWithin, .static yX1_isWithin, .code yX1_isWithin cX1_isWithin 3 (some .boolean)] ++ wsX00 ++ wsX10 ++ (vx_atS RX1 50 "java/lang/IndexOutOfBoundsException" ["java/lang/RuntimeException", "java/lang/Exception"]).filter goodWord ++ (vx_atS RX1 68 "java/lang/IllegalStateException" ["java/lang/RuntimeException", "java/lang/Exception"]).filter goodWord)
def wsX1_clearanceOf : List Cond := .code yX1_clearanceOf cX1_clearanceOf 3 (some .int) :: ([.fieldLink RX1 19 "Wallplan" "clearances" "[I", .methodLink RX1 39 yX1_isKind, .static yX1_isKind, .initialized RX1, .code yX1_isKind cX1_isKind 1 (some .boolean), .methodLink RX1 112 yX1_isWithin, .static yX1_isWithin, .code yX1_isWithin cX1_isWithin 3 (some .boolean)] ++ wsX10)
def wsX1_isClashingPair_r1 : List Cond := [Cond.fieldLink RX1 154 "Wallplan$Element" "storey" "I", Cond.fieldLink RX1 122 "Wallplan$Element" "kind" "I", Cond.methodLink RX1 74 yX1_find, Cond.instanceMethod yX1_find, Cond.selects RX1 yX1_find yX1_find, Cond.initialized RX1, Cond.code yX1_find cX1_find 2 (some (.object "Wallplan$Element")), Cond.fieldLink RX1 11 "Wallplan" "elements" "[LWallplan$Element;", Cond.methodLink RX1 112 yX1_isWithin, Cond.static yX1_isWithin, Cond.code yX1_isWithin cX1_isWithin 3 (some .boolean), Cond.methodLink RX1 194 yX0_isThere, Cond.instanceMethod yX0_isThere, Cond.selects RX0 yX0_isThere yX0_isThere, Cond.initialized RX0, Cond.code yX0_isThere cX0_isThere 1 (some .boolean), Cond.fieldLink RX0 9 "Wallplan$Element" "state" "I", Cond.methodLink RX1 206 yX0_distanceTo, Cond.instanceMethod yX0_distanceTo, Cond.selects RX0 yX0_distanceTo yX0_distanceTo, Cond.code yX0_distanceTo cX0_distanceTo 4 (some .int), Cond.fieldLink RX0 24 "Wallplan$Element" "fromX" "I", Cond.fieldLink RX0 30 "Wallplan$Element" "toX" "I", Cond.fieldLink RX0 27 "Wallplan$Element" "fromY" "I"]
def wsX1_isClashingPair_r2 : List Cond := [Cond.fieldLink RX0 33 "Wallplan$Element" "toY" "I", Cond.methodLink RX0 52 Lib.Math.max.name, Cond.static Lib.Math.max.name, Cond.initialized "java/lang/Math", Cond.code Lib.Math.max.name Lib.Math.max.code 2 (some .int), Cond.methodLink RX0 63 yX0_gap, Cond.static yX0_gap, Cond.code yX0_gap cX0_gap 6 (some .int), Cond.methodLink RX0 48 Lib.Math.min.name, Cond.static Lib.Math.min.name, Cond.code Lib.Math.min.name Lib.Math.min.code 2 (some .int), Cond.methodLink RX1 209 yX1_clearanceOf, Cond.instanceMethod yX1_clearanceOf, Cond.selects RX1 yX1_clearanceOf yX1_clearanceOf, Cond.code yX1_clearanceOf cX1_clearanceOf 3 (some .int), Cond.fieldLink RX1 19 "Wallplan" "clearances" "[I", Cond.methodLink RX1 39 yX1_isKind, Cond.static yX1_isKind, Cond.code yX1_isKind cX1_isKind 1 (some .boolean)]
def wsX1_isClashingPair : List Cond := .code yX1_isClashingPair cX1_isClashingPair 5 (some .boolean) :: ((wsX1_isClashingPair_r1 ++ wsX1_isClashingPair_r2) ++ wsX00 ++ wsX10)
def wsX1_clashesWithAny_r1 : List Cond := [Cond.fieldLink RX1 15 "Wallplan" "count" "I", Cond.methodLink RX1 181 yX1_isClashingPair, Cond.instanceMethod yX1_isClashingPair, Cond.selects RX1 yX1_isClashingPair yX1_isClashingPair, Cond.initialized RX1, Cond.code yX1_isClashingPair cX1_isClashingPair 5 (some .boolean), Cond.fieldLink RX1 154 "Wallplan$Element" "storey" "I", Cond.fieldLink RX1 122 "Wallplan$Element" "kind" "I", Cond.methodLink RX1 74 yX1_find, Cond.instanceMethod yX1_find, Cond.selects RX1 yX1_find yX1_find, Cond.code yX1_find cX1_find 2 (some (.object "Wallplan$Element")), Cond.fieldLink RX1 11 "Wallplan" "elements" "[LWallplan$Element;", Cond.methodLink RX1 112 yX1_isWithin, Cond.static yX1_isWithin, Cond.code yX1_isWithin cX1_isWithin 3 (some .boolean), Cond.methodLink RX1 194 yX0_isThere, Cond.instanceMethod yX0_isThere, Cond.selects RX0 yX0_isThere yX0_isThere, Cond.initialized RX0, Cond.code yX0_isThere cX0_isThere 1 (some .boolean), Cond.fieldLink RX0 9 "Wallplan$Element" "state" "I", Cond.methodLink RX1 206 yX0_distanceTo, Cond.instanceMethod yX0_distanceTo]
def wsX1_clashesWithAny_r2 : List Cond := [Cond.selects RX0 yX0_distanceTo yX0_distanceTo, Cond.code yX0_distanceTo cX0_distanceTo 4 (some .int), Cond.fieldLink RX0 24 "Wallplan$Element" "fromX" "I", Cond.fieldLink RX0 30 "Wallplan$Element" "toX" "I", Cond.fieldLink RX0 27 "Wallplan$Element" "fromY" "I", Cond.fieldLink RX0 33 "Wallplan$Element" "toY" "I", Cond.methodLink RX0 52 Lib.Math.max.name, Cond.static Lib.Math.max.name, Cond.initialized "java/lang/Math", Cond.code Lib.Math.max.name Lib.Math.max.code 2 (some .int), Cond.methodLink RX0 63 yX0_gap, Cond.static yX0_gap, Cond.code yX0_gap cX0_gap 6 (some .int), Cond.methodLink RX0 48 Lib.Math.min.name, Cond.static Lib.Math.min.name, Cond.code Lib.Math.min.name Lib.Math.min.code 2 (some .int), Cond.methodLink RX1 209 yX1_clearanceOf, Cond.instanceMethod yX1_clearanceOf, Cond.selects RX1 yX1_clearanceOf yX1_clearanceOf, Cond.code yX1_clearanceOf cX1_clearanceOf 3 (some .int), Cond.fieldLink RX1 19 "Wallplan" "clearances" "[I", Cond.methodLink RX1 39 yX1_isKind, Cond.static yX1_isKind, Cond.code yX1_isKind cX1_isKind 1 (some .boolean)]
def wsX1_clashesWithAny : List Cond := .code yX1_clashesWithAny cX1_clashesWithAny 3 (some .boolean) :: ((wsX1_clashesWithAny_r1 ++ wsX1_clashesWithAny_r2) ++ wsX10 ++ wsX00)
def wsX1_build_r1 : List Cond := [Cond.classLink RX1 46 "java/lang/IndexOutOfBoundsException", Cond.initialized "java/lang/IndexOutOfBoundsException", Cond.classLink RX1 64 "java/lang/IllegalStateException", Cond.initialized "java/lang/IllegalStateException", Cond.fieldLink RX1 93 "Wallplan$Element" "state" "I", Cond.methodLink RX1 74 yX1_find, Cond.instanceMethod yX1_find, Cond.selects RX1 yX1_find yX1_find, Cond.initialized RX1, Cond.code yX1_find cX1_find 2 (some (.object "Wallplan$Element")), Cond.fieldLink RX1 11 "Wallplan" "elements" "[LWallplan$Element;", Cond.methodLink RX1 112 yX1_isWithin, Cond.static yX1_isWithin, Cond.code yX1_isWithin cX1_isWithin 3 (some .boolean), Cond.methodLink RX1 144 yX1_clashesWithAny, Cond.instanceMethod yX1_clashesWithAny, Cond.selects RX1 yX1_clashesWithAny yX1_clashesWithAny, Cond.code yX1_clashesWithAny cX1_clashesWithAny 3 (some .boolean), Cond.fieldLink RX1 15 "Wallplan" "count" "I", Cond.methodLink RX1 181 yX1_isClashingPair, Cond.instanceMethod yX1_isClashingPair, Cond.selects RX1 yX1_isClashingPair yX1_isClashingPair, Cond.code yX1_isClashingPair cX1_isClashingPair 5 (some .boolean), Cond.fieldLink RX1 154 "Wallplan$Element" "storey" "I"]
def wsX1_build_r2 : List Cond := [Cond.fieldLink RX1 122 "Wallplan$Element" "kind" "I", Cond.methodLink RX1 194 yX0_isThere, Cond.instanceMethod yX0_isThere, Cond.selects RX0 yX0_isThere yX0_isThere, Cond.initialized RX0, Cond.code yX0_isThere cX0_isThere 1 (some .boolean), Cond.fieldLink RX0 9 "Wallplan$Element" "state" "I", Cond.methodLink RX1 206 yX0_distanceTo, Cond.instanceMethod yX0_distanceTo, Cond.selects RX0 yX0_distanceTo yX0_distanceTo, Cond.code yX0_distanceTo cX0_distanceTo 4 (some .int), Cond.fieldLink RX0 24 "Wallplan$Element" "fromX" "I", Cond.fieldLink RX0 30 "Wallplan$Element" "toX" "I", Cond.fieldLink RX0 27 "Wallplan$Element" "fromY" "I", Cond.fieldLink RX0 33 "Wallplan$Element" "toY" "I", Cond.methodLink RX0 52 Lib.Math.max.name, Cond.static Lib.Math.max.name, Cond.initialized "java/lang/Math", Cond.code Lib.Math.max.name Lib.Math.max.code 2 (some .int), Cond.methodLink RX0 63 yX0_gap, Cond.static yX0_gap, Cond.code yX0_gap cX0_gap 6 (some .int), Cond.methodLink RX0 48 Lib.Math.min.name, Cond.static Lib.Math.min.name]
def wsX1_build_r3 : List Cond := [Cond.code Lib.Math.min.name Lib.Math.min.code 2 (some .int), Cond.methodLink RX1 209 yX1_clearanceOf, Cond.instanceMethod yX1_clearanceOf, Cond.selects RX1 yX1_clearanceOf yX1_clearanceOf, Cond.code yX1_clearanceOf cX1_clearanceOf 3 (some .int), Cond.fieldLink RX1 19 "Wallplan" "clearances" "[I", Cond.methodLink RX1 39 yX1_isKind, Cond.static yX1_isKind, Cond.code yX1_isKind cX1_isKind 1 (some .boolean)]
def wsX1_build : List Cond := .code yX1_build cX1_build 3 (some .boolean) :: ((wsX1_build_r1 ++ (wsX1_build_r2 ++ wsX1_build_r3)) ++ wsX00 ++ wsX10 ++ (vx_atS RX1 50 "java/lang/IndexOutOfBoundsException" ["java/lang/RuntimeException", "java/lang/Exception"]).filter goodWord ++ (vx_atS RX1 68 "java/lang/IllegalStateException" ["java/lang/RuntimeException", "java/lang/Exception"]).filter goodWord)
def wsX1_isFinished_r1 : List Cond := [Cond.fieldLink RX1 15 "Wallplan" "count" "I", Cond.fieldLink RX1 154 "Wallplan$Element" "storey" "I", Cond.fieldLink RX1 93 "Wallplan$Element" "state" "I", Cond.methodLink RX1 74 yX1_find, Cond.instanceMethod yX1_find, Cond.selects RX1 yX1_find yX1_find, Cond.initialized RX1, Cond.code yX1_find cX1_find 2 (some (.object "Wallplan$Element")), Cond.fieldLink RX1 11 "Wallplan" "elements" "[LWallplan$Element;", Cond.methodLink RX1 112 yX1_isWithin, Cond.static yX1_isWithin, Cond.code yX1_isWithin cX1_isWithin 3 (some .boolean), Cond.methodLink RX1 194 yX0_isThere, Cond.instanceMethod yX0_isThere, Cond.selects RX0 yX0_isThere yX0_isThere, Cond.initialized RX0, Cond.code yX0_isThere cX0_isThere 1 (some .boolean), Cond.fieldLink RX0 9 "Wallplan$Element" "state" "I", Cond.methodLink RX1 144 yX1_clashesWithAny, Cond.instanceMethod yX1_clashesWithAny, Cond.selects RX1 yX1_clashesWithAny yX1_clashesWithAny, Cond.code yX1_clashesWithAny cX1_clashesWithAny 3 (some .boolean), Cond.methodLink RX1 181 yX1_isClashingPair, Cond.instanceMethod yX1_isClashingPair]
def wsX1_isFinished_r2 : List Cond := [Cond.selects RX1 yX1_isClashingPair yX1_isClashingPair, Cond.code yX1_isClashingPair cX1_isClashingPair 5 (some .boolean), Cond.fieldLink RX1 122 "Wallplan$Element" "kind" "I", Cond.methodLink RX1 206 yX0_distanceTo, Cond.instanceMethod yX0_distanceTo, Cond.selects RX0 yX0_distanceTo yX0_distanceTo, Cond.code yX0_distanceTo cX0_distanceTo 4 (some .int), Cond.fieldLink RX0 24 "Wallplan$Element" "fromX" "I", Cond.fieldLink RX0 30 "Wallplan$Element" "toX" "I", Cond.fieldLink RX0 27 "Wallplan$Element" "fromY" "I", Cond.fieldLink RX0 33 "Wallplan$Element" "toY" "I", Cond.methodLink RX0 52 Lib.Math.max.name, Cond.static Lib.Math.max.name, Cond.initialized "java/lang/Math", Cond.code Lib.Math.max.name Lib.Math.max.code 2 (some .int), Cond.methodLink RX0 63 yX0_gap, Cond.static yX0_gap, Cond.code yX0_gap cX0_gap 6 (some .int), Cond.methodLink RX0 48 Lib.Math.min.name, Cond.static Lib.Math.min.name, Cond.code Lib.Math.min.name Lib.Math.min.code 2 (some .int), Cond.methodLink RX1 209 yX1_clearanceOf, Cond.instanceMethod yX1_clearanceOf, Cond.selects RX1 yX1_clearanceOf yX1_clearanceOf]
def wsX1_isFinished_r3 : List Cond := [Cond.code yX1_clearanceOf cX1_clearanceOf 3 (some .int), Cond.fieldLink RX1 19 "Wallplan" "clearances" "[I", Cond.methodLink RX1 39 yX1_isKind, Cond.static yX1_isKind, Cond.code yX1_isKind cX1_isKind 1 (some .boolean)]
def wsX1_isFinished : List Cond := .code yX1_isFinished cX1_isFinished 5 (some .boolean) :: ((wsX1_isFinished_r1 ++ (wsX1_isFinished_r2 ++ wsX1_isFinished_r3)) ++ wsX10 ++ wsX00)
def wsX1_inspect_r1 : List Cond := [Cond.classLink RX1 46 "java/lang/IndexOutOfBoundsException", Cond.initialized "java/lang/IndexOutOfBoundsException", Cond.classLink RX1 64 "java/lang/IllegalStateException", Cond.initialized "java/lang/IllegalStateException", Cond.fieldLink RX1 29 "Wallplan" "locked" "[Z", Cond.methodLink RX1 43 yX1_isStorey, Cond.static yX1_isStorey, Cond.initialized RX1, Cond.code yX1_isStorey cX1_isStorey 1 (some .boolean), Cond.methodLink RX1 112 yX1_isWithin, Cond.static yX1_isWithin, Cond.code yX1_isWithin cX1_isWithin 3 (some .boolean), Cond.methodLink RX1 149 yX1_isFinished, Cond.instanceMethod yX1_isFinished, Cond.selects RX1 yX1_isFinished yX1_isFinished, Cond.code yX1_isFinished cX1_isFinished 5 (some .boolean), Cond.fieldLink RX1 15 "Wallplan" "count" "I", Cond.fieldLink RX1 154 "Wallplan$Element" "storey" "I", Cond.fieldLink RX1 93 "Wallplan$Element" "state" "I", Cond.methodLink RX1 74 yX1_find, Cond.instanceMethod yX1_find, Cond.selects RX1 yX1_find yX1_find, Cond.code yX1_find cX1_find 2 (some (.object "Wallplan$Element")), Cond.fieldLink RX1 11 "Wallplan" "elements" "[LWallplan$Element;"]
def wsX1_inspect_r2 : List Cond := [Cond.methodLink RX1 194 yX0_isThere, Cond.instanceMethod yX0_isThere, Cond.selects RX0 yX0_isThere yX0_isThere, Cond.initialized RX0, Cond.code yX0_isThere cX0_isThere 1 (some .boolean), Cond.fieldLink RX0 9 "Wallplan$Element" "state" "I", Cond.methodLink RX1 144 yX1_clashesWithAny, Cond.instanceMethod yX1_clashesWithAny, Cond.selects RX1 yX1_clashesWithAny yX1_clashesWithAny, Cond.code yX1_clashesWithAny cX1_clashesWithAny 3 (some .boolean), Cond.methodLink RX1 181 yX1_isClashingPair, Cond.instanceMethod yX1_isClashingPair, Cond.selects RX1 yX1_isClashingPair yX1_isClashingPair, Cond.code yX1_isClashingPair cX1_isClashingPair 5 (some .boolean), Cond.fieldLink RX1 122 "Wallplan$Element" "kind" "I", Cond.methodLink RX1 206 yX0_distanceTo, Cond.instanceMethod yX0_distanceTo, Cond.selects RX0 yX0_distanceTo yX0_distanceTo, Cond.code yX0_distanceTo cX0_distanceTo 4 (some .int), Cond.fieldLink RX0 24 "Wallplan$Element" "fromX" "I", Cond.fieldLink RX0 30 "Wallplan$Element" "toX" "I", Cond.fieldLink RX0 27 "Wallplan$Element" "fromY" "I", Cond.fieldLink RX0 33 "Wallplan$Element" "toY" "I", Cond.methodLink RX0 52 Lib.Math.max.name]
def wsX1_inspect_r3 : List Cond := [Cond.static Lib.Math.max.name, Cond.initialized "java/lang/Math", Cond.code Lib.Math.max.name Lib.Math.max.code 2 (some .int), Cond.methodLink RX0 63 yX0_gap, Cond.static yX0_gap, Cond.code yX0_gap cX0_gap 6 (some .int), Cond.methodLink RX0 48 Lib.Math.min.name, Cond.static Lib.Math.min.name, Cond.code Lib.Math.min.name Lib.Math.min.code 2 (some .int), Cond.methodLink RX1 209 yX1_clearanceOf, Cond.instanceMethod yX1_clearanceOf, Cond.selects RX1 yX1_clearanceOf yX1_clearanceOf, Cond.code yX1_clearanceOf cX1_clearanceOf 3 (some .int), Cond.fieldLink RX1 19 "Wallplan" "clearances" "[I", Cond.methodLink RX1 39 yX1_isKind, Cond.static yX1_isKind, Cond.code yX1_isKind cX1_isKind 1 (some .boolean)]
def wsX1_inspect : List Cond := .code yX1_inspect cX1_inspect 2 (some .boolean) :: ((wsX1_inspect_r1 ++ (wsX1_inspect_r2 ++ wsX1_inspect_r3)) ++ wsX10 ++ wsX00 ++ (vx_atS RX1 50 "java/lang/IndexOutOfBoundsException" ["java/lang/RuntimeException", "java/lang/Exception"]).filter goodWord ++ (vx_atS RX1 68 "java/lang/IllegalStateException" ["java/lang/RuntimeException", "java/lang/Exception"]).filter goodWord)
def wsX1_pass : List Cond := .code yX1_pass cX1_pass 4 (some .int) :: ([.classLink RX1 57 "java/lang/IllegalArgumentException", .initialized "java/lang/IllegalArgumentException", .classLink RX1 64 "java/lang/IllegalStateException", .initialized "java/lang/IllegalStateException", .fieldLink RX1 36 "Wallplan" "today" "I", .fieldLink RX1 15 "Wallplan" "count" "I", .methodLink RX1 112 yX1_isWithin, .static yX1_isWithin, .initialized RX1, .code yX1_isWithin cX1_isWithin 3 (some .boolean), .methodLink RX1 74 yX1_find, .instanceMethod yX1_find, .selects RX1 yX1_find yX1_find, .code yX1_find cX1_find 2 (some (.object "Wallplan$Element")), .fieldLink RX1 11 "Wallplan" "elements" "[LWallplan$Element;", .methodLink RX1 132 yX0_deliverIfDue, .instanceMethod yX0_deliverIfDue, .selects RX0 yX0_deliverIfDue yX0_deliverIfDue, .initialized RX0, .code yX0_deliverIfDue cX0_deliverIfDue 2 none, .fieldLink RX0 9 "Wallplan$Element" "state" "I", .fieldLink RX0 15 "Wallplan$Element" "deliveryDay" "I"] ++ wsX10 ++ wsX00 ++ (vx_atS RX1 61 "java/lang/IllegalArgumentException" ["java/lang/RuntimeException", "java/lang/Exception"]).filter goodWord ++ (vx_atS RX1 68 "java/lang/IllegalStateException" ["java/lang/RuntimeException", "java/lang/Exception"]).filter goodWord)
def wsX1_day : List Cond := .code yX1_day cX1_day 1 (some .int) :: ([.fieldLink RX1 36 "Wallplan" "today" "I"] ++ wsX10)
def wsX1_revision : List Cond := .code yX1_revision cX1_revision 1 (some .int) :: ([.fieldLink RX1 33 "Wallplan" "latestRevision" "I"] ++ wsX10)
def wsX1_elementOf_r1 : List Cond := [Cond.classLink RX1 46 "java/lang/IndexOutOfBoundsException", Cond.initialized "java/lang/IndexOutOfBoundsException", Cond.classLink RX1 57 "java/lang/IllegalArgumentException", Cond.initialized "java/lang/IllegalArgumentException", Cond.fieldLink RX1 122 "Wallplan$Element" "kind" "I", Cond.fieldLink RX1 154 "Wallplan$Element" "storey" "I", Cond.fieldLink RX1 157 "Wallplan$Element" "fromX" "I", Cond.fieldLink RX1 160 "Wallplan$Element" "fromY" "I", Cond.fieldLink RX1 163 "Wallplan$Element" "toX" "I", Cond.fieldLink RX1 166 "Wallplan$Element" "toY" "I", Cond.fieldLink RX1 93 "Wallplan$Element" "state" "I", Cond.fieldLink RX1 169 "Wallplan$Element" "changeRevision" "I", Cond.fieldLink RX1 172 "Wallplan$Element" "changeTrade" "I", Cond.methodLink RX1 74 yX1_find, Cond.instanceMethod yX1_find, Cond.selects RX1 yX1_find yX1_find, Cond.initialized RX1, Cond.code yX1_find cX1_find 2 (some (.object "Wallplan$Element")), Cond.fieldLink RX1 11 "Wallplan" "elements" "[LWallplan$Element;", Cond.methodLink RX1 112 yX1_isWithin, Cond.static yX1_isWithin, Cond.code yX1_isWithin cX1_isWithin 3 (some .boolean), Cond.methodLink RX1 175 yX0_cells, Cond.instanceMethod yX0_cells]
def wsX1_elementOf_r2 : List Cond := [Cond.selects RX0 yX0_cells yX0_cells, Cond.initialized RX0, Cond.code yX0_cells cX0_cells 1 (some .int), Cond.fieldLink RX0 30 "Wallplan$Element" "toX" "I", Cond.fieldLink RX0 24 "Wallplan$Element" "fromX" "I", Cond.methodLink RX0 42 Lib.Math.abs.name, Cond.static Lib.Math.abs.name, Cond.initialized "java/lang/Math", Cond.code Lib.Math.abs.name Lib.Math.abs.code 1 (some .int), Cond.fieldLink RX0 33 "Wallplan$Element" "toY" "I", Cond.fieldLink RX0 27 "Wallplan$Element" "fromY" "I"]
def wsX1_elementOf : List Cond := .code yX1_elementOf cX1_elementOf 4 (some .int) :: ((wsX1_elementOf_r1 ++ wsX1_elementOf_r2) ++ wsX00 ++ wsX10 ++ (vx_atS RX1 50 "java/lang/IndexOutOfBoundsException" ["java/lang/RuntimeException", "java/lang/Exception"]).filter goodWord ++ (vx_atS RX1 61 "java/lang/IllegalArgumentException" ["java/lang/RuntimeException", "java/lang/Exception"]).filter goodWord)
def wsX1_clash_r1 : List Cond := [Cond.classLink RX1 46 "java/lang/IndexOutOfBoundsException", Cond.initialized "java/lang/IndexOutOfBoundsException", Cond.methodLink RX1 74 yX1_find, Cond.instanceMethod yX1_find, Cond.selects RX1 yX1_find yX1_find, Cond.initialized RX1, Cond.code yX1_find cX1_find 2 (some (.object "Wallplan$Element")), Cond.fieldLink RX1 11 "Wallplan" "elements" "[LWallplan$Element;", Cond.methodLink RX1 112 yX1_isWithin, Cond.static yX1_isWithin, Cond.code yX1_isWithin cX1_isWithin 3 (some .boolean), Cond.methodLink RX1 181 yX1_isClashingPair, Cond.instanceMethod yX1_isClashingPair, Cond.selects RX1 yX1_isClashingPair yX1_isClashingPair, Cond.code yX1_isClashingPair cX1_isClashingPair 5 (some .boolean), Cond.fieldLink RX1 154 "Wallplan$Element" "storey" "I", Cond.fieldLink RX1 122 "Wallplan$Element" "kind" "I", Cond.methodLink RX1 194 yX0_isThere, Cond.instanceMethod yX0_isThere, Cond.selects RX0 yX0_isThere yX0_isThere, Cond.initialized RX0, Cond.code yX0_isThere cX0_isThere 1 (some .boolean), Cond.fieldLink RX0 9 "Wallplan$Element" "state" "I", Cond.methodLink RX1 206 yX0_distanceTo]
def wsX1_clash_r2 : List Cond := [Cond.instanceMethod yX0_distanceTo, Cond.selects RX0 yX0_distanceTo yX0_distanceTo, Cond.code yX0_distanceTo cX0_distanceTo 4 (some .int), Cond.fieldLink RX0 24 "Wallplan$Element" "fromX" "I", Cond.fieldLink RX0 30 "Wallplan$Element" "toX" "I", Cond.fieldLink RX0 27 "Wallplan$Element" "fromY" "I", Cond.fieldLink RX0 33 "Wallplan$Element" "toY" "I", Cond.methodLink RX0 52 Lib.Math.max.name, Cond.static Lib.Math.max.name, Cond.initialized "java/lang/Math", Cond.code Lib.Math.max.name Lib.Math.max.code 2 (some .int), Cond.methodLink RX0 63 yX0_gap, Cond.static yX0_gap, Cond.code yX0_gap cX0_gap 6 (some .int), Cond.methodLink RX0 48 Lib.Math.min.name, Cond.static Lib.Math.min.name, Cond.code Lib.Math.min.name Lib.Math.min.code 2 (some .int), Cond.methodLink RX1 209 yX1_clearanceOf, Cond.instanceMethod yX1_clearanceOf, Cond.selects RX1 yX1_clearanceOf yX1_clearanceOf, Cond.code yX1_clearanceOf cX1_clearanceOf 3 (some .int), Cond.fieldLink RX1 19 "Wallplan" "clearances" "[I", Cond.methodLink RX1 39 yX1_isKind, Cond.static yX1_isKind]
def wsX1_clash_r3 : List Cond := [Cond.code yX1_isKind cX1_isKind 1 (some .boolean)]
def wsX1_clash : List Cond := .code yX1_clash cX1_clash 3 (some .boolean) :: ((wsX1_clash_r1 ++ (wsX1_clash_r2 ++ wsX1_clash_r3)) ++ wsX10 ++ wsX00 ++ (vx_atS RX1 50 "java/lang/IndexOutOfBoundsException" ["java/lang/RuntimeException", "java/lang/Exception"]).filter goodWord)
def wsX1_isOnStorey : List Cond := .code yX1_isOnStorey cX1_isOnStorey 4 (some .boolean) :: ([.fieldLink RX1 154 "Wallplan$Element" "storey" "I", .methodLink RX1 74 yX1_find, .instanceMethod yX1_find, .selects RX1 yX1_find yX1_find, .initialized RX1, .code yX1_find cX1_find 2 (some (.object "Wallplan$Element")), .fieldLink RX1 11 "Wallplan" "elements" "[LWallplan$Element;", .methodLink RX1 112 yX1_isWithin, .static yX1_isWithin, .code yX1_isWithin cX1_isWithin 3 (some .boolean)] ++ wsX00 ++ wsX10)
def wsX1_clashesWithEarlier_r1 : List Cond := [Cond.methodLink RX1 181 yX1_isClashingPair, Cond.instanceMethod yX1_isClashingPair, Cond.selects RX1 yX1_isClashingPair yX1_isClashingPair, Cond.initialized RX1, Cond.code yX1_isClashingPair cX1_isClashingPair 5 (some .boolean), Cond.fieldLink RX1 154 "Wallplan$Element" "storey" "I", Cond.fieldLink RX1 122 "Wallplan$Element" "kind" "I", Cond.methodLink RX1 74 yX1_find, Cond.instanceMethod yX1_find, Cond.selects RX1 yX1_find yX1_find, Cond.code yX1_find cX1_find 2 (some (.object "Wallplan$Element")), Cond.fieldLink RX1 11 "Wallplan" "elements" "[LWallplan$Element;", Cond.methodLink RX1 112 yX1_isWithin, Cond.static yX1_isWithin, Cond.code yX1_isWithin cX1_isWithin 3 (some .boolean), Cond.methodLink RX1 194 yX0_isThere, Cond.instanceMethod yX0_isThere, Cond.selects RX0 yX0_isThere yX0_isThere, Cond.initialized RX0, Cond.code yX0_isThere cX0_isThere 1 (some .boolean), Cond.fieldLink RX0 9 "Wallplan$Element" "state" "I", Cond.methodLink RX1 206 yX0_distanceTo, Cond.instanceMethod yX0_distanceTo, Cond.selects RX0 yX0_distanceTo yX0_distanceTo]
def wsX1_clashesWithEarlier_r2 : List Cond := [Cond.code yX0_distanceTo cX0_distanceTo 4 (some .int), Cond.fieldLink RX0 24 "Wallplan$Element" "fromX" "I", Cond.fieldLink RX0 30 "Wallplan$Element" "toX" "I", Cond.fieldLink RX0 27 "Wallplan$Element" "fromY" "I", Cond.fieldLink RX0 33 "Wallplan$Element" "toY" "I", Cond.methodLink RX0 52 Lib.Math.max.name, Cond.static Lib.Math.max.name, Cond.initialized "java/lang/Math", Cond.code Lib.Math.max.name Lib.Math.max.code 2 (some .int), Cond.methodLink RX0 63 yX0_gap, Cond.static yX0_gap, Cond.code yX0_gap cX0_gap 6 (some .int), Cond.methodLink RX0 48 Lib.Math.min.name, Cond.static Lib.Math.min.name, Cond.code Lib.Math.min.name Lib.Math.min.code 2 (some .int), Cond.methodLink RX1 209 yX1_clearanceOf, Cond.instanceMethod yX1_clearanceOf, Cond.selects RX1 yX1_clearanceOf yX1_clearanceOf, Cond.code yX1_clearanceOf cX1_clearanceOf 3 (some .int), Cond.fieldLink RX1 19 "Wallplan" "clearances" "[I", Cond.methodLink RX1 39 yX1_isKind, Cond.static yX1_isKind, Cond.code yX1_isKind cX1_isKind 1 (some .boolean)]
def wsX1_clashesWithEarlier : List Cond := .code yX1_clashesWithEarlier cX1_clashesWithEarlier 4 (some .int) :: ((wsX1_clashesWithEarlier_r1 ++ wsX1_clashesWithEarlier_r2) ++ wsX00 ++ wsX10)
def wsX1_clashes_r1 : List Cond := [Cond.classLink RX1 46 "java/lang/IndexOutOfBoundsException", Cond.initialized "java/lang/IndexOutOfBoundsException", Cond.fieldLink RX1 15 "Wallplan" "count" "I", Cond.methodLink RX1 43 yX1_isStorey, Cond.static yX1_isStorey, Cond.initialized RX1, Cond.code yX1_isStorey cX1_isStorey 1 (some .boolean), Cond.methodLink RX1 112 yX1_isWithin, Cond.static yX1_isWithin, Cond.code yX1_isWithin cX1_isWithin 3 (some .boolean), Cond.methodLink RX1 184 yX1_isOnStorey, Cond.instanceMethod yX1_isOnStorey, Cond.selects RX1 yX1_isOnStorey yX1_isOnStorey, Cond.code yX1_isOnStorey cX1_isOnStorey 4 (some .boolean), Cond.fieldLink RX1 154 "Wallplan$Element" "storey" "I", Cond.methodLink RX1 74 yX1_find, Cond.instanceMethod yX1_find, Cond.selects RX1 yX1_find yX1_find, Cond.code yX1_find cX1_find 2 (some (.object "Wallplan$Element")), Cond.fieldLink RX1 11 "Wallplan" "elements" "[LWallplan$Element;", Cond.methodLink RX1 187 yX1_clashesWithEarlier, Cond.instanceMethod yX1_clashesWithEarlier, Cond.selects RX1 yX1_clashesWithEarlier yX1_clashesWithEarlier, Cond.code yX1_clashesWithEarlier cX1_clashesWithEarlier 4 (some .int)]
def wsX1_clashes_r2 : List Cond := [Cond.methodLink RX1 181 yX1_isClashingPair, Cond.instanceMethod yX1_isClashingPair, Cond.selects RX1 yX1_isClashingPair yX1_isClashingPair, Cond.code yX1_isClashingPair cX1_isClashingPair 5 (some .boolean), Cond.fieldLink RX1 122 "Wallplan$Element" "kind" "I", Cond.methodLink RX1 194 yX0_isThere, Cond.instanceMethod yX0_isThere, Cond.selects RX0 yX0_isThere yX0_isThere, Cond.initialized RX0, Cond.code yX0_isThere cX0_isThere 1 (some .boolean), Cond.fieldLink RX0 9 "Wallplan$Element" "state" "I", Cond.methodLink RX1 206 yX0_distanceTo, Cond.instanceMethod yX0_distanceTo, Cond.selects RX0 yX0_distanceTo yX0_distanceTo, Cond.code yX0_distanceTo cX0_distanceTo 4 (some .int), Cond.fieldLink RX0 24 "Wallplan$Element" "fromX" "I", Cond.fieldLink RX0 30 "Wallplan$Element" "toX" "I", Cond.fieldLink RX0 27 "Wallplan$Element" "fromY" "I", Cond.fieldLink RX0 33 "Wallplan$Element" "toY" "I", Cond.methodLink RX0 52 Lib.Math.max.name, Cond.static Lib.Math.max.name, Cond.initialized "java/lang/Math", Cond.code Lib.Math.max.name Lib.Math.max.code 2 (some .int), Cond.methodLink RX0 63 yX0_gap]
def wsX1_clashes_r3 : List Cond := [Cond.static yX0_gap, Cond.code yX0_gap cX0_gap 6 (some .int), Cond.methodLink RX0 48 Lib.Math.min.name, Cond.static Lib.Math.min.name, Cond.code Lib.Math.min.name Lib.Math.min.code 2 (some .int), Cond.methodLink RX1 209 yX1_clearanceOf, Cond.instanceMethod yX1_clearanceOf, Cond.selects RX1 yX1_clearanceOf yX1_clearanceOf, Cond.code yX1_clearanceOf cX1_clearanceOf 3 (some .int), Cond.fieldLink RX1 19 "Wallplan" "clearances" "[I", Cond.methodLink RX1 39 yX1_isKind, Cond.static yX1_isKind, Cond.code yX1_isKind cX1_isKind 1 (some .boolean)]
def wsX1_clashes : List Cond := .code yX1_clashes cX1_clashes 4 (some .int) :: ((wsX1_clashes_r1 ++ (wsX1_clashes_r2 ++ wsX1_clashes_r3)) ++ wsX10 ++ wsX00 ++ (vx_atS RX1 50 "java/lang/IndexOutOfBoundsException" ["java/lang/RuntimeException", "java/lang/Exception"]).filter goodWord)
def wsX1_isStopped_r1 : List Cond := [Cond.classLink RX1 46 "java/lang/IndexOutOfBoundsException", Cond.initialized "java/lang/IndexOutOfBoundsException", Cond.fieldLink RX1 15 "Wallplan" "count" "I", Cond.fieldLink RX1 122 "Wallplan$Element" "kind" "I", Cond.fieldLink RX1 154 "Wallplan$Element" "storey" "I", Cond.methodLink RX1 39 yX1_isKind, Cond.static yX1_isKind, Cond.initialized RX1, Cond.code yX1_isKind cX1_isKind 1 (some .boolean), Cond.methodLink RX1 112 yX1_isWithin, Cond.static yX1_isWithin, Cond.code yX1_isWithin cX1_isWithin 3 (some .boolean), Cond.methodLink RX1 43 yX1_isStorey, Cond.static yX1_isStorey, Cond.code yX1_isStorey cX1_isStorey 1 (some .boolean), Cond.methodLink RX1 74 yX1_find, Cond.instanceMethod yX1_find, Cond.selects RX1 yX1_find yX1_find, Cond.code yX1_find cX1_find 2 (some (.object "Wallplan$Element")), Cond.fieldLink RX1 11 "Wallplan" "elements" "[LWallplan$Element;", Cond.methodLink RX1 144 yX1_clashesWithAny, Cond.instanceMethod yX1_clashesWithAny, Cond.selects RX1 yX1_clashesWithAny yX1_clashesWithAny, Cond.code yX1_clashesWithAny cX1_clashesWithAny 3 (some .boolean)]
def wsX1_isStopped_r2 : List Cond := [Cond.methodLink RX1 181 yX1_isClashingPair, Cond.instanceMethod yX1_isClashingPair, Cond.selects RX1 yX1_isClashingPair yX1_isClashingPair, Cond.code yX1_isClashingPair cX1_isClashingPair 5 (some .boolean), Cond.methodLink RX1 194 yX0_isThere, Cond.instanceMethod yX0_isThere, Cond.selects RX0 yX0_isThere yX0_isThere, Cond.initialized RX0, Cond.code yX0_isThere cX0_isThere 1 (some .boolean), Cond.fieldLink RX0 9 "Wallplan$Element" "state" "I", Cond.methodLink RX1 206 yX0_distanceTo, Cond.instanceMethod yX0_distanceTo, Cond.selects RX0 yX0_distanceTo yX0_distanceTo, Cond.code yX0_distanceTo cX0_distanceTo 4 (some .int), Cond.fieldLink RX0 24 "Wallplan$Element" "fromX" "I", Cond.fieldLink RX0 30 "Wallplan$Element" "toX" "I", Cond.fieldLink RX0 27 "Wallplan$Element" "fromY" "I", Cond.fieldLink RX0 33 "Wallplan$Element" "toY" "I", Cond.methodLink RX0 52 Lib.Math.max.name, Cond.static Lib.Math.max.name, Cond.initialized "java/lang/Math", Cond.code Lib.Math.max.name Lib.Math.max.code 2 (some .int), Cond.methodLink RX0 63 yX0_gap, Cond.static yX0_gap]
def wsX1_isStopped_r3 : List Cond := [Cond.code yX0_gap cX0_gap 6 (some .int), Cond.methodLink RX0 48 Lib.Math.min.name, Cond.static Lib.Math.min.name, Cond.code Lib.Math.min.name Lib.Math.min.code 2 (some .int), Cond.methodLink RX1 209 yX1_clearanceOf, Cond.instanceMethod yX1_clearanceOf, Cond.selects RX1 yX1_clearanceOf yX1_clearanceOf, Cond.code yX1_clearanceOf cX1_clearanceOf 3 (some .int), Cond.fieldLink RX1 19 "Wallplan" "clearances" "[I"]
def wsX1_isStopped : List Cond := .code yX1_isStopped cX1_isStopped 5 (some .boolean) :: ((wsX1_isStopped_r1 ++ (wsX1_isStopped_r2 ++ wsX1_isStopped_r3)) ++ wsX10 ++ wsX00 ++ (vx_atS RX1 50 "java/lang/IndexOutOfBoundsException" ["java/lang/RuntimeException", "java/lang/Exception"]).filter goodWord)
def wsX1_partsInStates_r1 : List Cond := [Cond.fieldLink RX1 15 "Wallplan" "count" "I", Cond.fieldLink RX1 122 "Wallplan$Element" "kind" "I", Cond.fieldLink RX1 93 "Wallplan$Element" "state" "I", Cond.methodLink RX1 74 yX1_find, Cond.instanceMethod yX1_find, Cond.selects RX1 yX1_find yX1_find, Cond.initialized RX1, Cond.code yX1_find cX1_find 2 (some (.object "Wallplan$Element")), Cond.fieldLink RX1 11 "Wallplan" "elements" "[LWallplan$Element;", Cond.methodLink RX1 112 yX1_isWithin, Cond.static yX1_isWithin, Cond.code yX1_isWithin cX1_isWithin 3 (some .boolean), Cond.methodLink RX1 136 yX1_partsOf, Cond.instanceMethod yX1_partsOf, Cond.selects RX1 yX1_partsOf yX1_partsOf, Cond.code yX1_partsOf cX1_partsOf 3 (some .int), Cond.fieldLink RX1 23 "Wallplan" "partCells" "[I", Cond.methodLink RX1 39 yX1_isKind, Cond.static yX1_isKind, Cond.code yX1_isKind cX1_isKind 1 (some .boolean), Cond.methodLink RX1 175 yX0_cells, Cond.instanceMethod yX0_cells, Cond.selects RX0 yX0_cells yX0_cells, Cond.initialized RX0]
def wsX1_partsInStates_r2 : List Cond := [Cond.code yX0_cells cX0_cells 1 (some .int), Cond.fieldLink RX0 30 "Wallplan$Element" "toX" "I", Cond.fieldLink RX0 24 "Wallplan$Element" "fromX" "I", Cond.methodLink RX0 42 Lib.Math.abs.name, Cond.static Lib.Math.abs.name, Cond.initialized "java/lang/Math", Cond.code Lib.Math.abs.name Lib.Math.abs.code 1 (some .int), Cond.fieldLink RX0 33 "Wallplan$Element" "toY" "I", Cond.fieldLink RX0 27 "Wallplan$Element" "fromY" "I"]
def wsX1_partsInStates : List Cond := .code yX1_partsInStates cX1_partsInStates 7 (some .int) :: ((wsX1_partsInStates_r1 ++ wsX1_partsInStates_r2) ++ wsX10 ++ wsX00)
def wsX1_parts_r1 : List Cond := [Cond.classLink RX1 46 "java/lang/IndexOutOfBoundsException", Cond.initialized "java/lang/IndexOutOfBoundsException", Cond.methodLink RX1 39 yX1_isKind, Cond.static yX1_isKind, Cond.initialized RX1, Cond.code yX1_isKind cX1_isKind 1 (some .boolean), Cond.methodLink RX1 112 yX1_isWithin, Cond.static yX1_isWithin, Cond.code yX1_isWithin cX1_isWithin 3 (some .boolean), Cond.methodLink RX1 190 yX1_partsInStates, Cond.instanceMethod yX1_partsInStates, Cond.selects RX1 yX1_partsInStates yX1_partsInStates, Cond.code yX1_partsInStates cX1_partsInStates 7 (some .int), Cond.fieldLink RX1 15 "Wallplan" "count" "I", Cond.fieldLink RX1 122 "Wallplan$Element" "kind" "I", Cond.fieldLink RX1 93 "Wallplan$Element" "state" "I", Cond.methodLink RX1 74 yX1_find, Cond.instanceMethod yX1_find, Cond.selects RX1 yX1_find yX1_find, Cond.code yX1_find cX1_find 2 (some (.object "Wallplan$Element")), Cond.fieldLink RX1 11 "Wallplan" "elements" "[LWallplan$Element;", Cond.methodLink RX1 136 yX1_partsOf, Cond.instanceMethod yX1_partsOf, Cond.selects RX1 yX1_partsOf yX1_partsOf]
def wsX1_parts_r2 : List Cond := [Cond.code yX1_partsOf cX1_partsOf 3 (some .int), Cond.fieldLink RX1 23 "Wallplan" "partCells" "[I", Cond.methodLink RX1 175 yX0_cells, Cond.instanceMethod yX0_cells, Cond.selects RX0 yX0_cells yX0_cells, Cond.initialized RX0, Cond.code yX0_cells cX0_cells 1 (some .int), Cond.fieldLink RX0 30 "Wallplan$Element" "toX" "I", Cond.fieldLink RX0 24 "Wallplan$Element" "fromX" "I", Cond.methodLink RX0 42 Lib.Math.abs.name, Cond.static Lib.Math.abs.name, Cond.initialized "java/lang/Math", Cond.code Lib.Math.abs.name Lib.Math.abs.code 1 (some .int), Cond.fieldLink RX0 33 "Wallplan$Element" "toY" "I", Cond.fieldLink RX0 27 "Wallplan$Element" "fromY" "I"]
def wsX1_parts : List Cond := .code yX1_parts cX1_parts 2 (some .int) :: ((wsX1_parts_r1 ++ wsX1_parts_r2) ++ wsX10 ++ wsX00 ++ (vx_atS RX1 50 "java/lang/IndexOutOfBoundsException" ["java/lang/RuntimeException", "java/lang/Exception"]).filter goodWord)
def wsX1_partsAnew_r1 : List Cond := [Cond.classLink RX1 46 "java/lang/IndexOutOfBoundsException", Cond.initialized "java/lang/IndexOutOfBoundsException", Cond.fieldLink RX1 15 "Wallplan" "count" "I", Cond.fieldLink RX1 122 "Wallplan$Element" "kind" "I", Cond.fieldLink RX1 23 "Wallplan" "partCells" "[I", Cond.methodLink RX1 39 yX1_isKind, Cond.static yX1_isKind, Cond.initialized RX1, Cond.code yX1_isKind cX1_isKind 1 (some .boolean), Cond.methodLink RX1 112 yX1_isWithin, Cond.static yX1_isWithin, Cond.code yX1_isWithin cX1_isWithin 3 (some .boolean), Cond.methodLink RX1 74 yX1_find, Cond.instanceMethod yX1_find, Cond.selects RX1 yX1_find yX1_find, Cond.code yX1_find cX1_find 2 (some (.object "Wallplan$Element")), Cond.fieldLink RX1 11 "Wallplan" "elements" "[LWallplan$Element;", Cond.methodLink RX1 194 yX0_isThere, Cond.instanceMethod yX0_isThere, Cond.selects RX0 yX0_isThere yX0_isThere, Cond.initialized RX0, Cond.code yX0_isThere cX0_isThere 1 (some .boolean), Cond.fieldLink RX0 9 "Wallplan$Element" "state" "I", Cond.methodLink RX1 198 yX0_partsCellByCell]
def wsX1_partsAnew_r2 : List Cond := [Cond.instanceMethod yX0_partsCellByCell, Cond.selects RX0 yX0_partsCellByCell yX0_partsCellByCell, Cond.code yX0_partsCellByCell cX0_partsCellByCell 6 (some .int), Cond.methodLink RX0 67 yX0_covers, Cond.instanceMethod yX0_covers, Cond.selects RX0 yX0_covers yX0_covers, Cond.code yX0_covers cX0_covers 3 (some .boolean), Cond.fieldLink RX0 24 "Wallplan$Element" "fromX" "I", Cond.fieldLink RX0 30 "Wallplan$Element" "toX" "I", Cond.methodLink RX0 48 Lib.Math.min.name, Cond.static Lib.Math.min.name, Cond.initialized "java/lang/Math", Cond.code Lib.Math.min.name Lib.Math.min.code 2 (some .int), Cond.methodLink RX0 52 Lib.Math.max.name, Cond.static Lib.Math.max.name, Cond.code Lib.Math.max.name Lib.Math.max.code 2 (some .int), Cond.fieldLink RX0 27 "Wallplan$Element" "fromY" "I", Cond.fieldLink RX0 33 "Wallplan$Element" "toY" "I"]
def wsX1_partsAnew : List Cond := .code yX1_partsAnew cX1_partsAnew 5 (some .int) :: ((wsX1_partsAnew_r1 ++ wsX1_partsAnew_r2) ++ wsX10 ++ wsX00 ++ (vx_atS RX1 50 "java/lang/IndexOutOfBoundsException" ["java/lang/RuntimeException", "java/lang/Exception"]).filter goodWord)
def wsX1_ordered_r1 : List Cond := [Cond.classLink RX1 46 "java/lang/IndexOutOfBoundsException", Cond.initialized "java/lang/IndexOutOfBoundsException", Cond.methodLink RX1 39 yX1_isKind, Cond.static yX1_isKind, Cond.initialized RX1, Cond.code yX1_isKind cX1_isKind 1 (some .boolean), Cond.methodLink RX1 112 yX1_isWithin, Cond.static yX1_isWithin, Cond.code yX1_isWithin cX1_isWithin 3 (some .boolean), Cond.methodLink RX1 190 yX1_partsInStates, Cond.instanceMethod yX1_partsInStates, Cond.selects RX1 yX1_partsInStates yX1_partsInStates, Cond.code yX1_partsInStates cX1_partsInStates 7 (some .int), Cond.fieldLink RX1 15 "Wallplan" "count" "I", Cond.fieldLink RX1 122 "Wallplan$Element" "kind" "I", Cond.fieldLink RX1 93 "Wallplan$Element" "state" "I", Cond.methodLink RX1 74 yX1_find, Cond.instanceMethod yX1_find, Cond.selects RX1 yX1_find yX1_find, Cond.code yX1_find cX1_find 2 (some (.object "Wallplan$Element")), Cond.fieldLink RX1 11 "Wallplan" "elements" "[LWallplan$Element;", Cond.methodLink RX1 136 yX1_partsOf, Cond.instanceMethod yX1_partsOf, Cond.selects RX1 yX1_partsOf yX1_partsOf]
def wsX1_ordered_r2 : List Cond := [Cond.code yX1_partsOf cX1_partsOf 3 (some .int), Cond.fieldLink RX1 23 "Wallplan" "partCells" "[I", Cond.methodLink RX1 175 yX0_cells, Cond.instanceMethod yX0_cells, Cond.selects RX0 yX0_cells yX0_cells, Cond.initialized RX0, Cond.code yX0_cells cX0_cells 1 (some .int), Cond.fieldLink RX0 30 "Wallplan$Element" "toX" "I", Cond.fieldLink RX0 24 "Wallplan$Element" "fromX" "I", Cond.methodLink RX0 42 Lib.Math.abs.name, Cond.static Lib.Math.abs.name, Cond.initialized "java/lang/Math", Cond.code Lib.Math.abs.name Lib.Math.abs.code 1 (some .int), Cond.fieldLink RX0 33 "Wallplan$Element" "toY" "I", Cond.fieldLink RX0 27 "Wallplan$Element" "fromY" "I"]
def wsX1_ordered : List Cond := .code yX1_ordered cX1_ordered 2 (some .int) :: ((wsX1_ordered_r1 ++ wsX1_ordered_r2) ++ wsX10 ++ wsX00 ++ (vx_atS RX1 50 "java/lang/IndexOutOfBoundsException" ["java/lang/RuntimeException", "java/lang/Exception"]).filter goodWord)
def wsX1_kindsAt_r1 : List Cond := [Cond.classLink RX1 46 "java/lang/IndexOutOfBoundsException", Cond.initialized "java/lang/IndexOutOfBoundsException", Cond.classLink RX1 57 "java/lang/IllegalArgumentException", Cond.initialized "java/lang/IllegalArgumentException", Cond.fieldLink RX1 15 "Wallplan" "count" "I", Cond.fieldLink RX1 154 "Wallplan$Element" "storey" "I", Cond.fieldLink RX1 122 "Wallplan$Element" "kind" "I", Cond.methodLink RX1 43 yX1_isStorey, Cond.static yX1_isStorey, Cond.initialized RX1, Cond.code yX1_isStorey cX1_isStorey 1 (some .boolean), Cond.methodLink RX1 112 yX1_isWithin, Cond.static yX1_isWithin, Cond.code yX1_isWithin cX1_isWithin 3 (some .boolean), Cond.methodLink RX1 53 yX1_isCell, Cond.static yX1_isCell, Cond.code yX1_isCell cX1_isCell 2 (some .boolean), Cond.methodLink RX1 74 yX1_find, Cond.instanceMethod yX1_find, Cond.selects RX1 yX1_find yX1_find, Cond.code yX1_find cX1_find 2 (some (.object "Wallplan$Element")), Cond.fieldLink RX1 11 "Wallplan" "elements" "[LWallplan$Element;", Cond.methodLink RX1 194 yX0_isThere, Cond.instanceMethod yX0_isThere]
def wsX1_kindsAt_r2 : List Cond := [Cond.selects RX0 yX0_isThere yX0_isThere, Cond.initialized RX0, Cond.code yX0_isThere cX0_isThere 1 (some .boolean), Cond.fieldLink RX0 9 "Wallplan$Element" "state" "I", Cond.methodLink RX1 203 yX0_covers, Cond.instanceMethod yX0_covers, Cond.selects RX0 yX0_covers yX0_covers, Cond.code yX0_covers cX0_covers 3 (some .boolean), Cond.fieldLink RX0 24 "Wallplan$Element" "fromX" "I", Cond.fieldLink RX0 30 "Wallplan$Element" "toX" "I", Cond.methodLink RX0 48 Lib.Math.min.name, Cond.static Lib.Math.min.name, Cond.initialized "java/lang/Math", Cond.code Lib.Math.min.name Lib.Math.min.code 2 (some .int), Cond.methodLink RX0 52 Lib.Math.max.name, Cond.static Lib.Math.max.name, Cond.code Lib.Math.max.name Lib.Math.max.code 2 (some .int), Cond.fieldLink RX0 27 "Wallplan$Element" "fromY" "I", Cond.fieldLink RX0 33 "Wallplan$Element" "toY" "I"]
def wsX1_kindsAt : List Cond := .code yX1_kindsAt cX1_kindsAt 7 (some .int) :: ((wsX1_kindsAt_r1 ++ wsX1_kindsAt_r2) ++ wsX10 ++ wsX00 ++ (vx_atS RX1 50 "java/lang/IndexOutOfBoundsException" ["java/lang/RuntimeException", "java/lang/Exception"]).filter goodWord ++ (vx_atS RX1 61 "java/lang/IllegalArgumentException" ["java/lang/RuntimeException", "java/lang/Exception"]).filter goodWord)
def wsX1_isLocked : List Cond := .code yX1_isLocked cX1_isLocked 2 (some .boolean) :: ([.classLink RX1 46 "java/lang/IndexOutOfBoundsException", .initialized "java/lang/IndexOutOfBoundsException", .fieldLink RX1 29 "Wallplan" "locked" "[Z", .methodLink RX1 43 yX1_isStorey, .static yX1_isStorey, .initialized RX1, .code yX1_isStorey cX1_isStorey 1 (some .boolean), .methodLink RX1 112 yX1_isWithin, .static yX1_isWithin, .code yX1_isWithin cX1_isWithin 3 (some .boolean)] ++ wsX10 ++ (vx_atS RX1 50 "java/lang/IndexOutOfBoundsException" ["java/lang/RuntimeException", "java/lang/Exception"]).filter goodWord)
def wsX2_init : List Cond := .code yX2_init cX2_init 2 none :: ([.methodLink RX2 1 objectInit, .instanceMethod objectInit, .code objectInit ⟨#[0xb1]⟩ 1 none, .arrayClass .int, .fieldLink RX2 7 "WallplanModel" "kind" "[I", .fieldLink RX2 13 "WallplanModel" "storey" "[I", .fieldLink RX2 16 "WallplanModel" "fromX" "[I", .fieldLink RX2 19 "WallplanModel" "fromY" "[I", .fieldLink RX2 22 "WallplanModel" "toX" "[I", .fieldLink RX2 25 "WallplanModel" "toY" "[I", .fieldLink RX2 28 "WallplanModel" "state" "[I", .fieldLink RX2 31 "WallplanModel" "changed" "[I", .fieldLink RX2 34 "WallplanModel" "by" "[I", .fieldLink RX2 37 "WallplanModel" "due" "[I", .fieldLink RX2 40 "WallplanModel" "clearance" "[I", .fieldLink RX2 43 "WallplanModel" "cells" "[I", .fieldLink RX2 46 "WallplanModel" "leads" "[I", .arrayClass .boolean, .fieldLink RX2 49 "WallplanModel" "locks" "[Z"] ++ wsX20)
def wsX2_thrown : List Cond := .code yX2_thrown cX2_thrown 1 (some .int) :: ([.fieldLink RX2 53 "WallplanModel" "thrown" "I"] ++ wsX20)
def wsX2_in : List Cond := .code yX2_in cX2_in 3 (some .boolean) :: ([])
def wsX2_refused : List Cond := .code yX2_refused cX2_refused 2 (some .boolean) :: ([.fieldLink RX2 53 "WallplanModel" "thrown" "I"] ++ wsX20)
def wsX2_isTrade : List Cond := .code yX2_isTrade cX2_isTrade 1 (some .boolean) :: ([.methodLink RX2 57 yX2_in, .static yX2_in, .initialized RX2, .code yX2_in cX2_in 3 (some .boolean)])
def wsX2_isStorey : List Cond := .code yX2_isStorey cX2_isStorey 1 (some .boolean) :: ([.methodLink RX2 57 yX2_in, .static yX2_in, .initialized RX2, .code yX2_in cX2_in 3 (some .boolean)])
def wsX2_isElement : List Cond := .code yX2_isElement cX2_isElement 2 (some .boolean) :: ([.fieldLink RX2 61 "WallplanModel" "elements" "I", .methodLink RX2 57 yX2_in, .static yX2_in, .initialized RX2, .code yX2_in cX2_in 3 (some .boolean)] ++ wsX20)
def wsX2_isSide : List Cond := .code yX2_isSide cX2_isSide 1 (some .boolean) :: ([.methodLink RX2 57 yX2_in, .static yX2_in, .initialized RX2, .code yX2_in cX2_in 3 (some .boolean)])
def wsX2_size : List Cond := .code yX2_size cX2_size 1 (some .int) :: ([])
def wsX2_change : List Cond := .code yX2_change cX2_change 3 none :: ([.fieldLink RX2 64 "WallplanModel" "revision" "I", .fieldLink RX2 31 "WallplanModel" "changed" "[I", .fieldLink RX2 34 "WallplanModel" "by" "[I"] ++ wsX20)
def wsX2_add_r1 : List Cond := [Cond.fieldLink RX2 49 "WallplanModel" "locks" "[Z", Cond.fieldLink RX2 61 "WallplanModel" "elements" "I", Cond.fieldLink RX2 7 "WallplanModel" "kind" "[I", Cond.fieldLink RX2 13 "WallplanModel" "storey" "[I", Cond.fieldLink RX2 16 "WallplanModel" "fromX" "[I", Cond.fieldLink RX2 19 "WallplanModel" "fromY" "[I", Cond.fieldLink RX2 22 "WallplanModel" "toX" "[I", Cond.fieldLink RX2 25 "WallplanModel" "toY" "[I", Cond.methodLink RX2 67 yX2_isTrade, Cond.static yX2_isTrade, Cond.initialized RX2, Cond.code yX2_isTrade cX2_isTrade 1 (some .boolean), Cond.methodLink RX2 57 yX2_in, Cond.static yX2_in, Cond.code yX2_in cX2_in 3 (some .boolean), Cond.methodLink RX2 71 yX2_isStorey, Cond.static yX2_isStorey, Cond.code yX2_isStorey cX2_isStorey 1 (some .boolean), Cond.methodLink RX2 74 yX2_isSide, Cond.static yX2_isSide, Cond.code yX2_isSide cX2_isSide 1 (some .boolean), Cond.methodLink RX2 77 yX2_refused, Cond.instanceMethod yX2_refused, Cond.selects RX2 yX2_refused yX2_refused]
def wsX2_add_r2 : List Cond := [Cond.code yX2_refused cX2_refused 2 (some .boolean), Cond.fieldLink RX2 53 "WallplanModel" "thrown" "I", Cond.methodLink RX2 80 yX2_change, Cond.instanceMethod yX2_change, Cond.selects RX2 yX2_change yX2_change, Cond.code yX2_change cX2_change 3 none, Cond.fieldLink RX2 64 "WallplanModel" "revision" "I", Cond.fieldLink RX2 31 "WallplanModel" "changed" "[I", Cond.fieldLink RX2 34 "WallplanModel" "by" "[I"]
def wsX2_add : List Cond := .code yX2_add cX2_add 9 (some .int) :: ((wsX2_add_r1 ++ wsX2_add_r2) ++ wsX20)
def wsX2_isTaken : List Cond := .code yX2_isTaken cX2_isTaken 4 (some .boolean) :: ([.fieldLink RX2 31 "WallplanModel" "changed" "[I", .fieldLink RX2 34 "WallplanModel" "by" "[I"] ++ wsX20)
def wsX2_move_r1 : List Cond := [Cond.fieldLink RX2 64 "WallplanModel" "revision" "I", Cond.fieldLink RX2 16 "WallplanModel" "fromX" "[I", Cond.fieldLink RX2 22 "WallplanModel" "toX" "[I", Cond.fieldLink RX2 19 "WallplanModel" "fromY" "[I", Cond.fieldLink RX2 25 "WallplanModel" "toY" "[I", Cond.fieldLink RX2 28 "WallplanModel" "state" "[I", Cond.methodLink RX2 67 yX2_isTrade, Cond.static yX2_isTrade, Cond.initialized RX2, Cond.code yX2_isTrade cX2_isTrade 1 (some .boolean), Cond.methodLink RX2 57 yX2_in, Cond.static yX2_in, Cond.code yX2_in cX2_in 3 (some .boolean), Cond.methodLink RX2 84 yX2_isElement, Cond.instanceMethod yX2_isElement, Cond.selects RX2 yX2_isElement yX2_isElement, Cond.code yX2_isElement cX2_isElement 2 (some .boolean), Cond.fieldLink RX2 61 "WallplanModel" "elements" "I", Cond.methodLink RX2 74 yX2_isSide, Cond.static yX2_isSide, Cond.code yX2_isSide cX2_isSide 1 (some .boolean), Cond.methodLink RX2 77 yX2_refused, Cond.instanceMethod yX2_refused, Cond.selects RX2 yX2_refused yX2_refused]
def wsX2_move_r2 : List Cond := [Cond.code yX2_refused cX2_refused 2 (some .boolean), Cond.fieldLink RX2 53 "WallplanModel" "thrown" "I", Cond.methodLink RX2 87 yX2_isTaken, Cond.instanceMethod yX2_isTaken, Cond.selects RX2 yX2_isTaken yX2_isTaken, Cond.code yX2_isTaken cX2_isTaken 4 (some .boolean), Cond.fieldLink RX2 31 "WallplanModel" "changed" "[I", Cond.fieldLink RX2 34 "WallplanModel" "by" "[I", Cond.methodLink RX2 80 yX2_change, Cond.instanceMethod yX2_change, Cond.selects RX2 yX2_change yX2_change, Cond.code yX2_change cX2_change 3 none]
def wsX2_move : List Cond := .code yX2_move cX2_move 8 (some .boolean) :: ((wsX2_move_r1 ++ wsX2_move_r2) ++ wsX20)
def wsX2_remove_r1 : List Cond := [Cond.fieldLink RX2 64 "WallplanModel" "revision" "I", Cond.fieldLink RX2 28 "WallplanModel" "state" "[I", Cond.methodLink RX2 67 yX2_isTrade, Cond.static yX2_isTrade, Cond.initialized RX2, Cond.code yX2_isTrade cX2_isTrade 1 (some .boolean), Cond.methodLink RX2 57 yX2_in, Cond.static yX2_in, Cond.code yX2_in cX2_in 3 (some .boolean), Cond.methodLink RX2 84 yX2_isElement, Cond.instanceMethod yX2_isElement, Cond.selects RX2 yX2_isElement yX2_isElement, Cond.code yX2_isElement cX2_isElement 2 (some .boolean), Cond.fieldLink RX2 61 "WallplanModel" "elements" "I", Cond.methodLink RX2 77 yX2_refused, Cond.instanceMethod yX2_refused, Cond.selects RX2 yX2_refused yX2_refused, Cond.code yX2_refused cX2_refused 2 (some .boolean), Cond.fieldLink RX2 53 "WallplanModel" "thrown" "I", Cond.methodLink RX2 80 yX2_change, Cond.instanceMethod yX2_change, Cond.selects RX2 yX2_change yX2_change, Cond.code yX2_change cX2_change 3 none, Cond.fieldLink RX2 31 "WallplanModel" "changed" "[I"]
def wsX2_remove_r2 : List Cond := [Cond.fieldLink RX2 34 "WallplanModel" "by" "[I"]
def wsX2_remove : List Cond := .code yX2_remove cX2_remove 5 (some .boolean) :: ((wsX2_remove_r1 ++ wsX2_remove_r2) ++ wsX20)
def wsX2_clear : List Cond := .code yX2_clear cX2_clear 6 (some .int) :: ([.fieldLink RX2 40 "WallplanModel" "clearance" "[I", .methodLink RX2 67 yX2_isTrade, .static yX2_isTrade, .initialized RX2, .code yX2_isTrade cX2_isTrade 1 (some .boolean), .methodLink RX2 57 yX2_in, .static yX2_in, .code yX2_in cX2_in 3 (some .boolean), .methodLink RX2 77 yX2_refused, .instanceMethod yX2_refused, .selects RX2 yX2_refused yX2_refused, .code yX2_refused cX2_refused 2 (some .boolean), .fieldLink RX2 53 "WallplanModel" "thrown" "I"] ++ wsX20)
def wsX2_part : List Cond := .code yX2_part cX2_part 4 (some .int) :: ([.fieldLink RX2 43 "WallplanModel" "cells" "[I", .methodLink RX2 67 yX2_isTrade, .static yX2_isTrade, .initialized RX2, .code yX2_isTrade cX2_isTrade 1 (some .boolean), .methodLink RX2 57 yX2_in, .static yX2_in, .code yX2_in cX2_in 3 (some .boolean), .methodLink RX2 77 yX2_refused, .instanceMethod yX2_refused, .selects RX2 yX2_refused yX2_refused, .code yX2_refused cX2_refused 2 (some .boolean), .fieldLink RX2 53 "WallplanModel" "thrown" "I"] ++ wsX20)
def wsX2_lead : List Cond := .code yX2_lead cX2_lead 4 (some .int) :: ([.fieldLink RX2 46 "WallplanModel" "leads" "[I", .methodLink RX2 67 yX2_isTrade, .static yX2_isTrade, .initialized RX2, .code yX2_isTrade cX2_isTrade 1 (some .boolean), .methodLink RX2 57 yX2_in, .static yX2_in, .code yX2_in cX2_in 3 (some .boolean), .methodLink RX2 77 yX2_refused, .instanceMethod yX2_refused, .selects RX2 yX2_refused yX2_refused, .code yX2_refused cX2_refused 2 (some .boolean), .fieldLink RX2 53 "WallplanModel" "thrown" "I"] ++ wsX20)
def wsX2_cellsOf : List Cond := .code yX2_cellsOf cX2_cellsOf 2 (some .int) :: ([.fieldLink RX2 22 "WallplanModel" "toX" "[I", .fieldLink RX2 16 "WallplanModel" "fromX" "[I", .fieldLink RX2 25 "WallplanModel" "toY" "[I", .fieldLink RX2 19 "WallplanModel" "fromY" "[I", .methodLink RX2 90 yX2_size, .static yX2_size, .initialized RX2, .code yX2_size cX2_size 1 (some .int)] ++ wsX20)
def wsX2_partsOf : List Cond := .code yX2_partsOf cX2_partsOf 2 (some .int) :: ([.fieldLink RX2 43 "WallplanModel" "cells" "[I", .fieldLink RX2 7 "WallplanModel" "kind" "[I", .methodLink RX2 94 yX2_cellsOf, .instanceMethod yX2_cellsOf, .selects RX2 yX2_cellsOf yX2_cellsOf, .initialized RX2, .code yX2_cellsOf cX2_cellsOf 2 (some .int), .fieldLink RX2 22 "WallplanModel" "toX" "[I", .fieldLink RX2 16 "WallplanModel" "fromX" "[I", .fieldLink RX2 25 "WallplanModel" "toY" "[I", .fieldLink RX2 19 "WallplanModel" "fromY" "[I", .methodLink RX2 90 yX2_size, .static yX2_size, .code yX2_size cX2_size 1 (some .int)] ++ wsX20)
def wsX2_order_r1 : List Cond := [Cond.fieldLink RX2 28 "WallplanModel" "state" "[I", Cond.fieldLink RX2 37 "WallplanModel" "due" "[I", Cond.fieldLink RX2 97 "WallplanModel" "day" "I", Cond.fieldLink RX2 46 "WallplanModel" "leads" "[I", Cond.fieldLink RX2 7 "WallplanModel" "kind" "[I", Cond.methodLink RX2 84 yX2_isElement, Cond.instanceMethod yX2_isElement, Cond.selects RX2 yX2_isElement yX2_isElement, Cond.initialized RX2, Cond.code yX2_isElement cX2_isElement 2 (some .boolean), Cond.fieldLink RX2 61 "WallplanModel" "elements" "I", Cond.methodLink RX2 57 yX2_in, Cond.static yX2_in, Cond.code yX2_in cX2_in 3 (some .boolean), Cond.methodLink RX2 77 yX2_refused, Cond.instanceMethod yX2_refused, Cond.selects RX2 yX2_refused yX2_refused, Cond.code yX2_refused cX2_refused 2 (some .boolean), Cond.fieldLink RX2 53 "WallplanModel" "thrown" "I", Cond.methodLink RX2 100 yX2_partsOf, Cond.instanceMethod yX2_partsOf, Cond.selects RX2 yX2_partsOf yX2_partsOf, Cond.code yX2_partsOf cX2_partsOf 2 (some .int), Cond.fieldLink RX2 43 "WallplanModel" "cells" "[I"]
def wsX2_order_r2 : List Cond := [Cond.methodLink RX2 94 yX2_cellsOf, Cond.instanceMethod yX2_cellsOf, Cond.selects RX2 yX2_cellsOf yX2_cellsOf, Cond.code yX2_cellsOf cX2_cellsOf 2 (some .int), Cond.fieldLink RX2 22 "WallplanModel" "toX" "[I", Cond.fieldLink RX2 16 "WallplanModel" "fromX" "[I", Cond.fieldLink RX2 25 "WallplanModel" "toY" "[I", Cond.fieldLink RX2 19 "WallplanModel" "fromY" "[I", Cond.methodLink RX2 90 yX2_size, Cond.static yX2_size, Cond.code yX2_size cX2_size 1 (some .int)]
def wsX2_order : List Cond := .code yX2_order cX2_order 3 (some .int) :: ((wsX2_order_r1 ++ wsX2_order_r2) ++ wsX20)
def wsX2_cancel : List Cond := .code yX2_cancel cX2_cancel 3 (some .int) :: ([.fieldLink RX2 28 "WallplanModel" "state" "[I", .fieldLink RX2 37 "WallplanModel" "due" "[I", .fieldLink RX2 97 "WallplanModel" "day" "I", .methodLink RX2 84 yX2_isElement, .instanceMethod yX2_isElement, .selects RX2 yX2_isElement yX2_isElement, .initialized RX2, .code yX2_isElement cX2_isElement 2 (some .boolean), .fieldLink RX2 61 "WallplanModel" "elements" "I", .methodLink RX2 57 yX2_in, .static yX2_in, .code yX2_in cX2_in 3 (some .boolean), .methodLink RX2 77 yX2_refused, .instanceMethod yX2_refused, .selects RX2 yX2_refused yX2_refused, .code yX2_refused cX2_refused 2 (some .boolean), .fieldLink RX2 53 "WallplanModel" "thrown" "I"] ++ wsX20)
def wsX2_gap : List Cond := .code yX2_gap cX2_gap 8 (some .int) :: ([])
def wsX2_doClash : List Cond := .code yX2_doClash cX2_doClash 5 (some .boolean) :: ([.fieldLink RX2 28 "WallplanModel" "state" "[I", .fieldLink RX2 13 "WallplanModel" "storey" "[I", .fieldLink RX2 16 "WallplanModel" "fromX" "[I", .fieldLink RX2 22 "WallplanModel" "toX" "[I", .fieldLink RX2 19 "WallplanModel" "fromY" "[I", .fieldLink RX2 25 "WallplanModel" "toY" "[I", .fieldLink RX2 40 "WallplanModel" "clearance" "[I", .fieldLink RX2 7 "WallplanModel" "kind" "[I", .methodLink RX2 103 yX2_gap, .static yX2_gap, .initialized RX2, .code yX2_gap cX2_gap 8 (some .int)] ++ wsX20)
def wsX2_hasClash : List Cond := .code yX2_hasClash cX2_hasClash 4 (some .boolean) :: ([.fieldLink RX2 61 "WallplanModel" "elements" "I", .methodLink RX2 107 yX2_doClash, .instanceMethod yX2_doClash, .selects RX2 yX2_doClash yX2_doClash, .initialized RX2, .code yX2_doClash cX2_doClash 5 (some .boolean), .fieldLink RX2 28 "WallplanModel" "state" "[I", .fieldLink RX2 13 "WallplanModel" "storey" "[I", .fieldLink RX2 16 "WallplanModel" "fromX" "[I", .fieldLink RX2 22 "WallplanModel" "toX" "[I", .fieldLink RX2 19 "WallplanModel" "fromY" "[I", .fieldLink RX2 25 "WallplanModel" "toY" "[I", .fieldLink RX2 40 "WallplanModel" "clearance" "[I", .fieldLink RX2 7 "WallplanModel" "kind" "[I", .methodLink RX2 103 yX2_gap, .static yX2_gap, .code yX2_gap cX2_gap 8 (some .int)] ++ wsX20)
def wsX2_build_r1 : List Cond := [Cond.fieldLink RX2 28 "WallplanModel" "state" "[I", Cond.methodLink RX2 84 yX2_isElement, Cond.instanceMethod yX2_isElement, Cond.selects RX2 yX2_isElement yX2_isElement, Cond.initialized RX2, Cond.code yX2_isElement cX2_isElement 2 (some .boolean), Cond.fieldLink RX2 61 "WallplanModel" "elements" "I", Cond.methodLink RX2 57 yX2_in, Cond.static yX2_in, Cond.code yX2_in cX2_in 3 (some .boolean), Cond.methodLink RX2 77 yX2_refused, Cond.instanceMethod yX2_refused, Cond.selects RX2 yX2_refused yX2_refused, Cond.code yX2_refused cX2_refused 2 (some .boolean), Cond.fieldLink RX2 53 "WallplanModel" "thrown" "I", Cond.methodLink RX2 111 yX2_hasClash, Cond.instanceMethod yX2_hasClash, Cond.selects RX2 yX2_hasClash yX2_hasClash, Cond.code yX2_hasClash cX2_hasClash 4 (some .boolean), Cond.methodLink RX2 107 yX2_doClash, Cond.instanceMethod yX2_doClash, Cond.selects RX2 yX2_doClash yX2_doClash, Cond.code yX2_doClash cX2_doClash 5 (some .boolean), Cond.fieldLink RX2 13 "WallplanModel" "storey" "[I"]
def wsX2_build_r2 : List Cond := [Cond.fieldLink RX2 16 "WallplanModel" "fromX" "[I", Cond.fieldLink RX2 22 "WallplanModel" "toX" "[I", Cond.fieldLink RX2 19 "WallplanModel" "fromY" "[I", Cond.fieldLink RX2 25 "WallplanModel" "toY" "[I", Cond.fieldLink RX2 40 "WallplanModel" "clearance" "[I", Cond.fieldLink RX2 7 "WallplanModel" "kind" "[I", Cond.methodLink RX2 103 yX2_gap, Cond.static yX2_gap, Cond.code yX2_gap cX2_gap 8 (some .int)]
def wsX2_build : List Cond := .code yX2_build cX2_build 3 (some .boolean) :: ((wsX2_build_r1 ++ wsX2_build_r2) ++ wsX20)
def wsX2_inspect_r1 : List Cond := [Cond.fieldLink RX2 49 "WallplanModel" "locks" "[Z", Cond.fieldLink RX2 61 "WallplanModel" "elements" "I", Cond.fieldLink RX2 13 "WallplanModel" "storey" "[I", Cond.fieldLink RX2 28 "WallplanModel" "state" "[I", Cond.methodLink RX2 71 yX2_isStorey, Cond.static yX2_isStorey, Cond.initialized RX2, Cond.code yX2_isStorey cX2_isStorey 1 (some .boolean), Cond.methodLink RX2 57 yX2_in, Cond.static yX2_in, Cond.code yX2_in cX2_in 3 (some .boolean), Cond.methodLink RX2 77 yX2_refused, Cond.instanceMethod yX2_refused, Cond.selects RX2 yX2_refused yX2_refused, Cond.code yX2_refused cX2_refused 2 (some .boolean), Cond.fieldLink RX2 53 "WallplanModel" "thrown" "I", Cond.methodLink RX2 111 yX2_hasClash, Cond.instanceMethod yX2_hasClash, Cond.selects RX2 yX2_hasClash yX2_hasClash, Cond.code yX2_hasClash cX2_hasClash 4 (some .boolean), Cond.methodLink RX2 107 yX2_doClash, Cond.instanceMethod yX2_doClash, Cond.selects RX2 yX2_doClash yX2_doClash, Cond.code yX2_doClash cX2_doClash 5 (some .boolean)]
def wsX2_inspect_r2 : List Cond := [Cond.fieldLink RX2 16 "WallplanModel" "fromX" "[I", Cond.fieldLink RX2 22 "WallplanModel" "toX" "[I", Cond.fieldLink RX2 19 "WallplanModel" "fromY" "[I", Cond.fieldLink RX2 25 "WallplanModel" "toY" "[I", Cond.fieldLink RX2 40 "WallplanModel" "clearance" "[I", Cond.fieldLink RX2 7 "WallplanModel" "kind" "[I", Cond.methodLink RX2 103 yX2_gap, Cond.static yX2_gap, Cond.code yX2_gap cX2_gap 8 (some .int)]
def wsX2_inspect : List Cond := .code yX2_inspect cX2_inspect 6 (some .boolean) :: ((wsX2_inspect_r1 ++ wsX2_inspect_r2) ++ wsX20)
def wsX2_pass : List Cond := .code yX2_pass cX2_pass 3 (some .int) :: ([.fieldLink RX2 97 "WallplanModel" "day" "I", .fieldLink RX2 61 "WallplanModel" "elements" "I", .fieldLink RX2 28 "WallplanModel" "state" "[I", .fieldLink RX2 37 "WallplanModel" "due" "[I", .methodLink RX2 57 yX2_in, .static yX2_in, .initialized RX2, .code yX2_in cX2_in 3 (some .boolean), .methodLink RX2 77 yX2_refused, .instanceMethod yX2_refused, .selects RX2 yX2_refused yX2_refused, .code yX2_refused cX2_refused 2 (some .boolean), .fieldLink RX2 53 "WallplanModel" "thrown" "I"] ++ wsX20)
def wsX2_day : List Cond := .code yX2_day cX2_day 1 (some .int) :: ([.fieldLink RX2 53 "WallplanModel" "thrown" "I", .fieldLink RX2 97 "WallplanModel" "day" "I"] ++ wsX20)
def wsX2_revision : List Cond := .code yX2_revision cX2_revision 1 (some .int) :: ([.fieldLink RX2 53 "WallplanModel" "thrown" "I", .fieldLink RX2 64 "WallplanModel" "revision" "I"] ++ wsX20)
def wsX2_elementOf_r1 : List Cond := [Cond.fieldLink RX2 7 "WallplanModel" "kind" "[I", Cond.fieldLink RX2 13 "WallplanModel" "storey" "[I", Cond.fieldLink RX2 16 "WallplanModel" "fromX" "[I", Cond.fieldLink RX2 19 "WallplanModel" "fromY" "[I", Cond.fieldLink RX2 22 "WallplanModel" "toX" "[I", Cond.fieldLink RX2 25 "WallplanModel" "toY" "[I", Cond.fieldLink RX2 28 "WallplanModel" "state" "[I", Cond.fieldLink RX2 31 "WallplanModel" "changed" "[I", Cond.fieldLink RX2 34 "WallplanModel" "by" "[I", Cond.methodLink RX2 84 yX2_isElement, Cond.instanceMethod yX2_isElement, Cond.selects RX2 yX2_isElement yX2_isElement, Cond.initialized RX2, Cond.code yX2_isElement cX2_isElement 2 (some .boolean), Cond.fieldLink RX2 61 "WallplanModel" "elements" "I", Cond.methodLink RX2 57 yX2_in, Cond.static yX2_in, Cond.code yX2_in cX2_in 3 (some .boolean), Cond.methodLink RX2 77 yX2_refused, Cond.instanceMethod yX2_refused, Cond.selects RX2 yX2_refused yX2_refused, Cond.code yX2_refused cX2_refused 2 (some .boolean), Cond.fieldLink RX2 53 "WallplanModel" "thrown" "I", Cond.methodLink RX2 94 yX2_cellsOf]
def wsX2_elementOf_r2 : List Cond := [Cond.instanceMethod yX2_cellsOf, Cond.selects RX2 yX2_cellsOf yX2_cellsOf, Cond.code yX2_cellsOf cX2_cellsOf 2 (some .int), Cond.methodLink RX2 90 yX2_size, Cond.static yX2_size, Cond.code yX2_size cX2_size 1 (some .int)]
def wsX2_elementOf : List Cond := .code yX2_elementOf cX2_elementOf 3 (some .int) :: ((wsX2_elementOf_r1 ++ wsX2_elementOf_r2) ++ wsX20)
def wsX2_clash_r1 : List Cond := [Cond.methodLink RX2 84 yX2_isElement, Cond.instanceMethod yX2_isElement, Cond.selects RX2 yX2_isElement yX2_isElement, Cond.initialized RX2, Cond.code yX2_isElement cX2_isElement 2 (some .boolean), Cond.fieldLink RX2 61 "WallplanModel" "elements" "I", Cond.methodLink RX2 57 yX2_in, Cond.static yX2_in, Cond.code yX2_in cX2_in 3 (some .boolean), Cond.methodLink RX2 77 yX2_refused, Cond.instanceMethod yX2_refused, Cond.selects RX2 yX2_refused yX2_refused, Cond.code yX2_refused cX2_refused 2 (some .boolean), Cond.fieldLink RX2 53 "WallplanModel" "thrown" "I", Cond.methodLink RX2 107 yX2_doClash, Cond.instanceMethod yX2_doClash, Cond.selects RX2 yX2_doClash yX2_doClash, Cond.code yX2_doClash cX2_doClash 5 (some .boolean), Cond.fieldLink RX2 28 "WallplanModel" "state" "[I", Cond.fieldLink RX2 13 "WallplanModel" "storey" "[I", Cond.fieldLink RX2 16 "WallplanModel" "fromX" "[I", Cond.fieldLink RX2 22 "WallplanModel" "toX" "[I", Cond.fieldLink RX2 19 "WallplanModel" "fromY" "[I", Cond.fieldLink RX2 25 "WallplanModel" "toY" "[I"]
def wsX2_clash_r2 : List Cond := [Cond.fieldLink RX2 40 "WallplanModel" "clearance" "[I", Cond.fieldLink RX2 7 "WallplanModel" "kind" "[I", Cond.methodLink RX2 103 yX2_gap, Cond.static yX2_gap, Cond.code yX2_gap cX2_gap 8 (some .int)]
def wsX2_clash : List Cond := .code yX2_clash cX2_clash 3 (some .boolean) :: ((wsX2_clash_r1 ++ wsX2_clash_r2) ++ wsX20)
def wsX2_clashes_r1 : List Cond := [Cond.fieldLink RX2 61 "WallplanModel" "elements" "I", Cond.fieldLink RX2 13 "WallplanModel" "storey" "[I", Cond.methodLink RX2 71 yX2_isStorey, Cond.static yX2_isStorey, Cond.initialized RX2, Cond.code yX2_isStorey cX2_isStorey 1 (some .boolean), Cond.methodLink RX2 57 yX2_in, Cond.static yX2_in, Cond.code yX2_in cX2_in 3 (some .boolean), Cond.methodLink RX2 77 yX2_refused, Cond.instanceMethod yX2_refused, Cond.selects RX2 yX2_refused yX2_refused, Cond.code yX2_refused cX2_refused 2 (some .boolean), Cond.fieldLink RX2 53 "WallplanModel" "thrown" "I", Cond.methodLink RX2 107 yX2_doClash, Cond.instanceMethod yX2_doClash, Cond.selects RX2 yX2_doClash yX2_doClash, Cond.code yX2_doClash cX2_doClash 5 (some .boolean), Cond.fieldLink RX2 28 "WallplanModel" "state" "[I", Cond.fieldLink RX2 16 "WallplanModel" "fromX" "[I", Cond.fieldLink RX2 22 "WallplanModel" "toX" "[I", Cond.fieldLink RX2 19 "WallplanModel" "fromY" "[I", Cond.fieldLink RX2 25 "WallplanModel" "toY" "[I", Cond.fieldLink RX2 40 "WallplanModel" "clearance" "[I"]
def wsX2_clashes_r2 : List Cond := [Cond.fieldLink RX2 7 "WallplanModel" "kind" "[I", Cond.methodLink RX2 103 yX2_gap, Cond.static yX2_gap, Cond.code yX2_gap cX2_gap 8 (some .int)]
def wsX2_clashes : List Cond := .code yX2_clashes cX2_clashes 5 (some .int) :: ((wsX2_clashes_r1 ++ wsX2_clashes_r2) ++ wsX20)
def wsX2_isStopped_r1 : List Cond := [Cond.fieldLink RX2 61 "WallplanModel" "elements" "I", Cond.fieldLink RX2 7 "WallplanModel" "kind" "[I", Cond.fieldLink RX2 13 "WallplanModel" "storey" "[I", Cond.methodLink RX2 67 yX2_isTrade, Cond.static yX2_isTrade, Cond.initialized RX2, Cond.code yX2_isTrade cX2_isTrade 1 (some .boolean), Cond.methodLink RX2 57 yX2_in, Cond.static yX2_in, Cond.code yX2_in cX2_in 3 (some .boolean), Cond.methodLink RX2 71 yX2_isStorey, Cond.static yX2_isStorey, Cond.code yX2_isStorey cX2_isStorey 1 (some .boolean), Cond.methodLink RX2 77 yX2_refused, Cond.instanceMethod yX2_refused, Cond.selects RX2 yX2_refused yX2_refused, Cond.code yX2_refused cX2_refused 2 (some .boolean), Cond.fieldLink RX2 53 "WallplanModel" "thrown" "I", Cond.methodLink RX2 111 yX2_hasClash, Cond.instanceMethod yX2_hasClash, Cond.selects RX2 yX2_hasClash yX2_hasClash, Cond.code yX2_hasClash cX2_hasClash 4 (some .boolean), Cond.methodLink RX2 107 yX2_doClash, Cond.instanceMethod yX2_doClash]
def wsX2_isStopped_r2 : List Cond := [Cond.selects RX2 yX2_doClash yX2_doClash, Cond.code yX2_doClash cX2_doClash 5 (some .boolean), Cond.fieldLink RX2 28 "WallplanModel" "state" "[I", Cond.fieldLink RX2 16 "WallplanModel" "fromX" "[I", Cond.fieldLink RX2 22 "WallplanModel" "toX" "[I", Cond.fieldLink RX2 19 "WallplanModel" "fromY" "[I", Cond.fieldLink RX2 25 "WallplanModel" "toY" "[I", Cond.fieldLink RX2 40 "WallplanModel" "clearance" "[I", Cond.methodLink RX2 103 yX2_gap, Cond.static yX2_gap, Cond.code yX2_gap cX2_gap 8 (some .int)]
def wsX2_isStopped : List Cond := .code yX2_isStopped cX2_isStopped 5 (some .boolean) :: ((wsX2_isStopped_r1 ++ wsX2_isStopped_r2) ++ wsX20)
def wsX2_partsFrom : List Cond := .code yX2_partsFrom cX2_partsFrom 5 (some .int) :: ([.fieldLink RX2 61 "WallplanModel" "elements" "I", .fieldLink RX2 7 "WallplanModel" "kind" "[I", .fieldLink RX2 28 "WallplanModel" "state" "[I", .methodLink RX2 57 yX2_in, .static yX2_in, .initialized RX2, .code yX2_in cX2_in 3 (some .boolean), .methodLink RX2 100 yX2_partsOf, .instanceMethod yX2_partsOf, .selects RX2 yX2_partsOf yX2_partsOf, .code yX2_partsOf cX2_partsOf 2 (some .int), .fieldLink RX2 43 "WallplanModel" "cells" "[I", .methodLink RX2 94 yX2_cellsOf, .instanceMethod yX2_cellsOf, .selects RX2 yX2_cellsOf yX2_cellsOf, .code yX2_cellsOf cX2_cellsOf 2 (some .int), .fieldLink RX2 22 "WallplanModel" "toX" "[I", .fieldLink RX2 16 "WallplanModel" "fromX" "[I", .fieldLink RX2 25 "WallplanModel" "toY" "[I", .fieldLink RX2 19 "WallplanModel" "fromY" "[I", .methodLink RX2 90 yX2_size, .static yX2_size, .code yX2_size cX2_size 1 (some .int)] ++ wsX20)
def wsX2_parts_r1 : List Cond := [Cond.methodLink RX2 67 yX2_isTrade, Cond.static yX2_isTrade, Cond.initialized RX2, Cond.code yX2_isTrade cX2_isTrade 1 (some .boolean), Cond.methodLink RX2 57 yX2_in, Cond.static yX2_in, Cond.code yX2_in cX2_in 3 (some .boolean), Cond.methodLink RX2 77 yX2_refused, Cond.instanceMethod yX2_refused, Cond.selects RX2 yX2_refused yX2_refused, Cond.code yX2_refused cX2_refused 2 (some .boolean), Cond.fieldLink RX2 53 "WallplanModel" "thrown" "I", Cond.methodLink RX2 114 yX2_partsFrom, Cond.instanceMethod yX2_partsFrom, Cond.selects RX2 yX2_partsFrom yX2_partsFrom, Cond.code yX2_partsFrom cX2_partsFrom 5 (some .int), Cond.fieldLink RX2 61 "WallplanModel" "elements" "I", Cond.fieldLink RX2 7 "WallplanModel" "kind" "[I", Cond.fieldLink RX2 28 "WallplanModel" "state" "[I", Cond.methodLink RX2 100 yX2_partsOf, Cond.instanceMethod yX2_partsOf, Cond.selects RX2 yX2_partsOf yX2_partsOf, Cond.code yX2_partsOf cX2_partsOf 2 (some .int), Cond.fieldLink RX2 43 "WallplanModel" "cells" "[I"]
def wsX2_parts_r2 : List Cond := [Cond.methodLink RX2 94 yX2_cellsOf, Cond.instanceMethod yX2_cellsOf, Cond.selects RX2 yX2_cellsOf yX2_cellsOf, Cond.code yX2_cellsOf cX2_cellsOf 2 (some .int), Cond.fieldLink RX2 22 "WallplanModel" "toX" "[I", Cond.fieldLink RX2 16 "WallplanModel" "fromX" "[I", Cond.fieldLink RX2 25 "WallplanModel" "toY" "[I", Cond.fieldLink RX2 19 "WallplanModel" "fromY" "[I", Cond.methodLink RX2 90 yX2_size, Cond.static yX2_size, Cond.code yX2_size cX2_size 1 (some .int)]
def wsX2_parts : List Cond := .code yX2_parts cX2_parts 2 (some .int) :: ((wsX2_parts_r1 ++ wsX2_parts_r2) ++ wsX20)
def wsX2_partsAnew_r1 : List Cond := [Cond.methodLink RX2 118 yX2_parts, Cond.instanceMethod yX2_parts, Cond.selects RX2 yX2_parts yX2_parts, Cond.initialized RX2, Cond.code yX2_parts cX2_parts 2 (some .int), Cond.methodLink RX2 67 yX2_isTrade, Cond.static yX2_isTrade, Cond.code yX2_isTrade cX2_isTrade 1 (some .boolean), Cond.methodLink RX2 57 yX2_in, Cond.static yX2_in, Cond.code yX2_in cX2_in 3 (some .boolean), Cond.methodLink RX2 77 yX2_refused, Cond.instanceMethod yX2_refused, Cond.selects RX2 yX2_refused yX2_refused, Cond.code yX2_refused cX2_refused 2 (some .boolean), Cond.fieldLink RX2 53 "WallplanModel" "thrown" "I", Cond.methodLink RX2 114 yX2_partsFrom, Cond.instanceMethod yX2_partsFrom, Cond.selects RX2 yX2_partsFrom yX2_partsFrom, Cond.code yX2_partsFrom cX2_partsFrom 5 (some .int), Cond.fieldLink RX2 61 "WallplanModel" "elements" "I", Cond.fieldLink RX2 7 "WallplanModel" "kind" "[I", Cond.fieldLink RX2 28 "WallplanModel" "state" "[I", Cond.methodLink RX2 100 yX2_partsOf]
def wsX2_partsAnew_r2 : List Cond := [Cond.instanceMethod yX2_partsOf, Cond.selects RX2 yX2_partsOf yX2_partsOf, Cond.code yX2_partsOf cX2_partsOf 2 (some .int), Cond.fieldLink RX2 43 "WallplanModel" "cells" "[I", Cond.methodLink RX2 94 yX2_cellsOf, Cond.instanceMethod yX2_cellsOf, Cond.selects RX2 yX2_cellsOf yX2_cellsOf, Cond.code yX2_cellsOf cX2_cellsOf 2 (some .int), Cond.fieldLink RX2 22 "WallplanModel" "toX" "[I", Cond.fieldLink RX2 16 "WallplanModel" "fromX" "[I", Cond.fieldLink RX2 25 "WallplanModel" "toY" "[I", Cond.fieldLink RX2 19 "WallplanModel" "fromY" "[I", Cond.methodLink RX2 90 yX2_size, Cond.static yX2_size, Cond.code yX2_size cX2_size 1 (some .int)]
def wsX2_partsAnew : List Cond := .code yX2_partsAnew cX2_partsAnew 2 (some .int) :: ((wsX2_partsAnew_r1 ++ wsX2_partsAnew_r2) ++ wsX20)
def wsX2_ordered_r1 : List Cond := [Cond.methodLink RX2 67 yX2_isTrade, Cond.static yX2_isTrade, Cond.initialized RX2, Cond.code yX2_isTrade cX2_isTrade 1 (some .boolean), Cond.methodLink RX2 57 yX2_in, Cond.static yX2_in, Cond.code yX2_in cX2_in 3 (some .boolean), Cond.methodLink RX2 77 yX2_refused, Cond.instanceMethod yX2_refused, Cond.selects RX2 yX2_refused yX2_refused, Cond.code yX2_refused cX2_refused 2 (some .boolean), Cond.fieldLink RX2 53 "WallplanModel" "thrown" "I", Cond.methodLink RX2 114 yX2_partsFrom, Cond.instanceMethod yX2_partsFrom, Cond.selects RX2 yX2_partsFrom yX2_partsFrom, Cond.code yX2_partsFrom cX2_partsFrom 5 (some .int), Cond.fieldLink RX2 61 "WallplanModel" "elements" "I", Cond.fieldLink RX2 7 "WallplanModel" "kind" "[I", Cond.fieldLink RX2 28 "WallplanModel" "state" "[I", Cond.methodLink RX2 100 yX2_partsOf, Cond.instanceMethod yX2_partsOf, Cond.selects RX2 yX2_partsOf yX2_partsOf, Cond.code yX2_partsOf cX2_partsOf 2 (some .int), Cond.fieldLink RX2 43 "WallplanModel" "cells" "[I"]
def wsX2_ordered_r2 : List Cond := [Cond.methodLink RX2 94 yX2_cellsOf, Cond.instanceMethod yX2_cellsOf, Cond.selects RX2 yX2_cellsOf yX2_cellsOf, Cond.code yX2_cellsOf cX2_cellsOf 2 (some .int), Cond.fieldLink RX2 22 "WallplanModel" "toX" "[I", Cond.fieldLink RX2 16 "WallplanModel" "fromX" "[I", Cond.fieldLink RX2 25 "WallplanModel" "toY" "[I", Cond.fieldLink RX2 19 "WallplanModel" "fromY" "[I", Cond.methodLink RX2 90 yX2_size, Cond.static yX2_size, Cond.code yX2_size cX2_size 1 (some .int)]
def wsX2_ordered : List Cond := .code yX2_ordered cX2_ordered 2 (some .int) :: ((wsX2_ordered_r1 ++ wsX2_ordered_r2) ++ wsX20)
def wsX2_kindsAt_r1 : List Cond := [Cond.fieldLink RX2 61 "WallplanModel" "elements" "I", Cond.fieldLink RX2 28 "WallplanModel" "state" "[I", Cond.fieldLink RX2 13 "WallplanModel" "storey" "[I", Cond.fieldLink RX2 16 "WallplanModel" "fromX" "[I", Cond.fieldLink RX2 22 "WallplanModel" "toX" "[I", Cond.fieldLink RX2 19 "WallplanModel" "fromY" "[I", Cond.fieldLink RX2 25 "WallplanModel" "toY" "[I", Cond.fieldLink RX2 7 "WallplanModel" "kind" "[I", Cond.methodLink RX2 71 yX2_isStorey, Cond.static yX2_isStorey, Cond.initialized RX2, Cond.code yX2_isStorey cX2_isStorey 1 (some .boolean), Cond.methodLink RX2 57 yX2_in, Cond.static yX2_in, Cond.code yX2_in cX2_in 3 (some .boolean), Cond.methodLink RX2 74 yX2_isSide, Cond.static yX2_isSide, Cond.code yX2_isSide cX2_isSide 1 (some .boolean), Cond.methodLink RX2 77 yX2_refused, Cond.instanceMethod yX2_refused, Cond.selects RX2 yX2_refused yX2_refused, Cond.code yX2_refused cX2_refused 2 (some .boolean), Cond.fieldLink RX2 53 "WallplanModel" "thrown" "I", Cond.methodLink RX2 103 yX2_gap]
def wsX2_kindsAt_r2 : List Cond := [Cond.static yX2_gap, Cond.code yX2_gap cX2_gap 8 (some .int)]
def wsX2_kindsAt : List Cond := .code yX2_kindsAt cX2_kindsAt 7 (some .int) :: ((wsX2_kindsAt_r1 ++ wsX2_kindsAt_r2) ++ wsX20)
def wsX2_isLocked : List Cond := .code yX2_isLocked cX2_isLocked 2 (some .boolean) :: ([.fieldLink RX2 49 "WallplanModel" "locks" "[Z", .methodLink RX2 71 yX2_isStorey, .static yX2_isStorey, .initialized RX2, .code yX2_isStorey cX2_isStorey 1 (some .boolean), .methodLink RX2 57 yX2_in, .static yX2_in, .code yX2_in cX2_in 3 (some .boolean), .methodLink RX2 77 yX2_refused, .instanceMethod yX2_refused, .selects RX2 yX2_refused yX2_refused, .code yX2_refused cX2_refused 2 (some .boolean), .fieldLink RX2 53 "WallplanModel" "thrown" "I"] ++ wsX20)
def wsJ9_abs_0f7a4 : List Cond := .code yJ9_abs_0f7a4 cJ9_abs_0f7a4 1 (some .int) :: ([])
def wsJ9_max_7cf53 : List Cond := .code yJ9_max_7cf53 cJ9_max_7cf53 2 (some .int) :: ([])
def wsJ9_min_7cf53 : List Cond := .code yJ9_min_7cf53 cJ9_min_7cf53 2 (some .int) :: ([])
def wsL_add_r1 : List Cond := [Cond.classLink RL 13 "java/lang/IndexOutOfBoundsException", Cond.classLink RL 15 "java/lang/IllegalArgumentException", Cond.classLink RL 17 "java/lang/IllegalStateException", Cond.methodLink RL 7 yX1_add, Cond.instanceMethod yX1_add, Cond.selects RX1 yX1_add yX1_add, Cond.initialized RX1, Cond.code yX1_add cX1_add 8 (some .int), Cond.classLink RX1 46 "java/lang/IndexOutOfBoundsException", Cond.initialized "java/lang/IndexOutOfBoundsException", Cond.classLink RX1 57 "java/lang/IllegalArgumentException", Cond.initialized "java/lang/IllegalArgumentException", Cond.classLink RX1 64 "java/lang/IllegalStateException", Cond.initialized "java/lang/IllegalStateException", Cond.fieldLink RX1 29 "Wallplan" "locked" "[Z", Cond.fieldLink RX1 15 "Wallplan" "count" "I", Cond.fieldLink RX1 11 "Wallplan" "elements" "[LWallplan$Element;", Cond.fieldLink RX1 33 "Wallplan" "latestRevision" "I", Cond.classLink RX1 9 RX0, Cond.instantiable RX0 10, Cond.initialized RX0, Cond.methodLink RX1 39 yX1_isKind, Cond.static yX1_isKind, Cond.code yX1_isKind cX1_isKind 1 (some .boolean)]
def wsL_add_r2 : List Cond := [Cond.methodLink RX1 112 yX1_isWithin, Cond.static yX1_isWithin, Cond.code yX1_isWithin cX1_isWithin 3 (some .boolean), Cond.methodLink RX1 43 yX1_isStorey, Cond.static yX1_isStorey, Cond.code yX1_isStorey cX1_isStorey 1 (some .boolean), Cond.methodLink RX1 53 yX1_isCell, Cond.static yX1_isCell, Cond.code yX1_isCell cX1_isCell 2 (some .boolean), Cond.methodLink RX1 71 yX0_init, Cond.instanceMethod yX0_init, Cond.code yX0_init cX0_init 8 none, Cond.methodLink RX0 3 objectInit, Cond.instanceMethod objectInit, Cond.code objectInit ⟨#[0xb1]⟩ 1 none, Cond.fieldLink RX0 9 "Wallplan$Element" "state" "I", Cond.fieldLink RX0 15 "Wallplan$Element" "deliveryDay" "I", Cond.fieldLink RX0 18 "Wallplan$Element" "kind" "I", Cond.fieldLink RX0 21 "Wallplan$Element" "storey" "I", Cond.fieldLink RX0 24 "Wallplan$Element" "fromX" "I", Cond.fieldLink RX0 27 "Wallplan$Element" "fromY" "I", Cond.fieldLink RX0 30 "Wallplan$Element" "toX" "I", Cond.fieldLink RX0 33 "Wallplan$Element" "toY" "I", Cond.fieldLink RX0 36 "Wallplan$Element" "changeRevision" "I"]
def wsL_add_r3 : List Cond := [Cond.fieldLink RX0 39 "Wallplan$Element" "changeTrade" "I"]
def wsL_add : List Cond := .codeWith yL_add cL_add 9 (some .int) [(0, 18, 21, 13), (0, 18, 25, 15), (0, 18, 29, 17)] :: ((wsL_add_r1 ++ (wsL_add_r2 ++ wsL_add_r3)) ++ wsX10 ++ wsX00 ++ (vx_atS RX1 50 "java/lang/IndexOutOfBoundsException" ["java/lang/RuntimeException", "java/lang/Exception"]).filter goodWord ++ (vx_atS RX1 61 "java/lang/IllegalArgumentException" ["java/lang/RuntimeException", "java/lang/Exception"]).filter goodWord ++ (vx_atS RX1 68 "java/lang/IllegalStateException" ["java/lang/RuntimeException", "java/lang/Exception"]).filter goodWord)
def wsL_move_r1 : List Cond := [Cond.classLink RL 13 "java/lang/IndexOutOfBoundsException", Cond.classLink RL 15 "java/lang/IllegalArgumentException", Cond.classLink RL 17 "java/lang/IllegalStateException", Cond.methodLink RL 19 yX1_move, Cond.instanceMethod yX1_move, Cond.selects RX1 yX1_move yX1_move, Cond.initialized RX1, Cond.code yX1_move cX1_move 7 (some .boolean), Cond.classLink RX1 46 "java/lang/IndexOutOfBoundsException", Cond.initialized "java/lang/IndexOutOfBoundsException", Cond.classLink RX1 57 "java/lang/IllegalArgumentException", Cond.initialized "java/lang/IllegalArgumentException", Cond.classLink RX1 64 "java/lang/IllegalStateException", Cond.initialized "java/lang/IllegalStateException", Cond.fieldLink RX1 93 "Wallplan$Element" "state" "I", Cond.methodLink RX1 74 yX1_find, Cond.instanceMethod yX1_find, Cond.selects RX1 yX1_find yX1_find, Cond.code yX1_find cX1_find 2 (some (.object "Wallplan$Element")), Cond.fieldLink RX1 11 "Wallplan" "elements" "[LWallplan$Element;", Cond.methodLink RX1 112 yX1_isWithin, Cond.static yX1_isWithin, Cond.code yX1_isWithin cX1_isWithin 3 (some .boolean), Cond.methodLink RX1 39 yX1_isKind]
def wsL_move_r2 : List Cond := [Cond.static yX1_isKind, Cond.code yX1_isKind cX1_isKind 1 (some .boolean), Cond.methodLink RX1 80 yX1_isBase, Cond.instanceMethod yX1_isBase, Cond.selects RX1 yX1_isBase yX1_isBase, Cond.code yX1_isBase cX1_isBase 2 (some .boolean), Cond.fieldLink RX1 33 "Wallplan" "latestRevision" "I", Cond.methodLink RX1 85 yX1_isStep, Cond.static yX1_isStep, Cond.code yX1_isStep cX1_isStep 1 (some .boolean), Cond.methodLink RX1 88 yX0_staysInside, Cond.instanceMethod yX0_staysInside, Cond.selects RX0 yX0_staysInside yX0_staysInside, Cond.initialized RX0, Cond.code yX0_staysInside cX0_staysInside 3 (some .boolean), Cond.fieldLink RX0 24 "Wallplan$Element" "fromX" "I", Cond.fieldLink RX0 27 "Wallplan$Element" "fromY" "I", Cond.fieldLink RX0 30 "Wallplan$Element" "toX" "I", Cond.fieldLink RX0 33 "Wallplan$Element" "toY" "I", Cond.static yX1_isCell, Cond.code yX1_isCell cX1_isCell 2 (some .boolean), Cond.methodLink RX1 98 yX1_losesAgainstLastChange, Cond.static yX1_losesAgainstLastChange, Cond.code yX1_losesAgainstLastChange cX1_losesAgainstLastChange 3 (some .boolean)]
def wsL_move_r3 : List Cond := [Cond.fieldLink RX1 169 "Wallplan$Element" "changeRevision" "I", Cond.fieldLink RX1 172 "Wallplan$Element" "changeTrade" "I", Cond.methodLink RX1 102 yX0_shift, Cond.instanceMethod yX0_shift, Cond.selects RX0 yX0_shift yX0_shift, Cond.code yX0_shift cX0_shift 3 none, Cond.methodLink RX1 106 yX1_noteChange, Cond.instanceMethod yX1_noteChange, Cond.selects RX1 yX1_noteChange yX1_noteChange, Cond.code yX1_noteChange cX1_noteChange 3 none]
def wsL_move : List Cond := .codeWith yL_move cL_move 8 (some .int) [(0, 23, 26, 13), (0, 23, 30, 15), (0, 23, 34, 17)] :: ((wsL_move_r1 ++ (wsL_move_r2 ++ wsL_move_r3)) ++ wsX00 ++ wsX10 ++ (vx_atS RX1 50 "java/lang/IndexOutOfBoundsException" ["java/lang/RuntimeException", "java/lang/Exception"]).filter goodWord ++ (vx_atS RX1 61 "java/lang/IllegalArgumentException" ["java/lang/RuntimeException", "java/lang/Exception"]).filter goodWord ++ (vx_atS RX1 68 "java/lang/IllegalStateException" ["java/lang/RuntimeException", "java/lang/Exception"]).filter goodWord)
def wsL_remove_r1 : List Cond := [Cond.classLink RL 13 "java/lang/IndexOutOfBoundsException", Cond.classLink RL 15 "java/lang/IllegalArgumentException", Cond.classLink RL 17 "java/lang/IllegalStateException", Cond.methodLink RL 23 yX1_remove, Cond.instanceMethod yX1_remove, Cond.selects RX1 yX1_remove yX1_remove, Cond.initialized RX1, Cond.code yX1_remove cX1_remove 5 (some .boolean), Cond.classLink RX1 46 "java/lang/IndexOutOfBoundsException", Cond.initialized "java/lang/IndexOutOfBoundsException", Cond.classLink RX1 57 "java/lang/IllegalArgumentException", Cond.initialized "java/lang/IllegalArgumentException", Cond.classLink RX1 64 "java/lang/IllegalStateException", Cond.initialized "java/lang/IllegalStateException", Cond.fieldLink RX1 93 "Wallplan$Element" "state" "I", Cond.methodLink RX1 74 yX1_find, Cond.instanceMethod yX1_find, Cond.selects RX1 yX1_find yX1_find, Cond.code yX1_find cX1_find 2 (some (.object "Wallplan$Element")), Cond.fieldLink RX1 11 "Wallplan" "elements" "[LWallplan$Element;", Cond.methodLink RX1 112 yX1_isWithin, Cond.static yX1_isWithin, Cond.code yX1_isWithin cX1_isWithin 3 (some .boolean), Cond.methodLink RX1 39 yX1_isKind]
def wsL_remove_r2 : List Cond := [Cond.static yX1_isKind, Cond.code yX1_isKind cX1_isKind 1 (some .boolean), Cond.methodLink RX1 80 yX1_isBase, Cond.instanceMethod yX1_isBase, Cond.selects RX1 yX1_isBase yX1_isBase, Cond.code yX1_isBase cX1_isBase 2 (some .boolean), Cond.fieldLink RX1 33 "Wallplan" "latestRevision" "I", Cond.methodLink RX1 106 yX1_noteChange, Cond.instanceMethod yX1_noteChange, Cond.selects RX1 yX1_noteChange yX1_noteChange, Cond.code yX1_noteChange cX1_noteChange 3 none, Cond.fieldLink RX1 169 "Wallplan$Element" "changeRevision" "I", Cond.fieldLink RX1 172 "Wallplan$Element" "changeTrade" "I"]
def wsL_remove : List Cond := .codeWith yL_remove cL_remove 6 (some .int) [(0, 19, 22, 13), (0, 19, 26, 15), (0, 19, 30, 17)] :: ((wsL_remove_r1 ++ wsL_remove_r2) ++ wsX00 ++ wsX10 ++ (vx_atS RX1 50 "java/lang/IndexOutOfBoundsException" ["java/lang/RuntimeException", "java/lang/Exception"]).filter goodWord ++ (vx_atS RX1 61 "java/lang/IllegalArgumentException" ["java/lang/RuntimeException", "java/lang/Exception"]).filter goodWord ++ (vx_atS RX1 68 "java/lang/IllegalStateException" ["java/lang/RuntimeException", "java/lang/Exception"]).filter goodWord)
def wsL_clear : List Cond := .codeWith yL_clear cL_clear 6 (some .int) [(0, 12, 15, 13), (0, 12, 19, 15)] :: ([.classLink RL 13 "java/lang/IndexOutOfBoundsException", .classLink RL 15 "java/lang/IllegalArgumentException", .methodLink RL 27 yX1_clear, .instanceMethod yX1_clear, .selects RX1 yX1_clear yX1_clear, .initialized RX1, .code yX1_clear cX1_clear 5 (some .int), .classLink RX1 46 "java/lang/IndexOutOfBoundsException", .initialized "java/lang/IndexOutOfBoundsException", .classLink RX1 57 "java/lang/IllegalArgumentException", .initialized "java/lang/IllegalArgumentException", .fieldLink RX1 19 "Wallplan" "clearances" "[I", .methodLink RX1 39 yX1_isKind, .static yX1_isKind, .code yX1_isKind cX1_isKind 1 (some .boolean), .methodLink RX1 112 yX1_isWithin, .static yX1_isWithin, .code yX1_isWithin cX1_isWithin 3 (some .boolean)] ++ wsX10 ++ (vx_atS RX1 50 "java/lang/IndexOutOfBoundsException" ["java/lang/RuntimeException", "java/lang/Exception"]).filter goodWord ++ (vx_atS RX1 61 "java/lang/IllegalArgumentException" ["java/lang/RuntimeException", "java/lang/Exception"]).filter goodWord)
def wsL_part : List Cond := .codeWith yL_part cL_part 5 (some .int) [(0, 10, 13, 13), (0, 10, 17, 15)] :: ([.classLink RL 13 "java/lang/IndexOutOfBoundsException", .classLink RL 15 "java/lang/IllegalArgumentException", .methodLink RL 31 yX1_part, .instanceMethod yX1_part, .selects RX1 yX1_part yX1_part, .initialized RX1, .code yX1_part cX1_part 4 (some .int), .classLink RX1 46 "java/lang/IndexOutOfBoundsException", .initialized "java/lang/IndexOutOfBoundsException", .classLink RX1 57 "java/lang/IllegalArgumentException", .initialized "java/lang/IllegalArgumentException", .fieldLink RX1 23 "Wallplan" "partCells" "[I", .methodLink RX1 39 yX1_isKind, .static yX1_isKind, .code yX1_isKind cX1_isKind 1 (some .boolean), .methodLink RX1 112 yX1_isWithin, .static yX1_isWithin, .code yX1_isWithin cX1_isWithin 3 (some .boolean)] ++ wsX10 ++ (vx_atS RX1 50 "java/lang/IndexOutOfBoundsException" ["java/lang/RuntimeException", "java/lang/Exception"]).filter goodWord ++ (vx_atS RX1 61 "java/lang/IllegalArgumentException" ["java/lang/RuntimeException", "java/lang/Exception"]).filter goodWord)
def wsL_lead : List Cond := .codeWith yL_lead cL_lead 5 (some .int) [(0, 10, 13, 13), (0, 10, 17, 15)] :: ([.classLink RL 13 "java/lang/IndexOutOfBoundsException", .classLink RL 15 "java/lang/IllegalArgumentException", .methodLink RL 35 yX1_lead, .instanceMethod yX1_lead, .selects RX1 yX1_lead yX1_lead, .initialized RX1, .code yX1_lead cX1_lead 4 (some .int), .classLink RX1 46 "java/lang/IndexOutOfBoundsException", .initialized "java/lang/IndexOutOfBoundsException", .classLink RX1 57 "java/lang/IllegalArgumentException", .initialized "java/lang/IllegalArgumentException", .fieldLink RX1 26 "Wallplan" "leadDays" "[I", .methodLink RX1 39 yX1_isKind, .static yX1_isKind, .code yX1_isKind cX1_isKind 1 (some .boolean), .methodLink RX1 112 yX1_isWithin, .static yX1_isWithin, .code yX1_isWithin cX1_isWithin 3 (some .boolean)] ++ wsX10 ++ (vx_atS RX1 50 "java/lang/IndexOutOfBoundsException" ["java/lang/RuntimeException", "java/lang/Exception"]).filter goodWord ++ (vx_atS RX1 61 "java/lang/IllegalArgumentException" ["java/lang/RuntimeException", "java/lang/Exception"]).filter goodWord)
def wsL_order_r1 : List Cond := [Cond.classLink RL 13 "java/lang/IndexOutOfBoundsException", Cond.classLink RL 17 "java/lang/IllegalStateException", Cond.methodLink RL 38 yX1_order, Cond.instanceMethod yX1_order, Cond.selects RX1 yX1_order yX1_order, Cond.initialized RX1, Cond.code yX1_order cX1_order 3 (some .int), Cond.classLink RX1 46 "java/lang/IndexOutOfBoundsException", Cond.initialized "java/lang/IndexOutOfBoundsException", Cond.classLink RX1 64 "java/lang/IllegalStateException", Cond.initialized "java/lang/IllegalStateException", Cond.fieldLink RX1 93 "Wallplan$Element" "state" "I", Cond.fieldLink RX1 36 "Wallplan" "today" "I", Cond.fieldLink RX1 122 "Wallplan$Element" "kind" "I", Cond.fieldLink RX1 129 "Wallplan$Element" "deliveryDay" "I", Cond.methodLink RX1 74 yX1_find, Cond.instanceMethod yX1_find, Cond.selects RX1 yX1_find yX1_find, Cond.code yX1_find cX1_find 2 (some (.object "Wallplan$Element")), Cond.fieldLink RX1 11 "Wallplan" "elements" "[LWallplan$Element;", Cond.methodLink RX1 112 yX1_isWithin, Cond.static yX1_isWithin, Cond.code yX1_isWithin cX1_isWithin 3 (some .boolean), Cond.methodLink RX1 125 yX1_leadDaysOf]
def wsL_order_r2 : List Cond := [Cond.instanceMethod yX1_leadDaysOf, Cond.selects RX1 yX1_leadDaysOf yX1_leadDaysOf, Cond.code yX1_leadDaysOf cX1_leadDaysOf 2 (some .int), Cond.fieldLink RX1 26 "Wallplan" "leadDays" "[I", Cond.methodLink RX1 39 yX1_isKind, Cond.static yX1_isKind, Cond.code yX1_isKind cX1_isKind 1 (some .boolean), Cond.methodLink RX1 132 yX0_deliverIfDue, Cond.instanceMethod yX0_deliverIfDue, Cond.selects RX0 yX0_deliverIfDue yX0_deliverIfDue, Cond.initialized RX0, Cond.code yX0_deliverIfDue cX0_deliverIfDue 2 none, Cond.fieldLink RX0 9 "Wallplan$Element" "state" "I", Cond.fieldLink RX0 15 "Wallplan$Element" "deliveryDay" "I", Cond.methodLink RX1 136 yX1_partsOf, Cond.instanceMethod yX1_partsOf, Cond.selects RX1 yX1_partsOf yX1_partsOf, Cond.code yX1_partsOf cX1_partsOf 3 (some .int), Cond.fieldLink RX1 23 "Wallplan" "partCells" "[I", Cond.methodLink RX1 175 yX0_cells, Cond.instanceMethod yX0_cells, Cond.selects RX0 yX0_cells yX0_cells, Cond.code yX0_cells cX0_cells 1 (some .int), Cond.fieldLink RX0 30 "Wallplan$Element" "toX" "I"]
def wsL_order_r3 : List Cond := [Cond.fieldLink RX0 24 "Wallplan$Element" "fromX" "I", Cond.methodLink RX0 42 Lib.Math.abs.name, Cond.static Lib.Math.abs.name, Cond.initialized "java/lang/Math", Cond.code Lib.Math.abs.name Lib.Math.abs.code 1 (some .int), Cond.fieldLink RX0 33 "Wallplan$Element" "toY" "I", Cond.fieldLink RX0 27 "Wallplan$Element" "fromY" "I"]
def wsL_order : List Cond := .codeWith yL_order cL_order 4 (some .int) [(0, 9, 12, 13), (0, 9, 15, 17)] :: ((wsL_order_r1 ++ (wsL_order_r2 ++ wsL_order_r3)) ++ wsX00 ++ wsX10 ++ (vx_atS RX1 50 "java/lang/IndexOutOfBoundsException" ["java/lang/RuntimeException", "java/lang/Exception"]).filter goodWord ++ (vx_atS RX1 68 "java/lang/IllegalStateException" ["java/lang/RuntimeException", "java/lang/Exception"]).filter goodWord)
def wsL_cancel : List Cond := .codeWith yL_cancel cL_cancel 4 (some .int) [(0, 9, 12, 13), (0, 9, 15, 17)] :: ([.classLink RL 13 "java/lang/IndexOutOfBoundsException", .classLink RL 17 "java/lang/IllegalStateException", .methodLink RL 42 yX1_cancel, .instanceMethod yX1_cancel, .selects RX1 yX1_cancel yX1_cancel, .initialized RX1, .code yX1_cancel cX1_cancel 3 (some .int), .classLink RX1 46 "java/lang/IndexOutOfBoundsException", .initialized "java/lang/IndexOutOfBoundsException", .classLink RX1 64 "java/lang/IllegalStateException", .initialized "java/lang/IllegalStateException", .fieldLink RX1 93 "Wallplan$Element" "state" "I", .fieldLink RX1 129 "Wallplan$Element" "deliveryDay" "I", .fieldLink RX1 36 "Wallplan" "today" "I", .methodLink RX1 74 yX1_find, .instanceMethod yX1_find, .selects RX1 yX1_find yX1_find, .code yX1_find cX1_find 2 (some (.object "Wallplan$Element")), .fieldLink RX1 11 "Wallplan" "elements" "[LWallplan$Element;", .methodLink RX1 112 yX1_isWithin, .static yX1_isWithin, .code yX1_isWithin cX1_isWithin 3 (some .boolean)] ++ wsX00 ++ wsX10 ++ (vx_atS RX1 50 "java/lang/IndexOutOfBoundsException" ["java/lang/RuntimeException", "java/lang/Exception"]).filter goodWord ++ (vx_atS RX1 68 "java/lang/IllegalStateException" ["java/lang/RuntimeException", "java/lang/Exception"]).filter goodWord)
def wsL_build_r1 : List Cond := [Cond.classLink RL 13 "java/lang/IndexOutOfBoundsException", Cond.classLink RL 17 "java/lang/IllegalStateException", Cond.methodLink RL 45 yX1_build, Cond.instanceMethod yX1_build, Cond.selects RX1 yX1_build yX1_build, Cond.initialized RX1, Cond.code yX1_build cX1_build 3 (some .boolean), Cond.classLink RX1 46 "java/lang/IndexOutOfBoundsException", Cond.initialized "java/lang/IndexOutOfBoundsException", Cond.classLink RX1 64 "java/lang/IllegalStateException", Cond.initialized "java/lang/IllegalStateException", Cond.fieldLink RX1 93 "Wallplan$Element" "state" "I", Cond.methodLink RX1 74 yX1_find, Cond.instanceMethod yX1_find, Cond.selects RX1 yX1_find yX1_find, Cond.code yX1_find cX1_find 2 (some (.object "Wallplan$Element")), Cond.fieldLink RX1 11 "Wallplan" "elements" "[LWallplan$Element;", Cond.methodLink RX1 112 yX1_isWithin, Cond.static yX1_isWithin, Cond.code yX1_isWithin cX1_isWithin 3 (some .boolean), Cond.methodLink RX1 144 yX1_clashesWithAny, Cond.instanceMethod yX1_clashesWithAny, Cond.selects RX1 yX1_clashesWithAny yX1_clashesWithAny, Cond.code yX1_clashesWithAny cX1_clashesWithAny 3 (some .boolean)]
def wsL_build_r2 : List Cond := [Cond.fieldLink RX1 15 "Wallplan" "count" "I", Cond.methodLink RX1 181 yX1_isClashingPair, Cond.instanceMethod yX1_isClashingPair, Cond.selects RX1 yX1_isClashingPair yX1_isClashingPair, Cond.code yX1_isClashingPair cX1_isClashingPair 5 (some .boolean), Cond.fieldLink RX1 154 "Wallplan$Element" "storey" "I", Cond.fieldLink RX1 122 "Wallplan$Element" "kind" "I", Cond.methodLink RX1 194 yX0_isThere, Cond.instanceMethod yX0_isThere, Cond.selects RX0 yX0_isThere yX0_isThere, Cond.initialized RX0, Cond.code yX0_isThere cX0_isThere 1 (some .boolean), Cond.fieldLink RX0 9 "Wallplan$Element" "state" "I", Cond.methodLink RX1 206 yX0_distanceTo, Cond.instanceMethod yX0_distanceTo, Cond.selects RX0 yX0_distanceTo yX0_distanceTo, Cond.code yX0_distanceTo cX0_distanceTo 4 (some .int), Cond.fieldLink RX0 24 "Wallplan$Element" "fromX" "I", Cond.fieldLink RX0 30 "Wallplan$Element" "toX" "I", Cond.fieldLink RX0 27 "Wallplan$Element" "fromY" "I", Cond.fieldLink RX0 33 "Wallplan$Element" "toY" "I", Cond.methodLink RX0 52 Lib.Math.max.name, Cond.static Lib.Math.max.name, Cond.initialized "java/lang/Math"]
def wsL_build_r3 : List Cond := [Cond.code Lib.Math.max.name Lib.Math.max.code 2 (some .int), Cond.methodLink RX0 63 yX0_gap, Cond.static yX0_gap, Cond.code yX0_gap cX0_gap 6 (some .int), Cond.methodLink RX0 48 Lib.Math.min.name, Cond.static Lib.Math.min.name, Cond.code Lib.Math.min.name Lib.Math.min.code 2 (some .int), Cond.methodLink RX1 209 yX1_clearanceOf, Cond.instanceMethod yX1_clearanceOf, Cond.selects RX1 yX1_clearanceOf yX1_clearanceOf, Cond.code yX1_clearanceOf cX1_clearanceOf 3 (some .int), Cond.fieldLink RX1 19 "Wallplan" "clearances" "[I", Cond.methodLink RX1 39 yX1_isKind, Cond.static yX1_isKind, Cond.code yX1_isKind cX1_isKind 1 (some .boolean)]
def wsL_build : List Cond := .codeWith yL_build cL_build 4 (some .int) [(0, 16, 19, 13), (0, 16, 22, 17)] :: ((wsL_build_r1 ++ (wsL_build_r2 ++ wsL_build_r3)) ++ wsX00 ++ wsX10 ++ (vx_atS RX1 50 "java/lang/IndexOutOfBoundsException" ["java/lang/RuntimeException", "java/lang/Exception"]).filter goodWord ++ (vx_atS RX1 68 "java/lang/IllegalStateException" ["java/lang/RuntimeException", "java/lang/Exception"]).filter goodWord)
def wsL_inspect_r1 : List Cond := [Cond.classLink RL 13 "java/lang/IndexOutOfBoundsException", Cond.classLink RL 17 "java/lang/IllegalStateException", Cond.methodLink RL 49 yX1_inspect, Cond.instanceMethod yX1_inspect, Cond.selects RX1 yX1_inspect yX1_inspect, Cond.initialized RX1, Cond.code yX1_inspect cX1_inspect 2 (some .boolean), Cond.classLink RX1 46 "java/lang/IndexOutOfBoundsException", Cond.initialized "java/lang/IndexOutOfBoundsException", Cond.classLink RX1 64 "java/lang/IllegalStateException", Cond.initialized "java/lang/IllegalStateException", Cond.fieldLink RX1 29 "Wallplan" "locked" "[Z", Cond.methodLink RX1 43 yX1_isStorey, Cond.static yX1_isStorey, Cond.code yX1_isStorey cX1_isStorey 1 (some .boolean), Cond.methodLink RX1 112 yX1_isWithin, Cond.static yX1_isWithin, Cond.code yX1_isWithin cX1_isWithin 3 (some .boolean), Cond.methodLink RX1 149 yX1_isFinished, Cond.instanceMethod yX1_isFinished, Cond.selects RX1 yX1_isFinished yX1_isFinished, Cond.code yX1_isFinished cX1_isFinished 5 (some .boolean), Cond.fieldLink RX1 15 "Wallplan" "count" "I", Cond.fieldLink RX1 154 "Wallplan$Element" "storey" "I"]
def wsL_inspect_r2 : List Cond := [Cond.fieldLink RX1 93 "Wallplan$Element" "state" "I", Cond.methodLink RX1 74 yX1_find, Cond.instanceMethod yX1_find, Cond.selects RX1 yX1_find yX1_find, Cond.code yX1_find cX1_find 2 (some (.object "Wallplan$Element")), Cond.fieldLink RX1 11 "Wallplan" "elements" "[LWallplan$Element;", Cond.methodLink RX1 194 yX0_isThere, Cond.instanceMethod yX0_isThere, Cond.selects RX0 yX0_isThere yX0_isThere, Cond.initialized RX0, Cond.code yX0_isThere cX0_isThere 1 (some .boolean), Cond.fieldLink RX0 9 "Wallplan$Element" "state" "I", Cond.methodLink RX1 144 yX1_clashesWithAny, Cond.instanceMethod yX1_clashesWithAny, Cond.selects RX1 yX1_clashesWithAny yX1_clashesWithAny, Cond.code yX1_clashesWithAny cX1_clashesWithAny 3 (some .boolean), Cond.methodLink RX1 181 yX1_isClashingPair, Cond.instanceMethod yX1_isClashingPair, Cond.selects RX1 yX1_isClashingPair yX1_isClashingPair, Cond.code yX1_isClashingPair cX1_isClashingPair 5 (some .boolean), Cond.fieldLink RX1 122 "Wallplan$Element" "kind" "I", Cond.methodLink RX1 206 yX0_distanceTo, Cond.instanceMethod yX0_distanceTo, Cond.selects RX0 yX0_distanceTo yX0_distanceTo]
def wsL_inspect_r3 : List Cond := [Cond.code yX0_distanceTo cX0_distanceTo 4 (some .int), Cond.fieldLink RX0 24 "Wallplan$Element" "fromX" "I", Cond.fieldLink RX0 30 "Wallplan$Element" "toX" "I", Cond.fieldLink RX0 27 "Wallplan$Element" "fromY" "I", Cond.fieldLink RX0 33 "Wallplan$Element" "toY" "I", Cond.methodLink RX0 52 Lib.Math.max.name, Cond.static Lib.Math.max.name, Cond.initialized "java/lang/Math", Cond.code Lib.Math.max.name Lib.Math.max.code 2 (some .int), Cond.methodLink RX0 63 yX0_gap, Cond.static yX0_gap, Cond.code yX0_gap cX0_gap 6 (some .int), Cond.methodLink RX0 48 Lib.Math.min.name, Cond.static Lib.Math.min.name, Cond.code Lib.Math.min.name Lib.Math.min.code 2 (some .int), Cond.methodLink RX1 209 yX1_clearanceOf, Cond.instanceMethod yX1_clearanceOf, Cond.selects RX1 yX1_clearanceOf yX1_clearanceOf, Cond.code yX1_clearanceOf cX1_clearanceOf 3 (some .int), Cond.fieldLink RX1 19 "Wallplan" "clearances" "[I", Cond.methodLink RX1 39 yX1_isKind, Cond.static yX1_isKind, Cond.code yX1_isKind cX1_isKind 1 (some .boolean)]
def wsL_inspect : List Cond := .codeWith yL_inspect cL_inspect 4 (some .int) [(0, 16, 19, 13), (0, 16, 22, 17)] :: ((wsL_inspect_r1 ++ (wsL_inspect_r2 ++ wsL_inspect_r3)) ++ wsX10 ++ wsX00 ++ (vx_atS RX1 50 "java/lang/IndexOutOfBoundsException" ["java/lang/RuntimeException", "java/lang/Exception"]).filter goodWord ++ (vx_atS RX1 68 "java/lang/IllegalStateException" ["java/lang/RuntimeException", "java/lang/Exception"]).filter goodWord)
def wsL_pass_r1 : List Cond := [Cond.classLink RL 15 "java/lang/IllegalArgumentException", Cond.classLink RL 17 "java/lang/IllegalStateException", Cond.methodLink RL 52 yX1_pass, Cond.instanceMethod yX1_pass, Cond.selects RX1 yX1_pass yX1_pass, Cond.initialized RX1, Cond.code yX1_pass cX1_pass 4 (some .int), Cond.classLink RX1 57 "java/lang/IllegalArgumentException", Cond.initialized "java/lang/IllegalArgumentException", Cond.classLink RX1 64 "java/lang/IllegalStateException", Cond.initialized "java/lang/IllegalStateException", Cond.fieldLink RX1 36 "Wallplan" "today" "I", Cond.fieldLink RX1 15 "Wallplan" "count" "I", Cond.methodLink RX1 112 yX1_isWithin, Cond.static yX1_isWithin, Cond.code yX1_isWithin cX1_isWithin 3 (some .boolean), Cond.methodLink RX1 74 yX1_find, Cond.instanceMethod yX1_find, Cond.selects RX1 yX1_find yX1_find, Cond.code yX1_find cX1_find 2 (some (.object "Wallplan$Element")), Cond.fieldLink RX1 11 "Wallplan" "elements" "[LWallplan$Element;", Cond.methodLink RX1 132 yX0_deliverIfDue, Cond.instanceMethod yX0_deliverIfDue, Cond.selects RX0 yX0_deliverIfDue yX0_deliverIfDue]
def wsL_pass_r2 : List Cond := [Cond.initialized RX0, Cond.code yX0_deliverIfDue cX0_deliverIfDue 2 none, Cond.fieldLink RX0 9 "Wallplan$Element" "state" "I", Cond.fieldLink RX0 15 "Wallplan$Element" "deliveryDay" "I"]
def wsL_pass : List Cond := .codeWith yL_pass cL_pass 4 (some .int) [(0, 9, 12, 15), (0, 9, 15, 17)] :: ((wsL_pass_r1 ++ wsL_pass_r2) ++ wsX10 ++ wsX00 ++ (vx_atS RX1 61 "java/lang/IllegalArgumentException" ["java/lang/RuntimeException", "java/lang/Exception"]).filter goodWord ++ (vx_atS RX1 68 "java/lang/IllegalStateException" ["java/lang/RuntimeException", "java/lang/Exception"]).filter goodWord)
def wsL_elementOf_r1 : List Cond := [Cond.classLink RL 13 "java/lang/IndexOutOfBoundsException", Cond.classLink RL 15 "java/lang/IllegalArgumentException", Cond.methodLink RL 55 yX1_elementOf, Cond.instanceMethod yX1_elementOf, Cond.selects RX1 yX1_elementOf yX1_elementOf, Cond.initialized RX1, Cond.code yX1_elementOf cX1_elementOf 4 (some .int), Cond.classLink RX1 46 "java/lang/IndexOutOfBoundsException", Cond.initialized "java/lang/IndexOutOfBoundsException", Cond.classLink RX1 57 "java/lang/IllegalArgumentException", Cond.initialized "java/lang/IllegalArgumentException", Cond.fieldLink RX1 122 "Wallplan$Element" "kind" "I", Cond.fieldLink RX1 154 "Wallplan$Element" "storey" "I", Cond.fieldLink RX1 157 "Wallplan$Element" "fromX" "I", Cond.fieldLink RX1 160 "Wallplan$Element" "fromY" "I", Cond.fieldLink RX1 163 "Wallplan$Element" "toX" "I", Cond.fieldLink RX1 166 "Wallplan$Element" "toY" "I", Cond.fieldLink RX1 93 "Wallplan$Element" "state" "I", Cond.fieldLink RX1 169 "Wallplan$Element" "changeRevision" "I", Cond.fieldLink RX1 172 "Wallplan$Element" "changeTrade" "I", Cond.methodLink RX1 74 yX1_find, Cond.instanceMethod yX1_find, Cond.selects RX1 yX1_find yX1_find, Cond.code yX1_find cX1_find 2 (some (.object "Wallplan$Element"))]
def wsL_elementOf_r2 : List Cond := [Cond.fieldLink RX1 11 "Wallplan" "elements" "[LWallplan$Element;", Cond.methodLink RX1 112 yX1_isWithin, Cond.static yX1_isWithin, Cond.code yX1_isWithin cX1_isWithin 3 (some .boolean), Cond.methodLink RX1 175 yX0_cells, Cond.instanceMethod yX0_cells, Cond.selects RX0 yX0_cells yX0_cells, Cond.initialized RX0, Cond.code yX0_cells cX0_cells 1 (some .int), Cond.fieldLink RX0 30 "Wallplan$Element" "toX" "I", Cond.fieldLink RX0 24 "Wallplan$Element" "fromX" "I", Cond.methodLink RX0 42 Lib.Math.abs.name, Cond.static Lib.Math.abs.name, Cond.initialized "java/lang/Math", Cond.code Lib.Math.abs.name Lib.Math.abs.code 1 (some .int), Cond.fieldLink RX0 33 "Wallplan$Element" "toY" "I", Cond.fieldLink RX0 27 "Wallplan$Element" "fromY" "I"]
def wsL_elementOf : List Cond := .codeWith yL_elementOf cL_elementOf 5 (some .int) [(0, 10, 13, 13), (0, 10, 17, 15)] :: ((wsL_elementOf_r1 ++ wsL_elementOf_r2) ++ wsX00 ++ wsX10 ++ (vx_atS RX1 50 "java/lang/IndexOutOfBoundsException" ["java/lang/RuntimeException", "java/lang/Exception"]).filter goodWord ++ (vx_atS RX1 61 "java/lang/IllegalArgumentException" ["java/lang/RuntimeException", "java/lang/Exception"]).filter goodWord)
def wsL_clash_r1 : List Cond := [Cond.classLink RL 13 "java/lang/IndexOutOfBoundsException", Cond.methodLink RL 58 yX1_clash, Cond.instanceMethod yX1_clash, Cond.selects RX1 yX1_clash yX1_clash, Cond.initialized RX1, Cond.code yX1_clash cX1_clash 3 (some .boolean), Cond.classLink RX1 46 "java/lang/IndexOutOfBoundsException", Cond.initialized "java/lang/IndexOutOfBoundsException", Cond.methodLink RX1 74 yX1_find, Cond.instanceMethod yX1_find, Cond.selects RX1 yX1_find yX1_find, Cond.code yX1_find cX1_find 2 (some (.object "Wallplan$Element")), Cond.fieldLink RX1 11 "Wallplan" "elements" "[LWallplan$Element;", Cond.methodLink RX1 112 yX1_isWithin, Cond.static yX1_isWithin, Cond.code yX1_isWithin cX1_isWithin 3 (some .boolean), Cond.methodLink RX1 181 yX1_isClashingPair, Cond.instanceMethod yX1_isClashingPair, Cond.selects RX1 yX1_isClashingPair yX1_isClashingPair, Cond.code yX1_isClashingPair cX1_isClashingPair 5 (some .boolean), Cond.fieldLink RX1 154 "Wallplan$Element" "storey" "I", Cond.fieldLink RX1 122 "Wallplan$Element" "kind" "I", Cond.methodLink RX1 194 yX0_isThere, Cond.instanceMethod yX0_isThere]
def wsL_clash_r2 : List Cond := [Cond.selects RX0 yX0_isThere yX0_isThere, Cond.initialized RX0, Cond.code yX0_isThere cX0_isThere 1 (some .boolean), Cond.fieldLink RX0 9 "Wallplan$Element" "state" "I", Cond.methodLink RX1 206 yX0_distanceTo, Cond.instanceMethod yX0_distanceTo, Cond.selects RX0 yX0_distanceTo yX0_distanceTo, Cond.code yX0_distanceTo cX0_distanceTo 4 (some .int), Cond.fieldLink RX0 24 "Wallplan$Element" "fromX" "I", Cond.fieldLink RX0 30 "Wallplan$Element" "toX" "I", Cond.fieldLink RX0 27 "Wallplan$Element" "fromY" "I", Cond.fieldLink RX0 33 "Wallplan$Element" "toY" "I", Cond.methodLink RX0 52 Lib.Math.max.name, Cond.static Lib.Math.max.name, Cond.initialized "java/lang/Math", Cond.code Lib.Math.max.name Lib.Math.max.code 2 (some .int), Cond.methodLink RX0 63 yX0_gap, Cond.static yX0_gap, Cond.code yX0_gap cX0_gap 6 (some .int), Cond.methodLink RX0 48 Lib.Math.min.name, Cond.static Lib.Math.min.name, Cond.code Lib.Math.min.name Lib.Math.min.code 2 (some .int), Cond.methodLink RX1 209 yX1_clearanceOf, Cond.instanceMethod yX1_clearanceOf]
def wsL_clash_r3 : List Cond := [Cond.selects RX1 yX1_clearanceOf yX1_clearanceOf, Cond.code yX1_clearanceOf cX1_clearanceOf 3 (some .int), Cond.fieldLink RX1 19 "Wallplan" "clearances" "[I", Cond.methodLink RX1 39 yX1_isKind, Cond.static yX1_isKind, Cond.code yX1_isKind cX1_isKind 1 (some .boolean)]
def wsL_clash : List Cond := .codeWith yL_clash cL_clash 5 (some .int) [(0, 17, 20, 13)] :: ((wsL_clash_r1 ++ (wsL_clash_r2 ++ wsL_clash_r3)) ++ wsX10 ++ wsX00 ++ (vx_atS RX1 50 "java/lang/IndexOutOfBoundsException" ["java/lang/RuntimeException", "java/lang/Exception"]).filter goodWord)
def wsL_clashes_r1 : List Cond := [Cond.classLink RL 13 "java/lang/IndexOutOfBoundsException", Cond.methodLink RL 62 yX1_clashes, Cond.instanceMethod yX1_clashes, Cond.selects RX1 yX1_clashes yX1_clashes, Cond.initialized RX1, Cond.code yX1_clashes cX1_clashes 4 (some .int), Cond.classLink RX1 46 "java/lang/IndexOutOfBoundsException", Cond.initialized "java/lang/IndexOutOfBoundsException", Cond.fieldLink RX1 15 "Wallplan" "count" "I", Cond.methodLink RX1 43 yX1_isStorey, Cond.static yX1_isStorey, Cond.code yX1_isStorey cX1_isStorey 1 (some .boolean), Cond.methodLink RX1 112 yX1_isWithin, Cond.static yX1_isWithin, Cond.code yX1_isWithin cX1_isWithin 3 (some .boolean), Cond.methodLink RX1 184 yX1_isOnStorey, Cond.instanceMethod yX1_isOnStorey, Cond.selects RX1 yX1_isOnStorey yX1_isOnStorey, Cond.code yX1_isOnStorey cX1_isOnStorey 4 (some .boolean), Cond.fieldLink RX1 154 "Wallplan$Element" "storey" "I", Cond.methodLink RX1 74 yX1_find, Cond.instanceMethod yX1_find, Cond.selects RX1 yX1_find yX1_find, Cond.code yX1_find cX1_find 2 (some (.object "Wallplan$Element"))]
def wsL_clashes_r2 : List Cond := [Cond.fieldLink RX1 11 "Wallplan" "elements" "[LWallplan$Element;", Cond.methodLink RX1 187 yX1_clashesWithEarlier, Cond.instanceMethod yX1_clashesWithEarlier, Cond.selects RX1 yX1_clashesWithEarlier yX1_clashesWithEarlier, Cond.code yX1_clashesWithEarlier cX1_clashesWithEarlier 4 (some .int), Cond.methodLink RX1 181 yX1_isClashingPair, Cond.instanceMethod yX1_isClashingPair, Cond.selects RX1 yX1_isClashingPair yX1_isClashingPair, Cond.code yX1_isClashingPair cX1_isClashingPair 5 (some .boolean), Cond.fieldLink RX1 122 "Wallplan$Element" "kind" "I", Cond.methodLink RX1 194 yX0_isThere, Cond.instanceMethod yX0_isThere, Cond.selects RX0 yX0_isThere yX0_isThere, Cond.initialized RX0, Cond.code yX0_isThere cX0_isThere 1 (some .boolean), Cond.fieldLink RX0 9 "Wallplan$Element" "state" "I", Cond.methodLink RX1 206 yX0_distanceTo, Cond.instanceMethod yX0_distanceTo, Cond.selects RX0 yX0_distanceTo yX0_distanceTo, Cond.code yX0_distanceTo cX0_distanceTo 4 (some .int), Cond.fieldLink RX0 24 "Wallplan$Element" "fromX" "I", Cond.fieldLink RX0 30 "Wallplan$Element" "toX" "I", Cond.fieldLink RX0 27 "Wallplan$Element" "fromY" "I", Cond.fieldLink RX0 33 "Wallplan$Element" "toY" "I"]
def wsL_clashes_r3 : List Cond := [Cond.methodLink RX0 52 Lib.Math.max.name, Cond.static Lib.Math.max.name, Cond.initialized "java/lang/Math", Cond.code Lib.Math.max.name Lib.Math.max.code 2 (some .int), Cond.methodLink RX0 63 yX0_gap, Cond.static yX0_gap, Cond.code yX0_gap cX0_gap 6 (some .int), Cond.methodLink RX0 48 Lib.Math.min.name, Cond.static Lib.Math.min.name, Cond.code Lib.Math.min.name Lib.Math.min.code 2 (some .int), Cond.methodLink RX1 209 yX1_clearanceOf, Cond.instanceMethod yX1_clearanceOf, Cond.selects RX1 yX1_clearanceOf yX1_clearanceOf, Cond.code yX1_clearanceOf cX1_clearanceOf 3 (some .int), Cond.fieldLink RX1 19 "Wallplan" "clearances" "[I", Cond.methodLink RX1 39 yX1_isKind, Cond.static yX1_isKind, Cond.code yX1_isKind cX1_isKind 1 (some .boolean)]
def wsL_clashes : List Cond := .codeWith yL_clashes cL_clashes 4 (some .int) [(0, 9, 12, 13)] :: ((wsL_clashes_r1 ++ (wsL_clashes_r2 ++ wsL_clashes_r3)) ++ wsX10 ++ wsX00 ++ (vx_atS RX1 50 "java/lang/IndexOutOfBoundsException" ["java/lang/RuntimeException", "java/lang/Exception"]).filter goodWord)
def wsL_isStopped_r1 : List Cond := [Cond.classLink RL 13 "java/lang/IndexOutOfBoundsException", Cond.methodLink RL 65 yX1_isStopped, Cond.instanceMethod yX1_isStopped, Cond.selects RX1 yX1_isStopped yX1_isStopped, Cond.initialized RX1, Cond.code yX1_isStopped cX1_isStopped 5 (some .boolean), Cond.classLink RX1 46 "java/lang/IndexOutOfBoundsException", Cond.initialized "java/lang/IndexOutOfBoundsException", Cond.fieldLink RX1 15 "Wallplan" "count" "I", Cond.fieldLink RX1 122 "Wallplan$Element" "kind" "I", Cond.fieldLink RX1 154 "Wallplan$Element" "storey" "I", Cond.methodLink RX1 39 yX1_isKind, Cond.static yX1_isKind, Cond.code yX1_isKind cX1_isKind 1 (some .boolean), Cond.methodLink RX1 112 yX1_isWithin, Cond.static yX1_isWithin, Cond.code yX1_isWithin cX1_isWithin 3 (some .boolean), Cond.methodLink RX1 43 yX1_isStorey, Cond.static yX1_isStorey, Cond.code yX1_isStorey cX1_isStorey 1 (some .boolean), Cond.methodLink RX1 74 yX1_find, Cond.instanceMethod yX1_find, Cond.selects RX1 yX1_find yX1_find, Cond.code yX1_find cX1_find 2 (some (.object "Wallplan$Element"))]
def wsL_isStopped_r2 : List Cond := [Cond.fieldLink RX1 11 "Wallplan" "elements" "[LWallplan$Element;", Cond.methodLink RX1 144 yX1_clashesWithAny, Cond.instanceMethod yX1_clashesWithAny, Cond.selects RX1 yX1_clashesWithAny yX1_clashesWithAny, Cond.code yX1_clashesWithAny cX1_clashesWithAny 3 (some .boolean), Cond.methodLink RX1 181 yX1_isClashingPair, Cond.instanceMethod yX1_isClashingPair, Cond.selects RX1 yX1_isClashingPair yX1_isClashingPair, Cond.code yX1_isClashingPair cX1_isClashingPair 5 (some .boolean), Cond.methodLink RX1 194 yX0_isThere, Cond.instanceMethod yX0_isThere, Cond.selects RX0 yX0_isThere yX0_isThere, Cond.initialized RX0, Cond.code yX0_isThere cX0_isThere 1 (some .boolean), Cond.fieldLink RX0 9 "Wallplan$Element" "state" "I", Cond.methodLink RX1 206 yX0_distanceTo, Cond.instanceMethod yX0_distanceTo, Cond.selects RX0 yX0_distanceTo yX0_distanceTo, Cond.code yX0_distanceTo cX0_distanceTo 4 (some .int), Cond.fieldLink RX0 24 "Wallplan$Element" "fromX" "I", Cond.fieldLink RX0 30 "Wallplan$Element" "toX" "I", Cond.fieldLink RX0 27 "Wallplan$Element" "fromY" "I", Cond.fieldLink RX0 33 "Wallplan$Element" "toY" "I", Cond.methodLink RX0 52 Lib.Math.max.name]
def wsL_isStopped_r3 : List Cond := [Cond.static Lib.Math.max.name, Cond.initialized "java/lang/Math", Cond.code Lib.Math.max.name Lib.Math.max.code 2 (some .int), Cond.methodLink RX0 63 yX0_gap, Cond.static yX0_gap, Cond.code yX0_gap cX0_gap 6 (some .int), Cond.methodLink RX0 48 Lib.Math.min.name, Cond.static Lib.Math.min.name, Cond.code Lib.Math.min.name Lib.Math.min.code 2 (some .int), Cond.methodLink RX1 209 yX1_clearanceOf, Cond.instanceMethod yX1_clearanceOf, Cond.selects RX1 yX1_clearanceOf yX1_clearanceOf, Cond.code yX1_clearanceOf cX1_clearanceOf 3 (some .int), Cond.fieldLink RX1 19 "Wallplan" "clearances" "[I"]
def wsL_isStopped : List Cond := .codeWith yL_isStopped cL_isStopped 5 (some .int) [(0, 17, 20, 13)] :: ((wsL_isStopped_r1 ++ (wsL_isStopped_r2 ++ wsL_isStopped_r3)) ++ wsX10 ++ wsX00 ++ (vx_atS RX1 50 "java/lang/IndexOutOfBoundsException" ["java/lang/RuntimeException", "java/lang/Exception"]).filter goodWord)
def wsL_parts_r1 : List Cond := [Cond.classLink RL 13 "java/lang/IndexOutOfBoundsException", Cond.methodLink RL 68 yX1_parts, Cond.instanceMethod yX1_parts, Cond.selects RX1 yX1_parts yX1_parts, Cond.initialized RX1, Cond.code yX1_parts cX1_parts 2 (some .int), Cond.classLink RX1 46 "java/lang/IndexOutOfBoundsException", Cond.initialized "java/lang/IndexOutOfBoundsException", Cond.methodLink RX1 39 yX1_isKind, Cond.static yX1_isKind, Cond.code yX1_isKind cX1_isKind 1 (some .boolean), Cond.methodLink RX1 112 yX1_isWithin, Cond.static yX1_isWithin, Cond.code yX1_isWithin cX1_isWithin 3 (some .boolean), Cond.methodLink RX1 190 yX1_partsInStates, Cond.instanceMethod yX1_partsInStates, Cond.selects RX1 yX1_partsInStates yX1_partsInStates, Cond.code yX1_partsInStates cX1_partsInStates 7 (some .int), Cond.fieldLink RX1 15 "Wallplan" "count" "I", Cond.fieldLink RX1 122 "Wallplan$Element" "kind" "I", Cond.fieldLink RX1 93 "Wallplan$Element" "state" "I", Cond.methodLink RX1 74 yX1_find, Cond.instanceMethod yX1_find, Cond.selects RX1 yX1_find yX1_find]
def wsL_parts_r2 : List Cond := [Cond.code yX1_find cX1_find 2 (some (.object "Wallplan$Element")), Cond.fieldLink RX1 11 "Wallplan" "elements" "[LWallplan$Element;", Cond.methodLink RX1 136 yX1_partsOf, Cond.instanceMethod yX1_partsOf, Cond.selects RX1 yX1_partsOf yX1_partsOf, Cond.code yX1_partsOf cX1_partsOf 3 (some .int), Cond.fieldLink RX1 23 "Wallplan" "partCells" "[I", Cond.methodLink RX1 175 yX0_cells, Cond.instanceMethod yX0_cells, Cond.selects RX0 yX0_cells yX0_cells, Cond.initialized RX0, Cond.code yX0_cells cX0_cells 1 (some .int), Cond.fieldLink RX0 30 "Wallplan$Element" "toX" "I", Cond.fieldLink RX0 24 "Wallplan$Element" "fromX" "I", Cond.methodLink RX0 42 Lib.Math.abs.name, Cond.static Lib.Math.abs.name, Cond.initialized "java/lang/Math", Cond.code Lib.Math.abs.name Lib.Math.abs.code 1 (some .int), Cond.fieldLink RX0 33 "Wallplan$Element" "toY" "I", Cond.fieldLink RX0 27 "Wallplan$Element" "fromY" "I"]
def wsL_parts : List Cond := .codeWith yL_parts cL_parts 4 (some .int) [(0, 9, 12, 13)] :: ((wsL_parts_r1 ++ wsL_parts_r2) ++ wsX10 ++ wsX00 ++ (vx_atS RX1 50 "java/lang/IndexOutOfBoundsException" ["java/lang/RuntimeException", "java/lang/Exception"]).filter goodWord)
def wsL_partsAnew_r1 : List Cond := [Cond.classLink RL 13 "java/lang/IndexOutOfBoundsException", Cond.methodLink RL 71 yX1_partsAnew, Cond.instanceMethod yX1_partsAnew, Cond.selects RX1 yX1_partsAnew yX1_partsAnew, Cond.initialized RX1, Cond.code yX1_partsAnew cX1_partsAnew 5 (some .int), Cond.classLink RX1 46 "java/lang/IndexOutOfBoundsException", Cond.initialized "java/lang/IndexOutOfBoundsException", Cond.fieldLink RX1 15 "Wallplan" "count" "I", Cond.fieldLink RX1 122 "Wallplan$Element" "kind" "I", Cond.fieldLink RX1 23 "Wallplan" "partCells" "[I", Cond.methodLink RX1 39 yX1_isKind, Cond.static yX1_isKind, Cond.code yX1_isKind cX1_isKind 1 (some .boolean), Cond.methodLink RX1 112 yX1_isWithin, Cond.static yX1_isWithin, Cond.code yX1_isWithin cX1_isWithin 3 (some .boolean), Cond.methodLink RX1 74 yX1_find, Cond.instanceMethod yX1_find, Cond.selects RX1 yX1_find yX1_find, Cond.code yX1_find cX1_find 2 (some (.object "Wallplan$Element")), Cond.fieldLink RX1 11 "Wallplan" "elements" "[LWallplan$Element;", Cond.methodLink RX1 194 yX0_isThere, Cond.instanceMethod yX0_isThere]
def wsL_partsAnew_r2 : List Cond := [Cond.selects RX0 yX0_isThere yX0_isThere, Cond.initialized RX0, Cond.code yX0_isThere cX0_isThere 1 (some .boolean), Cond.fieldLink RX0 9 "Wallplan$Element" "state" "I", Cond.methodLink RX1 198 yX0_partsCellByCell, Cond.instanceMethod yX0_partsCellByCell, Cond.selects RX0 yX0_partsCellByCell yX0_partsCellByCell, Cond.code yX0_partsCellByCell cX0_partsCellByCell 6 (some .int), Cond.methodLink RX0 67 yX0_covers, Cond.instanceMethod yX0_covers, Cond.selects RX0 yX0_covers yX0_covers, Cond.code yX0_covers cX0_covers 3 (some .boolean), Cond.fieldLink RX0 24 "Wallplan$Element" "fromX" "I", Cond.fieldLink RX0 30 "Wallplan$Element" "toX" "I", Cond.methodLink RX0 48 Lib.Math.min.name, Cond.static Lib.Math.min.name, Cond.initialized "java/lang/Math", Cond.code Lib.Math.min.name Lib.Math.min.code 2 (some .int), Cond.methodLink RX0 52 Lib.Math.max.name, Cond.static Lib.Math.max.name, Cond.code Lib.Math.max.name Lib.Math.max.code 2 (some .int), Cond.fieldLink RX0 27 "Wallplan$Element" "fromY" "I", Cond.fieldLink RX0 33 "Wallplan$Element" "toY" "I"]
def wsL_partsAnew : List Cond := .codeWith yL_partsAnew cL_partsAnew 4 (some .int) [(0, 9, 12, 13)] :: ((wsL_partsAnew_r1 ++ wsL_partsAnew_r2) ++ wsX10 ++ wsX00 ++ (vx_atS RX1 50 "java/lang/IndexOutOfBoundsException" ["java/lang/RuntimeException", "java/lang/Exception"]).filter goodWord)
def wsL_ordered_r1 : List Cond := [Cond.classLink RL 13 "java/lang/IndexOutOfBoundsException", Cond.methodLink RL 74 yX1_ordered, Cond.instanceMethod yX1_ordered, Cond.selects RX1 yX1_ordered yX1_ordered, Cond.initialized RX1, Cond.code yX1_ordered cX1_ordered 2 (some .int), Cond.classLink RX1 46 "java/lang/IndexOutOfBoundsException", Cond.initialized "java/lang/IndexOutOfBoundsException", Cond.methodLink RX1 39 yX1_isKind, Cond.static yX1_isKind, Cond.code yX1_isKind cX1_isKind 1 (some .boolean), Cond.methodLink RX1 112 yX1_isWithin, Cond.static yX1_isWithin, Cond.code yX1_isWithin cX1_isWithin 3 (some .boolean), Cond.methodLink RX1 190 yX1_partsInStates, Cond.instanceMethod yX1_partsInStates, Cond.selects RX1 yX1_partsInStates yX1_partsInStates, Cond.code yX1_partsInStates cX1_partsInStates 7 (some .int), Cond.fieldLink RX1 15 "Wallplan" "count" "I", Cond.fieldLink RX1 122 "Wallplan$Element" "kind" "I", Cond.fieldLink RX1 93 "Wallplan$Element" "state" "I", Cond.methodLink RX1 74 yX1_find, Cond.instanceMethod yX1_find, Cond.selects RX1 yX1_find yX1_find]
def wsL_ordered_r2 : List Cond := [Cond.code yX1_find cX1_find 2 (some (.object "Wallplan$Element")), Cond.fieldLink RX1 11 "Wallplan" "elements" "[LWallplan$Element;", Cond.methodLink RX1 136 yX1_partsOf, Cond.instanceMethod yX1_partsOf, Cond.selects RX1 yX1_partsOf yX1_partsOf, Cond.code yX1_partsOf cX1_partsOf 3 (some .int), Cond.fieldLink RX1 23 "Wallplan" "partCells" "[I", Cond.methodLink RX1 175 yX0_cells, Cond.instanceMethod yX0_cells, Cond.selects RX0 yX0_cells yX0_cells, Cond.initialized RX0, Cond.code yX0_cells cX0_cells 1 (some .int), Cond.fieldLink RX0 30 "Wallplan$Element" "toX" "I", Cond.fieldLink RX0 24 "Wallplan$Element" "fromX" "I", Cond.methodLink RX0 42 Lib.Math.abs.name, Cond.static Lib.Math.abs.name, Cond.initialized "java/lang/Math", Cond.code Lib.Math.abs.name Lib.Math.abs.code 1 (some .int), Cond.fieldLink RX0 33 "Wallplan$Element" "toY" "I", Cond.fieldLink RX0 27 "Wallplan$Element" "fromY" "I"]
def wsL_ordered : List Cond := .codeWith yL_ordered cL_ordered 4 (some .int) [(0, 9, 12, 13)] :: ((wsL_ordered_r1 ++ wsL_ordered_r2) ++ wsX10 ++ wsX00 ++ (vx_atS RX1 50 "java/lang/IndexOutOfBoundsException" ["java/lang/RuntimeException", "java/lang/Exception"]).filter goodWord)
def wsL_kindsAt_r1 : List Cond := [Cond.classLink RL 13 "java/lang/IndexOutOfBoundsException", Cond.classLink RL 15 "java/lang/IllegalArgumentException", Cond.methodLink RL 77 yX1_kindsAt, Cond.instanceMethod yX1_kindsAt, Cond.selects RX1 yX1_kindsAt yX1_kindsAt, Cond.initialized RX1, Cond.code yX1_kindsAt cX1_kindsAt 7 (some .int), Cond.classLink RX1 46 "java/lang/IndexOutOfBoundsException", Cond.initialized "java/lang/IndexOutOfBoundsException", Cond.classLink RX1 57 "java/lang/IllegalArgumentException", Cond.initialized "java/lang/IllegalArgumentException", Cond.fieldLink RX1 15 "Wallplan" "count" "I", Cond.fieldLink RX1 154 "Wallplan$Element" "storey" "I", Cond.fieldLink RX1 122 "Wallplan$Element" "kind" "I", Cond.methodLink RX1 43 yX1_isStorey, Cond.static yX1_isStorey, Cond.code yX1_isStorey cX1_isStorey 1 (some .boolean), Cond.methodLink RX1 112 yX1_isWithin, Cond.static yX1_isWithin, Cond.code yX1_isWithin cX1_isWithin 3 (some .boolean), Cond.methodLink RX1 53 yX1_isCell, Cond.static yX1_isCell, Cond.code yX1_isCell cX1_isCell 2 (some .boolean), Cond.methodLink RX1 74 yX1_find]
def wsL_kindsAt_r2 : List Cond := [Cond.instanceMethod yX1_find, Cond.selects RX1 yX1_find yX1_find, Cond.code yX1_find cX1_find 2 (some (.object "Wallplan$Element")), Cond.fieldLink RX1 11 "Wallplan" "elements" "[LWallplan$Element;", Cond.methodLink RX1 194 yX0_isThere, Cond.instanceMethod yX0_isThere, Cond.selects RX0 yX0_isThere yX0_isThere, Cond.initialized RX0, Cond.code yX0_isThere cX0_isThere 1 (some .boolean), Cond.fieldLink RX0 9 "Wallplan$Element" "state" "I", Cond.methodLink RX1 203 yX0_covers, Cond.instanceMethod yX0_covers, Cond.selects RX0 yX0_covers yX0_covers, Cond.code yX0_covers cX0_covers 3 (some .boolean), Cond.fieldLink RX0 24 "Wallplan$Element" "fromX" "I", Cond.fieldLink RX0 30 "Wallplan$Element" "toX" "I", Cond.methodLink RX0 48 Lib.Math.min.name, Cond.static Lib.Math.min.name, Cond.initialized "java/lang/Math", Cond.code Lib.Math.min.name Lib.Math.min.code 2 (some .int), Cond.methodLink RX0 52 Lib.Math.max.name, Cond.static Lib.Math.max.name, Cond.code Lib.Math.max.name Lib.Math.max.code 2 (some .int), Cond.fieldLink RX0 27 "Wallplan$Element" "fromY" "I"]
def wsL_kindsAt_r3 : List Cond := [Cond.fieldLink RX0 33 "Wallplan$Element" "toY" "I"]
def wsL_kindsAt : List Cond := .codeWith yL_kindsAt cL_kindsAt 6 (some .int) [(0, 12, 15, 13), (0, 12, 19, 15)] :: ((wsL_kindsAt_r1 ++ (wsL_kindsAt_r2 ++ wsL_kindsAt_r3)) ++ wsX10 ++ wsX00 ++ (vx_atS RX1 50 "java/lang/IndexOutOfBoundsException" ["java/lang/RuntimeException", "java/lang/Exception"]).filter goodWord ++ (vx_atS RX1 61 "java/lang/IllegalArgumentException" ["java/lang/RuntimeException", "java/lang/Exception"]).filter goodWord)
def wsL_isLocked : List Cond := .codeWith yL_isLocked cL_isLocked 4 (some .int) [(0, 16, 19, 13)] :: ([.classLink RL 13 "java/lang/IndexOutOfBoundsException", .methodLink RL 80 yX1_isLocked, .instanceMethod yX1_isLocked, .selects RX1 yX1_isLocked yX1_isLocked, .initialized RX1, .code yX1_isLocked cX1_isLocked 2 (some .boolean), .classLink RX1 46 "java/lang/IndexOutOfBoundsException", .initialized "java/lang/IndexOutOfBoundsException", .fieldLink RX1 29 "Wallplan" "locked" "[Z", .methodLink RX1 43 yX1_isStorey, .static yX1_isStorey, .code yX1_isStorey cX1_isStorey 1 (some .boolean), .methodLink RX1 112 yX1_isWithin, .static yX1_isWithin, .code yX1_isWithin cX1_isWithin 3 (some .boolean)] ++ wsX10 ++ (vx_atS RX1 50 "java/lang/IndexOutOfBoundsException" ["java/lang/RuntimeException", "java/lang/Exception"]).filter goodWord)
def wsL_law0_r1 : List Cond := [Cond.classLink RL 8 RX1, Cond.instantiable RX1 8, Cond.initialized RX1, Cond.classLink RL 84 RX2, Cond.instantiable RX2 18, Cond.initialized RX2, Cond.arrayClass .long, Cond.methodLink RL 83 yX1_init, Cond.instanceMethod yX1_init, Cond.code yX1_init cX1_init 1 none, Cond.methodLink RX1 1 objectInit, Cond.instanceMethod objectInit, Cond.code objectInit ⟨#[0xb1]⟩ 1 none, Cond.classLink RX1 9 RX0, Cond.fieldLink RX1 11 "Wallplan" "elements" "[LWallplan$Element;", Cond.fieldLink RX1 15 "Wallplan" "count" "I", Cond.arrayClass .int, Cond.fieldLink RX1 19 "Wallplan" "clearances" "[I", Cond.fieldLink RX1 23 "Wallplan" "partCells" "[I", Cond.fieldLink RX1 26 "Wallplan" "leadDays" "[I", Cond.arrayClass .boolean, Cond.fieldLink RX1 29 "Wallplan" "locked" "[Z", Cond.fieldLink RX1 33 "Wallplan" "latestRevision" "I", Cond.fieldLink RX1 36 "Wallplan" "today" "I"]
def wsL_law0_r2 : List Cond := [Cond.methodLink RL 86 yX2_init, Cond.instanceMethod yX2_init, Cond.code yX2_init cX2_init 2 none, Cond.methodLink RX2 1 objectInit, Cond.fieldLink RX2 7 "WallplanModel" "kind" "[I", Cond.fieldLink RX2 13 "WallplanModel" "storey" "[I", Cond.fieldLink RX2 16 "WallplanModel" "fromX" "[I", Cond.fieldLink RX2 19 "WallplanModel" "fromY" "[I", Cond.fieldLink RX2 22 "WallplanModel" "toX" "[I", Cond.fieldLink RX2 25 "WallplanModel" "toY" "[I", Cond.fieldLink RX2 28 "WallplanModel" "state" "[I", Cond.fieldLink RX2 31 "WallplanModel" "changed" "[I", Cond.fieldLink RX2 34 "WallplanModel" "by" "[I", Cond.fieldLink RX2 37 "WallplanModel" "due" "[I", Cond.fieldLink RX2 40 "WallplanModel" "clearance" "[I", Cond.fieldLink RX2 43 "WallplanModel" "cells" "[I", Cond.fieldLink RX2 46 "WallplanModel" "leads" "[I", Cond.fieldLink RX2 49 "WallplanModel" "locks" "[Z", Cond.methodLink RL 87 yL_add, Cond.static yL_add, Cond.initialized RL, Cond.codeWith yL_add cL_add 9 (some .int) [(0, 18, 21, 13), (0, 18, 25, 15), (0, 18, 29, 17)], Cond.classLink RL 13 "java/lang/IndexOutOfBoundsException", Cond.classLink RL 15 "java/lang/IllegalArgumentException"]
def wsL_law0_r3 : List Cond := [Cond.classLink RL 17 "java/lang/IllegalStateException", Cond.methodLink RL 7 yX1_add, Cond.instanceMethod yX1_add, Cond.selects RX1 yX1_add yX1_add, Cond.code yX1_add cX1_add 8 (some .int), Cond.classLink RX1 46 "java/lang/IndexOutOfBoundsException", Cond.initialized "java/lang/IndexOutOfBoundsException", Cond.classLink RX1 57 "java/lang/IllegalArgumentException", Cond.initialized "java/lang/IllegalArgumentException", Cond.classLink RX1 64 "java/lang/IllegalStateException", Cond.initialized "java/lang/IllegalStateException", Cond.instantiable RX0 10, Cond.initialized RX0, Cond.methodLink RX1 39 yX1_isKind, Cond.static yX1_isKind, Cond.code yX1_isKind cX1_isKind 1 (some .boolean), Cond.methodLink RX1 112 yX1_isWithin, Cond.static yX1_isWithin, Cond.code yX1_isWithin cX1_isWithin 3 (some .boolean), Cond.methodLink RX1 43 yX1_isStorey, Cond.static yX1_isStorey, Cond.code yX1_isStorey cX1_isStorey 1 (some .boolean), Cond.methodLink RX1 53 yX1_isCell, Cond.static yX1_isCell]
def wsL_law0_r4 : List Cond := [Cond.code yX1_isCell cX1_isCell 2 (some .boolean), Cond.methodLink RX1 71 yX0_init, Cond.instanceMethod yX0_init, Cond.code yX0_init cX0_init 8 none, Cond.methodLink RX0 3 objectInit, Cond.fieldLink RX0 9 "Wallplan$Element" "state" "I", Cond.fieldLink RX0 15 "Wallplan$Element" "deliveryDay" "I", Cond.fieldLink RX0 18 "Wallplan$Element" "kind" "I", Cond.fieldLink RX0 21 "Wallplan$Element" "storey" "I", Cond.fieldLink RX0 24 "Wallplan$Element" "fromX" "I", Cond.fieldLink RX0 27 "Wallplan$Element" "fromY" "I", Cond.fieldLink RX0 30 "Wallplan$Element" "toX" "I", Cond.fieldLink RX0 33 "Wallplan$Element" "toY" "I", Cond.fieldLink RX0 36 "Wallplan$Element" "changeRevision" "I", Cond.fieldLink RX0 39 "Wallplan$Element" "changeTrade" "I", Cond.methodLink RL 92 yX2_add, Cond.instanceMethod yX2_add, Cond.selects RX2 yX2_add yX2_add, Cond.code yX2_add cX2_add 9 (some .int), Cond.fieldLink RX2 61 "WallplanModel" "elements" "I", Cond.methodLink RX2 67 yX2_isTrade, Cond.static yX2_isTrade, Cond.code yX2_isTrade cX2_isTrade 1 (some .boolean), Cond.methodLink RX2 57 yX2_in]
def wsL_law0_r5 : List Cond := [Cond.static yX2_in, Cond.code yX2_in cX2_in 3 (some .boolean), Cond.methodLink RX2 71 yX2_isStorey, Cond.static yX2_isStorey, Cond.code yX2_isStorey cX2_isStorey 1 (some .boolean), Cond.methodLink RX2 74 yX2_isSide, Cond.static yX2_isSide, Cond.code yX2_isSide cX2_isSide 1 (some .boolean), Cond.methodLink RX2 77 yX2_refused, Cond.instanceMethod yX2_refused, Cond.selects RX2 yX2_refused yX2_refused, Cond.code yX2_refused cX2_refused 2 (some .boolean), Cond.fieldLink RX2 53 "WallplanModel" "thrown" "I", Cond.methodLink RX2 80 yX2_change, Cond.instanceMethod yX2_change, Cond.selects RX2 yX2_change yX2_change, Cond.code yX2_change cX2_change 3 none, Cond.fieldLink RX2 64 "WallplanModel" "revision" "I", Cond.methodLink RL 93 yX2_thrown, Cond.instanceMethod yX2_thrown, Cond.selects RX2 yX2_thrown yX2_thrown, Cond.code yX2_thrown cX2_thrown 1 (some .int), Cond.methodLink RL 97 yL_move, Cond.static yL_move]
def wsL_law0_r6 : List Cond := [Cond.codeWith yL_move cL_move 8 (some .int) [(0, 23, 26, 13), (0, 23, 30, 15), (0, 23, 34, 17)], Cond.methodLink RL 19 yX1_move, Cond.instanceMethod yX1_move, Cond.selects RX1 yX1_move yX1_move, Cond.code yX1_move cX1_move 7 (some .boolean), Cond.fieldLink RX1 93 "Wallplan$Element" "state" "I", Cond.methodLink RX1 74 yX1_find, Cond.instanceMethod yX1_find, Cond.selects RX1 yX1_find yX1_find, Cond.code yX1_find cX1_find 2 (some (.object "Wallplan$Element")), Cond.methodLink RX1 80 yX1_isBase, Cond.instanceMethod yX1_isBase, Cond.selects RX1 yX1_isBase yX1_isBase, Cond.code yX1_isBase cX1_isBase 2 (some .boolean), Cond.methodLink RX1 85 yX1_isStep, Cond.static yX1_isStep, Cond.code yX1_isStep cX1_isStep 1 (some .boolean), Cond.methodLink RX1 88 yX0_staysInside, Cond.instanceMethod yX0_staysInside, Cond.selects RX0 yX0_staysInside yX0_staysInside, Cond.code yX0_staysInside cX0_staysInside 3 (some .boolean), Cond.methodLink RX1 98 yX1_losesAgainstLastChange, Cond.static yX1_losesAgainstLastChange, Cond.code yX1_losesAgainstLastChange cX1_losesAgainstLastChange 3 (some .boolean)]
def wsL_law0_r7 : List Cond := [Cond.fieldLink RX1 169 "Wallplan$Element" "changeRevision" "I", Cond.fieldLink RX1 172 "Wallplan$Element" "changeTrade" "I", Cond.methodLink RX1 102 yX0_shift, Cond.instanceMethod yX0_shift, Cond.selects RX0 yX0_shift yX0_shift, Cond.code yX0_shift cX0_shift 3 none, Cond.methodLink RX1 106 yX1_noteChange, Cond.instanceMethod yX1_noteChange, Cond.selects RX1 yX1_noteChange yX1_noteChange, Cond.code yX1_noteChange cX1_noteChange 3 none, Cond.methodLink RL 100 yX2_move, Cond.instanceMethod yX2_move, Cond.selects RX2 yX2_move yX2_move, Cond.code yX2_move cX2_move 8 (some .boolean), Cond.methodLink RX2 84 yX2_isElement, Cond.instanceMethod yX2_isElement, Cond.selects RX2 yX2_isElement yX2_isElement, Cond.code yX2_isElement cX2_isElement 2 (some .boolean), Cond.methodLink RX2 87 yX2_isTaken, Cond.instanceMethod yX2_isTaken, Cond.selects RX2 yX2_isTaken yX2_isTaken, Cond.code yX2_isTaken cX2_isTaken 4 (some .boolean), Cond.methodLink RL 101 yL_remove, Cond.static yL_remove]
def wsL_law0_r8 : List Cond := [Cond.codeWith yL_remove cL_remove 6 (some .int) [(0, 19, 22, 13), (0, 19, 26, 15), (0, 19, 30, 17)], Cond.methodLink RL 23 yX1_remove, Cond.instanceMethod yX1_remove, Cond.selects RX1 yX1_remove yX1_remove, Cond.code yX1_remove cX1_remove 5 (some .boolean), Cond.methodLink RL 104 yX2_remove, Cond.instanceMethod yX2_remove, Cond.selects RX2 yX2_remove yX2_remove, Cond.code yX2_remove cX2_remove 5 (some .boolean), Cond.methodLink RL 105 yL_clear, Cond.static yL_clear, Cond.codeWith yL_clear cL_clear 6 (some .int) [(0, 12, 15, 13), (0, 12, 19, 15)], Cond.methodLink RL 27 yX1_clear, Cond.instanceMethod yX1_clear, Cond.selects RX1 yX1_clear yX1_clear, Cond.code yX1_clear cX1_clear 5 (some .int), Cond.methodLink RL 107 yX2_clear, Cond.instanceMethod yX2_clear, Cond.selects RX2 yX2_clear yX2_clear, Cond.code yX2_clear cX2_clear 6 (some .int), Cond.methodLink RL 108 yL_part, Cond.static yL_part, Cond.codeWith yL_part cL_part 5 (some .int) [(0, 10, 13, 13), (0, 10, 17, 15)], Cond.methodLink RL 31 yX1_part]
def wsL_law0_r9 : List Cond := [Cond.instanceMethod yX1_part, Cond.selects RX1 yX1_part yX1_part, Cond.code yX1_part cX1_part 4 (some .int), Cond.methodLink RL 111 yX2_part, Cond.instanceMethod yX2_part, Cond.selects RX2 yX2_part yX2_part, Cond.code yX2_part cX2_part 4 (some .int), Cond.methodLink RL 112 yL_lead, Cond.static yL_lead, Cond.codeWith yL_lead cL_lead 5 (some .int) [(0, 10, 13, 13), (0, 10, 17, 15)], Cond.methodLink RL 35 yX1_lead, Cond.instanceMethod yX1_lead, Cond.selects RX1 yX1_lead yX1_lead, Cond.code yX1_lead cX1_lead 4 (some .int), Cond.methodLink RL 114 yX2_lead, Cond.instanceMethod yX2_lead, Cond.selects RX2 yX2_lead yX2_lead, Cond.code yX2_lead cX2_lead 4 (some .int), Cond.methodLink RL 115 yL_order, Cond.static yL_order, Cond.codeWith yL_order cL_order 4 (some .int) [(0, 9, 12, 13), (0, 9, 15, 17)], Cond.methodLink RL 38 yX1_order, Cond.instanceMethod yX1_order, Cond.selects RX1 yX1_order yX1_order]
def wsL_law0_r10 : List Cond := [Cond.code yX1_order cX1_order 3 (some .int), Cond.fieldLink RX1 122 "Wallplan$Element" "kind" "I", Cond.fieldLink RX1 129 "Wallplan$Element" "deliveryDay" "I", Cond.methodLink RX1 125 yX1_leadDaysOf, Cond.instanceMethod yX1_leadDaysOf, Cond.selects RX1 yX1_leadDaysOf yX1_leadDaysOf, Cond.code yX1_leadDaysOf cX1_leadDaysOf 2 (some .int), Cond.methodLink RX1 132 yX0_deliverIfDue, Cond.instanceMethod yX0_deliverIfDue, Cond.selects RX0 yX0_deliverIfDue yX0_deliverIfDue, Cond.code yX0_deliverIfDue cX0_deliverIfDue 2 none, Cond.methodLink RX1 136 yX1_partsOf, Cond.instanceMethod yX1_partsOf, Cond.selects RX1 yX1_partsOf yX1_partsOf, Cond.code yX1_partsOf cX1_partsOf 3 (some .int), Cond.methodLink RX1 175 yX0_cells, Cond.instanceMethod yX0_cells, Cond.selects RX0 yX0_cells yX0_cells, Cond.code yX0_cells cX0_cells 1 (some .int), Cond.methodLink RX0 42 Lib.Math.abs.name, Cond.static Lib.Math.abs.name, Cond.initialized "java/lang/Math", Cond.code Lib.Math.abs.name Lib.Math.abs.code 1 (some .int), Cond.methodLink RL 118 yX2_order]
def wsL_law0_r11 : List Cond := [Cond.instanceMethod yX2_order, Cond.selects RX2 yX2_order yX2_order, Cond.code yX2_order cX2_order 3 (some .int), Cond.fieldLink RX2 97 "WallplanModel" "day" "I", Cond.methodLink RX2 100 yX2_partsOf, Cond.instanceMethod yX2_partsOf, Cond.selects RX2 yX2_partsOf yX2_partsOf, Cond.code yX2_partsOf cX2_partsOf 2 (some .int), Cond.methodLink RX2 94 yX2_cellsOf, Cond.instanceMethod yX2_cellsOf, Cond.selects RX2 yX2_cellsOf yX2_cellsOf, Cond.code yX2_cellsOf cX2_cellsOf 2 (some .int), Cond.methodLink RX2 90 yX2_size, Cond.static yX2_size, Cond.code yX2_size cX2_size 1 (some .int), Cond.methodLink RL 119 yL_cancel, Cond.static yL_cancel, Cond.codeWith yL_cancel cL_cancel 4 (some .int) [(0, 9, 12, 13), (0, 9, 15, 17)], Cond.methodLink RL 42 yX1_cancel, Cond.instanceMethod yX1_cancel, Cond.selects RX1 yX1_cancel yX1_cancel, Cond.code yX1_cancel cX1_cancel 3 (some .int), Cond.methodLink RL 121 yX2_cancel, Cond.instanceMethod yX2_cancel]
def wsL_law0_r12 : List Cond := [Cond.selects RX2 yX2_cancel yX2_cancel, Cond.code yX2_cancel cX2_cancel 3 (some .int), Cond.methodLink RL 122 yL_build, Cond.static yL_build, Cond.codeWith yL_build cL_build 4 (some .int) [(0, 16, 19, 13), (0, 16, 22, 17)], Cond.methodLink RL 45 yX1_build, Cond.instanceMethod yX1_build, Cond.selects RX1 yX1_build yX1_build, Cond.code yX1_build cX1_build 3 (some .boolean), Cond.methodLink RX1 144 yX1_clashesWithAny, Cond.instanceMethod yX1_clashesWithAny, Cond.selects RX1 yX1_clashesWithAny yX1_clashesWithAny, Cond.code yX1_clashesWithAny cX1_clashesWithAny 3 (some .boolean), Cond.methodLink RX1 181 yX1_isClashingPair, Cond.instanceMethod yX1_isClashingPair, Cond.selects RX1 yX1_isClashingPair yX1_isClashingPair, Cond.code yX1_isClashingPair cX1_isClashingPair 5 (some .boolean), Cond.fieldLink RX1 154 "Wallplan$Element" "storey" "I", Cond.methodLink RX1 194 yX0_isThere, Cond.instanceMethod yX0_isThere, Cond.selects RX0 yX0_isThere yX0_isThere, Cond.code yX0_isThere cX0_isThere 1 (some .boolean), Cond.methodLink RX1 206 yX0_distanceTo, Cond.instanceMethod yX0_distanceTo]
def wsL_law0_r13 : List Cond := [Cond.selects RX0 yX0_distanceTo yX0_distanceTo, Cond.code yX0_distanceTo cX0_distanceTo 4 (some .int), Cond.methodLink RX0 52 Lib.Math.max.name, Cond.static Lib.Math.max.name, Cond.code Lib.Math.max.name Lib.Math.max.code 2 (some .int), Cond.methodLink RX0 63 yX0_gap, Cond.static yX0_gap, Cond.code yX0_gap cX0_gap 6 (some .int), Cond.methodLink RX0 48 Lib.Math.min.name, Cond.static Lib.Math.min.name, Cond.code Lib.Math.min.name Lib.Math.min.code 2 (some .int), Cond.methodLink RX1 209 yX1_clearanceOf, Cond.instanceMethod yX1_clearanceOf, Cond.selects RX1 yX1_clearanceOf yX1_clearanceOf, Cond.code yX1_clearanceOf cX1_clearanceOf 3 (some .int), Cond.methodLink RL 124 yX2_build, Cond.instanceMethod yX2_build, Cond.selects RX2 yX2_build yX2_build, Cond.code yX2_build cX2_build 3 (some .boolean), Cond.methodLink RX2 111 yX2_hasClash, Cond.instanceMethod yX2_hasClash, Cond.selects RX2 yX2_hasClash yX2_hasClash, Cond.code yX2_hasClash cX2_hasClash 4 (some .boolean), Cond.methodLink RX2 107 yX2_doClash]
def wsL_law0_r14 : List Cond := [Cond.instanceMethod yX2_doClash, Cond.selects RX2 yX2_doClash yX2_doClash, Cond.code yX2_doClash cX2_doClash 5 (some .boolean), Cond.methodLink RX2 103 yX2_gap, Cond.static yX2_gap, Cond.code yX2_gap cX2_gap 8 (some .int), Cond.methodLink RL 125 yL_inspect, Cond.static yL_inspect, Cond.codeWith yL_inspect cL_inspect 4 (some .int) [(0, 16, 19, 13), (0, 16, 22, 17)], Cond.methodLink RL 49 yX1_inspect, Cond.instanceMethod yX1_inspect, Cond.selects RX1 yX1_inspect yX1_inspect, Cond.code yX1_inspect cX1_inspect 2 (some .boolean), Cond.methodLink RX1 149 yX1_isFinished, Cond.instanceMethod yX1_isFinished, Cond.selects RX1 yX1_isFinished yX1_isFinished, Cond.code yX1_isFinished cX1_isFinished 5 (some .boolean), Cond.methodLink RL 127 yX2_inspect, Cond.instanceMethod yX2_inspect, Cond.selects RX2 yX2_inspect yX2_inspect, Cond.code yX2_inspect cX2_inspect 6 (some .boolean), Cond.methodLink RL 128 yL_pass, Cond.static yL_pass, Cond.codeWith yL_pass cL_pass 4 (some .int) [(0, 9, 12, 15), (0, 9, 15, 17)]]
def wsL_law0_r15 : List Cond := [Cond.methodLink RL 52 yX1_pass, Cond.instanceMethod yX1_pass, Cond.selects RX1 yX1_pass yX1_pass, Cond.code yX1_pass cX1_pass 4 (some .int), Cond.methodLink RL 130 yX2_pass, Cond.instanceMethod yX2_pass, Cond.selects RX2 yX2_pass yX2_pass, Cond.code yX2_pass cX2_pass 3 (some .int), Cond.methodLink RL 131 yX1_day, Cond.instanceMethod yX1_day, Cond.selects RX1 yX1_day yX1_day, Cond.code yX1_day cX1_day 1 (some .int), Cond.methodLink RL 134 yX2_day, Cond.instanceMethod yX2_day, Cond.selects RX2 yX2_day yX2_day, Cond.code yX2_day cX2_day 1 (some .int), Cond.methodLink RL 135 yX1_revision, Cond.instanceMethod yX1_revision, Cond.selects RX1 yX1_revision yX1_revision, Cond.code yX1_revision cX1_revision 1 (some .int), Cond.methodLink RL 138 yX2_revision, Cond.instanceMethod yX2_revision, Cond.selects RX2 yX2_revision yX2_revision, Cond.code yX2_revision cX2_revision 1 (some .int)]
def wsL_law0_r16 : List Cond := [Cond.methodLink RL 139 yL_elementOf, Cond.static yL_elementOf, Cond.codeWith yL_elementOf cL_elementOf 5 (some .int) [(0, 10, 13, 13), (0, 10, 17, 15)], Cond.methodLink RL 55 yX1_elementOf, Cond.instanceMethod yX1_elementOf, Cond.selects RX1 yX1_elementOf yX1_elementOf, Cond.code yX1_elementOf cX1_elementOf 4 (some .int), Cond.fieldLink RX1 157 "Wallplan$Element" "fromX" "I", Cond.fieldLink RX1 160 "Wallplan$Element" "fromY" "I", Cond.fieldLink RX1 163 "Wallplan$Element" "toX" "I", Cond.fieldLink RX1 166 "Wallplan$Element" "toY" "I", Cond.methodLink RL 141 yX2_elementOf, Cond.instanceMethod yX2_elementOf, Cond.selects RX2 yX2_elementOf yX2_elementOf, Cond.code yX2_elementOf cX2_elementOf 3 (some .int), Cond.methodLink RL 142 yL_clash, Cond.static yL_clash, Cond.codeWith yL_clash cL_clash 5 (some .int) [(0, 17, 20, 13)], Cond.methodLink RL 58 yX1_clash, Cond.instanceMethod yX1_clash, Cond.selects RX1 yX1_clash yX1_clash, Cond.code yX1_clash cX1_clash 3 (some .boolean), Cond.methodLink RL 144 yX2_clash, Cond.instanceMethod yX2_clash]
def wsL_law0_r17 : List Cond := [Cond.selects RX2 yX2_clash yX2_clash, Cond.code yX2_clash cX2_clash 3 (some .boolean), Cond.methodLink RL 145 yL_clashes, Cond.static yL_clashes, Cond.codeWith yL_clashes cL_clashes 4 (some .int) [(0, 9, 12, 13)], Cond.methodLink RL 62 yX1_clashes, Cond.instanceMethod yX1_clashes, Cond.selects RX1 yX1_clashes yX1_clashes, Cond.code yX1_clashes cX1_clashes 4 (some .int), Cond.methodLink RX1 184 yX1_isOnStorey, Cond.instanceMethod yX1_isOnStorey, Cond.selects RX1 yX1_isOnStorey yX1_isOnStorey, Cond.code yX1_isOnStorey cX1_isOnStorey 4 (some .boolean), Cond.methodLink RX1 187 yX1_clashesWithEarlier, Cond.instanceMethod yX1_clashesWithEarlier, Cond.selects RX1 yX1_clashesWithEarlier yX1_clashesWithEarlier, Cond.code yX1_clashesWithEarlier cX1_clashesWithEarlier 4 (some .int), Cond.methodLink RL 147 yX2_clashes, Cond.instanceMethod yX2_clashes, Cond.selects RX2 yX2_clashes yX2_clashes, Cond.code yX2_clashes cX2_clashes 5 (some .int), Cond.methodLink RL 148 yL_isStopped, Cond.static yL_isStopped, Cond.codeWith yL_isStopped cL_isStopped 5 (some .int) [(0, 17, 20, 13)]]
def wsL_law0_r18 : List Cond := [Cond.methodLink RL 65 yX1_isStopped, Cond.instanceMethod yX1_isStopped, Cond.selects RX1 yX1_isStopped yX1_isStopped, Cond.code yX1_isStopped cX1_isStopped 5 (some .boolean), Cond.methodLink RL 150 yX2_isStopped, Cond.instanceMethod yX2_isStopped, Cond.selects RX2 yX2_isStopped yX2_isStopped, Cond.code yX2_isStopped cX2_isStopped 5 (some .boolean), Cond.methodLink RL 151 yL_parts, Cond.static yL_parts, Cond.codeWith yL_parts cL_parts 4 (some .int) [(0, 9, 12, 13)], Cond.methodLink RL 68 yX1_parts, Cond.instanceMethod yX1_parts, Cond.selects RX1 yX1_parts yX1_parts, Cond.code yX1_parts cX1_parts 2 (some .int), Cond.methodLink RX1 190 yX1_partsInStates, Cond.instanceMethod yX1_partsInStates, Cond.selects RX1 yX1_partsInStates yX1_partsInStates, Cond.code yX1_partsInStates cX1_partsInStates 7 (some .int), Cond.methodLink RL 153 yX2_parts, Cond.instanceMethod yX2_parts, Cond.selects RX2 yX2_parts yX2_parts, Cond.code yX2_parts cX2_parts 2 (some .int), Cond.methodLink RX2 114 yX2_partsFrom]
def wsL_law0_r19 : List Cond := [Cond.instanceMethod yX2_partsFrom, Cond.selects RX2 yX2_partsFrom yX2_partsFrom, Cond.code yX2_partsFrom cX2_partsFrom 5 (some .int), Cond.methodLink RL 154 yL_partsAnew, Cond.static yL_partsAnew, Cond.codeWith yL_partsAnew cL_partsAnew 4 (some .int) [(0, 9, 12, 13)], Cond.methodLink RL 71 yX1_partsAnew, Cond.instanceMethod yX1_partsAnew, Cond.selects RX1 yX1_partsAnew yX1_partsAnew, Cond.code yX1_partsAnew cX1_partsAnew 5 (some .int), Cond.methodLink RX1 198 yX0_partsCellByCell, Cond.instanceMethod yX0_partsCellByCell, Cond.selects RX0 yX0_partsCellByCell yX0_partsCellByCell, Cond.code yX0_partsCellByCell cX0_partsCellByCell 6 (some .int), Cond.methodLink RX0 67 yX0_covers, Cond.instanceMethod yX0_covers, Cond.selects RX0 yX0_covers yX0_covers, Cond.code yX0_covers cX0_covers 3 (some .boolean), Cond.methodLink RL 156 yX2_partsAnew, Cond.instanceMethod yX2_partsAnew, Cond.selects RX2 yX2_partsAnew yX2_partsAnew, Cond.code yX2_partsAnew cX2_partsAnew 2 (some .int), Cond.methodLink RX2 118 yX2_parts, Cond.methodLink RL 157 yL_ordered]
def wsL_law0_r20 : List Cond := [Cond.static yL_ordered, Cond.codeWith yL_ordered cL_ordered 4 (some .int) [(0, 9, 12, 13)], Cond.methodLink RL 74 yX1_ordered, Cond.instanceMethod yX1_ordered, Cond.selects RX1 yX1_ordered yX1_ordered, Cond.code yX1_ordered cX1_ordered 2 (some .int), Cond.methodLink RL 159 yX2_ordered, Cond.instanceMethod yX2_ordered, Cond.selects RX2 yX2_ordered yX2_ordered, Cond.code yX2_ordered cX2_ordered 2 (some .int), Cond.methodLink RL 160 yL_kindsAt, Cond.static yL_kindsAt, Cond.codeWith yL_kindsAt cL_kindsAt 6 (some .int) [(0, 12, 15, 13), (0, 12, 19, 15)], Cond.methodLink RL 77 yX1_kindsAt, Cond.instanceMethod yX1_kindsAt, Cond.selects RX1 yX1_kindsAt yX1_kindsAt, Cond.code yX1_kindsAt cX1_kindsAt 7 (some .int), Cond.methodLink RX1 203 yX0_covers, Cond.methodLink RL 162 yX2_kindsAt, Cond.instanceMethod yX2_kindsAt, Cond.selects RX2 yX2_kindsAt yX2_kindsAt, Cond.code yX2_kindsAt cX2_kindsAt 7 (some .int), Cond.methodLink RL 163 yL_isLocked, Cond.static yL_isLocked]
def wsL_law0_r21 : List Cond := [Cond.codeWith yL_isLocked cL_isLocked 4 (some .int) [(0, 16, 19, 13)], Cond.methodLink RL 80 yX1_isLocked, Cond.instanceMethod yX1_isLocked, Cond.selects RX1 yX1_isLocked yX1_isLocked, Cond.code yX1_isLocked cX1_isLocked 2 (some .boolean), Cond.methodLink RL 165 yX2_isLocked, Cond.instanceMethod yX2_isLocked, Cond.selects RX2 yX2_isLocked yX2_isLocked, Cond.code yX2_isLocked cX2_isLocked 2 (some .boolean)]
def wsL_law0 : List Cond := (wsL_law0_r1 ++ (wsL_law0_r2 ++ (wsL_law0_r3 ++ (wsL_law0_r4 ++ (wsL_law0_r5 ++ (wsL_law0_r6 ++ (wsL_law0_r7 ++ (wsL_law0_r8 ++ (wsL_law0_r9 ++ (wsL_law0_r10 ++ (wsL_law0_r11 ++ (wsL_law0_r12 ++ (wsL_law0_r13 ++ (wsL_law0_r14 ++ (wsL_law0_r15 ++ (wsL_law0_r16 ++ (wsL_law0_r17 ++ (wsL_law0_r18 ++ (wsL_law0_r19 ++ (wsL_law0_r20 ++ wsL_law0_r21)))))))))))))))))))) ++ wsX10 ++ wsX20 ++ wsX00 ++ ([] : List Cond)
def wsL_law : List Cond := wsL_law0 ++ (vx_atS RX1 50 "java/lang/IndexOutOfBoundsException" ["java/lang/RuntimeException", "java/lang/Exception"]).filter goodWord ++ (vx_atS RX1 61 "java/lang/IllegalArgumentException" ["java/lang/RuntimeException", "java/lang/Exception"]).filter goodWord ++ (vx_atS RX1 68 "java/lang/IllegalStateException" ["java/lang/RuntimeException", "java/lang/Exception"]).filter goodWord
end
section
set_option maxRecDepth 20000 in
theorem wsL_law_in0_1 : ∀ w ∈ wsL_law0_r1, w ∈ lw_tbl := fun w h => (goodIn_p wsL_law0_r1 [37, 40] (by decide +kernel) (by decide +kernel) w h).1
set_option maxRecDepth 20000 in
theorem wsL_law_in0_2 : ∀ w ∈ wsL_law0_r2, w ∈ lw_tbl := fun w h => (goodIn_p wsL_law0_r2 [500] (by decide +kernel) (by decide +kernel) w h).1
set_option maxRecDepth 20000 in
theorem wsL_law_in0_3 : ∀ w ∈ wsL_law0_r3, w ∈ lw_tbl := fun w h => (goodIn_p wsL_law0_r3 [87, 90, 93, 96] (by decide +kernel) (by decide +kernel) w h).1
set_option maxRecDepth 20000 in
theorem wsL_law_in0_4 : ∀ w ∈ wsL_law0_r4, w ∈ lw_tbl := fun w h => (goodIn_p wsL_law0_r4 [167, 205, 564, 567] (by decide +kernel) (by decide +kernel) w h).1
set_option maxRecDepth 20000 in
theorem wsL_law_in0_5 : ∀ w ∈ wsL_law0_r5, w ∈ lw_tbl := fun w h => (goodIn_p wsL_law0_r5 [570, 573, 576, 580, 584, 560] (by decide +kernel) (by decide +kernel) w h).1
set_option maxRecDepth 20000 in
theorem wsL_law_in0_6 : ∀ w ∈ wsL_law0_r6, w ∈ lw_tbl := fun w h => (goodIn_p wsL_law0_r6 [254, 258, 263, 267, 271, 277] (by decide +kernel) (by decide +kernel) w h).1
set_option maxRecDepth 20000 in
theorem wsL_law_in0_7 : ∀ w ∈ wsL_law0_r7, w ∈ lw_tbl := fun w h => (goodIn_p wsL_law0_r7 [281, 285, 588, 592, 596] (by decide +kernel) (by decide +kernel) w h).1
set_option maxRecDepth 20000 in
theorem wsL_law_in0_8 : ∀ w ∈ wsL_law0_r8, w ∈ lw_tbl := fun w h => (goodIn_p wsL_law0_r8 [292, 600, 299, 604] (by decide +kernel) (by decide +kernel) w h).1
set_option maxRecDepth 20000 in
theorem wsL_law_in0_9 : ∀ w ∈ wsL_law0_r9, w ∈ lw_tbl := fun w h => (goodIn_p wsL_law0_r9 [308, 608, 315, 612] (by decide +kernel) (by decide +kernel) w h).1
set_option maxRecDepth 20000 in
theorem wsL_law_in0_10 : ∀ w ∈ wsL_law0_r10, w ∈ lw_tbl := fun w h => (goodIn_p wsL_law0_r10 [323, 328, 332, 336, 340, 343] (by decide +kernel) (by decide +kernel) w h).1
set_option maxRecDepth 20000 in
theorem wsL_law_in0_11 : ∀ w ∈ wsL_law0_r11, w ∈ lw_tbl := fun w h => (goodIn_p wsL_law0_r11 [616, 620, 624, 627, 350] (by decide +kernel) (by decide +kernel) w h).1
set_option maxRecDepth 20000 in
theorem wsL_law_in0_12 : ∀ w ∈ wsL_law0_r12, w ∈ lw_tbl := fun w h => (goodIn_p wsL_law0_r12 [631, 358, 363, 367, 371] (by decide +kernel) (by decide +kernel) w h).1
set_option maxRecDepth 20000 in
theorem wsL_law_in0_13 : ∀ w ∈ wsL_law0_r13, w ∈ lw_tbl := fun w h => (goodIn_p wsL_law0_r13 [375, 384, 378, 381, 388, 635, 639] (by decide +kernel) (by decide +kernel) w h).1
set_option maxRecDepth 20000 in
theorem wsL_law_in0_14 : ∀ w ∈ wsL_law0_r14, w ∈ lw_tbl := fun w h => (goodIn_p wsL_law0_r14 [643, 646, 395, 400, 650] (by decide +kernel) (by decide +kernel) w h).1
set_option maxRecDepth 20000 in
theorem wsL_law_in0_15 : ∀ w ∈ wsL_law0_r15, w ∈ lw_tbl := fun w h => (goodIn_p wsL_law0_r15 [407, 654, 73, 658, 77, 662] (by decide +kernel) (by decide +kernel) w h).1
set_option maxRecDepth 20000 in
theorem wsL_law_in0_16 : ∀ w ∈ wsL_law0_r16, w ∈ lw_tbl := fun w h => (goodIn_p wsL_law0_r16 [415, 666, 423] (by decide +kernel) (by decide +kernel) w h).1
set_option maxRecDepth 20000 in
theorem wsL_law_in0_17 : ∀ w ∈ wsL_law0_r17, w ∈ lw_tbl := fun w h => (goodIn_p wsL_law0_r17 [670, 430, 434, 438, 674] (by decide +kernel) (by decide +kernel) w h).1
set_option maxRecDepth 20000 in
theorem wsL_law_in0_18 : ∀ w ∈ wsL_law0_r18, w ∈ lw_tbl := fun w h => (goodIn_p wsL_law0_r18 [445, 678, 452, 456, 682] (by decide +kernel) (by decide +kernel) w h).1
set_option maxRecDepth 20000 in
theorem wsL_law_in0_19 : ∀ w ∈ wsL_law0_r19, w ∈ lw_tbl := fun w h => (goodIn_p wsL_law0_r19 [686, 463, 467, 471, 690] (by decide +kernel) (by decide +kernel) w h).1
set_option maxRecDepth 20000 in
theorem wsL_law_in0_20 : ∀ w ∈ wsL_law0_r20, w ∈ lw_tbl := fun w h => (goodIn_p wsL_law0_r20 [479, 695, 486, 699] (by decide +kernel) (by decide +kernel) w h).1
set_option maxRecDepth 20000 in
theorem wsL_law_in0_21 : ∀ w ∈ wsL_law0_r21, w ∈ lw_tbl := fun w h => (goodIn_p wsL_law0_r21 [495, 703] (by decide +kernel) (by decide +kernel) w h).1
set_option maxRecDepth 20000 in
theorem in0_wsX10 : ∀ w ∈ wsX10, w ∈ lw_tbl := by decide +kernel
set_option maxRecDepth 20000 in
theorem in0_wsX20 : ∀ w ∈ wsX20, w ∈ lw_tbl := by decide +kernel
set_option maxRecDepth 20000 in
theorem in0_wsX00 : ∀ w ∈ wsX00, w ∈ lw_tbl := by decide +kernel
theorem wsL_law_in0 : ∀ w ∈ wsL_law0, w ∈ lw_tbl := fun w h => (List.mem_append.mp h).elim (fun h => (List.mem_append.mp h).elim (fun h => (List.mem_append.mp h).elim (fun h => (List.mem_append.mp h).elim (fun h => (List.mem_append.mp h).elim (fun h => wsL_law_in0_1 w h) (fun h => (List.mem_append.mp h).elim (fun h => wsL_law_in0_2 w h) (fun h => (List.mem_append.mp h).elim (fun h => wsL_law_in0_3 w h) (fun h => (List.mem_append.mp h).elim (fun h => wsL_law_in0_4 w h) (fun h => (List.mem_append.mp h).elim (fun h => wsL_law_in0_5 w h) (fun h => (List.mem_append.mp h).elim (fun h => wsL_law_in0_6 w h) (fun h => (List.mem_append.mp h).elim (fun h => wsL_law_in0_7 w h) (fun h => (List.mem_append.mp h).elim (fun h => wsL_law_in0_8 w h) (fun h => (List.mem_append.mp h).elim (fun h => wsL_law_in0_9 w h) (fun h => (List.mem_append.mp h).elim (fun h => wsL_law_in0_10 w h) (fun h => (List.mem_append.mp h).elim (fun h => wsL_law_in0_11 w h) (fun h => (List.mem_append.mp h).elim (fun h => wsL_law_in0_12 w h) (fun h => (List.mem_append.mp h).elim (fun h => wsL_law_in0_13 w h) (fun h => (List.mem_append.mp h).elim (fun h => wsL_law_in0_14 w h) (fun h => (List.mem_append.mp h).elim (fun h => wsL_law_in0_15 w h) (fun h => (List.mem_append.mp h).elim (fun h => wsL_law_in0_16 w h) (fun h => (List.mem_append.mp h).elim (fun h => wsL_law_in0_17 w h) (fun h => (List.mem_append.mp h).elim (fun h => wsL_law_in0_18 w h) (fun h => (List.mem_append.mp h).elim (fun h => wsL_law_in0_19 w h) (fun h => (List.mem_append.mp h).elim (fun h => wsL_law_in0_20 w h) (fun h => wsL_law_in0_21 w h))))))))))))))))))))) (fun h => in0_wsX10 w h)) (fun h => in0_wsX20 w h)) (fun h => in0_wsX00 w h)) (fun h => absurd h List.not_mem_nil)
theorem wsL_law_x0 : ∀ w ∈ (vx_atS RX1 50 "java/lang/IndexOutOfBoundsException" ["java/lang/RuntimeException", "java/lang/Exception"]).filter goodWord, w ∈ lw_tbl := by decide +kernel
theorem wsL_law_x1 : ∀ w ∈ (vx_atS RX1 61 "java/lang/IllegalArgumentException" ["java/lang/RuntimeException", "java/lang/Exception"]).filter goodWord, w ∈ lw_tbl := by decide +kernel
theorem wsL_law_x2 : ∀ w ∈ (vx_atS RX1 68 "java/lang/IllegalStateException" ["java/lang/RuntimeException", "java/lang/Exception"]).filter goodWord, w ∈ lw_tbl := by decide +kernel
theorem wsL_law_in : ∀ w ∈ wsL_law, w ∈ lw_tbl := fun w h => (List.mem_append.mp h).elim (fun h => (List.mem_append.mp h).elim (fun h => (List.mem_append.mp h).elim (fun h => wsL_law_in0 w h) (fun h => wsL_law_x0 w h)) (fun h => wsL_law_x1 w h)) (fun h => wsL_law_x2 w h)
theorem inlX0 : ∀ w ∈ wsX00, w ∈ wsL_law := fun _ h => List.mem_append_left _ (List.mem_append_left _ (List.mem_append_left _ (List.mem_append_left _ (List.mem_append_right _ h))))
theorem inX0 : ∀ w ∈ wsX00, w ∈ lw_tbl := fun w h => wsL_law_in w (inlX0 w h)
theorem inlX1 : ∀ w ∈ wsX10, w ∈ wsL_law := fun _ h => List.mem_append_left _ (List.mem_append_left _ (List.mem_append_left _ (List.mem_append_left _ (List.mem_append_left _ (List.mem_append_left _ (List.mem_append_right _ h))))))
theorem inX1 : ∀ w ∈ wsX10, w ∈ lw_tbl := fun w h => wsL_law_in w (inlX1 w h)
theorem inlX2 : ∀ w ∈ wsX20, w ∈ wsL_law := fun _ h => List.mem_append_left _ (List.mem_append_left _ (List.mem_append_left _ (List.mem_append_left _ (List.mem_append_left _ (List.mem_append_right _ h)))))
theorem inX2 : ∀ w ∈ wsX20, w ∈ lw_tbl := fun w h => wsL_law_in w (inlX2 w h)
theorem inJ9 : ∀ w ∈ wsJ90, w ∈ lw_tbl := by decide +kernel
theorem inJ0 : ∀ w ∈ wsJ00, w ∈ lw_tbl := by decide +kernel
end
section
theorem dX0_init_0 : decode cX0_init 0 = .ok (.aload_n 0, 1) := by decide +kernel
theorem dX0_init_1 : decode cX0_init 1 = .ok (.invokespecial 3, 3) := by decide +kernel
theorem dX0_init_4 : decode cX0_init 4 = .ok (.aload_n 0, 1) := by decide +kernel
theorem dX0_init_5 : decode cX0_init 5 = .ok (.iconst 0, 1) := by decide +kernel
theorem dX0_init_6 : decode cX0_init 6 = .ok (.putfield 9, 3) := by decide +kernel
theorem dX0_init_9 : decode cX0_init 9 = .ok (.aload_n 0, 1) := by decide +kernel
theorem dX0_init_10 : decode cX0_init 10 = .ok (.iconst 0, 1) := by decide +kernel
theorem dX0_init_11 : decode cX0_init 11 = .ok (.putfield 15, 3) := by decide +kernel
theorem dX0_init_14 : decode cX0_init 14 = .ok (.aload_n 0, 1) := by decide +kernel
theorem dX0_init_15 : decode cX0_init 15 = .ok (.iload_n 1, 1) := by decide +kernel
theorem dX0_init_16 : decode cX0_init 16 = .ok (.putfield 18, 3) := by decide +kernel
theorem dX0_init_19 : decode cX0_init 19 = .ok (.aload_n 0, 1) := by decide +kernel
theorem dX0_init_20 : decode cX0_init 20 = .ok (.iload_n 2, 1) := by decide +kernel
theorem dX0_init_21 : decode cX0_init 21 = .ok (.putfield 21, 3) := by decide +kernel
theorem dX0_init_24 : decode cX0_init 24 = .ok (.aload_n 0, 1) := by decide +kernel
theorem dX0_init_25 : decode cX0_init 25 = .ok (.iload_n 3, 1) := by decide +kernel
theorem dX0_init_26 : decode cX0_init 26 = .ok (.putfield 24, 3) := by decide +kernel
theorem dX0_init_29 : decode cX0_init 29 = .ok (.aload_n 0, 1) := by decide +kernel
theorem dX0_init_30 : decode cX0_init 30 = .ok (.iload 4, 2) := by decide +kernel
theorem dX0_init_32 : decode cX0_init 32 = .ok (.putfield 27, 3) := by decide +kernel
theorem dX0_init_35 : decode cX0_init 35 = .ok (.aload_n 0, 1) := by decide +kernel
theorem dX0_init_36 : decode cX0_init 36 = .ok (.iload 5, 2) := by decide +kernel
theorem dX0_init_38 : decode cX0_init 38 = .ok (.putfield 30, 3) := by decide +kernel
theorem dX0_init_41 : decode cX0_init 41 = .ok (.aload_n 0, 1) := by decide +kernel
theorem dX0_init_42 : decode cX0_init 42 = .ok (.iload 6, 2) := by decide +kernel
theorem dX0_init_44 : decode cX0_init 44 = .ok (.putfield 33, 3) := by decide +kernel
theorem dX0_init_47 : decode cX0_init 47 = .ok (.aload_n 0, 1) := by decide +kernel
theorem dX0_init_48 : decode cX0_init 48 = .ok (.iload 7, 2) := by decide +kernel
theorem dX0_init_50 : decode cX0_init 50 = .ok (.putfield 36, 3) := by decide +kernel
theorem dX0_init_53 : decode cX0_init 53 = .ok (.aload_n 0, 1) := by decide +kernel
theorem dX0_init_54 : decode cX0_init 54 = .ok (.iload_n 1, 1) := by decide +kernel
theorem dX0_init_55 : decode cX0_init 55 = .ok (.putfield 39, 3) := by decide +kernel
theorem dX0_init_58 : decode cX0_init 58 = .ok (.return_, 1) := by decide +kernel
theorem dX0_isThere_0 : decode cX0_isThere 0 = .ok (.aload_n 0, 1) := by decide +kernel
theorem dX0_isThere_1 : decode cX0_isThere 1 = .ok (.getfield 9, 3) := by decide +kernel
theorem dX0_isThere_4 : decode cX0_isThere 4 = .ok (.iconst 4, 1) := by decide +kernel
theorem dX0_isThere_5 : decode cX0_isThere 5 = .ok (.if_icmp .eq 7, 3) := by decide +kernel
theorem dX0_isThere_8 : decode cX0_isThere 8 = .ok (.iconst 1, 1) := by decide +kernel
theorem dX0_isThere_9 : decode cX0_isThere 9 = .ok (.goto 4, 3) := by decide +kernel
theorem dX0_isThere_12 : decode cX0_isThere 12 = .ok (.iconst 0, 1) := by decide +kernel
theorem dX0_isThere_13 : decode cX0_isThere 13 = .ok (.ireturn, 1) := by decide +kernel
theorem dX0_cells_0 : decode cX0_cells 0 = .ok (.aload_n 0, 1) := by decide +kernel
theorem dX0_cells_1 : decode cX0_cells 1 = .ok (.getfield 30, 3) := by decide +kernel
theorem dX0_cells_4 : decode cX0_cells 4 = .ok (.aload_n 0, 1) := by decide +kernel
theorem dX0_cells_5 : decode cX0_cells 5 = .ok (.getfield 24, 3) := by decide +kernel
theorem dX0_cells_8 : decode cX0_cells 8 = .ok (.isub, 1) := by decide +kernel
theorem dX0_cells_9 : decode cX0_cells 9 = .ok (.invokestatic 42, 3) := by decide +kernel
theorem dX0_cells_12 : decode cX0_cells 12 = .ok (.aload_n 0, 1) := by decide +kernel
theorem dX0_cells_13 : decode cX0_cells 13 = .ok (.getfield 33, 3) := by decide +kernel
theorem dX0_cells_16 : decode cX0_cells 16 = .ok (.aload_n 0, 1) := by decide +kernel
theorem dX0_cells_17 : decode cX0_cells 17 = .ok (.getfield 27, 3) := by decide +kernel
theorem dX0_cells_20 : decode cX0_cells 20 = .ok (.isub, 1) := by decide +kernel
theorem dX0_cells_21 : decode cX0_cells 21 = .ok (.invokestatic 42, 3) := by decide +kernel
theorem dX0_cells_24 : decode cX0_cells 24 = .ok (.iadd, 1) := by decide +kernel
theorem dX0_cells_25 : decode cX0_cells 25 = .ok (.iconst 1, 1) := by decide +kernel
theorem dX0_cells_26 : decode cX0_cells 26 = .ok (.iadd, 1) := by decide +kernel
theorem dX0_cells_27 : decode cX0_cells 27 = .ok (.ireturn, 1) := by decide +kernel
set_option maxRecDepth 20000 in
theorem ggX0_covers_X1_isWithin : GoodIn wsX0_covers wsX1_isWithin := goodIn_r _ [14] (by decide +kernel) (by decide +kernel)
set_option maxRecDepth 20000 in
theorem gX0_covers_X1_isWithin_n55 : GoodIn wsX0_covers (wsX1_isWithin) := ggX0_covers_X1_isWithin
theorem dX0_covers_0 : decode cX0_covers 0 = .ok (.iload_n 1, 1) := by decide +kernel
theorem dX0_covers_1 : decode cX0_covers 1 = .ok (.aload_n 0, 1) := by decide +kernel
theorem dX0_covers_2 : decode cX0_covers 2 = .ok (.getfield 24, 3) := by decide +kernel
theorem dX0_covers_5 : decode cX0_covers 5 = .ok (.aload_n 0, 1) := by decide +kernel
theorem dX0_covers_6 : decode cX0_covers 6 = .ok (.getfield 30, 3) := by decide +kernel
theorem dX0_covers_9 : decode cX0_covers 9 = .ok (.invokestatic 48, 3) := by decide +kernel
theorem dX0_covers_12 : decode cX0_covers 12 = .ok (.aload_n 0, 1) := by decide +kernel
theorem dX0_covers_13 : decode cX0_covers 13 = .ok (.getfield 24, 3) := by decide +kernel
theorem dX0_covers_16 : decode cX0_covers 16 = .ok (.aload_n 0, 1) := by decide +kernel
theorem dX0_covers_17 : decode cX0_covers 17 = .ok (.getfield 30, 3) := by decide +kernel
theorem dX0_covers_20 : decode cX0_covers 20 = .ok (.invokestatic 52, 3) := by decide +kernel
theorem dX0_covers_23 : decode cX0_covers 23 = .ok (.invokestatic 55, 3) := by decide +kernel
theorem dX0_covers_26 : decode cX0_covers 26 = .ok (.ifCond .eq 36, 3) := by decide +kernel
theorem dX0_covers_29 : decode cX0_covers 29 = .ok (.iload_n 2, 1) := by decide +kernel
theorem dX0_covers_30 : decode cX0_covers 30 = .ok (.aload_n 0, 1) := by decide +kernel
theorem dX0_covers_31 : decode cX0_covers 31 = .ok (.getfield 27, 3) := by decide +kernel
theorem dX0_covers_34 : decode cX0_covers 34 = .ok (.aload_n 0, 1) := by decide +kernel
theorem dX0_covers_35 : decode cX0_covers 35 = .ok (.getfield 33, 3) := by decide +kernel
theorem dX0_covers_38 : decode cX0_covers 38 = .ok (.invokestatic 48, 3) := by decide +kernel
theorem dX0_covers_41 : decode cX0_covers 41 = .ok (.aload_n 0, 1) := by decide +kernel
theorem dX0_covers_42 : decode cX0_covers 42 = .ok (.getfield 27, 3) := by decide +kernel
theorem dX0_covers_45 : decode cX0_covers 45 = .ok (.aload_n 0, 1) := by decide +kernel
theorem dX0_covers_46 : decode cX0_covers 46 = .ok (.getfield 33, 3) := by decide +kernel
theorem dX0_covers_49 : decode cX0_covers 49 = .ok (.invokestatic 52, 3) := by decide +kernel
theorem dX0_covers_52 : decode cX0_covers 52 = .ok (.invokestatic 55, 3) := by decide +kernel
theorem dX0_covers_55 : decode cX0_covers 55 = .ok (.ifCond .eq 7, 3) := by decide +kernel
theorem dX0_covers_58 : decode cX0_covers 58 = .ok (.iconst 1, 1) := by decide +kernel
theorem dX0_covers_59 : decode cX0_covers 59 = .ok (.goto 4, 3) := by decide +kernel
theorem dX0_covers_62 : decode cX0_covers 62 = .ok (.iconst 0, 1) := by decide +kernel
theorem dX0_covers_63 : decode cX0_covers 63 = .ok (.ireturn, 1) := by decide +kernel
set_option maxRecDepth 20000 in
theorem ggX0_staysInside_X1_isCell : GoodIn wsX0_staysInside wsX1_isCell := goodIn_r _ [7, 8, 9, 6, 10] (by decide +kernel) (by decide +kernel)
set_option maxRecDepth 20000 in
theorem gX0_staysInside_X1_isCell_n59 : GoodIn wsX0_staysInside (wsX1_isCell) := ggX0_staysInside_X1_isCell
theorem dX0_staysInside_0 : decode cX0_staysInside 0 = .ok (.aload_n 0, 1) := by decide +kernel
theorem dX0_staysInside_1 : decode cX0_staysInside 1 = .ok (.getfield 24, 3) := by decide +kernel
theorem dX0_staysInside_4 : decode cX0_staysInside 4 = .ok (.iload_n 1, 1) := by decide +kernel
theorem dX0_staysInside_5 : decode cX0_staysInside 5 = .ok (.iadd, 1) := by decide +kernel
theorem dX0_staysInside_6 : decode cX0_staysInside 6 = .ok (.aload_n 0, 1) := by decide +kernel
theorem dX0_staysInside_7 : decode cX0_staysInside 7 = .ok (.getfield 27, 3) := by decide +kernel
theorem dX0_staysInside_10 : decode cX0_staysInside 10 = .ok (.iload_n 2, 1) := by decide +kernel
theorem dX0_staysInside_11 : decode cX0_staysInside 11 = .ok (.iadd, 1) := by decide +kernel
theorem dX0_staysInside_12 : decode cX0_staysInside 12 = .ok (.invokestatic 59, 3) := by decide +kernel
theorem dX0_staysInside_15 : decode cX0_staysInside 15 = .ok (.ifCond .eq 25, 3) := by decide +kernel
theorem dX0_staysInside_18 : decode cX0_staysInside 18 = .ok (.aload_n 0, 1) := by decide +kernel
theorem dX0_staysInside_19 : decode cX0_staysInside 19 = .ok (.getfield 30, 3) := by decide +kernel
theorem dX0_staysInside_22 : decode cX0_staysInside 22 = .ok (.iload_n 1, 1) := by decide +kernel
theorem dX0_staysInside_23 : decode cX0_staysInside 23 = .ok (.iadd, 1) := by decide +kernel
theorem dX0_staysInside_24 : decode cX0_staysInside 24 = .ok (.aload_n 0, 1) := by decide +kernel
theorem dX0_staysInside_25 : decode cX0_staysInside 25 = .ok (.getfield 33, 3) := by decide +kernel
theorem dX0_staysInside_28 : decode cX0_staysInside 28 = .ok (.iload_n 2, 1) := by decide +kernel
theorem dX0_staysInside_29 : decode cX0_staysInside 29 = .ok (.iadd, 1) := by decide +kernel
theorem dX0_staysInside_30 : decode cX0_staysInside 30 = .ok (.invokestatic 59, 3) := by decide +kernel
theorem dX0_staysInside_33 : decode cX0_staysInside 33 = .ok (.ifCond .eq 7, 3) := by decide +kernel
theorem dX0_staysInside_36 : decode cX0_staysInside 36 = .ok (.iconst 1, 1) := by decide +kernel
theorem dX0_staysInside_37 : decode cX0_staysInside 37 = .ok (.goto 4, 3) := by decide +kernel
theorem dX0_staysInside_40 : decode cX0_staysInside 40 = .ok (.iconst 0, 1) := by decide +kernel
theorem dX0_staysInside_41 : decode cX0_staysInside 41 = .ok (.ireturn, 1) := by decide +kernel
theorem dX0_shift_0 : decode cX0_shift 0 = .ok (.aload_n 0, 1) := by decide +kernel
theorem dX0_shift_1 : decode cX0_shift 1 = .ok (.dup, 1) := by decide +kernel
theorem dX0_shift_2 : decode cX0_shift 2 = .ok (.getfield 24, 3) := by decide +kernel
theorem dX0_shift_5 : decode cX0_shift 5 = .ok (.iload_n 1, 1) := by decide +kernel
theorem dX0_shift_6 : decode cX0_shift 6 = .ok (.iadd, 1) := by decide +kernel
theorem dX0_shift_7 : decode cX0_shift 7 = .ok (.putfield 24, 3) := by decide +kernel
theorem dX0_shift_10 : decode cX0_shift 10 = .ok (.aload_n 0, 1) := by decide +kernel
theorem dX0_shift_11 : decode cX0_shift 11 = .ok (.dup, 1) := by decide +kernel
theorem dX0_shift_12 : decode cX0_shift 12 = .ok (.getfield 27, 3) := by decide +kernel
theorem dX0_shift_15 : decode cX0_shift 15 = .ok (.iload_n 2, 1) := by decide +kernel
theorem dX0_shift_16 : decode cX0_shift 16 = .ok (.iadd, 1) := by decide +kernel
theorem dX0_shift_17 : decode cX0_shift 17 = .ok (.putfield 27, 3) := by decide +kernel
theorem dX0_shift_20 : decode cX0_shift 20 = .ok (.aload_n 0, 1) := by decide +kernel
theorem dX0_shift_21 : decode cX0_shift 21 = .ok (.dup, 1) := by decide +kernel
theorem dX0_shift_22 : decode cX0_shift 22 = .ok (.getfield 30, 3) := by decide +kernel
theorem dX0_shift_25 : decode cX0_shift 25 = .ok (.iload_n 1, 1) := by decide +kernel
theorem dX0_shift_26 : decode cX0_shift 26 = .ok (.iadd, 1) := by decide +kernel
theorem dX0_shift_27 : decode cX0_shift 27 = .ok (.putfield 30, 3) := by decide +kernel
theorem dX0_shift_30 : decode cX0_shift 30 = .ok (.aload_n 0, 1) := by decide +kernel
theorem dX0_shift_31 : decode cX0_shift 31 = .ok (.dup, 1) := by decide +kernel
theorem dX0_shift_32 : decode cX0_shift 32 = .ok (.getfield 33, 3) := by decide +kernel
theorem dX0_shift_35 : decode cX0_shift 35 = .ok (.iload_n 2, 1) := by decide +kernel
theorem dX0_shift_36 : decode cX0_shift 36 = .ok (.iadd, 1) := by decide +kernel
theorem dX0_shift_37 : decode cX0_shift 37 = .ok (.putfield 33, 3) := by decide +kernel
theorem dX0_shift_40 : decode cX0_shift 40 = .ok (.return_, 1) := by decide +kernel
theorem dX0_deliverIfDue_0 : decode cX0_deliverIfDue 0 = .ok (.aload_n 0, 1) := by decide +kernel
theorem dX0_deliverIfDue_1 : decode cX0_deliverIfDue 1 = .ok (.getfield 9, 3) := by decide +kernel
theorem dX0_deliverIfDue_4 : decode cX0_deliverIfDue 4 = .ok (.iconst 1, 1) := by decide +kernel
theorem dX0_deliverIfDue_5 : decode cX0_deliverIfDue 5 = .ok (.if_icmp .ne 16, 3) := by decide +kernel
theorem dX0_deliverIfDue_8 : decode cX0_deliverIfDue 8 = .ok (.iload_n 1, 1) := by decide +kernel
theorem dX0_deliverIfDue_9 : decode cX0_deliverIfDue 9 = .ok (.aload_n 0, 1) := by decide +kernel
theorem dX0_deliverIfDue_10 : decode cX0_deliverIfDue 10 = .ok (.getfield 15, 3) := by decide +kernel
theorem dX0_deliverIfDue_13 : decode cX0_deliverIfDue 13 = .ok (.if_icmp .lt 8, 3) := by decide +kernel
theorem dX0_deliverIfDue_16 : decode cX0_deliverIfDue 16 = .ok (.aload_n 0, 1) := by decide +kernel
theorem dX0_deliverIfDue_17 : decode cX0_deliverIfDue 17 = .ok (.iconst 2, 1) := by decide +kernel
theorem dX0_deliverIfDue_18 : decode cX0_deliverIfDue 18 = .ok (.putfield 9, 3) := by decide +kernel
theorem dX0_deliverIfDue_21 : decode cX0_deliverIfDue 21 = .ok (.return_, 1) := by decide +kernel
set_option maxRecDepth 20000 in
theorem ggX0_distanceTo_X0_gap : GoodIn wsX0_distanceTo wsX0_gap := goodIn_r _ [12, 13, 14, 7, 15, 5, 6, 8] (by decide +kernel) (by decide +kernel)
set_option maxRecDepth 20000 in
theorem gX0_distanceTo_X0_gap : GoodIn wsX0_distanceTo (va_wsS RX0 63 yX0_gap wsX0_gap) := goodIn_app (goodIn_of _ (by decide +kernel)) ggX0_distanceTo_X0_gap
theorem dX0_distanceTo_0 : decode cX0_distanceTo 0 = .ok (.aload_n 0, 1) := by decide +kernel
theorem dX0_distanceTo_1 : decode cX0_distanceTo 1 = .ok (.getfield 24, 3) := by decide +kernel
theorem dX0_distanceTo_4 : decode cX0_distanceTo 4 = .ok (.aload_n 0, 1) := by decide +kernel
theorem dX0_distanceTo_5 : decode cX0_distanceTo 5 = .ok (.getfield 30, 3) := by decide +kernel
theorem dX0_distanceTo_8 : decode cX0_distanceTo 8 = .ok (.aload_n 1, 1) := by decide +kernel
theorem dX0_distanceTo_9 : decode cX0_distanceTo 9 = .ok (.getfield 24, 3) := by decide +kernel
theorem dX0_distanceTo_12 : decode cX0_distanceTo 12 = .ok (.aload_n 1, 1) := by decide +kernel
theorem dX0_distanceTo_13 : decode cX0_distanceTo 13 = .ok (.getfield 30, 3) := by decide +kernel
theorem dX0_distanceTo_16 : decode cX0_distanceTo 16 = .ok (.invokestatic 63, 3) := by decide +kernel
theorem dX0_distanceTo_19 : decode cX0_distanceTo 19 = .ok (.istore_n 2, 1) := by decide +kernel
theorem dX0_distanceTo_20 : decode cX0_distanceTo 20 = .ok (.aload_n 0, 1) := by decide +kernel
theorem dX0_distanceTo_21 : decode cX0_distanceTo 21 = .ok (.getfield 27, 3) := by decide +kernel
theorem dX0_distanceTo_24 : decode cX0_distanceTo 24 = .ok (.aload_n 0, 1) := by decide +kernel
theorem dX0_distanceTo_25 : decode cX0_distanceTo 25 = .ok (.getfield 33, 3) := by decide +kernel
theorem dX0_distanceTo_28 : decode cX0_distanceTo 28 = .ok (.aload_n 1, 1) := by decide +kernel
theorem dX0_distanceTo_29 : decode cX0_distanceTo 29 = .ok (.getfield 27, 3) := by decide +kernel
theorem dX0_distanceTo_32 : decode cX0_distanceTo 32 = .ok (.aload_n 1, 1) := by decide +kernel
theorem dX0_distanceTo_33 : decode cX0_distanceTo 33 = .ok (.getfield 33, 3) := by decide +kernel
theorem dX0_distanceTo_36 : decode cX0_distanceTo 36 = .ok (.invokestatic 63, 3) := by decide +kernel
theorem dX0_distanceTo_39 : decode cX0_distanceTo 39 = .ok (.istore_n 3, 1) := by decide +kernel
theorem dX0_distanceTo_40 : decode cX0_distanceTo 40 = .ok (.iload_n 2, 1) := by decide +kernel
theorem dX0_distanceTo_41 : decode cX0_distanceTo 41 = .ok (.iload_n 3, 1) := by decide +kernel
theorem dX0_distanceTo_42 : decode cX0_distanceTo 42 = .ok (.invokestatic 52, 3) := by decide +kernel
theorem dX0_distanceTo_45 : decode cX0_distanceTo 45 = .ok (.ireturn, 1) := by decide +kernel
theorem dX0_gap_0 : decode cX0_gap 0 = .ok (.iload_n 2, 1) := by decide +kernel
theorem dX0_gap_1 : decode cX0_gap 1 = .ok (.iload_n 3, 1) := by decide +kernel
theorem dX0_gap_2 : decode cX0_gap 2 = .ok (.invokestatic 48, 3) := by decide +kernel
theorem dX0_gap_5 : decode cX0_gap 5 = .ok (.iload_n 0, 1) := by decide +kernel
theorem dX0_gap_6 : decode cX0_gap 6 = .ok (.iload_n 1, 1) := by decide +kernel
theorem dX0_gap_7 : decode cX0_gap 7 = .ok (.invokestatic 52, 3) := by decide +kernel
theorem dX0_gap_10 : decode cX0_gap 10 = .ok (.isub, 1) := by decide +kernel
theorem dX0_gap_11 : decode cX0_gap 11 = .ok (.istore 4, 2) := by decide +kernel
theorem dX0_gap_13 : decode cX0_gap 13 = .ok (.iload_n 0, 1) := by decide +kernel
theorem dX0_gap_14 : decode cX0_gap 14 = .ok (.iload_n 1, 1) := by decide +kernel
theorem dX0_gap_15 : decode cX0_gap 15 = .ok (.invokestatic 48, 3) := by decide +kernel
theorem dX0_gap_18 : decode cX0_gap 18 = .ok (.iload_n 2, 1) := by decide +kernel
theorem dX0_gap_19 : decode cX0_gap 19 = .ok (.iload_n 3, 1) := by decide +kernel
theorem dX0_gap_20 : decode cX0_gap 20 = .ok (.invokestatic 52, 3) := by decide +kernel
theorem dX0_gap_23 : decode cX0_gap 23 = .ok (.isub, 1) := by decide +kernel
theorem dX0_gap_24 : decode cX0_gap 24 = .ok (.istore 5, 2) := by decide +kernel
theorem dX0_gap_26 : decode cX0_gap 26 = .ok (.iconst 0, 1) := by decide +kernel
theorem dX0_gap_27 : decode cX0_gap 27 = .ok (.iload 4, 2) := by decide +kernel
theorem dX0_gap_29 : decode cX0_gap 29 = .ok (.iload 5, 2) := by decide +kernel
theorem dX0_gap_31 : decode cX0_gap 31 = .ok (.invokestatic 52, 3) := by decide +kernel
theorem dX0_gap_34 : decode cX0_gap 34 = .ok (.invokestatic 52, 3) := by decide +kernel
theorem dX0_gap_37 : decode cX0_gap 37 = .ok (.ireturn, 1) := by decide +kernel
set_option maxRecDepth 20000 in
theorem ggX0_partsCellByCell_X0_covers : GoodIn wsX0_partsCellByCell wsX0_covers := goodIn_r _ [5, 6, 7, 8, 9, 10, 11, 12, 13, 14, 15, 16, 17, 18, 19, 20, 21, 22, 23, 24, 25, 26, 27, 28, 29] (by decide +kernel) (by decide +kernel)
set_option maxRecDepth 20000 in
theorem gX0_partsCellByCell_X0_covers : GoodIn wsX0_partsCellByCell (wsV RX0 67 RX0 yX0_covers wsX0_covers) := goodIn_app (goodIn_of _ (by decide +kernel)) ggX0_partsCellByCell_X0_covers
theorem dX0_partsCellByCell_0 : decode cX0_partsCellByCell 0 = .ok (.iconst 0, 1) := by decide +kernel
theorem dX0_partsCellByCell_1 : decode cX0_partsCellByCell 1 = .ok (.istore_n 2, 1) := by decide +kernel
theorem dX0_partsCellByCell_2 : decode cX0_partsCellByCell 2 = .ok (.iconst 0, 1) := by decide +kernel
theorem dX0_partsCellByCell_3 : decode cX0_partsCellByCell 3 = .ok (.istore_n 3, 1) := by decide +kernel
theorem dX0_partsCellByCell_4 : decode cX0_partsCellByCell 4 = .ok (.iconst 0, 1) := by decide +kernel
theorem dX0_partsCellByCell_5 : decode cX0_partsCellByCell 5 = .ok (.istore 4, 2) := by decide +kernel
theorem dX0_partsCellByCell_7 : decode cX0_partsCellByCell 7 = .ok (.iload 4, 2) := by decide +kernel
theorem dX0_partsCellByCell_9 : decode cX0_partsCellByCell 9 = .ok (.bipush 12, 2) := by decide +kernel
theorem dX0_partsCellByCell_11 : decode cX0_partsCellByCell 11 = .ok (.if_icmp .ge 48, 3) := by decide +kernel
theorem dX0_partsCellByCell_14 : decode cX0_partsCellByCell 14 = .ok (.iconst 0, 1) := by decide +kernel
theorem dX0_partsCellByCell_15 : decode cX0_partsCellByCell 15 = .ok (.istore 5, 2) := by decide +kernel
theorem dX0_partsCellByCell_17 : decode cX0_partsCellByCell 17 = .ok (.iload 5, 2) := by decide +kernel
theorem dX0_partsCellByCell_19 : decode cX0_partsCellByCell 19 = .ok (.bipush 12, 2) := by decide +kernel
theorem dX0_partsCellByCell_21 : decode cX0_partsCellByCell 21 = .ok (.if_icmp .ge 32, 3) := by decide +kernel
theorem dX0_partsCellByCell_24 : decode cX0_partsCellByCell 24 = .ok (.aload_n 0, 1) := by decide +kernel
theorem dX0_partsCellByCell_25 : decode cX0_partsCellByCell 25 = .ok (.iload 5, 2) := by decide +kernel
theorem dX0_partsCellByCell_27 : decode cX0_partsCellByCell 27 = .ok (.iload 4, 2) := by decide +kernel
theorem dX0_partsCellByCell_29 : decode cX0_partsCellByCell 29 = .ok (.invokevirtual 67, 3) := by decide +kernel
theorem dX0_partsCellByCell_32 : decode cX0_partsCellByCell 32 = .ok (.ifCond .eq 15, 3) := by decide +kernel
theorem dX0_partsCellByCell_35 : decode cX0_partsCellByCell 35 = .ok (.iload_n 3, 1) := by decide +kernel
theorem dX0_partsCellByCell_36 : decode cX0_partsCellByCell 36 = .ok (.ifCond .gt 8, 3) := by decide +kernel
theorem dX0_partsCellByCell_39 : decode cX0_partsCellByCell 39 = .ok (.iinc 2 1, 3) := by decide +kernel
theorem dX0_partsCellByCell_42 : decode cX0_partsCellByCell 42 = .ok (.iload_n 1, 1) := by decide +kernel
theorem dX0_partsCellByCell_43 : decode cX0_partsCellByCell 43 = .ok (.istore_n 3, 1) := by decide +kernel
theorem dX0_partsCellByCell_44 : decode cX0_partsCellByCell 44 = .ok (.iinc 3 (-1), 3) := by decide +kernel
theorem dX0_partsCellByCell_47 : decode cX0_partsCellByCell 47 = .ok (.iinc 5 1, 3) := by decide +kernel
theorem dX0_partsCellByCell_50 : decode cX0_partsCellByCell 50 = .ok (.goto (-33), 3) := by decide +kernel
theorem dX0_partsCellByCell_53 : decode cX0_partsCellByCell 53 = .ok (.iinc 4 1, 3) := by decide +kernel
theorem dX0_partsCellByCell_56 : decode cX0_partsCellByCell 56 = .ok (.goto (-49), 3) := by decide +kernel
theorem dX0_partsCellByCell_59 : decode cX0_partsCellByCell 59 = .ok (.iload_n 2, 1) := by decide +kernel
theorem dX0_partsCellByCell_60 : decode cX0_partsCellByCell 60 = .ok (.ireturn, 1) := by decide +kernel
theorem dX1_init_0 : decode cX1_init 0 = .ok (.aload_n 0, 1) := by decide +kernel
theorem dX1_init_1 : decode cX1_init 1 = .ok (.invokespecial 1, 3) := by decide +kernel
theorem dX1_init_4 : decode cX1_init 4 = .ok (.aload_n 0, 1) := by decide +kernel
theorem dX1_init_5 : decode cX1_init 5 = .ok (.bipush 40, 2) := by decide +kernel
theorem dX1_init_7 : decode cX1_init 7 = .ok (.anewarray 9, 3) := by decide +kernel
theorem dX1_init_10 : decode cX1_init 10 = .ok (.putfield 11, 3) := by decide +kernel
theorem dX1_init_13 : decode cX1_init 13 = .ok (.aload_n 0, 1) := by decide +kernel
theorem dX1_init_14 : decode cX1_init 14 = .ok (.iconst 0, 1) := by decide +kernel
theorem dX1_init_15 : decode cX1_init 15 = .ok (.putfield 15, 3) := by decide +kernel
theorem dX1_init_18 : decode cX1_init 18 = .ok (.aload_n 0, 1) := by decide +kernel
theorem dX1_init_19 : decode cX1_init 19 = .ok (.bipush 9, 2) := by decide +kernel
theorem dX1_init_21 : decode cX1_init 21 = .ok (.newarray .int, 2) := by decide +kernel
theorem dX1_init_23 : decode cX1_init 23 = .ok (.putfield 19, 3) := by decide +kernel
theorem dX1_init_26 : decode cX1_init 26 = .ok (.aload_n 0, 1) := by decide +kernel
theorem dX1_init_27 : decode cX1_init 27 = .ok (.iconst 3, 1) := by decide +kernel
theorem dX1_init_28 : decode cX1_init 28 = .ok (.newarray .int, 2) := by decide +kernel
theorem dX1_init_30 : decode cX1_init 30 = .ok (.dup, 1) := by decide +kernel
theorem dX1_init_31 : decode cX1_init 31 = .ok (.iconst 0, 1) := by decide +kernel
theorem dX1_init_32 : decode cX1_init 32 = .ok (.iconst 3, 1) := by decide +kernel
theorem dX1_init_33 : decode cX1_init 33 = .ok (.iastore, 1) := by decide +kernel
theorem dX1_init_34 : decode cX1_init 34 = .ok (.dup, 1) := by decide +kernel
theorem dX1_init_35 : decode cX1_init 35 = .ok (.iconst 1, 1) := by decide +kernel
theorem dX1_init_36 : decode cX1_init 36 = .ok (.iconst 3, 1) := by decide +kernel
theorem dX1_init_37 : decode cX1_init 37 = .ok (.iastore, 1) := by decide +kernel
theorem dX1_init_38 : decode cX1_init 38 = .ok (.dup, 1) := by decide +kernel
theorem dX1_init_39 : decode cX1_init 39 = .ok (.iconst 2, 1) := by decide +kernel
theorem dX1_init_40 : decode cX1_init 40 = .ok (.iconst 3, 1) := by decide +kernel
theorem dX1_init_41 : decode cX1_init 41 = .ok (.iastore, 1) := by decide +kernel
theorem dX1_init_42 : decode cX1_init 42 = .ok (.putfield 23, 3) := by decide +kernel
theorem dX1_init_45 : decode cX1_init 45 = .ok (.aload_n 0, 1) := by decide +kernel
theorem dX1_init_46 : decode cX1_init 46 = .ok (.iconst 3, 1) := by decide +kernel
theorem dX1_init_47 : decode cX1_init 47 = .ok (.newarray .int, 2) := by decide +kernel
theorem dX1_init_49 : decode cX1_init 49 = .ok (.dup, 1) := by decide +kernel
theorem dX1_init_50 : decode cX1_init 50 = .ok (.iconst 0, 1) := by decide +kernel
theorem dX1_init_51 : decode cX1_init 51 = .ok (.iconst 5, 1) := by decide +kernel
theorem dX1_init_52 : decode cX1_init 52 = .ok (.iastore, 1) := by decide +kernel
theorem dX1_init_53 : decode cX1_init 53 = .ok (.dup, 1) := by decide +kernel
theorem dX1_init_54 : decode cX1_init 54 = .ok (.iconst 1, 1) := by decide +kernel
theorem dX1_init_55 : decode cX1_init 55 = .ok (.iconst 5, 1) := by decide +kernel
theorem dX1_init_56 : decode cX1_init 56 = .ok (.iastore, 1) := by decide +kernel
theorem dX1_init_57 : decode cX1_init 57 = .ok (.dup, 1) := by decide +kernel
theorem dX1_init_58 : decode cX1_init 58 = .ok (.iconst 2, 1) := by decide +kernel
theorem dX1_init_59 : decode cX1_init 59 = .ok (.iconst 5, 1) := by decide +kernel
theorem dX1_init_60 : decode cX1_init 60 = .ok (.iastore, 1) := by decide +kernel
theorem dX1_init_61 : decode cX1_init 61 = .ok (.putfield 26, 3) := by decide +kernel
theorem dX1_init_64 : decode cX1_init 64 = .ok (.aload_n 0, 1) := by decide +kernel
theorem dX1_init_65 : decode cX1_init 65 = .ok (.iconst 4, 1) := by decide +kernel
theorem dX1_init_66 : decode cX1_init 66 = .ok (.newarray .boolean, 2) := by decide +kernel
theorem dX1_init_68 : decode cX1_init 68 = .ok (.putfield 29, 3) := by decide +kernel
theorem dX1_init_71 : decode cX1_init 71 = .ok (.aload_n 0, 1) := by decide +kernel
theorem dX1_init_72 : decode cX1_init 72 = .ok (.iconst 0, 1) := by decide +kernel
theorem dX1_init_73 : decode cX1_init 73 = .ok (.putfield 33, 3) := by decide +kernel
theorem dX1_init_76 : decode cX1_init 76 = .ok (.aload_n 0, 1) := by decide +kernel
theorem dX1_init_77 : decode cX1_init 77 = .ok (.iconst 0, 1) := by decide +kernel
theorem dX1_init_78 : decode cX1_init 78 = .ok (.putfield 36, 3) := by decide +kernel
theorem dX1_init_81 : decode cX1_init 81 = .ok (.return_, 1) := by decide +kernel
set_option maxRecDepth 20000 in
theorem ggX1_add_X1_isKind : GoodIn wsX1_add wsX1_isKind := goodIn_r _ [17, 18, 19, 16, 20] (by decide +kernel) (by decide +kernel)
set_option maxRecDepth 20000 in
theorem gX1_add_X1_isKind : GoodIn wsX1_add (va_wsS RX1 39 yX1_isKind wsX1_isKind) := goodIn_app (goodIn_of _ (by decide +kernel)) ggX1_add_X1_isKind
set_option maxRecDepth 20000 in
theorem ggX1_add_X1_isStorey : GoodIn wsX1_add wsX1_isStorey := goodIn_r _ [23, 18, 19, 16, 20] (by decide +kernel) (by decide +kernel)
set_option maxRecDepth 20000 in
theorem gX1_add_X1_isStorey : GoodIn wsX1_add (va_wsS RX1 43 yX1_isStorey wsX1_isStorey) := goodIn_app (goodIn_of _ (by decide +kernel)) ggX1_add_X1_isStorey
set_option maxRecDepth 20000 in
theorem ggX1_add_X1_isCell : GoodIn wsX1_add wsX1_isCell := goodIn_r _ [26, 18, 19, 16, 20] (by decide +kernel) (by decide +kernel)
set_option maxRecDepth 20000 in
theorem gX1_add_X1_isCell : GoodIn wsX1_add (va_wsS RX1 53 yX1_isCell wsX1_isCell) := goodIn_app (goodIn_of _ (by decide +kernel)) ggX1_add_X1_isCell
set_option maxRecDepth 20000 in
theorem ggX1_add_X0_init : GoodIn wsX1_add wsX0_init := goodIn_r _ [29, 30, 31, 32, 33, 34, 35, 36, 37, 38, 39, 40, 41, 42, 51, 52, 53, 54, 55, 56, 57, 58, 59, 60] (by decide +kernel) (by decide +kernel)
set_option maxRecDepth 20000 in
theorem gX1_add_X0_init : GoodIn wsX1_add (wsX0_init) := ggX1_add_X0_init
theorem dX1_add_0 : decode cX1_add 0 = .ok (.iload_n 1, 1) := by decide +kernel
theorem dX1_add_1 : decode cX1_add 1 = .ok (.invokestatic 39, 3) := by decide +kernel
theorem dX1_add_4 : decode cX1_add 4 = .ok (.ifCond .eq 10, 3) := by decide +kernel
theorem dX1_add_7 : decode cX1_add 7 = .ok (.iload_n 2, 1) := by decide +kernel
theorem dX1_add_8 : decode cX1_add 8 = .ok (.invokestatic 43, 3) := by decide +kernel
theorem dX1_add_11 : decode cX1_add 11 = .ok (.ifCond .ne 13, 3) := by decide +kernel
theorem dX1_add_14 : decode cX1_add 14 = .ok (.new 46, 3) := by decide +kernel
theorem dX1_add_17 : decode cX1_add 17 = .ok (.dup, 1) := by decide +kernel
theorem dX1_add_18 : decode cX1_add 18 = .ok (.ldc 48, 2) := by decide +kernel
theorem dX1_add_20 : decode cX1_add 20 = .ok (.invokespecial 50, 3) := by decide +kernel
theorem dX1_add_23 : decode cX1_add 23 = .ok (.athrow, 1) := by decide +kernel
theorem dX1_add_24 : decode cX1_add 24 = .ok (.iload_n 3, 1) := by decide +kernel
theorem dX1_add_25 : decode cX1_add 25 = .ok (.iload 4, 2) := by decide +kernel
theorem dX1_add_27 : decode cX1_add 27 = .ok (.invokestatic 53, 3) := by decide +kernel
theorem dX1_add_30 : decode cX1_add 30 = .ok (.ifCond .eq 13, 3) := by decide +kernel
theorem dX1_add_33 : decode cX1_add 33 = .ok (.iload 5, 2) := by decide +kernel
theorem dX1_add_35 : decode cX1_add 35 = .ok (.iload 6, 2) := by decide +kernel
theorem dX1_add_37 : decode cX1_add 37 = .ok (.invokestatic 53, 3) := by decide +kernel
theorem dX1_add_40 : decode cX1_add 40 = .ok (.ifCond .ne 13, 3) := by decide +kernel
theorem dX1_add_43 : decode cX1_add 43 = .ok (.new 57, 3) := by decide +kernel
theorem dX1_add_46 : decode cX1_add 46 = .ok (.dup, 1) := by decide +kernel
theorem dX1_add_47 : decode cX1_add 47 = .ok (.ldc 59, 2) := by decide +kernel
theorem dX1_add_49 : decode cX1_add 49 = .ok (.invokespecial 61, 3) := by decide +kernel
theorem dX1_add_52 : decode cX1_add 52 = .ok (.athrow, 1) := by decide +kernel
theorem dX1_add_53 : decode cX1_add 53 = .ok (.iload_n 3, 1) := by decide +kernel
theorem dX1_add_54 : decode cX1_add 54 = .ok (.iload 5, 2) := by decide +kernel
theorem dX1_add_56 : decode cX1_add 56 = .ok (.if_icmp .eq 20, 3) := by decide +kernel
theorem dX1_add_59 : decode cX1_add 59 = .ok (.iload 4, 2) := by decide +kernel
theorem dX1_add_61 : decode cX1_add 61 = .ok (.iload 6, 2) := by decide +kernel
theorem dX1_add_63 : decode cX1_add 63 = .ok (.if_icmp .eq 13, 3) := by decide +kernel
theorem dX1_add_66 : decode cX1_add 66 = .ok (.new 57, 3) := by decide +kernel
theorem dX1_add_69 : decode cX1_add 69 = .ok (.dup, 1) := by decide +kernel
theorem dX1_add_70 : decode cX1_add 70 = .ok (.ldc 62, 2) := by decide +kernel
theorem dX1_add_72 : decode cX1_add 72 = .ok (.invokespecial 61, 3) := by decide +kernel
theorem dX1_add_75 : decode cX1_add 75 = .ok (.athrow, 1) := by decide +kernel
theorem dX1_add_76 : decode cX1_add 76 = .ok (.aload_n 0, 1) := by decide +kernel
theorem dX1_add_77 : decode cX1_add 77 = .ok (.getfield 29, 3) := by decide +kernel
theorem dX1_add_80 : decode cX1_add 80 = .ok (.iload_n 2, 1) := by decide +kernel
theorem dX1_add_81 : decode cX1_add 81 = .ok (.baload, 1) := by decide +kernel
theorem dX1_add_82 : decode cX1_add 82 = .ok (.ifCond .eq 13, 3) := by decide +kernel
theorem dX1_add_85 : decode cX1_add 85 = .ok (.new 64, 3) := by decide +kernel
theorem dX1_add_88 : decode cX1_add 88 = .ok (.dup, 1) := by decide +kernel
theorem dX1_add_89 : decode cX1_add 89 = .ok (.ldc 66, 2) := by decide +kernel
theorem dX1_add_91 : decode cX1_add 91 = .ok (.invokespecial 68, 3) := by decide +kernel
theorem dX1_add_94 : decode cX1_add 94 = .ok (.athrow, 1) := by decide +kernel
theorem dX1_add_95 : decode cX1_add 95 = .ok (.aload_n 0, 1) := by decide +kernel
theorem dX1_add_96 : decode cX1_add 96 = .ok (.getfield 15, 3) := by decide +kernel
theorem dX1_add_99 : decode cX1_add 99 = .ok (.istore 7, 2) := by decide +kernel
theorem dX1_add_101 : decode cX1_add 101 = .ok (.iload 7, 2) := by decide +kernel
theorem dX1_add_103 : decode cX1_add 103 = .ok (.ifCond .lt 13, 3) := by decide +kernel
theorem dX1_add_106 : decode cX1_add 106 = .ok (.iload 7, 2) := by decide +kernel
theorem dX1_add_108 : decode cX1_add 108 = .ok (.aload_n 0, 1) := by decide +kernel
theorem dX1_add_109 : decode cX1_add 109 = .ok (.getfield 11, 3) := by decide +kernel
theorem dX1_add_112 : decode cX1_add 112 = .ok (.arraylength, 1) := by decide +kernel
theorem dX1_add_113 : decode cX1_add 113 = .ok (.if_icmp .lt 13, 3) := by decide +kernel
theorem dX1_add_116 : decode cX1_add 116 = .ok (.new 64, 3) := by decide +kernel
theorem dX1_add_119 : decode cX1_add 119 = .ok (.dup, 1) := by decide +kernel
theorem dX1_add_120 : decode cX1_add 120 = .ok (.ldc 69, 2) := by decide +kernel
theorem dX1_add_122 : decode cX1_add 122 = .ok (.invokespecial 68, 3) := by decide +kernel
theorem dX1_add_125 : decode cX1_add 125 = .ok (.athrow, 1) := by decide +kernel
theorem dX1_add_126 : decode cX1_add 126 = .ok (.aload_n 0, 1) := by decide +kernel
theorem dX1_add_127 : decode cX1_add 127 = .ok (.dup, 1) := by decide +kernel
theorem dX1_add_128 : decode cX1_add 128 = .ok (.getfield 33, 3) := by decide +kernel
theorem dX1_add_131 : decode cX1_add 131 = .ok (.iconst 1, 1) := by decide +kernel
theorem dX1_add_132 : decode cX1_add 132 = .ok (.iadd, 1) := by decide +kernel
theorem dX1_add_133 : decode cX1_add 133 = .ok (.putfield 33, 3) := by decide +kernel
theorem dX1_add_136 : decode cX1_add 136 = .ok (.aload_n 0, 1) := by decide +kernel
theorem dX1_add_137 : decode cX1_add 137 = .ok (.getfield 11, 3) := by decide +kernel
theorem dX1_add_140 : decode cX1_add 140 = .ok (.iload 7, 2) := by decide +kernel
theorem dX1_add_142 : decode cX1_add 142 = .ok (.new 9, 3) := by decide +kernel
theorem dX1_add_145 : decode cX1_add 145 = .ok (.dup, 1) := by decide +kernel
theorem dX1_add_146 : decode cX1_add 146 = .ok (.iload_n 1, 1) := by decide +kernel
theorem dX1_add_147 : decode cX1_add 147 = .ok (.iload_n 2, 1) := by decide +kernel
theorem dX1_add_148 : decode cX1_add 148 = .ok (.iload_n 3, 1) := by decide +kernel
theorem dX1_add_149 : decode cX1_add 149 = .ok (.iload 4, 2) := by decide +kernel
theorem dX1_add_151 : decode cX1_add 151 = .ok (.iload 5, 2) := by decide +kernel
theorem dX1_add_153 : decode cX1_add 153 = .ok (.iload 6, 2) := by decide +kernel
theorem dX1_add_155 : decode cX1_add 155 = .ok (.aload_n 0, 1) := by decide +kernel
theorem dX1_add_156 : decode cX1_add 156 = .ok (.getfield 33, 3) := by decide +kernel
theorem dX1_add_159 : decode cX1_add 159 = .ok (.invokespecial 71, 3) := by decide +kernel
theorem dX1_add_162 : decode cX1_add 162 = .ok (.aastore, 1) := by decide +kernel
theorem dX1_add_163 : decode cX1_add 163 = .ok (.aload_n 0, 1) := by decide +kernel
theorem dX1_add_164 : decode cX1_add 164 = .ok (.dup, 1) := by decide +kernel
theorem dX1_add_165 : decode cX1_add 165 = .ok (.getfield 15, 3) := by decide +kernel
theorem dX1_add_168 : decode cX1_add 168 = .ok (.iconst 1, 1) := by decide +kernel
theorem dX1_add_169 : decode cX1_add 169 = .ok (.iadd, 1) := by decide +kernel
theorem dX1_add_170 : decode cX1_add 170 = .ok (.putfield 15, 3) := by decide +kernel
theorem dX1_add_173 : decode cX1_add 173 = .ok (.iload 7, 2) := by decide +kernel
theorem dX1_add_175 : decode cX1_add 175 = .ok (.ireturn, 1) := by decide +kernel
set_option maxRecDepth 20000 in
theorem ggX1_move_X1_find : GoodIn wsX1_move wsX1_find := goodIn_r _ [12, 13, 14, 15, 11, 16, 62, 63, 64, 65, 66, 67, 68, 69] (by decide +kernel) (by decide +kernel)
set_option maxRecDepth 20000 in
theorem gX1_move_X1_find : GoodIn wsX1_move (wsV RX1 74 RX1 yX1_find wsX1_find) := goodIn_app (goodIn_of _ (by decide +kernel)) ggX1_move_X1_find
set_option maxRecDepth 20000 in
theorem ggX1_move_X1_isKind : GoodIn wsX1_move wsX1_isKind := goodIn_r _ [19, 14, 15, 11, 16] (by decide +kernel) (by decide +kernel)
set_option maxRecDepth 20000 in
theorem gX1_move_X1_isKind : GoodIn wsX1_move (va_wsS RX1 39 yX1_isKind wsX1_isKind) := goodIn_app (goodIn_of _ (by decide +kernel)) ggX1_move_X1_isKind
set_option maxRecDepth 20000 in
theorem ggX1_move_X1_isBase : GoodIn wsX1_move wsX1_isBase := goodIn_r _ [23, 24, 14, 15, 11, 16, 62, 63, 64, 65, 66, 67, 68, 69] (by decide +kernel) (by decide +kernel)
set_option maxRecDepth 20000 in
theorem gX1_move_X1_isBase : GoodIn wsX1_move (wsV RX1 80 RX1 yX1_isBase wsX1_isBase) := goodIn_app (goodIn_of _ (by decide +kernel)) ggX1_move_X1_isBase
set_option maxRecDepth 20000 in
theorem ggX1_move_X1_isStep : GoodIn wsX1_move wsX1_isStep := goodIn_r _ [27, 14, 15, 11, 16] (by decide +kernel) (by decide +kernel)
set_option maxRecDepth 20000 in
theorem gX1_move_X1_isStep : GoodIn wsX1_move (va_wsS RX1 85 yX1_isStep wsX1_isStep) := goodIn_app (goodIn_of _ (by decide +kernel)) ggX1_move_X1_isStep
set_option maxRecDepth 20000 in
theorem ggX1_move_X0_staysInside : GoodIn wsX1_move wsX0_staysInside := goodIn_r _ [32, 33, 34, 35, 36, 37, 11, 38, 14, 15, 16, 52, 53, 54, 55, 56, 57, 58, 59, 60, 61] (by decide +kernel) (by decide +kernel)
set_option maxRecDepth 20000 in
theorem gX1_move_X0_staysInside : GoodIn wsX1_move (wsV RX1 88 RX0 yX0_staysInside wsX0_staysInside) := goodIn_app (goodIn_of _ (by decide +kernel)) ggX1_move_X0_staysInside
set_option maxRecDepth 20000 in
theorem ggX1_move_X1_losesAgainstLastChange : GoodIn wsX1_move wsX1_losesAgainstLastChange := goodIn_r _ [41, 42, 43, 52, 53, 54, 55, 56, 57, 58, 59, 60, 61] (by decide +kernel) (by decide +kernel)
set_option maxRecDepth 20000 in
theorem gX1_move_X1_losesAgainstLastChange : GoodIn wsX1_move (va_wsS RX1 98 yX1_losesAgainstLastChange wsX1_losesAgainstLastChange) := goodIn_app (goodIn_of _ (by decide +kernel)) ggX1_move_X1_losesAgainstLastChange
set_option maxRecDepth 20000 in
theorem ggX1_move_X0_shift : GoodIn wsX1_move wsX0_shift := goodIn_r _ [47, 33, 34, 35, 36, 52, 53, 54, 55, 56, 57, 58, 59, 60, 61] (by decide +kernel) (by decide +kernel)
set_option maxRecDepth 20000 in
theorem gX1_move_X0_shift : GoodIn wsX1_move (wsV RX1 102 RX0 yX0_shift wsX0_shift) := goodIn_app (goodIn_of _ (by decide +kernel)) ggX1_move_X0_shift
set_option maxRecDepth 20000 in
theorem ggX1_move_X1_noteChange : GoodIn wsX1_move wsX1_noteChange := goodIn_r _ [51, 24, 42, 43, 62, 63, 64, 65, 66, 67, 68, 69, 52, 53, 54, 55, 56, 57, 58, 59, 60, 61] (by decide +kernel) (by decide +kernel)
set_option maxRecDepth 20000 in
theorem gX1_move_X1_noteChange : GoodIn wsX1_move (wsV RX1 106 RX1 yX1_noteChange wsX1_noteChange) := goodIn_app (goodIn_of _ (by decide +kernel)) ggX1_move_X1_noteChange
theorem dX1_move_0 : decode cX1_move 0 = .ok (.aload_n 0, 1) := by decide +kernel
theorem dX1_move_1 : decode cX1_move 1 = .ok (.iload_n 3, 1) := by decide +kernel
theorem dX1_move_2 : decode cX1_move 2 = .ok (.invokevirtual 74, 3) := by decide +kernel
theorem dX1_move_5 : decode cX1_move 5 = .ok (.astore 6, 2) := by decide +kernel
theorem dX1_move_7 : decode cX1_move 7 = .ok (.iload_n 1, 1) := by decide +kernel
theorem dX1_move_8 : decode cX1_move 8 = .ok (.invokestatic 39, 3) := by decide +kernel
theorem dX1_move_11 : decode cX1_move 11 = .ok (.ifCond .eq 8, 3) := by decide +kernel
theorem dX1_move_14 : decode cX1_move 14 = .ok (.aload 6, 2) := by decide +kernel
theorem dX1_move_16 : decode cX1_move 16 = .ok (.ifnonnull 13, 3) := by decide +kernel
theorem dX1_move_19 : decode cX1_move 19 = .ok (.new 46, 3) := by decide +kernel
theorem dX1_move_22 : decode cX1_move 22 = .ok (.dup, 1) := by decide +kernel
theorem dX1_move_23 : decode cX1_move 23 = .ok (.ldc 78, 2) := by decide +kernel
theorem dX1_move_25 : decode cX1_move 25 = .ok (.invokespecial 50, 3) := by decide +kernel
theorem dX1_move_28 : decode cX1_move 28 = .ok (.athrow, 1) := by decide +kernel
theorem dX1_move_29 : decode cX1_move 29 = .ok (.aload_n 0, 1) := by decide +kernel
theorem dX1_move_30 : decode cX1_move 30 = .ok (.iload_n 2, 1) := by decide +kernel
theorem dX1_move_31 : decode cX1_move 31 = .ok (.invokevirtual 80, 3) := by decide +kernel
theorem dX1_move_34 : decode cX1_move 34 = .ok (.ifCond .ne 13, 3) := by decide +kernel
theorem dX1_move_37 : decode cX1_move 37 = .ok (.new 57, 3) := by decide +kernel
theorem dX1_move_40 : decode cX1_move 40 = .ok (.dup, 1) := by decide +kernel
theorem dX1_move_41 : decode cX1_move 41 = .ok (.ldc 83, 2) := by decide +kernel
theorem dX1_move_43 : decode cX1_move 43 = .ok (.invokespecial 61, 3) := by decide +kernel
theorem dX1_move_46 : decode cX1_move 46 = .ok (.athrow, 1) := by decide +kernel
theorem dX1_move_47 : decode cX1_move 47 = .ok (.iload 4, 2) := by decide +kernel
theorem dX1_move_49 : decode cX1_move 49 = .ok (.invokestatic 85, 3) := by decide +kernel
theorem dX1_move_52 : decode cX1_move 52 = .ok (.ifCond .eq 23, 3) := by decide +kernel
theorem dX1_move_55 : decode cX1_move 55 = .ok (.iload 5, 2) := by decide +kernel
theorem dX1_move_57 : decode cX1_move 57 = .ok (.invokestatic 85, 3) := by decide +kernel
theorem dX1_move_60 : decode cX1_move 60 = .ok (.ifCond .eq 15, 3) := by decide +kernel
theorem dX1_move_63 : decode cX1_move 63 = .ok (.aload 6, 2) := by decide +kernel
theorem dX1_move_65 : decode cX1_move 65 = .ok (.iload 4, 2) := by decide +kernel
theorem dX1_move_67 : decode cX1_move 67 = .ok (.iload 5, 2) := by decide +kernel
theorem dX1_move_69 : decode cX1_move 69 = .ok (.invokevirtual 88, 3) := by decide +kernel
theorem dX1_move_72 : decode cX1_move 72 = .ok (.ifCond .ne 13, 3) := by decide +kernel
theorem dX1_move_75 : decode cX1_move 75 = .ok (.new 57, 3) := by decide +kernel
theorem dX1_move_78 : decode cX1_move 78 = .ok (.dup, 1) := by decide +kernel
theorem dX1_move_79 : decode cX1_move 79 = .ok (.ldc 91, 2) := by decide +kernel
theorem dX1_move_81 : decode cX1_move 81 = .ok (.invokespecial 61, 3) := by decide +kernel
theorem dX1_move_84 : decode cX1_move 84 = .ok (.athrow, 1) := by decide +kernel
theorem dX1_move_85 : decode cX1_move 85 = .ok (.aload 6, 2) := by decide +kernel
theorem dX1_move_87 : decode cX1_move 87 = .ok (.getfield 93, 3) := by decide +kernel
theorem dX1_move_90 : decode cX1_move 90 = .ok (.ifCond .eq 13, 3) := by decide +kernel
theorem dX1_move_93 : decode cX1_move 93 = .ok (.new 64, 3) := by decide +kernel
theorem dX1_move_96 : decode cX1_move 96 = .ok (.dup, 1) := by decide +kernel
theorem dX1_move_97 : decode cX1_move 97 = .ok (.ldc 96, 2) := by decide +kernel
theorem dX1_move_99 : decode cX1_move 99 = .ok (.invokespecial 68, 3) := by decide +kernel
theorem dX1_move_102 : decode cX1_move 102 = .ok (.athrow, 1) := by decide +kernel
theorem dX1_move_103 : decode cX1_move 103 = .ok (.aload 6, 2) := by decide +kernel
theorem dX1_move_105 : decode cX1_move 105 = .ok (.iload_n 1, 1) := by decide +kernel
theorem dX1_move_106 : decode cX1_move 106 = .ok (.iload_n 2, 1) := by decide +kernel
theorem dX1_move_107 : decode cX1_move 107 = .ok (.invokestatic 98, 3) := by decide +kernel
theorem dX1_move_110 : decode cX1_move 110 = .ok (.ifCond .eq 5, 3) := by decide +kernel
theorem dX1_move_113 : decode cX1_move 113 = .ok (.iconst 0, 1) := by decide +kernel
theorem dX1_move_114 : decode cX1_move 114 = .ok (.ireturn, 1) := by decide +kernel
theorem dX1_move_115 : decode cX1_move 115 = .ok (.aload 6, 2) := by decide +kernel
theorem dX1_move_117 : decode cX1_move 117 = .ok (.iload 4, 2) := by decide +kernel
theorem dX1_move_119 : decode cX1_move 119 = .ok (.iload 5, 2) := by decide +kernel
theorem dX1_move_121 : decode cX1_move 121 = .ok (.invokevirtual 102, 3) := by decide +kernel
theorem dX1_move_124 : decode cX1_move 124 = .ok (.aload_n 0, 1) := by decide +kernel
theorem dX1_move_125 : decode cX1_move 125 = .ok (.aload 6, 2) := by decide +kernel
theorem dX1_move_127 : decode cX1_move 127 = .ok (.iload_n 1, 1) := by decide +kernel
theorem dX1_move_128 : decode cX1_move 128 = .ok (.invokevirtual 106, 3) := by decide +kernel
theorem dX1_move_131 : decode cX1_move 131 = .ok (.iconst 1, 1) := by decide +kernel
theorem dX1_move_132 : decode cX1_move 132 = .ok (.ireturn, 1) := by decide +kernel
set_option maxRecDepth 20000 in
theorem ggX1_remove_X1_find : GoodIn wsX1_remove wsX1_find := goodIn_r _ [12, 13, 14, 15, 11, 16, 41, 42, 43, 44, 45, 46, 47, 48] (by decide +kernel) (by decide +kernel)
set_option maxRecDepth 20000 in
theorem gX1_remove_X1_find : GoodIn wsX1_remove (wsV RX1 74 RX1 yX1_find wsX1_find) := goodIn_app (goodIn_of _ (by decide +kernel)) ggX1_remove_X1_find
set_option maxRecDepth 20000 in
theorem ggX1_remove_X1_isKind : GoodIn wsX1_remove wsX1_isKind := goodIn_r _ [19, 14, 15, 11, 16] (by decide +kernel) (by decide +kernel)
set_option maxRecDepth 20000 in
theorem gX1_remove_X1_isKind : GoodIn wsX1_remove (va_wsS RX1 39 yX1_isKind wsX1_isKind) := goodIn_app (goodIn_of _ (by decide +kernel)) ggX1_remove_X1_isKind
set_option maxRecDepth 20000 in
theorem ggX1_remove_X1_isBase : GoodIn wsX1_remove wsX1_isBase := goodIn_r _ [23, 24, 14, 15, 11, 16, 41, 42, 43, 44, 45, 46, 47, 48] (by decide +kernel) (by decide +kernel)
set_option maxRecDepth 20000 in
theorem gX1_remove_X1_isBase : GoodIn wsX1_remove (wsV RX1 80 RX1 yX1_isBase wsX1_isBase) := goodIn_app (goodIn_of _ (by decide +kernel)) ggX1_remove_X1_isBase
set_option maxRecDepth 20000 in
theorem ggX1_remove_X1_noteChange : GoodIn wsX1_remove wsX1_noteChange := goodIn_r _ [28, 24, 29, 30, 41, 42, 43, 44, 45, 46, 47, 48, 31, 32, 33, 34, 35, 36, 37, 38, 39, 40] (by decide +kernel) (by decide +kernel)
set_option maxRecDepth 20000 in
theorem gX1_remove_X1_noteChange : GoodIn wsX1_remove (wsV RX1 106 RX1 yX1_noteChange wsX1_noteChange) := goodIn_app (goodIn_of _ (by decide +kernel)) ggX1_remove_X1_noteChange
theorem dX1_remove_0 : decode cX1_remove 0 = .ok (.aload_n 0, 1) := by decide +kernel
theorem dX1_remove_1 : decode cX1_remove 1 = .ok (.iload_n 3, 1) := by decide +kernel
theorem dX1_remove_2 : decode cX1_remove 2 = .ok (.invokevirtual 74, 3) := by decide +kernel
theorem dX1_remove_5 : decode cX1_remove 5 = .ok (.astore 4, 2) := by decide +kernel
theorem dX1_remove_7 : decode cX1_remove 7 = .ok (.iload_n 1, 1) := by decide +kernel
theorem dX1_remove_8 : decode cX1_remove 8 = .ok (.invokestatic 39, 3) := by decide +kernel
theorem dX1_remove_11 : decode cX1_remove 11 = .ok (.ifCond .eq 8, 3) := by decide +kernel
theorem dX1_remove_14 : decode cX1_remove 14 = .ok (.aload 4, 2) := by decide +kernel
theorem dX1_remove_16 : decode cX1_remove 16 = .ok (.ifnonnull 13, 3) := by decide +kernel
theorem dX1_remove_19 : decode cX1_remove 19 = .ok (.new 46, 3) := by decide +kernel
theorem dX1_remove_22 : decode cX1_remove 22 = .ok (.dup, 1) := by decide +kernel
theorem dX1_remove_23 : decode cX1_remove 23 = .ok (.ldc 78, 2) := by decide +kernel
theorem dX1_remove_25 : decode cX1_remove 25 = .ok (.invokespecial 50, 3) := by decide +kernel
theorem dX1_remove_28 : decode cX1_remove 28 = .ok (.athrow, 1) := by decide +kernel
theorem dX1_remove_29 : decode cX1_remove 29 = .ok (.aload_n 0, 1) := by decide +kernel
theorem dX1_remove_30 : decode cX1_remove 30 = .ok (.iload_n 2, 1) := by decide +kernel
theorem dX1_remove_31 : decode cX1_remove 31 = .ok (.invokevirtual 80, 3) := by decide +kernel
theorem dX1_remove_34 : decode cX1_remove 34 = .ok (.ifCond .ne 13, 3) := by decide +kernel
theorem dX1_remove_37 : decode cX1_remove 37 = .ok (.new 57, 3) := by decide +kernel
theorem dX1_remove_40 : decode cX1_remove 40 = .ok (.dup, 1) := by decide +kernel
theorem dX1_remove_41 : decode cX1_remove 41 = .ok (.ldc 83, 2) := by decide +kernel
theorem dX1_remove_43 : decode cX1_remove 43 = .ok (.invokespecial 61, 3) := by decide +kernel
theorem dX1_remove_46 : decode cX1_remove 46 = .ok (.athrow, 1) := by decide +kernel
theorem dX1_remove_47 : decode cX1_remove 47 = .ok (.aload 4, 2) := by decide +kernel
theorem dX1_remove_49 : decode cX1_remove 49 = .ok (.getfield 93, 3) := by decide +kernel
theorem dX1_remove_52 : decode cX1_remove 52 = .ok (.ifCond .eq 13, 3) := by decide +kernel
theorem dX1_remove_55 : decode cX1_remove 55 = .ok (.new 64, 3) := by decide +kernel
theorem dX1_remove_58 : decode cX1_remove 58 = .ok (.dup, 1) := by decide +kernel
theorem dX1_remove_59 : decode cX1_remove 59 = .ok (.ldc 96, 2) := by decide +kernel
theorem dX1_remove_61 : decode cX1_remove 61 = .ok (.invokespecial 68, 3) := by decide +kernel
theorem dX1_remove_64 : decode cX1_remove 64 = .ok (.athrow, 1) := by decide +kernel
theorem dX1_remove_65 : decode cX1_remove 65 = .ok (.aload 4, 2) := by decide +kernel
theorem dX1_remove_67 : decode cX1_remove 67 = .ok (.iconst 4, 1) := by decide +kernel
theorem dX1_remove_68 : decode cX1_remove 68 = .ok (.putfield 93, 3) := by decide +kernel
theorem dX1_remove_71 : decode cX1_remove 71 = .ok (.aload_n 0, 1) := by decide +kernel
theorem dX1_remove_72 : decode cX1_remove 72 = .ok (.aload 4, 2) := by decide +kernel
theorem dX1_remove_74 : decode cX1_remove 74 = .ok (.iload_n 1, 1) := by decide +kernel
theorem dX1_remove_75 : decode cX1_remove 75 = .ok (.invokevirtual 106, 3) := by decide +kernel
theorem dX1_remove_78 : decode cX1_remove 78 = .ok (.iconst 1, 1) := by decide +kernel
theorem dX1_remove_79 : decode cX1_remove 79 = .ok (.ireturn, 1) := by decide +kernel
set_option maxRecDepth 20000 in
theorem ggX1_clear_X1_isKind : GoodIn wsX1_clear wsX1_isKind := goodIn_r _ [9, 10, 11, 8, 12] (by decide +kernel) (by decide +kernel)
set_option maxRecDepth 20000 in
theorem gX1_clear_X1_isKind : GoodIn wsX1_clear (va_wsS RX1 39 yX1_isKind wsX1_isKind) := goodIn_app (goodIn_of _ (by decide +kernel)) ggX1_clear_X1_isKind
set_option maxRecDepth 20000 in
theorem ggX1_clear_X1_isWithin : GoodIn wsX1_clear wsX1_isWithin := goodIn_r _ [12] (by decide +kernel) (by decide +kernel)
set_option maxRecDepth 20000 in
theorem gX1_clear_X1_isWithin : GoodIn wsX1_clear (va_wsS RX1 112 yX1_isWithin wsX1_isWithin) := goodIn_app (goodIn_of _ (by decide +kernel)) ggX1_clear_X1_isWithin
theorem dX1_clear_0 : decode cX1_clear 0 = .ok (.iload_n 1, 1) := by decide +kernel
theorem dX1_clear_1 : decode cX1_clear 1 = .ok (.invokestatic 39, 3) := by decide +kernel
theorem dX1_clear_4 : decode cX1_clear 4 = .ok (.ifCond .eq 10, 3) := by decide +kernel
theorem dX1_clear_7 : decode cX1_clear 7 = .ok (.iload_n 2, 1) := by decide +kernel
theorem dX1_clear_8 : decode cX1_clear 8 = .ok (.invokestatic 39, 3) := by decide +kernel
theorem dX1_clear_11 : decode cX1_clear 11 = .ok (.ifCond .ne 13, 3) := by decide +kernel
theorem dX1_clear_14 : decode cX1_clear 14 = .ok (.new 46, 3) := by decide +kernel
theorem dX1_clear_17 : decode cX1_clear 17 = .ok (.dup, 1) := by decide +kernel
theorem dX1_clear_18 : decode cX1_clear 18 = .ok (.ldc 110, 2) := by decide +kernel
theorem dX1_clear_20 : decode cX1_clear 20 = .ok (.invokespecial 50, 3) := by decide +kernel
theorem dX1_clear_23 : decode cX1_clear 23 = .ok (.athrow, 1) := by decide +kernel
theorem dX1_clear_24 : decode cX1_clear 24 = .ok (.iload_n 3, 1) := by decide +kernel
theorem dX1_clear_25 : decode cX1_clear 25 = .ok (.iconst 0, 1) := by decide +kernel
theorem dX1_clear_26 : decode cX1_clear 26 = .ok (.iconst 3, 1) := by decide +kernel
theorem dX1_clear_27 : decode cX1_clear 27 = .ok (.invokestatic 112, 3) := by decide +kernel
theorem dX1_clear_30 : decode cX1_clear 30 = .ok (.ifCond .ne 13, 3) := by decide +kernel
theorem dX1_clear_33 : decode cX1_clear 33 = .ok (.new 57, 3) := by decide +kernel
theorem dX1_clear_36 : decode cX1_clear 36 = .ok (.dup, 1) := by decide +kernel
theorem dX1_clear_37 : decode cX1_clear 37 = .ok (.ldc 116, 2) := by decide +kernel
theorem dX1_clear_39 : decode cX1_clear 39 = .ok (.invokespecial 61, 3) := by decide +kernel
theorem dX1_clear_42 : decode cX1_clear 42 = .ok (.athrow, 1) := by decide +kernel
theorem dX1_clear_43 : decode cX1_clear 43 = .ok (.aload_n 0, 1) := by decide +kernel
theorem dX1_clear_44 : decode cX1_clear 44 = .ok (.getfield 19, 3) := by decide +kernel
theorem dX1_clear_47 : decode cX1_clear 47 = .ok (.iload_n 1, 1) := by decide +kernel
theorem dX1_clear_48 : decode cX1_clear 48 = .ok (.iconst 3, 1) := by decide +kernel
theorem dX1_clear_49 : decode cX1_clear 49 = .ok (.imul, 1) := by decide +kernel
theorem dX1_clear_50 : decode cX1_clear 50 = .ok (.iload_n 2, 1) := by decide +kernel
theorem dX1_clear_51 : decode cX1_clear 51 = .ok (.iadd, 1) := by decide +kernel
theorem dX1_clear_52 : decode cX1_clear 52 = .ok (.iaload, 1) := by decide +kernel
theorem dX1_clear_53 : decode cX1_clear 53 = .ok (.istore 4, 2) := by decide +kernel
theorem dX1_clear_55 : decode cX1_clear 55 = .ok (.aload_n 0, 1) := by decide +kernel
theorem dX1_clear_56 : decode cX1_clear 56 = .ok (.getfield 19, 3) := by decide +kernel
theorem dX1_clear_59 : decode cX1_clear 59 = .ok (.iload_n 1, 1) := by decide +kernel
theorem dX1_clear_60 : decode cX1_clear 60 = .ok (.iconst 3, 1) := by decide +kernel
theorem dX1_clear_61 : decode cX1_clear 61 = .ok (.imul, 1) := by decide +kernel
theorem dX1_clear_62 : decode cX1_clear 62 = .ok (.iload_n 2, 1) := by decide +kernel
theorem dX1_clear_63 : decode cX1_clear 63 = .ok (.iadd, 1) := by decide +kernel
theorem dX1_clear_64 : decode cX1_clear 64 = .ok (.iload_n 3, 1) := by decide +kernel
theorem dX1_clear_65 : decode cX1_clear 65 = .ok (.iastore, 1) := by decide +kernel
theorem dX1_clear_66 : decode cX1_clear 66 = .ok (.aload_n 0, 1) := by decide +kernel
theorem dX1_clear_67 : decode cX1_clear 67 = .ok (.getfield 19, 3) := by decide +kernel
theorem dX1_clear_70 : decode cX1_clear 70 = .ok (.iload_n 2, 1) := by decide +kernel
theorem dX1_clear_71 : decode cX1_clear 71 = .ok (.iconst 3, 1) := by decide +kernel
theorem dX1_clear_72 : decode cX1_clear 72 = .ok (.imul, 1) := by decide +kernel
theorem dX1_clear_73 : decode cX1_clear 73 = .ok (.iload_n 1, 1) := by decide +kernel
theorem dX1_clear_74 : decode cX1_clear 74 = .ok (.iadd, 1) := by decide +kernel
theorem dX1_clear_75 : decode cX1_clear 75 = .ok (.iload_n 3, 1) := by decide +kernel
theorem dX1_clear_76 : decode cX1_clear 76 = .ok (.iastore, 1) := by decide +kernel
theorem dX1_clear_77 : decode cX1_clear 77 = .ok (.iload 4, 2) := by decide +kernel
theorem dX1_clear_79 : decode cX1_clear 79 = .ok (.ireturn, 1) := by decide +kernel
set_option maxRecDepth 20000 in
theorem ggX1_part_X1_isKind : GoodIn wsX1_part wsX1_isKind := goodIn_r _ [9, 10, 11, 8, 12] (by decide +kernel) (by decide +kernel)
set_option maxRecDepth 20000 in
theorem gX1_part_X1_isKind : GoodIn wsX1_part (va_wsS RX1 39 yX1_isKind wsX1_isKind) := goodIn_app (goodIn_of _ (by decide +kernel)) ggX1_part_X1_isKind
set_option maxRecDepth 20000 in
theorem ggX1_part_X1_isWithin : GoodIn wsX1_part wsX1_isWithin := goodIn_r _ [12] (by decide +kernel) (by decide +kernel)
set_option maxRecDepth 20000 in
theorem gX1_part_X1_isWithin : GoodIn wsX1_part (va_wsS RX1 112 yX1_isWithin wsX1_isWithin) := goodIn_app (goodIn_of _ (by decide +kernel)) ggX1_part_X1_isWithin
theorem dX1_part_0 : decode cX1_part 0 = .ok (.iload_n 1, 1) := by decide +kernel
theorem dX1_part_1 : decode cX1_part 1 = .ok (.invokestatic 39, 3) := by decide +kernel
theorem dX1_part_4 : decode cX1_part 4 = .ok (.ifCond .ne 13, 3) := by decide +kernel
theorem dX1_part_7 : decode cX1_part 7 = .ok (.new 46, 3) := by decide +kernel
theorem dX1_part_10 : decode cX1_part 10 = .ok (.dup, 1) := by decide +kernel
theorem dX1_part_11 : decode cX1_part 11 = .ok (.ldc 110, 2) := by decide +kernel
theorem dX1_part_13 : decode cX1_part 13 = .ok (.invokespecial 50, 3) := by decide +kernel
theorem dX1_part_16 : decode cX1_part 16 = .ok (.athrow, 1) := by decide +kernel
theorem dX1_part_17 : decode cX1_part 17 = .ok (.iload_n 2, 1) := by decide +kernel
theorem dX1_part_18 : decode cX1_part 18 = .ok (.iconst 1, 1) := by decide +kernel
theorem dX1_part_19 : decode cX1_part 19 = .ok (.bipush 12, 2) := by decide +kernel
theorem dX1_part_21 : decode cX1_part 21 = .ok (.invokestatic 112, 3) := by decide +kernel
theorem dX1_part_24 : decode cX1_part 24 = .ok (.ifCond .ne 13, 3) := by decide +kernel
theorem dX1_part_27 : decode cX1_part 27 = .ok (.new 57, 3) := by decide +kernel
theorem dX1_part_30 : decode cX1_part 30 = .ok (.dup, 1) := by decide +kernel
theorem dX1_part_31 : decode cX1_part 31 = .ok (.ldc 116, 2) := by decide +kernel
theorem dX1_part_33 : decode cX1_part 33 = .ok (.invokespecial 61, 3) := by decide +kernel
theorem dX1_part_36 : decode cX1_part 36 = .ok (.athrow, 1) := by decide +kernel
theorem dX1_part_37 : decode cX1_part 37 = .ok (.aload_n 0, 1) := by decide +kernel
theorem dX1_part_38 : decode cX1_part 38 = .ok (.getfield 23, 3) := by decide +kernel
theorem dX1_part_41 : decode cX1_part 41 = .ok (.iload_n 1, 1) := by decide +kernel
theorem dX1_part_42 : decode cX1_part 42 = .ok (.iaload, 1) := by decide +kernel
theorem dX1_part_43 : decode cX1_part 43 = .ok (.istore_n 3, 1) := by decide +kernel
theorem dX1_part_44 : decode cX1_part 44 = .ok (.aload_n 0, 1) := by decide +kernel
theorem dX1_part_45 : decode cX1_part 45 = .ok (.getfield 23, 3) := by decide +kernel
theorem dX1_part_48 : decode cX1_part 48 = .ok (.iload_n 1, 1) := by decide +kernel
theorem dX1_part_49 : decode cX1_part 49 = .ok (.iload_n 2, 1) := by decide +kernel
theorem dX1_part_50 : decode cX1_part 50 = .ok (.iastore, 1) := by decide +kernel
theorem dX1_part_51 : decode cX1_part 51 = .ok (.iload_n 3, 1) := by decide +kernel
theorem dX1_part_52 : decode cX1_part 52 = .ok (.ireturn, 1) := by decide +kernel
set_option maxRecDepth 20000 in
theorem ggX1_lead_X1_isKind : GoodIn wsX1_lead wsX1_isKind := goodIn_r _ [9, 10, 11, 8, 12] (by decide +kernel) (by decide +kernel)
set_option maxRecDepth 20000 in
theorem gX1_lead_X1_isKind : GoodIn wsX1_lead (va_wsS RX1 39 yX1_isKind wsX1_isKind) := goodIn_app (goodIn_of _ (by decide +kernel)) ggX1_lead_X1_isKind
set_option maxRecDepth 20000 in
theorem ggX1_lead_X1_isWithin : GoodIn wsX1_lead wsX1_isWithin := goodIn_r _ [12] (by decide +kernel) (by decide +kernel)
set_option maxRecDepth 20000 in
theorem gX1_lead_X1_isWithin : GoodIn wsX1_lead (va_wsS RX1 112 yX1_isWithin wsX1_isWithin) := goodIn_app (goodIn_of _ (by decide +kernel)) ggX1_lead_X1_isWithin
theorem dX1_lead_0 : decode cX1_lead 0 = .ok (.iload_n 1, 1) := by decide +kernel
theorem dX1_lead_1 : decode cX1_lead 1 = .ok (.invokestatic 39, 3) := by decide +kernel
theorem dX1_lead_4 : decode cX1_lead 4 = .ok (.ifCond .ne 13, 3) := by decide +kernel
theorem dX1_lead_7 : decode cX1_lead 7 = .ok (.new 46, 3) := by decide +kernel
theorem dX1_lead_10 : decode cX1_lead 10 = .ok (.dup, 1) := by decide +kernel
theorem dX1_lead_11 : decode cX1_lead 11 = .ok (.ldc 110, 2) := by decide +kernel
theorem dX1_lead_13 : decode cX1_lead 13 = .ok (.invokespecial 50, 3) := by decide +kernel
theorem dX1_lead_16 : decode cX1_lead 16 = .ok (.athrow, 1) := by decide +kernel
theorem dX1_lead_17 : decode cX1_lead 17 = .ok (.iload_n 2, 1) := by decide +kernel
theorem dX1_lead_18 : decode cX1_lead 18 = .ok (.iconst 0, 1) := by decide +kernel
theorem dX1_lead_19 : decode cX1_lead 19 = .ok (.bipush 100, 2) := by decide +kernel
theorem dX1_lead_21 : decode cX1_lead 21 = .ok (.invokestatic 112, 3) := by decide +kernel
theorem dX1_lead_24 : decode cX1_lead 24 = .ok (.ifCond .ne 13, 3) := by decide +kernel
theorem dX1_lead_27 : decode cX1_lead 27 = .ok (.new 57, 3) := by decide +kernel
theorem dX1_lead_30 : decode cX1_lead 30 = .ok (.dup, 1) := by decide +kernel
theorem dX1_lead_31 : decode cX1_lead 31 = .ok (.ldc 118, 2) := by decide +kernel
theorem dX1_lead_33 : decode cX1_lead 33 = .ok (.invokespecial 61, 3) := by decide +kernel
theorem dX1_lead_36 : decode cX1_lead 36 = .ok (.athrow, 1) := by decide +kernel
theorem dX1_lead_37 : decode cX1_lead 37 = .ok (.aload_n 0, 1) := by decide +kernel
theorem dX1_lead_38 : decode cX1_lead 38 = .ok (.getfield 26, 3) := by decide +kernel
theorem dX1_lead_41 : decode cX1_lead 41 = .ok (.iload_n 1, 1) := by decide +kernel
theorem dX1_lead_42 : decode cX1_lead 42 = .ok (.iaload, 1) := by decide +kernel
theorem dX1_lead_43 : decode cX1_lead 43 = .ok (.istore_n 3, 1) := by decide +kernel
theorem dX1_lead_44 : decode cX1_lead 44 = .ok (.aload_n 0, 1) := by decide +kernel
theorem dX1_lead_45 : decode cX1_lead 45 = .ok (.getfield 26, 3) := by decide +kernel
theorem dX1_lead_48 : decode cX1_lead 48 = .ok (.iload_n 1, 1) := by decide +kernel
theorem dX1_lead_49 : decode cX1_lead 49 = .ok (.iload_n 2, 1) := by decide +kernel
theorem dX1_lead_50 : decode cX1_lead 50 = .ok (.iastore, 1) := by decide +kernel
theorem dX1_lead_51 : decode cX1_lead 51 = .ok (.iload_n 3, 1) := by decide +kernel
theorem dX1_lead_52 : decode cX1_lead 52 = .ok (.ireturn, 1) := by decide +kernel
set_option maxRecDepth 20000 in
theorem ggX1_order_X1_find : GoodIn wsX1_order wsX1_find := goodIn_r _ [13, 14, 15, 16, 12, 17, 60, 61, 62, 63, 64, 65, 66, 67] (by decide +kernel) (by decide +kernel)
set_option maxRecDepth 20000 in
theorem gX1_order_X1_find : GoodIn wsX1_order (wsV RX1 74 RX1 yX1_find wsX1_find) := goodIn_app (goodIn_of _ (by decide +kernel)) ggX1_order_X1_find
set_option maxRecDepth 20000 in
theorem ggX1_order_X1_leadDaysOf : GoodIn wsX1_order wsX1_leadDaysOf := goodIn_r _ [21, 22, 23, 24, 12, 25, 15, 16, 17, 60, 61, 62, 63, 64, 65, 66, 67] (by decide +kernel) (by decide +kernel)
set_option maxRecDepth 20000 in
theorem gX1_order_X1_leadDaysOf : GoodIn wsX1_order (wsV RX1 125 RX1 yX1_leadDaysOf wsX1_leadDaysOf) := goodIn_app (goodIn_of _ (by decide +kernel)) ggX1_order_X1_leadDaysOf
set_option maxRecDepth 20000 in
theorem ggX1_order_X0_deliverIfDue : GoodIn wsX1_order wsX0_deliverIfDue := goodIn_r _ [30, 31, 32, 50, 51, 52, 53, 54, 55, 56, 57, 58, 59] (by decide +kernel) (by decide +kernel)
set_option maxRecDepth 20000 in
theorem gX1_order_X0_deliverIfDue : GoodIn wsX1_order (wsV RX1 132 RX0 yX0_deliverIfDue wsX0_deliverIfDue) := goodIn_app (goodIn_of _ (by decide +kernel)) ggX1_order_X0_deliverIfDue
set_option maxRecDepth 20000 in
theorem ggX1_order_X1_partsOf : GoodIn wsX1_order wsX1_partsOf := goodIn_r _ [36, 7, 37, 23, 24, 12, 25, 15, 16, 17, 38, 39, 40, 29, 41, 42, 43, 44, 45, 46, 47, 48, 49, 50, 51, 52, 53, 54, 55, 56, 57, 58, 59, 60, 61, 62, 63, 64, 65, 66, 67] (by decide +kernel) (by decide +kernel)
set_option maxRecDepth 20000 in
theorem gX1_order_X1_partsOf : GoodIn wsX1_order (wsV RX1 136 RX1 yX1_partsOf wsX1_partsOf) := goodIn_app (goodIn_of _ (by decide +kernel)) ggX1_order_X1_partsOf
theorem dX1_order_0 : decode cX1_order 0 = .ok (.aload_n 0, 1) := by decide +kernel
theorem dX1_order_1 : decode cX1_order 1 = .ok (.iload_n 1, 1) := by decide +kernel
theorem dX1_order_2 : decode cX1_order 2 = .ok (.invokevirtual 74, 3) := by decide +kernel
theorem dX1_order_5 : decode cX1_order 5 = .ok (.astore_n 2, 1) := by decide +kernel
theorem dX1_order_6 : decode cX1_order 6 = .ok (.aload_n 2, 1) := by decide +kernel
theorem dX1_order_7 : decode cX1_order 7 = .ok (.ifnonnull 13, 3) := by decide +kernel
theorem dX1_order_10 : decode cX1_order 10 = .ok (.new 46, 3) := by decide +kernel
theorem dX1_order_13 : decode cX1_order 13 = .ok (.dup, 1) := by decide +kernel
theorem dX1_order_14 : decode cX1_order 14 = .ok (.ldc 120, 2) := by decide +kernel
theorem dX1_order_16 : decode cX1_order 16 = .ok (.invokespecial 50, 3) := by decide +kernel
theorem dX1_order_19 : decode cX1_order 19 = .ok (.athrow, 1) := by decide +kernel
theorem dX1_order_20 : decode cX1_order 20 = .ok (.aload_n 2, 1) := by decide +kernel
theorem dX1_order_21 : decode cX1_order 21 = .ok (.getfield 93, 3) := by decide +kernel
theorem dX1_order_24 : decode cX1_order 24 = .ok (.ifCond .eq 13, 3) := by decide +kernel
theorem dX1_order_27 : decode cX1_order 27 = .ok (.new 64, 3) := by decide +kernel
theorem dX1_order_30 : decode cX1_order 30 = .ok (.dup, 1) := by decide +kernel
theorem dX1_order_31 : decode cX1_order 31 = .ok (.ldc 96, 2) := by decide +kernel
theorem dX1_order_33 : decode cX1_order 33 = .ok (.invokespecial 68, 3) := by decide +kernel
theorem dX1_order_36 : decode cX1_order 36 = .ok (.athrow, 1) := by decide +kernel
theorem dX1_order_37 : decode cX1_order 37 = .ok (.aload_n 2, 1) := by decide +kernel
theorem dX1_order_38 : decode cX1_order 38 = .ok (.iconst 1, 1) := by decide +kernel
theorem dX1_order_39 : decode cX1_order 39 = .ok (.putfield 93, 3) := by decide +kernel
theorem dX1_order_42 : decode cX1_order 42 = .ok (.aload_n 2, 1) := by decide +kernel
theorem dX1_order_43 : decode cX1_order 43 = .ok (.aload_n 0, 1) := by decide +kernel
theorem dX1_order_44 : decode cX1_order 44 = .ok (.getfield 36, 3) := by decide +kernel
theorem dX1_order_47 : decode cX1_order 47 = .ok (.aload_n 0, 1) := by decide +kernel
theorem dX1_order_48 : decode cX1_order 48 = .ok (.aload_n 2, 1) := by decide +kernel
theorem dX1_order_49 : decode cX1_order 49 = .ok (.getfield 122, 3) := by decide +kernel
theorem dX1_order_52 : decode cX1_order 52 = .ok (.invokevirtual 125, 3) := by decide +kernel
theorem dX1_order_55 : decode cX1_order 55 = .ok (.iadd, 1) := by decide +kernel
theorem dX1_order_56 : decode cX1_order 56 = .ok (.putfield 129, 3) := by decide +kernel
theorem dX1_order_59 : decode cX1_order 59 = .ok (.aload_n 2, 1) := by decide +kernel
theorem dX1_order_60 : decode cX1_order 60 = .ok (.aload_n 0, 1) := by decide +kernel
theorem dX1_order_61 : decode cX1_order 61 = .ok (.getfield 36, 3) := by decide +kernel
theorem dX1_order_64 : decode cX1_order 64 = .ok (.invokevirtual 132, 3) := by decide +kernel
theorem dX1_order_67 : decode cX1_order 67 = .ok (.aload_n 0, 1) := by decide +kernel
theorem dX1_order_68 : decode cX1_order 68 = .ok (.aload_n 2, 1) := by decide +kernel
theorem dX1_order_69 : decode cX1_order 69 = .ok (.invokevirtual 136, 3) := by decide +kernel
theorem dX1_order_72 : decode cX1_order 72 = .ok (.ireturn, 1) := by decide +kernel
set_option maxRecDepth 20000 in
theorem ggX1_cancel_X1_find : GoodIn wsX1_cancel wsX1_find := goodIn_r _ [12, 13, 14, 15, 11, 16, 27, 28, 29, 30, 31, 32, 33, 34] (by decide +kernel) (by decide +kernel)
set_option maxRecDepth 20000 in
theorem gX1_cancel_X1_find : GoodIn wsX1_cancel (wsV RX1 74 RX1 yX1_find wsX1_find) := goodIn_app (goodIn_of _ (by decide +kernel)) ggX1_cancel_X1_find
theorem dX1_cancel_0 : decode cX1_cancel 0 = .ok (.aload_n 0, 1) := by decide +kernel
theorem dX1_cancel_1 : decode cX1_cancel 1 = .ok (.iload_n 1, 1) := by decide +kernel
theorem dX1_cancel_2 : decode cX1_cancel 2 = .ok (.invokevirtual 74, 3) := by decide +kernel
theorem dX1_cancel_5 : decode cX1_cancel 5 = .ok (.astore_n 2, 1) := by decide +kernel
theorem dX1_cancel_6 : decode cX1_cancel 6 = .ok (.aload_n 2, 1) := by decide +kernel
theorem dX1_cancel_7 : decode cX1_cancel 7 = .ok (.ifnonnull 13, 3) := by decide +kernel
theorem dX1_cancel_10 : decode cX1_cancel 10 = .ok (.new 46, 3) := by decide +kernel
theorem dX1_cancel_13 : decode cX1_cancel 13 = .ok (.dup, 1) := by decide +kernel
theorem dX1_cancel_14 : decode cX1_cancel 14 = .ok (.ldc 120, 2) := by decide +kernel
theorem dX1_cancel_16 : decode cX1_cancel 16 = .ok (.invokespecial 50, 3) := by decide +kernel
theorem dX1_cancel_19 : decode cX1_cancel 19 = .ok (.athrow, 1) := by decide +kernel
theorem dX1_cancel_20 : decode cX1_cancel 20 = .ok (.aload_n 2, 1) := by decide +kernel
theorem dX1_cancel_21 : decode cX1_cancel 21 = .ok (.getfield 93, 3) := by decide +kernel
theorem dX1_cancel_24 : decode cX1_cancel 24 = .ok (.iconst 1, 1) := by decide +kernel
theorem dX1_cancel_25 : decode cX1_cancel 25 = .ok (.if_icmp .eq 13, 3) := by decide +kernel
theorem dX1_cancel_28 : decode cX1_cancel 28 = .ok (.new 64, 3) := by decide +kernel
theorem dX1_cancel_31 : decode cX1_cancel 31 = .ok (.dup, 1) := by decide +kernel
theorem dX1_cancel_32 : decode cX1_cancel 32 = .ok (.ldc 140, 2) := by decide +kernel
theorem dX1_cancel_34 : decode cX1_cancel 34 = .ok (.invokespecial 68, 3) := by decide +kernel
theorem dX1_cancel_37 : decode cX1_cancel 37 = .ok (.athrow, 1) := by decide +kernel
theorem dX1_cancel_38 : decode cX1_cancel 38 = .ok (.aload_n 2, 1) := by decide +kernel
theorem dX1_cancel_39 : decode cX1_cancel 39 = .ok (.iconst 0, 1) := by decide +kernel
theorem dX1_cancel_40 : decode cX1_cancel 40 = .ok (.putfield 93, 3) := by decide +kernel
theorem dX1_cancel_43 : decode cX1_cancel 43 = .ok (.aload_n 2, 1) := by decide +kernel
theorem dX1_cancel_44 : decode cX1_cancel 44 = .ok (.getfield 129, 3) := by decide +kernel
theorem dX1_cancel_47 : decode cX1_cancel 47 = .ok (.aload_n 0, 1) := by decide +kernel
theorem dX1_cancel_48 : decode cX1_cancel 48 = .ok (.getfield 36, 3) := by decide +kernel
theorem dX1_cancel_51 : decode cX1_cancel 51 = .ok (.isub, 1) := by decide +kernel
theorem dX1_cancel_52 : decode cX1_cancel 52 = .ok (.ireturn, 1) := by decide +kernel
set_option maxRecDepth 20000 in
theorem ggX1_build_X1_find : GoodIn wsX1_build wsX1_find := goodIn_r _ [10, 11, 12, 13, 9, 14, 68, 69, 70, 71, 72, 73, 74, 75] (by decide +kernel) (by decide +kernel)
set_option maxRecDepth 20000 in
theorem gX1_build_X1_find : GoodIn wsX1_build (wsV RX1 74 RX1 yX1_find wsX1_find) := goodIn_app (goodIn_of _ (by decide +kernel)) ggX1_build_X1_find
set_option maxRecDepth 20000 in
theorem ggX1_build_X1_clashesWithAny : GoodIn wsX1_build wsX1_clashesWithAny := goodIn_r _ [18, 19, 20, 21, 22, 9, 23, 24, 25, 6, 7, 8, 10, 11, 12, 13, 14, 26, 27, 28, 29, 30, 31, 32, 33, 34, 35, 36, 37, 38, 39, 40, 41, 42, 43, 44, 45, 46, 47, 48, 49, 50, 51, 52, 53, 54, 55, 56, 57, 68, 69, 70, 71, 72, 73, 74, 75, 58, 59, 60, 61, 62, 63, 64, 65, 66, 67] (by decide +kernel) (by decide +kernel)
set_option maxRecDepth 20000 in
theorem gX1_build_X1_clashesWithAny : GoodIn wsX1_build (wsV RX1 144 RX1 yX1_clashesWithAny wsX1_clashesWithAny) := goodIn_app (goodIn_of _ (by decide +kernel)) ggX1_build_X1_clashesWithAny
theorem dX1_build_0 : decode cX1_build 0 = .ok (.aload_n 0, 1) := by decide +kernel
theorem dX1_build_1 : decode cX1_build 1 = .ok (.iload_n 1, 1) := by decide +kernel
theorem dX1_build_2 : decode cX1_build 2 = .ok (.invokevirtual 74, 3) := by decide +kernel
theorem dX1_build_5 : decode cX1_build 5 = .ok (.astore_n 2, 1) := by decide +kernel
theorem dX1_build_6 : decode cX1_build 6 = .ok (.aload_n 2, 1) := by decide +kernel
theorem dX1_build_7 : decode cX1_build 7 = .ok (.ifnonnull 13, 3) := by decide +kernel
theorem dX1_build_10 : decode cX1_build 10 = .ok (.new 46, 3) := by decide +kernel
theorem dX1_build_13 : decode cX1_build 13 = .ok (.dup, 1) := by decide +kernel
theorem dX1_build_14 : decode cX1_build 14 = .ok (.ldc 120, 2) := by decide +kernel
theorem dX1_build_16 : decode cX1_build 16 = .ok (.invokespecial 50, 3) := by decide +kernel
theorem dX1_build_19 : decode cX1_build 19 = .ok (.athrow, 1) := by decide +kernel
theorem dX1_build_20 : decode cX1_build 20 = .ok (.aload_n 2, 1) := by decide +kernel
theorem dX1_build_21 : decode cX1_build 21 = .ok (.getfield 93, 3) := by decide +kernel
theorem dX1_build_24 : decode cX1_build 24 = .ok (.iconst 2, 1) := by decide +kernel
theorem dX1_build_25 : decode cX1_build 25 = .ok (.if_icmp .eq 13, 3) := by decide +kernel
theorem dX1_build_28 : decode cX1_build 28 = .ok (.new 64, 3) := by decide +kernel
theorem dX1_build_31 : decode cX1_build 31 = .ok (.dup, 1) := by decide +kernel
theorem dX1_build_32 : decode cX1_build 32 = .ok (.ldc 142, 2) := by decide +kernel
theorem dX1_build_34 : decode cX1_build 34 = .ok (.invokespecial 68, 3) := by decide +kernel
theorem dX1_build_37 : decode cX1_build 37 = .ok (.athrow, 1) := by decide +kernel
theorem dX1_build_38 : decode cX1_build 38 = .ok (.aload_n 0, 1) := by decide +kernel
theorem dX1_build_39 : decode cX1_build 39 = .ok (.iload_n 1, 1) := by decide +kernel
theorem dX1_build_40 : decode cX1_build 40 = .ok (.invokevirtual 144, 3) := by decide +kernel
theorem dX1_build_43 : decode cX1_build 43 = .ok (.ifCond .eq 5, 3) := by decide +kernel
theorem dX1_build_46 : decode cX1_build 46 = .ok (.iconst 0, 1) := by decide +kernel
theorem dX1_build_47 : decode cX1_build 47 = .ok (.ireturn, 1) := by decide +kernel
theorem dX1_build_48 : decode cX1_build 48 = .ok (.aload_n 2, 1) := by decide +kernel
theorem dX1_build_49 : decode cX1_build 49 = .ok (.iconst 3, 1) := by decide +kernel
theorem dX1_build_50 : decode cX1_build 50 = .ok (.putfield 93, 3) := by decide +kernel
theorem dX1_build_53 : decode cX1_build 53 = .ok (.iconst 1, 1) := by decide +kernel
theorem dX1_build_54 : decode cX1_build 54 = .ok (.ireturn, 1) := by decide +kernel
set_option maxRecDepth 20000 in
theorem ggX1_inspect_X1_isStorey : GoodIn wsX1_inspect wsX1_isStorey := goodIn_r _ [9, 10, 11, 8, 12] (by decide +kernel) (by decide +kernel)
set_option maxRecDepth 20000 in
theorem gX1_inspect_X1_isStorey : GoodIn wsX1_inspect (va_wsS RX1 43 yX1_isStorey wsX1_isStorey) := goodIn_app (goodIn_of _ (by decide +kernel)) ggX1_inspect_X1_isStorey
set_option maxRecDepth 20000 in
theorem ggX1_inspect_X1_isFinished : GoodIn wsX1_inspect wsX1_isFinished := goodIn_r _ [16, 17, 18, 19, 20, 21, 22, 8, 23, 24, 10, 11, 12, 25, 26, 27, 28, 29, 30, 31, 32, 33, 34, 35, 36, 37, 38, 39, 40, 41, 42, 43, 44, 45, 46, 47, 48, 49, 50, 51, 52, 53, 54, 55, 56, 57, 58, 59, 60, 61, 62, 63, 64, 65, 66, 67, 68, 69, 70, 71, 72, 73, 74, 75, 76, 77, 78, 79, 80, 81, 82, 83] (by decide +kernel) (by decide +kernel)
set_option maxRecDepth 20000 in
theorem gX1_inspect_X1_isFinished : GoodIn wsX1_inspect (wsV RX1 149 RX1 yX1_isFinished wsX1_isFinished) := goodIn_app (goodIn_of _ (by decide +kernel)) ggX1_inspect_X1_isFinished
theorem dX1_inspect_0 : decode cX1_inspect 0 = .ok (.iload_n 1, 1) := by decide +kernel
theorem dX1_inspect_1 : decode cX1_inspect 1 = .ok (.invokestatic 43, 3) := by decide +kernel
theorem dX1_inspect_4 : decode cX1_inspect 4 = .ok (.ifCond .ne 13, 3) := by decide +kernel
theorem dX1_inspect_7 : decode cX1_inspect 7 = .ok (.new 46, 3) := by decide +kernel
theorem dX1_inspect_10 : decode cX1_inspect 10 = .ok (.dup, 1) := by decide +kernel
theorem dX1_inspect_11 : decode cX1_inspect 11 = .ok (.ldc 147, 2) := by decide +kernel
theorem dX1_inspect_13 : decode cX1_inspect 13 = .ok (.invokespecial 50, 3) := by decide +kernel
theorem dX1_inspect_16 : decode cX1_inspect 16 = .ok (.athrow, 1) := by decide +kernel
theorem dX1_inspect_17 : decode cX1_inspect 17 = .ok (.aload_n 0, 1) := by decide +kernel
theorem dX1_inspect_18 : decode cX1_inspect 18 = .ok (.getfield 29, 3) := by decide +kernel
theorem dX1_inspect_21 : decode cX1_inspect 21 = .ok (.iload_n 1, 1) := by decide +kernel
theorem dX1_inspect_22 : decode cX1_inspect 22 = .ok (.baload, 1) := by decide +kernel
theorem dX1_inspect_23 : decode cX1_inspect 23 = .ok (.ifCond .eq 13, 3) := by decide +kernel
theorem dX1_inspect_26 : decode cX1_inspect 26 = .ok (.new 64, 3) := by decide +kernel
theorem dX1_inspect_29 : decode cX1_inspect 29 = .ok (.dup, 1) := by decide +kernel
theorem dX1_inspect_30 : decode cX1_inspect 30 = .ok (.ldc 66, 2) := by decide +kernel
theorem dX1_inspect_32 : decode cX1_inspect 32 = .ok (.invokespecial 68, 3) := by decide +kernel
theorem dX1_inspect_35 : decode cX1_inspect 35 = .ok (.athrow, 1) := by decide +kernel
theorem dX1_inspect_36 : decode cX1_inspect 36 = .ok (.aload_n 0, 1) := by decide +kernel
theorem dX1_inspect_37 : decode cX1_inspect 37 = .ok (.getfield 29, 3) := by decide +kernel
theorem dX1_inspect_40 : decode cX1_inspect 40 = .ok (.iload_n 1, 1) := by decide +kernel
theorem dX1_inspect_41 : decode cX1_inspect 41 = .ok (.aload_n 0, 1) := by decide +kernel
theorem dX1_inspect_42 : decode cX1_inspect 42 = .ok (.iload_n 1, 1) := by decide +kernel
theorem dX1_inspect_43 : decode cX1_inspect 43 = .ok (.invokevirtual 149, 3) := by decide +kernel
theorem dX1_inspect_46 : decode cX1_inspect 46 = .ok (.bastore, 1) := by decide +kernel
theorem dX1_inspect_47 : decode cX1_inspect 47 = .ok (.aload_n 0, 1) := by decide +kernel
theorem dX1_inspect_48 : decode cX1_inspect 48 = .ok (.getfield 29, 3) := by decide +kernel
theorem dX1_inspect_51 : decode cX1_inspect 51 = .ok (.iload_n 1, 1) := by decide +kernel
theorem dX1_inspect_52 : decode cX1_inspect 52 = .ok (.baload, 1) := by decide +kernel
theorem dX1_inspect_53 : decode cX1_inspect 53 = .ok (.ireturn, 1) := by decide +kernel
set_option maxRecDepth 20000 in
theorem ggX1_pass_X1_isWithin : GoodIn wsX1_pass wsX1_isWithin := goodIn_r _ [10] (by decide +kernel) (by decide +kernel)
set_option maxRecDepth 20000 in
theorem gX1_pass_X1_isWithin : GoodIn wsX1_pass (va_wsS RX1 112 yX1_isWithin wsX1_isWithin) := goodIn_app (goodIn_of _ (by decide +kernel)) ggX1_pass_X1_isWithin
set_option maxRecDepth 20000 in
theorem ggX1_pass_X1_find : GoodIn wsX1_pass wsX1_find := goodIn_r _ [14, 15, 7, 8, 9, 10, 23, 24, 25, 26, 27, 28, 29, 30] (by decide +kernel) (by decide +kernel)
set_option maxRecDepth 20000 in
theorem gX1_pass_X1_find : GoodIn wsX1_pass (wsV RX1 74 RX1 yX1_find wsX1_find) := goodIn_app (goodIn_of _ (by decide +kernel)) ggX1_pass_X1_find
set_option maxRecDepth 20000 in
theorem ggX1_pass_X0_deliverIfDue : GoodIn wsX1_pass wsX0_deliverIfDue := goodIn_r _ [20, 21, 22, 31, 32, 33, 34, 35, 36, 37, 38, 39, 40] (by decide +kernel) (by decide +kernel)
set_option maxRecDepth 20000 in
theorem gX1_pass_X0_deliverIfDue : GoodIn wsX1_pass (wsV RX1 132 RX0 yX0_deliverIfDue wsX0_deliverIfDue) := goodIn_app (goodIn_of _ (by decide +kernel)) ggX1_pass_X0_deliverIfDue
theorem dX1_pass_0 : decode cX1_pass 0 = .ok (.iload_n 1, 1) := by decide +kernel
theorem dX1_pass_1 : decode cX1_pass 1 = .ok (.iconst 1, 1) := by decide +kernel
theorem dX1_pass_2 : decode cX1_pass 2 = .ok (.bipush 100, 2) := by decide +kernel
theorem dX1_pass_4 : decode cX1_pass 4 = .ok (.invokestatic 112, 3) := by decide +kernel
theorem dX1_pass_7 : decode cX1_pass 7 = .ok (.ifCond .ne 13, 3) := by decide +kernel
theorem dX1_pass_10 : decode cX1_pass 10 = .ok (.new 57, 3) := by decide +kernel
theorem dX1_pass_13 : decode cX1_pass 13 = .ok (.dup, 1) := by decide +kernel
theorem dX1_pass_14 : decode cX1_pass 14 = .ok (.ldc 118, 2) := by decide +kernel
theorem dX1_pass_16 : decode cX1_pass 16 = .ok (.invokespecial 61, 3) := by decide +kernel
theorem dX1_pass_19 : decode cX1_pass 19 = .ok (.athrow, 1) := by decide +kernel
theorem dX1_pass_20 : decode cX1_pass 20 = .ok (.aload_n 0, 1) := by decide +kernel
theorem dX1_pass_21 : decode cX1_pass 21 = .ok (.getfield 36, 3) := by decide +kernel
theorem dX1_pass_24 : decode cX1_pass 24 = .ok (.iload_n 1, 1) := by decide +kernel
theorem dX1_pass_25 : decode cX1_pass 25 = .ok (.iadd, 1) := by decide +kernel
theorem dX1_pass_26 : decode cX1_pass 26 = .ok (.sipush 500, 3) := by decide +kernel
theorem dX1_pass_29 : decode cX1_pass 29 = .ok (.if_icmp .le 13, 3) := by decide +kernel
theorem dX1_pass_32 : decode cX1_pass 32 = .ok (.new 64, 3) := by decide +kernel
theorem dX1_pass_35 : decode cX1_pass 35 = .ok (.dup, 1) := by decide +kernel
theorem dX1_pass_36 : decode cX1_pass 36 = .ok (.ldc 152, 2) := by decide +kernel
theorem dX1_pass_38 : decode cX1_pass 38 = .ok (.invokespecial 68, 3) := by decide +kernel
theorem dX1_pass_41 : decode cX1_pass 41 = .ok (.athrow, 1) := by decide +kernel
theorem dX1_pass_42 : decode cX1_pass 42 = .ok (.aload_n 0, 1) := by decide +kernel
theorem dX1_pass_43 : decode cX1_pass 43 = .ok (.dup, 1) := by decide +kernel
theorem dX1_pass_44 : decode cX1_pass 44 = .ok (.getfield 36, 3) := by decide +kernel
theorem dX1_pass_47 : decode cX1_pass 47 = .ok (.iload_n 1, 1) := by decide +kernel
theorem dX1_pass_48 : decode cX1_pass 48 = .ok (.iadd, 1) := by decide +kernel
theorem dX1_pass_49 : decode cX1_pass 49 = .ok (.putfield 36, 3) := by decide +kernel
theorem dX1_pass_52 : decode cX1_pass 52 = .ok (.iconst 0, 1) := by decide +kernel
theorem dX1_pass_53 : decode cX1_pass 53 = .ok (.istore_n 2, 1) := by decide +kernel
theorem dX1_pass_54 : decode cX1_pass 54 = .ok (.iload_n 2, 1) := by decide +kernel
theorem dX1_pass_55 : decode cX1_pass 55 = .ok (.aload_n 0, 1) := by decide +kernel
theorem dX1_pass_56 : decode cX1_pass 56 = .ok (.getfield 15, 3) := by decide +kernel
theorem dX1_pass_59 : decode cX1_pass 59 = .ok (.if_icmp .ge 27, 3) := by decide +kernel
theorem dX1_pass_62 : decode cX1_pass 62 = .ok (.aload_n 0, 1) := by decide +kernel
theorem dX1_pass_63 : decode cX1_pass 63 = .ok (.iload_n 2, 1) := by decide +kernel
theorem dX1_pass_64 : decode cX1_pass 64 = .ok (.invokevirtual 74, 3) := by decide +kernel
theorem dX1_pass_67 : decode cX1_pass 67 = .ok (.astore_n 3, 1) := by decide +kernel
theorem dX1_pass_68 : decode cX1_pass 68 = .ok (.aload_n 3, 1) := by decide +kernel
theorem dX1_pass_69 : decode cX1_pass 69 = .ok (.ifnull 11, 3) := by decide +kernel
theorem dX1_pass_72 : decode cX1_pass 72 = .ok (.aload_n 3, 1) := by decide +kernel
theorem dX1_pass_73 : decode cX1_pass 73 = .ok (.aload_n 0, 1) := by decide +kernel
theorem dX1_pass_74 : decode cX1_pass 74 = .ok (.getfield 36, 3) := by decide +kernel
theorem dX1_pass_77 : decode cX1_pass 77 = .ok (.invokevirtual 132, 3) := by decide +kernel
theorem dX1_pass_80 : decode cX1_pass 80 = .ok (.iinc 2 1, 3) := by decide +kernel
theorem dX1_pass_83 : decode cX1_pass 83 = .ok (.goto (-29), 3) := by decide +kernel
theorem dX1_pass_86 : decode cX1_pass 86 = .ok (.aload_n 0, 1) := by decide +kernel
theorem dX1_pass_87 : decode cX1_pass 87 = .ok (.getfield 36, 3) := by decide +kernel
theorem dX1_pass_90 : decode cX1_pass 90 = .ok (.ireturn, 1) := by decide +kernel
theorem dX1_day_0 : decode cX1_day 0 = .ok (.aload_n 0, 1) := by decide +kernel
theorem dX1_day_1 : decode cX1_day 1 = .ok (.getfield 36, 3) := by decide +kernel
theorem dX1_day_4 : decode cX1_day 4 = .ok (.ireturn, 1) := by decide +kernel
theorem dX1_revision_0 : decode cX1_revision 0 = .ok (.aload_n 0, 1) := by decide +kernel
theorem dX1_revision_1 : decode cX1_revision 1 = .ok (.getfield 33, 3) := by decide +kernel
theorem dX1_revision_4 : decode cX1_revision 4 = .ok (.ireturn, 1) := by decide +kernel
set_option maxRecDepth 20000 in
theorem ggX1_elementOf_X1_find : GoodIn wsX1_elementOf wsX1_find := goodIn_r _ [18, 19, 20, 21, 17, 22, 46, 47, 48, 49, 50, 51, 52, 53] (by decide +kernel) (by decide +kernel)
set_option maxRecDepth 20000 in
theorem gX1_elementOf_X1_find : GoodIn wsX1_elementOf (wsV RX1 74 RX1 yX1_find wsX1_find) := goodIn_app (goodIn_of _ (by decide +kernel)) ggX1_elementOf_X1_find
set_option maxRecDepth 20000 in
theorem ggX1_elementOf_X0_cells : GoodIn wsX1_elementOf wsX0_cells := goodIn_r _ [27, 28, 29, 30, 31, 32, 33, 34, 35, 36, 37, 38, 39, 40, 41, 42, 43, 44, 45] (by decide +kernel) (by decide +kernel)
set_option maxRecDepth 20000 in
theorem gX1_elementOf_X0_cells : GoodIn wsX1_elementOf (wsV RX1 175 RX0 yX0_cells wsX0_cells) := goodIn_app (goodIn_of _ (by decide +kernel)) ggX1_elementOf_X0_cells
theorem dX1_elementOf_0 : decode cX1_elementOf 0 = .ok (.aload_n 0, 1) := by decide +kernel
theorem dX1_elementOf_1 : decode cX1_elementOf 1 = .ok (.iload_n 1, 1) := by decide +kernel
theorem dX1_elementOf_2 : decode cX1_elementOf 2 = .ok (.invokevirtual 74, 3) := by decide +kernel
theorem dX1_elementOf_5 : decode cX1_elementOf 5 = .ok (.astore_n 3, 1) := by decide +kernel
theorem dX1_elementOf_6 : decode cX1_elementOf 6 = .ok (.aload_n 3, 1) := by decide +kernel
theorem dX1_elementOf_7 : decode cX1_elementOf 7 = .ok (.ifnonnull 13, 3) := by decide +kernel
theorem dX1_elementOf_10 : decode cX1_elementOf 10 = .ok (.new 46, 3) := by decide +kernel
theorem dX1_elementOf_13 : decode cX1_elementOf 13 = .ok (.dup, 1) := by decide +kernel
theorem dX1_elementOf_14 : decode cX1_elementOf 14 = .ok (.ldc 120, 2) := by decide +kernel
theorem dX1_elementOf_16 : decode cX1_elementOf 16 = .ok (.invokespecial 50, 3) := by decide +kernel
theorem dX1_elementOf_19 : decode cX1_elementOf 19 = .ok (.athrow, 1) := by decide +kernel
theorem dX1_elementOf_20 : decode cX1_elementOf 20 = .ok (.iload_n 2, 1) := by decide +kernel
theorem dX1_elementOf_21 : decode cX1_elementOf 21 = .ok (.tableswitch 105 0 9 #[55, 60, 65, 70, 75, 80, 85, 90, 95, 100], 55) := by decide +kernel
theorem dX1_elementOf_76 : decode cX1_elementOf 76 = .ok (.aload_n 3, 1) := by decide +kernel
theorem dX1_elementOf_77 : decode cX1_elementOf 77 = .ok (.getfield 122, 3) := by decide +kernel
theorem dX1_elementOf_80 : decode cX1_elementOf 80 = .ok (.ireturn, 1) := by decide +kernel
theorem dX1_elementOf_81 : decode cX1_elementOf 81 = .ok (.aload_n 3, 1) := by decide +kernel
theorem dX1_elementOf_82 : decode cX1_elementOf 82 = .ok (.getfield 154, 3) := by decide +kernel
theorem dX1_elementOf_85 : decode cX1_elementOf 85 = .ok (.ireturn, 1) := by decide +kernel
theorem dX1_elementOf_86 : decode cX1_elementOf 86 = .ok (.aload_n 3, 1) := by decide +kernel
theorem dX1_elementOf_87 : decode cX1_elementOf 87 = .ok (.getfield 157, 3) := by decide +kernel
theorem dX1_elementOf_90 : decode cX1_elementOf 90 = .ok (.ireturn, 1) := by decide +kernel
theorem dX1_elementOf_91 : decode cX1_elementOf 91 = .ok (.aload_n 3, 1) := by decide +kernel
theorem dX1_elementOf_92 : decode cX1_elementOf 92 = .ok (.getfield 160, 3) := by decide +kernel
theorem dX1_elementOf_95 : decode cX1_elementOf 95 = .ok (.ireturn, 1) := by decide +kernel
theorem dX1_elementOf_96 : decode cX1_elementOf 96 = .ok (.aload_n 3, 1) := by decide +kernel
theorem dX1_elementOf_97 : decode cX1_elementOf 97 = .ok (.getfield 163, 3) := by decide +kernel
theorem dX1_elementOf_100 : decode cX1_elementOf 100 = .ok (.ireturn, 1) := by decide +kernel
theorem dX1_elementOf_101 : decode cX1_elementOf 101 = .ok (.aload_n 3, 1) := by decide +kernel
theorem dX1_elementOf_102 : decode cX1_elementOf 102 = .ok (.getfield 166, 3) := by decide +kernel
theorem dX1_elementOf_105 : decode cX1_elementOf 105 = .ok (.ireturn, 1) := by decide +kernel
theorem dX1_elementOf_106 : decode cX1_elementOf 106 = .ok (.aload_n 3, 1) := by decide +kernel
theorem dX1_elementOf_107 : decode cX1_elementOf 107 = .ok (.getfield 93, 3) := by decide +kernel
theorem dX1_elementOf_110 : decode cX1_elementOf 110 = .ok (.ireturn, 1) := by decide +kernel
theorem dX1_elementOf_111 : decode cX1_elementOf 111 = .ok (.aload_n 3, 1) := by decide +kernel
theorem dX1_elementOf_112 : decode cX1_elementOf 112 = .ok (.getfield 169, 3) := by decide +kernel
theorem dX1_elementOf_115 : decode cX1_elementOf 115 = .ok (.ireturn, 1) := by decide +kernel
theorem dX1_elementOf_116 : decode cX1_elementOf 116 = .ok (.aload_n 3, 1) := by decide +kernel
theorem dX1_elementOf_117 : decode cX1_elementOf 117 = .ok (.getfield 172, 3) := by decide +kernel
theorem dX1_elementOf_120 : decode cX1_elementOf 120 = .ok (.ireturn, 1) := by decide +kernel
theorem dX1_elementOf_121 : decode cX1_elementOf 121 = .ok (.aload_n 3, 1) := by decide +kernel
theorem dX1_elementOf_122 : decode cX1_elementOf 122 = .ok (.invokevirtual 175, 3) := by decide +kernel
theorem dX1_elementOf_125 : decode cX1_elementOf 125 = .ok (.ireturn, 1) := by decide +kernel
theorem dX1_elementOf_126 : decode cX1_elementOf 126 = .ok (.new 57, 3) := by decide +kernel
theorem dX1_elementOf_129 : decode cX1_elementOf 129 = .ok (.dup, 1) := by decide +kernel
theorem dX1_elementOf_130 : decode cX1_elementOf 130 = .ok (.ldc 179, 2) := by decide +kernel
theorem dX1_elementOf_132 : decode cX1_elementOf 132 = .ok (.invokespecial 61, 3) := by decide +kernel
theorem dX1_elementOf_135 : decode cX1_elementOf 135 = .ok (.athrow, 1) := by decide +kernel
set_option maxRecDepth 20000 in
theorem ggX1_clash_X1_find : GoodIn wsX1_clash wsX1_find := goodIn_r _ [7, 8, 9, 10, 6, 11, 50, 51, 52, 53, 54, 55, 56, 57] (by decide +kernel) (by decide +kernel)
set_option maxRecDepth 20000 in
theorem gX1_clash_X1_find : GoodIn wsX1_clash (wsV RX1 74 RX1 yX1_find wsX1_find) := goodIn_app (goodIn_of _ (by decide +kernel)) ggX1_clash_X1_find
set_option maxRecDepth 20000 in
theorem ggX1_clash_X1_isClashingPair : GoodIn wsX1_clash wsX1_isClashingPair := goodIn_r _ [15, 16, 17, 3, 4, 5, 6, 7, 8, 9, 10, 11, 18, 19, 20, 21, 22, 23, 24, 25, 26, 27, 28, 29, 30, 31, 32, 33, 34, 35, 36, 37, 38, 39, 40, 41, 42, 43, 44, 45, 46, 47, 48, 49, 58, 59, 60, 61, 62, 63, 64, 65, 66, 67, 50, 51, 52, 53, 54, 55, 56, 57] (by decide +kernel) (by decide +kernel)
set_option maxRecDepth 20000 in
theorem gX1_clash_X1_isClashingPair : GoodIn wsX1_clash (wsV RX1 181 RX1 yX1_isClashingPair wsX1_isClashingPair) := goodIn_app (goodIn_of _ (by decide +kernel)) ggX1_clash_X1_isClashingPair
theorem dX1_clash_0 : decode cX1_clash 0 = .ok (.aload_n 0, 1) := by decide +kernel
theorem dX1_clash_1 : decode cX1_clash 1 = .ok (.iload_n 1, 1) := by decide +kernel
theorem dX1_clash_2 : decode cX1_clash 2 = .ok (.invokevirtual 74, 3) := by decide +kernel
theorem dX1_clash_5 : decode cX1_clash 5 = .ok (.ifnull 11, 3) := by decide +kernel
theorem dX1_clash_8 : decode cX1_clash 8 = .ok (.aload_n 0, 1) := by decide +kernel
theorem dX1_clash_9 : decode cX1_clash 9 = .ok (.iload_n 2, 1) := by decide +kernel
theorem dX1_clash_10 : decode cX1_clash 10 = .ok (.invokevirtual 74, 3) := by decide +kernel
theorem dX1_clash_13 : decode cX1_clash 13 = .ok (.ifnonnull 13, 3) := by decide +kernel
theorem dX1_clash_16 : decode cX1_clash 16 = .ok (.new 46, 3) := by decide +kernel
theorem dX1_clash_19 : decode cX1_clash 19 = .ok (.dup, 1) := by decide +kernel
theorem dX1_clash_20 : decode cX1_clash 20 = .ok (.ldc 120, 2) := by decide +kernel
theorem dX1_clash_22 : decode cX1_clash 22 = .ok (.invokespecial 50, 3) := by decide +kernel
theorem dX1_clash_25 : decode cX1_clash 25 = .ok (.athrow, 1) := by decide +kernel
theorem dX1_clash_26 : decode cX1_clash 26 = .ok (.aload_n 0, 1) := by decide +kernel
theorem dX1_clash_27 : decode cX1_clash 27 = .ok (.iload_n 1, 1) := by decide +kernel
theorem dX1_clash_28 : decode cX1_clash 28 = .ok (.iload_n 2, 1) := by decide +kernel
theorem dX1_clash_29 : decode cX1_clash 29 = .ok (.invokevirtual 181, 3) := by decide +kernel
theorem dX1_clash_32 : decode cX1_clash 32 = .ok (.ireturn, 1) := by decide +kernel
set_option maxRecDepth 20000 in
theorem ggX1_clashes_X1_isStorey : GoodIn wsX1_clashes wsX1_isStorey := goodIn_r _ [7, 8, 9, 6, 10] (by decide +kernel) (by decide +kernel)
set_option maxRecDepth 20000 in
theorem gX1_clashes_X1_isStorey : GoodIn wsX1_clashes (va_wsS RX1 43 yX1_isStorey wsX1_isStorey) := goodIn_app (goodIn_of _ (by decide +kernel)) ggX1_clashes_X1_isStorey
set_option maxRecDepth 20000 in
theorem ggX1_clashes_X1_isOnStorey : GoodIn wsX1_clashes wsX1_isOnStorey := goodIn_r _ [14, 15, 16, 17, 18, 6, 19, 20, 8, 9, 10, 70, 71, 72, 73, 74, 75, 76, 77, 78, 79, 62, 63, 64, 65, 66, 67, 68, 69] (by decide +kernel) (by decide +kernel)
set_option maxRecDepth 20000 in
theorem gX1_clashes_X1_isOnStorey : GoodIn wsX1_clashes (wsV RX1 184 RX1 yX1_isOnStorey wsX1_isOnStorey) := goodIn_app (goodIn_of _ (by decide +kernel)) ggX1_clashes_X1_isOnStorey
set_option maxRecDepth 20000 in
theorem ggX1_clashes_X1_clashesWithEarlier : GoodIn wsX1_clashes wsX1_clashesWithEarlier := goodIn_r _ [24, 25, 26, 27, 6, 28, 15, 29, 16, 17, 18, 19, 20, 8, 9, 10, 30, 31, 32, 33, 34, 35, 36, 37, 38, 39, 40, 41, 42, 43, 44, 45, 46, 47, 48, 49, 50, 51, 52, 53, 54, 55, 56, 57, 58, 59, 60, 61, 70, 71, 72, 73, 74, 75, 76, 77, 78, 79, 62, 63, 64, 65, 66, 67, 68, 69] (by decide +kernel) (by decide +kernel)
set_option maxRecDepth 20000 in
theorem gX1_clashes_X1_clashesWithEarlier : GoodIn wsX1_clashes (wsV RX1 187 RX1 yX1_clashesWithEarlier wsX1_clashesWithEarlier) := goodIn_app (goodIn_of _ (by decide +kernel)) ggX1_clashes_X1_clashesWithEarlier
theorem dX1_clashes_0 : decode cX1_clashes 0 = .ok (.iload_n 1, 1) := by decide +kernel
theorem dX1_clashes_1 : decode cX1_clashes 1 = .ok (.invokestatic 43, 3) := by decide +kernel
theorem dX1_clashes_4 : decode cX1_clashes 4 = .ok (.ifCond .ne 13, 3) := by decide +kernel
theorem dX1_clashes_7 : decode cX1_clashes 7 = .ok (.new 46, 3) := by decide +kernel
theorem dX1_clashes_10 : decode cX1_clashes 10 = .ok (.dup, 1) := by decide +kernel
theorem dX1_clashes_11 : decode cX1_clashes 11 = .ok (.ldc 147, 2) := by decide +kernel
theorem dX1_clashes_13 : decode cX1_clashes 13 = .ok (.invokespecial 50, 3) := by decide +kernel
theorem dX1_clashes_16 : decode cX1_clashes 16 = .ok (.athrow, 1) := by decide +kernel
theorem dX1_clashes_17 : decode cX1_clashes 17 = .ok (.iconst 0, 1) := by decide +kernel
theorem dX1_clashes_18 : decode cX1_clashes 18 = .ok (.istore_n 2, 1) := by decide +kernel
theorem dX1_clashes_19 : decode cX1_clashes 19 = .ok (.iconst 0, 1) := by decide +kernel
theorem dX1_clashes_20 : decode cX1_clashes 20 = .ok (.istore_n 3, 1) := by decide +kernel
theorem dX1_clashes_21 : decode cX1_clashes 21 = .ok (.iload_n 3, 1) := by decide +kernel
theorem dX1_clashes_22 : decode cX1_clashes 22 = .ok (.aload_n 0, 1) := by decide +kernel
theorem dX1_clashes_23 : decode cX1_clashes 23 = .ok (.getfield 15, 3) := by decide +kernel
theorem dX1_clashes_26 : decode cX1_clashes 26 = .ok (.if_icmp .ge 26, 3) := by decide +kernel
theorem dX1_clashes_29 : decode cX1_clashes 29 = .ok (.aload_n 0, 1) := by decide +kernel
theorem dX1_clashes_30 : decode cX1_clashes 30 = .ok (.iload_n 3, 1) := by decide +kernel
theorem dX1_clashes_31 : decode cX1_clashes 31 = .ok (.iload_n 1, 1) := by decide +kernel
theorem dX1_clashes_32 : decode cX1_clashes 32 = .ok (.invokevirtual 184, 3) := by decide +kernel
theorem dX1_clashes_35 : decode cX1_clashes 35 = .ok (.ifCond .eq 11, 3) := by decide +kernel
theorem dX1_clashes_38 : decode cX1_clashes 38 = .ok (.iload_n 2, 1) := by decide +kernel
theorem dX1_clashes_39 : decode cX1_clashes 39 = .ok (.aload_n 0, 1) := by decide +kernel
theorem dX1_clashes_40 : decode cX1_clashes 40 = .ok (.iload_n 3, 1) := by decide +kernel
theorem dX1_clashes_41 : decode cX1_clashes 41 = .ok (.invokevirtual 187, 3) := by decide +kernel
theorem dX1_clashes_44 : decode cX1_clashes 44 = .ok (.iadd, 1) := by decide +kernel
theorem dX1_clashes_45 : decode cX1_clashes 45 = .ok (.istore_n 2, 1) := by decide +kernel
theorem dX1_clashes_46 : decode cX1_clashes 46 = .ok (.iinc 3 1, 3) := by decide +kernel
theorem dX1_clashes_49 : decode cX1_clashes 49 = .ok (.goto (-28), 3) := by decide +kernel
theorem dX1_clashes_52 : decode cX1_clashes 52 = .ok (.iload_n 2, 1) := by decide +kernel
theorem dX1_clashes_53 : decode cX1_clashes 53 = .ok (.ireturn, 1) := by decide +kernel
set_option maxRecDepth 20000 in
theorem ggX1_isStopped_X1_isKind : GoodIn wsX1_isStopped wsX1_isKind := goodIn_r _ [9, 10, 11, 8, 12] (by decide +kernel) (by decide +kernel)
set_option maxRecDepth 20000 in
theorem gX1_isStopped_X1_isKind : GoodIn wsX1_isStopped (va_wsS RX1 39 yX1_isKind wsX1_isKind) := goodIn_app (goodIn_of _ (by decide +kernel)) ggX1_isStopped_X1_isKind
set_option maxRecDepth 20000 in
theorem ggX1_isStopped_X1_isStorey : GoodIn wsX1_isStopped wsX1_isStorey := goodIn_r _ [15, 10, 11, 8, 12] (by decide +kernel) (by decide +kernel)
set_option maxRecDepth 20000 in
theorem gX1_isStopped_X1_isStorey : GoodIn wsX1_isStopped (va_wsS RX1 43 yX1_isStorey wsX1_isStorey) := goodIn_app (goodIn_of _ (by decide +kernel)) ggX1_isStopped_X1_isStorey
set_option maxRecDepth 20000 in
theorem ggX1_isStopped_X1_find : GoodIn wsX1_isStopped wsX1_find := goodIn_r _ [19, 20, 10, 11, 8, 12, 58, 59, 60, 61, 62, 63, 64, 65] (by decide +kernel) (by decide +kernel)
set_option maxRecDepth 20000 in
theorem gX1_isStopped_X1_find : GoodIn wsX1_isStopped (wsV RX1 74 RX1 yX1_find wsX1_find) := goodIn_app (goodIn_of _ (by decide +kernel)) ggX1_isStopped_X1_find
set_option maxRecDepth 20000 in
theorem ggX1_isStopped_X1_clashesWithAny : GoodIn wsX1_isStopped wsX1_clashesWithAny := goodIn_r _ [24, 3, 25, 26, 27, 8, 28, 5, 4, 16, 17, 18, 19, 20, 10, 11, 12, 29, 30, 31, 32, 33, 34, 35, 36, 37, 38, 39, 40, 41, 42, 43, 44, 45, 46, 47, 48, 49, 50, 51, 52, 53, 54, 55, 56, 57, 6, 7, 9, 58, 59, 60, 61, 62, 63, 64, 65, 66, 67, 68, 69, 70, 71, 72, 73, 74, 75] (by decide +kernel) (by decide +kernel)
set_option maxRecDepth 20000 in
theorem gX1_isStopped_X1_clashesWithAny : GoodIn wsX1_isStopped (wsV RX1 144 RX1 yX1_clashesWithAny wsX1_clashesWithAny) := goodIn_app (goodIn_of _ (by decide +kernel)) ggX1_isStopped_X1_clashesWithAny
theorem dX1_isStopped_0 : decode cX1_isStopped 0 = .ok (.iload_n 1, 1) := by decide +kernel
theorem dX1_isStopped_1 : decode cX1_isStopped 1 = .ok (.invokestatic 39, 3) := by decide +kernel
theorem dX1_isStopped_4 : decode cX1_isStopped 4 = .ok (.ifCond .eq 10, 3) := by decide +kernel
theorem dX1_isStopped_7 : decode cX1_isStopped 7 = .ok (.iload_n 2, 1) := by decide +kernel
theorem dX1_isStopped_8 : decode cX1_isStopped 8 = .ok (.invokestatic 43, 3) := by decide +kernel
theorem dX1_isStopped_11 : decode cX1_isStopped 11 = .ok (.ifCond .ne 13, 3) := by decide +kernel
theorem dX1_isStopped_14 : decode cX1_isStopped 14 = .ok (.new 46, 3) := by decide +kernel
theorem dX1_isStopped_17 : decode cX1_isStopped 17 = .ok (.dup, 1) := by decide +kernel
theorem dX1_isStopped_18 : decode cX1_isStopped 18 = .ok (.ldc 48, 2) := by decide +kernel
theorem dX1_isStopped_20 : decode cX1_isStopped 20 = .ok (.invokespecial 50, 3) := by decide +kernel
theorem dX1_isStopped_23 : decode cX1_isStopped 23 = .ok (.athrow, 1) := by decide +kernel
theorem dX1_isStopped_24 : decode cX1_isStopped 24 = .ok (.iconst 0, 1) := by decide +kernel
theorem dX1_isStopped_25 : decode cX1_isStopped 25 = .ok (.istore_n 3, 1) := by decide +kernel
theorem dX1_isStopped_26 : decode cX1_isStopped 26 = .ok (.iload_n 3, 1) := by decide +kernel
theorem dX1_isStopped_27 : decode cX1_isStopped 27 = .ok (.aload_n 0, 1) := by decide +kernel
theorem dX1_isStopped_28 : decode cX1_isStopped 28 = .ok (.getfield 15, 3) := by decide +kernel
theorem dX1_isStopped_31 : decode cX1_isStopped 31 = .ok (.if_icmp .ge 49, 3) := by decide +kernel
theorem dX1_isStopped_34 : decode cX1_isStopped 34 = .ok (.aload_n 0, 1) := by decide +kernel
theorem dX1_isStopped_35 : decode cX1_isStopped 35 = .ok (.iload_n 3, 1) := by decide +kernel
theorem dX1_isStopped_36 : decode cX1_isStopped 36 = .ok (.invokevirtual 74, 3) := by decide +kernel
theorem dX1_isStopped_39 : decode cX1_isStopped 39 = .ok (.astore 4, 2) := by decide +kernel
theorem dX1_isStopped_41 : decode cX1_isStopped 41 = .ok (.aload 4, 2) := by decide +kernel
theorem dX1_isStopped_43 : decode cX1_isStopped 43 = .ok (.ifnull 31, 3) := by decide +kernel
theorem dX1_isStopped_46 : decode cX1_isStopped 46 = .ok (.aload 4, 2) := by decide +kernel
theorem dX1_isStopped_48 : decode cX1_isStopped 48 = .ok (.getfield 122, 3) := by decide +kernel
theorem dX1_isStopped_51 : decode cX1_isStopped 51 = .ok (.iload_n 1, 1) := by decide +kernel
theorem dX1_isStopped_52 : decode cX1_isStopped 52 = .ok (.if_icmp .ne 22, 3) := by decide +kernel
theorem dX1_isStopped_55 : decode cX1_isStopped 55 = .ok (.aload 4, 2) := by decide +kernel
theorem dX1_isStopped_57 : decode cX1_isStopped 57 = .ok (.getfield 154, 3) := by decide +kernel
theorem dX1_isStopped_60 : decode cX1_isStopped 60 = .ok (.iload_n 2, 1) := by decide +kernel
theorem dX1_isStopped_61 : decode cX1_isStopped 61 = .ok (.if_icmp .ne 13, 3) := by decide +kernel
theorem dX1_isStopped_64 : decode cX1_isStopped 64 = .ok (.aload_n 0, 1) := by decide +kernel
theorem dX1_isStopped_65 : decode cX1_isStopped 65 = .ok (.iload_n 3, 1) := by decide +kernel
theorem dX1_isStopped_66 : decode cX1_isStopped 66 = .ok (.invokevirtual 144, 3) := by decide +kernel
theorem dX1_isStopped_69 : decode cX1_isStopped 69 = .ok (.ifCond .eq 5, 3) := by decide +kernel
theorem dX1_isStopped_72 : decode cX1_isStopped 72 = .ok (.iconst 1, 1) := by decide +kernel
theorem dX1_isStopped_73 : decode cX1_isStopped 73 = .ok (.ireturn, 1) := by decide +kernel
theorem dX1_isStopped_74 : decode cX1_isStopped 74 = .ok (.iinc 3 1, 3) := by decide +kernel
theorem dX1_isStopped_77 : decode cX1_isStopped 77 = .ok (.goto (-51), 3) := by decide +kernel
theorem dX1_isStopped_80 : decode cX1_isStopped 80 = .ok (.iconst 0, 1) := by decide +kernel
theorem dX1_isStopped_81 : decode cX1_isStopped 81 = .ok (.ireturn, 1) := by decide +kernel
set_option maxRecDepth 20000 in
theorem ggX1_parts_X1_isKind : GoodIn wsX1_parts wsX1_isKind := goodIn_r _ [6, 7, 8, 5, 9] (by decide +kernel) (by decide +kernel)
set_option maxRecDepth 20000 in
theorem gX1_parts_X1_isKind : GoodIn wsX1_parts (va_wsS RX1 39 yX1_isKind wsX1_isKind) := goodIn_app (goodIn_of _ (by decide +kernel)) ggX1_parts_X1_isKind
set_option maxRecDepth 20000 in
theorem ggX1_parts_X1_partsInStates : GoodIn wsX1_parts wsX1_partsInStates := goodIn_r _ [13, 14, 15, 16, 17, 18, 19, 5, 20, 21, 7, 8, 9, 22, 23, 24, 25, 26, 3, 4, 6, 27, 28, 29, 30, 31, 32, 33, 34, 35, 36, 37, 38, 39, 40, 41, 42, 43, 44, 45, 46, 47, 48, 49, 50, 51, 52, 53, 54, 55, 56, 57] (by decide +kernel) (by decide +kernel)
set_option maxRecDepth 20000 in
theorem gX1_parts_X1_partsInStates : GoodIn wsX1_parts (wsV RX1 190 RX1 yX1_partsInStates wsX1_partsInStates) := goodIn_app (goodIn_of _ (by decide +kernel)) ggX1_parts_X1_partsInStates
theorem dX1_parts_0 : decode cX1_parts 0 = .ok (.iload_n 1, 1) := by decide +kernel
theorem dX1_parts_1 : decode cX1_parts 1 = .ok (.invokestatic 39, 3) := by decide +kernel
theorem dX1_parts_4 : decode cX1_parts 4 = .ok (.ifCond .ne 13, 3) := by decide +kernel
theorem dX1_parts_7 : decode cX1_parts 7 = .ok (.new 46, 3) := by decide +kernel
theorem dX1_parts_10 : decode cX1_parts 10 = .ok (.dup, 1) := by decide +kernel
theorem dX1_parts_11 : decode cX1_parts 11 = .ok (.ldc 110, 2) := by decide +kernel
theorem dX1_parts_13 : decode cX1_parts 13 = .ok (.invokespecial 50, 3) := by decide +kernel
theorem dX1_parts_16 : decode cX1_parts 16 = .ok (.athrow, 1) := by decide +kernel
theorem dX1_parts_17 : decode cX1_parts 17 = .ok (.aload_n 0, 1) := by decide +kernel
theorem dX1_parts_18 : decode cX1_parts 18 = .ok (.iload_n 1, 1) := by decide +kernel
theorem dX1_parts_19 : decode cX1_parts 19 = .ok (.iconst 0, 1) := by decide +kernel
theorem dX1_parts_20 : decode cX1_parts 20 = .ok (.iconst 3, 1) := by decide +kernel
theorem dX1_parts_21 : decode cX1_parts 21 = .ok (.invokevirtual 190, 3) := by decide +kernel
theorem dX1_parts_24 : decode cX1_parts 24 = .ok (.ireturn, 1) := by decide +kernel
set_option maxRecDepth 20000 in
theorem ggX1_partsAnew_X1_isKind : GoodIn wsX1_partsAnew wsX1_isKind := goodIn_r _ [9, 10, 11, 8, 12] (by decide +kernel) (by decide +kernel)
set_option maxRecDepth 20000 in
theorem gX1_partsAnew_X1_isKind : GoodIn wsX1_partsAnew (va_wsS RX1 39 yX1_isKind wsX1_isKind) := goodIn_app (goodIn_of _ (by decide +kernel)) ggX1_partsAnew_X1_isKind
set_option maxRecDepth 20000 in
theorem ggX1_partsAnew_X1_find : GoodIn wsX1_partsAnew wsX1_find := goodIn_r _ [16, 17, 10, 11, 8, 12, 43, 44, 45, 46, 47, 48, 49, 50] (by decide +kernel) (by decide +kernel)
set_option maxRecDepth 20000 in
theorem gX1_partsAnew_X1_find : GoodIn wsX1_partsAnew (wsV RX1 74 RX1 yX1_find wsX1_find) := goodIn_app (goodIn_of _ (by decide +kernel)) ggX1_partsAnew_X1_find
set_option maxRecDepth 20000 in
theorem ggX1_partsAnew_X0_isThere : GoodIn wsX1_partsAnew wsX0_isThere := goodIn_r _ [22, 23, 51, 52, 53, 54, 55, 56, 57, 58, 59, 60] (by decide +kernel) (by decide +kernel)
set_option maxRecDepth 20000 in
theorem gX1_partsAnew_X0_isThere : GoodIn wsX1_partsAnew (wsV RX1 194 RX0 yX0_isThere wsX0_isThere) := goodIn_app (goodIn_of _ (by decide +kernel)) ggX1_partsAnew_X0_isThere
set_option maxRecDepth 20000 in
theorem ggX1_partsAnew_X0_partsCellByCell : GoodIn wsX1_partsAnew wsX0_partsCellByCell := goodIn_r _ [27, 28, 29, 30, 21, 31, 32, 33, 34, 35, 36, 37, 38, 39, 40, 41, 42, 11, 8, 12, 51, 52, 53, 54, 55, 56, 57, 58, 59, 60] (by decide +kernel) (by decide +kernel)
set_option maxRecDepth 20000 in
theorem gX1_partsAnew_X0_partsCellByCell : GoodIn wsX1_partsAnew (wsV RX1 198 RX0 yX0_partsCellByCell wsX0_partsCellByCell) := goodIn_app (goodIn_of _ (by decide +kernel)) ggX1_partsAnew_X0_partsCellByCell
theorem dX1_partsAnew_0 : decode cX1_partsAnew 0 = .ok (.iload_n 1, 1) := by decide +kernel
theorem dX1_partsAnew_1 : decode cX1_partsAnew 1 = .ok (.invokestatic 39, 3) := by decide +kernel
theorem dX1_partsAnew_4 : decode cX1_partsAnew 4 = .ok (.ifCond .ne 13, 3) := by decide +kernel
theorem dX1_partsAnew_7 : decode cX1_partsAnew 7 = .ok (.new 46, 3) := by decide +kernel
theorem dX1_partsAnew_10 : decode cX1_partsAnew 10 = .ok (.dup, 1) := by decide +kernel
theorem dX1_partsAnew_11 : decode cX1_partsAnew 11 = .ok (.ldc 110, 2) := by decide +kernel
theorem dX1_partsAnew_13 : decode cX1_partsAnew 13 = .ok (.invokespecial 50, 3) := by decide +kernel
theorem dX1_partsAnew_16 : decode cX1_partsAnew 16 = .ok (.athrow, 1) := by decide +kernel
theorem dX1_partsAnew_17 : decode cX1_partsAnew 17 = .ok (.iconst 0, 1) := by decide +kernel
theorem dX1_partsAnew_18 : decode cX1_partsAnew 18 = .ok (.istore_n 2, 1) := by decide +kernel
theorem dX1_partsAnew_19 : decode cX1_partsAnew 19 = .ok (.iconst 0, 1) := by decide +kernel
theorem dX1_partsAnew_20 : decode cX1_partsAnew 20 = .ok (.istore_n 3, 1) := by decide +kernel
theorem dX1_partsAnew_21 : decode cX1_partsAnew 21 = .ok (.iload_n 3, 1) := by decide +kernel
theorem dX1_partsAnew_22 : decode cX1_partsAnew 22 = .ok (.aload_n 0, 1) := by decide +kernel
theorem dX1_partsAnew_23 : decode cX1_partsAnew 23 = .ok (.getfield 15, 3) := by decide +kernel
theorem dX1_partsAnew_26 : decode cX1_partsAnew 26 = .ok (.if_icmp .ge 52, 3) := by decide +kernel
theorem dX1_partsAnew_29 : decode cX1_partsAnew 29 = .ok (.aload_n 0, 1) := by decide +kernel
theorem dX1_partsAnew_30 : decode cX1_partsAnew 30 = .ok (.iload_n 3, 1) := by decide +kernel
theorem dX1_partsAnew_31 : decode cX1_partsAnew 31 = .ok (.invokevirtual 74, 3) := by decide +kernel
theorem dX1_partsAnew_34 : decode cX1_partsAnew 34 = .ok (.astore 4, 2) := by decide +kernel
theorem dX1_partsAnew_36 : decode cX1_partsAnew 36 = .ok (.aload 4, 2) := by decide +kernel
theorem dX1_partsAnew_38 : decode cX1_partsAnew 38 = .ok (.ifnull 34, 3) := by decide +kernel
theorem dX1_partsAnew_41 : decode cX1_partsAnew 41 = .ok (.aload 4, 2) := by decide +kernel
theorem dX1_partsAnew_43 : decode cX1_partsAnew 43 = .ok (.getfield 122, 3) := by decide +kernel
theorem dX1_partsAnew_46 : decode cX1_partsAnew 46 = .ok (.iload_n 1, 1) := by decide +kernel
theorem dX1_partsAnew_47 : decode cX1_partsAnew 47 = .ok (.if_icmp .ne 25, 3) := by decide +kernel
theorem dX1_partsAnew_50 : decode cX1_partsAnew 50 = .ok (.aload 4, 2) := by decide +kernel
theorem dX1_partsAnew_52 : decode cX1_partsAnew 52 = .ok (.invokevirtual 194, 3) := by decide +kernel
theorem dX1_partsAnew_55 : decode cX1_partsAnew 55 = .ok (.ifCond .eq 17, 3) := by decide +kernel
theorem dX1_partsAnew_58 : decode cX1_partsAnew 58 = .ok (.iload_n 2, 1) := by decide +kernel
theorem dX1_partsAnew_59 : decode cX1_partsAnew 59 = .ok (.aload 4, 2) := by decide +kernel
theorem dX1_partsAnew_61 : decode cX1_partsAnew 61 = .ok (.aload_n 0, 1) := by decide +kernel
theorem dX1_partsAnew_62 : decode cX1_partsAnew 62 = .ok (.getfield 23, 3) := by decide +kernel
theorem dX1_partsAnew_65 : decode cX1_partsAnew 65 = .ok (.iload_n 1, 1) := by decide +kernel
theorem dX1_partsAnew_66 : decode cX1_partsAnew 66 = .ok (.iaload, 1) := by decide +kernel
theorem dX1_partsAnew_67 : decode cX1_partsAnew 67 = .ok (.invokevirtual 198, 3) := by decide +kernel
theorem dX1_partsAnew_70 : decode cX1_partsAnew 70 = .ok (.iadd, 1) := by decide +kernel
theorem dX1_partsAnew_71 : decode cX1_partsAnew 71 = .ok (.istore_n 2, 1) := by decide +kernel
theorem dX1_partsAnew_72 : decode cX1_partsAnew 72 = .ok (.iinc 3 1, 3) := by decide +kernel
theorem dX1_partsAnew_75 : decode cX1_partsAnew 75 = .ok (.goto (-54), 3) := by decide +kernel
theorem dX1_partsAnew_78 : decode cX1_partsAnew 78 = .ok (.iload_n 2, 1) := by decide +kernel
theorem dX1_partsAnew_79 : decode cX1_partsAnew 79 = .ok (.ireturn, 1) := by decide +kernel
set_option maxRecDepth 20000 in
theorem ggX1_ordered_X1_isKind : GoodIn wsX1_ordered wsX1_isKind := goodIn_r _ [6, 7, 8, 5, 9] (by decide +kernel) (by decide +kernel)
set_option maxRecDepth 20000 in
theorem gX1_ordered_X1_isKind : GoodIn wsX1_ordered (va_wsS RX1 39 yX1_isKind wsX1_isKind) := goodIn_app (goodIn_of _ (by decide +kernel)) ggX1_ordered_X1_isKind
set_option maxRecDepth 20000 in
theorem ggX1_ordered_X1_partsInStates : GoodIn wsX1_ordered wsX1_partsInStates := goodIn_r _ [13, 14, 15, 16, 17, 18, 19, 5, 20, 21, 7, 8, 9, 22, 23, 24, 25, 26, 3, 4, 6, 27, 28, 29, 30, 31, 32, 33, 34, 35, 36, 37, 38, 39, 40, 41, 42, 43, 44, 45, 46, 47, 48, 49, 50, 51, 52, 53, 54, 55, 56, 57] (by decide +kernel) (by decide +kernel)
set_option maxRecDepth 20000 in
theorem gX1_ordered_X1_partsInStates : GoodIn wsX1_ordered (wsV RX1 190 RX1 yX1_partsInStates wsX1_partsInStates) := goodIn_app (goodIn_of _ (by decide +kernel)) ggX1_ordered_X1_partsInStates
theorem dX1_ordered_0 : decode cX1_ordered 0 = .ok (.iload_n 1, 1) := by decide +kernel
theorem dX1_ordered_1 : decode cX1_ordered 1 = .ok (.invokestatic 39, 3) := by decide +kernel
theorem dX1_ordered_4 : decode cX1_ordered 4 = .ok (.ifCond .ne 13, 3) := by decide +kernel
theorem dX1_ordered_7 : decode cX1_ordered 7 = .ok (.new 46, 3) := by decide +kernel
theorem dX1_ordered_10 : decode cX1_ordered 10 = .ok (.dup, 1) := by decide +kernel
theorem dX1_ordered_11 : decode cX1_ordered 11 = .ok (.ldc 110, 2) := by decide +kernel
theorem dX1_ordered_13 : decode cX1_ordered 13 = .ok (.invokespecial 50, 3) := by decide +kernel
theorem dX1_ordered_16 : decode cX1_ordered 16 = .ok (.athrow, 1) := by decide +kernel
theorem dX1_ordered_17 : decode cX1_ordered 17 = .ok (.aload_n 0, 1) := by decide +kernel
theorem dX1_ordered_18 : decode cX1_ordered 18 = .ok (.iload_n 1, 1) := by decide +kernel
theorem dX1_ordered_19 : decode cX1_ordered 19 = .ok (.iconst 1, 1) := by decide +kernel
theorem dX1_ordered_20 : decode cX1_ordered 20 = .ok (.iconst 3, 1) := by decide +kernel
theorem dX1_ordered_21 : decode cX1_ordered 21 = .ok (.invokevirtual 190, 3) := by decide +kernel
theorem dX1_ordered_24 : decode cX1_ordered 24 = .ok (.ireturn, 1) := by decide +kernel
set_option maxRecDepth 20000 in
theorem ggX1_kindsAt_X1_isStorey : GoodIn wsX1_kindsAt wsX1_isStorey := goodIn_r _ [11, 12, 13, 10, 14] (by decide +kernel) (by decide +kernel)
set_option maxRecDepth 20000 in
theorem gX1_kindsAt_X1_isStorey : GoodIn wsX1_kindsAt (va_wsS RX1 43 yX1_isStorey wsX1_isStorey) := goodIn_app (goodIn_of _ (by decide +kernel)) ggX1_kindsAt_X1_isStorey
set_option maxRecDepth 20000 in
theorem ggX1_kindsAt_X1_isCell : GoodIn wsX1_kindsAt wsX1_isCell := goodIn_r _ [17, 12, 13, 10, 14] (by decide +kernel) (by decide +kernel)
set_option maxRecDepth 20000 in
theorem gX1_kindsAt_X1_isCell : GoodIn wsX1_kindsAt (va_wsS RX1 53 yX1_isCell wsX1_isCell) := goodIn_app (goodIn_of _ (by decide +kernel)) ggX1_kindsAt_X1_isCell
set_option maxRecDepth 20000 in
theorem ggX1_kindsAt_X1_find : GoodIn wsX1_kindsAt wsX1_find := goodIn_r _ [21, 22, 12, 13, 10, 14, 44, 45, 46, 47, 48, 49, 50, 51] (by decide +kernel) (by decide +kernel)
set_option maxRecDepth 20000 in
theorem gX1_kindsAt_X1_find : GoodIn wsX1_kindsAt (wsV RX1 74 RX1 yX1_find wsX1_find) := goodIn_app (goodIn_of _ (by decide +kernel)) ggX1_kindsAt_X1_find
set_option maxRecDepth 20000 in
theorem ggX1_kindsAt_X0_isThere : GoodIn wsX1_kindsAt wsX0_isThere := goodIn_r _ [27, 28, 52, 53, 54, 55, 56, 57, 58, 59, 60, 61] (by decide +kernel) (by decide +kernel)
set_option maxRecDepth 20000 in
theorem gX1_kindsAt_X0_isThere : GoodIn wsX1_kindsAt (wsV RX1 194 RX0 yX0_isThere wsX0_isThere) := goodIn_app (goodIn_of _ (by decide +kernel)) ggX1_kindsAt_X0_isThere
set_option maxRecDepth 20000 in
theorem ggX1_kindsAt_X0_covers : GoodIn wsX1_kindsAt wsX0_covers := goodIn_r _ [32, 33, 34, 35, 36, 37, 38, 39, 40, 41, 42, 43, 13, 10, 14, 52, 53, 54, 55, 56, 57, 58, 59, 60, 61] (by decide +kernel) (by decide +kernel)
set_option maxRecDepth 20000 in
theorem gX1_kindsAt_X0_covers : GoodIn wsX1_kindsAt (wsV RX1 203 RX0 yX0_covers wsX0_covers) := goodIn_app (goodIn_of _ (by decide +kernel)) ggX1_kindsAt_X0_covers
theorem dX1_kindsAt_0 : decode cX1_kindsAt 0 = .ok (.iload_n 1, 1) := by decide +kernel
theorem dX1_kindsAt_1 : decode cX1_kindsAt 1 = .ok (.invokestatic 43, 3) := by decide +kernel
theorem dX1_kindsAt_4 : decode cX1_kindsAt 4 = .ok (.ifCond .ne 13, 3) := by decide +kernel
theorem dX1_kindsAt_7 : decode cX1_kindsAt 7 = .ok (.new 46, 3) := by decide +kernel
theorem dX1_kindsAt_10 : decode cX1_kindsAt 10 = .ok (.dup, 1) := by decide +kernel
theorem dX1_kindsAt_11 : decode cX1_kindsAt 11 = .ok (.ldc 147, 2) := by decide +kernel
theorem dX1_kindsAt_13 : decode cX1_kindsAt 13 = .ok (.invokespecial 50, 3) := by decide +kernel
theorem dX1_kindsAt_16 : decode cX1_kindsAt 16 = .ok (.athrow, 1) := by decide +kernel
theorem dX1_kindsAt_17 : decode cX1_kindsAt 17 = .ok (.iload_n 2, 1) := by decide +kernel
theorem dX1_kindsAt_18 : decode cX1_kindsAt 18 = .ok (.iload_n 3, 1) := by decide +kernel
theorem dX1_kindsAt_19 : decode cX1_kindsAt 19 = .ok (.invokestatic 53, 3) := by decide +kernel
theorem dX1_kindsAt_22 : decode cX1_kindsAt 22 = .ok (.ifCond .ne 13, 3) := by decide +kernel
theorem dX1_kindsAt_25 : decode cX1_kindsAt 25 = .ok (.new 57, 3) := by decide +kernel
theorem dX1_kindsAt_28 : decode cX1_kindsAt 28 = .ok (.dup, 1) := by decide +kernel
theorem dX1_kindsAt_29 : decode cX1_kindsAt 29 = .ok (.ldc 201, 2) := by decide +kernel
theorem dX1_kindsAt_31 : decode cX1_kindsAt 31 = .ok (.invokespecial 61, 3) := by decide +kernel
theorem dX1_kindsAt_34 : decode cX1_kindsAt 34 = .ok (.athrow, 1) := by decide +kernel
theorem dX1_kindsAt_35 : decode cX1_kindsAt 35 = .ok (.iconst 0, 1) := by decide +kernel
theorem dX1_kindsAt_36 : decode cX1_kindsAt 36 = .ok (.istore 4, 2) := by decide +kernel
theorem dX1_kindsAt_38 : decode cX1_kindsAt 38 = .ok (.iconst 0, 1) := by decide +kernel
theorem dX1_kindsAt_39 : decode cX1_kindsAt 39 = .ok (.istore 5, 2) := by decide +kernel
theorem dX1_kindsAt_41 : decode cX1_kindsAt 41 = .ok (.iload 5, 2) := by decide +kernel
theorem dX1_kindsAt_43 : decode cX1_kindsAt 43 = .ok (.aload_n 0, 1) := by decide +kernel
theorem dX1_kindsAt_44 : decode cX1_kindsAt 44 = .ok (.getfield 15, 3) := by decide +kernel
theorem dX1_kindsAt_47 : decode cX1_kindsAt 47 = .ok (.if_icmp .ge 61, 3) := by decide +kernel
theorem dX1_kindsAt_50 : decode cX1_kindsAt 50 = .ok (.aload_n 0, 1) := by decide +kernel
theorem dX1_kindsAt_51 : decode cX1_kindsAt 51 = .ok (.iload 5, 2) := by decide +kernel
theorem dX1_kindsAt_53 : decode cX1_kindsAt 53 = .ok (.invokevirtual 74, 3) := by decide +kernel
theorem dX1_kindsAt_56 : decode cX1_kindsAt 56 = .ok (.astore 6, 2) := by decide +kernel
theorem dX1_kindsAt_58 : decode cX1_kindsAt 58 = .ok (.aload 6, 2) := by decide +kernel
theorem dX1_kindsAt_60 : decode cX1_kindsAt 60 = .ok (.ifnull 42, 3) := by decide +kernel
theorem dX1_kindsAt_63 : decode cX1_kindsAt 63 = .ok (.aload 6, 2) := by decide +kernel
theorem dX1_kindsAt_65 : decode cX1_kindsAt 65 = .ok (.getfield 154, 3) := by decide +kernel
theorem dX1_kindsAt_68 : decode cX1_kindsAt 68 = .ok (.iload_n 1, 1) := by decide +kernel
theorem dX1_kindsAt_69 : decode cX1_kindsAt 69 = .ok (.if_icmp .ne 33, 3) := by decide +kernel
theorem dX1_kindsAt_72 : decode cX1_kindsAt 72 = .ok (.aload 6, 2) := by decide +kernel
theorem dX1_kindsAt_74 : decode cX1_kindsAt 74 = .ok (.invokevirtual 194, 3) := by decide +kernel
theorem dX1_kindsAt_77 : decode cX1_kindsAt 77 = .ok (.ifCond .eq 25, 3) := by decide +kernel
theorem dX1_kindsAt_80 : decode cX1_kindsAt 80 = .ok (.aload 6, 2) := by decide +kernel
theorem dX1_kindsAt_82 : decode cX1_kindsAt 82 = .ok (.iload_n 2, 1) := by decide +kernel
theorem dX1_kindsAt_83 : decode cX1_kindsAt 83 = .ok (.iload_n 3, 1) := by decide +kernel
theorem dX1_kindsAt_84 : decode cX1_kindsAt 84 = .ok (.invokevirtual 203, 3) := by decide +kernel
theorem dX1_kindsAt_87 : decode cX1_kindsAt 87 = .ok (.ifCond .eq 15, 3) := by decide +kernel
theorem dX1_kindsAt_90 : decode cX1_kindsAt 90 = .ok (.iload 4, 2) := by decide +kernel
theorem dX1_kindsAt_92 : decode cX1_kindsAt 92 = .ok (.iconst 1, 1) := by decide +kernel
theorem dX1_kindsAt_93 : decode cX1_kindsAt 93 = .ok (.aload 6, 2) := by decide +kernel
theorem dX1_kindsAt_95 : decode cX1_kindsAt 95 = .ok (.getfield 122, 3) := by decide +kernel
theorem dX1_kindsAt_98 : decode cX1_kindsAt 98 = .ok (.ishl, 1) := by decide +kernel
theorem dX1_kindsAt_99 : decode cX1_kindsAt 99 = .ok (.ior, 1) := by decide +kernel
theorem dX1_kindsAt_100 : decode cX1_kindsAt 100 = .ok (.istore 4, 2) := by decide +kernel
theorem dX1_kindsAt_102 : decode cX1_kindsAt 102 = .ok (.iinc 5 1, 3) := by decide +kernel
theorem dX1_kindsAt_105 : decode cX1_kindsAt 105 = .ok (.goto (-64), 3) := by decide +kernel
theorem dX1_kindsAt_108 : decode cX1_kindsAt 108 = .ok (.iload 4, 2) := by decide +kernel
theorem dX1_kindsAt_110 : decode cX1_kindsAt 110 = .ok (.ireturn, 1) := by decide +kernel
set_option maxRecDepth 20000 in
theorem ggX1_isLocked_X1_isStorey : GoodIn wsX1_isLocked wsX1_isStorey := goodIn_r _ [7, 8, 9, 6, 10] (by decide +kernel) (by decide +kernel)
set_option maxRecDepth 20000 in
theorem gX1_isLocked_X1_isStorey : GoodIn wsX1_isLocked (va_wsS RX1 43 yX1_isStorey wsX1_isStorey) := goodIn_app (goodIn_of _ (by decide +kernel)) ggX1_isLocked_X1_isStorey
theorem dX1_isLocked_0 : decode cX1_isLocked 0 = .ok (.iload_n 1, 1) := by decide +kernel
theorem dX1_isLocked_1 : decode cX1_isLocked 1 = .ok (.invokestatic 43, 3) := by decide +kernel
theorem dX1_isLocked_4 : decode cX1_isLocked 4 = .ok (.ifCond .ne 13, 3) := by decide +kernel
theorem dX1_isLocked_7 : decode cX1_isLocked 7 = .ok (.new 46, 3) := by decide +kernel
theorem dX1_isLocked_10 : decode cX1_isLocked 10 = .ok (.dup, 1) := by decide +kernel
theorem dX1_isLocked_11 : decode cX1_isLocked 11 = .ok (.ldc 147, 2) := by decide +kernel
theorem dX1_isLocked_13 : decode cX1_isLocked 13 = .ok (.invokespecial 50, 3) := by decide +kernel
theorem dX1_isLocked_16 : decode cX1_isLocked 16 = .ok (.athrow, 1) := by decide +kernel
theorem dX1_isLocked_17 : decode cX1_isLocked 17 = .ok (.aload_n 0, 1) := by decide +kernel
theorem dX1_isLocked_18 : decode cX1_isLocked 18 = .ok (.getfield 29, 3) := by decide +kernel
theorem dX1_isLocked_21 : decode cX1_isLocked 21 = .ok (.iload_n 1, 1) := by decide +kernel
theorem dX1_isLocked_22 : decode cX1_isLocked 22 = .ok (.baload, 1) := by decide +kernel
theorem dX1_isLocked_23 : decode cX1_isLocked 23 = .ok (.ireturn, 1) := by decide +kernel
theorem dX1_isWithin_0 : decode cX1_isWithin 0 = .ok (.iload_n 0, 1) := by decide +kernel
theorem dX1_isWithin_1 : decode cX1_isWithin 1 = .ok (.iload_n 1, 1) := by decide +kernel
theorem dX1_isWithin_2 : decode cX1_isWithin 2 = .ok (.if_icmp .lt 12, 3) := by decide +kernel
theorem dX1_isWithin_5 : decode cX1_isWithin 5 = .ok (.iload_n 0, 1) := by decide +kernel
theorem dX1_isWithin_6 : decode cX1_isWithin 6 = .ok (.iload_n 2, 1) := by decide +kernel
theorem dX1_isWithin_7 : decode cX1_isWithin 7 = .ok (.if_icmp .gt 7, 3) := by decide +kernel
theorem dX1_isWithin_10 : decode cX1_isWithin 10 = .ok (.iconst 1, 1) := by decide +kernel
theorem dX1_isWithin_11 : decode cX1_isWithin 11 = .ok (.goto 4, 3) := by decide +kernel
theorem dX1_isWithin_14 : decode cX1_isWithin 14 = .ok (.iconst 0, 1) := by decide +kernel
theorem dX1_isWithin_15 : decode cX1_isWithin 15 = .ok (.ireturn, 1) := by decide +kernel
set_option maxRecDepth 20000 in
theorem ggX1_isKind_X1_isWithin : GoodIn wsX1_isKind wsX1_isWithin := goodIn_r _ [4] (by decide +kernel) (by decide +kernel)
set_option maxRecDepth 20000 in
theorem gX1_isKind_X1_isWithin : GoodIn wsX1_isKind (va_wsS RX1 112 yX1_isWithin wsX1_isWithin) := goodIn_app (goodIn_of _ (by decide +kernel)) ggX1_isKind_X1_isWithin
theorem dX1_isKind_0 : decode cX1_isKind 0 = .ok (.iload_n 0, 1) := by decide +kernel
theorem dX1_isKind_1 : decode cX1_isKind 1 = .ok (.iconst 0, 1) := by decide +kernel
theorem dX1_isKind_2 : decode cX1_isKind 2 = .ok (.iconst 2, 1) := by decide +kernel
theorem dX1_isKind_3 : decode cX1_isKind 3 = .ok (.invokestatic 112, 3) := by decide +kernel
theorem dX1_isKind_6 : decode cX1_isKind 6 = .ok (.ireturn, 1) := by decide +kernel
set_option maxRecDepth 20000 in
theorem ggX1_isStorey_X1_isWithin : GoodIn wsX1_isStorey wsX1_isWithin := goodIn_r _ [4] (by decide +kernel) (by decide +kernel)
set_option maxRecDepth 20000 in
theorem gX1_isStorey_X1_isWithin : GoodIn wsX1_isStorey (va_wsS RX1 112 yX1_isWithin wsX1_isWithin) := goodIn_app (goodIn_of _ (by decide +kernel)) ggX1_isStorey_X1_isWithin
theorem dX1_isStorey_0 : decode cX1_isStorey 0 = .ok (.iload_n 0, 1) := by decide +kernel
theorem dX1_isStorey_1 : decode cX1_isStorey 1 = .ok (.iconst 0, 1) := by decide +kernel
theorem dX1_isStorey_2 : decode cX1_isStorey 2 = .ok (.iconst 3, 1) := by decide +kernel
theorem dX1_isStorey_3 : decode cX1_isStorey 3 = .ok (.invokestatic 112, 3) := by decide +kernel
theorem dX1_isStorey_6 : decode cX1_isStorey 6 = .ok (.ireturn, 1) := by decide +kernel
set_option maxRecDepth 20000 in
theorem ggX1_isCell_X1_isWithin : GoodIn wsX1_isCell wsX1_isWithin := goodIn_r _ [4] (by decide +kernel) (by decide +kernel)
set_option maxRecDepth 20000 in
theorem gX1_isCell_X1_isWithin : GoodIn wsX1_isCell (va_wsS RX1 112 yX1_isWithin wsX1_isWithin) := goodIn_app (goodIn_of _ (by decide +kernel)) ggX1_isCell_X1_isWithin
theorem dX1_isCell_0 : decode cX1_isCell 0 = .ok (.iload_n 0, 1) := by decide +kernel
theorem dX1_isCell_1 : decode cX1_isCell 1 = .ok (.iconst 0, 1) := by decide +kernel
theorem dX1_isCell_2 : decode cX1_isCell 2 = .ok (.bipush 11, 2) := by decide +kernel
theorem dX1_isCell_4 : decode cX1_isCell 4 = .ok (.invokestatic 112, 3) := by decide +kernel
theorem dX1_isCell_7 : decode cX1_isCell 7 = .ok (.ifCond .eq 17, 3) := by decide +kernel
theorem dX1_isCell_10 : decode cX1_isCell 10 = .ok (.iload_n 1, 1) := by decide +kernel
theorem dX1_isCell_11 : decode cX1_isCell 11 = .ok (.iconst 0, 1) := by decide +kernel
theorem dX1_isCell_12 : decode cX1_isCell 12 = .ok (.bipush 11, 2) := by decide +kernel
theorem dX1_isCell_14 : decode cX1_isCell 14 = .ok (.invokestatic 112, 3) := by decide +kernel
theorem dX1_isCell_17 : decode cX1_isCell 17 = .ok (.ifCond .eq 7, 3) := by decide +kernel
theorem dX1_isCell_20 : decode cX1_isCell 20 = .ok (.iconst 1, 1) := by decide +kernel
theorem dX1_isCell_21 : decode cX1_isCell 21 = .ok (.goto 4, 3) := by decide +kernel
theorem dX1_isCell_24 : decode cX1_isCell 24 = .ok (.iconst 0, 1) := by decide +kernel
theorem dX1_isCell_25 : decode cX1_isCell 25 = .ok (.ireturn, 1) := by decide +kernel
set_option maxRecDepth 20000 in
theorem ggX1_isStep_X1_isWithin : GoodIn wsX1_isStep wsX1_isWithin := goodIn_r _ [4] (by decide +kernel) (by decide +kernel)
set_option maxRecDepth 20000 in
theorem gX1_isStep_X1_isWithin : GoodIn wsX1_isStep (va_wsS RX1 112 yX1_isWithin wsX1_isWithin) := goodIn_app (goodIn_of _ (by decide +kernel)) ggX1_isStep_X1_isWithin
theorem dX1_isStep_0 : decode cX1_isStep 0 = .ok (.iload_n 0, 1) := by decide +kernel
theorem dX1_isStep_1 : decode cX1_isStep 1 = .ok (.bipush (-11), 2) := by decide +kernel
theorem dX1_isStep_3 : decode cX1_isStep 3 = .ok (.bipush 11, 2) := by decide +kernel
theorem dX1_isStep_5 : decode cX1_isStep 5 = .ok (.invokestatic 112, 3) := by decide +kernel
theorem dX1_isStep_8 : decode cX1_isStep 8 = .ok (.ireturn, 1) := by decide +kernel
set_option maxRecDepth 20000 in
theorem ggX1_isBase_X1_isWithin : GoodIn wsX1_isBase wsX1_isWithin := goodIn_r _ [5] (by decide +kernel) (by decide +kernel)
set_option maxRecDepth 20000 in
theorem gX1_isBase_X1_isWithin : GoodIn wsX1_isBase (va_wsS RX1 112 yX1_isWithin wsX1_isWithin) := goodIn_app (goodIn_of _ (by decide +kernel)) ggX1_isBase_X1_isWithin
theorem dX1_isBase_0 : decode cX1_isBase 0 = .ok (.iload_n 1, 1) := by decide +kernel
theorem dX1_isBase_1 : decode cX1_isBase 1 = .ok (.iconst 0, 1) := by decide +kernel
theorem dX1_isBase_2 : decode cX1_isBase 2 = .ok (.aload_n 0, 1) := by decide +kernel
theorem dX1_isBase_3 : decode cX1_isBase 3 = .ok (.getfield 33, 3) := by decide +kernel
theorem dX1_isBase_6 : decode cX1_isBase 6 = .ok (.invokestatic 112, 3) := by decide +kernel
theorem dX1_isBase_9 : decode cX1_isBase 9 = .ok (.ireturn, 1) := by decide +kernel
set_option maxRecDepth 20000 in
theorem ggX1_find_X1_isWithin : GoodIn wsX1_find wsX1_isWithin := goodIn_r _ [5] (by decide +kernel) (by decide +kernel)
set_option maxRecDepth 20000 in
theorem gX1_find_X1_isWithin : GoodIn wsX1_find (va_wsS RX1 112 yX1_isWithin wsX1_isWithin) := goodIn_app (goodIn_of _ (by decide +kernel)) ggX1_find_X1_isWithin
theorem dX1_find_0 : decode cX1_find 0 = .ok (.iload_n 1, 1) := by decide +kernel
theorem dX1_find_1 : decode cX1_find 1 = .ok (.iconst 0, 1) := by decide +kernel
theorem dX1_find_2 : decode cX1_find 2 = .ok (.aload_n 0, 1) := by decide +kernel
theorem dX1_find_3 : decode cX1_find 3 = .ok (.getfield 11, 3) := by decide +kernel
theorem dX1_find_6 : decode cX1_find 6 = .ok (.arraylength, 1) := by decide +kernel
theorem dX1_find_7 : decode cX1_find 7 = .ok (.iconst 1, 1) := by decide +kernel
theorem dX1_find_8 : decode cX1_find 8 = .ok (.isub, 1) := by decide +kernel
theorem dX1_find_9 : decode cX1_find 9 = .ok (.invokestatic 112, 3) := by decide +kernel
theorem dX1_find_12 : decode cX1_find 12 = .ok (.ifCond .eq 12, 3) := by decide +kernel
theorem dX1_find_15 : decode cX1_find 15 = .ok (.aload_n 0, 1) := by decide +kernel
theorem dX1_find_16 : decode cX1_find 16 = .ok (.getfield 11, 3) := by decide +kernel
theorem dX1_find_19 : decode cX1_find 19 = .ok (.iload_n 1, 1) := by decide +kernel
theorem dX1_find_20 : decode cX1_find 20 = .ok (.aaload, 1) := by decide +kernel
theorem dX1_find_21 : decode cX1_find 21 = .ok (.goto 4, 3) := by decide +kernel
theorem dX1_find_24 : decode cX1_find 24 = .ok (.aconst_null, 1) := by decide +kernel
theorem dX1_find_25 : decode cX1_find 25 = .ok (.areturn, 1) := by decide +kernel
set_option maxRecDepth 20000 in
theorem ggX1_isOnStorey_X1_find : GoodIn wsX1_isOnStorey wsX1_find := goodIn_r _ [6, 7, 8, 9, 5, 10, 21, 22, 23, 24, 25, 26, 27, 28] (by decide +kernel) (by decide +kernel)
set_option maxRecDepth 20000 in
theorem gX1_isOnStorey_X1_find : GoodIn wsX1_isOnStorey (wsV RX1 74 RX1 yX1_find wsX1_find) := goodIn_app (goodIn_of _ (by decide +kernel)) ggX1_isOnStorey_X1_find
theorem dX1_isOnStorey_0 : decode cX1_isOnStorey 0 = .ok (.aload_n 0, 1) := by decide +kernel
theorem dX1_isOnStorey_1 : decode cX1_isOnStorey 1 = .ok (.iload_n 1, 1) := by decide +kernel
theorem dX1_isOnStorey_2 : decode cX1_isOnStorey 2 = .ok (.invokevirtual 74, 3) := by decide +kernel
theorem dX1_isOnStorey_5 : decode cX1_isOnStorey 5 = .ok (.astore_n 3, 1) := by decide +kernel
theorem dX1_isOnStorey_6 : decode cX1_isOnStorey 6 = .ok (.aload_n 3, 1) := by decide +kernel
theorem dX1_isOnStorey_7 : decode cX1_isOnStorey 7 = .ok (.ifnull 15, 3) := by decide +kernel
theorem dX1_isOnStorey_10 : decode cX1_isOnStorey 10 = .ok (.aload_n 3, 1) := by decide +kernel
theorem dX1_isOnStorey_11 : decode cX1_isOnStorey 11 = .ok (.getfield 154, 3) := by decide +kernel
theorem dX1_isOnStorey_14 : decode cX1_isOnStorey 14 = .ok (.iload_n 2, 1) := by decide +kernel
theorem dX1_isOnStorey_15 : decode cX1_isOnStorey 15 = .ok (.if_icmp .ne 7, 3) := by decide +kernel
theorem dX1_isOnStorey_18 : decode cX1_isOnStorey 18 = .ok (.iconst 1, 1) := by decide +kernel
theorem dX1_isOnStorey_19 : decode cX1_isOnStorey 19 = .ok (.goto 4, 3) := by decide +kernel
theorem dX1_isOnStorey_22 : decode cX1_isOnStorey 22 = .ok (.iconst 0, 1) := by decide +kernel
theorem dX1_isOnStorey_23 : decode cX1_isOnStorey 23 = .ok (.ireturn, 1) := by decide +kernel
theorem dX1_losesAgainstLastChange_0 : decode cX1_losesAgainstLastChange 0 = .ok (.aload_n 0, 1) := by decide +kernel
theorem dX1_losesAgainstLastChange_1 : decode cX1_losesAgainstLastChange 1 = .ok (.getfield 169, 3) := by decide +kernel
theorem dX1_losesAgainstLastChange_4 : decode cX1_losesAgainstLastChange 4 = .ok (.iload_n 2, 1) := by decide +kernel
theorem dX1_losesAgainstLastChange_5 : decode cX1_losesAgainstLastChange 5 = .ok (.if_icmp .le 15, 3) := by decide +kernel
theorem dX1_losesAgainstLastChange_8 : decode cX1_losesAgainstLastChange 8 = .ok (.iload_n 1, 1) := by decide +kernel
theorem dX1_losesAgainstLastChange_9 : decode cX1_losesAgainstLastChange 9 = .ok (.aload_n 0, 1) := by decide +kernel
theorem dX1_losesAgainstLastChange_10 : decode cX1_losesAgainstLastChange 10 = .ok (.getfield 172, 3) := by decide +kernel
theorem dX1_losesAgainstLastChange_13 : decode cX1_losesAgainstLastChange 13 = .ok (.if_icmp .le 7, 3) := by decide +kernel
theorem dX1_losesAgainstLastChange_16 : decode cX1_losesAgainstLastChange 16 = .ok (.iconst 1, 1) := by decide +kernel
theorem dX1_losesAgainstLastChange_17 : decode cX1_losesAgainstLastChange 17 = .ok (.goto 4, 3) := by decide +kernel
theorem dX1_losesAgainstLastChange_20 : decode cX1_losesAgainstLastChange 20 = .ok (.iconst 0, 1) := by decide +kernel
theorem dX1_losesAgainstLastChange_21 : decode cX1_losesAgainstLastChange 21 = .ok (.ireturn, 1) := by decide +kernel
theorem dX1_noteChange_0 : decode cX1_noteChange 0 = .ok (.aload_n 0, 1) := by decide +kernel
theorem dX1_noteChange_1 : decode cX1_noteChange 1 = .ok (.dup, 1) := by decide +kernel
theorem dX1_noteChange_2 : decode cX1_noteChange 2 = .ok (.getfield 33, 3) := by decide +kernel
theorem dX1_noteChange_5 : decode cX1_noteChange 5 = .ok (.iconst 1, 1) := by decide +kernel
theorem dX1_noteChange_6 : decode cX1_noteChange 6 = .ok (.iadd, 1) := by decide +kernel
theorem dX1_noteChange_7 : decode cX1_noteChange 7 = .ok (.putfield 33, 3) := by decide +kernel
theorem dX1_noteChange_10 : decode cX1_noteChange 10 = .ok (.aload_n 1, 1) := by decide +kernel
theorem dX1_noteChange_11 : decode cX1_noteChange 11 = .ok (.aload_n 0, 1) := by decide +kernel
theorem dX1_noteChange_12 : decode cX1_noteChange 12 = .ok (.getfield 33, 3) := by decide +kernel
theorem dX1_noteChange_15 : decode cX1_noteChange 15 = .ok (.putfield 169, 3) := by decide +kernel
theorem dX1_noteChange_18 : decode cX1_noteChange 18 = .ok (.aload_n 1, 1) := by decide +kernel
theorem dX1_noteChange_19 : decode cX1_noteChange 19 = .ok (.iload_n 2, 1) := by decide +kernel
theorem dX1_noteChange_20 : decode cX1_noteChange 20 = .ok (.putfield 172, 3) := by decide +kernel
theorem dX1_noteChange_23 : decode cX1_noteChange 23 = .ok (.return_, 1) := by decide +kernel
set_option maxRecDepth 20000 in
theorem ggX1_isClashingPair_X1_find : GoodIn wsX1_isClashingPair wsX1_find := goodIn_r _ [7, 8, 9, 10, 6, 11, 54, 55, 56, 57, 58, 59, 60, 61] (by decide +kernel) (by decide +kernel)
set_option maxRecDepth 20000 in
theorem gX1_isClashingPair_X1_find : GoodIn wsX1_isClashingPair (wsV RX1 74 RX1 yX1_find wsX1_find) := goodIn_app (goodIn_of _ (by decide +kernel)) ggX1_isClashingPair_X1_find
set_option maxRecDepth 20000 in
theorem ggX1_isClashingPair_X0_isThere : GoodIn wsX1_isClashingPair wsX0_isThere := goodIn_r _ [16, 17, 44, 45, 46, 47, 48, 49, 50, 51, 52, 53] (by decide +kernel) (by decide +kernel)
set_option maxRecDepth 20000 in
theorem gX1_isClashingPair_X0_isThere : GoodIn wsX1_isClashingPair (wsV RX1 194 RX0 yX0_isThere wsX0_isThere) := goodIn_app (goodIn_of _ (by decide +kernel)) ggX1_isClashingPair_X0_isThere
set_option maxRecDepth 20000 in
theorem ggX1_isClashingPair_X0_distanceTo : GoodIn wsX1_isClashingPair wsX0_distanceTo := goodIn_r _ [21, 22, 23, 24, 25, 26, 27, 28, 29, 30, 31, 15, 32, 33, 34, 35, 44, 45, 46, 47, 48, 49, 50, 51, 52, 53] (by decide +kernel) (by decide +kernel)
set_option maxRecDepth 20000 in
theorem gX1_isClashingPair_X0_distanceTo : GoodIn wsX1_isClashingPair (wsV RX1 206 RX0 yX0_distanceTo wsX0_distanceTo) := goodIn_app (goodIn_of _ (by decide +kernel)) ggX1_isClashingPair_X0_distanceTo
set_option maxRecDepth 20000 in
theorem ggX1_isClashingPair_X1_clearanceOf : GoodIn wsX1_isClashingPair wsX1_clearanceOf := goodIn_r _ [39, 40, 41, 42, 6, 43, 9, 10, 11, 54, 55, 56, 57, 58, 59, 60, 61] (by decide +kernel) (by decide +kernel)
set_option maxRecDepth 20000 in
theorem gX1_isClashingPair_X1_clearanceOf : GoodIn wsX1_isClashingPair (wsV RX1 209 RX1 yX1_clearanceOf wsX1_clearanceOf) := goodIn_app (goodIn_of _ (by decide +kernel)) ggX1_isClashingPair_X1_clearanceOf
theorem dX1_isClashingPair_0 : decode cX1_isClashingPair 0 = .ok (.aload_n 0, 1) := by decide +kernel
theorem dX1_isClashingPair_1 : decode cX1_isClashingPair 1 = .ok (.iload_n 1, 1) := by decide +kernel
theorem dX1_isClashingPair_2 : decode cX1_isClashingPair 2 = .ok (.invokevirtual 74, 3) := by decide +kernel
theorem dX1_isClashingPair_5 : decode cX1_isClashingPair 5 = .ok (.astore_n 3, 1) := by decide +kernel
theorem dX1_isClashingPair_6 : decode cX1_isClashingPair 6 = .ok (.aload_n 0, 1) := by decide +kernel
theorem dX1_isClashingPair_7 : decode cX1_isClashingPair 7 = .ok (.iload_n 2, 1) := by decide +kernel
theorem dX1_isClashingPair_8 : decode cX1_isClashingPair 8 = .ok (.invokevirtual 74, 3) := by decide +kernel
theorem dX1_isClashingPair_11 : decode cX1_isClashingPair 11 = .ok (.astore 4, 2) := by decide +kernel
theorem dX1_isClashingPair_13 : decode cX1_isClashingPair 13 = .ok (.aload_n 3, 1) := by decide +kernel
theorem dX1_isClashingPair_14 : decode cX1_isClashingPair 14 = .ok (.ifnull 13, 3) := by decide +kernel
theorem dX1_isClashingPair_17 : decode cX1_isClashingPair 17 = .ok (.aload 4, 2) := by decide +kernel
theorem dX1_isClashingPair_19 : decode cX1_isClashingPair 19 = .ok (.ifnull 8, 3) := by decide +kernel
theorem dX1_isClashingPair_22 : decode cX1_isClashingPair 22 = .ok (.iload_n 1, 1) := by decide +kernel
theorem dX1_isClashingPair_23 : decode cX1_isClashingPair 23 = .ok (.iload_n 2, 1) := by decide +kernel
theorem dX1_isClashingPair_24 : decode cX1_isClashingPair 24 = .ok (.if_icmp .ne 5, 3) := by decide +kernel
theorem dX1_isClashingPair_27 : decode cX1_isClashingPair 27 = .ok (.iconst 0, 1) := by decide +kernel
theorem dX1_isClashingPair_28 : decode cX1_isClashingPair 28 = .ok (.ireturn, 1) := by decide +kernel
theorem dX1_isClashingPair_29 : decode cX1_isClashingPair 29 = .ok (.aload_n 3, 1) := by decide +kernel
theorem dX1_isClashingPair_30 : decode cX1_isClashingPair 30 = .ok (.getfield 154, 3) := by decide +kernel
theorem dX1_isClashingPair_33 : decode cX1_isClashingPair 33 = .ok (.aload 4, 2) := by decide +kernel
theorem dX1_isClashingPair_35 : decode cX1_isClashingPair 35 = .ok (.getfield 154, 3) := by decide +kernel
theorem dX1_isClashingPair_38 : decode cX1_isClashingPair 38 = .ok (.if_icmp .ne 44, 3) := by decide +kernel
theorem dX1_isClashingPair_41 : decode cX1_isClashingPair 41 = .ok (.aload_n 3, 1) := by decide +kernel
theorem dX1_isClashingPair_42 : decode cX1_isClashingPair 42 = .ok (.invokevirtual 194, 3) := by decide +kernel
theorem dX1_isClashingPair_45 : decode cX1_isClashingPair 45 = .ok (.ifCond .eq 37, 3) := by decide +kernel
theorem dX1_isClashingPair_48 : decode cX1_isClashingPair 48 = .ok (.aload 4, 2) := by decide +kernel
theorem dX1_isClashingPair_50 : decode cX1_isClashingPair 50 = .ok (.invokevirtual 194, 3) := by decide +kernel
theorem dX1_isClashingPair_53 : decode cX1_isClashingPair 53 = .ok (.ifCond .eq 29, 3) := by decide +kernel
theorem dX1_isClashingPair_56 : decode cX1_isClashingPair 56 = .ok (.aload_n 3, 1) := by decide +kernel
theorem dX1_isClashingPair_57 : decode cX1_isClashingPair 57 = .ok (.aload 4, 2) := by decide +kernel
theorem dX1_isClashingPair_59 : decode cX1_isClashingPair 59 = .ok (.invokevirtual 206, 3) := by decide +kernel
theorem dX1_isClashingPair_62 : decode cX1_isClashingPair 62 = .ok (.aload_n 0, 1) := by decide +kernel
theorem dX1_isClashingPair_63 : decode cX1_isClashingPair 63 = .ok (.aload_n 3, 1) := by decide +kernel
theorem dX1_isClashingPair_64 : decode cX1_isClashingPair 64 = .ok (.getfield 122, 3) := by decide +kernel
theorem dX1_isClashingPair_67 : decode cX1_isClashingPair 67 = .ok (.aload 4, 2) := by decide +kernel
theorem dX1_isClashingPair_69 : decode cX1_isClashingPair 69 = .ok (.getfield 122, 3) := by decide +kernel
theorem dX1_isClashingPair_72 : decode cX1_isClashingPair 72 = .ok (.invokevirtual 209, 3) := by decide +kernel
theorem dX1_isClashingPair_75 : decode cX1_isClashingPair 75 = .ok (.if_icmp .ge 7, 3) := by decide +kernel
theorem dX1_isClashingPair_78 : decode cX1_isClashingPair 78 = .ok (.iconst 1, 1) := by decide +kernel
theorem dX1_isClashingPair_79 : decode cX1_isClashingPair 79 = .ok (.goto 4, 3) := by decide +kernel
theorem dX1_isClashingPair_82 : decode cX1_isClashingPair 82 = .ok (.iconst 0, 1) := by decide +kernel
theorem dX1_isClashingPair_83 : decode cX1_isClashingPair 83 = .ok (.ireturn, 1) := by decide +kernel
set_option maxRecDepth 20000 in
theorem ggX1_clearanceOf_X1_isKind : GoodIn wsX1_clearanceOf wsX1_isKind := goodIn_r _ [5, 6, 7, 4, 8] (by decide +kernel) (by decide +kernel)
set_option maxRecDepth 20000 in
theorem gX1_clearanceOf_X1_isKind : GoodIn wsX1_clearanceOf (va_wsS RX1 39 yX1_isKind wsX1_isKind) := goodIn_app (goodIn_of _ (by decide +kernel)) ggX1_clearanceOf_X1_isKind
theorem dX1_clearanceOf_0 : decode cX1_clearanceOf 0 = .ok (.iload_n 1, 1) := by decide +kernel
theorem dX1_clearanceOf_1 : decode cX1_clearanceOf 1 = .ok (.invokestatic 39, 3) := by decide +kernel
theorem dX1_clearanceOf_4 : decode cX1_clearanceOf 4 = .ok (.ifCond .eq 23, 3) := by decide +kernel
theorem dX1_clearanceOf_7 : decode cX1_clearanceOf 7 = .ok (.iload_n 2, 1) := by decide +kernel
theorem dX1_clearanceOf_8 : decode cX1_clearanceOf 8 = .ok (.invokestatic 39, 3) := by decide +kernel
theorem dX1_clearanceOf_11 : decode cX1_clearanceOf 11 = .ok (.ifCond .eq 16, 3) := by decide +kernel
theorem dX1_clearanceOf_14 : decode cX1_clearanceOf 14 = .ok (.aload_n 0, 1) := by decide +kernel
theorem dX1_clearanceOf_15 : decode cX1_clearanceOf 15 = .ok (.getfield 19, 3) := by decide +kernel
theorem dX1_clearanceOf_18 : decode cX1_clearanceOf 18 = .ok (.iload_n 1, 1) := by decide +kernel
theorem dX1_clearanceOf_19 : decode cX1_clearanceOf 19 = .ok (.iconst 3, 1) := by decide +kernel
theorem dX1_clearanceOf_20 : decode cX1_clearanceOf 20 = .ok (.imul, 1) := by decide +kernel
theorem dX1_clearanceOf_21 : decode cX1_clearanceOf 21 = .ok (.iload_n 2, 1) := by decide +kernel
theorem dX1_clearanceOf_22 : decode cX1_clearanceOf 22 = .ok (.iadd, 1) := by decide +kernel
theorem dX1_clearanceOf_23 : decode cX1_clearanceOf 23 = .ok (.iaload, 1) := by decide +kernel
theorem dX1_clearanceOf_24 : decode cX1_clearanceOf 24 = .ok (.goto 4, 3) := by decide +kernel
theorem dX1_clearanceOf_27 : decode cX1_clearanceOf 27 = .ok (.iconst 0, 1) := by decide +kernel
theorem dX1_clearanceOf_28 : decode cX1_clearanceOf 28 = .ok (.ireturn, 1) := by decide +kernel
set_option maxRecDepth 20000 in
theorem ggX1_clashesWithAny_X1_isClashingPair : GoodIn wsX1_clashesWithAny wsX1_isClashingPair := goodIn_r _ [6, 7, 8, 9, 10, 11, 5, 12, 13, 14, 15, 16, 17, 18, 19, 20, 21, 22, 23, 24, 25, 26, 27, 28, 29, 30, 31, 32, 33, 34, 35, 36, 37, 38, 39, 40, 41, 42, 43, 44, 45, 46, 47, 48, 57, 58, 59, 60, 61, 62, 63, 64, 65, 66, 49, 50, 51, 52, 53, 54, 55, 56] (by decide +kernel) (by decide +kernel)
set_option maxRecDepth 20000 in
theorem gX1_clashesWithAny_X1_isClashingPair : GoodIn wsX1_clashesWithAny (wsV RX1 181 RX1 yX1_isClashingPair wsX1_isClashingPair) := goodIn_app (goodIn_of _ (by decide +kernel)) ggX1_clashesWithAny_X1_isClashingPair
theorem dX1_clashesWithAny_0 : decode cX1_clashesWithAny 0 = .ok (.iconst 0, 1) := by decide +kernel
theorem dX1_clashesWithAny_1 : decode cX1_clashesWithAny 1 = .ok (.istore_n 2, 1) := by decide +kernel
theorem dX1_clashesWithAny_2 : decode cX1_clashesWithAny 2 = .ok (.iload_n 2, 1) := by decide +kernel
theorem dX1_clashesWithAny_3 : decode cX1_clashesWithAny 3 = .ok (.aload_n 0, 1) := by decide +kernel
theorem dX1_clashesWithAny_4 : decode cX1_clashesWithAny 4 = .ok (.getfield 15, 3) := by decide +kernel
theorem dX1_clashesWithAny_7 : decode cX1_clashesWithAny 7 = .ok (.if_icmp .ge 20, 3) := by decide +kernel
theorem dX1_clashesWithAny_10 : decode cX1_clashesWithAny 10 = .ok (.aload_n 0, 1) := by decide +kernel
theorem dX1_clashesWithAny_11 : decode cX1_clashesWithAny 11 = .ok (.iload_n 1, 1) := by decide +kernel
theorem dX1_clashesWithAny_12 : decode cX1_clashesWithAny 12 = .ok (.iload_n 2, 1) := by decide +kernel
theorem dX1_clashesWithAny_13 : decode cX1_clashesWithAny 13 = .ok (.invokevirtual 181, 3) := by decide +kernel
theorem dX1_clashesWithAny_16 : decode cX1_clashesWithAny 16 = .ok (.ifCond .eq 5, 3) := by decide +kernel
theorem dX1_clashesWithAny_19 : decode cX1_clashesWithAny 19 = .ok (.iconst 1, 1) := by decide +kernel
theorem dX1_clashesWithAny_20 : decode cX1_clashesWithAny 20 = .ok (.ireturn, 1) := by decide +kernel
theorem dX1_clashesWithAny_21 : decode cX1_clashesWithAny 21 = .ok (.iinc 2 1, 3) := by decide +kernel
theorem dX1_clashesWithAny_24 : decode cX1_clashesWithAny 24 = .ok (.goto (-22), 3) := by decide +kernel
theorem dX1_clashesWithAny_27 : decode cX1_clashesWithAny 27 = .ok (.iconst 0, 1) := by decide +kernel
theorem dX1_clashesWithAny_28 : decode cX1_clashesWithAny 28 = .ok (.ireturn, 1) := by decide +kernel
set_option maxRecDepth 20000 in
theorem ggX1_clashesWithEarlier_X1_isClashingPair : GoodIn wsX1_clashesWithEarlier wsX1_isClashingPair := goodIn_r _ [5, 6, 7, 8, 9, 10, 4, 11, 12, 13, 14, 15, 16, 17, 18, 19, 20, 21, 22, 23, 24, 25, 26, 27, 28, 29, 30, 31, 32, 33, 34, 35, 36, 37, 38, 39, 40, 41, 42, 43, 44, 45, 46, 47, 48, 49, 50, 51, 52, 53, 54, 55, 56, 57, 58, 59, 60, 61, 62, 63, 64, 65] (by decide +kernel) (by decide +kernel)
set_option maxRecDepth 20000 in
theorem gX1_clashesWithEarlier_X1_isClashingPair : GoodIn wsX1_clashesWithEarlier (wsV RX1 181 RX1 yX1_isClashingPair wsX1_isClashingPair) := goodIn_app (goodIn_of _ (by decide +kernel)) ggX1_clashesWithEarlier_X1_isClashingPair
theorem dX1_clashesWithEarlier_0 : decode cX1_clashesWithEarlier 0 = .ok (.iconst 0, 1) := by decide +kernel
theorem dX1_clashesWithEarlier_1 : decode cX1_clashesWithEarlier 1 = .ok (.istore_n 2, 1) := by decide +kernel
theorem dX1_clashesWithEarlier_2 : decode cX1_clashesWithEarlier 2 = .ok (.iconst 0, 1) := by decide +kernel
theorem dX1_clashesWithEarlier_3 : decode cX1_clashesWithEarlier 3 = .ok (.istore_n 3, 1) := by decide +kernel
theorem dX1_clashesWithEarlier_4 : decode cX1_clashesWithEarlier 4 = .ok (.iload_n 3, 1) := by decide +kernel
theorem dX1_clashesWithEarlier_5 : decode cX1_clashesWithEarlier 5 = .ok (.iload_n 1, 1) := by decide +kernel
theorem dX1_clashesWithEarlier_6 : decode cX1_clashesWithEarlier 6 = .ok (.if_icmp .ge 21, 3) := by decide +kernel
theorem dX1_clashesWithEarlier_9 : decode cX1_clashesWithEarlier 9 = .ok (.aload_n 0, 1) := by decide +kernel
theorem dX1_clashesWithEarlier_10 : decode cX1_clashesWithEarlier 10 = .ok (.iload_n 1, 1) := by decide +kernel
theorem dX1_clashesWithEarlier_11 : decode cX1_clashesWithEarlier 11 = .ok (.iload_n 3, 1) := by decide +kernel
theorem dX1_clashesWithEarlier_12 : decode cX1_clashesWithEarlier 12 = .ok (.invokevirtual 181, 3) := by decide +kernel
theorem dX1_clashesWithEarlier_15 : decode cX1_clashesWithEarlier 15 = .ok (.ifCond .eq 6, 3) := by decide +kernel
theorem dX1_clashesWithEarlier_18 : decode cX1_clashesWithEarlier 18 = .ok (.iinc 2 1, 3) := by decide +kernel
theorem dX1_clashesWithEarlier_21 : decode cX1_clashesWithEarlier 21 = .ok (.iinc 3 1, 3) := by decide +kernel
theorem dX1_clashesWithEarlier_24 : decode cX1_clashesWithEarlier 24 = .ok (.goto (-20), 3) := by decide +kernel
theorem dX1_clashesWithEarlier_27 : decode cX1_clashesWithEarlier 27 = .ok (.iload_n 2, 1) := by decide +kernel
theorem dX1_clashesWithEarlier_28 : decode cX1_clashesWithEarlier 28 = .ok (.ireturn, 1) := by decide +kernel
set_option maxRecDepth 20000 in
theorem ggX1_isFinished_X1_find : GoodIn wsX1_isFinished wsX1_find := goodIn_r _ [8, 9, 10, 11, 7, 12, 54, 55, 56, 57, 58, 59, 60, 61] (by decide +kernel) (by decide +kernel)
set_option maxRecDepth 20000 in
theorem gX1_isFinished_X1_find : GoodIn wsX1_isFinished (wsV RX1 74 RX1 yX1_find wsX1_find) := goodIn_app (goodIn_of _ (by decide +kernel)) ggX1_isFinished_X1_find
set_option maxRecDepth 20000 in
theorem ggX1_isFinished_X0_isThere : GoodIn wsX1_isFinished wsX0_isThere := goodIn_r _ [17, 18, 62, 63, 64, 65, 66, 67, 68, 69, 70, 71] (by decide +kernel) (by decide +kernel)
set_option maxRecDepth 20000 in
theorem gX1_isFinished_X0_isThere : GoodIn wsX1_isFinished (wsV RX1 194 RX0 yX0_isThere wsX0_isThere) := goodIn_app (goodIn_of _ (by decide +kernel)) ggX1_isFinished_X0_isThere
set_option maxRecDepth 20000 in
theorem ggX1_isFinished_X1_clashesWithAny : GoodIn wsX1_isFinished wsX1_clashesWithAny := goodIn_r _ [22, 1, 23, 24, 25, 7, 26, 2, 27, 4, 5, 6, 8, 9, 10, 11, 12, 13, 14, 15, 16, 17, 18, 28, 29, 30, 31, 32, 33, 34, 35, 36, 37, 38, 39, 40, 41, 42, 43, 44, 45, 46, 47, 48, 49, 50, 51, 52, 53, 54, 55, 56, 57, 58, 59, 60, 61, 62, 63, 64, 65, 66, 67, 68, 69, 70, 71] (by decide +kernel) (by decide +kernel)
set_option maxRecDepth 20000 in
theorem gX1_isFinished_X1_clashesWithAny : GoodIn wsX1_isFinished (wsV RX1 144 RX1 yX1_clashesWithAny wsX1_clashesWithAny) := goodIn_app (goodIn_of _ (by decide +kernel)) ggX1_isFinished_X1_clashesWithAny
theorem dX1_isFinished_0 : decode cX1_isFinished 0 = .ok (.iconst 0, 1) := by decide +kernel
theorem dX1_isFinished_1 : decode cX1_isFinished 1 = .ok (.istore_n 2, 1) := by decide +kernel
theorem dX1_isFinished_2 : decode cX1_isFinished 2 = .ok (.iconst 0, 1) := by decide +kernel
theorem dX1_isFinished_3 : decode cX1_isFinished 3 = .ok (.istore_n 3, 1) := by decide +kernel
theorem dX1_isFinished_4 : decode cX1_isFinished 4 = .ok (.iload_n 3, 1) := by decide +kernel
theorem dX1_isFinished_5 : decode cX1_isFinished 5 = .ok (.aload_n 0, 1) := by decide +kernel
theorem dX1_isFinished_6 : decode cX1_isFinished 6 = .ok (.getfield 15, 3) := by decide +kernel
theorem dX1_isFinished_9 : decode cX1_isFinished 9 = .ok (.if_icmp .ge 59, 3) := by decide +kernel
theorem dX1_isFinished_12 : decode cX1_isFinished 12 = .ok (.aload_n 0, 1) := by decide +kernel
theorem dX1_isFinished_13 : decode cX1_isFinished 13 = .ok (.iload_n 3, 1) := by decide +kernel
theorem dX1_isFinished_14 : decode cX1_isFinished 14 = .ok (.invokevirtual 74, 3) := by decide +kernel
theorem dX1_isFinished_17 : decode cX1_isFinished 17 = .ok (.astore 4, 2) := by decide +kernel
theorem dX1_isFinished_19 : decode cX1_isFinished 19 = .ok (.aload 4, 2) := by decide +kernel
theorem dX1_isFinished_21 : decode cX1_isFinished 21 = .ok (.ifnull 41, 3) := by decide +kernel
theorem dX1_isFinished_24 : decode cX1_isFinished 24 = .ok (.aload 4, 2) := by decide +kernel
theorem dX1_isFinished_26 : decode cX1_isFinished 26 = .ok (.getfield 154, 3) := by decide +kernel
theorem dX1_isFinished_29 : decode cX1_isFinished 29 = .ok (.iload_n 1, 1) := by decide +kernel
theorem dX1_isFinished_30 : decode cX1_isFinished 30 = .ok (.if_icmp .ne 32, 3) := by decide +kernel
theorem dX1_isFinished_33 : decode cX1_isFinished 33 = .ok (.aload 4, 2) := by decide +kernel
theorem dX1_isFinished_35 : decode cX1_isFinished 35 = .ok (.invokevirtual 194, 3) := by decide +kernel
theorem dX1_isFinished_38 : decode cX1_isFinished 38 = .ok (.ifCond .eq 24, 3) := by decide +kernel
theorem dX1_isFinished_41 : decode cX1_isFinished 41 = .ok (.iconst 1, 1) := by decide +kernel
theorem dX1_isFinished_42 : decode cX1_isFinished 42 = .ok (.istore_n 2, 1) := by decide +kernel
theorem dX1_isFinished_43 : decode cX1_isFinished 43 = .ok (.aload 4, 2) := by decide +kernel
theorem dX1_isFinished_45 : decode cX1_isFinished 45 = .ok (.getfield 93, 3) := by decide +kernel
theorem dX1_isFinished_48 : decode cX1_isFinished 48 = .ok (.iconst 3, 1) := by decide +kernel
theorem dX1_isFinished_49 : decode cX1_isFinished 49 = .ok (.if_icmp .ne 11, 3) := by decide +kernel
theorem dX1_isFinished_52 : decode cX1_isFinished 52 = .ok (.aload_n 0, 1) := by decide +kernel
theorem dX1_isFinished_53 : decode cX1_isFinished 53 = .ok (.iload_n 3, 1) := by decide +kernel
theorem dX1_isFinished_54 : decode cX1_isFinished 54 = .ok (.invokevirtual 144, 3) := by decide +kernel
theorem dX1_isFinished_57 : decode cX1_isFinished 57 = .ok (.ifCond .eq 5, 3) := by decide +kernel
theorem dX1_isFinished_60 : decode cX1_isFinished 60 = .ok (.iconst 0, 1) := by decide +kernel
theorem dX1_isFinished_61 : decode cX1_isFinished 61 = .ok (.ireturn, 1) := by decide +kernel
theorem dX1_isFinished_62 : decode cX1_isFinished 62 = .ok (.iinc 3 1, 3) := by decide +kernel
theorem dX1_isFinished_65 : decode cX1_isFinished 65 = .ok (.goto (-61), 3) := by decide +kernel
theorem dX1_isFinished_68 : decode cX1_isFinished 68 = .ok (.iload_n 2, 1) := by decide +kernel
theorem dX1_isFinished_69 : decode cX1_isFinished 69 = .ok (.ireturn, 1) := by decide +kernel
set_option maxRecDepth 20000 in
theorem ggX1_leadDaysOf_X1_isKind : GoodIn wsX1_leadDaysOf wsX1_isKind := goodIn_r _ [5, 6, 7, 4, 8] (by decide +kernel) (by decide +kernel)
set_option maxRecDepth 20000 in
theorem gX1_leadDaysOf_X1_isKind : GoodIn wsX1_leadDaysOf (va_wsS RX1 39 yX1_isKind wsX1_isKind) := goodIn_app (goodIn_of _ (by decide +kernel)) ggX1_leadDaysOf_X1_isKind
theorem dX1_leadDaysOf_0 : decode cX1_leadDaysOf 0 = .ok (.iload_n 1, 1) := by decide +kernel
theorem dX1_leadDaysOf_1 : decode cX1_leadDaysOf 1 = .ok (.invokestatic 39, 3) := by decide +kernel
theorem dX1_leadDaysOf_4 : decode cX1_leadDaysOf 4 = .ok (.ifCond .eq 12, 3) := by decide +kernel
theorem dX1_leadDaysOf_7 : decode cX1_leadDaysOf 7 = .ok (.aload_n 0, 1) := by decide +kernel
theorem dX1_leadDaysOf_8 : decode cX1_leadDaysOf 8 = .ok (.getfield 26, 3) := by decide +kernel
theorem dX1_leadDaysOf_11 : decode cX1_leadDaysOf 11 = .ok (.iload_n 1, 1) := by decide +kernel
theorem dX1_leadDaysOf_12 : decode cX1_leadDaysOf 12 = .ok (.iaload, 1) := by decide +kernel
theorem dX1_leadDaysOf_13 : decode cX1_leadDaysOf 13 = .ok (.goto 4, 3) := by decide +kernel
theorem dX1_leadDaysOf_16 : decode cX1_leadDaysOf 16 = .ok (.iconst 0, 1) := by decide +kernel
theorem dX1_leadDaysOf_17 : decode cX1_leadDaysOf 17 = .ok (.ireturn, 1) := by decide +kernel
set_option maxRecDepth 20000 in
theorem ggX1_partsOf_X1_isKind : GoodIn wsX1_partsOf wsX1_isKind := goodIn_r _ [6, 7, 8, 5, 9] (by decide +kernel) (by decide +kernel)
set_option maxRecDepth 20000 in
theorem gX1_partsOf_X1_isKind : GoodIn wsX1_partsOf (va_wsS RX1 39 yX1_isKind wsX1_isKind) := goodIn_app (goodIn_of _ (by decide +kernel)) ggX1_partsOf_X1_isKind
set_option maxRecDepth 20000 in
theorem ggX1_partsOf_X0_cells : GoodIn wsX1_partsOf wsX0_cells := goodIn_r _ [14, 15, 16, 17, 18, 19, 20, 21, 22, 23, 24, 25, 26, 27, 28, 29, 30, 31, 32] (by decide +kernel) (by decide +kernel)
set_option maxRecDepth 20000 in
theorem gX1_partsOf_X0_cells : GoodIn wsX1_partsOf (wsV RX1 175 RX0 yX0_cells wsX0_cells) := goodIn_app (goodIn_of _ (by decide +kernel)) ggX1_partsOf_X0_cells
theorem dX1_partsOf_0 : decode cX1_partsOf 0 = .ok (.aload_n 1, 1) := by decide +kernel
theorem dX1_partsOf_1 : decode cX1_partsOf 1 = .ok (.getfield 122, 3) := by decide +kernel
theorem dX1_partsOf_4 : decode cX1_partsOf 4 = .ok (.invokestatic 39, 3) := by decide +kernel
theorem dX1_partsOf_7 : decode cX1_partsOf 7 = .ok (.ifCond .eq 15, 3) := by decide +kernel
theorem dX1_partsOf_10 : decode cX1_partsOf 10 = .ok (.aload_n 0, 1) := by decide +kernel
theorem dX1_partsOf_11 : decode cX1_partsOf 11 = .ok (.getfield 23, 3) := by decide +kernel
theorem dX1_partsOf_14 : decode cX1_partsOf 14 = .ok (.aload_n 1, 1) := by decide +kernel
theorem dX1_partsOf_15 : decode cX1_partsOf 15 = .ok (.getfield 122, 3) := by decide +kernel
theorem dX1_partsOf_18 : decode cX1_partsOf 18 = .ok (.iaload, 1) := by decide +kernel
theorem dX1_partsOf_19 : decode cX1_partsOf 19 = .ok (.goto 4, 3) := by decide +kernel
theorem dX1_partsOf_22 : decode cX1_partsOf 22 = .ok (.iconst 0, 1) := by decide +kernel
theorem dX1_partsOf_23 : decode cX1_partsOf 23 = .ok (.istore_n 2, 1) := by decide +kernel
theorem dX1_partsOf_24 : decode cX1_partsOf 24 = .ok (.iload_n 2, 1) := by decide +kernel
theorem dX1_partsOf_25 : decode cX1_partsOf 25 = .ok (.ifCond .le 16, 3) := by decide +kernel
theorem dX1_partsOf_28 : decode cX1_partsOf 28 = .ok (.aload_n 1, 1) := by decide +kernel
theorem dX1_partsOf_29 : decode cX1_partsOf 29 = .ok (.invokevirtual 175, 3) := by decide +kernel
theorem dX1_partsOf_32 : decode cX1_partsOf 32 = .ok (.iload_n 2, 1) := by decide +kernel
theorem dX1_partsOf_33 : decode cX1_partsOf 33 = .ok (.iadd, 1) := by decide +kernel
theorem dX1_partsOf_34 : decode cX1_partsOf 34 = .ok (.iconst 1, 1) := by decide +kernel
theorem dX1_partsOf_35 : decode cX1_partsOf 35 = .ok (.isub, 1) := by decide +kernel
theorem dX1_partsOf_36 : decode cX1_partsOf 36 = .ok (.iload_n 2, 1) := by decide +kernel
theorem dX1_partsOf_37 : decode cX1_partsOf 37 = .ok (.idiv, 1) := by decide +kernel
theorem dX1_partsOf_38 : decode cX1_partsOf 38 = .ok (.goto 4, 3) := by decide +kernel
theorem dX1_partsOf_41 : decode cX1_partsOf 41 = .ok (.iconst 0, 1) := by decide +kernel
theorem dX1_partsOf_42 : decode cX1_partsOf 42 = .ok (.ireturn, 1) := by decide +kernel
set_option maxRecDepth 20000 in
theorem ggX1_partsInStates_X1_find : GoodIn wsX1_partsInStates wsX1_find := goodIn_r _ [8, 9, 10, 11, 7, 12, 34, 35, 36, 37, 38, 39, 40, 41] (by decide +kernel) (by decide +kernel)
set_option maxRecDepth 20000 in
theorem gX1_partsInStates_X1_find : GoodIn wsX1_partsInStates (wsV RX1 74 RX1 yX1_find wsX1_find) := goodIn_app (goodIn_of _ (by decide +kernel)) ggX1_partsInStates_X1_find
set_option maxRecDepth 20000 in
theorem ggX1_partsInStates_X1_isWithin : GoodIn wsX1_partsInStates wsX1_isWithin := goodIn_r _ [12] (by decide +kernel) (by decide +kernel)
set_option maxRecDepth 20000 in
theorem gX1_partsInStates_X1_isWithin : GoodIn wsX1_partsInStates (va_wsS RX1 112 yX1_isWithin wsX1_isWithin) := goodIn_app (goodIn_of _ (by decide +kernel)) ggX1_partsInStates_X1_isWithin
set_option maxRecDepth 20000 in
theorem ggX1_partsInStates_X1_partsOf : GoodIn wsX1_partsInStates wsX1_partsOf := goodIn_r _ [16, 2, 17, 18, 19, 7, 20, 10, 11, 12, 21, 22, 23, 24, 25, 26, 27, 28, 29, 30, 31, 32, 33, 42, 43, 44, 45, 46, 47, 48, 49, 50, 51, 34, 35, 36, 37, 38, 39, 40, 41] (by decide +kernel) (by decide +kernel)
set_option maxRecDepth 20000 in
theorem gX1_partsInStates_X1_partsOf : GoodIn wsX1_partsInStates (wsV RX1 136 RX1 yX1_partsOf wsX1_partsOf) := goodIn_app (goodIn_of _ (by decide +kernel)) ggX1_partsInStates_X1_partsOf
theorem dX1_partsInStates_0 : decode cX1_partsInStates 0 = .ok (.iconst 0, 1) := by decide +kernel
theorem dX1_partsInStates_1 : decode cX1_partsInStates 1 = .ok (.istore 4, 2) := by decide +kernel
theorem dX1_partsInStates_3 : decode cX1_partsInStates 3 = .ok (.iconst 0, 1) := by decide +kernel
theorem dX1_partsInStates_4 : decode cX1_partsInStates 4 = .ok (.istore 5, 2) := by decide +kernel
theorem dX1_partsInStates_6 : decode cX1_partsInStates 6 = .ok (.iload 5, 2) := by decide +kernel
theorem dX1_partsInStates_8 : decode cX1_partsInStates 8 = .ok (.aload_n 0, 1) := by decide +kernel
theorem dX1_partsInStates_9 : decode cX1_partsInStates 9 = .ok (.getfield 15, 3) := by decide +kernel
theorem dX1_partsInStates_12 : decode cX1_partsInStates 12 = .ok (.if_icmp .ge 55, 3) := by decide +kernel
theorem dX1_partsInStates_15 : decode cX1_partsInStates 15 = .ok (.aload_n 0, 1) := by decide +kernel
theorem dX1_partsInStates_16 : decode cX1_partsInStates 16 = .ok (.iload 5, 2) := by decide +kernel
theorem dX1_partsInStates_18 : decode cX1_partsInStates 18 = .ok (.invokevirtual 74, 3) := by decide +kernel
theorem dX1_partsInStates_21 : decode cX1_partsInStates 21 = .ok (.astore 6, 2) := by decide +kernel
theorem dX1_partsInStates_23 : decode cX1_partsInStates 23 = .ok (.aload 6, 2) := by decide +kernel
theorem dX1_partsInStates_25 : decode cX1_partsInStates 25 = .ok (.ifnull 36, 3) := by decide +kernel
theorem dX1_partsInStates_28 : decode cX1_partsInStates 28 = .ok (.aload 6, 2) := by decide +kernel
theorem dX1_partsInStates_30 : decode cX1_partsInStates 30 = .ok (.getfield 122, 3) := by decide +kernel
theorem dX1_partsInStates_33 : decode cX1_partsInStates 33 = .ok (.iload_n 1, 1) := by decide +kernel
theorem dX1_partsInStates_34 : decode cX1_partsInStates 34 = .ok (.if_icmp .ne 27, 3) := by decide +kernel
theorem dX1_partsInStates_37 : decode cX1_partsInStates 37 = .ok (.aload 6, 2) := by decide +kernel
theorem dX1_partsInStates_39 : decode cX1_partsInStates 39 = .ok (.getfield 93, 3) := by decide +kernel
theorem dX1_partsInStates_42 : decode cX1_partsInStates 42 = .ok (.iload_n 2, 1) := by decide +kernel
theorem dX1_partsInStates_43 : decode cX1_partsInStates 43 = .ok (.iload_n 3, 1) := by decide +kernel
theorem dX1_partsInStates_44 : decode cX1_partsInStates 44 = .ok (.invokestatic 112, 3) := by decide +kernel
theorem dX1_partsInStates_47 : decode cX1_partsInStates 47 = .ok (.ifCond .eq 14, 3) := by decide +kernel
theorem dX1_partsInStates_50 : decode cX1_partsInStates 50 = .ok (.iload 4, 2) := by decide +kernel
theorem dX1_partsInStates_52 : decode cX1_partsInStates 52 = .ok (.aload_n 0, 1) := by decide +kernel
theorem dX1_partsInStates_53 : decode cX1_partsInStates 53 = .ok (.aload 6, 2) := by decide +kernel
theorem dX1_partsInStates_55 : decode cX1_partsInStates 55 = .ok (.invokevirtual 136, 3) := by decide +kernel
theorem dX1_partsInStates_58 : decode cX1_partsInStates 58 = .ok (.iadd, 1) := by decide +kernel
theorem dX1_partsInStates_59 : decode cX1_partsInStates 59 = .ok (.istore 4, 2) := by decide +kernel
theorem dX1_partsInStates_61 : decode cX1_partsInStates 61 = .ok (.iinc 5 1, 3) := by decide +kernel
theorem dX1_partsInStates_64 : decode cX1_partsInStates 64 = .ok (.goto (-58), 3) := by decide +kernel
theorem dX1_partsInStates_67 : decode cX1_partsInStates 67 = .ok (.iload 4, 2) := by decide +kernel
theorem dX1_partsInStates_69 : decode cX1_partsInStates 69 = .ok (.ireturn, 1) := by decide +kernel
end
section
theorem dX2_init_0 : decode cX2_init 0 = .ok (.aload_n 0, 1) := by decide +kernel
theorem dX2_init_1 : decode cX2_init 1 = .ok (.invokespecial 1, 3) := by decide +kernel
theorem dX2_init_4 : decode cX2_init 4 = .ok (.aload_n 0, 1) := by decide +kernel
theorem dX2_init_5 : decode cX2_init 5 = .ok (.bipush 40, 2) := by decide +kernel
theorem dX2_init_7 : decode cX2_init 7 = .ok (.newarray .int, 2) := by decide +kernel
theorem dX2_init_9 : decode cX2_init 9 = .ok (.putfield 7, 3) := by decide +kernel
theorem dX2_init_12 : decode cX2_init 12 = .ok (.aload_n 0, 1) := by decide +kernel
theorem dX2_init_13 : decode cX2_init 13 = .ok (.bipush 40, 2) := by decide +kernel
theorem dX2_init_15 : decode cX2_init 15 = .ok (.newarray .int, 2) := by decide +kernel
theorem dX2_init_17 : decode cX2_init 17 = .ok (.putfield 13, 3) := by decide +kernel
theorem dX2_init_20 : decode cX2_init 20 = .ok (.aload_n 0, 1) := by decide +kernel
theorem dX2_init_21 : decode cX2_init 21 = .ok (.bipush 40, 2) := by decide +kernel
theorem dX2_init_23 : decode cX2_init 23 = .ok (.newarray .int, 2) := by decide +kernel
theorem dX2_init_25 : decode cX2_init 25 = .ok (.putfield 16, 3) := by decide +kernel
theorem dX2_init_28 : decode cX2_init 28 = .ok (.aload_n 0, 1) := by decide +kernel
theorem dX2_init_29 : decode cX2_init 29 = .ok (.bipush 40, 2) := by decide +kernel
theorem dX2_init_31 : decode cX2_init 31 = .ok (.newarray .int, 2) := by decide +kernel
theorem dX2_init_33 : decode cX2_init 33 = .ok (.putfield 19, 3) := by decide +kernel
theorem dX2_init_36 : decode cX2_init 36 = .ok (.aload_n 0, 1) := by decide +kernel
theorem dX2_init_37 : decode cX2_init 37 = .ok (.bipush 40, 2) := by decide +kernel
theorem dX2_init_39 : decode cX2_init 39 = .ok (.newarray .int, 2) := by decide +kernel
theorem dX2_init_41 : decode cX2_init 41 = .ok (.putfield 22, 3) := by decide +kernel
theorem dX2_init_44 : decode cX2_init 44 = .ok (.aload_n 0, 1) := by decide +kernel
theorem dX2_init_45 : decode cX2_init 45 = .ok (.bipush 40, 2) := by decide +kernel
theorem dX2_init_47 : decode cX2_init 47 = .ok (.newarray .int, 2) := by decide +kernel
theorem dX2_init_49 : decode cX2_init 49 = .ok (.putfield 25, 3) := by decide +kernel
theorem dX2_init_52 : decode cX2_init 52 = .ok (.aload_n 0, 1) := by decide +kernel
theorem dX2_init_53 : decode cX2_init 53 = .ok (.bipush 40, 2) := by decide +kernel
theorem dX2_init_55 : decode cX2_init 55 = .ok (.newarray .int, 2) := by decide +kernel
theorem dX2_init_57 : decode cX2_init 57 = .ok (.putfield 28, 3) := by decide +kernel
theorem dX2_init_60 : decode cX2_init 60 = .ok (.aload_n 0, 1) := by decide +kernel
theorem dX2_init_61 : decode cX2_init 61 = .ok (.bipush 40, 2) := by decide +kernel
theorem dX2_init_63 : decode cX2_init 63 = .ok (.newarray .int, 2) := by decide +kernel
theorem dX2_init_65 : decode cX2_init 65 = .ok (.putfield 31, 3) := by decide +kernel
theorem dX2_init_68 : decode cX2_init 68 = .ok (.aload_n 0, 1) := by decide +kernel
theorem dX2_init_69 : decode cX2_init 69 = .ok (.bipush 40, 2) := by decide +kernel
theorem dX2_init_71 : decode cX2_init 71 = .ok (.newarray .int, 2) := by decide +kernel
theorem dX2_init_73 : decode cX2_init 73 = .ok (.putfield 34, 3) := by decide +kernel
theorem dX2_init_76 : decode cX2_init 76 = .ok (.aload_n 0, 1) := by decide +kernel
theorem dX2_init_77 : decode cX2_init 77 = .ok (.bipush 40, 2) := by decide +kernel
theorem dX2_init_79 : decode cX2_init 79 = .ok (.newarray .int, 2) := by decide +kernel
theorem dX2_init_81 : decode cX2_init 81 = .ok (.putfield 37, 3) := by decide +kernel
theorem dX2_init_84 : decode cX2_init 84 = .ok (.aload_n 0, 1) := by decide +kernel
theorem dX2_init_85 : decode cX2_init 85 = .ok (.bipush 9, 2) := by decide +kernel
theorem dX2_init_87 : decode cX2_init 87 = .ok (.newarray .int, 2) := by decide +kernel
theorem dX2_init_89 : decode cX2_init 89 = .ok (.putfield 40, 3) := by decide +kernel
theorem dX2_init_92 : decode cX2_init 92 = .ok (.aload_n 0, 1) := by decide +kernel
theorem dX2_init_93 : decode cX2_init 93 = .ok (.iconst 3, 1) := by decide +kernel
theorem dX2_init_94 : decode cX2_init 94 = .ok (.newarray .int, 2) := by decide +kernel
theorem dX2_init_96 : decode cX2_init 96 = .ok (.putfield 43, 3) := by decide +kernel
theorem dX2_init_99 : decode cX2_init 99 = .ok (.aload_n 0, 1) := by decide +kernel
theorem dX2_init_100 : decode cX2_init 100 = .ok (.iconst 3, 1) := by decide +kernel
theorem dX2_init_101 : decode cX2_init 101 = .ok (.newarray .int, 2) := by decide +kernel
theorem dX2_init_103 : decode cX2_init 103 = .ok (.putfield 46, 3) := by decide +kernel
theorem dX2_init_106 : decode cX2_init 106 = .ok (.aload_n 0, 1) := by decide +kernel
theorem dX2_init_107 : decode cX2_init 107 = .ok (.iconst 4, 1) := by decide +kernel
theorem dX2_init_108 : decode cX2_init 108 = .ok (.newarray .boolean, 2) := by decide +kernel
theorem dX2_init_110 : decode cX2_init 110 = .ok (.putfield 49, 3) := by decide +kernel
theorem dX2_init_113 : decode cX2_init 113 = .ok (.iconst 0, 1) := by decide +kernel
theorem dX2_init_114 : decode cX2_init 114 = .ok (.istore_n 1, 1) := by decide +kernel
theorem dX2_init_115 : decode cX2_init 115 = .ok (.iload_n 1, 1) := by decide +kernel
theorem dX2_init_116 : decode cX2_init 116 = .ok (.iconst 3, 1) := by decide +kernel
theorem dX2_init_117 : decode cX2_init 117 = .ok (.if_icmp .ge 23, 3) := by decide +kernel
theorem dX2_init_120 : decode cX2_init 120 = .ok (.aload_n 0, 1) := by decide +kernel
theorem dX2_init_121 : decode cX2_init 121 = .ok (.getfield 43, 3) := by decide +kernel
theorem dX2_init_124 : decode cX2_init 124 = .ok (.iload_n 1, 1) := by decide +kernel
theorem dX2_init_125 : decode cX2_init 125 = .ok (.iconst 3, 1) := by decide +kernel
theorem dX2_init_126 : decode cX2_init 126 = .ok (.iastore, 1) := by decide +kernel
theorem dX2_init_127 : decode cX2_init 127 = .ok (.aload_n 0, 1) := by decide +kernel
theorem dX2_init_128 : decode cX2_init 128 = .ok (.getfield 46, 3) := by decide +kernel
theorem dX2_init_131 : decode cX2_init 131 = .ok (.iload_n 1, 1) := by decide +kernel
theorem dX2_init_132 : decode cX2_init 132 = .ok (.iconst 5, 1) := by decide +kernel
theorem dX2_init_133 : decode cX2_init 133 = .ok (.iastore, 1) := by decide +kernel
theorem dX2_init_134 : decode cX2_init 134 = .ok (.iinc 1 1, 3) := by decide +kernel
theorem dX2_init_137 : decode cX2_init 137 = .ok (.goto (-22), 3) := by decide +kernel
theorem dX2_init_140 : decode cX2_init 140 = .ok (.return_, 1) := by decide +kernel
theorem dX2_thrown_0 : decode cX2_thrown 0 = .ok (.aload_n 0, 1) := by decide +kernel
theorem dX2_thrown_1 : decode cX2_thrown 1 = .ok (.getfield 53, 3) := by decide +kernel
theorem dX2_thrown_4 : decode cX2_thrown 4 = .ok (.ireturn, 1) := by decide +kernel
theorem dX2_in_0 : decode cX2_in 0 = .ok (.iload_n 0, 1) := by decide +kernel
theorem dX2_in_1 : decode cX2_in 1 = .ok (.iload_n 1, 1) := by decide +kernel
theorem dX2_in_2 : decode cX2_in 2 = .ok (.if_icmp .lt 12, 3) := by decide +kernel
theorem dX2_in_5 : decode cX2_in 5 = .ok (.iload_n 0, 1) := by decide +kernel
theorem dX2_in_6 : decode cX2_in 6 = .ok (.iload_n 2, 1) := by decide +kernel
theorem dX2_in_7 : decode cX2_in 7 = .ok (.if_icmp .gt 7, 3) := by decide +kernel
theorem dX2_in_10 : decode cX2_in 10 = .ok (.iconst 1, 1) := by decide +kernel
theorem dX2_in_11 : decode cX2_in 11 = .ok (.goto 4, 3) := by decide +kernel
theorem dX2_in_14 : decode cX2_in 14 = .ok (.iconst 0, 1) := by decide +kernel
theorem dX2_in_15 : decode cX2_in 15 = .ok (.ireturn, 1) := by decide +kernel
theorem dX2_refused_0 : decode cX2_refused 0 = .ok (.aload_n 0, 1) := by decide +kernel
theorem dX2_refused_1 : decode cX2_refused 1 = .ok (.iload_n 1, 1) := by decide +kernel
theorem dX2_refused_2 : decode cX2_refused 2 = .ok (.putfield 53, 3) := by decide +kernel
theorem dX2_refused_5 : decode cX2_refused 5 = .ok (.iload_n 1, 1) := by decide +kernel
theorem dX2_refused_6 : decode cX2_refused 6 = .ok (.ifCond .eq 7, 3) := by decide +kernel
theorem dX2_refused_9 : decode cX2_refused 9 = .ok (.iconst 1, 1) := by decide +kernel
theorem dX2_refused_10 : decode cX2_refused 10 = .ok (.goto 4, 3) := by decide +kernel
theorem dX2_refused_13 : decode cX2_refused 13 = .ok (.iconst 0, 1) := by decide +kernel
theorem dX2_refused_14 : decode cX2_refused 14 = .ok (.ireturn, 1) := by decide +kernel
set_option maxRecDepth 20000 in
theorem ggX2_isTrade_X2_in : GoodIn wsX2_isTrade wsX2_in := goodIn_r _ [4] (by decide +kernel) (by decide +kernel)
set_option maxRecDepth 20000 in
theorem gX2_isTrade_X2_in : GoodIn wsX2_isTrade (va_wsS RX2 57 yX2_in wsX2_in) := goodIn_app (goodIn_of _ (by decide +kernel)) ggX2_isTrade_X2_in
theorem dX2_isTrade_0 : decode cX2_isTrade 0 = .ok (.iload_n 0, 1) := by decide +kernel
theorem dX2_isTrade_1 : decode cX2_isTrade 1 = .ok (.iconst 0, 1) := by decide +kernel
theorem dX2_isTrade_2 : decode cX2_isTrade 2 = .ok (.iconst 2, 1) := by decide +kernel
theorem dX2_isTrade_3 : decode cX2_isTrade 3 = .ok (.invokestatic 57, 3) := by decide +kernel
theorem dX2_isTrade_6 : decode cX2_isTrade 6 = .ok (.ireturn, 1) := by decide +kernel
set_option maxRecDepth 20000 in
theorem ggX2_isStorey_X2_in : GoodIn wsX2_isStorey wsX2_in := goodIn_r _ [4] (by decide +kernel) (by decide +kernel)
set_option maxRecDepth 20000 in
theorem gX2_isStorey_X2_in : GoodIn wsX2_isStorey (va_wsS RX2 57 yX2_in wsX2_in) := goodIn_app (goodIn_of _ (by decide +kernel)) ggX2_isStorey_X2_in
theorem dX2_isStorey_0 : decode cX2_isStorey 0 = .ok (.iload_n 0, 1) := by decide +kernel
theorem dX2_isStorey_1 : decode cX2_isStorey 1 = .ok (.iconst 0, 1) := by decide +kernel
theorem dX2_isStorey_2 : decode cX2_isStorey 2 = .ok (.iconst 3, 1) := by decide +kernel
theorem dX2_isStorey_3 : decode cX2_isStorey 3 = .ok (.invokestatic 57, 3) := by decide +kernel
theorem dX2_isStorey_6 : decode cX2_isStorey 6 = .ok (.ireturn, 1) := by decide +kernel
set_option maxRecDepth 20000 in
theorem ggX2_isElement_X2_in : GoodIn wsX2_isElement wsX2_in := goodIn_r _ [5] (by decide +kernel) (by decide +kernel)
set_option maxRecDepth 20000 in
theorem gX2_isElement_X2_in : GoodIn wsX2_isElement (va_wsS RX2 57 yX2_in wsX2_in) := goodIn_app (goodIn_of _ (by decide +kernel)) ggX2_isElement_X2_in
theorem dX2_isElement_0 : decode cX2_isElement 0 = .ok (.iload_n 1, 1) := by decide +kernel
theorem dX2_isElement_1 : decode cX2_isElement 1 = .ok (.iconst 0, 1) := by decide +kernel
theorem dX2_isElement_2 : decode cX2_isElement 2 = .ok (.aload_n 0, 1) := by decide +kernel
theorem dX2_isElement_3 : decode cX2_isElement 3 = .ok (.getfield 61, 3) := by decide +kernel
theorem dX2_isElement_6 : decode cX2_isElement 6 = .ok (.iconst 1, 1) := by decide +kernel
theorem dX2_isElement_7 : decode cX2_isElement 7 = .ok (.isub, 1) := by decide +kernel
theorem dX2_isElement_8 : decode cX2_isElement 8 = .ok (.invokestatic 57, 3) := by decide +kernel
theorem dX2_isElement_11 : decode cX2_isElement 11 = .ok (.ireturn, 1) := by decide +kernel
set_option maxRecDepth 20000 in
theorem ggX2_isSide_X2_in : GoodIn wsX2_isSide wsX2_in := goodIn_r _ [4] (by decide +kernel) (by decide +kernel)
set_option maxRecDepth 20000 in
theorem gX2_isSide_X2_in : GoodIn wsX2_isSide (va_wsS RX2 57 yX2_in wsX2_in) := goodIn_app (goodIn_of _ (by decide +kernel)) ggX2_isSide_X2_in
theorem dX2_isSide_0 : decode cX2_isSide 0 = .ok (.iload_n 0, 1) := by decide +kernel
theorem dX2_isSide_1 : decode cX2_isSide 1 = .ok (.iconst 0, 1) := by decide +kernel
theorem dX2_isSide_2 : decode cX2_isSide 2 = .ok (.bipush 11, 2) := by decide +kernel
theorem dX2_isSide_4 : decode cX2_isSide 4 = .ok (.invokestatic 57, 3) := by decide +kernel
theorem dX2_isSide_7 : decode cX2_isSide 7 = .ok (.ireturn, 1) := by decide +kernel
theorem dX2_size_0 : decode cX2_size 0 = .ok (.iload_n 0, 1) := by decide +kernel
theorem dX2_size_1 : decode cX2_size 1 = .ok (.ifCond .ge 8, 3) := by decide +kernel
theorem dX2_size_4 : decode cX2_size 4 = .ok (.iload_n 0, 1) := by decide +kernel
theorem dX2_size_5 : decode cX2_size 5 = .ok (.ineg, 1) := by decide +kernel
theorem dX2_size_6 : decode cX2_size 6 = .ok (.goto 4, 3) := by decide +kernel
theorem dX2_size_9 : decode cX2_size 9 = .ok (.iload_n 0, 1) := by decide +kernel
theorem dX2_size_10 : decode cX2_size 10 = .ok (.ireturn, 1) := by decide +kernel
theorem dX2_change_0 : decode cX2_change 0 = .ok (.aload_n 0, 1) := by decide +kernel
theorem dX2_change_1 : decode cX2_change 1 = .ok (.dup, 1) := by decide +kernel
theorem dX2_change_2 : decode cX2_change 2 = .ok (.getfield 64, 3) := by decide +kernel
theorem dX2_change_5 : decode cX2_change 5 = .ok (.iconst 1, 1) := by decide +kernel
theorem dX2_change_6 : decode cX2_change 6 = .ok (.iadd, 1) := by decide +kernel
theorem dX2_change_7 : decode cX2_change 7 = .ok (.putfield 64, 3) := by decide +kernel
theorem dX2_change_10 : decode cX2_change 10 = .ok (.aload_n 0, 1) := by decide +kernel
theorem dX2_change_11 : decode cX2_change 11 = .ok (.getfield 31, 3) := by decide +kernel
theorem dX2_change_14 : decode cX2_change 14 = .ok (.iload_n 1, 1) := by decide +kernel
theorem dX2_change_15 : decode cX2_change 15 = .ok (.aload_n 0, 1) := by decide +kernel
theorem dX2_change_16 : decode cX2_change 16 = .ok (.getfield 64, 3) := by decide +kernel
theorem dX2_change_19 : decode cX2_change 19 = .ok (.iastore, 1) := by decide +kernel
theorem dX2_change_20 : decode cX2_change 20 = .ok (.aload_n 0, 1) := by decide +kernel
theorem dX2_change_21 : decode cX2_change 21 = .ok (.getfield 34, 3) := by decide +kernel
theorem dX2_change_24 : decode cX2_change 24 = .ok (.iload_n 1, 1) := by decide +kernel
theorem dX2_change_25 : decode cX2_change 25 = .ok (.iload_n 2, 1) := by decide +kernel
theorem dX2_change_26 : decode cX2_change 26 = .ok (.iastore, 1) := by decide +kernel
theorem dX2_change_27 : decode cX2_change 27 = .ok (.return_, 1) := by decide +kernel
set_option maxRecDepth 20000 in
theorem ggX2_add_X2_isTrade : GoodIn wsX2_add wsX2_isTrade := goodIn_r _ [12, 13, 14, 11, 15] (by decide +kernel) (by decide +kernel)
set_option maxRecDepth 20000 in
theorem gX2_add_X2_isTrade : GoodIn wsX2_add (va_wsS RX2 67 yX2_isTrade wsX2_isTrade) := goodIn_app (goodIn_of _ (by decide +kernel)) ggX2_add_X2_isTrade
set_option maxRecDepth 20000 in
theorem ggX2_add_X2_isStorey : GoodIn wsX2_add wsX2_isStorey := goodIn_r _ [18, 13, 14, 11, 15] (by decide +kernel) (by decide +kernel)
set_option maxRecDepth 20000 in
theorem gX2_add_X2_isStorey : GoodIn wsX2_add (va_wsS RX2 71 yX2_isStorey wsX2_isStorey) := goodIn_app (goodIn_of _ (by decide +kernel)) ggX2_add_X2_isStorey
set_option maxRecDepth 20000 in
theorem ggX2_add_X2_isSide : GoodIn wsX2_add wsX2_isSide := goodIn_r _ [21, 13, 14, 11, 15] (by decide +kernel) (by decide +kernel)
set_option maxRecDepth 20000 in
theorem gX2_add_X2_isSide : GoodIn wsX2_add (va_wsS RX2 74 yX2_isSide wsX2_isSide) := goodIn_app (goodIn_of _ (by decide +kernel)) ggX2_add_X2_isSide
set_option maxRecDepth 20000 in
theorem ggX2_add_X2_refused : GoodIn wsX2_add wsX2_refused := goodIn_r _ [25, 26, 34, 35, 36, 37, 38, 39, 40, 41, 42, 43, 44, 45, 46, 47, 48, 49, 50, 51] (by decide +kernel) (by decide +kernel)
set_option maxRecDepth 20000 in
theorem gX2_add_X2_refused : GoodIn wsX2_add (wsV RX2 77 RX2 yX2_refused wsX2_refused) := goodIn_app (goodIn_of _ (by decide +kernel)) ggX2_add_X2_refused
set_option maxRecDepth 20000 in
theorem ggX2_add_X2_change : GoodIn wsX2_add wsX2_change := goodIn_r _ [30, 31, 32, 33, 34, 35, 36, 37, 38, 39, 40, 41, 42, 43, 44, 45, 46, 47, 48, 49, 50, 51] (by decide +kernel) (by decide +kernel)
set_option maxRecDepth 20000 in
theorem gX2_add_X2_change : GoodIn wsX2_add (wsV RX2 80 RX2 yX2_change wsX2_change) := goodIn_app (goodIn_of _ (by decide +kernel)) ggX2_add_X2_change
theorem dX2_add_0 : decode cX2_add 0 = .ok (.iload_n 1, 1) := by decide +kernel
theorem dX2_add_1 : decode cX2_add 1 = .ok (.invokestatic 67, 3) := by decide +kernel
theorem dX2_add_4 : decode cX2_add 4 = .ok (.ifCond .eq 14, 3) := by decide +kernel
theorem dX2_add_7 : decode cX2_add 7 = .ok (.iload_n 2, 1) := by decide +kernel
theorem dX2_add_8 : decode cX2_add 8 = .ok (.invokestatic 71, 3) := by decide +kernel
theorem dX2_add_11 : decode cX2_add 11 = .ok (.ifCond .eq 7, 3) := by decide +kernel
theorem dX2_add_14 : decode cX2_add 14 = .ok (.iconst 1, 1) := by decide +kernel
theorem dX2_add_15 : decode cX2_add 15 = .ok (.goto 4, 3) := by decide +kernel
theorem dX2_add_18 : decode cX2_add 18 = .ok (.iconst 0, 1) := by decide +kernel
theorem dX2_add_19 : decode cX2_add 19 = .ok (.istore 7, 2) := by decide +kernel
theorem dX2_add_21 : decode cX2_add 21 = .ok (.iload_n 3, 1) := by decide +kernel
theorem dX2_add_22 : decode cX2_add 22 = .ok (.invokestatic 74, 3) := by decide +kernel
theorem dX2_add_25 : decode cX2_add 25 = .ok (.ifCond .eq 44, 3) := by decide +kernel
theorem dX2_add_28 : decode cX2_add 28 = .ok (.iload 4, 2) := by decide +kernel
theorem dX2_add_30 : decode cX2_add 30 = .ok (.invokestatic 74, 3) := by decide +kernel
theorem dX2_add_33 : decode cX2_add 33 = .ok (.ifCond .eq 36, 3) := by decide +kernel
theorem dX2_add_36 : decode cX2_add 36 = .ok (.iload 5, 2) := by decide +kernel
theorem dX2_add_38 : decode cX2_add 38 = .ok (.invokestatic 74, 3) := by decide +kernel
theorem dX2_add_41 : decode cX2_add 41 = .ok (.ifCond .eq 28, 3) := by decide +kernel
theorem dX2_add_44 : decode cX2_add 44 = .ok (.iload 6, 2) := by decide +kernel
theorem dX2_add_46 : decode cX2_add 46 = .ok (.invokestatic 74, 3) := by decide +kernel
theorem dX2_add_49 : decode cX2_add 49 = .ok (.ifCond .eq 20, 3) := by decide +kernel
theorem dX2_add_52 : decode cX2_add 52 = .ok (.iload_n 3, 1) := by decide +kernel
theorem dX2_add_53 : decode cX2_add 53 = .ok (.iload 5, 2) := by decide +kernel
theorem dX2_add_55 : decode cX2_add 55 = .ok (.if_icmp .eq 10, 3) := by decide +kernel
theorem dX2_add_58 : decode cX2_add 58 = .ok (.iload 4, 2) := by decide +kernel
theorem dX2_add_60 : decode cX2_add 60 = .ok (.iload 6, 2) := by decide +kernel
theorem dX2_add_62 : decode cX2_add 62 = .ok (.if_icmp .ne 7, 3) := by decide +kernel
theorem dX2_add_65 : decode cX2_add 65 = .ok (.iconst 1, 1) := by decide +kernel
theorem dX2_add_66 : decode cX2_add 66 = .ok (.goto 4, 3) := by decide +kernel
theorem dX2_add_69 : decode cX2_add 69 = .ok (.iconst 0, 1) := by decide +kernel
theorem dX2_add_70 : decode cX2_add 70 = .ok (.istore 8, 2) := by decide +kernel
theorem dX2_add_72 : decode cX2_add 72 = .ok (.aload_n 0, 1) := by decide +kernel
theorem dX2_add_73 : decode cX2_add 73 = .ok (.iload 7, 2) := by decide +kernel
theorem dX2_add_75 : decode cX2_add 75 = .ok (.ifCond .ne 7, 3) := by decide +kernel
theorem dX2_add_78 : decode cX2_add 78 = .ok (.iconst 1, 1) := by decide +kernel
theorem dX2_add_79 : decode cX2_add 79 = .ok (.goto 35, 3) := by decide +kernel
theorem dX2_add_82 : decode cX2_add 82 = .ok (.iload 8, 2) := by decide +kernel
theorem dX2_add_84 : decode cX2_add 84 = .ok (.ifCond .ne 7, 3) := by decide +kernel
theorem dX2_add_87 : decode cX2_add 87 = .ok (.iconst 2, 1) := by decide +kernel
theorem dX2_add_88 : decode cX2_add 88 = .ok (.goto 26, 3) := by decide +kernel
theorem dX2_add_91 : decode cX2_add 91 = .ok (.aload_n 0, 1) := by decide +kernel
theorem dX2_add_92 : decode cX2_add 92 = .ok (.getfield 49, 3) := by decide +kernel
theorem dX2_add_95 : decode cX2_add 95 = .ok (.iload_n 2, 1) := by decide +kernel
theorem dX2_add_96 : decode cX2_add 96 = .ok (.baload, 1) := by decide +kernel
theorem dX2_add_97 : decode cX2_add 97 = .ok (.ifCond .ne 12, 3) := by decide +kernel
theorem dX2_add_100 : decode cX2_add 100 = .ok (.aload_n 0, 1) := by decide +kernel
theorem dX2_add_101 : decode cX2_add 101 = .ok (.getfield 61, 3) := by decide +kernel
theorem dX2_add_104 : decode cX2_add 104 = .ok (.bipush 40, 2) := by decide +kernel
theorem dX2_add_106 : decode cX2_add 106 = .ok (.if_icmp .ne 7, 3) := by decide +kernel
theorem dX2_add_109 : decode cX2_add 109 = .ok (.iconst 3, 1) := by decide +kernel
theorem dX2_add_110 : decode cX2_add 110 = .ok (.goto 4, 3) := by decide +kernel
theorem dX2_add_113 : decode cX2_add 113 = .ok (.iconst 0, 1) := by decide +kernel
theorem dX2_add_114 : decode cX2_add 114 = .ok (.invokevirtual 77, 3) := by decide +kernel
theorem dX2_add_117 : decode cX2_add 117 = .ok (.ifCond .eq 5, 3) := by decide +kernel
theorem dX2_add_120 : decode cX2_add 120 = .ok (.iconst 0, 1) := by decide +kernel
theorem dX2_add_121 : decode cX2_add 121 = .ok (.ireturn, 1) := by decide +kernel
theorem dX2_add_122 : decode cX2_add 122 = .ok (.aload_n 0, 1) := by decide +kernel
theorem dX2_add_123 : decode cX2_add 123 = .ok (.getfield 7, 3) := by decide +kernel
theorem dX2_add_126 : decode cX2_add 126 = .ok (.aload_n 0, 1) := by decide +kernel
theorem dX2_add_127 : decode cX2_add 127 = .ok (.getfield 61, 3) := by decide +kernel
theorem dX2_add_130 : decode cX2_add 130 = .ok (.iload_n 1, 1) := by decide +kernel
theorem dX2_add_131 : decode cX2_add 131 = .ok (.iastore, 1) := by decide +kernel
theorem dX2_add_132 : decode cX2_add 132 = .ok (.aload_n 0, 1) := by decide +kernel
theorem dX2_add_133 : decode cX2_add 133 = .ok (.getfield 13, 3) := by decide +kernel
theorem dX2_add_136 : decode cX2_add 136 = .ok (.aload_n 0, 1) := by decide +kernel
theorem dX2_add_137 : decode cX2_add 137 = .ok (.getfield 61, 3) := by decide +kernel
theorem dX2_add_140 : decode cX2_add 140 = .ok (.iload_n 2, 1) := by decide +kernel
theorem dX2_add_141 : decode cX2_add 141 = .ok (.iastore, 1) := by decide +kernel
theorem dX2_add_142 : decode cX2_add 142 = .ok (.aload_n 0, 1) := by decide +kernel
theorem dX2_add_143 : decode cX2_add 143 = .ok (.getfield 16, 3) := by decide +kernel
theorem dX2_add_146 : decode cX2_add 146 = .ok (.aload_n 0, 1) := by decide +kernel
theorem dX2_add_147 : decode cX2_add 147 = .ok (.getfield 61, 3) := by decide +kernel
theorem dX2_add_150 : decode cX2_add 150 = .ok (.iload_n 3, 1) := by decide +kernel
theorem dX2_add_151 : decode cX2_add 151 = .ok (.iastore, 1) := by decide +kernel
theorem dX2_add_152 : decode cX2_add 152 = .ok (.aload_n 0, 1) := by decide +kernel
theorem dX2_add_153 : decode cX2_add 153 = .ok (.getfield 19, 3) := by decide +kernel
theorem dX2_add_156 : decode cX2_add 156 = .ok (.aload_n 0, 1) := by decide +kernel
theorem dX2_add_157 : decode cX2_add 157 = .ok (.getfield 61, 3) := by decide +kernel
theorem dX2_add_160 : decode cX2_add 160 = .ok (.iload 4, 2) := by decide +kernel
theorem dX2_add_162 : decode cX2_add 162 = .ok (.iastore, 1) := by decide +kernel
theorem dX2_add_163 : decode cX2_add 163 = .ok (.aload_n 0, 1) := by decide +kernel
theorem dX2_add_164 : decode cX2_add 164 = .ok (.getfield 22, 3) := by decide +kernel
theorem dX2_add_167 : decode cX2_add 167 = .ok (.aload_n 0, 1) := by decide +kernel
theorem dX2_add_168 : decode cX2_add 168 = .ok (.getfield 61, 3) := by decide +kernel
theorem dX2_add_171 : decode cX2_add 171 = .ok (.iload 5, 2) := by decide +kernel
theorem dX2_add_173 : decode cX2_add 173 = .ok (.iastore, 1) := by decide +kernel
theorem dX2_add_174 : decode cX2_add 174 = .ok (.aload_n 0, 1) := by decide +kernel
theorem dX2_add_175 : decode cX2_add 175 = .ok (.getfield 25, 3) := by decide +kernel
theorem dX2_add_178 : decode cX2_add 178 = .ok (.aload_n 0, 1) := by decide +kernel
theorem dX2_add_179 : decode cX2_add 179 = .ok (.getfield 61, 3) := by decide +kernel
theorem dX2_add_182 : decode cX2_add 182 = .ok (.iload 6, 2) := by decide +kernel
theorem dX2_add_184 : decode cX2_add 184 = .ok (.iastore, 1) := by decide +kernel
theorem dX2_add_185 : decode cX2_add 185 = .ok (.aload_n 0, 1) := by decide +kernel
theorem dX2_add_186 : decode cX2_add 186 = .ok (.dup, 1) := by decide +kernel
theorem dX2_add_187 : decode cX2_add 187 = .ok (.getfield 61, 3) := by decide +kernel
theorem dX2_add_190 : decode cX2_add 190 = .ok (.iconst 1, 1) := by decide +kernel
theorem dX2_add_191 : decode cX2_add 191 = .ok (.iadd, 1) := by decide +kernel
theorem dX2_add_192 : decode cX2_add 192 = .ok (.putfield 61, 3) := by decide +kernel
theorem dX2_add_195 : decode cX2_add 195 = .ok (.aload_n 0, 1) := by decide +kernel
theorem dX2_add_196 : decode cX2_add 196 = .ok (.aload_n 0, 1) := by decide +kernel
theorem dX2_add_197 : decode cX2_add 197 = .ok (.getfield 61, 3) := by decide +kernel
theorem dX2_add_200 : decode cX2_add 200 = .ok (.iconst 1, 1) := by decide +kernel
theorem dX2_add_201 : decode cX2_add 201 = .ok (.isub, 1) := by decide +kernel
theorem dX2_add_202 : decode cX2_add 202 = .ok (.iload_n 1, 1) := by decide +kernel
theorem dX2_add_203 : decode cX2_add 203 = .ok (.invokevirtual 80, 3) := by decide +kernel
theorem dX2_add_206 : decode cX2_add 206 = .ok (.aload_n 0, 1) := by decide +kernel
theorem dX2_add_207 : decode cX2_add 207 = .ok (.getfield 61, 3) := by decide +kernel
theorem dX2_add_210 : decode cX2_add 210 = .ok (.iconst 1, 1) := by decide +kernel
theorem dX2_add_211 : decode cX2_add 211 = .ok (.isub, 1) := by decide +kernel
theorem dX2_add_212 : decode cX2_add 212 = .ok (.ireturn, 1) := by decide +kernel
theorem dX2_isTaken_0 : decode cX2_isTaken 0 = .ok (.aload_n 0, 1) := by decide +kernel
theorem dX2_isTaken_1 : decode cX2_isTaken 1 = .ok (.getfield 31, 3) := by decide +kernel
theorem dX2_isTaken_4 : decode cX2_isTaken 4 = .ok (.iload_n 3, 1) := by decide +kernel
theorem dX2_isTaken_5 : decode cX2_isTaken 5 = .ok (.iaload, 1) := by decide +kernel
theorem dX2_isTaken_6 : decode cX2_isTaken 6 = .ok (.iload_n 2, 1) := by decide +kernel
theorem dX2_isTaken_7 : decode cX2_isTaken 7 = .ok (.if_icmp .le 23, 3) := by decide +kernel
theorem dX2_isTaken_10 : decode cX2_isTaken 10 = .ok (.aload_n 0, 1) := by decide +kernel
theorem dX2_isTaken_11 : decode cX2_isTaken 11 = .ok (.getfield 34, 3) := by decide +kernel
theorem dX2_isTaken_14 : decode cX2_isTaken 14 = .ok (.iload_n 3, 1) := by decide +kernel
theorem dX2_isTaken_15 : decode cX2_isTaken 15 = .ok (.iaload, 1) := by decide +kernel
theorem dX2_isTaken_16 : decode cX2_isTaken 16 = .ok (.iload_n 1, 1) := by decide +kernel
theorem dX2_isTaken_17 : decode cX2_isTaken 17 = .ok (.if_icmp .eq 13, 3) := by decide +kernel
theorem dX2_isTaken_20 : decode cX2_isTaken 20 = .ok (.iload_n 1, 1) := by decide +kernel
theorem dX2_isTaken_21 : decode cX2_isTaken 21 = .ok (.aload_n 0, 1) := by decide +kernel
theorem dX2_isTaken_22 : decode cX2_isTaken 22 = .ok (.getfield 34, 3) := by decide +kernel
theorem dX2_isTaken_25 : decode cX2_isTaken 25 = .ok (.iload_n 3, 1) := by decide +kernel
theorem dX2_isTaken_26 : decode cX2_isTaken 26 = .ok (.iaload, 1) := by decide +kernel
theorem dX2_isTaken_27 : decode cX2_isTaken 27 = .ok (.if_icmp .ge 7, 3) := by decide +kernel
theorem dX2_isTaken_30 : decode cX2_isTaken 30 = .ok (.iconst 1, 1) := by decide +kernel
theorem dX2_isTaken_31 : decode cX2_isTaken 31 = .ok (.goto 4, 3) := by decide +kernel
theorem dX2_isTaken_34 : decode cX2_isTaken 34 = .ok (.iconst 0, 1) := by decide +kernel
theorem dX2_isTaken_35 : decode cX2_isTaken 35 = .ok (.ireturn, 1) := by decide +kernel
set_option maxRecDepth 20000 in
theorem ggX2_move_X2_isTrade : GoodIn wsX2_move wsX2_isTrade := goodIn_r _ [10, 11, 12, 9, 13] (by decide +kernel) (by decide +kernel)
set_option maxRecDepth 20000 in
theorem gX2_move_X2_isTrade : GoodIn wsX2_move (va_wsS RX2 67 yX2_isTrade wsX2_isTrade) := goodIn_app (goodIn_of _ (by decide +kernel)) ggX2_move_X2_isTrade
set_option maxRecDepth 20000 in
theorem ggX2_move_X2_isElement : GoodIn wsX2_move wsX2_isElement := goodIn_r _ [17, 18, 11, 12, 9, 13, 37, 38, 39, 40, 41, 42, 43, 44, 45, 46, 47, 48, 49, 50, 51, 52, 53, 54] (by decide +kernel) (by decide +kernel)
set_option maxRecDepth 20000 in
theorem gX2_move_X2_isElement : GoodIn wsX2_move (wsV RX2 84 RX2 yX2_isElement wsX2_isElement) := goodIn_app (goodIn_of _ (by decide +kernel)) ggX2_move_X2_isElement
set_option maxRecDepth 20000 in
theorem ggX2_move_X2_in : GoodIn wsX2_move wsX2_in := goodIn_r _ [13] (by decide +kernel) (by decide +kernel)
set_option maxRecDepth 20000 in
theorem gX2_move_X2_in : GoodIn wsX2_move (va_wsS RX2 57 yX2_in wsX2_in) := goodIn_app (goodIn_of _ (by decide +kernel)) ggX2_move_X2_in
set_option maxRecDepth 20000 in
theorem ggX2_move_X2_isSide : GoodIn wsX2_move wsX2_isSide := goodIn_r _ [21, 11, 12, 9, 13] (by decide +kernel) (by decide +kernel)
set_option maxRecDepth 20000 in
theorem gX2_move_X2_isSide : GoodIn wsX2_move (va_wsS RX2 74 yX2_isSide wsX2_isSide) := goodIn_app (goodIn_of _ (by decide +kernel)) ggX2_move_X2_isSide
set_option maxRecDepth 20000 in
theorem ggX2_move_X2_refused : GoodIn wsX2_move wsX2_refused := goodIn_r _ [25, 26, 37, 38, 39, 40, 41, 42, 43, 44, 45, 46, 47, 48, 49, 50, 51, 52, 53, 54] (by decide +kernel) (by decide +kernel)
set_option maxRecDepth 20000 in
theorem gX2_move_X2_refused : GoodIn wsX2_move (wsV RX2 77 RX2 yX2_refused wsX2_refused) := goodIn_app (goodIn_of _ (by decide +kernel)) ggX2_move_X2_refused
set_option maxRecDepth 20000 in
theorem ggX2_move_X2_isTaken : GoodIn wsX2_move wsX2_isTaken := goodIn_r _ [30, 31, 32, 37, 38, 39, 40, 41, 42, 43, 44, 45, 46, 47, 48, 49, 50, 51, 52, 53, 54] (by decide +kernel) (by decide +kernel)
set_option maxRecDepth 20000 in
theorem gX2_move_X2_isTaken : GoodIn wsX2_move (wsV RX2 87 RX2 yX2_isTaken wsX2_isTaken) := goodIn_app (goodIn_of _ (by decide +kernel)) ggX2_move_X2_isTaken
set_option maxRecDepth 20000 in
theorem ggX2_move_X2_change : GoodIn wsX2_move wsX2_change := goodIn_r _ [36, 1, 31, 32, 37, 38, 39, 40, 41, 42, 43, 44, 45, 46, 47, 48, 49, 50, 51, 52, 53, 54] (by decide +kernel) (by decide +kernel)
set_option maxRecDepth 20000 in
theorem gX2_move_X2_change : GoodIn wsX2_move (wsV RX2 80 RX2 yX2_change wsX2_change) := goodIn_app (goodIn_of _ (by decide +kernel)) ggX2_move_X2_change
theorem dX2_move_0 : decode cX2_move 0 = .ok (.iload_n 1, 1) := by decide +kernel
theorem dX2_move_1 : decode cX2_move 1 = .ok (.invokestatic 67, 3) := by decide +kernel
theorem dX2_move_4 : decode cX2_move 4 = .ok (.ifCond .eq 15, 3) := by decide +kernel
theorem dX2_move_7 : decode cX2_move 7 = .ok (.aload_n 0, 1) := by decide +kernel
theorem dX2_move_8 : decode cX2_move 8 = .ok (.iload_n 3, 1) := by decide +kernel
theorem dX2_move_9 : decode cX2_move 9 = .ok (.invokevirtual 84, 3) := by decide +kernel
theorem dX2_move_12 : decode cX2_move 12 = .ok (.ifCond .eq 7, 3) := by decide +kernel
theorem dX2_move_15 : decode cX2_move 15 = .ok (.iconst 1, 1) := by decide +kernel
theorem dX2_move_16 : decode cX2_move 16 = .ok (.goto 4, 3) := by decide +kernel
theorem dX2_move_19 : decode cX2_move 19 = .ok (.iconst 0, 1) := by decide +kernel
theorem dX2_move_20 : decode cX2_move 20 = .ok (.istore 6, 2) := by decide +kernel
theorem dX2_move_22 : decode cX2_move 22 = .ok (.iload 6, 2) := by decide +kernel
theorem dX2_move_24 : decode cX2_move 24 = .ok (.ifCond .eq 43, 3) := by decide +kernel
theorem dX2_move_27 : decode cX2_move 27 = .ok (.iload_n 2, 1) := by decide +kernel
theorem dX2_move_28 : decode cX2_move 28 = .ok (.iconst 0, 1) := by decide +kernel
theorem dX2_move_29 : decode cX2_move 29 = .ok (.aload_n 0, 1) := by decide +kernel
theorem dX2_move_30 : decode cX2_move 30 = .ok (.getfield 64, 3) := by decide +kernel
theorem dX2_move_33 : decode cX2_move 33 = .ok (.invokestatic 57, 3) := by decide +kernel
theorem dX2_move_36 : decode cX2_move 36 = .ok (.ifCond .eq 31, 3) := by decide +kernel
theorem dX2_move_39 : decode cX2_move 39 = .ok (.iload 4, 2) := by decide +kernel
theorem dX2_move_41 : decode cX2_move 41 = .ok (.bipush (-11), 2) := by decide +kernel
theorem dX2_move_43 : decode cX2_move 43 = .ok (.bipush 11, 2) := by decide +kernel
theorem dX2_move_45 : decode cX2_move 45 = .ok (.invokestatic 57, 3) := by decide +kernel
theorem dX2_move_48 : decode cX2_move 48 = .ok (.ifCond .eq 19, 3) := by decide +kernel
theorem dX2_move_51 : decode cX2_move 51 = .ok (.iload 5, 2) := by decide +kernel
theorem dX2_move_53 : decode cX2_move 53 = .ok (.bipush (-11), 2) := by decide +kernel
theorem dX2_move_55 : decode cX2_move 55 = .ok (.bipush 11, 2) := by decide +kernel
theorem dX2_move_57 : decode cX2_move 57 = .ok (.invokestatic 57, 3) := by decide +kernel
theorem dX2_move_60 : decode cX2_move 60 = .ok (.ifCond .eq 7, 3) := by decide +kernel
theorem dX2_move_63 : decode cX2_move 63 = .ok (.iconst 1, 1) := by decide +kernel
theorem dX2_move_64 : decode cX2_move 64 = .ok (.goto 4, 3) := by decide +kernel
theorem dX2_move_67 : decode cX2_move 67 = .ok (.iconst 0, 1) := by decide +kernel
theorem dX2_move_68 : decode cX2_move 68 = .ok (.istore 7, 2) := by decide +kernel
theorem dX2_move_70 : decode cX2_move 70 = .ok (.iload 7, 2) := by decide +kernel
theorem dX2_move_72 : decode cX2_move 72 = .ok (.ifCond .eq 67, 3) := by decide +kernel
theorem dX2_move_75 : decode cX2_move 75 = .ok (.aload_n 0, 1) := by decide +kernel
theorem dX2_move_76 : decode cX2_move 76 = .ok (.getfield 16, 3) := by decide +kernel
theorem dX2_move_79 : decode cX2_move 79 = .ok (.iload_n 3, 1) := by decide +kernel
theorem dX2_move_80 : decode cX2_move 80 = .ok (.iaload, 1) := by decide +kernel
theorem dX2_move_81 : decode cX2_move 81 = .ok (.iload 4, 2) := by decide +kernel
theorem dX2_move_83 : decode cX2_move 83 = .ok (.iadd, 1) := by decide +kernel
theorem dX2_move_84 : decode cX2_move 84 = .ok (.invokestatic 74, 3) := by decide +kernel
theorem dX2_move_87 : decode cX2_move 87 = .ok (.ifCond .eq 52, 3) := by decide +kernel
theorem dX2_move_90 : decode cX2_move 90 = .ok (.aload_n 0, 1) := by decide +kernel
theorem dX2_move_91 : decode cX2_move 91 = .ok (.getfield 22, 3) := by decide +kernel
theorem dX2_move_94 : decode cX2_move 94 = .ok (.iload_n 3, 1) := by decide +kernel
theorem dX2_move_95 : decode cX2_move 95 = .ok (.iaload, 1) := by decide +kernel
theorem dX2_move_96 : decode cX2_move 96 = .ok (.iload 4, 2) := by decide +kernel
theorem dX2_move_98 : decode cX2_move 98 = .ok (.iadd, 1) := by decide +kernel
theorem dX2_move_99 : decode cX2_move 99 = .ok (.invokestatic 74, 3) := by decide +kernel
theorem dX2_move_102 : decode cX2_move 102 = .ok (.ifCond .eq 37, 3) := by decide +kernel
theorem dX2_move_105 : decode cX2_move 105 = .ok (.aload_n 0, 1) := by decide +kernel
theorem dX2_move_106 : decode cX2_move 106 = .ok (.getfield 19, 3) := by decide +kernel
theorem dX2_move_109 : decode cX2_move 109 = .ok (.iload_n 3, 1) := by decide +kernel
theorem dX2_move_110 : decode cX2_move 110 = .ok (.iaload, 1) := by decide +kernel
theorem dX2_move_111 : decode cX2_move 111 = .ok (.iload 5, 2) := by decide +kernel
theorem dX2_move_113 : decode cX2_move 113 = .ok (.iadd, 1) := by decide +kernel
theorem dX2_move_114 : decode cX2_move 114 = .ok (.invokestatic 74, 3) := by decide +kernel
theorem dX2_move_117 : decode cX2_move 117 = .ok (.ifCond .eq 22, 3) := by decide +kernel
theorem dX2_move_120 : decode cX2_move 120 = .ok (.aload_n 0, 1) := by decide +kernel
theorem dX2_move_121 : decode cX2_move 121 = .ok (.getfield 25, 3) := by decide +kernel
theorem dX2_move_124 : decode cX2_move 124 = .ok (.iload_n 3, 1) := by decide +kernel
theorem dX2_move_125 : decode cX2_move 125 = .ok (.iaload, 1) := by decide +kernel
theorem dX2_move_126 : decode cX2_move 126 = .ok (.iload 5, 2) := by decide +kernel
theorem dX2_move_128 : decode cX2_move 128 = .ok (.iadd, 1) := by decide +kernel
theorem dX2_move_129 : decode cX2_move 129 = .ok (.invokestatic 74, 3) := by decide +kernel
theorem dX2_move_132 : decode cX2_move 132 = .ok (.ifCond .eq 7, 3) := by decide +kernel
theorem dX2_move_135 : decode cX2_move 135 = .ok (.iconst 1, 1) := by decide +kernel
theorem dX2_move_136 : decode cX2_move 136 = .ok (.goto 4, 3) := by decide +kernel
theorem dX2_move_139 : decode cX2_move 139 = .ok (.iconst 0, 1) := by decide +kernel
theorem dX2_move_140 : decode cX2_move 140 = .ok (.istore 7, 2) := by decide +kernel
theorem dX2_move_142 : decode cX2_move 142 = .ok (.aload_n 0, 1) := by decide +kernel
theorem dX2_move_143 : decode cX2_move 143 = .ok (.iload 6, 2) := by decide +kernel
theorem dX2_move_145 : decode cX2_move 145 = .ok (.ifCond .ne 7, 3) := by decide +kernel
theorem dX2_move_148 : decode cX2_move 148 = .ok (.iconst 1, 1) := by decide +kernel
theorem dX2_move_149 : decode cX2_move 149 = .ok (.goto 26, 3) := by decide +kernel
theorem dX2_move_152 : decode cX2_move 152 = .ok (.iload 7, 2) := by decide +kernel
theorem dX2_move_154 : decode cX2_move 154 = .ok (.ifCond .ne 7, 3) := by decide +kernel
theorem dX2_move_157 : decode cX2_move 157 = .ok (.iconst 2, 1) := by decide +kernel
theorem dX2_move_158 : decode cX2_move 158 = .ok (.goto 17, 3) := by decide +kernel
theorem dX2_move_161 : decode cX2_move 161 = .ok (.aload_n 0, 1) := by decide +kernel
theorem dX2_move_162 : decode cX2_move 162 = .ok (.getfield 28, 3) := by decide +kernel
theorem dX2_move_165 : decode cX2_move 165 = .ok (.iload_n 3, 1) := by decide +kernel
theorem dX2_move_166 : decode cX2_move 166 = .ok (.iaload, 1) := by decide +kernel
theorem dX2_move_167 : decode cX2_move 167 = .ok (.ifCond .eq 7, 3) := by decide +kernel
theorem dX2_move_170 : decode cX2_move 170 = .ok (.iconst 3, 1) := by decide +kernel
theorem dX2_move_171 : decode cX2_move 171 = .ok (.goto 4, 3) := by decide +kernel
theorem dX2_move_174 : decode cX2_move 174 = .ok (.iconst 0, 1) := by decide +kernel
theorem dX2_move_175 : decode cX2_move 175 = .ok (.invokevirtual 77, 3) := by decide +kernel
theorem dX2_move_178 : decode cX2_move 178 = .ok (.ifCond .ne 13, 3) := by decide +kernel
theorem dX2_move_181 : decode cX2_move 181 = .ok (.aload_n 0, 1) := by decide +kernel
theorem dX2_move_182 : decode cX2_move 182 = .ok (.iload_n 1, 1) := by decide +kernel
theorem dX2_move_183 : decode cX2_move 183 = .ok (.iload_n 2, 1) := by decide +kernel
theorem dX2_move_184 : decode cX2_move 184 = .ok (.iload_n 3, 1) := by decide +kernel
theorem dX2_move_185 : decode cX2_move 185 = .ok (.invokevirtual 87, 3) := by decide +kernel
theorem dX2_move_188 : decode cX2_move 188 = .ok (.ifCond .ne 5, 3) := by decide +kernel
theorem dX2_move_191 : decode cX2_move 191 = .ok (.iconst 0, 1) := by decide +kernel
theorem dX2_move_192 : decode cX2_move 192 = .ok (.ireturn, 1) := by decide +kernel
theorem dX2_move_193 : decode cX2_move 193 = .ok (.aload_n 0, 1) := by decide +kernel
theorem dX2_move_194 : decode cX2_move 194 = .ok (.getfield 16, 3) := by decide +kernel
theorem dX2_move_197 : decode cX2_move 197 = .ok (.iload_n 3, 1) := by decide +kernel
theorem dX2_move_198 : decode cX2_move 198 = .ok (.dup2, 1) := by decide +kernel
theorem dX2_move_199 : decode cX2_move 199 = .ok (.iaload, 1) := by decide +kernel
theorem dX2_move_200 : decode cX2_move 200 = .ok (.iload 4, 2) := by decide +kernel
theorem dX2_move_202 : decode cX2_move 202 = .ok (.iadd, 1) := by decide +kernel
theorem dX2_move_203 : decode cX2_move 203 = .ok (.iastore, 1) := by decide +kernel
theorem dX2_move_204 : decode cX2_move 204 = .ok (.aload_n 0, 1) := by decide +kernel
theorem dX2_move_205 : decode cX2_move 205 = .ok (.getfield 22, 3) := by decide +kernel
theorem dX2_move_208 : decode cX2_move 208 = .ok (.iload_n 3, 1) := by decide +kernel
theorem dX2_move_209 : decode cX2_move 209 = .ok (.dup2, 1) := by decide +kernel
theorem dX2_move_210 : decode cX2_move 210 = .ok (.iaload, 1) := by decide +kernel
theorem dX2_move_211 : decode cX2_move 211 = .ok (.iload 4, 2) := by decide +kernel
theorem dX2_move_213 : decode cX2_move 213 = .ok (.iadd, 1) := by decide +kernel
theorem dX2_move_214 : decode cX2_move 214 = .ok (.iastore, 1) := by decide +kernel
theorem dX2_move_215 : decode cX2_move 215 = .ok (.aload_n 0, 1) := by decide +kernel
theorem dX2_move_216 : decode cX2_move 216 = .ok (.getfield 19, 3) := by decide +kernel
theorem dX2_move_219 : decode cX2_move 219 = .ok (.iload_n 3, 1) := by decide +kernel
theorem dX2_move_220 : decode cX2_move 220 = .ok (.dup2, 1) := by decide +kernel
theorem dX2_move_221 : decode cX2_move 221 = .ok (.iaload, 1) := by decide +kernel
theorem dX2_move_222 : decode cX2_move 222 = .ok (.iload 5, 2) := by decide +kernel
theorem dX2_move_224 : decode cX2_move 224 = .ok (.iadd, 1) := by decide +kernel
theorem dX2_move_225 : decode cX2_move 225 = .ok (.iastore, 1) := by decide +kernel
theorem dX2_move_226 : decode cX2_move 226 = .ok (.aload_n 0, 1) := by decide +kernel
theorem dX2_move_227 : decode cX2_move 227 = .ok (.getfield 25, 3) := by decide +kernel
theorem dX2_move_230 : decode cX2_move 230 = .ok (.iload_n 3, 1) := by decide +kernel
theorem dX2_move_231 : decode cX2_move 231 = .ok (.dup2, 1) := by decide +kernel
theorem dX2_move_232 : decode cX2_move 232 = .ok (.iaload, 1) := by decide +kernel
theorem dX2_move_233 : decode cX2_move 233 = .ok (.iload 5, 2) := by decide +kernel
theorem dX2_move_235 : decode cX2_move 235 = .ok (.iadd, 1) := by decide +kernel
theorem dX2_move_236 : decode cX2_move 236 = .ok (.iastore, 1) := by decide +kernel
theorem dX2_move_237 : decode cX2_move 237 = .ok (.aload_n 0, 1) := by decide +kernel
theorem dX2_move_238 : decode cX2_move 238 = .ok (.iload_n 3, 1) := by decide +kernel
theorem dX2_move_239 : decode cX2_move 239 = .ok (.iload_n 1, 1) := by decide +kernel
theorem dX2_move_240 : decode cX2_move 240 = .ok (.invokevirtual 80, 3) := by decide +kernel
theorem dX2_move_243 : decode cX2_move 243 = .ok (.iconst 1, 1) := by decide +kernel
theorem dX2_move_244 : decode cX2_move 244 = .ok (.ireturn, 1) := by decide +kernel
set_option maxRecDepth 20000 in
theorem ggX2_remove_X2_isTrade : GoodIn wsX2_remove wsX2_isTrade := goodIn_r _ [6, 7, 8, 5, 9] (by decide +kernel) (by decide +kernel)
set_option maxRecDepth 20000 in
theorem gX2_remove_X2_isTrade : GoodIn wsX2_remove (va_wsS RX2 67 yX2_isTrade wsX2_isTrade) := goodIn_app (goodIn_of _ (by decide +kernel)) ggX2_remove_X2_isTrade
set_option maxRecDepth 20000 in
theorem ggX2_remove_X2_isElement : GoodIn wsX2_remove wsX2_isElement := goodIn_r _ [13, 14, 7, 8, 5, 9, 26, 27, 28, 29, 30, 31, 32, 33, 34, 35, 36, 37, 38, 39, 40, 41, 42, 43] (by decide +kernel) (by decide +kernel)
set_option maxRecDepth 20000 in
theorem gX2_remove_X2_isElement : GoodIn wsX2_remove (wsV RX2 84 RX2 yX2_isElement wsX2_isElement) := goodIn_app (goodIn_of _ (by decide +kernel)) ggX2_remove_X2_isElement
set_option maxRecDepth 20000 in
theorem ggX2_remove_X2_in : GoodIn wsX2_remove wsX2_in := goodIn_r _ [9] (by decide +kernel) (by decide +kernel)
set_option maxRecDepth 20000 in
theorem gX2_remove_X2_in : GoodIn wsX2_remove (va_wsS RX2 57 yX2_in wsX2_in) := goodIn_app (goodIn_of _ (by decide +kernel)) ggX2_remove_X2_in
set_option maxRecDepth 20000 in
theorem ggX2_remove_X2_refused : GoodIn wsX2_remove wsX2_refused := goodIn_r _ [18, 19, 26, 27, 28, 29, 30, 31, 32, 33, 34, 35, 36, 37, 38, 39, 40, 41, 42, 43] (by decide +kernel) (by decide +kernel)
set_option maxRecDepth 20000 in
theorem gX2_remove_X2_refused : GoodIn wsX2_remove (wsV RX2 77 RX2 yX2_refused wsX2_refused) := goodIn_app (goodIn_of _ (by decide +kernel)) ggX2_remove_X2_refused
set_option maxRecDepth 20000 in
theorem ggX2_remove_X2_change : GoodIn wsX2_remove wsX2_change := goodIn_r _ [23, 1, 24, 25, 26, 27, 28, 29, 30, 31, 32, 33, 34, 35, 36, 37, 38, 39, 40, 41, 42, 43] (by decide +kernel) (by decide +kernel)
set_option maxRecDepth 20000 in
theorem gX2_remove_X2_change : GoodIn wsX2_remove (wsV RX2 80 RX2 yX2_change wsX2_change) := goodIn_app (goodIn_of _ (by decide +kernel)) ggX2_remove_X2_change
theorem dX2_remove_0 : decode cX2_remove 0 = .ok (.iload_n 1, 1) := by decide +kernel
theorem dX2_remove_1 : decode cX2_remove 1 = .ok (.invokestatic 67, 3) := by decide +kernel
theorem dX2_remove_4 : decode cX2_remove 4 = .ok (.ifCond .eq 15, 3) := by decide +kernel
theorem dX2_remove_7 : decode cX2_remove 7 = .ok (.aload_n 0, 1) := by decide +kernel
theorem dX2_remove_8 : decode cX2_remove 8 = .ok (.iload_n 3, 1) := by decide +kernel
theorem dX2_remove_9 : decode cX2_remove 9 = .ok (.invokevirtual 84, 3) := by decide +kernel
theorem dX2_remove_12 : decode cX2_remove 12 = .ok (.ifCond .eq 7, 3) := by decide +kernel
theorem dX2_remove_15 : decode cX2_remove 15 = .ok (.iconst 1, 1) := by decide +kernel
theorem dX2_remove_16 : decode cX2_remove 16 = .ok (.goto 4, 3) := by decide +kernel
theorem dX2_remove_19 : decode cX2_remove 19 = .ok (.iconst 0, 1) := by decide +kernel
theorem dX2_remove_20 : decode cX2_remove 20 = .ok (.istore 4, 2) := by decide +kernel
theorem dX2_remove_22 : decode cX2_remove 22 = .ok (.aload_n 0, 1) := by decide +kernel
theorem dX2_remove_23 : decode cX2_remove 23 = .ok (.iload 4, 2) := by decide +kernel
theorem dX2_remove_25 : decode cX2_remove 25 = .ok (.ifCond .ne 7, 3) := by decide +kernel
theorem dX2_remove_28 : decode cX2_remove 28 = .ok (.iconst 1, 1) := by decide +kernel
theorem dX2_remove_29 : decode cX2_remove 29 = .ok (.goto 33, 3) := by decide +kernel
theorem dX2_remove_32 : decode cX2_remove 32 = .ok (.iload_n 2, 1) := by decide +kernel
theorem dX2_remove_33 : decode cX2_remove 33 = .ok (.iconst 0, 1) := by decide +kernel
theorem dX2_remove_34 : decode cX2_remove 34 = .ok (.aload_n 0, 1) := by decide +kernel
theorem dX2_remove_35 : decode cX2_remove 35 = .ok (.getfield 64, 3) := by decide +kernel
theorem dX2_remove_38 : decode cX2_remove 38 = .ok (.invokestatic 57, 3) := by decide +kernel
theorem dX2_remove_41 : decode cX2_remove 41 = .ok (.ifCond .ne 7, 3) := by decide +kernel
theorem dX2_remove_44 : decode cX2_remove 44 = .ok (.iconst 2, 1) := by decide +kernel
theorem dX2_remove_45 : decode cX2_remove 45 = .ok (.goto 17, 3) := by decide +kernel
theorem dX2_remove_48 : decode cX2_remove 48 = .ok (.aload_n 0, 1) := by decide +kernel
theorem dX2_remove_49 : decode cX2_remove 49 = .ok (.getfield 28, 3) := by decide +kernel
theorem dX2_remove_52 : decode cX2_remove 52 = .ok (.iload_n 3, 1) := by decide +kernel
theorem dX2_remove_53 : decode cX2_remove 53 = .ok (.iaload, 1) := by decide +kernel
theorem dX2_remove_54 : decode cX2_remove 54 = .ok (.ifCond .eq 7, 3) := by decide +kernel
theorem dX2_remove_57 : decode cX2_remove 57 = .ok (.iconst 3, 1) := by decide +kernel
theorem dX2_remove_58 : decode cX2_remove 58 = .ok (.goto 4, 3) := by decide +kernel
theorem dX2_remove_61 : decode cX2_remove 61 = .ok (.iconst 0, 1) := by decide +kernel
theorem dX2_remove_62 : decode cX2_remove 62 = .ok (.invokevirtual 77, 3) := by decide +kernel
theorem dX2_remove_65 : decode cX2_remove 65 = .ok (.ifCond .eq 5, 3) := by decide +kernel
theorem dX2_remove_68 : decode cX2_remove 68 = .ok (.iconst 0, 1) := by decide +kernel
theorem dX2_remove_69 : decode cX2_remove 69 = .ok (.ireturn, 1) := by decide +kernel
theorem dX2_remove_70 : decode cX2_remove 70 = .ok (.aload_n 0, 1) := by decide +kernel
theorem dX2_remove_71 : decode cX2_remove 71 = .ok (.getfield 28, 3) := by decide +kernel
theorem dX2_remove_74 : decode cX2_remove 74 = .ok (.iload_n 3, 1) := by decide +kernel
theorem dX2_remove_75 : decode cX2_remove 75 = .ok (.iconst 4, 1) := by decide +kernel
theorem dX2_remove_76 : decode cX2_remove 76 = .ok (.iastore, 1) := by decide +kernel
theorem dX2_remove_77 : decode cX2_remove 77 = .ok (.aload_n 0, 1) := by decide +kernel
theorem dX2_remove_78 : decode cX2_remove 78 = .ok (.iload_n 3, 1) := by decide +kernel
theorem dX2_remove_79 : decode cX2_remove 79 = .ok (.iload_n 1, 1) := by decide +kernel
theorem dX2_remove_80 : decode cX2_remove 80 = .ok (.invokevirtual 80, 3) := by decide +kernel
theorem dX2_remove_83 : decode cX2_remove 83 = .ok (.iconst 1, 1) := by decide +kernel
theorem dX2_remove_84 : decode cX2_remove 84 = .ok (.ireturn, 1) := by decide +kernel
set_option maxRecDepth 20000 in
theorem ggX2_clear_X2_isTrade : GoodIn wsX2_clear wsX2_isTrade := goodIn_r _ [5, 6, 7, 4, 8] (by decide +kernel) (by decide +kernel)
set_option maxRecDepth 20000 in
theorem gX2_clear_X2_isTrade : GoodIn wsX2_clear (va_wsS RX2 67 yX2_isTrade wsX2_isTrade) := goodIn_app (goodIn_of _ (by decide +kernel)) ggX2_clear_X2_isTrade
set_option maxRecDepth 20000 in
theorem ggX2_clear_X2_in : GoodIn wsX2_clear wsX2_in := goodIn_r _ [8] (by decide +kernel) (by decide +kernel)
set_option maxRecDepth 20000 in
theorem gX2_clear_X2_in : GoodIn wsX2_clear (va_wsS RX2 57 yX2_in wsX2_in) := goodIn_app (goodIn_of _ (by decide +kernel)) ggX2_clear_X2_in
set_option maxRecDepth 20000 in
theorem ggX2_clear_X2_refused : GoodIn wsX2_clear wsX2_refused := goodIn_r _ [12, 13, 14, 15, 16, 17, 18, 19, 20, 21, 22, 23, 24, 25, 26, 27, 28, 29, 30, 31] (by decide +kernel) (by decide +kernel)
set_option maxRecDepth 20000 in
theorem gX2_clear_X2_refused : GoodIn wsX2_clear (wsV RX2 77 RX2 yX2_refused wsX2_refused) := goodIn_app (goodIn_of _ (by decide +kernel)) ggX2_clear_X2_refused
theorem dX2_clear_0 : decode cX2_clear 0 = .ok (.iload_n 1, 1) := by decide +kernel
theorem dX2_clear_1 : decode cX2_clear 1 = .ok (.invokestatic 67, 3) := by decide +kernel
theorem dX2_clear_4 : decode cX2_clear 4 = .ok (.ifCond .eq 14, 3) := by decide +kernel
theorem dX2_clear_7 : decode cX2_clear 7 = .ok (.iload_n 2, 1) := by decide +kernel
theorem dX2_clear_8 : decode cX2_clear 8 = .ok (.invokestatic 67, 3) := by decide +kernel
theorem dX2_clear_11 : decode cX2_clear 11 = .ok (.ifCond .eq 7, 3) := by decide +kernel
theorem dX2_clear_14 : decode cX2_clear 14 = .ok (.iconst 1, 1) := by decide +kernel
theorem dX2_clear_15 : decode cX2_clear 15 = .ok (.goto 4, 3) := by decide +kernel
theorem dX2_clear_18 : decode cX2_clear 18 = .ok (.iconst 0, 1) := by decide +kernel
theorem dX2_clear_19 : decode cX2_clear 19 = .ok (.istore 4, 2) := by decide +kernel
theorem dX2_clear_21 : decode cX2_clear 21 = .ok (.aload_n 0, 1) := by decide +kernel
theorem dX2_clear_22 : decode cX2_clear 22 = .ok (.iload 4, 2) := by decide +kernel
theorem dX2_clear_24 : decode cX2_clear 24 = .ok (.ifCond .ne 7, 3) := by decide +kernel
theorem dX2_clear_27 : decode cX2_clear 27 = .ok (.iconst 1, 1) := by decide +kernel
theorem dX2_clear_28 : decode cX2_clear 28 = .ok (.goto 17, 3) := by decide +kernel
theorem dX2_clear_31 : decode cX2_clear 31 = .ok (.iload_n 3, 1) := by decide +kernel
theorem dX2_clear_32 : decode cX2_clear 32 = .ok (.iconst 0, 1) := by decide +kernel
theorem dX2_clear_33 : decode cX2_clear 33 = .ok (.iconst 3, 1) := by decide +kernel
theorem dX2_clear_34 : decode cX2_clear 34 = .ok (.invokestatic 57, 3) := by decide +kernel
theorem dX2_clear_37 : decode cX2_clear 37 = .ok (.ifCond .ne 7, 3) := by decide +kernel
theorem dX2_clear_40 : decode cX2_clear 40 = .ok (.iconst 2, 1) := by decide +kernel
theorem dX2_clear_41 : decode cX2_clear 41 = .ok (.goto 4, 3) := by decide +kernel
theorem dX2_clear_44 : decode cX2_clear 44 = .ok (.iconst 0, 1) := by decide +kernel
theorem dX2_clear_45 : decode cX2_clear 45 = .ok (.invokevirtual 77, 3) := by decide +kernel
theorem dX2_clear_48 : decode cX2_clear 48 = .ok (.ifCond .eq 5, 3) := by decide +kernel
theorem dX2_clear_51 : decode cX2_clear 51 = .ok (.iconst 0, 1) := by decide +kernel
theorem dX2_clear_52 : decode cX2_clear 52 = .ok (.ireturn, 1) := by decide +kernel
theorem dX2_clear_53 : decode cX2_clear 53 = .ok (.aload_n 0, 1) := by decide +kernel
theorem dX2_clear_54 : decode cX2_clear 54 = .ok (.getfield 40, 3) := by decide +kernel
theorem dX2_clear_57 : decode cX2_clear 57 = .ok (.iconst 3, 1) := by decide +kernel
theorem dX2_clear_58 : decode cX2_clear 58 = .ok (.iload_n 1, 1) := by decide +kernel
theorem dX2_clear_59 : decode cX2_clear 59 = .ok (.imul, 1) := by decide +kernel
theorem dX2_clear_60 : decode cX2_clear 60 = .ok (.iload_n 2, 1) := by decide +kernel
theorem dX2_clear_61 : decode cX2_clear 61 = .ok (.iadd, 1) := by decide +kernel
theorem dX2_clear_62 : decode cX2_clear 62 = .ok (.iaload, 1) := by decide +kernel
theorem dX2_clear_63 : decode cX2_clear 63 = .ok (.istore 5, 2) := by decide +kernel
theorem dX2_clear_65 : decode cX2_clear 65 = .ok (.aload_n 0, 1) := by decide +kernel
theorem dX2_clear_66 : decode cX2_clear 66 = .ok (.getfield 40, 3) := by decide +kernel
theorem dX2_clear_69 : decode cX2_clear 69 = .ok (.iconst 3, 1) := by decide +kernel
theorem dX2_clear_70 : decode cX2_clear 70 = .ok (.iload_n 1, 1) := by decide +kernel
theorem dX2_clear_71 : decode cX2_clear 71 = .ok (.imul, 1) := by decide +kernel
theorem dX2_clear_72 : decode cX2_clear 72 = .ok (.iload_n 2, 1) := by decide +kernel
theorem dX2_clear_73 : decode cX2_clear 73 = .ok (.iadd, 1) := by decide +kernel
theorem dX2_clear_74 : decode cX2_clear 74 = .ok (.iload_n 3, 1) := by decide +kernel
theorem dX2_clear_75 : decode cX2_clear 75 = .ok (.iastore, 1) := by decide +kernel
theorem dX2_clear_76 : decode cX2_clear 76 = .ok (.aload_n 0, 1) := by decide +kernel
theorem dX2_clear_77 : decode cX2_clear 77 = .ok (.getfield 40, 3) := by decide +kernel
theorem dX2_clear_80 : decode cX2_clear 80 = .ok (.iconst 3, 1) := by decide +kernel
theorem dX2_clear_81 : decode cX2_clear 81 = .ok (.iload_n 2, 1) := by decide +kernel
theorem dX2_clear_82 : decode cX2_clear 82 = .ok (.imul, 1) := by decide +kernel
theorem dX2_clear_83 : decode cX2_clear 83 = .ok (.iload_n 1, 1) := by decide +kernel
theorem dX2_clear_84 : decode cX2_clear 84 = .ok (.iadd, 1) := by decide +kernel
theorem dX2_clear_85 : decode cX2_clear 85 = .ok (.iload_n 3, 1) := by decide +kernel
theorem dX2_clear_86 : decode cX2_clear 86 = .ok (.iastore, 1) := by decide +kernel
theorem dX2_clear_87 : decode cX2_clear 87 = .ok (.iload 5, 2) := by decide +kernel
theorem dX2_clear_89 : decode cX2_clear 89 = .ok (.ireturn, 1) := by decide +kernel
set_option maxRecDepth 20000 in
theorem ggX2_part_X2_isTrade : GoodIn wsX2_part wsX2_isTrade := goodIn_r _ [5, 6, 7, 4, 8] (by decide +kernel) (by decide +kernel)
set_option maxRecDepth 20000 in
theorem gX2_part_X2_isTrade : GoodIn wsX2_part (va_wsS RX2 67 yX2_isTrade wsX2_isTrade) := goodIn_app (goodIn_of _ (by decide +kernel)) ggX2_part_X2_isTrade
set_option maxRecDepth 20000 in
theorem ggX2_part_X2_in : GoodIn wsX2_part wsX2_in := goodIn_r _ [8] (by decide +kernel) (by decide +kernel)
set_option maxRecDepth 20000 in
theorem gX2_part_X2_in : GoodIn wsX2_part (va_wsS RX2 57 yX2_in wsX2_in) := goodIn_app (goodIn_of _ (by decide +kernel)) ggX2_part_X2_in
set_option maxRecDepth 20000 in
theorem ggX2_part_X2_refused : GoodIn wsX2_part wsX2_refused := goodIn_r _ [12, 13, 14, 15, 16, 17, 18, 19, 20, 21, 22, 23, 24, 25, 26, 27, 28, 29, 30, 31] (by decide +kernel) (by decide +kernel)
set_option maxRecDepth 20000 in
theorem gX2_part_X2_refused : GoodIn wsX2_part (wsV RX2 77 RX2 yX2_refused wsX2_refused) := goodIn_app (goodIn_of _ (by decide +kernel)) ggX2_part_X2_refused
theorem dX2_part_0 : decode cX2_part 0 = .ok (.aload_n 0, 1) := by decide +kernel
theorem dX2_part_1 : decode cX2_part 1 = .ok (.iload_n 1, 1) := by decide +kernel
theorem dX2_part_2 : decode cX2_part 2 = .ok (.invokestatic 67, 3) := by decide +kernel
theorem dX2_part_5 : decode cX2_part 5 = .ok (.ifCond .ne 7, 3) := by decide +kernel
theorem dX2_part_8 : decode cX2_part 8 = .ok (.iconst 1, 1) := by decide +kernel
theorem dX2_part_9 : decode cX2_part 9 = .ok (.goto 18, 3) := by decide +kernel
theorem dX2_part_12 : decode cX2_part 12 = .ok (.iload_n 2, 1) := by decide +kernel
theorem dX2_part_13 : decode cX2_part 13 = .ok (.iconst 1, 1) := by decide +kernel
theorem dX2_part_14 : decode cX2_part 14 = .ok (.bipush 12, 2) := by decide +kernel
theorem dX2_part_16 : decode cX2_part 16 = .ok (.invokestatic 57, 3) := by decide +kernel
theorem dX2_part_19 : decode cX2_part 19 = .ok (.ifCond .ne 7, 3) := by decide +kernel
theorem dX2_part_22 : decode cX2_part 22 = .ok (.iconst 2, 1) := by decide +kernel
theorem dX2_part_23 : decode cX2_part 23 = .ok (.goto 4, 3) := by decide +kernel
theorem dX2_part_26 : decode cX2_part 26 = .ok (.iconst 0, 1) := by decide +kernel
theorem dX2_part_27 : decode cX2_part 27 = .ok (.invokevirtual 77, 3) := by decide +kernel
theorem dX2_part_30 : decode cX2_part 30 = .ok (.ifCond .eq 5, 3) := by decide +kernel
theorem dX2_part_33 : decode cX2_part 33 = .ok (.iconst 0, 1) := by decide +kernel
theorem dX2_part_34 : decode cX2_part 34 = .ok (.ireturn, 1) := by decide +kernel
theorem dX2_part_35 : decode cX2_part 35 = .ok (.aload_n 0, 1) := by decide +kernel
theorem dX2_part_36 : decode cX2_part 36 = .ok (.getfield 43, 3) := by decide +kernel
theorem dX2_part_39 : decode cX2_part 39 = .ok (.iload_n 1, 1) := by decide +kernel
theorem dX2_part_40 : decode cX2_part 40 = .ok (.iaload, 1) := by decide +kernel
theorem dX2_part_41 : decode cX2_part 41 = .ok (.istore_n 3, 1) := by decide +kernel
theorem dX2_part_42 : decode cX2_part 42 = .ok (.aload_n 0, 1) := by decide +kernel
theorem dX2_part_43 : decode cX2_part 43 = .ok (.getfield 43, 3) := by decide +kernel
theorem dX2_part_46 : decode cX2_part 46 = .ok (.iload_n 1, 1) := by decide +kernel
theorem dX2_part_47 : decode cX2_part 47 = .ok (.iload_n 2, 1) := by decide +kernel
theorem dX2_part_48 : decode cX2_part 48 = .ok (.iastore, 1) := by decide +kernel
theorem dX2_part_49 : decode cX2_part 49 = .ok (.iload_n 3, 1) := by decide +kernel
theorem dX2_part_50 : decode cX2_part 50 = .ok (.ireturn, 1) := by decide +kernel
set_option maxRecDepth 20000 in
theorem ggX2_lead_X2_isTrade : GoodIn wsX2_lead wsX2_isTrade := goodIn_r _ [5, 6, 7, 4, 8] (by decide +kernel) (by decide +kernel)
set_option maxRecDepth 20000 in
theorem gX2_lead_X2_isTrade : GoodIn wsX2_lead (va_wsS RX2 67 yX2_isTrade wsX2_isTrade) := goodIn_app (goodIn_of _ (by decide +kernel)) ggX2_lead_X2_isTrade
set_option maxRecDepth 20000 in
theorem ggX2_lead_X2_in : GoodIn wsX2_lead wsX2_in := goodIn_r _ [8] (by decide +kernel) (by decide +kernel)
set_option maxRecDepth 20000 in
theorem gX2_lead_X2_in : GoodIn wsX2_lead (va_wsS RX2 57 yX2_in wsX2_in) := goodIn_app (goodIn_of _ (by decide +kernel)) ggX2_lead_X2_in
set_option maxRecDepth 20000 in
theorem ggX2_lead_X2_refused : GoodIn wsX2_lead wsX2_refused := goodIn_r _ [12, 13, 14, 15, 16, 17, 18, 19, 20, 21, 22, 23, 24, 25, 26, 27, 28, 29, 30, 31] (by decide +kernel) (by decide +kernel)
set_option maxRecDepth 20000 in
theorem gX2_lead_X2_refused : GoodIn wsX2_lead (wsV RX2 77 RX2 yX2_refused wsX2_refused) := goodIn_app (goodIn_of _ (by decide +kernel)) ggX2_lead_X2_refused
theorem dX2_lead_0 : decode cX2_lead 0 = .ok (.aload_n 0, 1) := by decide +kernel
theorem dX2_lead_1 : decode cX2_lead 1 = .ok (.iload_n 1, 1) := by decide +kernel
theorem dX2_lead_2 : decode cX2_lead 2 = .ok (.invokestatic 67, 3) := by decide +kernel
theorem dX2_lead_5 : decode cX2_lead 5 = .ok (.ifCond .ne 7, 3) := by decide +kernel
theorem dX2_lead_8 : decode cX2_lead 8 = .ok (.iconst 1, 1) := by decide +kernel
theorem dX2_lead_9 : decode cX2_lead 9 = .ok (.goto 18, 3) := by decide +kernel
theorem dX2_lead_12 : decode cX2_lead 12 = .ok (.iload_n 2, 1) := by decide +kernel
theorem dX2_lead_13 : decode cX2_lead 13 = .ok (.iconst 0, 1) := by decide +kernel
theorem dX2_lead_14 : decode cX2_lead 14 = .ok (.bipush 100, 2) := by decide +kernel
theorem dX2_lead_16 : decode cX2_lead 16 = .ok (.invokestatic 57, 3) := by decide +kernel
theorem dX2_lead_19 : decode cX2_lead 19 = .ok (.ifCond .ne 7, 3) := by decide +kernel
theorem dX2_lead_22 : decode cX2_lead 22 = .ok (.iconst 2, 1) := by decide +kernel
theorem dX2_lead_23 : decode cX2_lead 23 = .ok (.goto 4, 3) := by decide +kernel
theorem dX2_lead_26 : decode cX2_lead 26 = .ok (.iconst 0, 1) := by decide +kernel
theorem dX2_lead_27 : decode cX2_lead 27 = .ok (.invokevirtual 77, 3) := by decide +kernel
theorem dX2_lead_30 : decode cX2_lead 30 = .ok (.ifCond .eq 5, 3) := by decide +kernel
theorem dX2_lead_33 : decode cX2_lead 33 = .ok (.iconst 0, 1) := by decide +kernel
theorem dX2_lead_34 : decode cX2_lead 34 = .ok (.ireturn, 1) := by decide +kernel
theorem dX2_lead_35 : decode cX2_lead 35 = .ok (.aload_n 0, 1) := by decide +kernel
theorem dX2_lead_36 : decode cX2_lead 36 = .ok (.getfield 46, 3) := by decide +kernel
theorem dX2_lead_39 : decode cX2_lead 39 = .ok (.iload_n 1, 1) := by decide +kernel
theorem dX2_lead_40 : decode cX2_lead 40 = .ok (.iaload, 1) := by decide +kernel
theorem dX2_lead_41 : decode cX2_lead 41 = .ok (.istore_n 3, 1) := by decide +kernel
theorem dX2_lead_42 : decode cX2_lead 42 = .ok (.aload_n 0, 1) := by decide +kernel
theorem dX2_lead_43 : decode cX2_lead 43 = .ok (.getfield 46, 3) := by decide +kernel
theorem dX2_lead_46 : decode cX2_lead 46 = .ok (.iload_n 1, 1) := by decide +kernel
theorem dX2_lead_47 : decode cX2_lead 47 = .ok (.iload_n 2, 1) := by decide +kernel
theorem dX2_lead_48 : decode cX2_lead 48 = .ok (.iastore, 1) := by decide +kernel
theorem dX2_lead_49 : decode cX2_lead 49 = .ok (.iload_n 3, 1) := by decide +kernel
theorem dX2_lead_50 : decode cX2_lead 50 = .ok (.ireturn, 1) := by decide +kernel
set_option maxRecDepth 20000 in
theorem ggX2_cellsOf_X2_size : GoodIn wsX2_cellsOf wsX2_size := goodIn_r _ [8] (by decide +kernel) (by decide +kernel)
set_option maxRecDepth 20000 in
theorem gX2_cellsOf_X2_size : GoodIn wsX2_cellsOf (va_wsS RX2 90 yX2_size wsX2_size) := goodIn_app (goodIn_of _ (by decide +kernel)) ggX2_cellsOf_X2_size
theorem dX2_cellsOf_0 : decode cX2_cellsOf 0 = .ok (.iconst 1, 1) := by decide +kernel
theorem dX2_cellsOf_1 : decode cX2_cellsOf 1 = .ok (.aload_n 0, 1) := by decide +kernel
theorem dX2_cellsOf_2 : decode cX2_cellsOf 2 = .ok (.getfield 22, 3) := by decide +kernel
theorem dX2_cellsOf_5 : decode cX2_cellsOf 5 = .ok (.iload_n 1, 1) := by decide +kernel
theorem dX2_cellsOf_6 : decode cX2_cellsOf 6 = .ok (.iaload, 1) := by decide +kernel
theorem dX2_cellsOf_7 : decode cX2_cellsOf 7 = .ok (.aload_n 0, 1) := by decide +kernel
theorem dX2_cellsOf_8 : decode cX2_cellsOf 8 = .ok (.getfield 16, 3) := by decide +kernel
theorem dX2_cellsOf_11 : decode cX2_cellsOf 11 = .ok (.iload_n 1, 1) := by decide +kernel
theorem dX2_cellsOf_12 : decode cX2_cellsOf 12 = .ok (.iaload, 1) := by decide +kernel
theorem dX2_cellsOf_13 : decode cX2_cellsOf 13 = .ok (.isub, 1) := by decide +kernel
theorem dX2_cellsOf_14 : decode cX2_cellsOf 14 = .ok (.invokestatic 90, 3) := by decide +kernel
theorem dX2_cellsOf_17 : decode cX2_cellsOf 17 = .ok (.iadd, 1) := by decide +kernel
theorem dX2_cellsOf_18 : decode cX2_cellsOf 18 = .ok (.aload_n 0, 1) := by decide +kernel
theorem dX2_cellsOf_19 : decode cX2_cellsOf 19 = .ok (.getfield 25, 3) := by decide +kernel
theorem dX2_cellsOf_22 : decode cX2_cellsOf 22 = .ok (.iload_n 1, 1) := by decide +kernel
theorem dX2_cellsOf_23 : decode cX2_cellsOf 23 = .ok (.iaload, 1) := by decide +kernel
theorem dX2_cellsOf_24 : decode cX2_cellsOf 24 = .ok (.aload_n 0, 1) := by decide +kernel
theorem dX2_cellsOf_25 : decode cX2_cellsOf 25 = .ok (.getfield 19, 3) := by decide +kernel
theorem dX2_cellsOf_28 : decode cX2_cellsOf 28 = .ok (.iload_n 1, 1) := by decide +kernel
theorem dX2_cellsOf_29 : decode cX2_cellsOf 29 = .ok (.iaload, 1) := by decide +kernel
theorem dX2_cellsOf_30 : decode cX2_cellsOf 30 = .ok (.isub, 1) := by decide +kernel
theorem dX2_cellsOf_31 : decode cX2_cellsOf 31 = .ok (.invokestatic 90, 3) := by decide +kernel
theorem dX2_cellsOf_34 : decode cX2_cellsOf 34 = .ok (.iadd, 1) := by decide +kernel
theorem dX2_cellsOf_35 : decode cX2_cellsOf 35 = .ok (.ireturn, 1) := by decide +kernel
set_option maxRecDepth 20000 in
theorem ggX2_partsOf_X2_cellsOf : GoodIn wsX2_partsOf wsX2_cellsOf := goodIn_r _ [7, 8, 9, 10, 11, 12, 13, 6, 14, 15, 16, 17, 18, 19, 20, 21, 22, 23, 24, 25, 26, 27, 28, 29, 30, 31, 32] (by decide +kernel) (by decide +kernel)
set_option maxRecDepth 20000 in
theorem gX2_partsOf_X2_cellsOf : GoodIn wsX2_partsOf (wsV RX2 94 RX2 yX2_cellsOf wsX2_cellsOf) := goodIn_app (goodIn_of _ (by decide +kernel)) ggX2_partsOf_X2_cellsOf
theorem dX2_partsOf_0 : decode cX2_partsOf 0 = .ok (.aload_n 0, 1) := by decide +kernel
theorem dX2_partsOf_1 : decode cX2_partsOf 1 = .ok (.iload_n 1, 1) := by decide +kernel
theorem dX2_partsOf_2 : decode cX2_partsOf 2 = .ok (.invokevirtual 94, 3) := by decide +kernel
theorem dX2_partsOf_5 : decode cX2_partsOf 5 = .ok (.aload_n 0, 1) := by decide +kernel
theorem dX2_partsOf_6 : decode cX2_partsOf 6 = .ok (.getfield 43, 3) := by decide +kernel
theorem dX2_partsOf_9 : decode cX2_partsOf 9 = .ok (.aload_n 0, 1) := by decide +kernel
theorem dX2_partsOf_10 : decode cX2_partsOf 10 = .ok (.getfield 7, 3) := by decide +kernel
theorem dX2_partsOf_13 : decode cX2_partsOf 13 = .ok (.iload_n 1, 1) := by decide +kernel
theorem dX2_partsOf_14 : decode cX2_partsOf 14 = .ok (.iaload, 1) := by decide +kernel
theorem dX2_partsOf_15 : decode cX2_partsOf 15 = .ok (.iaload, 1) := by decide +kernel
theorem dX2_partsOf_16 : decode cX2_partsOf 16 = .ok (.iadd, 1) := by decide +kernel
theorem dX2_partsOf_17 : decode cX2_partsOf 17 = .ok (.iconst 1, 1) := by decide +kernel
theorem dX2_partsOf_18 : decode cX2_partsOf 18 = .ok (.isub, 1) := by decide +kernel
theorem dX2_partsOf_19 : decode cX2_partsOf 19 = .ok (.aload_n 0, 1) := by decide +kernel
theorem dX2_partsOf_20 : decode cX2_partsOf 20 = .ok (.getfield 43, 3) := by decide +kernel
theorem dX2_partsOf_23 : decode cX2_partsOf 23 = .ok (.aload_n 0, 1) := by decide +kernel
theorem dX2_partsOf_24 : decode cX2_partsOf 24 = .ok (.getfield 7, 3) := by decide +kernel
theorem dX2_partsOf_27 : decode cX2_partsOf 27 = .ok (.iload_n 1, 1) := by decide +kernel
theorem dX2_partsOf_28 : decode cX2_partsOf 28 = .ok (.iaload, 1) := by decide +kernel
theorem dX2_partsOf_29 : decode cX2_partsOf 29 = .ok (.iaload, 1) := by decide +kernel
theorem dX2_partsOf_30 : decode cX2_partsOf 30 = .ok (.idiv, 1) := by decide +kernel
theorem dX2_partsOf_31 : decode cX2_partsOf 31 = .ok (.ireturn, 1) := by decide +kernel
set_option maxRecDepth 20000 in
theorem ggX2_order_X2_isElement : GoodIn wsX2_order wsX2_isElement := goodIn_r _ [10, 11, 12, 13, 9, 14, 36, 37, 38, 39, 40, 41, 42, 43, 44, 45, 46, 47, 48, 49, 50, 51, 52, 53] (by decide +kernel) (by decide +kernel)
set_option maxRecDepth 20000 in
theorem gX2_order_X2_isElement : GoodIn wsX2_order (wsV RX2 84 RX2 yX2_isElement wsX2_isElement) := goodIn_app (goodIn_of _ (by decide +kernel)) ggX2_order_X2_isElement
set_option maxRecDepth 20000 in
theorem ggX2_order_X2_refused : GoodIn wsX2_order wsX2_refused := goodIn_r _ [18, 19, 36, 37, 38, 39, 40, 41, 42, 43, 44, 45, 46, 47, 48, 49, 50, 51, 52, 53] (by decide +kernel) (by decide +kernel)
set_option maxRecDepth 20000 in
theorem gX2_order_X2_refused : GoodIn wsX2_order (wsV RX2 77 RX2 yX2_refused wsX2_refused) := goodIn_app (goodIn_of _ (by decide +kernel)) ggX2_order_X2_refused
set_option maxRecDepth 20000 in
theorem ggX2_order_X2_partsOf : GoodIn wsX2_order wsX2_partsOf := goodIn_r _ [23, 24, 5, 25, 26, 27, 9, 28, 29, 30, 31, 32, 33, 34, 35, 36, 37, 38, 39, 40, 41, 42, 43, 44, 45, 46, 47, 48, 49, 50, 51, 52, 53] (by decide +kernel) (by decide +kernel)
set_option maxRecDepth 20000 in
theorem gX2_order_X2_partsOf : GoodIn wsX2_order (wsV RX2 100 RX2 yX2_partsOf wsX2_partsOf) := goodIn_app (goodIn_of _ (by decide +kernel)) ggX2_order_X2_partsOf
theorem dX2_order_0 : decode cX2_order 0 = .ok (.aload_n 0, 1) := by decide +kernel
theorem dX2_order_1 : decode cX2_order 1 = .ok (.iload_n 1, 1) := by decide +kernel
theorem dX2_order_2 : decode cX2_order 2 = .ok (.invokevirtual 84, 3) := by decide +kernel
theorem dX2_order_5 : decode cX2_order 5 = .ok (.istore_n 2, 1) := by decide +kernel
theorem dX2_order_6 : decode cX2_order 6 = .ok (.aload_n 0, 1) := by decide +kernel
theorem dX2_order_7 : decode cX2_order 7 = .ok (.iload_n 2, 1) := by decide +kernel
theorem dX2_order_8 : decode cX2_order 8 = .ok (.ifCond .ne 7, 3) := by decide +kernel
theorem dX2_order_11 : decode cX2_order 11 = .ok (.iconst 1, 1) := by decide +kernel
theorem dX2_order_12 : decode cX2_order 12 = .ok (.goto 17, 3) := by decide +kernel
theorem dX2_order_15 : decode cX2_order 15 = .ok (.aload_n 0, 1) := by decide +kernel
theorem dX2_order_16 : decode cX2_order 16 = .ok (.getfield 28, 3) := by decide +kernel
theorem dX2_order_19 : decode cX2_order 19 = .ok (.iload_n 1, 1) := by decide +kernel
theorem dX2_order_20 : decode cX2_order 20 = .ok (.iaload, 1) := by decide +kernel
theorem dX2_order_21 : decode cX2_order 21 = .ok (.ifCond .eq 7, 3) := by decide +kernel
theorem dX2_order_24 : decode cX2_order 24 = .ok (.iconst 2, 1) := by decide +kernel
theorem dX2_order_25 : decode cX2_order 25 = .ok (.goto 4, 3) := by decide +kernel
theorem dX2_order_28 : decode cX2_order 28 = .ok (.iconst 0, 1) := by decide +kernel
theorem dX2_order_29 : decode cX2_order 29 = .ok (.invokevirtual 77, 3) := by decide +kernel
theorem dX2_order_32 : decode cX2_order 32 = .ok (.ifCond .eq 5, 3) := by decide +kernel
theorem dX2_order_35 : decode cX2_order 35 = .ok (.iconst 0, 1) := by decide +kernel
theorem dX2_order_36 : decode cX2_order 36 = .ok (.ireturn, 1) := by decide +kernel
theorem dX2_order_37 : decode cX2_order 37 = .ok (.aload_n 0, 1) := by decide +kernel
theorem dX2_order_38 : decode cX2_order 38 = .ok (.getfield 37, 3) := by decide +kernel
theorem dX2_order_41 : decode cX2_order 41 = .ok (.iload_n 1, 1) := by decide +kernel
theorem dX2_order_42 : decode cX2_order 42 = .ok (.aload_n 0, 1) := by decide +kernel
theorem dX2_order_43 : decode cX2_order 43 = .ok (.getfield 97, 3) := by decide +kernel
theorem dX2_order_46 : decode cX2_order 46 = .ok (.aload_n 0, 1) := by decide +kernel
theorem dX2_order_47 : decode cX2_order 47 = .ok (.getfield 46, 3) := by decide +kernel
theorem dX2_order_50 : decode cX2_order 50 = .ok (.aload_n 0, 1) := by decide +kernel
theorem dX2_order_51 : decode cX2_order 51 = .ok (.getfield 7, 3) := by decide +kernel
theorem dX2_order_54 : decode cX2_order 54 = .ok (.iload_n 1, 1) := by decide +kernel
theorem dX2_order_55 : decode cX2_order 55 = .ok (.iaload, 1) := by decide +kernel
theorem dX2_order_56 : decode cX2_order 56 = .ok (.iaload, 1) := by decide +kernel
theorem dX2_order_57 : decode cX2_order 57 = .ok (.iadd, 1) := by decide +kernel
theorem dX2_order_58 : decode cX2_order 58 = .ok (.iastore, 1) := by decide +kernel
theorem dX2_order_59 : decode cX2_order 59 = .ok (.aload_n 0, 1) := by decide +kernel
theorem dX2_order_60 : decode cX2_order 60 = .ok (.getfield 28, 3) := by decide +kernel
theorem dX2_order_63 : decode cX2_order 63 = .ok (.iload_n 1, 1) := by decide +kernel
theorem dX2_order_64 : decode cX2_order 64 = .ok (.aload_n 0, 1) := by decide +kernel
theorem dX2_order_65 : decode cX2_order 65 = .ok (.getfield 37, 3) := by decide +kernel
theorem dX2_order_68 : decode cX2_order 68 = .ok (.iload_n 1, 1) := by decide +kernel
theorem dX2_order_69 : decode cX2_order 69 = .ok (.iaload, 1) := by decide +kernel
theorem dX2_order_70 : decode cX2_order 70 = .ok (.aload_n 0, 1) := by decide +kernel
theorem dX2_order_71 : decode cX2_order 71 = .ok (.getfield 97, 3) := by decide +kernel
theorem dX2_order_74 : decode cX2_order 74 = .ok (.if_icmp .ne 7, 3) := by decide +kernel
theorem dX2_order_77 : decode cX2_order 77 = .ok (.iconst 2, 1) := by decide +kernel
theorem dX2_order_78 : decode cX2_order 78 = .ok (.goto 4, 3) := by decide +kernel
theorem dX2_order_81 : decode cX2_order 81 = .ok (.iconst 1, 1) := by decide +kernel
theorem dX2_order_82 : decode cX2_order 82 = .ok (.iastore, 1) := by decide +kernel
theorem dX2_order_83 : decode cX2_order 83 = .ok (.aload_n 0, 1) := by decide +kernel
theorem dX2_order_84 : decode cX2_order 84 = .ok (.iload_n 1, 1) := by decide +kernel
theorem dX2_order_85 : decode cX2_order 85 = .ok (.invokevirtual 100, 3) := by decide +kernel
theorem dX2_order_88 : decode cX2_order 88 = .ok (.ireturn, 1) := by decide +kernel
set_option maxRecDepth 20000 in
theorem ggX2_cancel_X2_isElement : GoodIn wsX2_cancel wsX2_isElement := goodIn_r _ [8, 9, 10, 11, 7, 12, 18, 19, 20, 21, 22, 23, 24, 25, 26, 27, 28, 29, 30, 31, 32, 33, 34, 35] (by decide +kernel) (by decide +kernel)
set_option maxRecDepth 20000 in
theorem gX2_cancel_X2_isElement : GoodIn wsX2_cancel (wsV RX2 84 RX2 yX2_isElement wsX2_isElement) := goodIn_app (goodIn_of _ (by decide +kernel)) ggX2_cancel_X2_isElement
set_option maxRecDepth 20000 in
theorem ggX2_cancel_X2_refused : GoodIn wsX2_cancel wsX2_refused := goodIn_r _ [16, 17, 18, 19, 20, 21, 22, 23, 24, 25, 26, 27, 28, 29, 30, 31, 32, 33, 34, 35] (by decide +kernel) (by decide +kernel)
set_option maxRecDepth 20000 in
theorem gX2_cancel_X2_refused : GoodIn wsX2_cancel (wsV RX2 77 RX2 yX2_refused wsX2_refused) := goodIn_app (goodIn_of _ (by decide +kernel)) ggX2_cancel_X2_refused
theorem dX2_cancel_0 : decode cX2_cancel 0 = .ok (.aload_n 0, 1) := by decide +kernel
theorem dX2_cancel_1 : decode cX2_cancel 1 = .ok (.iload_n 1, 1) := by decide +kernel
theorem dX2_cancel_2 : decode cX2_cancel 2 = .ok (.invokevirtual 84, 3) := by decide +kernel
theorem dX2_cancel_5 : decode cX2_cancel 5 = .ok (.istore_n 2, 1) := by decide +kernel
theorem dX2_cancel_6 : decode cX2_cancel 6 = .ok (.aload_n 0, 1) := by decide +kernel
theorem dX2_cancel_7 : decode cX2_cancel 7 = .ok (.iload_n 2, 1) := by decide +kernel
theorem dX2_cancel_8 : decode cX2_cancel 8 = .ok (.ifCond .ne 7, 3) := by decide +kernel
theorem dX2_cancel_11 : decode cX2_cancel 11 = .ok (.iconst 1, 1) := by decide +kernel
theorem dX2_cancel_12 : decode cX2_cancel 12 = .ok (.goto 18, 3) := by decide +kernel
theorem dX2_cancel_15 : decode cX2_cancel 15 = .ok (.aload_n 0, 1) := by decide +kernel
theorem dX2_cancel_16 : decode cX2_cancel 16 = .ok (.getfield 28, 3) := by decide +kernel
theorem dX2_cancel_19 : decode cX2_cancel 19 = .ok (.iload_n 1, 1) := by decide +kernel
theorem dX2_cancel_20 : decode cX2_cancel 20 = .ok (.iaload, 1) := by decide +kernel
theorem dX2_cancel_21 : decode cX2_cancel 21 = .ok (.iconst 1, 1) := by decide +kernel
theorem dX2_cancel_22 : decode cX2_cancel 22 = .ok (.if_icmp .eq 7, 3) := by decide +kernel
theorem dX2_cancel_25 : decode cX2_cancel 25 = .ok (.iconst 2, 1) := by decide +kernel
theorem dX2_cancel_26 : decode cX2_cancel 26 = .ok (.goto 4, 3) := by decide +kernel
theorem dX2_cancel_29 : decode cX2_cancel 29 = .ok (.iconst 0, 1) := by decide +kernel
theorem dX2_cancel_30 : decode cX2_cancel 30 = .ok (.invokevirtual 77, 3) := by decide +kernel
theorem dX2_cancel_33 : decode cX2_cancel 33 = .ok (.ifCond .eq 5, 3) := by decide +kernel
theorem dX2_cancel_36 : decode cX2_cancel 36 = .ok (.iconst 0, 1) := by decide +kernel
theorem dX2_cancel_37 : decode cX2_cancel 37 = .ok (.ireturn, 1) := by decide +kernel
theorem dX2_cancel_38 : decode cX2_cancel 38 = .ok (.aload_n 0, 1) := by decide +kernel
theorem dX2_cancel_39 : decode cX2_cancel 39 = .ok (.getfield 28, 3) := by decide +kernel
theorem dX2_cancel_42 : decode cX2_cancel 42 = .ok (.iload_n 1, 1) := by decide +kernel
theorem dX2_cancel_43 : decode cX2_cancel 43 = .ok (.iconst 0, 1) := by decide +kernel
theorem dX2_cancel_44 : decode cX2_cancel 44 = .ok (.iastore, 1) := by decide +kernel
theorem dX2_cancel_45 : decode cX2_cancel 45 = .ok (.aload_n 0, 1) := by decide +kernel
theorem dX2_cancel_46 : decode cX2_cancel 46 = .ok (.getfield 37, 3) := by decide +kernel
theorem dX2_cancel_49 : decode cX2_cancel 49 = .ok (.iload_n 1, 1) := by decide +kernel
theorem dX2_cancel_50 : decode cX2_cancel 50 = .ok (.iaload, 1) := by decide +kernel
theorem dX2_cancel_51 : decode cX2_cancel 51 = .ok (.aload_n 0, 1) := by decide +kernel
theorem dX2_cancel_52 : decode cX2_cancel 52 = .ok (.getfield 97, 3) := by decide +kernel
theorem dX2_cancel_55 : decode cX2_cancel 55 = .ok (.isub, 1) := by decide +kernel
theorem dX2_cancel_56 : decode cX2_cancel 56 = .ok (.ireturn, 1) := by decide +kernel
theorem dX2_gap_0 : decode cX2_gap 0 = .ok (.iload_n 0, 1) := by decide +kernel
theorem dX2_gap_1 : decode cX2_gap 1 = .ok (.iload_n 1, 1) := by decide +kernel
theorem dX2_gap_2 : decode cX2_gap 2 = .ok (.if_icmp .ge 7, 3) := by decide +kernel
theorem dX2_gap_5 : decode cX2_gap 5 = .ok (.iload_n 0, 1) := by decide +kernel
theorem dX2_gap_6 : decode cX2_gap 6 = .ok (.goto 4, 3) := by decide +kernel
theorem dX2_gap_9 : decode cX2_gap 9 = .ok (.iload_n 1, 1) := by decide +kernel
theorem dX2_gap_10 : decode cX2_gap 10 = .ok (.istore 4, 2) := by decide +kernel
theorem dX2_gap_12 : decode cX2_gap 12 = .ok (.iload_n 0, 1) := by decide +kernel
theorem dX2_gap_13 : decode cX2_gap 13 = .ok (.iload_n 1, 1) := by decide +kernel
theorem dX2_gap_14 : decode cX2_gap 14 = .ok (.if_icmp .ge 7, 3) := by decide +kernel
theorem dX2_gap_17 : decode cX2_gap 17 = .ok (.iload_n 1, 1) := by decide +kernel
theorem dX2_gap_18 : decode cX2_gap 18 = .ok (.goto 4, 3) := by decide +kernel
theorem dX2_gap_21 : decode cX2_gap 21 = .ok (.iload_n 0, 1) := by decide +kernel
theorem dX2_gap_22 : decode cX2_gap 22 = .ok (.istore 5, 2) := by decide +kernel
theorem dX2_gap_24 : decode cX2_gap 24 = .ok (.iload_n 2, 1) := by decide +kernel
theorem dX2_gap_25 : decode cX2_gap 25 = .ok (.iload_n 3, 1) := by decide +kernel
theorem dX2_gap_26 : decode cX2_gap 26 = .ok (.if_icmp .ge 7, 3) := by decide +kernel
theorem dX2_gap_29 : decode cX2_gap 29 = .ok (.iload_n 2, 1) := by decide +kernel
theorem dX2_gap_30 : decode cX2_gap 30 = .ok (.goto 4, 3) := by decide +kernel
theorem dX2_gap_33 : decode cX2_gap 33 = .ok (.iload_n 3, 1) := by decide +kernel
theorem dX2_gap_34 : decode cX2_gap 34 = .ok (.istore 6, 2) := by decide +kernel
theorem dX2_gap_36 : decode cX2_gap 36 = .ok (.iload_n 2, 1) := by decide +kernel
theorem dX2_gap_37 : decode cX2_gap 37 = .ok (.iload_n 3, 1) := by decide +kernel
theorem dX2_gap_38 : decode cX2_gap 38 = .ok (.if_icmp .ge 7, 3) := by decide +kernel
theorem dX2_gap_41 : decode cX2_gap 41 = .ok (.iload_n 3, 1) := by decide +kernel
theorem dX2_gap_42 : decode cX2_gap 42 = .ok (.goto 4, 3) := by decide +kernel
theorem dX2_gap_45 : decode cX2_gap 45 = .ok (.iload_n 2, 1) := by decide +kernel
theorem dX2_gap_46 : decode cX2_gap 46 = .ok (.istore 7, 2) := by decide +kernel
theorem dX2_gap_48 : decode cX2_gap 48 = .ok (.iload 6, 2) := by decide +kernel
theorem dX2_gap_50 : decode cX2_gap 50 = .ok (.iload 5, 2) := by decide +kernel
theorem dX2_gap_52 : decode cX2_gap 52 = .ok (.if_icmp .le 11, 3) := by decide +kernel
theorem dX2_gap_55 : decode cX2_gap 55 = .ok (.iload 6, 2) := by decide +kernel
theorem dX2_gap_57 : decode cX2_gap 57 = .ok (.iload 5, 2) := by decide +kernel
theorem dX2_gap_59 : decode cX2_gap 59 = .ok (.isub, 1) := by decide +kernel
theorem dX2_gap_60 : decode cX2_gap 60 = .ok (.goto 19, 3) := by decide +kernel
theorem dX2_gap_63 : decode cX2_gap 63 = .ok (.iload 4, 2) := by decide +kernel
theorem dX2_gap_65 : decode cX2_gap 65 = .ok (.iload 7, 2) := by decide +kernel
theorem dX2_gap_67 : decode cX2_gap 67 = .ok (.if_icmp .le 11, 3) := by decide +kernel
theorem dX2_gap_70 : decode cX2_gap 70 = .ok (.iload 4, 2) := by decide +kernel
theorem dX2_gap_72 : decode cX2_gap 72 = .ok (.iload 7, 2) := by decide +kernel
theorem dX2_gap_74 : decode cX2_gap 74 = .ok (.isub, 1) := by decide +kernel
theorem dX2_gap_75 : decode cX2_gap 75 = .ok (.goto 4, 3) := by decide +kernel
theorem dX2_gap_78 : decode cX2_gap 78 = .ok (.iconst 0, 1) := by decide +kernel
theorem dX2_gap_79 : decode cX2_gap 79 = .ok (.ireturn, 1) := by decide +kernel
set_option maxRecDepth 20000 in
theorem ggX2_doClash_X2_gap : GoodIn wsX2_doClash wsX2_gap := goodIn_r _ [12] (by decide +kernel) (by decide +kernel)
set_option maxRecDepth 20000 in
theorem gX2_doClash_X2_gap : GoodIn wsX2_doClash (va_wsS RX2 103 yX2_gap wsX2_gap) := goodIn_app (goodIn_of _ (by decide +kernel)) ggX2_doClash_X2_gap
theorem dX2_doClash_0 : decode cX2_doClash 0 = .ok (.iload_n 1, 1) := by decide +kernel
theorem dX2_doClash_1 : decode cX2_doClash 1 = .ok (.iload_n 2, 1) := by decide +kernel
theorem dX2_doClash_2 : decode cX2_doClash 2 = .ok (.if_icmp .eq 38, 3) := by decide +kernel
theorem dX2_doClash_5 : decode cX2_doClash 5 = .ok (.aload_n 0, 1) := by decide +kernel
theorem dX2_doClash_6 : decode cX2_doClash 6 = .ok (.getfield 28, 3) := by decide +kernel
theorem dX2_doClash_9 : decode cX2_doClash 9 = .ok (.iload_n 1, 1) := by decide +kernel
theorem dX2_doClash_10 : decode cX2_doClash 10 = .ok (.iaload, 1) := by decide +kernel
theorem dX2_doClash_11 : decode cX2_doClash 11 = .ok (.iconst 4, 1) := by decide +kernel
theorem dX2_doClash_12 : decode cX2_doClash 12 = .ok (.if_icmp .eq 28, 3) := by decide +kernel
theorem dX2_doClash_15 : decode cX2_doClash 15 = .ok (.aload_n 0, 1) := by decide +kernel
theorem dX2_doClash_16 : decode cX2_doClash 16 = .ok (.getfield 28, 3) := by decide +kernel
theorem dX2_doClash_19 : decode cX2_doClash 19 = .ok (.iload_n 2, 1) := by decide +kernel
theorem dX2_doClash_20 : decode cX2_doClash 20 = .ok (.iaload, 1) := by decide +kernel
theorem dX2_doClash_21 : decode cX2_doClash 21 = .ok (.iconst 4, 1) := by decide +kernel
theorem dX2_doClash_22 : decode cX2_doClash 22 = .ok (.if_icmp .eq 18, 3) := by decide +kernel
theorem dX2_doClash_25 : decode cX2_doClash 25 = .ok (.aload_n 0, 1) := by decide +kernel
theorem dX2_doClash_26 : decode cX2_doClash 26 = .ok (.getfield 13, 3) := by decide +kernel
theorem dX2_doClash_29 : decode cX2_doClash 29 = .ok (.iload_n 1, 1) := by decide +kernel
theorem dX2_doClash_30 : decode cX2_doClash 30 = .ok (.iaload, 1) := by decide +kernel
theorem dX2_doClash_31 : decode cX2_doClash 31 = .ok (.aload_n 0, 1) := by decide +kernel
theorem dX2_doClash_32 : decode cX2_doClash 32 = .ok (.getfield 13, 3) := by decide +kernel
theorem dX2_doClash_35 : decode cX2_doClash 35 = .ok (.iload_n 2, 1) := by decide +kernel
theorem dX2_doClash_36 : decode cX2_doClash 36 = .ok (.iaload, 1) := by decide +kernel
theorem dX2_doClash_37 : decode cX2_doClash 37 = .ok (.if_icmp .eq 5, 3) := by decide +kernel
theorem dX2_doClash_40 : decode cX2_doClash 40 = .ok (.iconst 0, 1) := by decide +kernel
theorem dX2_doClash_41 : decode cX2_doClash 41 = .ok (.ireturn, 1) := by decide +kernel
theorem dX2_doClash_42 : decode cX2_doClash 42 = .ok (.aload_n 0, 1) := by decide +kernel
theorem dX2_doClash_43 : decode cX2_doClash 43 = .ok (.getfield 16, 3) := by decide +kernel
theorem dX2_doClash_46 : decode cX2_doClash 46 = .ok (.iload_n 1, 1) := by decide +kernel
theorem dX2_doClash_47 : decode cX2_doClash 47 = .ok (.iaload, 1) := by decide +kernel
theorem dX2_doClash_48 : decode cX2_doClash 48 = .ok (.aload_n 0, 1) := by decide +kernel
theorem dX2_doClash_49 : decode cX2_doClash 49 = .ok (.getfield 22, 3) := by decide +kernel
theorem dX2_doClash_52 : decode cX2_doClash 52 = .ok (.iload_n 1, 1) := by decide +kernel
theorem dX2_doClash_53 : decode cX2_doClash 53 = .ok (.iaload, 1) := by decide +kernel
theorem dX2_doClash_54 : decode cX2_doClash 54 = .ok (.aload_n 0, 1) := by decide +kernel
theorem dX2_doClash_55 : decode cX2_doClash 55 = .ok (.getfield 16, 3) := by decide +kernel
theorem dX2_doClash_58 : decode cX2_doClash 58 = .ok (.iload_n 2, 1) := by decide +kernel
theorem dX2_doClash_59 : decode cX2_doClash 59 = .ok (.iaload, 1) := by decide +kernel
theorem dX2_doClash_60 : decode cX2_doClash 60 = .ok (.aload_n 0, 1) := by decide +kernel
theorem dX2_doClash_61 : decode cX2_doClash 61 = .ok (.getfield 22, 3) := by decide +kernel
theorem dX2_doClash_64 : decode cX2_doClash 64 = .ok (.iload_n 2, 1) := by decide +kernel
theorem dX2_doClash_65 : decode cX2_doClash 65 = .ok (.iaload, 1) := by decide +kernel
theorem dX2_doClash_66 : decode cX2_doClash 66 = .ok (.invokestatic 103, 3) := by decide +kernel
theorem dX2_doClash_69 : decode cX2_doClash 69 = .ok (.istore_n 3, 1) := by decide +kernel
theorem dX2_doClash_70 : decode cX2_doClash 70 = .ok (.aload_n 0, 1) := by decide +kernel
theorem dX2_doClash_71 : decode cX2_doClash 71 = .ok (.getfield 19, 3) := by decide +kernel
theorem dX2_doClash_74 : decode cX2_doClash 74 = .ok (.iload_n 1, 1) := by decide +kernel
theorem dX2_doClash_75 : decode cX2_doClash 75 = .ok (.iaload, 1) := by decide +kernel
theorem dX2_doClash_76 : decode cX2_doClash 76 = .ok (.aload_n 0, 1) := by decide +kernel
theorem dX2_doClash_77 : decode cX2_doClash 77 = .ok (.getfield 25, 3) := by decide +kernel
theorem dX2_doClash_80 : decode cX2_doClash 80 = .ok (.iload_n 1, 1) := by decide +kernel
theorem dX2_doClash_81 : decode cX2_doClash 81 = .ok (.iaload, 1) := by decide +kernel
theorem dX2_doClash_82 : decode cX2_doClash 82 = .ok (.aload_n 0, 1) := by decide +kernel
theorem dX2_doClash_83 : decode cX2_doClash 83 = .ok (.getfield 19, 3) := by decide +kernel
theorem dX2_doClash_86 : decode cX2_doClash 86 = .ok (.iload_n 2, 1) := by decide +kernel
theorem dX2_doClash_87 : decode cX2_doClash 87 = .ok (.iaload, 1) := by decide +kernel
theorem dX2_doClash_88 : decode cX2_doClash 88 = .ok (.aload_n 0, 1) := by decide +kernel
theorem dX2_doClash_89 : decode cX2_doClash 89 = .ok (.getfield 25, 3) := by decide +kernel
theorem dX2_doClash_92 : decode cX2_doClash 92 = .ok (.iload_n 2, 1) := by decide +kernel
theorem dX2_doClash_93 : decode cX2_doClash 93 = .ok (.iaload, 1) := by decide +kernel
theorem dX2_doClash_94 : decode cX2_doClash 94 = .ok (.invokestatic 103, 3) := by decide +kernel
theorem dX2_doClash_97 : decode cX2_doClash 97 = .ok (.istore 4, 2) := by decide +kernel
theorem dX2_doClash_99 : decode cX2_doClash 99 = .ok (.iload_n 3, 1) := by decide +kernel
theorem dX2_doClash_100 : decode cX2_doClash 100 = .ok (.iload 4, 2) := by decide +kernel
theorem dX2_doClash_102 : decode cX2_doClash 102 = .ok (.if_icmp .le 7, 3) := by decide +kernel
theorem dX2_doClash_105 : decode cX2_doClash 105 = .ok (.iload_n 3, 1) := by decide +kernel
theorem dX2_doClash_106 : decode cX2_doClash 106 = .ok (.goto 5, 3) := by decide +kernel
theorem dX2_doClash_109 : decode cX2_doClash 109 = .ok (.iload 4, 2) := by decide +kernel
theorem dX2_doClash_111 : decode cX2_doClash 111 = .ok (.aload_n 0, 1) := by decide +kernel
theorem dX2_doClash_112 : decode cX2_doClash 112 = .ok (.getfield 40, 3) := by decide +kernel
theorem dX2_doClash_115 : decode cX2_doClash 115 = .ok (.iconst 3, 1) := by decide +kernel
theorem dX2_doClash_116 : decode cX2_doClash 116 = .ok (.aload_n 0, 1) := by decide +kernel
theorem dX2_doClash_117 : decode cX2_doClash 117 = .ok (.getfield 7, 3) := by decide +kernel
theorem dX2_doClash_120 : decode cX2_doClash 120 = .ok (.iload_n 1, 1) := by decide +kernel
theorem dX2_doClash_121 : decode cX2_doClash 121 = .ok (.iaload, 1) := by decide +kernel
theorem dX2_doClash_122 : decode cX2_doClash 122 = .ok (.imul, 1) := by decide +kernel
theorem dX2_doClash_123 : decode cX2_doClash 123 = .ok (.aload_n 0, 1) := by decide +kernel
theorem dX2_doClash_124 : decode cX2_doClash 124 = .ok (.getfield 7, 3) := by decide +kernel
theorem dX2_doClash_127 : decode cX2_doClash 127 = .ok (.iload_n 2, 1) := by decide +kernel
theorem dX2_doClash_128 : decode cX2_doClash 128 = .ok (.iaload, 1) := by decide +kernel
theorem dX2_doClash_129 : decode cX2_doClash 129 = .ok (.iadd, 1) := by decide +kernel
theorem dX2_doClash_130 : decode cX2_doClash 130 = .ok (.iaload, 1) := by decide +kernel
theorem dX2_doClash_131 : decode cX2_doClash 131 = .ok (.if_icmp .ge 7, 3) := by decide +kernel
theorem dX2_doClash_134 : decode cX2_doClash 134 = .ok (.iconst 1, 1) := by decide +kernel
theorem dX2_doClash_135 : decode cX2_doClash 135 = .ok (.goto 4, 3) := by decide +kernel
theorem dX2_doClash_138 : decode cX2_doClash 138 = .ok (.iconst 0, 1) := by decide +kernel
theorem dX2_doClash_139 : decode cX2_doClash 139 = .ok (.ireturn, 1) := by decide +kernel
set_option maxRecDepth 20000 in
theorem ggX2_hasClash_X2_doClash : GoodIn wsX2_hasClash wsX2_doClash := goodIn_r _ [6, 7, 8, 9, 10, 11, 12, 13, 14, 15, 16, 5, 17, 18, 19, 20, 21, 22, 23, 24, 25, 26, 27, 28, 29, 30, 31, 32, 33, 34, 35] (by decide +kernel) (by decide +kernel)
set_option maxRecDepth 20000 in
theorem gX2_hasClash_X2_doClash : GoodIn wsX2_hasClash (wsV RX2 107 RX2 yX2_doClash wsX2_doClash) := goodIn_app (goodIn_of _ (by decide +kernel)) ggX2_hasClash_X2_doClash
theorem dX2_hasClash_0 : decode cX2_hasClash 0 = .ok (.iconst 0, 1) := by decide +kernel
theorem dX2_hasClash_1 : decode cX2_hasClash 1 = .ok (.istore_n 2, 1) := by decide +kernel
theorem dX2_hasClash_2 : decode cX2_hasClash 2 = .ok (.iconst 0, 1) := by decide +kernel
theorem dX2_hasClash_3 : decode cX2_hasClash 3 = .ok (.istore_n 3, 1) := by decide +kernel
theorem dX2_hasClash_4 : decode cX2_hasClash 4 = .ok (.iload_n 3, 1) := by decide +kernel
theorem dX2_hasClash_5 : decode cX2_hasClash 5 = .ok (.aload_n 0, 1) := by decide +kernel
theorem dX2_hasClash_6 : decode cX2_hasClash 6 = .ok (.getfield 61, 3) := by decide +kernel
theorem dX2_hasClash_9 : decode cX2_hasClash 9 = .ok (.if_icmp .ge 28, 3) := by decide +kernel
theorem dX2_hasClash_12 : decode cX2_hasClash 12 = .ok (.iload_n 2, 1) := by decide +kernel
theorem dX2_hasClash_13 : decode cX2_hasClash 13 = .ok (.ifCond .ne 12, 3) := by decide +kernel
theorem dX2_hasClash_16 : decode cX2_hasClash 16 = .ok (.aload_n 0, 1) := by decide +kernel
theorem dX2_hasClash_17 : decode cX2_hasClash 17 = .ok (.iload_n 1, 1) := by decide +kernel
theorem dX2_hasClash_18 : decode cX2_hasClash 18 = .ok (.iload_n 3, 1) := by decide +kernel
theorem dX2_hasClash_19 : decode cX2_hasClash 19 = .ok (.invokevirtual 107, 3) := by decide +kernel
theorem dX2_hasClash_22 : decode cX2_hasClash 22 = .ok (.ifCond .eq 7, 3) := by decide +kernel
theorem dX2_hasClash_25 : decode cX2_hasClash 25 = .ok (.iconst 1, 1) := by decide +kernel
theorem dX2_hasClash_26 : decode cX2_hasClash 26 = .ok (.goto 4, 3) := by decide +kernel
theorem dX2_hasClash_29 : decode cX2_hasClash 29 = .ok (.iconst 0, 1) := by decide +kernel
theorem dX2_hasClash_30 : decode cX2_hasClash 30 = .ok (.istore_n 2, 1) := by decide +kernel
theorem dX2_hasClash_31 : decode cX2_hasClash 31 = .ok (.iinc 3 1, 3) := by decide +kernel
theorem dX2_hasClash_34 : decode cX2_hasClash 34 = .ok (.goto (-30), 3) := by decide +kernel
theorem dX2_hasClash_37 : decode cX2_hasClash 37 = .ok (.iload_n 2, 1) := by decide +kernel
theorem dX2_hasClash_38 : decode cX2_hasClash 38 = .ok (.ireturn, 1) := by decide +kernel
set_option maxRecDepth 20000 in
theorem ggX2_build_X2_isElement : GoodIn wsX2_build wsX2_isElement := goodIn_r _ [6, 7, 8, 9, 5, 10, 34, 35, 36, 37, 38, 39, 40, 41, 42, 43, 44, 45, 46, 47, 48, 49, 50, 51] (by decide +kernel) (by decide +kernel)
set_option maxRecDepth 20000 in
theorem gX2_build_X2_isElement : GoodIn wsX2_build (wsV RX2 84 RX2 yX2_isElement wsX2_isElement) := goodIn_app (goodIn_of _ (by decide +kernel)) ggX2_build_X2_isElement
set_option maxRecDepth 20000 in
theorem ggX2_build_X2_refused : GoodIn wsX2_build wsX2_refused := goodIn_r _ [14, 15, 34, 35, 36, 37, 38, 39, 40, 41, 42, 43, 44, 45, 46, 47, 48, 49, 50, 51] (by decide +kernel) (by decide +kernel)
set_option maxRecDepth 20000 in
theorem gX2_build_X2_refused : GoodIn wsX2_build (wsV RX2 77 RX2 yX2_refused wsX2_refused) := goodIn_app (goodIn_of _ (by decide +kernel)) ggX2_build_X2_refused
set_option maxRecDepth 20000 in
theorem ggX2_build_X2_hasClash : GoodIn wsX2_build wsX2_hasClash := goodIn_r _ [19, 7, 20, 21, 22, 5, 23, 1, 24, 25, 26, 27, 28, 29, 30, 31, 32, 33, 34, 35, 36, 37, 38, 39, 40, 41, 42, 43, 44, 45, 46, 47, 48, 49, 50, 51] (by decide +kernel) (by decide +kernel)
set_option maxRecDepth 20000 in
theorem gX2_build_X2_hasClash : GoodIn wsX2_build (wsV RX2 111 RX2 yX2_hasClash wsX2_hasClash) := goodIn_app (goodIn_of _ (by decide +kernel)) ggX2_build_X2_hasClash
theorem dX2_build_0 : decode cX2_build 0 = .ok (.aload_n 0, 1) := by decide +kernel
theorem dX2_build_1 : decode cX2_build 1 = .ok (.iload_n 1, 1) := by decide +kernel
theorem dX2_build_2 : decode cX2_build 2 = .ok (.invokevirtual 84, 3) := by decide +kernel
theorem dX2_build_5 : decode cX2_build 5 = .ok (.istore_n 2, 1) := by decide +kernel
theorem dX2_build_6 : decode cX2_build 6 = .ok (.aload_n 0, 1) := by decide +kernel
theorem dX2_build_7 : decode cX2_build 7 = .ok (.iload_n 2, 1) := by decide +kernel
theorem dX2_build_8 : decode cX2_build 8 = .ok (.ifCond .ne 7, 3) := by decide +kernel
theorem dX2_build_11 : decode cX2_build 11 = .ok (.iconst 1, 1) := by decide +kernel
theorem dX2_build_12 : decode cX2_build 12 = .ok (.goto 18, 3) := by decide +kernel
theorem dX2_build_15 : decode cX2_build 15 = .ok (.aload_n 0, 1) := by decide +kernel
theorem dX2_build_16 : decode cX2_build 16 = .ok (.getfield 28, 3) := by decide +kernel
theorem dX2_build_19 : decode cX2_build 19 = .ok (.iload_n 1, 1) := by decide +kernel
theorem dX2_build_20 : decode cX2_build 20 = .ok (.iaload, 1) := by decide +kernel
theorem dX2_build_21 : decode cX2_build 21 = .ok (.iconst 2, 1) := by decide +kernel
theorem dX2_build_22 : decode cX2_build 22 = .ok (.if_icmp .eq 7, 3) := by decide +kernel
theorem dX2_build_25 : decode cX2_build 25 = .ok (.iconst 2, 1) := by decide +kernel
theorem dX2_build_26 : decode cX2_build 26 = .ok (.goto 4, 3) := by decide +kernel
theorem dX2_build_29 : decode cX2_build 29 = .ok (.iconst 0, 1) := by decide +kernel
theorem dX2_build_30 : decode cX2_build 30 = .ok (.invokevirtual 77, 3) := by decide +kernel
theorem dX2_build_33 : decode cX2_build 33 = .ok (.ifCond .ne 11, 3) := by decide +kernel
theorem dX2_build_36 : decode cX2_build 36 = .ok (.aload_n 0, 1) := by decide +kernel
theorem dX2_build_37 : decode cX2_build 37 = .ok (.iload_n 1, 1) := by decide +kernel
theorem dX2_build_38 : decode cX2_build 38 = .ok (.invokevirtual 111, 3) := by decide +kernel
theorem dX2_build_41 : decode cX2_build 41 = .ok (.ifCond .eq 5, 3) := by decide +kernel
theorem dX2_build_44 : decode cX2_build 44 = .ok (.iconst 0, 1) := by decide +kernel
theorem dX2_build_45 : decode cX2_build 45 = .ok (.ireturn, 1) := by decide +kernel
theorem dX2_build_46 : decode cX2_build 46 = .ok (.aload_n 0, 1) := by decide +kernel
theorem dX2_build_47 : decode cX2_build 47 = .ok (.getfield 28, 3) := by decide +kernel
theorem dX2_build_50 : decode cX2_build 50 = .ok (.iload_n 1, 1) := by decide +kernel
theorem dX2_build_51 : decode cX2_build 51 = .ok (.iconst 3, 1) := by decide +kernel
theorem dX2_build_52 : decode cX2_build 52 = .ok (.iastore, 1) := by decide +kernel
theorem dX2_build_53 : decode cX2_build 53 = .ok (.iconst 1, 1) := by decide +kernel
theorem dX2_build_54 : decode cX2_build 54 = .ok (.ireturn, 1) := by decide +kernel
set_option maxRecDepth 20000 in
theorem ggX2_inspect_X2_isStorey : GoodIn wsX2_inspect wsX2_isStorey := goodIn_r _ [8, 9, 10, 7, 11] (by decide +kernel) (by decide +kernel)
set_option maxRecDepth 20000 in
theorem gX2_inspect_X2_isStorey : GoodIn wsX2_inspect (va_wsS RX2 71 yX2_isStorey wsX2_isStorey) := goodIn_app (goodIn_of _ (by decide +kernel)) ggX2_inspect_X2_isStorey
set_option maxRecDepth 20000 in
theorem ggX2_inspect_X2_refused : GoodIn wsX2_inspect wsX2_refused := goodIn_r _ [15, 16, 34, 35, 36, 37, 38, 39, 40, 41, 42, 43, 44, 45, 46, 47, 48, 49, 50, 51] (by decide +kernel) (by decide +kernel)
set_option maxRecDepth 20000 in
theorem gX2_inspect_X2_refused : GoodIn wsX2_inspect (wsV RX2 77 RX2 yX2_refused wsX2_refused) := goodIn_app (goodIn_of _ (by decide +kernel)) ggX2_inspect_X2_refused
set_option maxRecDepth 20000 in
theorem ggX2_inspect_X2_hasClash : GoodIn wsX2_inspect wsX2_hasClash := goodIn_r _ [20, 2, 21, 22, 23, 7, 24, 4, 3, 25, 26, 27, 28, 29, 30, 31, 32, 33, 34, 35, 36, 37, 38, 39, 40, 41, 42, 43, 44, 45, 46, 47, 48, 49, 50, 51] (by decide +kernel) (by decide +kernel)
set_option maxRecDepth 20000 in
theorem gX2_inspect_X2_hasClash : GoodIn wsX2_inspect (wsV RX2 111 RX2 yX2_hasClash wsX2_hasClash) := goodIn_app (goodIn_of _ (by decide +kernel)) ggX2_inspect_X2_hasClash
theorem dX2_inspect_0 : decode cX2_inspect 0 = .ok (.iload_n 1, 1) := by decide +kernel
theorem dX2_inspect_1 : decode cX2_inspect 1 = .ok (.invokestatic 71, 3) := by decide +kernel
theorem dX2_inspect_4 : decode cX2_inspect 4 = .ok (.istore_n 2, 1) := by decide +kernel
theorem dX2_inspect_5 : decode cX2_inspect 5 = .ok (.aload_n 0, 1) := by decide +kernel
theorem dX2_inspect_6 : decode cX2_inspect 6 = .ok (.iload_n 2, 1) := by decide +kernel
theorem dX2_inspect_7 : decode cX2_inspect 7 = .ok (.ifCond .ne 7, 3) := by decide +kernel
theorem dX2_inspect_10 : decode cX2_inspect 10 = .ok (.iconst 1, 1) := by decide +kernel
theorem dX2_inspect_11 : decode cX2_inspect 11 = .ok (.goto 17, 3) := by decide +kernel
theorem dX2_inspect_14 : decode cX2_inspect 14 = .ok (.aload_n 0, 1) := by decide +kernel
theorem dX2_inspect_15 : decode cX2_inspect 15 = .ok (.getfield 49, 3) := by decide +kernel
theorem dX2_inspect_18 : decode cX2_inspect 18 = .ok (.iload_n 1, 1) := by decide +kernel
theorem dX2_inspect_19 : decode cX2_inspect 19 = .ok (.baload, 1) := by decide +kernel
theorem dX2_inspect_20 : decode cX2_inspect 20 = .ok (.ifCond .eq 7, 3) := by decide +kernel
theorem dX2_inspect_23 : decode cX2_inspect 23 = .ok (.iconst 2, 1) := by decide +kernel
theorem dX2_inspect_24 : decode cX2_inspect 24 = .ok (.goto 4, 3) := by decide +kernel
theorem dX2_inspect_27 : decode cX2_inspect 27 = .ok (.iconst 0, 1) := by decide +kernel
theorem dX2_inspect_28 : decode cX2_inspect 28 = .ok (.invokevirtual 77, 3) := by decide +kernel
theorem dX2_inspect_31 : decode cX2_inspect 31 = .ok (.ifCond .eq 5, 3) := by decide +kernel
theorem dX2_inspect_34 : decode cX2_inspect 34 = .ok (.iconst 0, 1) := by decide +kernel
theorem dX2_inspect_35 : decode cX2_inspect 35 = .ok (.ireturn, 1) := by decide +kernel
theorem dX2_inspect_36 : decode cX2_inspect 36 = .ok (.iconst 1, 1) := by decide +kernel
theorem dX2_inspect_37 : decode cX2_inspect 37 = .ok (.istore_n 3, 1) := by decide +kernel
theorem dX2_inspect_38 : decode cX2_inspect 38 = .ok (.iconst 0, 1) := by decide +kernel
theorem dX2_inspect_39 : decode cX2_inspect 39 = .ok (.istore 4, 2) := by decide +kernel
theorem dX2_inspect_41 : decode cX2_inspect 41 = .ok (.iconst 0, 1) := by decide +kernel
theorem dX2_inspect_42 : decode cX2_inspect 42 = .ok (.istore 5, 2) := by decide +kernel
theorem dX2_inspect_44 : decode cX2_inspect 44 = .ok (.iload 5, 2) := by decide +kernel
theorem dX2_inspect_46 : decode cX2_inspect 46 = .ok (.aload_n 0, 1) := by decide +kernel
theorem dX2_inspect_47 : decode cX2_inspect 47 = .ok (.getfield 61, 3) := by decide +kernel
theorem dX2_inspect_50 : decode cX2_inspect 50 = .ok (.if_icmp .ge 64, 3) := by decide +kernel
theorem dX2_inspect_53 : decode cX2_inspect 53 = .ok (.aload_n 0, 1) := by decide +kernel
theorem dX2_inspect_54 : decode cX2_inspect 54 = .ok (.getfield 13, 3) := by decide +kernel
theorem dX2_inspect_57 : decode cX2_inspect 57 = .ok (.iload 5, 2) := by decide +kernel
theorem dX2_inspect_59 : decode cX2_inspect 59 = .ok (.iaload, 1) := by decide +kernel
theorem dX2_inspect_60 : decode cX2_inspect 60 = .ok (.iload_n 1, 1) := by decide +kernel
theorem dX2_inspect_61 : decode cX2_inspect 61 = .ok (.if_icmp .ne 47, 3) := by decide +kernel
theorem dX2_inspect_64 : decode cX2_inspect 64 = .ok (.aload_n 0, 1) := by decide +kernel
theorem dX2_inspect_65 : decode cX2_inspect 65 = .ok (.getfield 28, 3) := by decide +kernel
theorem dX2_inspect_68 : decode cX2_inspect 68 = .ok (.iload 5, 2) := by decide +kernel
theorem dX2_inspect_70 : decode cX2_inspect 70 = .ok (.iaload, 1) := by decide +kernel
theorem dX2_inspect_71 : decode cX2_inspect 71 = .ok (.iconst 4, 1) := by decide +kernel
theorem dX2_inspect_72 : decode cX2_inspect 72 = .ok (.if_icmp .eq 36, 3) := by decide +kernel
theorem dX2_inspect_75 : decode cX2_inspect 75 = .ok (.iload_n 3, 1) := by decide +kernel
theorem dX2_inspect_76 : decode cX2_inspect 76 = .ok (.ifCond .eq 27, 3) := by decide +kernel
theorem dX2_inspect_79 : decode cX2_inspect 79 = .ok (.aload_n 0, 1) := by decide +kernel
theorem dX2_inspect_80 : decode cX2_inspect 80 = .ok (.getfield 28, 3) := by decide +kernel
theorem dX2_inspect_83 : decode cX2_inspect 83 = .ok (.iload 5, 2) := by decide +kernel
theorem dX2_inspect_85 : decode cX2_inspect 85 = .ok (.iaload, 1) := by decide +kernel
theorem dX2_inspect_86 : decode cX2_inspect 86 = .ok (.iconst 3, 1) := by decide +kernel
theorem dX2_inspect_87 : decode cX2_inspect 87 = .ok (.if_icmp .ne 16, 3) := by decide +kernel
theorem dX2_inspect_90 : decode cX2_inspect 90 = .ok (.aload_n 0, 1) := by decide +kernel
theorem dX2_inspect_91 : decode cX2_inspect 91 = .ok (.iload 5, 2) := by decide +kernel
theorem dX2_inspect_93 : decode cX2_inspect 93 = .ok (.invokevirtual 111, 3) := by decide +kernel
theorem dX2_inspect_96 : decode cX2_inspect 96 = .ok (.ifCond .ne 7, 3) := by decide +kernel
theorem dX2_inspect_99 : decode cX2_inspect 99 = .ok (.iconst 1, 1) := by decide +kernel
theorem dX2_inspect_100 : decode cX2_inspect 100 = .ok (.goto 4, 3) := by decide +kernel
theorem dX2_inspect_103 : decode cX2_inspect 103 = .ok (.iconst 0, 1) := by decide +kernel
theorem dX2_inspect_104 : decode cX2_inspect 104 = .ok (.istore_n 3, 1) := by decide +kernel
theorem dX2_inspect_105 : decode cX2_inspect 105 = .ok (.iinc 4 1, 3) := by decide +kernel
theorem dX2_inspect_108 : decode cX2_inspect 108 = .ok (.iinc 5 1, 3) := by decide +kernel
theorem dX2_inspect_111 : decode cX2_inspect 111 = .ok (.goto (-67), 3) := by decide +kernel
theorem dX2_inspect_114 : decode cX2_inspect 114 = .ok (.aload_n 0, 1) := by decide +kernel
theorem dX2_inspect_115 : decode cX2_inspect 115 = .ok (.getfield 49, 3) := by decide +kernel
theorem dX2_inspect_118 : decode cX2_inspect 118 = .ok (.iload_n 1, 1) := by decide +kernel
theorem dX2_inspect_119 : decode cX2_inspect 119 = .ok (.iload_n 3, 1) := by decide +kernel
theorem dX2_inspect_120 : decode cX2_inspect 120 = .ok (.ifCond .eq 12, 3) := by decide +kernel
theorem dX2_inspect_123 : decode cX2_inspect 123 = .ok (.iload 4, 2) := by decide +kernel
theorem dX2_inspect_125 : decode cX2_inspect 125 = .ok (.ifCond .le 7, 3) := by decide +kernel
theorem dX2_inspect_128 : decode cX2_inspect 128 = .ok (.iconst 1, 1) := by decide +kernel
theorem dX2_inspect_129 : decode cX2_inspect 129 = .ok (.goto 4, 3) := by decide +kernel
theorem dX2_inspect_132 : decode cX2_inspect 132 = .ok (.iconst 0, 1) := by decide +kernel
theorem dX2_inspect_133 : decode cX2_inspect 133 = .ok (.bastore, 1) := by decide +kernel
theorem dX2_inspect_134 : decode cX2_inspect 134 = .ok (.aload_n 0, 1) := by decide +kernel
theorem dX2_inspect_135 : decode cX2_inspect 135 = .ok (.getfield 49, 3) := by decide +kernel
theorem dX2_inspect_138 : decode cX2_inspect 138 = .ok (.iload_n 1, 1) := by decide +kernel
theorem dX2_inspect_139 : decode cX2_inspect 139 = .ok (.baload, 1) := by decide +kernel
theorem dX2_inspect_140 : decode cX2_inspect 140 = .ok (.ireturn, 1) := by decide +kernel
set_option maxRecDepth 20000 in
theorem ggX2_pass_X2_in : GoodIn wsX2_pass wsX2_in := goodIn_r _ [8] (by decide +kernel) (by decide +kernel)
set_option maxRecDepth 20000 in
theorem gX2_pass_X2_in : GoodIn wsX2_pass (va_wsS RX2 57 yX2_in wsX2_in) := goodIn_app (goodIn_of _ (by decide +kernel)) ggX2_pass_X2_in
set_option maxRecDepth 20000 in
theorem ggX2_pass_X2_refused : GoodIn wsX2_pass wsX2_refused := goodIn_r _ [12, 13, 14, 15, 16, 17, 18, 19, 20, 21, 22, 23, 24, 25, 26, 27, 28, 29, 30, 31] (by decide +kernel) (by decide +kernel)
set_option maxRecDepth 20000 in
theorem gX2_pass_X2_refused : GoodIn wsX2_pass (wsV RX2 77 RX2 yX2_refused wsX2_refused) := goodIn_app (goodIn_of _ (by decide +kernel)) ggX2_pass_X2_refused
theorem dX2_pass_0 : decode cX2_pass 0 = .ok (.aload_n 0, 1) := by decide +kernel
theorem dX2_pass_1 : decode cX2_pass 1 = .ok (.iload_n 1, 1) := by decide +kernel
theorem dX2_pass_2 : decode cX2_pass 2 = .ok (.iconst 1, 1) := by decide +kernel
theorem dX2_pass_3 : decode cX2_pass 3 = .ok (.bipush 100, 2) := by decide +kernel
theorem dX2_pass_5 : decode cX2_pass 5 = .ok (.invokestatic 57, 3) := by decide +kernel
theorem dX2_pass_8 : decode cX2_pass 8 = .ok (.ifCond .ne 7, 3) := by decide +kernel
theorem dX2_pass_11 : decode cX2_pass 11 = .ok (.iconst 1, 1) := by decide +kernel
theorem dX2_pass_12 : decode cX2_pass 12 = .ok (.goto 20, 3) := by decide +kernel
theorem dX2_pass_15 : decode cX2_pass 15 = .ok (.aload_n 0, 1) := by decide +kernel
theorem dX2_pass_16 : decode cX2_pass 16 = .ok (.getfield 97, 3) := by decide +kernel
theorem dX2_pass_19 : decode cX2_pass 19 = .ok (.iload_n 1, 1) := by decide +kernel
theorem dX2_pass_20 : decode cX2_pass 20 = .ok (.iadd, 1) := by decide +kernel
theorem dX2_pass_21 : decode cX2_pass 21 = .ok (.sipush 500, 3) := by decide +kernel
theorem dX2_pass_24 : decode cX2_pass 24 = .ok (.if_icmp .le 7, 3) := by decide +kernel
theorem dX2_pass_27 : decode cX2_pass 27 = .ok (.iconst 2, 1) := by decide +kernel
theorem dX2_pass_28 : decode cX2_pass 28 = .ok (.goto 4, 3) := by decide +kernel
theorem dX2_pass_31 : decode cX2_pass 31 = .ok (.iconst 0, 1) := by decide +kernel
theorem dX2_pass_32 : decode cX2_pass 32 = .ok (.invokevirtual 77, 3) := by decide +kernel
theorem dX2_pass_35 : decode cX2_pass 35 = .ok (.ifCond .eq 5, 3) := by decide +kernel
theorem dX2_pass_38 : decode cX2_pass 38 = .ok (.iconst 0, 1) := by decide +kernel
theorem dX2_pass_39 : decode cX2_pass 39 = .ok (.ireturn, 1) := by decide +kernel
theorem dX2_pass_40 : decode cX2_pass 40 = .ok (.aload_n 0, 1) := by decide +kernel
theorem dX2_pass_41 : decode cX2_pass 41 = .ok (.dup, 1) := by decide +kernel
theorem dX2_pass_42 : decode cX2_pass 42 = .ok (.getfield 97, 3) := by decide +kernel
theorem dX2_pass_45 : decode cX2_pass 45 = .ok (.iload_n 1, 1) := by decide +kernel
theorem dX2_pass_46 : decode cX2_pass 46 = .ok (.iadd, 1) := by decide +kernel
theorem dX2_pass_47 : decode cX2_pass 47 = .ok (.putfield 97, 3) := by decide +kernel
theorem dX2_pass_50 : decode cX2_pass 50 = .ok (.iconst 0, 1) := by decide +kernel
theorem dX2_pass_51 : decode cX2_pass 51 = .ok (.istore_n 2, 1) := by decide +kernel
theorem dX2_pass_52 : decode cX2_pass 52 = .ok (.iload_n 2, 1) := by decide +kernel
theorem dX2_pass_53 : decode cX2_pass 53 = .ok (.aload_n 0, 1) := by decide +kernel
theorem dX2_pass_54 : decode cX2_pass 54 = .ok (.getfield 61, 3) := by decide +kernel
theorem dX2_pass_57 : decode cX2_pass 57 = .ok (.if_icmp .ge 48, 3) := by decide +kernel
theorem dX2_pass_60 : decode cX2_pass 60 = .ok (.aload_n 0, 1) := by decide +kernel
theorem dX2_pass_61 : decode cX2_pass 61 = .ok (.getfield 28, 3) := by decide +kernel
theorem dX2_pass_64 : decode cX2_pass 64 = .ok (.iload_n 2, 1) := by decide +kernel
theorem dX2_pass_65 : decode cX2_pass 65 = .ok (.aload_n 0, 1) := by decide +kernel
theorem dX2_pass_66 : decode cX2_pass 66 = .ok (.getfield 28, 3) := by decide +kernel
theorem dX2_pass_69 : decode cX2_pass 69 = .ok (.iload_n 2, 1) := by decide +kernel
theorem dX2_pass_70 : decode cX2_pass 70 = .ok (.iaload, 1) := by decide +kernel
theorem dX2_pass_71 : decode cX2_pass 71 = .ok (.iconst 1, 1) := by decide +kernel
theorem dX2_pass_72 : decode cX2_pass 72 = .ok (.if_icmp .ne 20, 3) := by decide +kernel
theorem dX2_pass_75 : decode cX2_pass 75 = .ok (.aload_n 0, 1) := by decide +kernel
theorem dX2_pass_76 : decode cX2_pass 76 = .ok (.getfield 37, 3) := by decide +kernel
theorem dX2_pass_79 : decode cX2_pass 79 = .ok (.iload_n 2, 1) := by decide +kernel
theorem dX2_pass_80 : decode cX2_pass 80 = .ok (.iaload, 1) := by decide +kernel
theorem dX2_pass_81 : decode cX2_pass 81 = .ok (.aload_n 0, 1) := by decide +kernel
theorem dX2_pass_82 : decode cX2_pass 82 = .ok (.getfield 97, 3) := by decide +kernel
theorem dX2_pass_85 : decode cX2_pass 85 = .ok (.if_icmp .gt 7, 3) := by decide +kernel
theorem dX2_pass_88 : decode cX2_pass 88 = .ok (.iconst 2, 1) := by decide +kernel
theorem dX2_pass_89 : decode cX2_pass 89 = .ok (.goto 9, 3) := by decide +kernel
theorem dX2_pass_92 : decode cX2_pass 92 = .ok (.aload_n 0, 1) := by decide +kernel
theorem dX2_pass_93 : decode cX2_pass 93 = .ok (.getfield 28, 3) := by decide +kernel
theorem dX2_pass_96 : decode cX2_pass 96 = .ok (.iload_n 2, 1) := by decide +kernel
theorem dX2_pass_97 : decode cX2_pass 97 = .ok (.iaload, 1) := by decide +kernel
theorem dX2_pass_98 : decode cX2_pass 98 = .ok (.iastore, 1) := by decide +kernel
theorem dX2_pass_99 : decode cX2_pass 99 = .ok (.iinc 2 1, 3) := by decide +kernel
theorem dX2_pass_102 : decode cX2_pass 102 = .ok (.goto (-50), 3) := by decide +kernel
theorem dX2_pass_105 : decode cX2_pass 105 = .ok (.aload_n 0, 1) := by decide +kernel
theorem dX2_pass_106 : decode cX2_pass 106 = .ok (.getfield 97, 3) := by decide +kernel
theorem dX2_pass_109 : decode cX2_pass 109 = .ok (.ireturn, 1) := by decide +kernel
theorem dX2_day_0 : decode cX2_day 0 = .ok (.aload_n 0, 1) := by decide +kernel
theorem dX2_day_1 : decode cX2_day 1 = .ok (.iconst 0, 1) := by decide +kernel
theorem dX2_day_2 : decode cX2_day 2 = .ok (.putfield 53, 3) := by decide +kernel
theorem dX2_day_5 : decode cX2_day 5 = .ok (.aload_n 0, 1) := by decide +kernel
theorem dX2_day_6 : decode cX2_day 6 = .ok (.getfield 97, 3) := by decide +kernel
theorem dX2_day_9 : decode cX2_day 9 = .ok (.ireturn, 1) := by decide +kernel
theorem dX2_revision_0 : decode cX2_revision 0 = .ok (.aload_n 0, 1) := by decide +kernel
theorem dX2_revision_1 : decode cX2_revision 1 = .ok (.iconst 0, 1) := by decide +kernel
theorem dX2_revision_2 : decode cX2_revision 2 = .ok (.putfield 53, 3) := by decide +kernel
theorem dX2_revision_5 : decode cX2_revision 5 = .ok (.aload_n 0, 1) := by decide +kernel
theorem dX2_revision_6 : decode cX2_revision 6 = .ok (.getfield 64, 3) := by decide +kernel
theorem dX2_revision_9 : decode cX2_revision 9 = .ok (.ireturn, 1) := by decide +kernel
set_option maxRecDepth 20000 in
theorem ggX2_elementOf_X2_isElement : GoodIn wsX2_elementOf wsX2_isElement := goodIn_r _ [14, 15, 16, 17, 13, 18, 31, 32, 33, 34, 35, 36, 37, 38, 39, 40, 41, 42, 43, 44, 45, 46, 47, 48] (by decide +kernel) (by decide +kernel)
set_option maxRecDepth 20000 in
theorem gX2_elementOf_X2_isElement : GoodIn wsX2_elementOf (wsV RX2 84 RX2 yX2_isElement wsX2_isElement) := goodIn_app (goodIn_of _ (by decide +kernel)) ggX2_elementOf_X2_isElement
set_option maxRecDepth 20000 in
theorem ggX2_elementOf_X2_in : GoodIn wsX2_elementOf wsX2_in := goodIn_r _ [18] (by decide +kernel) (by decide +kernel)
set_option maxRecDepth 20000 in
theorem gX2_elementOf_X2_in : GoodIn wsX2_elementOf (va_wsS RX2 57 yX2_in wsX2_in) := goodIn_app (goodIn_of _ (by decide +kernel)) ggX2_elementOf_X2_in
set_option maxRecDepth 20000 in
theorem ggX2_elementOf_X2_refused : GoodIn wsX2_elementOf wsX2_refused := goodIn_r _ [22, 23, 31, 32, 33, 34, 35, 36, 37, 38, 39, 40, 41, 42, 43, 44, 45, 46, 47, 48] (by decide +kernel) (by decide +kernel)
set_option maxRecDepth 20000 in
theorem gX2_elementOf_X2_refused : GoodIn wsX2_elementOf (wsV RX2 77 RX2 yX2_refused wsX2_refused) := goodIn_app (goodIn_of _ (by decide +kernel)) ggX2_elementOf_X2_refused
set_option maxRecDepth 20000 in
theorem ggX2_elementOf_X2_cellsOf : GoodIn wsX2_elementOf wsX2_cellsOf := goodIn_r _ [27, 5, 3, 6, 4, 28, 29, 13, 30, 31, 32, 33, 34, 35, 36, 37, 38, 39, 40, 41, 42, 43, 44, 45, 46, 47, 48] (by decide +kernel) (by decide +kernel)
set_option maxRecDepth 20000 in
theorem gX2_elementOf_X2_cellsOf : GoodIn wsX2_elementOf (wsV RX2 94 RX2 yX2_cellsOf wsX2_cellsOf) := goodIn_app (goodIn_of _ (by decide +kernel)) ggX2_elementOf_X2_cellsOf
theorem dX2_elementOf_0 : decode cX2_elementOf 0 = .ok (.aload_n 0, 1) := by decide +kernel
theorem dX2_elementOf_1 : decode cX2_elementOf 1 = .ok (.aload_n 0, 1) := by decide +kernel
theorem dX2_elementOf_2 : decode cX2_elementOf 2 = .ok (.iload_n 1, 1) := by decide +kernel
theorem dX2_elementOf_3 : decode cX2_elementOf 3 = .ok (.invokevirtual 84, 3) := by decide +kernel
theorem dX2_elementOf_6 : decode cX2_elementOf 6 = .ok (.ifCond .ne 7, 3) := by decide +kernel
theorem dX2_elementOf_9 : decode cX2_elementOf 9 = .ok (.iconst 1, 1) := by decide +kernel
theorem dX2_elementOf_10 : decode cX2_elementOf 10 = .ok (.goto 18, 3) := by decide +kernel
theorem dX2_elementOf_13 : decode cX2_elementOf 13 = .ok (.iload_n 2, 1) := by decide +kernel
theorem dX2_elementOf_14 : decode cX2_elementOf 14 = .ok (.iconst 0, 1) := by decide +kernel
theorem dX2_elementOf_15 : decode cX2_elementOf 15 = .ok (.bipush 9, 2) := by decide +kernel
theorem dX2_elementOf_17 : decode cX2_elementOf 17 = .ok (.invokestatic 57, 3) := by decide +kernel
theorem dX2_elementOf_20 : decode cX2_elementOf 20 = .ok (.ifCond .ne 7, 3) := by decide +kernel
theorem dX2_elementOf_23 : decode cX2_elementOf 23 = .ok (.iconst 2, 1) := by decide +kernel
theorem dX2_elementOf_24 : decode cX2_elementOf 24 = .ok (.goto 4, 3) := by decide +kernel
theorem dX2_elementOf_27 : decode cX2_elementOf 27 = .ok (.iconst 0, 1) := by decide +kernel
theorem dX2_elementOf_28 : decode cX2_elementOf 28 = .ok (.invokevirtual 77, 3) := by decide +kernel
theorem dX2_elementOf_31 : decode cX2_elementOf 31 = .ok (.ifCond .eq 5, 3) := by decide +kernel
theorem dX2_elementOf_34 : decode cX2_elementOf 34 = .ok (.iconst 0, 1) := by decide +kernel
theorem dX2_elementOf_35 : decode cX2_elementOf 35 = .ok (.ireturn, 1) := by decide +kernel
theorem dX2_elementOf_36 : decode cX2_elementOf 36 = .ok (.iload_n 2, 1) := by decide +kernel
theorem dX2_elementOf_37 : decode cX2_elementOf 37 = .ok (.tableswitch 114 0 8 #[51, 58, 65, 72, 79, 86, 93, 100, 107], 51) := by decide +kernel
theorem dX2_elementOf_88 : decode cX2_elementOf 88 = .ok (.aload_n 0, 1) := by decide +kernel
theorem dX2_elementOf_89 : decode cX2_elementOf 89 = .ok (.getfield 7, 3) := by decide +kernel
theorem dX2_elementOf_92 : decode cX2_elementOf 92 = .ok (.iload_n 1, 1) := by decide +kernel
theorem dX2_elementOf_93 : decode cX2_elementOf 93 = .ok (.iaload, 1) := by decide +kernel
theorem dX2_elementOf_94 : decode cX2_elementOf 94 = .ok (.ireturn, 1) := by decide +kernel
theorem dX2_elementOf_95 : decode cX2_elementOf 95 = .ok (.aload_n 0, 1) := by decide +kernel
theorem dX2_elementOf_96 : decode cX2_elementOf 96 = .ok (.getfield 13, 3) := by decide +kernel
theorem dX2_elementOf_99 : decode cX2_elementOf 99 = .ok (.iload_n 1, 1) := by decide +kernel
theorem dX2_elementOf_100 : decode cX2_elementOf 100 = .ok (.iaload, 1) := by decide +kernel
theorem dX2_elementOf_101 : decode cX2_elementOf 101 = .ok (.ireturn, 1) := by decide +kernel
theorem dX2_elementOf_102 : decode cX2_elementOf 102 = .ok (.aload_n 0, 1) := by decide +kernel
theorem dX2_elementOf_103 : decode cX2_elementOf 103 = .ok (.getfield 16, 3) := by decide +kernel
theorem dX2_elementOf_106 : decode cX2_elementOf 106 = .ok (.iload_n 1, 1) := by decide +kernel
theorem dX2_elementOf_107 : decode cX2_elementOf 107 = .ok (.iaload, 1) := by decide +kernel
theorem dX2_elementOf_108 : decode cX2_elementOf 108 = .ok (.ireturn, 1) := by decide +kernel
theorem dX2_elementOf_109 : decode cX2_elementOf 109 = .ok (.aload_n 0, 1) := by decide +kernel
theorem dX2_elementOf_110 : decode cX2_elementOf 110 = .ok (.getfield 19, 3) := by decide +kernel
theorem dX2_elementOf_113 : decode cX2_elementOf 113 = .ok (.iload_n 1, 1) := by decide +kernel
theorem dX2_elementOf_114 : decode cX2_elementOf 114 = .ok (.iaload, 1) := by decide +kernel
theorem dX2_elementOf_115 : decode cX2_elementOf 115 = .ok (.ireturn, 1) := by decide +kernel
theorem dX2_elementOf_116 : decode cX2_elementOf 116 = .ok (.aload_n 0, 1) := by decide +kernel
theorem dX2_elementOf_117 : decode cX2_elementOf 117 = .ok (.getfield 22, 3) := by decide +kernel
theorem dX2_elementOf_120 : decode cX2_elementOf 120 = .ok (.iload_n 1, 1) := by decide +kernel
theorem dX2_elementOf_121 : decode cX2_elementOf 121 = .ok (.iaload, 1) := by decide +kernel
theorem dX2_elementOf_122 : decode cX2_elementOf 122 = .ok (.ireturn, 1) := by decide +kernel
theorem dX2_elementOf_123 : decode cX2_elementOf 123 = .ok (.aload_n 0, 1) := by decide +kernel
theorem dX2_elementOf_124 : decode cX2_elementOf 124 = .ok (.getfield 25, 3) := by decide +kernel
theorem dX2_elementOf_127 : decode cX2_elementOf 127 = .ok (.iload_n 1, 1) := by decide +kernel
theorem dX2_elementOf_128 : decode cX2_elementOf 128 = .ok (.iaload, 1) := by decide +kernel
theorem dX2_elementOf_129 : decode cX2_elementOf 129 = .ok (.ireturn, 1) := by decide +kernel
theorem dX2_elementOf_130 : decode cX2_elementOf 130 = .ok (.aload_n 0, 1) := by decide +kernel
theorem dX2_elementOf_131 : decode cX2_elementOf 131 = .ok (.getfield 28, 3) := by decide +kernel
theorem dX2_elementOf_134 : decode cX2_elementOf 134 = .ok (.iload_n 1, 1) := by decide +kernel
theorem dX2_elementOf_135 : decode cX2_elementOf 135 = .ok (.iaload, 1) := by decide +kernel
theorem dX2_elementOf_136 : decode cX2_elementOf 136 = .ok (.ireturn, 1) := by decide +kernel
theorem dX2_elementOf_137 : decode cX2_elementOf 137 = .ok (.aload_n 0, 1) := by decide +kernel
theorem dX2_elementOf_138 : decode cX2_elementOf 138 = .ok (.getfield 31, 3) := by decide +kernel
theorem dX2_elementOf_141 : decode cX2_elementOf 141 = .ok (.iload_n 1, 1) := by decide +kernel
theorem dX2_elementOf_142 : decode cX2_elementOf 142 = .ok (.iaload, 1) := by decide +kernel
theorem dX2_elementOf_143 : decode cX2_elementOf 143 = .ok (.ireturn, 1) := by decide +kernel
theorem dX2_elementOf_144 : decode cX2_elementOf 144 = .ok (.aload_n 0, 1) := by decide +kernel
theorem dX2_elementOf_145 : decode cX2_elementOf 145 = .ok (.getfield 34, 3) := by decide +kernel
theorem dX2_elementOf_148 : decode cX2_elementOf 148 = .ok (.iload_n 1, 1) := by decide +kernel
theorem dX2_elementOf_149 : decode cX2_elementOf 149 = .ok (.iaload, 1) := by decide +kernel
theorem dX2_elementOf_150 : decode cX2_elementOf 150 = .ok (.ireturn, 1) := by decide +kernel
theorem dX2_elementOf_151 : decode cX2_elementOf 151 = .ok (.aload_n 0, 1) := by decide +kernel
theorem dX2_elementOf_152 : decode cX2_elementOf 152 = .ok (.iload_n 1, 1) := by decide +kernel
theorem dX2_elementOf_153 : decode cX2_elementOf 153 = .ok (.invokevirtual 94, 3) := by decide +kernel
theorem dX2_elementOf_156 : decode cX2_elementOf 156 = .ok (.ireturn, 1) := by decide +kernel
set_option maxRecDepth 20000 in
theorem ggX2_clash_X2_isElement : GoodIn wsX2_clash wsX2_isElement := goodIn_r _ [5, 6, 7, 8, 4, 9, 30, 31, 32, 33, 34, 35, 36, 37, 38, 39, 40, 41, 42, 43, 44, 45, 46, 47] (by decide +kernel) (by decide +kernel)
set_option maxRecDepth 20000 in
theorem gX2_clash_X2_isElement : GoodIn wsX2_clash (wsV RX2 84 RX2 yX2_isElement wsX2_isElement) := goodIn_app (goodIn_of _ (by decide +kernel)) ggX2_clash_X2_isElement
set_option maxRecDepth 20000 in
theorem ggX2_clash_X2_refused : GoodIn wsX2_clash wsX2_refused := goodIn_r _ [13, 14, 30, 31, 32, 33, 34, 35, 36, 37, 38, 39, 40, 41, 42, 43, 44, 45, 46, 47] (by decide +kernel) (by decide +kernel)
set_option maxRecDepth 20000 in
theorem gX2_clash_X2_refused : GoodIn wsX2_clash (wsV RX2 77 RX2 yX2_refused wsX2_refused) := goodIn_app (goodIn_of _ (by decide +kernel)) ggX2_clash_X2_refused
set_option maxRecDepth 20000 in
theorem ggX2_clash_X2_doClash : GoodIn wsX2_clash wsX2_doClash := goodIn_r _ [18, 19, 20, 21, 22, 23, 24, 25, 26, 27, 28, 4, 29, 30, 31, 32, 33, 34, 35, 36, 37, 38, 39, 40, 41, 42, 43, 44, 45, 46, 47] (by decide +kernel) (by decide +kernel)
set_option maxRecDepth 20000 in
theorem gX2_clash_X2_doClash : GoodIn wsX2_clash (wsV RX2 107 RX2 yX2_doClash wsX2_doClash) := goodIn_app (goodIn_of _ (by decide +kernel)) ggX2_clash_X2_doClash
theorem dX2_clash_0 : decode cX2_clash 0 = .ok (.aload_n 0, 1) := by decide +kernel
theorem dX2_clash_1 : decode cX2_clash 1 = .ok (.aload_n 0, 1) := by decide +kernel
theorem dX2_clash_2 : decode cX2_clash 2 = .ok (.iload_n 1, 1) := by decide +kernel
theorem dX2_clash_3 : decode cX2_clash 3 = .ok (.invokevirtual 84, 3) := by decide +kernel
theorem dX2_clash_6 : decode cX2_clash 6 = .ok (.ifCond .eq 15, 3) := by decide +kernel
theorem dX2_clash_9 : decode cX2_clash 9 = .ok (.aload_n 0, 1) := by decide +kernel
theorem dX2_clash_10 : decode cX2_clash 10 = .ok (.iload_n 2, 1) := by decide +kernel
theorem dX2_clash_11 : decode cX2_clash 11 = .ok (.invokevirtual 84, 3) := by decide +kernel
theorem dX2_clash_14 : decode cX2_clash 14 = .ok (.ifCond .eq 7, 3) := by decide +kernel
theorem dX2_clash_17 : decode cX2_clash 17 = .ok (.iconst 0, 1) := by decide +kernel
theorem dX2_clash_18 : decode cX2_clash 18 = .ok (.goto 4, 3) := by decide +kernel
theorem dX2_clash_21 : decode cX2_clash 21 = .ok (.iconst 1, 1) := by decide +kernel
theorem dX2_clash_22 : decode cX2_clash 22 = .ok (.invokevirtual 77, 3) := by decide +kernel
theorem dX2_clash_25 : decode cX2_clash 25 = .ok (.ifCond .ne 16, 3) := by decide +kernel
theorem dX2_clash_28 : decode cX2_clash 28 = .ok (.aload_n 0, 1) := by decide +kernel
theorem dX2_clash_29 : decode cX2_clash 29 = .ok (.iload_n 1, 1) := by decide +kernel
theorem dX2_clash_30 : decode cX2_clash 30 = .ok (.iload_n 2, 1) := by decide +kernel
theorem dX2_clash_31 : decode cX2_clash 31 = .ok (.invokevirtual 107, 3) := by decide +kernel
theorem dX2_clash_34 : decode cX2_clash 34 = .ok (.ifCond .eq 7, 3) := by decide +kernel
theorem dX2_clash_37 : decode cX2_clash 37 = .ok (.iconst 1, 1) := by decide +kernel
theorem dX2_clash_38 : decode cX2_clash 38 = .ok (.goto 4, 3) := by decide +kernel
theorem dX2_clash_41 : decode cX2_clash 41 = .ok (.iconst 0, 1) := by decide +kernel
theorem dX2_clash_42 : decode cX2_clash 42 = .ok (.ireturn, 1) := by decide +kernel
set_option maxRecDepth 20000 in
theorem ggX2_clashes_X2_isStorey : GoodIn wsX2_clashes wsX2_isStorey := goodIn_r _ [6, 7, 8, 5, 9] (by decide +kernel) (by decide +kernel)
set_option maxRecDepth 20000 in
theorem gX2_clashes_X2_isStorey : GoodIn wsX2_clashes (va_wsS RX2 71 yX2_isStorey wsX2_isStorey) := goodIn_app (goodIn_of _ (by decide +kernel)) ggX2_clashes_X2_isStorey
set_option maxRecDepth 20000 in
theorem ggX2_clashes_X2_refused : GoodIn wsX2_clashes wsX2_refused := goodIn_r _ [13, 14, 29, 30, 31, 32, 33, 34, 35, 36, 37, 38, 39, 40, 41, 42, 43, 44, 45, 46] (by decide +kernel) (by decide +kernel)
set_option maxRecDepth 20000 in
theorem gX2_clashes_X2_refused : GoodIn wsX2_clashes (wsV RX2 77 RX2 yX2_refused wsX2_refused) := goodIn_app (goodIn_of _ (by decide +kernel)) ggX2_clashes_X2_refused
set_option maxRecDepth 20000 in
theorem ggX2_clashes_X2_doClash : GoodIn wsX2_clashes wsX2_doClash := goodIn_r _ [18, 19, 2, 20, 21, 22, 23, 24, 25, 26, 27, 5, 28, 29, 30, 31, 32, 33, 34, 35, 36, 37, 38, 39, 40, 41, 42, 43, 44, 45, 46] (by decide +kernel) (by decide +kernel)
set_option maxRecDepth 20000 in
theorem gX2_clashes_X2_doClash : GoodIn wsX2_clashes (wsV RX2 107 RX2 yX2_doClash wsX2_doClash) := goodIn_app (goodIn_of _ (by decide +kernel)) ggX2_clashes_X2_doClash
theorem dX2_clashes_0 : decode cX2_clashes 0 = .ok (.aload_n 0, 1) := by decide +kernel
theorem dX2_clashes_1 : decode cX2_clashes 1 = .ok (.iload_n 1, 1) := by decide +kernel
theorem dX2_clashes_2 : decode cX2_clashes 2 = .ok (.invokestatic 71, 3) := by decide +kernel
theorem dX2_clashes_5 : decode cX2_clashes 5 = .ok (.ifCond .eq 7, 3) := by decide +kernel
theorem dX2_clashes_8 : decode cX2_clashes 8 = .ok (.iconst 0, 1) := by decide +kernel
theorem dX2_clashes_9 : decode cX2_clashes 9 = .ok (.goto 4, 3) := by decide +kernel
theorem dX2_clashes_12 : decode cX2_clashes 12 = .ok (.iconst 1, 1) := by decide +kernel
theorem dX2_clashes_13 : decode cX2_clashes 13 = .ok (.invokevirtual 77, 3) := by decide +kernel
theorem dX2_clashes_16 : decode cX2_clashes 16 = .ok (.ifCond .eq 5, 3) := by decide +kernel
theorem dX2_clashes_19 : decode cX2_clashes 19 = .ok (.iconst 0, 1) := by decide +kernel
theorem dX2_clashes_20 : decode cX2_clashes 20 = .ok (.ireturn, 1) := by decide +kernel
theorem dX2_clashes_21 : decode cX2_clashes 21 = .ok (.iconst 0, 1) := by decide +kernel
theorem dX2_clashes_22 : decode cX2_clashes 22 = .ok (.istore_n 2, 1) := by decide +kernel
theorem dX2_clashes_23 : decode cX2_clashes 23 = .ok (.iconst 0, 1) := by decide +kernel
theorem dX2_clashes_24 : decode cX2_clashes 24 = .ok (.istore_n 3, 1) := by decide +kernel
theorem dX2_clashes_25 : decode cX2_clashes 25 = .ok (.iload_n 3, 1) := by decide +kernel
theorem dX2_clashes_26 : decode cX2_clashes 26 = .ok (.aload_n 0, 1) := by decide +kernel
theorem dX2_clashes_27 : decode cX2_clashes 27 = .ok (.getfield 61, 3) := by decide +kernel
theorem dX2_clashes_30 : decode cX2_clashes 30 = .ok (.if_icmp .ge 52, 3) := by decide +kernel
theorem dX2_clashes_33 : decode cX2_clashes 33 = .ok (.iconst 0, 1) := by decide +kernel
theorem dX2_clashes_34 : decode cX2_clashes 34 = .ok (.istore 4, 2) := by decide +kernel
theorem dX2_clashes_36 : decode cX2_clashes 36 = .ok (.iload 4, 2) := by decide +kernel
theorem dX2_clashes_38 : decode cX2_clashes 38 = .ok (.iload_n 3, 1) := by decide +kernel
theorem dX2_clashes_39 : decode cX2_clashes 39 = .ok (.if_icmp .ge 37, 3) := by decide +kernel
theorem dX2_clashes_42 : decode cX2_clashes 42 = .ok (.iload_n 2, 1) := by decide +kernel
theorem dX2_clashes_43 : decode cX2_clashes 43 = .ok (.aload_n 0, 1) := by decide +kernel
theorem dX2_clashes_44 : decode cX2_clashes 44 = .ok (.getfield 13, 3) := by decide +kernel
theorem dX2_clashes_47 : decode cX2_clashes 47 = .ok (.iload_n 3, 1) := by decide +kernel
theorem dX2_clashes_48 : decode cX2_clashes 48 = .ok (.iaload, 1) := by decide +kernel
theorem dX2_clashes_49 : decode cX2_clashes 49 = .ok (.iload_n 1, 1) := by decide +kernel
theorem dX2_clashes_50 : decode cX2_clashes 50 = .ok (.if_icmp .ne 17, 3) := by decide +kernel
theorem dX2_clashes_53 : decode cX2_clashes 53 = .ok (.aload_n 0, 1) := by decide +kernel
theorem dX2_clashes_54 : decode cX2_clashes 54 = .ok (.iload_n 3, 1) := by decide +kernel
theorem dX2_clashes_55 : decode cX2_clashes 55 = .ok (.iload 4, 2) := by decide +kernel
theorem dX2_clashes_57 : decode cX2_clashes 57 = .ok (.invokevirtual 107, 3) := by decide +kernel
theorem dX2_clashes_60 : decode cX2_clashes 60 = .ok (.ifCond .eq 7, 3) := by decide +kernel
theorem dX2_clashes_63 : decode cX2_clashes 63 = .ok (.iconst 1, 1) := by decide +kernel
theorem dX2_clashes_64 : decode cX2_clashes 64 = .ok (.goto 4, 3) := by decide +kernel
theorem dX2_clashes_67 : decode cX2_clashes 67 = .ok (.iconst 0, 1) := by decide +kernel
theorem dX2_clashes_68 : decode cX2_clashes 68 = .ok (.iadd, 1) := by decide +kernel
theorem dX2_clashes_69 : decode cX2_clashes 69 = .ok (.istore_n 2, 1) := by decide +kernel
theorem dX2_clashes_70 : decode cX2_clashes 70 = .ok (.iinc 4 1, 3) := by decide +kernel
theorem dX2_clashes_73 : decode cX2_clashes 73 = .ok (.goto (-37), 3) := by decide +kernel
theorem dX2_clashes_76 : decode cX2_clashes 76 = .ok (.iinc 3 1, 3) := by decide +kernel
theorem dX2_clashes_79 : decode cX2_clashes 79 = .ok (.goto (-54), 3) := by decide +kernel
theorem dX2_clashes_82 : decode cX2_clashes 82 = .ok (.iload_n 2, 1) := by decide +kernel
theorem dX2_clashes_83 : decode cX2_clashes 83 = .ok (.ireturn, 1) := by decide +kernel
set_option maxRecDepth 20000 in
theorem ggX2_isStopped_X2_isTrade : GoodIn wsX2_isStopped wsX2_isTrade := goodIn_r _ [7, 8, 9, 6, 10] (by decide +kernel) (by decide +kernel)
set_option maxRecDepth 20000 in
theorem gX2_isStopped_X2_isTrade : GoodIn wsX2_isStopped (va_wsS RX2 67 yX2_isTrade wsX2_isTrade) := goodIn_app (goodIn_of _ (by decide +kernel)) ggX2_isStopped_X2_isTrade
set_option maxRecDepth 20000 in
theorem ggX2_isStopped_X2_isStorey : GoodIn wsX2_isStopped wsX2_isStorey := goodIn_r _ [13, 8, 9, 6, 10] (by decide +kernel) (by decide +kernel)
set_option maxRecDepth 20000 in
theorem gX2_isStopped_X2_isStorey : GoodIn wsX2_isStopped (va_wsS RX2 71 yX2_isStorey wsX2_isStorey) := goodIn_app (goodIn_of _ (by decide +kernel)) ggX2_isStopped_X2_isStorey
set_option maxRecDepth 20000 in
theorem ggX2_isStopped_X2_refused : GoodIn wsX2_isStopped wsX2_refused := goodIn_r _ [17, 18, 36, 37, 38, 39, 40, 41, 42, 43, 44, 45, 46, 47, 48, 49, 50, 51, 52, 53] (by decide +kernel) (by decide +kernel)
set_option maxRecDepth 20000 in
theorem gX2_isStopped_X2_refused : GoodIn wsX2_isStopped (wsV RX2 77 RX2 yX2_refused wsX2_refused) := goodIn_app (goodIn_of _ (by decide +kernel)) ggX2_isStopped_X2_refused
set_option maxRecDepth 20000 in
theorem ggX2_isStopped_X2_hasClash : GoodIn wsX2_isStopped wsX2_hasClash := goodIn_r _ [22, 1, 23, 24, 25, 6, 26, 27, 3, 28, 29, 30, 31, 32, 2, 33, 34, 35, 36, 37, 38, 39, 40, 41, 42, 43, 44, 45, 46, 47, 48, 49, 50, 51, 52, 53] (by decide +kernel) (by decide +kernel)
set_option maxRecDepth 20000 in
theorem gX2_isStopped_X2_hasClash : GoodIn wsX2_isStopped (wsV RX2 111 RX2 yX2_hasClash wsX2_hasClash) := goodIn_app (goodIn_of _ (by decide +kernel)) ggX2_isStopped_X2_hasClash
theorem dX2_isStopped_0 : decode cX2_isStopped 0 = .ok (.aload_n 0, 1) := by decide +kernel
theorem dX2_isStopped_1 : decode cX2_isStopped 1 = .ok (.iload_n 1, 1) := by decide +kernel
theorem dX2_isStopped_2 : decode cX2_isStopped 2 = .ok (.invokestatic 67, 3) := by decide +kernel
theorem dX2_isStopped_5 : decode cX2_isStopped 5 = .ok (.ifCond .eq 14, 3) := by decide +kernel
theorem dX2_isStopped_8 : decode cX2_isStopped 8 = .ok (.iload_n 2, 1) := by decide +kernel
theorem dX2_isStopped_9 : decode cX2_isStopped 9 = .ok (.invokestatic 71, 3) := by decide +kernel
theorem dX2_isStopped_12 : decode cX2_isStopped 12 = .ok (.ifCond .eq 7, 3) := by decide +kernel
theorem dX2_isStopped_15 : decode cX2_isStopped 15 = .ok (.iconst 0, 1) := by decide +kernel
theorem dX2_isStopped_16 : decode cX2_isStopped 16 = .ok (.goto 4, 3) := by decide +kernel
theorem dX2_isStopped_19 : decode cX2_isStopped 19 = .ok (.iconst 1, 1) := by decide +kernel
theorem dX2_isStopped_20 : decode cX2_isStopped 20 = .ok (.invokevirtual 77, 3) := by decide +kernel
theorem dX2_isStopped_23 : decode cX2_isStopped 23 = .ok (.ifCond .eq 5, 3) := by decide +kernel
theorem dX2_isStopped_26 : decode cX2_isStopped 26 = .ok (.iconst 0, 1) := by decide +kernel
theorem dX2_isStopped_27 : decode cX2_isStopped 27 = .ok (.ireturn, 1) := by decide +kernel
theorem dX2_isStopped_28 : decode cX2_isStopped 28 = .ok (.iconst 0, 1) := by decide +kernel
theorem dX2_isStopped_29 : decode cX2_isStopped 29 = .ok (.istore_n 3, 1) := by decide +kernel
theorem dX2_isStopped_30 : decode cX2_isStopped 30 = .ok (.iconst 0, 1) := by decide +kernel
theorem dX2_isStopped_31 : decode cX2_isStopped 31 = .ok (.istore 4, 2) := by decide +kernel
theorem dX2_isStopped_33 : decode cX2_isStopped 33 = .ok (.iload 4, 2) := by decide +kernel
theorem dX2_isStopped_35 : decode cX2_isStopped 35 = .ok (.aload_n 0, 1) := by decide +kernel
theorem dX2_isStopped_36 : decode cX2_isStopped 36 = .ok (.getfield 61, 3) := by decide +kernel
theorem dX2_isStopped_39 : decode cX2_isStopped 39 = .ok (.if_icmp .ge 50, 3) := by decide +kernel
theorem dX2_isStopped_42 : decode cX2_isStopped 42 = .ok (.iload_n 3, 1) := by decide +kernel
theorem dX2_isStopped_43 : decode cX2_isStopped 43 = .ok (.ifCond .ne 34, 3) := by decide +kernel
theorem dX2_isStopped_46 : decode cX2_isStopped 46 = .ok (.aload_n 0, 1) := by decide +kernel
theorem dX2_isStopped_47 : decode cX2_isStopped 47 = .ok (.getfield 7, 3) := by decide +kernel
theorem dX2_isStopped_50 : decode cX2_isStopped 50 = .ok (.iload 4, 2) := by decide +kernel
theorem dX2_isStopped_52 : decode cX2_isStopped 52 = .ok (.iaload, 1) := by decide +kernel
theorem dX2_isStopped_53 : decode cX2_isStopped 53 = .ok (.iload_n 1, 1) := by decide +kernel
theorem dX2_isStopped_54 : decode cX2_isStopped 54 = .ok (.if_icmp .ne 27, 3) := by decide +kernel
theorem dX2_isStopped_57 : decode cX2_isStopped 57 = .ok (.aload_n 0, 1) := by decide +kernel
theorem dX2_isStopped_58 : decode cX2_isStopped 58 = .ok (.getfield 13, 3) := by decide +kernel
theorem dX2_isStopped_61 : decode cX2_isStopped 61 = .ok (.iload 4, 2) := by decide +kernel
theorem dX2_isStopped_63 : decode cX2_isStopped 63 = .ok (.iaload, 1) := by decide +kernel
theorem dX2_isStopped_64 : decode cX2_isStopped 64 = .ok (.iload_n 2, 1) := by decide +kernel
theorem dX2_isStopped_65 : decode cX2_isStopped 65 = .ok (.if_icmp .ne 16, 3) := by decide +kernel
theorem dX2_isStopped_68 : decode cX2_isStopped 68 = .ok (.aload_n 0, 1) := by decide +kernel
theorem dX2_isStopped_69 : decode cX2_isStopped 69 = .ok (.iload 4, 2) := by decide +kernel
theorem dX2_isStopped_71 : decode cX2_isStopped 71 = .ok (.invokevirtual 111, 3) := by decide +kernel
theorem dX2_isStopped_74 : decode cX2_isStopped 74 = .ok (.ifCond .eq 7, 3) := by decide +kernel
theorem dX2_isStopped_77 : decode cX2_isStopped 77 = .ok (.iconst 1, 1) := by decide +kernel
theorem dX2_isStopped_78 : decode cX2_isStopped 78 = .ok (.goto 4, 3) := by decide +kernel
theorem dX2_isStopped_81 : decode cX2_isStopped 81 = .ok (.iconst 0, 1) := by decide +kernel
theorem dX2_isStopped_82 : decode cX2_isStopped 82 = .ok (.istore_n 3, 1) := by decide +kernel
theorem dX2_isStopped_83 : decode cX2_isStopped 83 = .ok (.iinc 4 1, 3) := by decide +kernel
theorem dX2_isStopped_86 : decode cX2_isStopped 86 = .ok (.goto (-53), 3) := by decide +kernel
theorem dX2_isStopped_89 : decode cX2_isStopped 89 = .ok (.iload_n 3, 1) := by decide +kernel
theorem dX2_isStopped_90 : decode cX2_isStopped 90 = .ok (.ireturn, 1) := by decide +kernel
set_option maxRecDepth 20000 in
theorem ggX2_partsFrom_X2_in : GoodIn wsX2_partsFrom wsX2_in := goodIn_r _ [7] (by decide +kernel) (by decide +kernel)
set_option maxRecDepth 20000 in
theorem gX2_partsFrom_X2_in : GoodIn wsX2_partsFrom (va_wsS RX2 57 yX2_in wsX2_in) := goodIn_app (goodIn_of _ (by decide +kernel)) ggX2_partsFrom_X2_in
set_option maxRecDepth 20000 in
theorem ggX2_partsFrom_X2_partsOf : GoodIn wsX2_partsFrom wsX2_partsOf := goodIn_r _ [11, 12, 2, 13, 14, 15, 6, 16, 17, 18, 19, 20, 21, 22, 23, 24, 25, 26, 27, 28, 29, 30, 31, 32, 33, 34, 35, 36, 37, 38, 39, 40, 41] (by decide +kernel) (by decide +kernel)
set_option maxRecDepth 20000 in
theorem gX2_partsFrom_X2_partsOf : GoodIn wsX2_partsFrom (wsV RX2 100 RX2 yX2_partsOf wsX2_partsOf) := goodIn_app (goodIn_of _ (by decide +kernel)) ggX2_partsFrom_X2_partsOf
theorem dX2_partsFrom_0 : decode cX2_partsFrom 0 = .ok (.iconst 0, 1) := by decide +kernel
theorem dX2_partsFrom_1 : decode cX2_partsFrom 1 = .ok (.istore_n 3, 1) := by decide +kernel
theorem dX2_partsFrom_2 : decode cX2_partsFrom 2 = .ok (.iconst 0, 1) := by decide +kernel
theorem dX2_partsFrom_3 : decode cX2_partsFrom 3 = .ok (.istore 4, 2) := by decide +kernel
theorem dX2_partsFrom_5 : decode cX2_partsFrom 5 = .ok (.iload 4, 2) := by decide +kernel
theorem dX2_partsFrom_7 : decode cX2_partsFrom 7 = .ok (.aload_n 0, 1) := by decide +kernel
theorem dX2_partsFrom_8 : decode cX2_partsFrom 8 = .ok (.getfield 61, 3) := by decide +kernel
theorem dX2_partsFrom_11 : decode cX2_partsFrom 11 = .ok (.if_icmp .ge 48, 3) := by decide +kernel
theorem dX2_partsFrom_14 : decode cX2_partsFrom 14 = .ok (.iload_n 3, 1) := by decide +kernel
theorem dX2_partsFrom_15 : decode cX2_partsFrom 15 = .ok (.aload_n 0, 1) := by decide +kernel
theorem dX2_partsFrom_16 : decode cX2_partsFrom 16 = .ok (.getfield 7, 3) := by decide +kernel
theorem dX2_partsFrom_19 : decode cX2_partsFrom 19 = .ok (.iload 4, 2) := by decide +kernel
theorem dX2_partsFrom_21 : decode cX2_partsFrom 21 = .ok (.iaload, 1) := by decide +kernel
theorem dX2_partsFrom_22 : decode cX2_partsFrom 22 = .ok (.iload_n 1, 1) := by decide +kernel
theorem dX2_partsFrom_23 : decode cX2_partsFrom 23 = .ok (.if_icmp .ne 27, 3) := by decide +kernel
theorem dX2_partsFrom_26 : decode cX2_partsFrom 26 = .ok (.aload_n 0, 1) := by decide +kernel
theorem dX2_partsFrom_27 : decode cX2_partsFrom 27 = .ok (.getfield 28, 3) := by decide +kernel
theorem dX2_partsFrom_30 : decode cX2_partsFrom 30 = .ok (.iload 4, 2) := by decide +kernel
theorem dX2_partsFrom_32 : decode cX2_partsFrom 32 = .ok (.iaload, 1) := by decide +kernel
theorem dX2_partsFrom_33 : decode cX2_partsFrom 33 = .ok (.iload_n 2, 1) := by decide +kernel
theorem dX2_partsFrom_34 : decode cX2_partsFrom 34 = .ok (.iconst 3, 1) := by decide +kernel
theorem dX2_partsFrom_35 : decode cX2_partsFrom 35 = .ok (.invokestatic 57, 3) := by decide +kernel
theorem dX2_partsFrom_38 : decode cX2_partsFrom 38 = .ok (.ifCond .eq 12, 3) := by decide +kernel
theorem dX2_partsFrom_41 : decode cX2_partsFrom 41 = .ok (.aload_n 0, 1) := by decide +kernel
theorem dX2_partsFrom_42 : decode cX2_partsFrom 42 = .ok (.iload 4, 2) := by decide +kernel
theorem dX2_partsFrom_44 : decode cX2_partsFrom 44 = .ok (.invokevirtual 100, 3) := by decide +kernel
theorem dX2_partsFrom_47 : decode cX2_partsFrom 47 = .ok (.goto 4, 3) := by decide +kernel
theorem dX2_partsFrom_50 : decode cX2_partsFrom 50 = .ok (.iconst 0, 1) := by decide +kernel
theorem dX2_partsFrom_51 : decode cX2_partsFrom 51 = .ok (.iadd, 1) := by decide +kernel
theorem dX2_partsFrom_52 : decode cX2_partsFrom 52 = .ok (.istore_n 3, 1) := by decide +kernel
theorem dX2_partsFrom_53 : decode cX2_partsFrom 53 = .ok (.iinc 4 1, 3) := by decide +kernel
theorem dX2_partsFrom_56 : decode cX2_partsFrom 56 = .ok (.goto (-51), 3) := by decide +kernel
theorem dX2_partsFrom_59 : decode cX2_partsFrom 59 = .ok (.iload_n 3, 1) := by decide +kernel
theorem dX2_partsFrom_60 : decode cX2_partsFrom 60 = .ok (.ireturn, 1) := by decide +kernel
set_option maxRecDepth 20000 in
theorem ggX2_parts_X2_isTrade : GoodIn wsX2_parts wsX2_isTrade := goodIn_r _ [4, 5, 6, 3, 7] (by decide +kernel) (by decide +kernel)
set_option maxRecDepth 20000 in
theorem gX2_parts_X2_isTrade : GoodIn wsX2_parts (va_wsS RX2 67 yX2_isTrade wsX2_isTrade) := goodIn_app (goodIn_of _ (by decide +kernel)) ggX2_parts_X2_isTrade
set_option maxRecDepth 20000 in
theorem ggX2_parts_X2_refused : GoodIn wsX2_parts wsX2_refused := goodIn_r _ [11, 12, 36, 37, 38, 39, 40, 41, 42, 43, 44, 45, 46, 47, 48, 49, 50, 51, 52, 53] (by decide +kernel) (by decide +kernel)
set_option maxRecDepth 20000 in
theorem gX2_parts_X2_refused : GoodIn wsX2_parts (wsV RX2 77 RX2 yX2_refused wsX2_refused) := goodIn_app (goodIn_of _ (by decide +kernel)) ggX2_parts_X2_refused
set_option maxRecDepth 20000 in
theorem ggX2_parts_X2_partsFrom : GoodIn wsX2_parts wsX2_partsFrom := goodIn_r _ [16, 17, 18, 19, 5, 6, 3, 7, 20, 21, 22, 23, 24, 25, 26, 27, 28, 29, 30, 31, 32, 33, 34, 35, 36, 37, 38, 39, 40, 41, 42, 43, 44, 45, 46, 47, 48, 49, 50, 51, 52, 53] (by decide +kernel) (by decide +kernel)
set_option maxRecDepth 20000 in
theorem gX2_parts_X2_partsFrom : GoodIn wsX2_parts (wsV RX2 114 RX2 yX2_partsFrom wsX2_partsFrom) := goodIn_app (goodIn_of _ (by decide +kernel)) ggX2_parts_X2_partsFrom
theorem dX2_parts_0 : decode cX2_parts 0 = .ok (.aload_n 0, 1) := by decide +kernel
theorem dX2_parts_1 : decode cX2_parts 1 = .ok (.iload_n 1, 1) := by decide +kernel
theorem dX2_parts_2 : decode cX2_parts 2 = .ok (.invokestatic 67, 3) := by decide +kernel
theorem dX2_parts_5 : decode cX2_parts 5 = .ok (.ifCond .eq 7, 3) := by decide +kernel
theorem dX2_parts_8 : decode cX2_parts 8 = .ok (.iconst 0, 1) := by decide +kernel
theorem dX2_parts_9 : decode cX2_parts 9 = .ok (.goto 4, 3) := by decide +kernel
theorem dX2_parts_12 : decode cX2_parts 12 = .ok (.iconst 1, 1) := by decide +kernel
theorem dX2_parts_13 : decode cX2_parts 13 = .ok (.invokevirtual 77, 3) := by decide +kernel
theorem dX2_parts_16 : decode cX2_parts 16 = .ok (.ifCond .eq 7, 3) := by decide +kernel
theorem dX2_parts_19 : decode cX2_parts 19 = .ok (.iconst 0, 1) := by decide +kernel
theorem dX2_parts_20 : decode cX2_parts 20 = .ok (.goto 9, 3) := by decide +kernel
theorem dX2_parts_23 : decode cX2_parts 23 = .ok (.aload_n 0, 1) := by decide +kernel
theorem dX2_parts_24 : decode cX2_parts 24 = .ok (.iload_n 1, 1) := by decide +kernel
theorem dX2_parts_25 : decode cX2_parts 25 = .ok (.iconst 0, 1) := by decide +kernel
theorem dX2_parts_26 : decode cX2_parts 26 = .ok (.invokevirtual 114, 3) := by decide +kernel
theorem dX2_parts_29 : decode cX2_parts 29 = .ok (.ireturn, 1) := by decide +kernel
set_option maxRecDepth 20000 in
theorem ggX2_partsAnew_X2_parts : GoodIn wsX2_partsAnew wsX2_parts := goodIn_r _ [5, 6, 7, 4, 8, 9, 10, 11, 12, 13, 14, 15, 16, 17, 18, 19, 20, 21, 22, 23, 24, 25, 26, 27, 28, 29, 30, 31, 32, 33, 34, 35, 36, 37, 38, 39, 40, 41, 42, 43, 44, 45, 46, 47, 48, 49, 50, 51, 52, 53, 54, 55, 56, 57] (by decide +kernel) (by decide +kernel)
set_option maxRecDepth 20000 in
theorem gX2_partsAnew_X2_parts : GoodIn wsX2_partsAnew (wsV RX2 118 RX2 yX2_parts wsX2_parts) := goodIn_app (goodIn_of _ (by decide +kernel)) ggX2_partsAnew_X2_parts
theorem dX2_partsAnew_0 : decode cX2_partsAnew 0 = .ok (.aload_n 0, 1) := by decide +kernel
theorem dX2_partsAnew_1 : decode cX2_partsAnew 1 = .ok (.iload_n 1, 1) := by decide +kernel
theorem dX2_partsAnew_2 : decode cX2_partsAnew 2 = .ok (.invokevirtual 118, 3) := by decide +kernel
theorem dX2_partsAnew_5 : decode cX2_partsAnew 5 = .ok (.ireturn, 1) := by decide +kernel
set_option maxRecDepth 20000 in
theorem ggX2_ordered_X2_isTrade : GoodIn wsX2_ordered wsX2_isTrade := goodIn_r _ [4, 5, 6, 3, 7] (by decide +kernel) (by decide +kernel)
set_option maxRecDepth 20000 in
theorem gX2_ordered_X2_isTrade : GoodIn wsX2_ordered (va_wsS RX2 67 yX2_isTrade wsX2_isTrade) := goodIn_app (goodIn_of _ (by decide +kernel)) ggX2_ordered_X2_isTrade
set_option maxRecDepth 20000 in
theorem ggX2_ordered_X2_refused : GoodIn wsX2_ordered wsX2_refused := goodIn_r _ [11, 12, 36, 37, 38, 39, 40, 41, 42, 43, 44, 45, 46, 47, 48, 49, 50, 51, 52, 53] (by decide +kernel) (by decide +kernel)
set_option maxRecDepth 20000 in
theorem gX2_ordered_X2_refused : GoodIn wsX2_ordered (wsV RX2 77 RX2 yX2_refused wsX2_refused) := goodIn_app (goodIn_of _ (by decide +kernel)) ggX2_ordered_X2_refused
set_option maxRecDepth 20000 in
theorem ggX2_ordered_X2_partsFrom : GoodIn wsX2_ordered wsX2_partsFrom := goodIn_r _ [16, 17, 18, 19, 5, 6, 3, 7, 20, 21, 22, 23, 24, 25, 26, 27, 28, 29, 30, 31, 32, 33, 34, 35, 36, 37, 38, 39, 40, 41, 42, 43, 44, 45, 46, 47, 48, 49, 50, 51, 52, 53] (by decide +kernel) (by decide +kernel)
set_option maxRecDepth 20000 in
theorem gX2_ordered_X2_partsFrom : GoodIn wsX2_ordered (wsV RX2 114 RX2 yX2_partsFrom wsX2_partsFrom) := goodIn_app (goodIn_of _ (by decide +kernel)) ggX2_ordered_X2_partsFrom
theorem dX2_ordered_0 : decode cX2_ordered 0 = .ok (.aload_n 0, 1) := by decide +kernel
theorem dX2_ordered_1 : decode cX2_ordered 1 = .ok (.iload_n 1, 1) := by decide +kernel
theorem dX2_ordered_2 : decode cX2_ordered 2 = .ok (.invokestatic 67, 3) := by decide +kernel
theorem dX2_ordered_5 : decode cX2_ordered 5 = .ok (.ifCond .eq 7, 3) := by decide +kernel
theorem dX2_ordered_8 : decode cX2_ordered 8 = .ok (.iconst 0, 1) := by decide +kernel
theorem dX2_ordered_9 : decode cX2_ordered 9 = .ok (.goto 4, 3) := by decide +kernel
theorem dX2_ordered_12 : decode cX2_ordered 12 = .ok (.iconst 1, 1) := by decide +kernel
theorem dX2_ordered_13 : decode cX2_ordered 13 = .ok (.invokevirtual 77, 3) := by decide +kernel
theorem dX2_ordered_16 : decode cX2_ordered 16 = .ok (.ifCond .eq 7, 3) := by decide +kernel
theorem dX2_ordered_19 : decode cX2_ordered 19 = .ok (.iconst 0, 1) := by decide +kernel
theorem dX2_ordered_20 : decode cX2_ordered 20 = .ok (.goto 9, 3) := by decide +kernel
theorem dX2_ordered_23 : decode cX2_ordered 23 = .ok (.aload_n 0, 1) := by decide +kernel
theorem dX2_ordered_24 : decode cX2_ordered 24 = .ok (.iload_n 1, 1) := by decide +kernel
theorem dX2_ordered_25 : decode cX2_ordered 25 = .ok (.iconst 1, 1) := by decide +kernel
theorem dX2_ordered_26 : decode cX2_ordered 26 = .ok (.invokevirtual 114, 3) := by decide +kernel
theorem dX2_ordered_29 : decode cX2_ordered 29 = .ok (.ireturn, 1) := by decide +kernel
set_option maxRecDepth 20000 in
theorem ggX2_kindsAt_X2_isStorey : GoodIn wsX2_kindsAt wsX2_isStorey := goodIn_r _ [12, 13, 14, 11, 15] (by decide +kernel) (by decide +kernel)
set_option maxRecDepth 20000 in
theorem gX2_kindsAt_X2_isStorey : GoodIn wsX2_kindsAt (va_wsS RX2 71 yX2_isStorey wsX2_isStorey) := goodIn_app (goodIn_of _ (by decide +kernel)) ggX2_kindsAt_X2_isStorey
set_option maxRecDepth 20000 in
theorem ggX2_kindsAt_X2_isSide : GoodIn wsX2_kindsAt wsX2_isSide := goodIn_r _ [18, 13, 14, 11, 15] (by decide +kernel) (by decide +kernel)
set_option maxRecDepth 20000 in
theorem gX2_kindsAt_X2_isSide : GoodIn wsX2_kindsAt (va_wsS RX2 74 yX2_isSide wsX2_isSide) := goodIn_app (goodIn_of _ (by decide +kernel)) ggX2_kindsAt_X2_isSide
set_option maxRecDepth 20000 in
theorem ggX2_kindsAt_X2_refused : GoodIn wsX2_kindsAt wsX2_refused := goodIn_r _ [22, 23, 27, 28, 29, 30, 31, 32, 33, 34, 35, 36, 37, 38, 39, 40, 41, 42, 43, 44] (by decide +kernel) (by decide +kernel)
set_option maxRecDepth 20000 in
theorem gX2_kindsAt_X2_refused : GoodIn wsX2_kindsAt (wsV RX2 77 RX2 yX2_refused wsX2_refused) := goodIn_app (goodIn_of _ (by decide +kernel)) ggX2_kindsAt_X2_refused
set_option maxRecDepth 20000 in
theorem ggX2_kindsAt_X2_gap : GoodIn wsX2_kindsAt wsX2_gap := goodIn_r _ [26] (by decide +kernel) (by decide +kernel)
set_option maxRecDepth 20000 in
theorem gX2_kindsAt_X2_gap : GoodIn wsX2_kindsAt (va_wsS RX2 103 yX2_gap wsX2_gap) := goodIn_app (goodIn_of _ (by decide +kernel)) ggX2_kindsAt_X2_gap
theorem dX2_kindsAt_0 : decode cX2_kindsAt 0 = .ok (.aload_n 0, 1) := by decide +kernel
theorem dX2_kindsAt_1 : decode cX2_kindsAt 1 = .ok (.iload_n 1, 1) := by decide +kernel
theorem dX2_kindsAt_2 : decode cX2_kindsAt 2 = .ok (.invokestatic 71, 3) := by decide +kernel
theorem dX2_kindsAt_5 : decode cX2_kindsAt 5 = .ok (.ifCond .ne 7, 3) := by decide +kernel
theorem dX2_kindsAt_8 : decode cX2_kindsAt 8 = .ok (.iconst 1, 1) := by decide +kernel
theorem dX2_kindsAt_9 : decode cX2_kindsAt 9 = .ok (.goto 22, 3) := by decide +kernel
theorem dX2_kindsAt_12 : decode cX2_kindsAt 12 = .ok (.iload_n 2, 1) := by decide +kernel
theorem dX2_kindsAt_13 : decode cX2_kindsAt 13 = .ok (.invokestatic 74, 3) := by decide +kernel
theorem dX2_kindsAt_16 : decode cX2_kindsAt 16 = .ok (.ifCond .eq 10, 3) := by decide +kernel
theorem dX2_kindsAt_19 : decode cX2_kindsAt 19 = .ok (.iload_n 3, 1) := by decide +kernel
theorem dX2_kindsAt_20 : decode cX2_kindsAt 20 = .ok (.invokestatic 74, 3) := by decide +kernel
theorem dX2_kindsAt_23 : decode cX2_kindsAt 23 = .ok (.ifCond .ne 7, 3) := by decide +kernel
theorem dX2_kindsAt_26 : decode cX2_kindsAt 26 = .ok (.iconst 2, 1) := by decide +kernel
theorem dX2_kindsAt_27 : decode cX2_kindsAt 27 = .ok (.goto 4, 3) := by decide +kernel
theorem dX2_kindsAt_30 : decode cX2_kindsAt 30 = .ok (.iconst 0, 1) := by decide +kernel
theorem dX2_kindsAt_31 : decode cX2_kindsAt 31 = .ok (.invokevirtual 77, 3) := by decide +kernel
theorem dX2_kindsAt_34 : decode cX2_kindsAt 34 = .ok (.ifCond .eq 5, 3) := by decide +kernel
theorem dX2_kindsAt_37 : decode cX2_kindsAt 37 = .ok (.iconst 0, 1) := by decide +kernel
theorem dX2_kindsAt_38 : decode cX2_kindsAt 38 = .ok (.ireturn, 1) := by decide +kernel
theorem dX2_kindsAt_39 : decode cX2_kindsAt 39 = .ok (.iconst 0, 1) := by decide +kernel
theorem dX2_kindsAt_40 : decode cX2_kindsAt 40 = .ok (.istore 4, 2) := by decide +kernel
theorem dX2_kindsAt_42 : decode cX2_kindsAt 42 = .ok (.iconst 0, 1) := by decide +kernel
theorem dX2_kindsAt_43 : decode cX2_kindsAt 43 = .ok (.istore 5, 2) := by decide +kernel
theorem dX2_kindsAt_45 : decode cX2_kindsAt 45 = .ok (.iload 5, 2) := by decide +kernel
theorem dX2_kindsAt_47 : decode cX2_kindsAt 47 = .ok (.aload_n 0, 1) := by decide +kernel
theorem dX2_kindsAt_48 : decode cX2_kindsAt 48 = .ok (.getfield 61, 3) := by decide +kernel
theorem dX2_kindsAt_51 : decode cX2_kindsAt 51 = .ok (.if_icmp .ge 105, 3) := by decide +kernel
theorem dX2_kindsAt_54 : decode cX2_kindsAt 54 = .ok (.aload_n 0, 1) := by decide +kernel
theorem dX2_kindsAt_55 : decode cX2_kindsAt 55 = .ok (.getfield 28, 3) := by decide +kernel
theorem dX2_kindsAt_58 : decode cX2_kindsAt 58 = .ok (.iload 5, 2) := by decide +kernel
theorem dX2_kindsAt_60 : decode cX2_kindsAt 60 = .ok (.iaload, 1) := by decide +kernel
theorem dX2_kindsAt_61 : decode cX2_kindsAt 61 = .ok (.iconst 4, 1) := by decide +kernel
theorem dX2_kindsAt_62 : decode cX2_kindsAt 62 = .ok (.if_icmp .eq 62, 3) := by decide +kernel
theorem dX2_kindsAt_65 : decode cX2_kindsAt 65 = .ok (.aload_n 0, 1) := by decide +kernel
theorem dX2_kindsAt_66 : decode cX2_kindsAt 66 = .ok (.getfield 13, 3) := by decide +kernel
theorem dX2_kindsAt_69 : decode cX2_kindsAt 69 = .ok (.iload 5, 2) := by decide +kernel
theorem dX2_kindsAt_71 : decode cX2_kindsAt 71 = .ok (.iaload, 1) := by decide +kernel
theorem dX2_kindsAt_72 : decode cX2_kindsAt 72 = .ok (.iload_n 1, 1) := by decide +kernel
theorem dX2_kindsAt_73 : decode cX2_kindsAt 73 = .ok (.if_icmp .ne 51, 3) := by decide +kernel
theorem dX2_kindsAt_76 : decode cX2_kindsAt 76 = .ok (.aload_n 0, 1) := by decide +kernel
theorem dX2_kindsAt_77 : decode cX2_kindsAt 77 = .ok (.getfield 16, 3) := by decide +kernel
theorem dX2_kindsAt_80 : decode cX2_kindsAt 80 = .ok (.iload 5, 2) := by decide +kernel
theorem dX2_kindsAt_82 : decode cX2_kindsAt 82 = .ok (.iaload, 1) := by decide +kernel
theorem dX2_kindsAt_83 : decode cX2_kindsAt 83 = .ok (.aload_n 0, 1) := by decide +kernel
theorem dX2_kindsAt_84 : decode cX2_kindsAt 84 = .ok (.getfield 22, 3) := by decide +kernel
theorem dX2_kindsAt_87 : decode cX2_kindsAt 87 = .ok (.iload 5, 2) := by decide +kernel
theorem dX2_kindsAt_89 : decode cX2_kindsAt 89 = .ok (.iaload, 1) := by decide +kernel
theorem dX2_kindsAt_90 : decode cX2_kindsAt 90 = .ok (.iload_n 2, 1) := by decide +kernel
theorem dX2_kindsAt_91 : decode cX2_kindsAt 91 = .ok (.iload_n 2, 1) := by decide +kernel
theorem dX2_kindsAt_92 : decode cX2_kindsAt 92 = .ok (.invokestatic 103, 3) := by decide +kernel
theorem dX2_kindsAt_95 : decode cX2_kindsAt 95 = .ok (.ifCond .ne 29, 3) := by decide +kernel
theorem dX2_kindsAt_98 : decode cX2_kindsAt 98 = .ok (.aload_n 0, 1) := by decide +kernel
theorem dX2_kindsAt_99 : decode cX2_kindsAt 99 = .ok (.getfield 19, 3) := by decide +kernel
theorem dX2_kindsAt_102 : decode cX2_kindsAt 102 = .ok (.iload 5, 2) := by decide +kernel
theorem dX2_kindsAt_104 : decode cX2_kindsAt 104 = .ok (.iaload, 1) := by decide +kernel
theorem dX2_kindsAt_105 : decode cX2_kindsAt 105 = .ok (.aload_n 0, 1) := by decide +kernel
theorem dX2_kindsAt_106 : decode cX2_kindsAt 106 = .ok (.getfield 25, 3) := by decide +kernel
theorem dX2_kindsAt_109 : decode cX2_kindsAt 109 = .ok (.iload 5, 2) := by decide +kernel
theorem dX2_kindsAt_111 : decode cX2_kindsAt 111 = .ok (.iaload, 1) := by decide +kernel
theorem dX2_kindsAt_112 : decode cX2_kindsAt 112 = .ok (.iload_n 3, 1) := by decide +kernel
theorem dX2_kindsAt_113 : decode cX2_kindsAt 113 = .ok (.iload_n 3, 1) := by decide +kernel
theorem dX2_kindsAt_114 : decode cX2_kindsAt 114 = .ok (.invokestatic 103, 3) := by decide +kernel
theorem dX2_kindsAt_117 : decode cX2_kindsAt 117 = .ok (.ifCond .ne 7, 3) := by decide +kernel
theorem dX2_kindsAt_120 : decode cX2_kindsAt 120 = .ok (.iconst 1, 1) := by decide +kernel
theorem dX2_kindsAt_121 : decode cX2_kindsAt 121 = .ok (.goto 4, 3) := by decide +kernel
theorem dX2_kindsAt_124 : decode cX2_kindsAt 124 = .ok (.iconst 0, 1) := by decide +kernel
theorem dX2_kindsAt_125 : decode cX2_kindsAt 125 = .ok (.istore 6, 2) := by decide +kernel
theorem dX2_kindsAt_127 : decode cX2_kindsAt 127 = .ok (.iload 4, 2) := by decide +kernel
theorem dX2_kindsAt_129 : decode cX2_kindsAt 129 = .ok (.iload 6, 2) := by decide +kernel
theorem dX2_kindsAt_131 : decode cX2_kindsAt 131 = .ok (.ifCond .eq 15, 3) := by decide +kernel
theorem dX2_kindsAt_134 : decode cX2_kindsAt 134 = .ok (.iconst 1, 1) := by decide +kernel
theorem dX2_kindsAt_135 : decode cX2_kindsAt 135 = .ok (.aload_n 0, 1) := by decide +kernel
theorem dX2_kindsAt_136 : decode cX2_kindsAt 136 = .ok (.getfield 7, 3) := by decide +kernel
theorem dX2_kindsAt_139 : decode cX2_kindsAt 139 = .ok (.iload 5, 2) := by decide +kernel
theorem dX2_kindsAt_141 : decode cX2_kindsAt 141 = .ok (.iaload, 1) := by decide +kernel
theorem dX2_kindsAt_142 : decode cX2_kindsAt 142 = .ok (.ishl, 1) := by decide +kernel
theorem dX2_kindsAt_143 : decode cX2_kindsAt 143 = .ok (.goto 4, 3) := by decide +kernel
theorem dX2_kindsAt_146 : decode cX2_kindsAt 146 = .ok (.iconst 0, 1) := by decide +kernel
theorem dX2_kindsAt_147 : decode cX2_kindsAt 147 = .ok (.ior, 1) := by decide +kernel
theorem dX2_kindsAt_148 : decode cX2_kindsAt 148 = .ok (.istore 4, 2) := by decide +kernel
theorem dX2_kindsAt_150 : decode cX2_kindsAt 150 = .ok (.iinc 5 1, 3) := by decide +kernel
theorem dX2_kindsAt_153 : decode cX2_kindsAt 153 = .ok (.goto (-108), 3) := by decide +kernel
theorem dX2_kindsAt_156 : decode cX2_kindsAt 156 = .ok (.iload 4, 2) := by decide +kernel
theorem dX2_kindsAt_158 : decode cX2_kindsAt 158 = .ok (.ireturn, 1) := by decide +kernel
set_option maxRecDepth 20000 in
theorem ggX2_isLocked_X2_isStorey : GoodIn wsX2_isLocked wsX2_isStorey := goodIn_r _ [5, 6, 7, 4, 8] (by decide +kernel) (by decide +kernel)
set_option maxRecDepth 20000 in
theorem gX2_isLocked_X2_isStorey : GoodIn wsX2_isLocked (va_wsS RX2 71 yX2_isStorey wsX2_isStorey) := goodIn_app (goodIn_of _ (by decide +kernel)) ggX2_isLocked_X2_isStorey
set_option maxRecDepth 20000 in
theorem ggX2_isLocked_X2_refused : GoodIn wsX2_isLocked wsX2_refused := goodIn_r _ [12, 13, 14, 15, 16, 17, 18, 19, 20, 21, 22, 23, 24, 25, 26, 27, 28, 29, 30, 31] (by decide +kernel) (by decide +kernel)
set_option maxRecDepth 20000 in
theorem gX2_isLocked_X2_refused : GoodIn wsX2_isLocked (wsV RX2 77 RX2 yX2_refused wsX2_refused) := goodIn_app (goodIn_of _ (by decide +kernel)) ggX2_isLocked_X2_refused
theorem dX2_isLocked_0 : decode cX2_isLocked 0 = .ok (.aload_n 0, 1) := by decide +kernel
theorem dX2_isLocked_1 : decode cX2_isLocked 1 = .ok (.iload_n 1, 1) := by decide +kernel
theorem dX2_isLocked_2 : decode cX2_isLocked 2 = .ok (.invokestatic 71, 3) := by decide +kernel
theorem dX2_isLocked_5 : decode cX2_isLocked 5 = .ok (.ifCond .eq 7, 3) := by decide +kernel
theorem dX2_isLocked_8 : decode cX2_isLocked 8 = .ok (.iconst 0, 1) := by decide +kernel
theorem dX2_isLocked_9 : decode cX2_isLocked 9 = .ok (.goto 4, 3) := by decide +kernel
theorem dX2_isLocked_12 : decode cX2_isLocked 12 = .ok (.iconst 1, 1) := by decide +kernel
theorem dX2_isLocked_13 : decode cX2_isLocked 13 = .ok (.invokevirtual 77, 3) := by decide +kernel
theorem dX2_isLocked_16 : decode cX2_isLocked 16 = .ok (.ifCond .ne 16, 3) := by decide +kernel
theorem dX2_isLocked_19 : decode cX2_isLocked 19 = .ok (.aload_n 0, 1) := by decide +kernel
theorem dX2_isLocked_20 : decode cX2_isLocked 20 = .ok (.getfield 49, 3) := by decide +kernel
theorem dX2_isLocked_23 : decode cX2_isLocked 23 = .ok (.iload_n 1, 1) := by decide +kernel
theorem dX2_isLocked_24 : decode cX2_isLocked 24 = .ok (.baload, 1) := by decide +kernel
theorem dX2_isLocked_25 : decode cX2_isLocked 25 = .ok (.ifCond .eq 7, 3) := by decide +kernel
theorem dX2_isLocked_28 : decode cX2_isLocked 28 = .ok (.iconst 1, 1) := by decide +kernel
theorem dX2_isLocked_29 : decode cX2_isLocked 29 = .ok (.goto 4, 3) := by decide +kernel
theorem dX2_isLocked_32 : decode cX2_isLocked 32 = .ok (.iconst 0, 1) := by decide +kernel
theorem dX2_isLocked_33 : decode cX2_isLocked 33 = .ok (.ireturn, 1) := by decide +kernel
theorem dJ9_abs_0f7a4_0 : decode cJ9_abs_0f7a4 0 = .ok (.iload_n 0, 1) := by decide +kernel
theorem dJ9_abs_0f7a4_1 : decode cJ9_abs_0f7a4 1 = .ok (.ifCond .ge 8, 3) := by decide +kernel
theorem dJ9_abs_0f7a4_4 : decode cJ9_abs_0f7a4 4 = .ok (.iload_n 0, 1) := by decide +kernel
theorem dJ9_abs_0f7a4_5 : decode cJ9_abs_0f7a4 5 = .ok (.ineg, 1) := by decide +kernel
theorem dJ9_abs_0f7a4_6 : decode cJ9_abs_0f7a4 6 = .ok (.goto 4, 3) := by decide +kernel
theorem dJ9_abs_0f7a4_9 : decode cJ9_abs_0f7a4 9 = .ok (.iload_n 0, 1) := by decide +kernel
theorem dJ9_abs_0f7a4_10 : decode cJ9_abs_0f7a4 10 = .ok (.ireturn, 1) := by decide +kernel
theorem dJ9_max_7cf53_0 : decode cJ9_max_7cf53 0 = .ok (.iload_n 0, 1) := by decide +kernel
theorem dJ9_max_7cf53_1 : decode cJ9_max_7cf53 1 = .ok (.iload_n 1, 1) := by decide +kernel
theorem dJ9_max_7cf53_2 : decode cJ9_max_7cf53 2 = .ok (.if_icmp .lt 7, 3) := by decide +kernel
theorem dJ9_max_7cf53_5 : decode cJ9_max_7cf53 5 = .ok (.iload_n 0, 1) := by decide +kernel
theorem dJ9_max_7cf53_6 : decode cJ9_max_7cf53 6 = .ok (.goto 4, 3) := by decide +kernel
theorem dJ9_max_7cf53_9 : decode cJ9_max_7cf53 9 = .ok (.iload_n 1, 1) := by decide +kernel
theorem dJ9_max_7cf53_10 : decode cJ9_max_7cf53 10 = .ok (.ireturn, 1) := by decide +kernel
theorem dJ9_min_7cf53_0 : decode cJ9_min_7cf53 0 = .ok (.iload_n 0, 1) := by decide +kernel
theorem dJ9_min_7cf53_1 : decode cJ9_min_7cf53 1 = .ok (.iload_n 1, 1) := by decide +kernel
theorem dJ9_min_7cf53_2 : decode cJ9_min_7cf53 2 = .ok (.if_icmp .gt 7, 3) := by decide +kernel
theorem dJ9_min_7cf53_5 : decode cJ9_min_7cf53 5 = .ok (.iload_n 0, 1) := by decide +kernel
theorem dJ9_min_7cf53_6 : decode cJ9_min_7cf53 6 = .ok (.goto 4, 3) := by decide +kernel
theorem dJ9_min_7cf53_9 : decode cJ9_min_7cf53 9 = .ok (.iload_n 1, 1) := by decide +kernel
theorem dJ9_min_7cf53_10 : decode cJ9_min_7cf53 10 = .ok (.ireturn, 1) := by decide +kernel
set_option maxRecDepth 20000 in
theorem ggL_add_X1_add : GoodIn wsL_add wsX1_add := goodIn_ca (goodIn_ca (goodIn_ca (goodIn_r _ [8, 9, 10, 11, 12, 13, 14, 15, 16, 17, 18, 19, 20, 21, 22, 23, 7, 24, 25, 26, 27, 28, 29, 30, 31, 32, 33, 34, 35, 36, 37, 38, 39, 40, 41, 42, 43, 44, 45, 46, 47, 48, 49, 50, 51, 52, 53, 54, 55, 56, 57, 58, 59, 60, 61, 62, 63, 64, 65, 66, 67] (by decide +kernel) (by decide +kernel)) (goodIn_sub (fun _ h => List.mem_cons_of_mem _ (List.mem_append_left _ (List.mem_append_left _ (List.mem_append_right _ h)))) (by decide +kernel))) (goodIn_sub (fun _ h => List.mem_cons_of_mem _ (List.mem_append_left _ (List.mem_append_right _ h))) (by decide +kernel))) (goodIn_sub (fun _ h => List.mem_cons_of_mem _ (List.mem_append_right _ h)) (by decide +kernel))
set_option maxRecDepth 20000 in
theorem gL_add_X1_add : GoodIn wsL_add (wsV RL 7 RX1 yX1_add wsX1_add) := goodIn_app (goodIn_of _ (by decide +kernel)) ggL_add_X1_add
end
section
theorem dL_add_0 : decode cL_add 0 = .ok (.aload 7, 2) := by decide +kernel
theorem dL_add_2 : decode cL_add 2 = .ok (.iconst 0, 1) := by decide +kernel
theorem dL_add_3 : decode cL_add 3 = .ok (.aload_n 0, 1) := by decide +kernel
theorem dL_add_4 : decode cL_add 4 = .ok (.iload_n 1, 1) := by decide +kernel
theorem dL_add_5 : decode cL_add 5 = .ok (.iload_n 2, 1) := by decide +kernel
theorem dL_add_6 : decode cL_add 6 = .ok (.iload_n 3, 1) := by decide +kernel
theorem dL_add_7 : decode cL_add 7 = .ok (.iload 4, 2) := by decide +kernel
theorem dL_add_9 : decode cL_add 9 = .ok (.iload 5, 2) := by decide +kernel
theorem dL_add_11 : decode cL_add 11 = .ok (.iload 6, 2) := by decide +kernel
theorem dL_add_13 : decode cL_add 13 = .ok (.invokevirtual 7, 3) := by decide +kernel
theorem dL_add_16 : decode cL_add 16 = .ok (.i2l, 1) := by decide +kernel
theorem dL_add_17 : decode cL_add 17 = .ok (.lastore, 1) := by decide +kernel
theorem dL_add_18 : decode cL_add 18 = .ok (.goto 15, 3) := by decide +kernel
theorem dL_add_21 : decode cL_add 21 = .ok (.astore 8, 2) := by decide +kernel
theorem dL_add_23 : decode cL_add 23 = .ok (.iconst 1, 1) := by decide +kernel
theorem dL_add_24 : decode cL_add 24 = .ok (.ireturn, 1) := by decide +kernel
theorem dL_add_25 : decode cL_add 25 = .ok (.astore 8, 2) := by decide +kernel
theorem dL_add_27 : decode cL_add 27 = .ok (.iconst 2, 1) := by decide +kernel
theorem dL_add_28 : decode cL_add 28 = .ok (.ireturn, 1) := by decide +kernel
theorem dL_add_29 : decode cL_add 29 = .ok (.astore 8, 2) := by decide +kernel
theorem dL_add_31 : decode cL_add 31 = .ok (.iconst 3, 1) := by decide +kernel
theorem dL_add_32 : decode cL_add 32 = .ok (.ireturn, 1) := by decide +kernel
theorem dL_add_33 : decode cL_add 33 = .ok (.iconst 0, 1) := by decide +kernel
theorem dL_add_34 : decode cL_add 34 = .ok (.ireturn, 1) := by decide +kernel
set_option maxRecDepth 20000 in
theorem ggL_move_X1_move : GoodIn wsL_move wsX1_move := goodIn_ca (goodIn_ca (goodIn_ca (goodIn_r _ [8, 9, 10, 11, 12, 13, 14, 15, 16, 17, 18, 7, 19, 20, 21, 22, 23, 24, 25, 26, 27, 28, 29, 30, 31, 32, 33, 34, 35, 36, 37, 38, 39, 40, 41, 42, 43, 44, 45, 46, 47, 48, 49, 50, 51, 52, 53, 54, 55, 56, 57, 58, 59, 60, 61, 62, 63, 64, 65, 66, 67, 68, 69, 70, 71, 72, 73, 74, 75, 76] (by decide +kernel) (by decide +kernel)) (goodIn_sub (fun _ h => List.mem_cons_of_mem _ (List.mem_append_left _ (List.mem_append_left _ (List.mem_append_right _ h)))) (by decide +kernel))) (goodIn_sub (fun _ h => List.mem_cons_of_mem _ (List.mem_append_left _ (List.mem_append_right _ h))) (by decide +kernel))) (goodIn_sub (fun _ h => List.mem_cons_of_mem _ (List.mem_append_right _ h)) (by decide +kernel))
set_option maxRecDepth 20000 in
theorem gL_move_X1_move : GoodIn wsL_move (wsV RL 19 RX1 yX1_move wsX1_move) := goodIn_app (goodIn_of _ (by decide +kernel)) ggL_move_X1_move
theorem dL_move_0 : decode cL_move 0 = .ok (.aload 6, 2) := by decide +kernel
theorem dL_move_2 : decode cL_move 2 = .ok (.iconst 0, 1) := by decide +kernel
theorem dL_move_3 : decode cL_move 3 = .ok (.aload_n 0, 1) := by decide +kernel
theorem dL_move_4 : decode cL_move 4 = .ok (.iload_n 1, 1) := by decide +kernel
theorem dL_move_5 : decode cL_move 5 = .ok (.iload_n 2, 1) := by decide +kernel
theorem dL_move_6 : decode cL_move 6 = .ok (.iload_n 3, 1) := by decide +kernel
theorem dL_move_7 : decode cL_move 7 = .ok (.iload 4, 2) := by decide +kernel
theorem dL_move_9 : decode cL_move 9 = .ok (.iload 5, 2) := by decide +kernel
theorem dL_move_11 : decode cL_move 11 = .ok (.invokevirtual 19, 3) := by decide +kernel
theorem dL_move_14 : decode cL_move 14 = .ok (.ifCond .eq 7, 3) := by decide +kernel
theorem dL_move_17 : decode cL_move 17 = .ok (.lconst 1, 1) := by decide +kernel
theorem dL_move_18 : decode cL_move 18 = .ok (.goto 4, 3) := by decide +kernel
theorem dL_move_21 : decode cL_move 21 = .ok (.lconst 0, 1) := by decide +kernel
theorem dL_move_22 : decode cL_move 22 = .ok (.lastore, 1) := by decide +kernel
theorem dL_move_23 : decode cL_move 23 = .ok (.goto 15, 3) := by decide +kernel
theorem dL_move_26 : decode cL_move 26 = .ok (.astore 7, 2) := by decide +kernel
theorem dL_move_28 : decode cL_move 28 = .ok (.iconst 1, 1) := by decide +kernel
theorem dL_move_29 : decode cL_move 29 = .ok (.ireturn, 1) := by decide +kernel
theorem dL_move_30 : decode cL_move 30 = .ok (.astore 7, 2) := by decide +kernel
theorem dL_move_32 : decode cL_move 32 = .ok (.iconst 2, 1) := by decide +kernel
theorem dL_move_33 : decode cL_move 33 = .ok (.ireturn, 1) := by decide +kernel
theorem dL_move_34 : decode cL_move 34 = .ok (.astore 7, 2) := by decide +kernel
theorem dL_move_36 : decode cL_move 36 = .ok (.iconst 3, 1) := by decide +kernel
theorem dL_move_37 : decode cL_move 37 = .ok (.ireturn, 1) := by decide +kernel
theorem dL_move_38 : decode cL_move 38 = .ok (.iconst 0, 1) := by decide +kernel
theorem dL_move_39 : decode cL_move 39 = .ok (.ireturn, 1) := by decide +kernel
set_option maxRecDepth 20000 in
theorem ggL_remove_X1_remove : GoodIn wsL_remove wsX1_remove := goodIn_ca (goodIn_ca (goodIn_ca (goodIn_r _ [8, 9, 10, 11, 12, 13, 14, 15, 16, 17, 18, 7, 19, 20, 21, 22, 23, 24, 25, 26, 27, 28, 29, 30, 31, 32, 33, 34, 35, 36, 37, 38, 39, 40, 41, 42, 43, 44, 45, 46, 47, 48, 49, 50, 51, 52, 53, 54, 55] (by decide +kernel) (by decide +kernel)) (goodIn_sub (fun _ h => List.mem_cons_of_mem _ (List.mem_append_left _ (List.mem_append_left _ (List.mem_append_right _ h)))) (by decide +kernel))) (goodIn_sub (fun _ h => List.mem_cons_of_mem _ (List.mem_append_left _ (List.mem_append_right _ h))) (by decide +kernel))) (goodIn_sub (fun _ h => List.mem_cons_of_mem _ (List.mem_append_right _ h)) (by decide +kernel))
set_option maxRecDepth 20000 in
theorem gL_remove_X1_remove : GoodIn wsL_remove (wsV RL 23 RX1 yX1_remove wsX1_remove) := goodIn_app (goodIn_of _ (by decide +kernel)) ggL_remove_X1_remove
theorem dL_remove_0 : decode cL_remove 0 = .ok (.aload 4, 2) := by decide +kernel
theorem dL_remove_2 : decode cL_remove 2 = .ok (.iconst 0, 1) := by decide +kernel
theorem dL_remove_3 : decode cL_remove 3 = .ok (.aload_n 0, 1) := by decide +kernel
theorem dL_remove_4 : decode cL_remove 4 = .ok (.iload_n 1, 1) := by decide +kernel
theorem dL_remove_5 : decode cL_remove 5 = .ok (.iload_n 2, 1) := by decide +kernel
theorem dL_remove_6 : decode cL_remove 6 = .ok (.iload_n 3, 1) := by decide +kernel
theorem dL_remove_7 : decode cL_remove 7 = .ok (.invokevirtual 23, 3) := by decide +kernel
theorem dL_remove_10 : decode cL_remove 10 = .ok (.ifCond .eq 7, 3) := by decide +kernel
theorem dL_remove_13 : decode cL_remove 13 = .ok (.lconst 1, 1) := by decide +kernel
theorem dL_remove_14 : decode cL_remove 14 = .ok (.goto 4, 3) := by decide +kernel
theorem dL_remove_17 : decode cL_remove 17 = .ok (.lconst 0, 1) := by decide +kernel
theorem dL_remove_18 : decode cL_remove 18 = .ok (.lastore, 1) := by decide +kernel
theorem dL_remove_19 : decode cL_remove 19 = .ok (.goto 15, 3) := by decide +kernel
theorem dL_remove_22 : decode cL_remove 22 = .ok (.astore 5, 2) := by decide +kernel
theorem dL_remove_24 : decode cL_remove 24 = .ok (.iconst 1, 1) := by decide +kernel
theorem dL_remove_25 : decode cL_remove 25 = .ok (.ireturn, 1) := by decide +kernel
theorem dL_remove_26 : decode cL_remove 26 = .ok (.astore 5, 2) := by decide +kernel
theorem dL_remove_28 : decode cL_remove 28 = .ok (.iconst 2, 1) := by decide +kernel
theorem dL_remove_29 : decode cL_remove 29 = .ok (.ireturn, 1) := by decide +kernel
theorem dL_remove_30 : decode cL_remove 30 = .ok (.astore 5, 2) := by decide +kernel
theorem dL_remove_32 : decode cL_remove 32 = .ok (.iconst 3, 1) := by decide +kernel
theorem dL_remove_33 : decode cL_remove 33 = .ok (.ireturn, 1) := by decide +kernel
theorem dL_remove_34 : decode cL_remove 34 = .ok (.iconst 0, 1) := by decide +kernel
theorem dL_remove_35 : decode cL_remove 35 = .ok (.ireturn, 1) := by decide +kernel
set_option maxRecDepth 20000 in
theorem ggL_clear_X1_clear : GoodIn wsL_clear wsX1_clear := goodIn_ca (goodIn_ca (goodIn_r _ [7, 8, 9, 10, 11, 12, 13, 14, 6, 15, 16, 17, 18, 19, 20, 21, 22, 23, 24, 25, 26] (by decide +kernel) (by decide +kernel)) (goodIn_sub (fun _ h => List.mem_cons_of_mem _ (List.mem_append_left _ (List.mem_append_right _ h))) (by decide +kernel))) (goodIn_sub (fun _ h => List.mem_cons_of_mem _ (List.mem_append_right _ h)) (by decide +kernel))
set_option maxRecDepth 20000 in
theorem gL_clear_X1_clear : GoodIn wsL_clear (wsV RL 27 RX1 yX1_clear wsX1_clear) := goodIn_app (goodIn_of _ (by decide +kernel)) ggL_clear_X1_clear
theorem dL_clear_0 : decode cL_clear 0 = .ok (.aload 4, 2) := by decide +kernel
theorem dL_clear_2 : decode cL_clear 2 = .ok (.iconst 0, 1) := by decide +kernel
theorem dL_clear_3 : decode cL_clear 3 = .ok (.aload_n 0, 1) := by decide +kernel
theorem dL_clear_4 : decode cL_clear 4 = .ok (.iload_n 1, 1) := by decide +kernel
theorem dL_clear_5 : decode cL_clear 5 = .ok (.iload_n 2, 1) := by decide +kernel
theorem dL_clear_6 : decode cL_clear 6 = .ok (.iload_n 3, 1) := by decide +kernel
theorem dL_clear_7 : decode cL_clear 7 = .ok (.invokevirtual 27, 3) := by decide +kernel
theorem dL_clear_10 : decode cL_clear 10 = .ok (.i2l, 1) := by decide +kernel
theorem dL_clear_11 : decode cL_clear 11 = .ok (.lastore, 1) := by decide +kernel
theorem dL_clear_12 : decode cL_clear 12 = .ok (.goto 11, 3) := by decide +kernel
theorem dL_clear_15 : decode cL_clear 15 = .ok (.astore 5, 2) := by decide +kernel
theorem dL_clear_17 : decode cL_clear 17 = .ok (.iconst 1, 1) := by decide +kernel
theorem dL_clear_18 : decode cL_clear 18 = .ok (.ireturn, 1) := by decide +kernel
theorem dL_clear_19 : decode cL_clear 19 = .ok (.astore 5, 2) := by decide +kernel
theorem dL_clear_21 : decode cL_clear 21 = .ok (.iconst 2, 1) := by decide +kernel
theorem dL_clear_22 : decode cL_clear 22 = .ok (.ireturn, 1) := by decide +kernel
theorem dL_clear_23 : decode cL_clear 23 = .ok (.iconst 0, 1) := by decide +kernel
theorem dL_clear_24 : decode cL_clear 24 = .ok (.ireturn, 1) := by decide +kernel
set_option maxRecDepth 20000 in
theorem ggL_part_X1_part : GoodIn wsL_part wsX1_part := goodIn_ca (goodIn_ca (goodIn_r _ [7, 8, 9, 10, 11, 12, 13, 14, 6, 15, 16, 17, 18, 19, 20, 21, 22, 23, 24, 25, 26] (by decide +kernel) (by decide +kernel)) (goodIn_sub (fun _ h => List.mem_cons_of_mem _ (List.mem_append_left _ (List.mem_append_right _ h))) (by decide +kernel))) (goodIn_sub (fun _ h => List.mem_cons_of_mem _ (List.mem_append_right _ h)) (by decide +kernel))
set_option maxRecDepth 20000 in
theorem gL_part_X1_part : GoodIn wsL_part (wsV RL 31 RX1 yX1_part wsX1_part) := goodIn_app (goodIn_of _ (by decide +kernel)) ggL_part_X1_part
theorem dL_part_0 : decode cL_part 0 = .ok (.aload_n 3, 1) := by decide +kernel
theorem dL_part_1 : decode cL_part 1 = .ok (.iconst 0, 1) := by decide +kernel
theorem dL_part_2 : decode cL_part 2 = .ok (.aload_n 0, 1) := by decide +kernel
theorem dL_part_3 : decode cL_part 3 = .ok (.iload_n 1, 1) := by decide +kernel
theorem dL_part_4 : decode cL_part 4 = .ok (.iload_n 2, 1) := by decide +kernel
theorem dL_part_5 : decode cL_part 5 = .ok (.invokevirtual 31, 3) := by decide +kernel
theorem dL_part_8 : decode cL_part 8 = .ok (.i2l, 1) := by decide +kernel
theorem dL_part_9 : decode cL_part 9 = .ok (.lastore, 1) := by decide +kernel
theorem dL_part_10 : decode cL_part 10 = .ok (.goto 11, 3) := by decide +kernel
theorem dL_part_13 : decode cL_part 13 = .ok (.astore 4, 2) := by decide +kernel
theorem dL_part_15 : decode cL_part 15 = .ok (.iconst 1, 1) := by decide +kernel
theorem dL_part_16 : decode cL_part 16 = .ok (.ireturn, 1) := by decide +kernel
theorem dL_part_17 : decode cL_part 17 = .ok (.astore 4, 2) := by decide +kernel
theorem dL_part_19 : decode cL_part 19 = .ok (.iconst 2, 1) := by decide +kernel
theorem dL_part_20 : decode cL_part 20 = .ok (.ireturn, 1) := by decide +kernel
theorem dL_part_21 : decode cL_part 21 = .ok (.iconst 0, 1) := by decide +kernel
theorem dL_part_22 : decode cL_part 22 = .ok (.ireturn, 1) := by decide +kernel
set_option maxRecDepth 20000 in
theorem ggL_lead_X1_lead : GoodIn wsL_lead wsX1_lead := goodIn_ca (goodIn_ca (goodIn_r _ [7, 8, 9, 10, 11, 12, 13, 14, 6, 15, 16, 17, 18, 19, 20, 21, 22, 23, 24, 25, 26] (by decide +kernel) (by decide +kernel)) (goodIn_sub (fun _ h => List.mem_cons_of_mem _ (List.mem_append_left _ (List.mem_append_right _ h))) (by decide +kernel))) (goodIn_sub (fun _ h => List.mem_cons_of_mem _ (List.mem_append_right _ h)) (by decide +kernel))
set_option maxRecDepth 20000 in
theorem gL_lead_X1_lead : GoodIn wsL_lead (wsV RL 35 RX1 yX1_lead wsX1_lead) := goodIn_app (goodIn_of _ (by decide +kernel)) ggL_lead_X1_lead
theorem dL_lead_0 : decode cL_lead 0 = .ok (.aload_n 3, 1) := by decide +kernel
theorem dL_lead_1 : decode cL_lead 1 = .ok (.iconst 0, 1) := by decide +kernel
theorem dL_lead_2 : decode cL_lead 2 = .ok (.aload_n 0, 1) := by decide +kernel
theorem dL_lead_3 : decode cL_lead 3 = .ok (.iload_n 1, 1) := by decide +kernel
theorem dL_lead_4 : decode cL_lead 4 = .ok (.iload_n 2, 1) := by decide +kernel
theorem dL_lead_5 : decode cL_lead 5 = .ok (.invokevirtual 35, 3) := by decide +kernel
theorem dL_lead_8 : decode cL_lead 8 = .ok (.i2l, 1) := by decide +kernel
theorem dL_lead_9 : decode cL_lead 9 = .ok (.lastore, 1) := by decide +kernel
theorem dL_lead_10 : decode cL_lead 10 = .ok (.goto 11, 3) := by decide +kernel
theorem dL_lead_13 : decode cL_lead 13 = .ok (.astore 4, 2) := by decide +kernel
theorem dL_lead_15 : decode cL_lead 15 = .ok (.iconst 1, 1) := by decide +kernel
theorem dL_lead_16 : decode cL_lead 16 = .ok (.ireturn, 1) := by decide +kernel
theorem dL_lead_17 : decode cL_lead 17 = .ok (.astore 4, 2) := by decide +kernel
theorem dL_lead_19 : decode cL_lead 19 = .ok (.iconst 2, 1) := by decide +kernel
theorem dL_lead_20 : decode cL_lead 20 = .ok (.ireturn, 1) := by decide +kernel
theorem dL_lead_21 : decode cL_lead 21 = .ok (.iconst 0, 1) := by decide +kernel
theorem dL_lead_22 : decode cL_lead 22 = .ok (.ireturn, 1) := by decide +kernel
set_option maxRecDepth 20000 in
theorem ggL_order_X1_order : GoodIn wsL_order wsX1_order := goodIn_ca (goodIn_ca (goodIn_r _ [7, 8, 9, 10, 11, 12, 13, 14, 15, 16, 17, 18, 6, 19, 20, 21, 22, 23, 24, 25, 26, 27, 28, 29, 30, 31, 32, 33, 34, 35, 36, 37, 38, 39, 40, 41, 42, 43, 44, 45, 46, 47, 48, 49, 50, 51, 52, 53, 54, 55, 56, 57, 58, 59, 60, 61, 62, 63, 64, 65, 66, 67, 68, 69, 70, 71, 72, 73] (by decide +kernel) (by decide +kernel)) (goodIn_sub (fun _ h => List.mem_cons_of_mem _ (List.mem_append_left _ (List.mem_append_right _ h))) (by decide +kernel))) (goodIn_sub (fun _ h => List.mem_cons_of_mem _ (List.mem_append_right _ h)) (by decide +kernel))
set_option maxRecDepth 20000 in
theorem gL_order_X1_order : GoodIn wsL_order (wsV RL 38 RX1 yX1_order wsX1_order) := goodIn_app (goodIn_of _ (by decide +kernel)) ggL_order_X1_order
theorem dL_order_0 : decode cL_order 0 = .ok (.aload_n 2, 1) := by decide +kernel
theorem dL_order_1 : decode cL_order 1 = .ok (.iconst 0, 1) := by decide +kernel
theorem dL_order_2 : decode cL_order 2 = .ok (.aload_n 0, 1) := by decide +kernel
theorem dL_order_3 : decode cL_order 3 = .ok (.iload_n 1, 1) := by decide +kernel
theorem dL_order_4 : decode cL_order 4 = .ok (.invokevirtual 38, 3) := by decide +kernel
theorem dL_order_7 : decode cL_order 7 = .ok (.i2l, 1) := by decide +kernel
theorem dL_order_8 : decode cL_order 8 = .ok (.lastore, 1) := by decide +kernel
theorem dL_order_9 : decode cL_order 9 = .ok (.goto 9, 3) := by decide +kernel
theorem dL_order_12 : decode cL_order 12 = .ok (.astore_n 3, 1) := by decide +kernel
theorem dL_order_13 : decode cL_order 13 = .ok (.iconst 1, 1) := by decide +kernel
theorem dL_order_14 : decode cL_order 14 = .ok (.ireturn, 1) := by decide +kernel
theorem dL_order_15 : decode cL_order 15 = .ok (.astore_n 3, 1) := by decide +kernel
theorem dL_order_16 : decode cL_order 16 = .ok (.iconst 2, 1) := by decide +kernel
theorem dL_order_17 : decode cL_order 17 = .ok (.ireturn, 1) := by decide +kernel
theorem dL_order_18 : decode cL_order 18 = .ok (.iconst 0, 1) := by decide +kernel
theorem dL_order_19 : decode cL_order 19 = .ok (.ireturn, 1) := by decide +kernel
set_option maxRecDepth 20000 in
theorem ggL_cancel_X1_cancel : GoodIn wsL_cancel wsX1_cancel := goodIn_ca (goodIn_ca (goodIn_r _ [7, 8, 9, 10, 11, 12, 13, 14, 15, 16, 17, 6, 18, 19, 20, 21, 22, 23, 24, 25, 26, 27, 28, 29, 30, 31, 32, 33, 34, 35, 36, 37, 38, 39, 40] (by decide +kernel) (by decide +kernel)) (goodIn_sub (fun _ h => List.mem_cons_of_mem _ (List.mem_append_left _ (List.mem_append_right _ h))) (by decide +kernel))) (goodIn_sub (fun _ h => List.mem_cons_of_mem _ (List.mem_append_right _ h)) (by decide +kernel))
set_option maxRecDepth 20000 in
theorem gL_cancel_X1_cancel : GoodIn wsL_cancel (wsV RL 42 RX1 yX1_cancel wsX1_cancel) := goodIn_app (goodIn_of _ (by decide +kernel)) ggL_cancel_X1_cancel
theorem dL_cancel_0 : decode cL_cancel 0 = .ok (.aload_n 2, 1) := by decide +kernel
theorem dL_cancel_1 : decode cL_cancel 1 = .ok (.iconst 0, 1) := by decide +kernel
theorem dL_cancel_2 : decode cL_cancel 2 = .ok (.aload_n 0, 1) := by decide +kernel
theorem dL_cancel_3 : decode cL_cancel 3 = .ok (.iload_n 1, 1) := by decide +kernel
theorem dL_cancel_4 : decode cL_cancel 4 = .ok (.invokevirtual 42, 3) := by decide +kernel
theorem dL_cancel_7 : decode cL_cancel 7 = .ok (.i2l, 1) := by decide +kernel
theorem dL_cancel_8 : decode cL_cancel 8 = .ok (.lastore, 1) := by decide +kernel
theorem dL_cancel_9 : decode cL_cancel 9 = .ok (.goto 9, 3) := by decide +kernel
theorem dL_cancel_12 : decode cL_cancel 12 = .ok (.astore_n 3, 1) := by decide +kernel
theorem dL_cancel_13 : decode cL_cancel 13 = .ok (.iconst 1, 1) := by decide +kernel
theorem dL_cancel_14 : decode cL_cancel 14 = .ok (.ireturn, 1) := by decide +kernel
theorem dL_cancel_15 : decode cL_cancel 15 = .ok (.astore_n 3, 1) := by decide +kernel
theorem dL_cancel_16 : decode cL_cancel 16 = .ok (.iconst 2, 1) := by decide +kernel
theorem dL_cancel_17 : decode cL_cancel 17 = .ok (.ireturn, 1) := by decide +kernel
theorem dL_cancel_18 : decode cL_cancel 18 = .ok (.iconst 0, 1) := by decide +kernel
theorem dL_cancel_19 : decode cL_cancel 19 = .ok (.ireturn, 1) := by decide +kernel
set_option maxRecDepth 20000 in
theorem ggL_build_X1_build : GoodIn wsL_build wsX1_build := goodIn_ca (goodIn_ca (goodIn_r _ [7, 8, 9, 10, 11, 12, 13, 14, 15, 6, 16, 17, 18, 19, 20, 21, 22, 23, 24, 25, 26, 27, 28, 29, 30, 31, 32, 33, 34, 35, 36, 37, 38, 39, 40, 41, 42, 43, 44, 45, 46, 47, 48, 49, 50, 51, 52, 53, 54, 55, 56, 57, 58, 59, 60, 61, 62, 63, 64, 65, 66, 67, 68, 69, 70, 71, 72, 73, 74, 75, 76, 77, 78, 79, 80, 81] (by decide +kernel) (by decide +kernel)) (goodIn_sub (fun _ h => List.mem_cons_of_mem _ (List.mem_append_left _ (List.mem_append_right _ h))) (by decide +kernel))) (goodIn_sub (fun _ h => List.mem_cons_of_mem _ (List.mem_append_right _ h)) (by decide +kernel))
set_option maxRecDepth 20000 in
theorem gL_build_X1_build : GoodIn wsL_build (wsV RL 45 RX1 yX1_build wsX1_build) := goodIn_app (goodIn_of _ (by decide +kernel)) ggL_build_X1_build
theorem dL_build_0 : decode cL_build 0 = .ok (.aload_n 2, 1) := by decide +kernel
theorem dL_build_1 : decode cL_build 1 = .ok (.iconst 0, 1) := by decide +kernel
theorem dL_build_2 : decode cL_build 2 = .ok (.aload_n 0, 1) := by decide +kernel
theorem dL_build_3 : decode cL_build 3 = .ok (.iload_n 1, 1) := by decide +kernel
theorem dL_build_4 : decode cL_build 4 = .ok (.invokevirtual 45, 3) := by decide +kernel
theorem dL_build_7 : decode cL_build 7 = .ok (.ifCond .eq 7, 3) := by decide +kernel
theorem dL_build_10 : decode cL_build 10 = .ok (.lconst 1, 1) := by decide +kernel
theorem dL_build_11 : decode cL_build 11 = .ok (.goto 4, 3) := by decide +kernel
theorem dL_build_14 : decode cL_build 14 = .ok (.lconst 0, 1) := by decide +kernel
theorem dL_build_15 : decode cL_build 15 = .ok (.lastore, 1) := by decide +kernel
theorem dL_build_16 : decode cL_build 16 = .ok (.goto 9, 3) := by decide +kernel
theorem dL_build_19 : decode cL_build 19 = .ok (.astore_n 3, 1) := by decide +kernel
theorem dL_build_20 : decode cL_build 20 = .ok (.iconst 1, 1) := by decide +kernel
theorem dL_build_21 : decode cL_build 21 = .ok (.ireturn, 1) := by decide +kernel
theorem dL_build_22 : decode cL_build 22 = .ok (.astore_n 3, 1) := by decide +kernel
theorem dL_build_23 : decode cL_build 23 = .ok (.iconst 2, 1) := by decide +kernel
theorem dL_build_24 : decode cL_build 24 = .ok (.ireturn, 1) := by decide +kernel
theorem dL_build_25 : decode cL_build 25 = .ok (.iconst 0, 1) := by decide +kernel
theorem dL_build_26 : decode cL_build 26 = .ok (.ireturn, 1) := by decide +kernel
set_option maxRecDepth 20000 in
theorem ggL_inspect_X1_inspect : GoodIn wsL_inspect wsX1_inspect := goodIn_ca (goodIn_ca (goodIn_r _ [7, 8, 9, 10, 11, 12, 13, 14, 6, 15, 16, 17, 18, 19, 20, 21, 22, 23, 24, 25, 26, 27, 28, 29, 30, 31, 32, 33, 34, 35, 36, 37, 38, 39, 40, 41, 42, 43, 44, 45, 46, 47, 48, 49, 50, 51, 52, 53, 54, 55, 56, 57, 58, 59, 60, 61, 62, 63, 64, 65, 66, 67, 68, 69, 70, 71, 72, 73, 74, 75, 76, 77, 78, 79, 80, 81, 82, 83, 84, 85, 86, 87, 88, 89] (by decide +kernel) (by decide +kernel)) (goodIn_sub (fun _ h => List.mem_cons_of_mem _ (List.mem_append_left _ (List.mem_append_right _ h))) (by decide +kernel))) (goodIn_sub (fun _ h => List.mem_cons_of_mem _ (List.mem_append_right _ h)) (by decide +kernel))
set_option maxRecDepth 20000 in
theorem gL_inspect_X1_inspect : GoodIn wsL_inspect (wsV RL 49 RX1 yX1_inspect wsX1_inspect) := goodIn_app (goodIn_of _ (by decide +kernel)) ggL_inspect_X1_inspect
theorem dL_inspect_0 : decode cL_inspect 0 = .ok (.aload_n 2, 1) := by decide +kernel
theorem dL_inspect_1 : decode cL_inspect 1 = .ok (.iconst 0, 1) := by decide +kernel
theorem dL_inspect_2 : decode cL_inspect 2 = .ok (.aload_n 0, 1) := by decide +kernel
theorem dL_inspect_3 : decode cL_inspect 3 = .ok (.iload_n 1, 1) := by decide +kernel
theorem dL_inspect_4 : decode cL_inspect 4 = .ok (.invokevirtual 49, 3) := by decide +kernel
theorem dL_inspect_7 : decode cL_inspect 7 = .ok (.ifCond .eq 7, 3) := by decide +kernel
theorem dL_inspect_10 : decode cL_inspect 10 = .ok (.lconst 1, 1) := by decide +kernel
theorem dL_inspect_11 : decode cL_inspect 11 = .ok (.goto 4, 3) := by decide +kernel
theorem dL_inspect_14 : decode cL_inspect 14 = .ok (.lconst 0, 1) := by decide +kernel
theorem dL_inspect_15 : decode cL_inspect 15 = .ok (.lastore, 1) := by decide +kernel
theorem dL_inspect_16 : decode cL_inspect 16 = .ok (.goto 9, 3) := by decide +kernel
theorem dL_inspect_19 : decode cL_inspect 19 = .ok (.astore_n 3, 1) := by decide +kernel
theorem dL_inspect_20 : decode cL_inspect 20 = .ok (.iconst 1, 1) := by decide +kernel
theorem dL_inspect_21 : decode cL_inspect 21 = .ok (.ireturn, 1) := by decide +kernel
theorem dL_inspect_22 : decode cL_inspect 22 = .ok (.astore_n 3, 1) := by decide +kernel
theorem dL_inspect_23 : decode cL_inspect 23 = .ok (.iconst 2, 1) := by decide +kernel
theorem dL_inspect_24 : decode cL_inspect 24 = .ok (.ireturn, 1) := by decide +kernel
theorem dL_inspect_25 : decode cL_inspect 25 = .ok (.iconst 0, 1) := by decide +kernel
theorem dL_inspect_26 : decode cL_inspect 26 = .ok (.ireturn, 1) := by decide +kernel
set_option maxRecDepth 20000 in
theorem ggL_pass_X1_pass : GoodIn wsL_pass wsX1_pass := goodIn_ca (goodIn_ca (goodIn_r _ [7, 8, 9, 10, 11, 12, 13, 14, 15, 6, 16, 17, 18, 19, 20, 21, 22, 23, 24, 25, 26, 27, 28, 29, 30, 31, 32, 33, 34, 35, 36, 37, 38, 39, 40, 41, 42, 43, 44, 45, 46] (by decide +kernel) (by decide +kernel)) (goodIn_sub (fun _ h => List.mem_cons_of_mem _ (List.mem_append_left _ (List.mem_append_right _ h))) (by decide +kernel))) (goodIn_sub (fun _ h => List.mem_cons_of_mem _ (List.mem_append_right _ h)) (by decide +kernel))
set_option maxRecDepth 20000 in
theorem gL_pass_X1_pass : GoodIn wsL_pass (wsV RL 52 RX1 yX1_pass wsX1_pass) := goodIn_app (goodIn_of _ (by decide +kernel)) ggL_pass_X1_pass
theorem dL_pass_0 : decode cL_pass 0 = .ok (.aload_n 2, 1) := by decide +kernel
theorem dL_pass_1 : decode cL_pass 1 = .ok (.iconst 0, 1) := by decide +kernel
theorem dL_pass_2 : decode cL_pass 2 = .ok (.aload_n 0, 1) := by decide +kernel
theorem dL_pass_3 : decode cL_pass 3 = .ok (.iload_n 1, 1) := by decide +kernel
theorem dL_pass_4 : decode cL_pass 4 = .ok (.invokevirtual 52, 3) := by decide +kernel
theorem dL_pass_7 : decode cL_pass 7 = .ok (.i2l, 1) := by decide +kernel
theorem dL_pass_8 : decode cL_pass 8 = .ok (.lastore, 1) := by decide +kernel
theorem dL_pass_9 : decode cL_pass 9 = .ok (.goto 9, 3) := by decide +kernel
theorem dL_pass_12 : decode cL_pass 12 = .ok (.astore_n 3, 1) := by decide +kernel
theorem dL_pass_13 : decode cL_pass 13 = .ok (.iconst 1, 1) := by decide +kernel
theorem dL_pass_14 : decode cL_pass 14 = .ok (.ireturn, 1) := by decide +kernel
theorem dL_pass_15 : decode cL_pass 15 = .ok (.astore_n 3, 1) := by decide +kernel
theorem dL_pass_16 : decode cL_pass 16 = .ok (.iconst 2, 1) := by decide +kernel
theorem dL_pass_17 : decode cL_pass 17 = .ok (.ireturn, 1) := by decide +kernel
theorem dL_pass_18 : decode cL_pass 18 = .ok (.iconst 0, 1) := by decide +kernel
theorem dL_pass_19 : decode cL_pass 19 = .ok (.ireturn, 1) := by decide +kernel
set_option maxRecDepth 20000 in
theorem ggL_elementOf_X1_elementOf : GoodIn wsL_elementOf wsX1_elementOf := goodIn_ca (goodIn_ca (goodIn_r _ [7, 8, 9, 10, 11, 12, 13, 14, 15, 16, 17, 18, 19, 20, 21, 22, 23, 6, 24, 25, 26, 27, 28, 29, 30, 31, 32, 33, 34, 35, 36, 37, 38, 39, 40, 41, 42, 43, 44, 45, 46, 47, 48, 49, 50, 51, 52, 53, 54, 55, 56, 57, 58, 59] (by decide +kernel) (by decide +kernel)) (goodIn_sub (fun _ h => List.mem_cons_of_mem _ (List.mem_append_left _ (List.mem_append_right _ h))) (by decide +kernel))) (goodIn_sub (fun _ h => List.mem_cons_of_mem _ (List.mem_append_right _ h)) (by decide +kernel))
set_option maxRecDepth 20000 in
theorem gL_elementOf_X1_elementOf : GoodIn wsL_elementOf (wsV RL 55 RX1 yX1_elementOf wsX1_elementOf) := goodIn_app (goodIn_of _ (by decide +kernel)) ggL_elementOf_X1_elementOf
theorem dL_elementOf_0 : decode cL_elementOf 0 = .ok (.aload_n 3, 1) := by decide +kernel
theorem dL_elementOf_1 : decode cL_elementOf 1 = .ok (.iconst 0, 1) := by decide +kernel
theorem dL_elementOf_2 : decode cL_elementOf 2 = .ok (.aload_n 0, 1) := by decide +kernel
theorem dL_elementOf_3 : decode cL_elementOf 3 = .ok (.iload_n 1, 1) := by decide +kernel
theorem dL_elementOf_4 : decode cL_elementOf 4 = .ok (.iload_n 2, 1) := by decide +kernel
theorem dL_elementOf_5 : decode cL_elementOf 5 = .ok (.invokevirtual 55, 3) := by decide +kernel
theorem dL_elementOf_8 : decode cL_elementOf 8 = .ok (.i2l, 1) := by decide +kernel
theorem dL_elementOf_9 : decode cL_elementOf 9 = .ok (.lastore, 1) := by decide +kernel
theorem dL_elementOf_10 : decode cL_elementOf 10 = .ok (.goto 11, 3) := by decide +kernel
theorem dL_elementOf_13 : decode cL_elementOf 13 = .ok (.astore 4, 2) := by decide +kernel
theorem dL_elementOf_15 : decode cL_elementOf 15 = .ok (.iconst 1, 1) := by decide +kernel
theorem dL_elementOf_16 : decode cL_elementOf 16 = .ok (.ireturn, 1) := by decide +kernel
theorem dL_elementOf_17 : decode cL_elementOf 17 = .ok (.astore 4, 2) := by decide +kernel
theorem dL_elementOf_19 : decode cL_elementOf 19 = .ok (.iconst 2, 1) := by decide +kernel
theorem dL_elementOf_20 : decode cL_elementOf 20 = .ok (.ireturn, 1) := by decide +kernel
theorem dL_elementOf_21 : decode cL_elementOf 21 = .ok (.iconst 0, 1) := by decide +kernel
theorem dL_elementOf_22 : decode cL_elementOf 22 = .ok (.ireturn, 1) := by decide +kernel
set_option maxRecDepth 20000 in
theorem ggL_clash_X1_clash : GoodIn wsL_clash wsX1_clash := goodIn_ca (goodIn_r _ [6, 7, 8, 9, 10, 11, 5, 12, 13, 14, 15, 16, 17, 18, 19, 20, 21, 22, 23, 24, 25, 26, 27, 28, 29, 30, 31, 32, 33, 34, 35, 36, 37, 38, 39, 40, 41, 42, 43, 44, 45, 46, 47, 48, 49, 50, 51, 52, 53, 54, 55, 56, 57, 58, 59, 60, 61, 62, 63, 64, 65, 66, 67, 68, 69, 70, 71, 72] (by decide +kernel) (by decide +kernel)) (goodIn_sub (fun _ h => List.mem_cons_of_mem _ (List.mem_append_right _ h)) (by decide +kernel))
set_option maxRecDepth 20000 in
theorem gL_clash_X1_clash : GoodIn wsL_clash (wsV RL 58 RX1 yX1_clash wsX1_clash) := goodIn_app (goodIn_of _ (by decide +kernel)) ggL_clash_X1_clash
theorem dL_clash_0 : decode cL_clash 0 = .ok (.aload_n 3, 1) := by decide +kernel
theorem dL_clash_1 : decode cL_clash 1 = .ok (.iconst 0, 1) := by decide +kernel
theorem dL_clash_2 : decode cL_clash 2 = .ok (.aload_n 0, 1) := by decide +kernel
theorem dL_clash_3 : decode cL_clash 3 = .ok (.iload_n 1, 1) := by decide +kernel
theorem dL_clash_4 : decode cL_clash 4 = .ok (.iload_n 2, 1) := by decide +kernel
theorem dL_clash_5 : decode cL_clash 5 = .ok (.invokevirtual 58, 3) := by decide +kernel
theorem dL_clash_8 : decode cL_clash 8 = .ok (.ifCond .eq 7, 3) := by decide +kernel
theorem dL_clash_11 : decode cL_clash 11 = .ok (.lconst 1, 1) := by decide +kernel
theorem dL_clash_12 : decode cL_clash 12 = .ok (.goto 4, 3) := by decide +kernel
theorem dL_clash_15 : decode cL_clash 15 = .ok (.lconst 0, 1) := by decide +kernel
theorem dL_clash_16 : decode cL_clash 16 = .ok (.lastore, 1) := by decide +kernel
theorem dL_clash_17 : decode cL_clash 17 = .ok (.goto 7, 3) := by decide +kernel
theorem dL_clash_20 : decode cL_clash 20 = .ok (.astore 4, 2) := by decide +kernel
theorem dL_clash_22 : decode cL_clash 22 = .ok (.iconst 1, 1) := by decide +kernel
theorem dL_clash_23 : decode cL_clash 23 = .ok (.ireturn, 1) := by decide +kernel
theorem dL_clash_24 : decode cL_clash 24 = .ok (.iconst 0, 1) := by decide +kernel
theorem dL_clash_25 : decode cL_clash 25 = .ok (.ireturn, 1) := by decide +kernel
set_option maxRecDepth 20000 in
theorem ggL_clashes_X1_clashes : GoodIn wsL_clashes wsX1_clashes := goodIn_ca (goodIn_r _ [6, 7, 8, 9, 10, 11, 5, 12, 13, 14, 15, 16, 17, 18, 19, 20, 21, 22, 23, 24, 25, 26, 27, 28, 29, 30, 31, 32, 33, 34, 35, 36, 37, 38, 39, 40, 41, 42, 43, 44, 45, 46, 47, 48, 49, 50, 51, 52, 53, 54, 55, 56, 57, 58, 59, 60, 61, 62, 63, 64, 65, 66, 67, 68, 69, 70, 71, 72, 73, 74, 75, 76, 77, 78, 79, 80, 81, 82, 83, 84] (by decide +kernel) (by decide +kernel)) (goodIn_sub (fun _ h => List.mem_cons_of_mem _ (List.mem_append_right _ h)) (by decide +kernel))
set_option maxRecDepth 20000 in
theorem gL_clashes_X1_clashes : GoodIn wsL_clashes (wsV RL 62 RX1 yX1_clashes wsX1_clashes) := goodIn_app (goodIn_of _ (by decide +kernel)) ggL_clashes_X1_clashes
theorem dL_clashes_0 : decode cL_clashes 0 = .ok (.aload_n 2, 1) := by decide +kernel
theorem dL_clashes_1 : decode cL_clashes 1 = .ok (.iconst 0, 1) := by decide +kernel
theorem dL_clashes_2 : decode cL_clashes 2 = .ok (.aload_n 0, 1) := by decide +kernel
theorem dL_clashes_3 : decode cL_clashes 3 = .ok (.iload_n 1, 1) := by decide +kernel
theorem dL_clashes_4 : decode cL_clashes 4 = .ok (.invokevirtual 62, 3) := by decide +kernel
theorem dL_clashes_7 : decode cL_clashes 7 = .ok (.i2l, 1) := by decide +kernel
theorem dL_clashes_8 : decode cL_clashes 8 = .ok (.lastore, 1) := by decide +kernel
theorem dL_clashes_9 : decode cL_clashes 9 = .ok (.goto 6, 3) := by decide +kernel
theorem dL_clashes_12 : decode cL_clashes 12 = .ok (.astore_n 3, 1) := by decide +kernel
theorem dL_clashes_13 : decode cL_clashes 13 = .ok (.iconst 1, 1) := by decide +kernel
theorem dL_clashes_14 : decode cL_clashes 14 = .ok (.ireturn, 1) := by decide +kernel
theorem dL_clashes_15 : decode cL_clashes 15 = .ok (.iconst 0, 1) := by decide +kernel
theorem dL_clashes_16 : decode cL_clashes 16 = .ok (.ireturn, 1) := by decide +kernel
set_option maxRecDepth 20000 in
theorem ggL_isStopped_X1_isStopped : GoodIn wsL_isStopped wsX1_isStopped := goodIn_ca (goodIn_r _ [6, 7, 8, 9, 10, 11, 12, 13, 5, 14, 15, 16, 17, 18, 19, 20, 21, 22, 23, 24, 25, 26, 27, 28, 29, 30, 31, 32, 33, 34, 35, 36, 37, 38, 39, 40, 41, 42, 43, 44, 45, 46, 47, 48, 49, 50, 51, 52, 53, 54, 55, 56, 57, 58, 59, 60, 61, 62, 63, 64, 65, 66, 67, 68, 69, 70, 71, 72, 73, 74, 75, 76, 77, 78, 79, 80] (by decide +kernel) (by decide +kernel)) (goodIn_sub (fun _ h => List.mem_cons_of_mem _ (List.mem_append_right _ h)) (by decide +kernel))
set_option maxRecDepth 20000 in
theorem gL_isStopped_X1_isStopped : GoodIn wsL_isStopped (wsV RL 65 RX1 yX1_isStopped wsX1_isStopped) := goodIn_app (goodIn_of _ (by decide +kernel)) ggL_isStopped_X1_isStopped
theorem dL_isStopped_0 : decode cL_isStopped 0 = .ok (.aload_n 3, 1) := by decide +kernel
theorem dL_isStopped_1 : decode cL_isStopped 1 = .ok (.iconst 0, 1) := by decide +kernel
theorem dL_isStopped_2 : decode cL_isStopped 2 = .ok (.aload_n 0, 1) := by decide +kernel
theorem dL_isStopped_3 : decode cL_isStopped 3 = .ok (.iload_n 1, 1) := by decide +kernel
theorem dL_isStopped_4 : decode cL_isStopped 4 = .ok (.iload_n 2, 1) := by decide +kernel
theorem dL_isStopped_5 : decode cL_isStopped 5 = .ok (.invokevirtual 65, 3) := by decide +kernel
theorem dL_isStopped_8 : decode cL_isStopped 8 = .ok (.ifCond .eq 7, 3) := by decide +kernel
theorem dL_isStopped_11 : decode cL_isStopped 11 = .ok (.lconst 1, 1) := by decide +kernel
theorem dL_isStopped_12 : decode cL_isStopped 12 = .ok (.goto 4, 3) := by decide +kernel
theorem dL_isStopped_15 : decode cL_isStopped 15 = .ok (.lconst 0, 1) := by decide +kernel
theorem dL_isStopped_16 : decode cL_isStopped 16 = .ok (.lastore, 1) := by decide +kernel
theorem dL_isStopped_17 : decode cL_isStopped 17 = .ok (.goto 7, 3) := by decide +kernel
theorem dL_isStopped_20 : decode cL_isStopped 20 = .ok (.astore 4, 2) := by decide +kernel
theorem dL_isStopped_22 : decode cL_isStopped 22 = .ok (.iconst 1, 1) := by decide +kernel
theorem dL_isStopped_23 : decode cL_isStopped 23 = .ok (.ireturn, 1) := by decide +kernel
theorem dL_isStopped_24 : decode cL_isStopped 24 = .ok (.iconst 0, 1) := by decide +kernel
theorem dL_isStopped_25 : decode cL_isStopped 25 = .ok (.ireturn, 1) := by decide +kernel
set_option maxRecDepth 20000 in
theorem ggL_parts_X1_parts : GoodIn wsL_parts wsX1_parts := goodIn_ca (goodIn_r _ [6, 7, 8, 9, 10, 5, 11, 12, 13, 14, 15, 16, 17, 18, 19, 20, 21, 22, 23, 24, 25, 26, 27, 28, 29, 30, 31, 32, 33, 34, 35, 36, 37, 38, 39, 40, 41, 42, 43, 44, 45, 46, 47, 48, 49, 50, 51, 52, 53, 54, 55, 56, 57, 58, 59, 60, 61, 62] (by decide +kernel) (by decide +kernel)) (goodIn_sub (fun _ h => List.mem_cons_of_mem _ (List.mem_append_right _ h)) (by decide +kernel))
set_option maxRecDepth 20000 in
theorem gL_parts_X1_parts : GoodIn wsL_parts (wsV RL 68 RX1 yX1_parts wsX1_parts) := goodIn_app (goodIn_of _ (by decide +kernel)) ggL_parts_X1_parts
theorem dL_parts_0 : decode cL_parts 0 = .ok (.aload_n 2, 1) := by decide +kernel
theorem dL_parts_1 : decode cL_parts 1 = .ok (.iconst 0, 1) := by decide +kernel
theorem dL_parts_2 : decode cL_parts 2 = .ok (.aload_n 0, 1) := by decide +kernel
theorem dL_parts_3 : decode cL_parts 3 = .ok (.iload_n 1, 1) := by decide +kernel
theorem dL_parts_4 : decode cL_parts 4 = .ok (.invokevirtual 68, 3) := by decide +kernel
theorem dL_parts_7 : decode cL_parts 7 = .ok (.i2l, 1) := by decide +kernel
theorem dL_parts_8 : decode cL_parts 8 = .ok (.lastore, 1) := by decide +kernel
theorem dL_parts_9 : decode cL_parts 9 = .ok (.goto 6, 3) := by decide +kernel
theorem dL_parts_12 : decode cL_parts 12 = .ok (.astore_n 3, 1) := by decide +kernel
theorem dL_parts_13 : decode cL_parts 13 = .ok (.iconst 1, 1) := by decide +kernel
theorem dL_parts_14 : decode cL_parts 14 = .ok (.ireturn, 1) := by decide +kernel
theorem dL_parts_15 : decode cL_parts 15 = .ok (.iconst 0, 1) := by decide +kernel
theorem dL_parts_16 : decode cL_parts 16 = .ok (.ireturn, 1) := by decide +kernel
set_option maxRecDepth 20000 in
theorem ggL_partsAnew_X1_partsAnew : GoodIn wsL_partsAnew wsX1_partsAnew := goodIn_ca (goodIn_r _ [6, 7, 8, 9, 10, 11, 12, 13, 5, 14, 15, 16, 17, 18, 19, 20, 21, 22, 23, 24, 25, 26, 27, 28, 29, 30, 31, 32, 33, 34, 35, 36, 37, 38, 39, 40, 41, 42, 43, 44, 45, 46, 47, 48, 49, 50, 51, 52, 53, 54, 55, 56, 57, 58, 59, 60, 61, 62, 63, 64, 65] (by decide +kernel) (by decide +kernel)) (goodIn_sub (fun _ h => List.mem_cons_of_mem _ (List.mem_append_right _ h)) (by decide +kernel))
set_option maxRecDepth 20000 in
theorem gL_partsAnew_X1_partsAnew : GoodIn wsL_partsAnew (wsV RL 71 RX1 yX1_partsAnew wsX1_partsAnew) := goodIn_app (goodIn_of _ (by decide +kernel)) ggL_partsAnew_X1_partsAnew
theorem dL_partsAnew_0 : decode cL_partsAnew 0 = .ok (.aload_n 2, 1) := by decide +kernel
theorem dL_partsAnew_1 : decode cL_partsAnew 1 = .ok (.iconst 0, 1) := by decide +kernel
theorem dL_partsAnew_2 : decode cL_partsAnew 2 = .ok (.aload_n 0, 1) := by decide +kernel
theorem dL_partsAnew_3 : decode cL_partsAnew 3 = .ok (.iload_n 1, 1) := by decide +kernel
theorem dL_partsAnew_4 : decode cL_partsAnew 4 = .ok (.invokevirtual 71, 3) := by decide +kernel
theorem dL_partsAnew_7 : decode cL_partsAnew 7 = .ok (.i2l, 1) := by decide +kernel
theorem dL_partsAnew_8 : decode cL_partsAnew 8 = .ok (.lastore, 1) := by decide +kernel
theorem dL_partsAnew_9 : decode cL_partsAnew 9 = .ok (.goto 6, 3) := by decide +kernel
theorem dL_partsAnew_12 : decode cL_partsAnew 12 = .ok (.astore_n 3, 1) := by decide +kernel
theorem dL_partsAnew_13 : decode cL_partsAnew 13 = .ok (.iconst 1, 1) := by decide +kernel
theorem dL_partsAnew_14 : decode cL_partsAnew 14 = .ok (.ireturn, 1) := by decide +kernel
theorem dL_partsAnew_15 : decode cL_partsAnew 15 = .ok (.iconst 0, 1) := by decide +kernel
theorem dL_partsAnew_16 : decode cL_partsAnew 16 = .ok (.ireturn, 1) := by decide +kernel
set_option maxRecDepth 20000 in
theorem ggL_ordered_X1_ordered : GoodIn wsL_ordered wsX1_ordered := goodIn_ca (goodIn_r _ [6, 7, 8, 9, 10, 5, 11, 12, 13, 14, 15, 16, 17, 18, 19, 20, 21, 22, 23, 24, 25, 26, 27, 28, 29, 30, 31, 32, 33, 34, 35, 36, 37, 38, 39, 40, 41, 42, 43, 44, 45, 46, 47, 48, 49, 50, 51, 52, 53, 54, 55, 56, 57, 58, 59, 60, 61, 62] (by decide +kernel) (by decide +kernel)) (goodIn_sub (fun _ h => List.mem_cons_of_mem _ (List.mem_append_right _ h)) (by decide +kernel))
set_option maxRecDepth 20000 in
theorem gL_ordered_X1_ordered : GoodIn wsL_ordered (wsV RL 74 RX1 yX1_ordered wsX1_ordered) := goodIn_app (goodIn_of _ (by decide +kernel)) ggL_ordered_X1_ordered
theorem dL_ordered_0 : decode cL_ordered 0 = .ok (.aload_n 2, 1) := by decide +kernel
theorem dL_ordered_1 : decode cL_ordered 1 = .ok (.iconst 0, 1) := by decide +kernel
theorem dL_ordered_2 : decode cL_ordered 2 = .ok (.aload_n 0, 1) := by decide +kernel
theorem dL_ordered_3 : decode cL_ordered 3 = .ok (.iload_n 1, 1) := by decide +kernel
theorem dL_ordered_4 : decode cL_ordered 4 = .ok (.invokevirtual 74, 3) := by decide +kernel
theorem dL_ordered_7 : decode cL_ordered 7 = .ok (.i2l, 1) := by decide +kernel
theorem dL_ordered_8 : decode cL_ordered 8 = .ok (.lastore, 1) := by decide +kernel
theorem dL_ordered_9 : decode cL_ordered 9 = .ok (.goto 6, 3) := by decide +kernel
theorem dL_ordered_12 : decode cL_ordered 12 = .ok (.astore_n 3, 1) := by decide +kernel
theorem dL_ordered_13 : decode cL_ordered 13 = .ok (.iconst 1, 1) := by decide +kernel
theorem dL_ordered_14 : decode cL_ordered 14 = .ok (.ireturn, 1) := by decide +kernel
theorem dL_ordered_15 : decode cL_ordered 15 = .ok (.iconst 0, 1) := by decide +kernel
theorem dL_ordered_16 : decode cL_ordered 16 = .ok (.ireturn, 1) := by decide +kernel
set_option maxRecDepth 20000 in
theorem ggL_kindsAt_X1_kindsAt : GoodIn wsL_kindsAt wsX1_kindsAt := goodIn_ca (goodIn_ca (goodIn_r _ [7, 8, 9, 10, 11, 12, 13, 14, 15, 16, 6, 17, 18, 19, 20, 21, 22, 23, 24, 25, 26, 27, 28, 29, 30, 31, 32, 33, 34, 35, 36, 37, 38, 39, 40, 41, 42, 43, 44, 45, 46, 47, 48, 49, 50, 51, 52, 53, 54, 55, 56, 57, 58, 59, 60, 61, 62, 63, 64, 65, 66, 67] (by decide +kernel) (by decide +kernel)) (goodIn_sub (fun _ h => List.mem_cons_of_mem _ (List.mem_append_left _ (List.mem_append_right _ h))) (by decide +kernel))) (goodIn_sub (fun _ h => List.mem_cons_of_mem _ (List.mem_append_right _ h)) (by decide +kernel))
set_option maxRecDepth 20000 in
theorem gL_kindsAt_X1_kindsAt : GoodIn wsL_kindsAt (wsV RL 77 RX1 yX1_kindsAt wsX1_kindsAt) := goodIn_app (goodIn_of _ (by decide +kernel)) ggL_kindsAt_X1_kindsAt
theorem dL_kindsAt_0 : decode cL_kindsAt 0 = .ok (.aload 4, 2) := by decide +kernel
theorem dL_kindsAt_2 : decode cL_kindsAt 2 = .ok (.iconst 0, 1) := by decide +kernel
theorem dL_kindsAt_3 : decode cL_kindsAt 3 = .ok (.aload_n 0, 1) := by decide +kernel
theorem dL_kindsAt_4 : decode cL_kindsAt 4 = .ok (.iload_n 1, 1) := by decide +kernel
theorem dL_kindsAt_5 : decode cL_kindsAt 5 = .ok (.iload_n 2, 1) := by decide +kernel
theorem dL_kindsAt_6 : decode cL_kindsAt 6 = .ok (.iload_n 3, 1) := by decide +kernel
theorem dL_kindsAt_7 : decode cL_kindsAt 7 = .ok (.invokevirtual 77, 3) := by decide +kernel
theorem dL_kindsAt_10 : decode cL_kindsAt 10 = .ok (.i2l, 1) := by decide +kernel
theorem dL_kindsAt_11 : decode cL_kindsAt 11 = .ok (.lastore, 1) := by decide +kernel
theorem dL_kindsAt_12 : decode cL_kindsAt 12 = .ok (.goto 11, 3) := by decide +kernel
theorem dL_kindsAt_15 : decode cL_kindsAt 15 = .ok (.astore 5, 2) := by decide +kernel
theorem dL_kindsAt_17 : decode cL_kindsAt 17 = .ok (.iconst 1, 1) := by decide +kernel
theorem dL_kindsAt_18 : decode cL_kindsAt 18 = .ok (.ireturn, 1) := by decide +kernel
theorem dL_kindsAt_19 : decode cL_kindsAt 19 = .ok (.astore 5, 2) := by decide +kernel
theorem dL_kindsAt_21 : decode cL_kindsAt 21 = .ok (.iconst 2, 1) := by decide +kernel
theorem dL_kindsAt_22 : decode cL_kindsAt 22 = .ok (.ireturn, 1) := by decide +kernel
theorem dL_kindsAt_23 : decode cL_kindsAt 23 = .ok (.iconst 0, 1) := by decide +kernel
theorem dL_kindsAt_24 : decode cL_kindsAt 24 = .ok (.ireturn, 1) := by decide +kernel
set_option maxRecDepth 20000 in
theorem ggL_isLocked_X1_isLocked : GoodIn wsL_isLocked wsX1_isLocked := goodIn_ca (goodIn_r _ [6, 7, 8, 9, 10, 11, 5, 12, 13, 14, 15, 16, 17, 18, 19, 20, 21, 22, 23] (by decide +kernel) (by decide +kernel)) (goodIn_sub (fun _ h => List.mem_cons_of_mem _ (List.mem_append_right _ h)) (by decide +kernel))
set_option maxRecDepth 20000 in
theorem gL_isLocked_X1_isLocked : GoodIn wsL_isLocked (wsV RL 80 RX1 yX1_isLocked wsX1_isLocked) := goodIn_app (goodIn_of _ (by decide +kernel)) ggL_isLocked_X1_isLocked
theorem dL_isLocked_0 : decode cL_isLocked 0 = .ok (.aload_n 2, 1) := by decide +kernel
theorem dL_isLocked_1 : decode cL_isLocked 1 = .ok (.iconst 0, 1) := by decide +kernel
theorem dL_isLocked_2 : decode cL_isLocked 2 = .ok (.aload_n 0, 1) := by decide +kernel
theorem dL_isLocked_3 : decode cL_isLocked 3 = .ok (.iload_n 1, 1) := by decide +kernel
theorem dL_isLocked_4 : decode cL_isLocked 4 = .ok (.invokevirtual 80, 3) := by decide +kernel
theorem dL_isLocked_7 : decode cL_isLocked 7 = .ok (.ifCond .eq 7, 3) := by decide +kernel
theorem dL_isLocked_10 : decode cL_isLocked 10 = .ok (.lconst 1, 1) := by decide +kernel
theorem dL_isLocked_11 : decode cL_isLocked 11 = .ok (.goto 4, 3) := by decide +kernel
theorem dL_isLocked_14 : decode cL_isLocked 14 = .ok (.lconst 0, 1) := by decide +kernel
theorem dL_isLocked_15 : decode cL_isLocked 15 = .ok (.lastore, 1) := by decide +kernel
theorem dL_isLocked_16 : decode cL_isLocked 16 = .ok (.goto 6, 3) := by decide +kernel
theorem dL_isLocked_19 : decode cL_isLocked 19 = .ok (.astore_n 3, 1) := by decide +kernel
theorem dL_isLocked_20 : decode cL_isLocked 20 = .ok (.iconst 1, 1) := by decide +kernel
theorem dL_isLocked_21 : decode cL_isLocked 21 = .ok (.ireturn, 1) := by decide +kernel
theorem dL_isLocked_22 : decode cL_isLocked 22 = .ok (.iconst 0, 1) := by decide +kernel
theorem dL_isLocked_23 : decode cL_isLocked 23 = .ok (.ireturn, 1) := by decide +kernel
set_option maxRecDepth 20000 in
theorem ggL_law_X1_init : GoodIn wsL_law wsX1_init := goodIn_r _ [9, 10, 11, 12, 13, 14, 15, 16, 17, 18, 19, 20, 21, 22, 23, 489, 490, 491, 492, 493, 494, 495, 496] (by decide +kernel) (by decide +kernel)
set_option maxRecDepth 20000 in
theorem gL_law_X1_init : GoodIn wsL_law (wsX1_init) := ggL_law_X1_init
set_option maxRecDepth 20000 in
theorem ggL_law_X2_init : GoodIn wsL_law wsX2_init := goodIn_r _ [26, 27, 11, 12, 16, 28, 29, 30, 31, 32, 33, 34, 35, 36, 37, 38, 39, 40, 20, 41, 497, 498, 499, 500, 501, 502, 503, 504, 505, 506, 507, 508, 509, 510, 511, 512, 513, 514] (by decide +kernel) (by decide +kernel)
set_option maxRecDepth 20000 in
theorem gL_law_X2_init : GoodIn wsL_law (wsX2_init) := ggL_law_X2_init
set_option maxRecDepth 20000 in
theorem ggL_law_L_add : GoodIn wsL_law wsL_add := goodIn_ca (goodIn_ca (goodIn_ca (goodIn_r _ [45, 46, 47, 48, 49, 50, 51, 2, 52, 53, 54, 55, 56, 57, 58, 21, 15, 14, 22, 13, 59, 60, 61, 62, 63, 64, 65, 66, 67, 68, 69, 70, 71, 72, 73, 74, 75, 76, 11, 12, 77, 78, 79, 80, 81, 82, 83, 84, 85, 86, 489, 490, 491, 492, 493, 494, 495, 496, 515, 516, 517, 518, 519, 520, 521, 522, 523, 524] (by decide +kernel) (by decide +kernel)) (goodIn_sub (fun _ h => List.mem_append_left _ (List.mem_append_left _ (List.mem_append_right _ h))) (by decide +kernel))) (goodIn_sub (fun _ h => List.mem_append_left _ (List.mem_append_right _ h)) (by decide +kernel))) (goodIn_sub (fun _ h => List.mem_append_right _ h) (by decide +kernel))
set_option maxRecDepth 20000 in
theorem gL_law_L_add : GoodIn wsL_law (va_wsS RL 87 yL_add wsL_add) := goodIn_app (goodIn_of _ (by decide +kernel)) ggL_law_L_add
set_option maxRecDepth 20000 in
theorem ggL_law_X2_add : GoodIn wsL_law wsX2_add := goodIn_r _ [90, 41, 91, 28, 29, 30, 31, 32, 33, 92, 93, 5, 94, 95, 96, 97, 98, 99, 100, 101, 102, 103, 104, 105, 106, 107, 108, 109, 110, 111, 112, 113, 35, 36, 497, 498, 499, 500, 501, 502, 503, 504, 505, 506, 507, 508, 509, 510, 511, 512, 513, 514] (by decide +kernel) (by decide +kernel)
set_option maxRecDepth 20000 in
theorem gL_law_X2_add : GoodIn wsL_law (wsV RL 92 RX2 yX2_add wsX2_add) := goodIn_app (goodIn_of _ (by decide +kernel)) ggL_law_X2_add
set_option maxRecDepth 20000 in
theorem ggL_law_X2_thrown : GoodIn wsL_law wsX2_thrown := goodIn_r _ [117, 108, 497, 498, 499, 500, 501, 502, 503, 504, 505, 506, 507, 508, 509, 510, 511, 512, 513, 514] (by decide +kernel) (by decide +kernel)
set_option maxRecDepth 20000 in
theorem gL_law_X2_thrown : GoodIn wsL_law (wsV RL 93 RX2 yX2_thrown wsX2_thrown) := goodIn_app (goodIn_of _ (by decide +kernel)) ggL_law_X2_thrown
set_option maxRecDepth 20000 in
theorem ggL_law_L_move : GoodIn wsL_law wsL_move := goodIn_ca (goodIn_ca (goodIn_ca (goodIn_r _ [120, 46, 47, 48, 121, 122, 123, 2, 124, 53, 54, 55, 56, 57, 58, 125, 126, 127, 128, 129, 14, 64, 65, 66, 61, 62, 63, 130, 131, 132, 133, 22, 134, 135, 136, 137, 138, 139, 60, 140, 81, 82, 83, 84, 71, 72, 141, 142, 143, 144, 145, 146, 147, 148, 149, 150, 151, 152, 153, 515, 516, 517, 518, 519, 520, 521, 522, 523, 524, 489, 490, 491, 492, 493, 494, 495, 496] (by decide +kernel) (by decide +kernel)) (goodIn_sub (fun _ h => List.mem_append_left _ (List.mem_append_left _ (List.mem_append_right _ h))) (by decide +kernel))) (goodIn_sub (fun _ h => List.mem_append_left _ (List.mem_append_right _ h)) (by decide +kernel))) (goodIn_sub (fun _ h => List.mem_append_right _ h) (by decide +kernel))
set_option maxRecDepth 20000 in
theorem gL_law_L_move : GoodIn wsL_law (va_wsS RL 97 yL_move wsL_move) := goodIn_app (goodIn_of _ (by decide +kernel)) ggL_law_L_move
set_option maxRecDepth 20000 in
theorem ggL_law_X2_move : GoodIn wsL_law wsX2_move := goodIn_r _ [157, 113, 30, 32, 31, 33, 34, 92, 93, 5, 94, 95, 96, 97, 158, 159, 160, 161, 91, 101, 102, 103, 104, 105, 106, 107, 108, 162, 163, 164, 165, 35, 36, 109, 110, 111, 112, 497, 498, 499, 500, 501, 502, 503, 504, 505, 506, 507, 508, 509, 510, 511, 512, 513, 514] (by decide +kernel) (by decide +kernel)
set_option maxRecDepth 20000 in
theorem gL_law_X2_move : GoodIn wsL_law (wsV RL 100 RX2 yX2_move wsX2_move) := goodIn_app (goodIn_of _ (by decide +kernel)) ggL_law_X2_move
set_option maxRecDepth 20000 in
theorem ggL_law_L_remove : GoodIn wsL_law wsL_remove := goodIn_ca (goodIn_ca (goodIn_ca (goodIn_r _ [168, 46, 47, 48, 169, 170, 171, 2, 172, 53, 54, 55, 56, 57, 58, 125, 126, 127, 128, 129, 14, 64, 65, 66, 61, 62, 63, 130, 131, 132, 133, 22, 150, 151, 152, 153, 144, 145, 515, 516, 517, 518, 519, 520, 521, 522, 523, 524, 489, 490, 491, 492, 493, 494, 495, 496] (by decide +kernel) (by decide +kernel)) (goodIn_sub (fun _ h => List.mem_append_left _ (List.mem_append_left _ (List.mem_append_right _ h))) (by decide +kernel))) (goodIn_sub (fun _ h => List.mem_append_left _ (List.mem_append_right _ h)) (by decide +kernel))) (goodIn_sub (fun _ h => List.mem_append_right _ h) (by decide +kernel))
set_option maxRecDepth 20000 in
theorem gL_law_L_remove : GoodIn wsL_law (va_wsS RL 101 yL_remove wsL_remove) := goodIn_app (goodIn_of _ (by decide +kernel)) ggL_law_L_remove
set_option maxRecDepth 20000 in
theorem ggL_law_X2_remove : GoodIn wsL_law wsX2_remove := goodIn_r _ [176, 113, 34, 92, 93, 5, 94, 95, 96, 97, 158, 159, 160, 161, 91, 104, 105, 106, 107, 108, 109, 110, 111, 112, 35, 36, 497, 498, 499, 500, 501, 502, 503, 504, 505, 506, 507, 508, 509, 510, 511, 512, 513, 514] (by decide +kernel) (by decide +kernel)
set_option maxRecDepth 20000 in
theorem gL_law_X2_remove : GoodIn wsL_law (wsV RL 104 RX2 yX2_remove wsX2_remove) := goodIn_app (goodIn_of _ (by decide +kernel)) ggL_law_X2_remove
set_option maxRecDepth 20000 in
theorem ggL_law_L_clear : GoodIn wsL_law wsL_clear := goodIn_ca (goodIn_ca (goodIn_r _ [179, 46, 47, 180, 181, 182, 2, 183, 53, 54, 55, 56, 17, 61, 62, 63, 64, 65, 66, 489, 490, 491, 492, 493, 494, 495, 496] (by decide +kernel) (by decide +kernel)) (goodIn_sub (fun _ h => List.mem_append_left _ (List.mem_append_left _ (List.mem_append_right _ h))) (by decide +kernel))) (goodIn_sub (fun _ h => List.mem_append_left _ (List.mem_append_right _ h)) (by decide +kernel))
set_option maxRecDepth 20000 in
theorem gL_law_L_clear : GoodIn wsL_law (va_wsS RL 105 yL_clear wsL_clear) := goodIn_app (goodIn_of _ (by decide +kernel)) ggL_law_L_clear
set_option maxRecDepth 20000 in
theorem ggL_law_X2_clear : GoodIn wsL_law wsX2_clear := goodIn_r _ [187, 38, 92, 93, 5, 94, 95, 96, 97, 104, 105, 106, 107, 108, 497, 498, 499, 500, 501, 502, 503, 504, 505, 506, 507, 508, 509, 510, 511, 512, 513, 514] (by decide +kernel) (by decide +kernel)
set_option maxRecDepth 20000 in
theorem gL_law_X2_clear : GoodIn wsL_law (wsV RL 107 RX2 yX2_clear wsX2_clear) := goodIn_app (goodIn_of _ (by decide +kernel)) ggL_law_X2_clear
set_option maxRecDepth 20000 in
theorem ggL_law_L_part : GoodIn wsL_law wsL_part := goodIn_ca (goodIn_ca (goodIn_r _ [190, 46, 47, 191, 192, 193, 2, 194, 53, 54, 55, 56, 18, 61, 62, 63, 64, 65, 66, 489, 490, 491, 492, 493, 494, 495, 496] (by decide +kernel) (by decide +kernel)) (goodIn_sub (fun _ h => List.mem_append_left _ (List.mem_append_left _ (List.mem_append_right _ h))) (by decide +kernel))) (goodIn_sub (fun _ h => List.mem_append_left _ (List.mem_append_right _ h)) (by decide +kernel))
set_option maxRecDepth 20000 in
theorem gL_law_L_part : GoodIn wsL_law (va_wsS RL 108 yL_part wsL_part) := goodIn_app (goodIn_of _ (by decide +kernel)) ggL_law_L_part
set_option maxRecDepth 20000 in
theorem ggL_law_X2_part : GoodIn wsL_law wsX2_part := goodIn_r _ [198, 39, 92, 93, 5, 94, 95, 96, 97, 104, 105, 106, 107, 108, 497, 498, 499, 500, 501, 502, 503, 504, 505, 506, 507, 508, 509, 510, 511, 512, 513, 514] (by decide +kernel) (by decide +kernel)
set_option maxRecDepth 20000 in
theorem gL_law_X2_part : GoodIn wsL_law (wsV RL 111 RX2 yX2_part wsX2_part) := goodIn_app (goodIn_of _ (by decide +kernel)) ggL_law_X2_part
set_option maxRecDepth 20000 in
theorem ggL_law_L_lead : GoodIn wsL_law wsL_lead := goodIn_ca (goodIn_ca (goodIn_r _ [201, 46, 47, 202, 203, 204, 2, 205, 53, 54, 55, 56, 19, 61, 62, 63, 64, 65, 66, 489, 490, 491, 492, 493, 494, 495, 496] (by decide +kernel) (by decide +kernel)) (goodIn_sub (fun _ h => List.mem_append_left _ (List.mem_append_left _ (List.mem_append_right _ h))) (by decide +kernel))) (goodIn_sub (fun _ h => List.mem_append_left _ (List.mem_append_right _ h)) (by decide +kernel))
set_option maxRecDepth 20000 in
theorem gL_law_L_lead : GoodIn wsL_law (va_wsS RL 112 yL_lead wsL_lead) := goodIn_app (goodIn_of _ (by decide +kernel)) ggL_law_L_lead
set_option maxRecDepth 20000 in
theorem ggL_law_X2_lead : GoodIn wsL_law wsX2_lead := goodIn_r _ [209, 40, 92, 93, 5, 94, 95, 96, 97, 104, 105, 106, 107, 108, 497, 498, 499, 500, 501, 502, 503, 504, 505, 506, 507, 508, 509, 510, 511, 512, 513, 514] (by decide +kernel) (by decide +kernel)
set_option maxRecDepth 20000 in
theorem gL_law_X2_lead : GoodIn wsL_law (wsV RL 114 RX2 yX2_lead wsX2_lead) := goodIn_app (goodIn_of _ (by decide +kernel)) ggL_law_X2_lead
set_option maxRecDepth 20000 in
theorem ggL_law_L_order : GoodIn wsL_law wsL_order := goodIn_ca (goodIn_ca (goodIn_r _ [212, 46, 48, 213, 214, 215, 2, 216, 53, 54, 57, 58, 125, 23, 217, 218, 126, 127, 128, 129, 14, 64, 65, 66, 219, 220, 221, 222, 19, 61, 62, 63, 223, 224, 225, 60, 226, 77, 78, 227, 228, 229, 230, 18, 231, 232, 233, 234, 83, 81, 235, 236, 237, 238, 84, 82, 515, 516, 517, 518, 519, 520, 521, 522, 523, 524, 489, 490, 491, 492, 493, 494, 495, 496] (by decide +kernel) (by decide +kernel)) (goodIn_sub (fun _ h => List.mem_append_left _ (List.mem_append_left _ (List.mem_append_right _ h))) (by decide +kernel))) (goodIn_sub (fun _ h => List.mem_append_right _ h) (by decide +kernel))
set_option maxRecDepth 20000 in
theorem gL_law_L_order : GoodIn wsL_law (va_wsS RL 115 yL_order wsL_order) := goodIn_app (goodIn_of _ (by decide +kernel)) ggL_law_L_order
set_option maxRecDepth 20000 in
theorem ggL_law_X2_order : GoodIn wsL_law wsX2_order := goodIn_r _ [242, 34, 37, 243, 40, 28, 158, 159, 160, 5, 161, 91, 95, 96, 97, 104, 105, 106, 107, 108, 244, 245, 246, 247, 39, 248, 249, 250, 251, 32, 30, 33, 31, 252, 253, 254, 497, 498, 499, 500, 501, 502, 503, 504, 505, 506, 507, 508, 509, 510, 511, 512, 513, 514] (by decide +kernel) (by decide +kernel)
set_option maxRecDepth 20000 in
theorem gL_law_X2_order : GoodIn wsL_law (wsV RL 118 RX2 yX2_order wsX2_order) := goodIn_app (goodIn_of _ (by decide +kernel)) ggL_law_X2_order
set_option maxRecDepth 20000 in
theorem ggL_law_L_cancel : GoodIn wsL_law wsL_cancel := goodIn_ca (goodIn_ca (goodIn_r _ [257, 46, 48, 258, 259, 260, 2, 261, 53, 54, 57, 58, 125, 218, 23, 126, 127, 128, 129, 14, 64, 65, 66, 515, 516, 517, 518, 519, 520, 521, 522, 523, 524, 489, 490, 491, 492, 493, 494, 495, 496] (by decide +kernel) (by decide +kernel)) (goodIn_sub (fun _ h => List.mem_append_left _ (List.mem_append_left _ (List.mem_append_right _ h))) (by decide +kernel))) (goodIn_sub (fun _ h => List.mem_append_right _ h) (by decide +kernel))
set_option maxRecDepth 20000 in
theorem gL_law_L_cancel : GoodIn wsL_law (va_wsS RL 119 yL_cancel wsL_cancel) := goodIn_app (goodIn_of _ (by decide +kernel)) ggL_law_L_cancel
set_option maxRecDepth 20000 in
theorem ggL_law_X2_cancel : GoodIn wsL_law wsX2_cancel := goodIn_r _ [265, 34, 37, 243, 158, 159, 160, 5, 161, 91, 95, 96, 97, 104, 105, 106, 107, 108, 497, 498, 499, 500, 501, 502, 503, 504, 505, 506, 507, 508, 509, 510, 511, 512, 513, 514] (by decide +kernel) (by decide +kernel)
set_option maxRecDepth 20000 in
theorem gL_law_X2_cancel : GoodIn wsL_law (wsV RL 121 RX2 yX2_cancel wsX2_cancel) := goodIn_app (goodIn_of _ (by decide +kernel)) ggL_law_X2_cancel
set_option maxRecDepth 20000 in
theorem ggL_law_L_build : GoodIn wsL_law wsL_build := goodIn_ca (goodIn_ca (goodIn_r _ [268, 46, 48, 269, 270, 271, 2, 272, 53, 54, 57, 58, 125, 126, 127, 128, 129, 14, 64, 65, 66, 273, 274, 275, 276, 15, 277, 278, 279, 280, 281, 217, 282, 283, 284, 60, 285, 77, 286, 287, 288, 289, 81, 83, 82, 84, 290, 291, 237, 292, 293, 294, 295, 296, 297, 298, 299, 300, 301, 302, 17, 61, 62, 63, 515, 516, 517, 518, 519, 520, 521, 522, 523, 524, 489, 490, 491, 492, 493, 494, 495, 496] (by decide +kernel) (by decide +kernel)) (goodIn_sub (fun _ h => List.mem_append_left _ (List.mem_append_left _ (List.mem_append_right _ h))) (by decide +kernel))) (goodIn_sub (fun _ h => List.mem_append_right _ h) (by decide +kernel))
set_option maxRecDepth 20000 in
theorem gL_law_L_build : GoodIn wsL_law (va_wsS RL 122 yL_build wsL_build) := goodIn_app (goodIn_of _ (by decide +kernel)) ggL_law_L_build
set_option maxRecDepth 20000 in
theorem ggL_law_X2_build : GoodIn wsL_law wsX2_build := goodIn_r _ [306, 34, 158, 159, 160, 5, 161, 91, 95, 96, 97, 104, 105, 106, 107, 108, 307, 308, 309, 310, 311, 312, 313, 314, 29, 30, 32, 31, 33, 38, 28, 315, 316, 317, 497, 498, 499, 500, 501, 502, 503, 504, 505, 506, 507, 508, 509, 510, 511, 512, 513, 514] (by decide +kernel) (by decide +kernel)
set_option maxRecDepth 20000 in
theorem gL_law_X2_build : GoodIn wsL_law (wsV RL 124 RX2 yX2_build wsX2_build) := goodIn_app (goodIn_of _ (by decide +kernel)) ggL_law_X2_build
set_option maxRecDepth 20000 in
theorem ggL_law_L_inspect : GoodIn wsL_law wsL_inspect := goodIn_ca (goodIn_ca (goodIn_r _ [320, 46, 48, 321, 322, 323, 2, 324, 53, 54, 57, 58, 21, 67, 68, 69, 64, 65, 66, 325, 326, 327, 328, 15, 281, 125, 126, 127, 128, 129, 14, 282, 283, 284, 60, 285, 77, 273, 274, 275, 276, 277, 278, 279, 280, 217, 286, 287, 288, 289, 81, 83, 82, 84, 290, 291, 237, 292, 293, 294, 295, 296, 297, 298, 299, 300, 301, 302, 17, 61, 62, 63, 489, 490, 491, 492, 493, 494, 495, 496, 515, 516, 517, 518, 519, 520, 521, 522, 523, 524] (by decide +kernel) (by decide +kernel)) (goodIn_sub (fun _ h => List.mem_append_left _ (List.mem_append_left _ (List.mem_append_right _ h))) (by decide +kernel))) (goodIn_sub (fun _ h => List.mem_append_right _ h) (by decide +kernel))
set_option maxRecDepth 20000 in
theorem gL_law_L_inspect : GoodIn wsL_law (va_wsS RL 125 yL_inspect wsL_inspect) := goodIn_app (goodIn_of _ (by decide +kernel)) ggL_law_L_inspect
set_option maxRecDepth 20000 in
theorem ggL_law_X2_inspect : GoodIn wsL_law wsX2_inspect := goodIn_r _ [332, 41, 91, 29, 34, 98, 99, 5, 100, 95, 96, 97, 104, 105, 106, 107, 108, 307, 308, 309, 310, 311, 312, 313, 314, 30, 32, 31, 33, 38, 28, 315, 316, 317, 497, 498, 499, 500, 501, 502, 503, 504, 505, 506, 507, 508, 509, 510, 511, 512, 513, 514] (by decide +kernel) (by decide +kernel)
set_option maxRecDepth 20000 in
theorem gL_law_X2_inspect : GoodIn wsL_law (wsV RL 127 RX2 yX2_inspect wsX2_inspect) := goodIn_app (goodIn_of _ (by decide +kernel)) ggL_law_X2_inspect
set_option maxRecDepth 20000 in
theorem ggL_law_L_pass : GoodIn wsL_law wsL_pass := goodIn_ca (goodIn_ca (goodIn_r _ [335, 47, 48, 336, 337, 338, 2, 339, 55, 56, 57, 58, 23, 15, 64, 65, 66, 126, 127, 128, 129, 14, 223, 224, 225, 60, 226, 77, 78, 489, 490, 491, 492, 493, 494, 495, 496, 515, 516, 517, 518, 519, 520, 521, 522, 523, 524] (by decide +kernel) (by decide +kernel)) (goodIn_sub (fun _ h => List.mem_append_left _ (List.mem_append_right _ h)) (by decide +kernel))) (goodIn_sub (fun _ h => List.mem_append_right _ h) (by decide +kernel))
set_option maxRecDepth 20000 in
theorem gL_law_L_pass : GoodIn wsL_law (va_wsS RL 128 yL_pass wsL_pass) := goodIn_app (goodIn_of _ (by decide +kernel)) ggL_law_L_pass
set_option maxRecDepth 20000 in
theorem ggL_law_X2_pass : GoodIn wsL_law wsX2_pass := goodIn_r _ [343, 243, 91, 34, 37, 95, 96, 5, 97, 104, 105, 106, 107, 108, 497, 498, 499, 500, 501, 502, 503, 504, 505, 506, 507, 508, 509, 510, 511, 512, 513, 514] (by decide +kernel) (by decide +kernel)
set_option maxRecDepth 20000 in
theorem gL_law_X2_pass : GoodIn wsL_law (wsV RL 130 RX2 yX2_pass wsX2_pass) := goodIn_app (goodIn_of _ (by decide +kernel)) ggL_law_X2_pass
set_option maxRecDepth 20000 in
theorem ggL_law_X1_day : GoodIn wsL_law wsX1_day := goodIn_r _ [347, 23, 489, 490, 491, 492, 493, 494, 495, 496] (by decide +kernel) (by decide +kernel)
set_option maxRecDepth 20000 in
theorem gL_law_X1_day : GoodIn wsL_law (wsV RL 131 RX1 yX1_day wsX1_day) := goodIn_app (goodIn_of _ (by decide +kernel)) ggL_law_X1_day
set_option maxRecDepth 20000 in
theorem ggL_law_X2_day : GoodIn wsL_law wsX2_day := goodIn_r _ [351, 108, 243, 497, 498, 499, 500, 501, 502, 503, 504, 505, 506, 507, 508, 509, 510, 511, 512, 513, 514] (by decide +kernel) (by decide +kernel)
set_option maxRecDepth 20000 in
theorem gL_law_X2_day : GoodIn wsL_law (wsV RL 134 RX2 yX2_day wsX2_day) := goodIn_app (goodIn_of _ (by decide +kernel)) ggL_law_X2_day
set_option maxRecDepth 20000 in
theorem ggL_law_X1_revision : GoodIn wsL_law wsX1_revision := goodIn_r _ [355, 22, 489, 490, 491, 492, 493, 494, 495, 496] (by decide +kernel) (by decide +kernel)
set_option maxRecDepth 20000 in
theorem gL_law_X1_revision : GoodIn wsL_law (wsV RL 135 RX1 yX1_revision wsX1_revision) := goodIn_app (goodIn_of _ (by decide +kernel)) ggL_law_X1_revision
set_option maxRecDepth 20000 in
theorem ggL_law_X2_revision : GoodIn wsL_law wsX2_revision := goodIn_r _ [359, 108, 113, 497, 498, 499, 500, 501, 502, 503, 504, 505, 506, 507, 508, 509, 510, 511, 512, 513, 514] (by decide +kernel) (by decide +kernel)
set_option maxRecDepth 20000 in
theorem gL_law_X2_revision : GoodIn wsL_law (wsV RL 138 RX2 yX2_revision wsX2_revision) := goodIn_app (goodIn_of _ (by decide +kernel)) ggL_law_X2_revision
set_option maxRecDepth 20000 in
theorem ggL_law_L_elementOf : GoodIn wsL_law wsL_elementOf := goodIn_ca (goodIn_ca (goodIn_r _ [362, 46, 47, 363, 364, 365, 2, 366, 53, 54, 55, 56, 217, 281, 367, 368, 369, 370, 125, 144, 145, 126, 127, 128, 129, 14, 64, 65, 66, 231, 232, 233, 60, 234, 83, 81, 235, 236, 237, 238, 84, 82, 515, 516, 517, 518, 519, 520, 521, 522, 523, 524, 489, 490, 491, 492, 493, 494, 495, 496] (by decide +kernel) (by decide +kernel)) (goodIn_sub (fun _ h => List.mem_append_left _ (List.mem_append_left _ (List.mem_append_right _ h))) (by decide +kernel))) (goodIn_sub (fun _ h => List.mem_append_left _ (List.mem_append_right _ h)) (by decide +kernel))
set_option maxRecDepth 20000 in
theorem gL_law_L_elementOf : GoodIn wsL_law (va_wsS RL 139 yL_elementOf wsL_elementOf) := goodIn_app (goodIn_of _ (by decide +kernel)) ggL_law_L_elementOf
set_option maxRecDepth 20000 in
theorem ggL_law_X2_elementOf : GoodIn wsL_law wsX2_elementOf := goodIn_r _ [374, 28, 29, 30, 31, 32, 33, 34, 35, 36, 158, 159, 160, 5, 161, 91, 95, 96, 97, 104, 105, 106, 107, 108, 248, 249, 250, 251, 252, 253, 254, 497, 498, 499, 500, 501, 502, 503, 504, 505, 506, 507, 508, 509, 510, 511, 512, 513, 514] (by decide +kernel) (by decide +kernel)
set_option maxRecDepth 20000 in
theorem gL_law_X2_elementOf : GoodIn wsL_law (wsV RL 141 RX2 yX2_elementOf wsX2_elementOf) := goodIn_app (goodIn_of _ (by decide +kernel)) ggL_law_X2_elementOf
set_option maxRecDepth 20000 in
theorem ggL_law_L_clash : GoodIn wsL_law wsL_clash := goodIn_ca (goodIn_r _ [377, 46, 378, 379, 380, 2, 381, 53, 54, 126, 127, 128, 129, 14, 64, 65, 66, 277, 278, 279, 280, 281, 217, 282, 283, 284, 60, 285, 77, 286, 287, 288, 289, 81, 83, 82, 84, 290, 291, 237, 292, 293, 294, 295, 296, 297, 298, 299, 300, 301, 302, 17, 61, 62, 63, 489, 490, 491, 492, 493, 494, 495, 496, 515, 516, 517, 518, 519, 520, 521, 522, 523, 524] (by decide +kernel) (by decide +kernel)) (goodIn_sub (fun _ h => List.mem_append_left _ (List.mem_append_left _ (List.mem_append_right _ h))) (by decide +kernel))
set_option maxRecDepth 20000 in
theorem gL_law_L_clash : GoodIn wsL_law (va_wsS RL 142 yL_clash wsL_clash) := goodIn_app (goodIn_of _ (by decide +kernel)) ggL_law_L_clash
set_option maxRecDepth 20000 in
theorem ggL_law_X2_clash : GoodIn wsL_law wsX2_clash := goodIn_r _ [385, 158, 159, 160, 5, 161, 91, 95, 96, 97, 104, 105, 106, 107, 108, 311, 312, 313, 314, 34, 29, 30, 32, 31, 33, 38, 28, 315, 316, 317, 497, 498, 499, 500, 501, 502, 503, 504, 505, 506, 507, 508, 509, 510, 511, 512, 513, 514] (by decide +kernel) (by decide +kernel)
set_option maxRecDepth 20000 in
theorem gL_law_X2_clash : GoodIn wsL_law (wsV RL 144 RX2 yX2_clash wsX2_clash) := goodIn_app (goodIn_of _ (by decide +kernel)) ggL_law_X2_clash
set_option maxRecDepth 20000 in
theorem ggL_law_L_clashes : GoodIn wsL_law wsL_clashes := goodIn_ca (goodIn_r _ [388, 46, 389, 390, 391, 2, 392, 53, 54, 15, 67, 68, 69, 64, 65, 66, 393, 394, 395, 396, 281, 126, 127, 128, 129, 14, 397, 398, 399, 400, 277, 278, 279, 280, 217, 282, 283, 284, 60, 285, 77, 286, 287, 288, 289, 81, 83, 82, 84, 290, 291, 237, 292, 293, 294, 295, 296, 297, 298, 299, 300, 301, 302, 17, 61, 62, 63, 489, 490, 491, 492, 493, 494, 495, 496, 515, 516, 517, 518, 519, 520, 521, 522, 523, 524] (by decide +kernel) (by decide +kernel)) (goodIn_sub (fun _ h => List.mem_append_left _ (List.mem_append_left _ (List.mem_append_right _ h))) (by decide +kernel))
set_option maxRecDepth 20000 in
theorem gL_law_L_clashes : GoodIn wsL_law (va_wsS RL 145 yL_clashes wsL_clashes) := goodIn_app (goodIn_of _ (by decide +kernel)) ggL_law_L_clashes
set_option maxRecDepth 20000 in
theorem ggL_law_X2_clashes : GoodIn wsL_law wsX2_clashes := goodIn_r _ [404, 91, 29, 98, 99, 5, 100, 95, 96, 97, 104, 105, 106, 107, 108, 311, 312, 313, 314, 34, 30, 32, 31, 33, 38, 28, 315, 316, 317, 497, 498, 499, 500, 501, 502, 503, 504, 505, 506, 507, 508, 509, 510, 511, 512, 513, 514] (by decide +kernel) (by decide +kernel)
set_option maxRecDepth 20000 in
theorem gL_law_X2_clashes : GoodIn wsL_law (wsV RL 147 RX2 yX2_clashes wsX2_clashes) := goodIn_app (goodIn_of _ (by decide +kernel)) ggL_law_X2_clashes
set_option maxRecDepth 20000 in
theorem ggL_law_L_isStopped : GoodIn wsL_law wsL_isStopped := goodIn_ca (goodIn_r _ [407, 46, 408, 409, 410, 2, 411, 53, 54, 15, 217, 281, 61, 62, 63, 64, 65, 66, 67, 68, 69, 126, 127, 128, 129, 14, 273, 274, 275, 276, 277, 278, 279, 280, 282, 283, 284, 60, 285, 77, 286, 287, 288, 289, 81, 83, 82, 84, 290, 291, 237, 292, 293, 294, 295, 296, 297, 298, 299, 300, 301, 302, 17, 489, 490, 491, 492, 493, 494, 495, 496, 515, 516, 517, 518, 519, 520, 521, 522, 523, 524] (by decide +kernel) (by decide +kernel)) (goodIn_sub (fun _ h => List.mem_append_left _ (List.mem_append_left _ (List.mem_append_right _ h))) (by decide +kernel))
set_option maxRecDepth 20000 in
theorem gL_law_L_isStopped : GoodIn wsL_law (va_wsS RL 148 yL_isStopped wsL_isStopped) := goodIn_app (goodIn_of _ (by decide +kernel)) ggL_law_L_isStopped
set_option maxRecDepth 20000 in
theorem ggL_law_X2_isStopped : GoodIn wsL_law wsX2_isStopped := goodIn_r _ [415, 91, 28, 29, 92, 93, 5, 94, 95, 96, 97, 98, 99, 100, 104, 105, 106, 107, 108, 307, 308, 309, 310, 311, 312, 313, 314, 34, 30, 32, 31, 33, 38, 315, 316, 317, 497, 498, 499, 500, 501, 502, 503, 504, 505, 506, 507, 508, 509, 510, 511, 512, 513, 514] (by decide +kernel) (by decide +kernel)
set_option maxRecDepth 20000 in
theorem gL_law_X2_isStopped : GoodIn wsL_law (wsV RL 150 RX2 yX2_isStopped wsX2_isStopped) := goodIn_app (goodIn_of _ (by decide +kernel)) ggL_law_X2_isStopped
set_option maxRecDepth 20000 in
theorem ggL_law_L_parts : GoodIn wsL_law wsL_parts := goodIn_ca (goodIn_r _ [418, 46, 419, 420, 421, 2, 422, 53, 54, 61, 62, 63, 64, 65, 66, 423, 424, 425, 426, 15, 217, 125, 126, 127, 128, 129, 14, 227, 228, 229, 230, 18, 231, 232, 233, 60, 234, 83, 81, 235, 236, 237, 238, 84, 82, 489, 490, 491, 492, 493, 494, 495, 496, 515, 516, 517, 518, 519, 520, 521, 522, 523, 524] (by decide +kernel) (by decide +kernel)) (goodIn_sub (fun _ h => List.mem_append_left _ (List.mem_append_left _ (List.mem_append_right _ h))) (by decide +kernel))
set_option maxRecDepth 20000 in
theorem gL_law_L_parts : GoodIn wsL_law (va_wsS RL 151 yL_parts wsL_parts) := goodIn_app (goodIn_of _ (by decide +kernel)) ggL_law_L_parts
set_option maxRecDepth 20000 in
theorem ggL_law_X2_parts : GoodIn wsL_law wsX2_parts := goodIn_r _ [430, 92, 93, 5, 94, 95, 96, 97, 104, 105, 106, 107, 108, 431, 432, 433, 434, 91, 28, 34, 244, 245, 246, 247, 39, 248, 249, 250, 251, 32, 30, 33, 31, 252, 253, 254, 497, 498, 499, 500, 501, 502, 503, 504, 505, 506, 507, 508, 509, 510, 511, 512, 513, 514] (by decide +kernel) (by decide +kernel)
set_option maxRecDepth 20000 in
theorem gL_law_X2_parts : GoodIn wsL_law (wsV RL 153 RX2 yX2_parts wsX2_parts) := goodIn_app (goodIn_of _ (by decide +kernel)) ggL_law_X2_parts
set_option maxRecDepth 20000 in
theorem ggL_law_L_partsAnew : GoodIn wsL_law wsL_partsAnew := goodIn_ca (goodIn_r _ [437, 46, 438, 439, 440, 2, 441, 53, 54, 15, 217, 18, 61, 62, 63, 64, 65, 66, 126, 127, 128, 129, 14, 282, 283, 284, 60, 285, 77, 442, 443, 444, 445, 446, 447, 448, 449, 81, 83, 296, 297, 237, 298, 290, 291, 292, 82, 84, 489, 490, 491, 492, 493, 494, 495, 496, 515, 516, 517, 518, 519, 520, 521, 522, 523, 524] (by decide +kernel) (by decide +kernel)) (goodIn_sub (fun _ h => List.mem_append_left _ (List.mem_append_left _ (List.mem_append_right _ h))) (by decide +kernel))
set_option maxRecDepth 20000 in
theorem gL_law_L_partsAnew : GoodIn wsL_law (va_wsS RL 154 yL_partsAnew wsL_partsAnew) := goodIn_app (goodIn_of _ (by decide +kernel)) ggL_law_L_partsAnew
set_option maxRecDepth 20000 in
theorem ggL_law_X2_partsAnew : GoodIn wsL_law wsX2_partsAnew := goodIn_r _ [453, 454, 428, 429, 5, 430, 92, 93, 94, 95, 96, 97, 104, 105, 106, 107, 108, 431, 432, 433, 434, 91, 28, 34, 244, 245, 246, 247, 39, 248, 249, 250, 251, 32, 30, 33, 31, 252, 253, 254, 497, 498, 499, 500, 501, 502, 503, 504, 505, 506, 507, 508, 509, 510, 511, 512, 513, 514] (by decide +kernel) (by decide +kernel)
set_option maxRecDepth 20000 in
theorem gL_law_X2_partsAnew : GoodIn wsL_law (wsV RL 156 RX2 yX2_partsAnew wsX2_partsAnew) := goodIn_app (goodIn_of _ (by decide +kernel)) ggL_law_X2_partsAnew
set_option maxRecDepth 20000 in
theorem ggL_law_L_ordered : GoodIn wsL_law wsL_ordered := goodIn_ca (goodIn_r _ [457, 46, 458, 459, 460, 2, 461, 53, 54, 61, 62, 63, 64, 65, 66, 423, 424, 425, 426, 15, 217, 125, 126, 127, 128, 129, 14, 227, 228, 229, 230, 18, 231, 232, 233, 60, 234, 83, 81, 235, 236, 237, 238, 84, 82, 489, 490, 491, 492, 493, 494, 495, 496, 515, 516, 517, 518, 519, 520, 521, 522, 523, 524] (by decide +kernel) (by decide +kernel)) (goodIn_sub (fun _ h => List.mem_append_left _ (List.mem_append_left _ (List.mem_append_right _ h))) (by decide +kernel))
set_option maxRecDepth 20000 in
theorem gL_law_L_ordered : GoodIn wsL_law (va_wsS RL 157 yL_ordered wsL_ordered) := goodIn_app (goodIn_of _ (by decide +kernel)) ggL_law_L_ordered
set_option maxRecDepth 20000 in
theorem ggL_law_X2_ordered : GoodIn wsL_law wsX2_ordered := goodIn_r _ [465, 92, 93, 5, 94, 95, 96, 97, 104, 105, 106, 107, 108, 431, 432, 433, 434, 91, 28, 34, 244, 245, 246, 247, 39, 248, 249, 250, 251, 32, 30, 33, 31, 252, 253, 254, 497, 498, 499, 500, 501, 502, 503, 504, 505, 506, 507, 508, 509, 510, 511, 512, 513, 514] (by decide +kernel) (by decide +kernel)
set_option maxRecDepth 20000 in
theorem gL_law_X2_ordered : GoodIn wsL_law (wsV RL 159 RX2 yX2_ordered wsX2_ordered) := goodIn_app (goodIn_of _ (by decide +kernel)) ggL_law_X2_ordered
set_option maxRecDepth 20000 in
theorem ggL_law_L_kindsAt : GoodIn wsL_law wsL_kindsAt := goodIn_ca (goodIn_ca (goodIn_r _ [468, 46, 47, 469, 470, 471, 2, 472, 53, 54, 55, 56, 15, 281, 217, 67, 68, 69, 64, 65, 66, 70, 71, 72, 126, 127, 128, 129, 14, 282, 283, 284, 60, 285, 77, 473, 447, 448, 449, 81, 83, 296, 297, 237, 298, 290, 291, 292, 82, 84, 489, 490, 491, 492, 493, 494, 495, 496, 515, 516, 517, 518, 519, 520, 521, 522, 523, 524] (by decide +kernel) (by decide +kernel)) (goodIn_sub (fun _ h => List.mem_append_left _ (List.mem_append_left _ (List.mem_append_right _ h))) (by decide +kernel))) (goodIn_sub (fun _ h => List.mem_append_left _ (List.mem_append_right _ h)) (by decide +kernel))
set_option maxRecDepth 20000 in
theorem gL_law_L_kindsAt : GoodIn wsL_law (va_wsS RL 160 yL_kindsAt wsL_kindsAt) := goodIn_app (goodIn_of _ (by decide +kernel)) ggL_law_L_kindsAt
set_option maxRecDepth 20000 in
theorem ggL_law_X2_kindsAt : GoodIn wsL_law wsX2_kindsAt := goodIn_r _ [477, 91, 34, 29, 30, 32, 31, 33, 28, 98, 99, 5, 100, 95, 96, 97, 101, 102, 103, 104, 105, 106, 107, 108, 315, 316, 317, 497, 498, 499, 500, 501, 502, 503, 504, 505, 506, 507, 508, 509, 510, 511, 512, 513, 514] (by decide +kernel) (by decide +kernel)
set_option maxRecDepth 20000 in
theorem gL_law_X2_kindsAt : GoodIn wsL_law (wsV RL 162 RX2 yX2_kindsAt wsX2_kindsAt) := goodIn_app (goodIn_of _ (by decide +kernel)) ggL_law_X2_kindsAt
set_option maxRecDepth 20000 in
theorem ggL_law_L_isLocked : GoodIn wsL_law wsL_isLocked := goodIn_ca (goodIn_r _ [480, 46, 481, 482, 483, 2, 484, 53, 54, 21, 67, 68, 69, 64, 65, 66, 489, 490, 491, 492, 493, 494, 495, 496] (by decide +kernel) (by decide +kernel)) (goodIn_sub (fun _ h => List.mem_append_left _ (List.mem_append_left _ (List.mem_append_right _ h))) (by decide +kernel))
set_option maxRecDepth 20000 in
theorem gL_law_L_isLocked : GoodIn wsL_law (va_wsS RL 163 yL_isLocked wsL_isLocked) := goodIn_app (goodIn_of _ (by decide +kernel)) ggL_law_L_isLocked
set_option maxRecDepth 20000 in
theorem ggL_law_X2_isLocked : GoodIn wsL_law wsX2_isLocked := goodIn_r _ [488, 41, 98, 99, 5, 100, 95, 96, 97, 104, 105, 106, 107, 108, 497, 498, 499, 500, 501, 502, 503, 504, 505, 506, 507, 508, 509, 510, 511, 512, 513, 514] (by decide +kernel) (by decide +kernel)
set_option maxRecDepth 20000 in
theorem gL_law_X2_isLocked : GoodIn wsL_law (wsV RL 165 RX2 yX2_isLocked wsX2_isLocked) := goodIn_app (goodIn_of _ (by decide +kernel)) ggL_law_X2_isLocked
end
section
theorem dL_law_0 : decode cL_law 0 = .ok (.new 8, 3) := by decide +kernel
theorem dL_law_3 : decode cL_law 3 = .ok (.dup, 1) := by decide +kernel
theorem dL_law_4 : decode cL_law 4 = .ok (.invokespecial 83, 3) := by decide +kernel
theorem dL_law_7 : decode cL_law 7 = .ok (.astore_n 1, 1) := by decide +kernel
theorem dL_law_8 : decode cL_law 8 = .ok (.new 84, 3) := by decide +kernel
theorem dL_law_11 : decode cL_law 11 = .ok (.dup, 1) := by decide +kernel
theorem dL_law_12 : decode cL_law 12 = .ok (.invokespecial 86, 3) := by decide +kernel
theorem dL_law_15 : decode cL_law 15 = .ok (.astore_n 2, 1) := by decide +kernel
theorem dL_law_16 : decode cL_law 16 = .ok (.iconst 1, 1) := by decide +kernel
theorem dL_law_17 : decode cL_law 17 = .ok (.newarray .long, 2) := by decide +kernel
theorem dL_law_19 : decode cL_law 19 = .ok (.astore_n 3, 1) := by decide +kernel
theorem dL_law_20 : decode cL_law 20 = .ok (.iconst 0, 1) := by decide +kernel
theorem dL_law_21 : decode cL_law 21 = .ok (.istore 4, 2) := by decide +kernel
theorem dL_law_23 : decode cL_law 23 = .ok (.iload 4, 2) := by decide +kernel
theorem dL_law_25 : decode cL_law 25 = .ok (.aload_n 0, 1) := by decide +kernel
theorem dL_law_26 : decode cL_law 26 = .ok (.arraylength, 1) := by decide +kernel
theorem dL_law_27 : decode cL_law 27 = .ok (.bipush 7, 2) := by decide +kernel
theorem dL_law_29 : decode cL_law 29 = .ok (.isub, 1) := by decide +kernel
theorem dL_law_30 : decode cL_law 30 = .ok (.if_icmp .gt 1557, 3) := by decide +kernel
theorem dL_law_33 : decode cL_law 33 = .ok (.aload_n 0, 1) := by decide +kernel
theorem dL_law_34 : decode cL_law 34 = .ok (.iload 4, 2) := by decide +kernel
theorem dL_law_36 : decode cL_law 36 = .ok (.iaload, 1) := by decide +kernel
theorem dL_law_37 : decode cL_law 37 = .ok (.bipush 31, 2) := by decide +kernel
theorem dL_law_39 : decode cL_law 39 = .ok (.iand, 1) := by decide +kernel
theorem dL_law_40 : decode cL_law 40 = .ok (.tableswitch 1541 0 21 #[104, 222, 333, 420, 500, 568, 636, 692, 748, 811, 874, 930, 943, 956, 1024, 1099, 1155, 1230, 1286, 1342, 1398, 1478], 104) := by decide +kernel
theorem dL_law_144 : decode cL_law 144 = .ok (.aload_n 1, 1) := by decide +kernel
theorem dL_law_145 : decode cL_law 145 = .ok (.aload_n 0, 1) := by decide +kernel
theorem dL_law_146 : decode cL_law 146 = .ok (.iload 4, 2) := by decide +kernel
theorem dL_law_148 : decode cL_law 148 = .ok (.iconst 1, 1) := by decide +kernel
theorem dL_law_149 : decode cL_law 149 = .ok (.iadd, 1) := by decide +kernel
theorem dL_law_150 : decode cL_law 150 = .ok (.iaload, 1) := by decide +kernel
theorem dL_law_151 : decode cL_law 151 = .ok (.aload_n 0, 1) := by decide +kernel
theorem dL_law_152 : decode cL_law 152 = .ok (.iload 4, 2) := by decide +kernel
theorem dL_law_154 : decode cL_law 154 = .ok (.iconst 2, 1) := by decide +kernel
theorem dL_law_155 : decode cL_law 155 = .ok (.iadd, 1) := by decide +kernel
theorem dL_law_156 : decode cL_law 156 = .ok (.iaload, 1) := by decide +kernel
theorem dL_law_157 : decode cL_law 157 = .ok (.aload_n 0, 1) := by decide +kernel
theorem dL_law_158 : decode cL_law 158 = .ok (.iload 4, 2) := by decide +kernel
theorem dL_law_160 : decode cL_law 160 = .ok (.iconst 3, 1) := by decide +kernel
theorem dL_law_161 : decode cL_law 161 = .ok (.iadd, 1) := by decide +kernel
theorem dL_law_162 : decode cL_law 162 = .ok (.iaload, 1) := by decide +kernel
theorem dL_law_163 : decode cL_law 163 = .ok (.aload_n 0, 1) := by decide +kernel
theorem dL_law_164 : decode cL_law 164 = .ok (.iload 4, 2) := by decide +kernel
theorem dL_law_166 : decode cL_law 166 = .ok (.iconst 4, 1) := by decide +kernel
theorem dL_law_167 : decode cL_law 167 = .ok (.iadd, 1) := by decide +kernel
theorem dL_law_168 : decode cL_law 168 = .ok (.iaload, 1) := by decide +kernel
theorem dL_law_169 : decode cL_law 169 = .ok (.aload_n 0, 1) := by decide +kernel
theorem dL_law_170 : decode cL_law 170 = .ok (.iload 4, 2) := by decide +kernel
theorem dL_law_172 : decode cL_law 172 = .ok (.iconst 5, 1) := by decide +kernel
theorem dL_law_173 : decode cL_law 173 = .ok (.iadd, 1) := by decide +kernel
theorem dL_law_174 : decode cL_law 174 = .ok (.iaload, 1) := by decide +kernel
theorem dL_law_175 : decode cL_law 175 = .ok (.aload_n 0, 1) := by decide +kernel
theorem dL_law_176 : decode cL_law 176 = .ok (.iload 4, 2) := by decide +kernel
theorem dL_law_178 : decode cL_law 178 = .ok (.bipush 6, 2) := by decide +kernel
theorem dL_law_180 : decode cL_law 180 = .ok (.iadd, 1) := by decide +kernel
theorem dL_law_181 : decode cL_law 181 = .ok (.iaload, 1) := by decide +kernel
theorem dL_law_182 : decode cL_law 182 = .ok (.aload_n 3, 1) := by decide +kernel
theorem dL_law_183 : decode cL_law 183 = .ok (.invokestatic 87, 3) := by decide +kernel
theorem dL_law_186 : decode cL_law 186 = .ok (.istore 5, 2) := by decide +kernel
theorem dL_law_188 : decode cL_law 188 = .ok (.aload_n 2, 1) := by decide +kernel
theorem dL_law_189 : decode cL_law 189 = .ok (.aload_n 0, 1) := by decide +kernel
theorem dL_law_190 : decode cL_law 190 = .ok (.iload 4, 2) := by decide +kernel
theorem dL_law_192 : decode cL_law 192 = .ok (.iconst 1, 1) := by decide +kernel
theorem dL_law_193 : decode cL_law 193 = .ok (.iadd, 1) := by decide +kernel
theorem dL_law_194 : decode cL_law 194 = .ok (.iaload, 1) := by decide +kernel
theorem dL_law_195 : decode cL_law 195 = .ok (.aload_n 0, 1) := by decide +kernel
theorem dL_law_196 : decode cL_law 196 = .ok (.iload 4, 2) := by decide +kernel
theorem dL_law_198 : decode cL_law 198 = .ok (.iconst 2, 1) := by decide +kernel
theorem dL_law_199 : decode cL_law 199 = .ok (.iadd, 1) := by decide +kernel
theorem dL_law_200 : decode cL_law 200 = .ok (.iaload, 1) := by decide +kernel
theorem dL_law_201 : decode cL_law 201 = .ok (.aload_n 0, 1) := by decide +kernel
theorem dL_law_202 : decode cL_law 202 = .ok (.iload 4, 2) := by decide +kernel
theorem dL_law_204 : decode cL_law 204 = .ok (.iconst 3, 1) := by decide +kernel
theorem dL_law_205 : decode cL_law 205 = .ok (.iadd, 1) := by decide +kernel
theorem dL_law_206 : decode cL_law 206 = .ok (.iaload, 1) := by decide +kernel
theorem dL_law_207 : decode cL_law 207 = .ok (.aload_n 0, 1) := by decide +kernel
theorem dL_law_208 : decode cL_law 208 = .ok (.iload 4, 2) := by decide +kernel
theorem dL_law_210 : decode cL_law 210 = .ok (.iconst 4, 1) := by decide +kernel
theorem dL_law_211 : decode cL_law 211 = .ok (.iadd, 1) := by decide +kernel
theorem dL_law_212 : decode cL_law 212 = .ok (.iaload, 1) := by decide +kernel
theorem dL_law_213 : decode cL_law 213 = .ok (.aload_n 0, 1) := by decide +kernel
theorem dL_law_214 : decode cL_law 214 = .ok (.iload 4, 2) := by decide +kernel
theorem dL_law_216 : decode cL_law 216 = .ok (.iconst 5, 1) := by decide +kernel
theorem dL_law_217 : decode cL_law 217 = .ok (.iadd, 1) := by decide +kernel
theorem dL_law_218 : decode cL_law 218 = .ok (.iaload, 1) := by decide +kernel
theorem dL_law_219 : decode cL_law 219 = .ok (.aload_n 0, 1) := by decide +kernel
theorem dL_law_220 : decode cL_law 220 = .ok (.iload 4, 2) := by decide +kernel
theorem dL_law_222 : decode cL_law 222 = .ok (.bipush 6, 2) := by decide +kernel
theorem dL_law_224 : decode cL_law 224 = .ok (.iadd, 1) := by decide +kernel
theorem dL_law_225 : decode cL_law 225 = .ok (.iaload, 1) := by decide +kernel
theorem dL_law_226 : decode cL_law 226 = .ok (.invokevirtual 92, 3) := by decide +kernel
theorem dL_law_229 : decode cL_law 229 = .ok (.istore 6, 2) := by decide +kernel
theorem dL_law_231 : decode cL_law 231 = .ok (.aload_n 2, 1) := by decide +kernel
theorem dL_law_232 : decode cL_law 232 = .ok (.invokevirtual 93, 3) := by decide +kernel
theorem dL_law_235 : decode cL_law 235 = .ok (.iload 5, 2) := by decide +kernel
theorem dL_law_237 : decode cL_law 237 = .ok (.if_icmp .eq 5, 3) := by decide +kernel
theorem dL_law_240 : decode cL_law 240 = .ok (.iconst 0, 1) := by decide +kernel
theorem dL_law_241 : decode cL_law 241 = .ok (.ireturn, 1) := by decide +kernel
theorem dL_law_242 : decode cL_law 242 = .ok (.iload 5, 2) := by decide +kernel
theorem dL_law_244 : decode cL_law 244 = .ok (.ifCond .ne 15, 3) := by decide +kernel
theorem dL_law_247 : decode cL_law 247 = .ok (.aload_n 3, 1) := by decide +kernel
theorem dL_law_248 : decode cL_law 248 = .ok (.iconst 0, 1) := by decide +kernel
theorem dL_law_249 : decode cL_law 249 = .ok (.laload, 1) := by decide +kernel
theorem dL_law_250 : decode cL_law 250 = .ok (.iload 6, 2) := by decide +kernel
theorem dL_law_252 : decode cL_law 252 = .ok (.i2l, 1) := by decide +kernel
theorem dL_law_253 : decode cL_law 253 = .ok (.lcmp, 1) := by decide +kernel
theorem dL_law_254 : decode cL_law 254 = .ok (.ifCond .eq 5, 3) := by decide +kernel
theorem dL_law_257 : decode cL_law 257 = .ok (.iconst 0, 1) := by decide +kernel
theorem dL_law_258 : decode cL_law 258 = .ok (.ireturn, 1) := by decide +kernel
theorem dL_law_259 : decode cL_law 259 = .ok (.goto 1322, 3) := by decide +kernel
theorem dL_law_262 : decode cL_law 262 = .ok (.aload_n 1, 1) := by decide +kernel
theorem dL_law_263 : decode cL_law 263 = .ok (.aload_n 0, 1) := by decide +kernel
theorem dL_law_264 : decode cL_law 264 = .ok (.iload 4, 2) := by decide +kernel
theorem dL_law_266 : decode cL_law 266 = .ok (.iconst 1, 1) := by decide +kernel
theorem dL_law_267 : decode cL_law 267 = .ok (.iadd, 1) := by decide +kernel
theorem dL_law_268 : decode cL_law 268 = .ok (.iaload, 1) := by decide +kernel
theorem dL_law_269 : decode cL_law 269 = .ok (.aload_n 0, 1) := by decide +kernel
theorem dL_law_270 : decode cL_law 270 = .ok (.iload 4, 2) := by decide +kernel
theorem dL_law_272 : decode cL_law 272 = .ok (.iconst 2, 1) := by decide +kernel
theorem dL_law_273 : decode cL_law 273 = .ok (.iadd, 1) := by decide +kernel
theorem dL_law_274 : decode cL_law 274 = .ok (.iaload, 1) := by decide +kernel
theorem dL_law_275 : decode cL_law 275 = .ok (.aload_n 0, 1) := by decide +kernel
theorem dL_law_276 : decode cL_law 276 = .ok (.iload 4, 2) := by decide +kernel
theorem dL_law_278 : decode cL_law 278 = .ok (.iconst 3, 1) := by decide +kernel
theorem dL_law_279 : decode cL_law 279 = .ok (.iadd, 1) := by decide +kernel
theorem dL_law_280 : decode cL_law 280 = .ok (.iaload, 1) := by decide +kernel
theorem dL_law_281 : decode cL_law 281 = .ok (.aload_n 0, 1) := by decide +kernel
theorem dL_law_282 : decode cL_law 282 = .ok (.iload 4, 2) := by decide +kernel
theorem dL_law_284 : decode cL_law 284 = .ok (.iconst 4, 1) := by decide +kernel
theorem dL_law_285 : decode cL_law 285 = .ok (.iadd, 1) := by decide +kernel
theorem dL_law_286 : decode cL_law 286 = .ok (.iaload, 1) := by decide +kernel
theorem dL_law_287 : decode cL_law 287 = .ok (.aload_n 0, 1) := by decide +kernel
theorem dL_law_288 : decode cL_law 288 = .ok (.iload 4, 2) := by decide +kernel
theorem dL_law_290 : decode cL_law 290 = .ok (.iconst 5, 1) := by decide +kernel
theorem dL_law_291 : decode cL_law 291 = .ok (.iadd, 1) := by decide +kernel
theorem dL_law_292 : decode cL_law 292 = .ok (.iaload, 1) := by decide +kernel
theorem dL_law_293 : decode cL_law 293 = .ok (.aload_n 3, 1) := by decide +kernel
theorem dL_law_294 : decode cL_law 294 = .ok (.invokestatic 97, 3) := by decide +kernel
theorem dL_law_297 : decode cL_law 297 = .ok (.istore 5, 2) := by decide +kernel
theorem dL_law_299 : decode cL_law 299 = .ok (.aload_n 2, 1) := by decide +kernel
theorem dL_law_300 : decode cL_law 300 = .ok (.aload_n 0, 1) := by decide +kernel
theorem dL_law_301 : decode cL_law 301 = .ok (.iload 4, 2) := by decide +kernel
theorem dL_law_303 : decode cL_law 303 = .ok (.iconst 1, 1) := by decide +kernel
theorem dL_law_304 : decode cL_law 304 = .ok (.iadd, 1) := by decide +kernel
theorem dL_law_305 : decode cL_law 305 = .ok (.iaload, 1) := by decide +kernel
theorem dL_law_306 : decode cL_law 306 = .ok (.aload_n 0, 1) := by decide +kernel
theorem dL_law_307 : decode cL_law 307 = .ok (.iload 4, 2) := by decide +kernel
theorem dL_law_309 : decode cL_law 309 = .ok (.iconst 2, 1) := by decide +kernel
theorem dL_law_310 : decode cL_law 310 = .ok (.iadd, 1) := by decide +kernel
theorem dL_law_311 : decode cL_law 311 = .ok (.iaload, 1) := by decide +kernel
theorem dL_law_312 : decode cL_law 312 = .ok (.aload_n 0, 1) := by decide +kernel
theorem dL_law_313 : decode cL_law 313 = .ok (.iload 4, 2) := by decide +kernel
theorem dL_law_315 : decode cL_law 315 = .ok (.iconst 3, 1) := by decide +kernel
theorem dL_law_316 : decode cL_law 316 = .ok (.iadd, 1) := by decide +kernel
theorem dL_law_317 : decode cL_law 317 = .ok (.iaload, 1) := by decide +kernel
theorem dL_law_318 : decode cL_law 318 = .ok (.aload_n 0, 1) := by decide +kernel
theorem dL_law_319 : decode cL_law 319 = .ok (.iload 4, 2) := by decide +kernel
theorem dL_law_321 : decode cL_law 321 = .ok (.iconst 4, 1) := by decide +kernel
theorem dL_law_322 : decode cL_law 322 = .ok (.iadd, 1) := by decide +kernel
theorem dL_law_323 : decode cL_law 323 = .ok (.iaload, 1) := by decide +kernel
theorem dL_law_324 : decode cL_law 324 = .ok (.aload_n 0, 1) := by decide +kernel
theorem dL_law_325 : decode cL_law 325 = .ok (.iload 4, 2) := by decide +kernel
theorem dL_law_327 : decode cL_law 327 = .ok (.iconst 5, 1) := by decide +kernel
theorem dL_law_328 : decode cL_law 328 = .ok (.iadd, 1) := by decide +kernel
theorem dL_law_329 : decode cL_law 329 = .ok (.iaload, 1) := by decide +kernel
theorem dL_law_330 : decode cL_law 330 = .ok (.invokevirtual 100, 3) := by decide +kernel
theorem dL_law_333 : decode cL_law 333 = .ok (.istore 6, 2) := by decide +kernel
theorem dL_law_335 : decode cL_law 335 = .ok (.aload_n 2, 1) := by decide +kernel
theorem dL_law_336 : decode cL_law 336 = .ok (.invokevirtual 93, 3) := by decide +kernel
theorem dL_law_339 : decode cL_law 339 = .ok (.iload 5, 2) := by decide +kernel
theorem dL_law_341 : decode cL_law 341 = .ok (.if_icmp .eq 5, 3) := by decide +kernel
theorem dL_law_344 : decode cL_law 344 = .ok (.iconst 0, 1) := by decide +kernel
theorem dL_law_345 : decode cL_law 345 = .ok (.ireturn, 1) := by decide +kernel
theorem dL_law_346 : decode cL_law 346 = .ok (.iload 5, 2) := by decide +kernel
theorem dL_law_348 : decode cL_law 348 = .ok (.ifCond .ne 22, 3) := by decide +kernel
theorem dL_law_351 : decode cL_law 351 = .ok (.aload_n 3, 1) := by decide +kernel
theorem dL_law_352 : decode cL_law 352 = .ok (.iconst 0, 1) := by decide +kernel
theorem dL_law_353 : decode cL_law 353 = .ok (.laload, 1) := by decide +kernel
theorem dL_law_354 : decode cL_law 354 = .ok (.iload 6, 2) := by decide +kernel
theorem dL_law_356 : decode cL_law 356 = .ok (.ifCond .eq 7, 3) := by decide +kernel
theorem dL_law_359 : decode cL_law 359 = .ok (.lconst 1, 1) := by decide +kernel
theorem dL_law_360 : decode cL_law 360 = .ok (.goto 4, 3) := by decide +kernel
theorem dL_law_363 : decode cL_law 363 = .ok (.lconst 0, 1) := by decide +kernel
theorem dL_law_364 : decode cL_law 364 = .ok (.lcmp, 1) := by decide +kernel
theorem dL_law_365 : decode cL_law 365 = .ok (.ifCond .eq 5, 3) := by decide +kernel
theorem dL_law_368 : decode cL_law 368 = .ok (.iconst 0, 1) := by decide +kernel
theorem dL_law_369 : decode cL_law 369 = .ok (.ireturn, 1) := by decide +kernel
theorem dL_law_370 : decode cL_law 370 = .ok (.goto 1211, 3) := by decide +kernel
theorem dL_law_373 : decode cL_law 373 = .ok (.aload_n 1, 1) := by decide +kernel
theorem dL_law_374 : decode cL_law 374 = .ok (.aload_n 0, 1) := by decide +kernel
theorem dL_law_375 : decode cL_law 375 = .ok (.iload 4, 2) := by decide +kernel
theorem dL_law_377 : decode cL_law 377 = .ok (.iconst 1, 1) := by decide +kernel
theorem dL_law_378 : decode cL_law 378 = .ok (.iadd, 1) := by decide +kernel
theorem dL_law_379 : decode cL_law 379 = .ok (.iaload, 1) := by decide +kernel
theorem dL_law_380 : decode cL_law 380 = .ok (.aload_n 0, 1) := by decide +kernel
theorem dL_law_381 : decode cL_law 381 = .ok (.iload 4, 2) := by decide +kernel
theorem dL_law_383 : decode cL_law 383 = .ok (.iconst 2, 1) := by decide +kernel
theorem dL_law_384 : decode cL_law 384 = .ok (.iadd, 1) := by decide +kernel
theorem dL_law_385 : decode cL_law 385 = .ok (.iaload, 1) := by decide +kernel
theorem dL_law_386 : decode cL_law 386 = .ok (.aload_n 0, 1) := by decide +kernel
theorem dL_law_387 : decode cL_law 387 = .ok (.iload 4, 2) := by decide +kernel
theorem dL_law_389 : decode cL_law 389 = .ok (.iconst 3, 1) := by decide +kernel
theorem dL_law_390 : decode cL_law 390 = .ok (.iadd, 1) := by decide +kernel
theorem dL_law_391 : decode cL_law 391 = .ok (.iaload, 1) := by decide +kernel
theorem dL_law_392 : decode cL_law 392 = .ok (.aload_n 3, 1) := by decide +kernel
theorem dL_law_393 : decode cL_law 393 = .ok (.invokestatic 101, 3) := by decide +kernel
theorem dL_law_396 : decode cL_law 396 = .ok (.istore 5, 2) := by decide +kernel
theorem dL_law_398 : decode cL_law 398 = .ok (.aload_n 2, 1) := by decide +kernel
theorem dL_law_399 : decode cL_law 399 = .ok (.aload_n 0, 1) := by decide +kernel
theorem dL_law_400 : decode cL_law 400 = .ok (.iload 4, 2) := by decide +kernel
theorem dL_law_402 : decode cL_law 402 = .ok (.iconst 1, 1) := by decide +kernel
theorem dL_law_403 : decode cL_law 403 = .ok (.iadd, 1) := by decide +kernel
theorem dL_law_404 : decode cL_law 404 = .ok (.iaload, 1) := by decide +kernel
theorem dL_law_405 : decode cL_law 405 = .ok (.aload_n 0, 1) := by decide +kernel
theorem dL_law_406 : decode cL_law 406 = .ok (.iload 4, 2) := by decide +kernel
theorem dL_law_408 : decode cL_law 408 = .ok (.iconst 2, 1) := by decide +kernel
theorem dL_law_409 : decode cL_law 409 = .ok (.iadd, 1) := by decide +kernel
theorem dL_law_410 : decode cL_law 410 = .ok (.iaload, 1) := by decide +kernel
theorem dL_law_411 : decode cL_law 411 = .ok (.aload_n 0, 1) := by decide +kernel
theorem dL_law_412 : decode cL_law 412 = .ok (.iload 4, 2) := by decide +kernel
theorem dL_law_414 : decode cL_law 414 = .ok (.iconst 3, 1) := by decide +kernel
theorem dL_law_415 : decode cL_law 415 = .ok (.iadd, 1) := by decide +kernel
theorem dL_law_416 : decode cL_law 416 = .ok (.iaload, 1) := by decide +kernel
theorem dL_law_417 : decode cL_law 417 = .ok (.invokevirtual 104, 3) := by decide +kernel
theorem dL_law_420 : decode cL_law 420 = .ok (.istore 6, 2) := by decide +kernel
theorem dL_law_422 : decode cL_law 422 = .ok (.aload_n 2, 1) := by decide +kernel
theorem dL_law_423 : decode cL_law 423 = .ok (.invokevirtual 93, 3) := by decide +kernel
theorem dL_law_426 : decode cL_law 426 = .ok (.iload 5, 2) := by decide +kernel
theorem dL_law_428 : decode cL_law 428 = .ok (.if_icmp .eq 5, 3) := by decide +kernel
theorem dL_law_431 : decode cL_law 431 = .ok (.iconst 0, 1) := by decide +kernel
theorem dL_law_432 : decode cL_law 432 = .ok (.ireturn, 1) := by decide +kernel
theorem dL_law_433 : decode cL_law 433 = .ok (.iload 5, 2) := by decide +kernel
theorem dL_law_435 : decode cL_law 435 = .ok (.ifCond .ne 22, 3) := by decide +kernel
theorem dL_law_438 : decode cL_law 438 = .ok (.aload_n 3, 1) := by decide +kernel
theorem dL_law_439 : decode cL_law 439 = .ok (.iconst 0, 1) := by decide +kernel
theorem dL_law_440 : decode cL_law 440 = .ok (.laload, 1) := by decide +kernel
theorem dL_law_441 : decode cL_law 441 = .ok (.iload 6, 2) := by decide +kernel
theorem dL_law_443 : decode cL_law 443 = .ok (.ifCond .eq 7, 3) := by decide +kernel
theorem dL_law_446 : decode cL_law 446 = .ok (.lconst 1, 1) := by decide +kernel
theorem dL_law_447 : decode cL_law 447 = .ok (.goto 4, 3) := by decide +kernel
theorem dL_law_450 : decode cL_law 450 = .ok (.lconst 0, 1) := by decide +kernel
theorem dL_law_451 : decode cL_law 451 = .ok (.lcmp, 1) := by decide +kernel
theorem dL_law_452 : decode cL_law 452 = .ok (.ifCond .eq 5, 3) := by decide +kernel
theorem dL_law_455 : decode cL_law 455 = .ok (.iconst 0, 1) := by decide +kernel
theorem dL_law_456 : decode cL_law 456 = .ok (.ireturn, 1) := by decide +kernel
theorem dL_law_457 : decode cL_law 457 = .ok (.goto 1124, 3) := by decide +kernel
theorem dL_law_460 : decode cL_law 460 = .ok (.aload_n 1, 1) := by decide +kernel
theorem dL_law_461 : decode cL_law 461 = .ok (.aload_n 0, 1) := by decide +kernel
theorem dL_law_462 : decode cL_law 462 = .ok (.iload 4, 2) := by decide +kernel
theorem dL_law_464 : decode cL_law 464 = .ok (.iconst 1, 1) := by decide +kernel
theorem dL_law_465 : decode cL_law 465 = .ok (.iadd, 1) := by decide +kernel
theorem dL_law_466 : decode cL_law 466 = .ok (.iaload, 1) := by decide +kernel
theorem dL_law_467 : decode cL_law 467 = .ok (.aload_n 0, 1) := by decide +kernel
theorem dL_law_468 : decode cL_law 468 = .ok (.iload 4, 2) := by decide +kernel
theorem dL_law_470 : decode cL_law 470 = .ok (.iconst 2, 1) := by decide +kernel
theorem dL_law_471 : decode cL_law 471 = .ok (.iadd, 1) := by decide +kernel
theorem dL_law_472 : decode cL_law 472 = .ok (.iaload, 1) := by decide +kernel
theorem dL_law_473 : decode cL_law 473 = .ok (.aload_n 0, 1) := by decide +kernel
theorem dL_law_474 : decode cL_law 474 = .ok (.iload 4, 2) := by decide +kernel
theorem dL_law_476 : decode cL_law 476 = .ok (.iconst 3, 1) := by decide +kernel
theorem dL_law_477 : decode cL_law 477 = .ok (.iadd, 1) := by decide +kernel
theorem dL_law_478 : decode cL_law 478 = .ok (.iaload, 1) := by decide +kernel
theorem dL_law_479 : decode cL_law 479 = .ok (.aload_n 3, 1) := by decide +kernel
theorem dL_law_480 : decode cL_law 480 = .ok (.invokestatic 105, 3) := by decide +kernel
theorem dL_law_483 : decode cL_law 483 = .ok (.istore 5, 2) := by decide +kernel
theorem dL_law_485 : decode cL_law 485 = .ok (.aload_n 2, 1) := by decide +kernel
theorem dL_law_486 : decode cL_law 486 = .ok (.aload_n 0, 1) := by decide +kernel
theorem dL_law_487 : decode cL_law 487 = .ok (.iload 4, 2) := by decide +kernel
theorem dL_law_489 : decode cL_law 489 = .ok (.iconst 1, 1) := by decide +kernel
theorem dL_law_490 : decode cL_law 490 = .ok (.iadd, 1) := by decide +kernel
theorem dL_law_491 : decode cL_law 491 = .ok (.iaload, 1) := by decide +kernel
theorem dL_law_492 : decode cL_law 492 = .ok (.aload_n 0, 1) := by decide +kernel
theorem dL_law_493 : decode cL_law 493 = .ok (.iload 4, 2) := by decide +kernel
theorem dL_law_495 : decode cL_law 495 = .ok (.iconst 2, 1) := by decide +kernel
theorem dL_law_496 : decode cL_law 496 = .ok (.iadd, 1) := by decide +kernel
theorem dL_law_497 : decode cL_law 497 = .ok (.iaload, 1) := by decide +kernel
theorem dL_law_498 : decode cL_law 498 = .ok (.aload_n 0, 1) := by decide +kernel
theorem dL_law_499 : decode cL_law 499 = .ok (.iload 4, 2) := by decide +kernel
theorem dL_law_501 : decode cL_law 501 = .ok (.iconst 3, 1) := by decide +kernel
theorem dL_law_502 : decode cL_law 502 = .ok (.iadd, 1) := by decide +kernel
theorem dL_law_503 : decode cL_law 503 = .ok (.iaload, 1) := by decide +kernel
theorem dL_law_504 : decode cL_law 504 = .ok (.invokevirtual 107, 3) := by decide +kernel
theorem dL_law_507 : decode cL_law 507 = .ok (.istore 6, 2) := by decide +kernel
theorem dL_law_509 : decode cL_law 509 = .ok (.aload_n 2, 1) := by decide +kernel
theorem dL_law_510 : decode cL_law 510 = .ok (.invokevirtual 93, 3) := by decide +kernel
theorem dL_law_513 : decode cL_law 513 = .ok (.iload 5, 2) := by decide +kernel
theorem dL_law_515 : decode cL_law 515 = .ok (.if_icmp .eq 5, 3) := by decide +kernel
theorem dL_law_518 : decode cL_law 518 = .ok (.iconst 0, 1) := by decide +kernel
theorem dL_law_519 : decode cL_law 519 = .ok (.ireturn, 1) := by decide +kernel
theorem dL_law_520 : decode cL_law 520 = .ok (.iload 5, 2) := by decide +kernel
theorem dL_law_522 : decode cL_law 522 = .ok (.ifCond .ne 15, 3) := by decide +kernel
theorem dL_law_525 : decode cL_law 525 = .ok (.aload_n 3, 1) := by decide +kernel
theorem dL_law_526 : decode cL_law 526 = .ok (.iconst 0, 1) := by decide +kernel
theorem dL_law_527 : decode cL_law 527 = .ok (.laload, 1) := by decide +kernel
theorem dL_law_528 : decode cL_law 528 = .ok (.iload 6, 2) := by decide +kernel
theorem dL_law_530 : decode cL_law 530 = .ok (.i2l, 1) := by decide +kernel
theorem dL_law_531 : decode cL_law 531 = .ok (.lcmp, 1) := by decide +kernel
theorem dL_law_532 : decode cL_law 532 = .ok (.ifCond .eq 5, 3) := by decide +kernel
theorem dL_law_535 : decode cL_law 535 = .ok (.iconst 0, 1) := by decide +kernel
theorem dL_law_536 : decode cL_law 536 = .ok (.ireturn, 1) := by decide +kernel
theorem dL_law_537 : decode cL_law 537 = .ok (.goto 1044, 3) := by decide +kernel
theorem dL_law_540 : decode cL_law 540 = .ok (.aload_n 1, 1) := by decide +kernel
theorem dL_law_541 : decode cL_law 541 = .ok (.aload_n 0, 1) := by decide +kernel
theorem dL_law_542 : decode cL_law 542 = .ok (.iload 4, 2) := by decide +kernel
theorem dL_law_544 : decode cL_law 544 = .ok (.iconst 1, 1) := by decide +kernel
theorem dL_law_545 : decode cL_law 545 = .ok (.iadd, 1) := by decide +kernel
theorem dL_law_546 : decode cL_law 546 = .ok (.iaload, 1) := by decide +kernel
theorem dL_law_547 : decode cL_law 547 = .ok (.aload_n 0, 1) := by decide +kernel
theorem dL_law_548 : decode cL_law 548 = .ok (.iload 4, 2) := by decide +kernel
theorem dL_law_550 : decode cL_law 550 = .ok (.iconst 2, 1) := by decide +kernel
theorem dL_law_551 : decode cL_law 551 = .ok (.iadd, 1) := by decide +kernel
theorem dL_law_552 : decode cL_law 552 = .ok (.iaload, 1) := by decide +kernel
theorem dL_law_553 : decode cL_law 553 = .ok (.aload_n 3, 1) := by decide +kernel
theorem dL_law_554 : decode cL_law 554 = .ok (.invokestatic 108, 3) := by decide +kernel
theorem dL_law_557 : decode cL_law 557 = .ok (.istore 5, 2) := by decide +kernel
theorem dL_law_559 : decode cL_law 559 = .ok (.aload_n 2, 1) := by decide +kernel
theorem dL_law_560 : decode cL_law 560 = .ok (.aload_n 0, 1) := by decide +kernel
theorem dL_law_561 : decode cL_law 561 = .ok (.iload 4, 2) := by decide +kernel
theorem dL_law_563 : decode cL_law 563 = .ok (.iconst 1, 1) := by decide +kernel
theorem dL_law_564 : decode cL_law 564 = .ok (.iadd, 1) := by decide +kernel
theorem dL_law_565 : decode cL_law 565 = .ok (.iaload, 1) := by decide +kernel
theorem dL_law_566 : decode cL_law 566 = .ok (.aload_n 0, 1) := by decide +kernel
theorem dL_law_567 : decode cL_law 567 = .ok (.iload 4, 2) := by decide +kernel
theorem dL_law_569 : decode cL_law 569 = .ok (.iconst 2, 1) := by decide +kernel
theorem dL_law_570 : decode cL_law 570 = .ok (.iadd, 1) := by decide +kernel
theorem dL_law_571 : decode cL_law 571 = .ok (.iaload, 1) := by decide +kernel
theorem dL_law_572 : decode cL_law 572 = .ok (.invokevirtual 111, 3) := by decide +kernel
theorem dL_law_575 : decode cL_law 575 = .ok (.istore 6, 2) := by decide +kernel
theorem dL_law_577 : decode cL_law 577 = .ok (.aload_n 2, 1) := by decide +kernel
theorem dL_law_578 : decode cL_law 578 = .ok (.invokevirtual 93, 3) := by decide +kernel
theorem dL_law_581 : decode cL_law 581 = .ok (.iload 5, 2) := by decide +kernel
theorem dL_law_583 : decode cL_law 583 = .ok (.if_icmp .eq 5, 3) := by decide +kernel
theorem dL_law_586 : decode cL_law 586 = .ok (.iconst 0, 1) := by decide +kernel
theorem dL_law_587 : decode cL_law 587 = .ok (.ireturn, 1) := by decide +kernel
theorem dL_law_588 : decode cL_law 588 = .ok (.iload 5, 2) := by decide +kernel
theorem dL_law_590 : decode cL_law 590 = .ok (.ifCond .ne 15, 3) := by decide +kernel
theorem dL_law_593 : decode cL_law 593 = .ok (.aload_n 3, 1) := by decide +kernel
theorem dL_law_594 : decode cL_law 594 = .ok (.iconst 0, 1) := by decide +kernel
theorem dL_law_595 : decode cL_law 595 = .ok (.laload, 1) := by decide +kernel
theorem dL_law_596 : decode cL_law 596 = .ok (.iload 6, 2) := by decide +kernel
theorem dL_law_598 : decode cL_law 598 = .ok (.i2l, 1) := by decide +kernel
theorem dL_law_599 : decode cL_law 599 = .ok (.lcmp, 1) := by decide +kernel
theorem dL_law_600 : decode cL_law 600 = .ok (.ifCond .eq 5, 3) := by decide +kernel
theorem dL_law_603 : decode cL_law 603 = .ok (.iconst 0, 1) := by decide +kernel
theorem dL_law_604 : decode cL_law 604 = .ok (.ireturn, 1) := by decide +kernel
theorem dL_law_605 : decode cL_law 605 = .ok (.goto 976, 3) := by decide +kernel
theorem dL_law_608 : decode cL_law 608 = .ok (.aload_n 1, 1) := by decide +kernel
theorem dL_law_609 : decode cL_law 609 = .ok (.aload_n 0, 1) := by decide +kernel
theorem dL_law_610 : decode cL_law 610 = .ok (.iload 4, 2) := by decide +kernel
theorem dL_law_612 : decode cL_law 612 = .ok (.iconst 1, 1) := by decide +kernel
theorem dL_law_613 : decode cL_law 613 = .ok (.iadd, 1) := by decide +kernel
theorem dL_law_614 : decode cL_law 614 = .ok (.iaload, 1) := by decide +kernel
theorem dL_law_615 : decode cL_law 615 = .ok (.aload_n 0, 1) := by decide +kernel
theorem dL_law_616 : decode cL_law 616 = .ok (.iload 4, 2) := by decide +kernel
theorem dL_law_618 : decode cL_law 618 = .ok (.iconst 2, 1) := by decide +kernel
theorem dL_law_619 : decode cL_law 619 = .ok (.iadd, 1) := by decide +kernel
theorem dL_law_620 : decode cL_law 620 = .ok (.iaload, 1) := by decide +kernel
theorem dL_law_621 : decode cL_law 621 = .ok (.aload_n 3, 1) := by decide +kernel
theorem dL_law_622 : decode cL_law 622 = .ok (.invokestatic 112, 3) := by decide +kernel
theorem dL_law_625 : decode cL_law 625 = .ok (.istore 5, 2) := by decide +kernel
theorem dL_law_627 : decode cL_law 627 = .ok (.aload_n 2, 1) := by decide +kernel
theorem dL_law_628 : decode cL_law 628 = .ok (.aload_n 0, 1) := by decide +kernel
theorem dL_law_629 : decode cL_law 629 = .ok (.iload 4, 2) := by decide +kernel
theorem dL_law_631 : decode cL_law 631 = .ok (.iconst 1, 1) := by decide +kernel
theorem dL_law_632 : decode cL_law 632 = .ok (.iadd, 1) := by decide +kernel
theorem dL_law_633 : decode cL_law 633 = .ok (.iaload, 1) := by decide +kernel
theorem dL_law_634 : decode cL_law 634 = .ok (.aload_n 0, 1) := by decide +kernel
theorem dL_law_635 : decode cL_law 635 = .ok (.iload 4, 2) := by decide +kernel
theorem dL_law_637 : decode cL_law 637 = .ok (.iconst 2, 1) := by decide +kernel
theorem dL_law_638 : decode cL_law 638 = .ok (.iadd, 1) := by decide +kernel
theorem dL_law_639 : decode cL_law 639 = .ok (.iaload, 1) := by decide +kernel
theorem dL_law_640 : decode cL_law 640 = .ok (.invokevirtual 114, 3) := by decide +kernel
theorem dL_law_643 : decode cL_law 643 = .ok (.istore 6, 2) := by decide +kernel
theorem dL_law_645 : decode cL_law 645 = .ok (.aload_n 2, 1) := by decide +kernel
theorem dL_law_646 : decode cL_law 646 = .ok (.invokevirtual 93, 3) := by decide +kernel
theorem dL_law_649 : decode cL_law 649 = .ok (.iload 5, 2) := by decide +kernel
theorem dL_law_651 : decode cL_law 651 = .ok (.if_icmp .eq 5, 3) := by decide +kernel
theorem dL_law_654 : decode cL_law 654 = .ok (.iconst 0, 1) := by decide +kernel
theorem dL_law_655 : decode cL_law 655 = .ok (.ireturn, 1) := by decide +kernel
theorem dL_law_656 : decode cL_law 656 = .ok (.iload 5, 2) := by decide +kernel
theorem dL_law_658 : decode cL_law 658 = .ok (.ifCond .ne 15, 3) := by decide +kernel
theorem dL_law_661 : decode cL_law 661 = .ok (.aload_n 3, 1) := by decide +kernel
theorem dL_law_662 : decode cL_law 662 = .ok (.iconst 0, 1) := by decide +kernel
theorem dL_law_663 : decode cL_law 663 = .ok (.laload, 1) := by decide +kernel
theorem dL_law_664 : decode cL_law 664 = .ok (.iload 6, 2) := by decide +kernel
theorem dL_law_666 : decode cL_law 666 = .ok (.i2l, 1) := by decide +kernel
theorem dL_law_667 : decode cL_law 667 = .ok (.lcmp, 1) := by decide +kernel
theorem dL_law_668 : decode cL_law 668 = .ok (.ifCond .eq 5, 3) := by decide +kernel
theorem dL_law_671 : decode cL_law 671 = .ok (.iconst 0, 1) := by decide +kernel
theorem dL_law_672 : decode cL_law 672 = .ok (.ireturn, 1) := by decide +kernel
theorem dL_law_673 : decode cL_law 673 = .ok (.goto 908, 3) := by decide +kernel
theorem dL_law_676 : decode cL_law 676 = .ok (.aload_n 1, 1) := by decide +kernel
theorem dL_law_677 : decode cL_law 677 = .ok (.aload_n 0, 1) := by decide +kernel
theorem dL_law_678 : decode cL_law 678 = .ok (.iload 4, 2) := by decide +kernel
theorem dL_law_680 : decode cL_law 680 = .ok (.iconst 1, 1) := by decide +kernel
theorem dL_law_681 : decode cL_law 681 = .ok (.iadd, 1) := by decide +kernel
theorem dL_law_682 : decode cL_law 682 = .ok (.iaload, 1) := by decide +kernel
theorem dL_law_683 : decode cL_law 683 = .ok (.aload_n 3, 1) := by decide +kernel
theorem dL_law_684 : decode cL_law 684 = .ok (.invokestatic 115, 3) := by decide +kernel
theorem dL_law_687 : decode cL_law 687 = .ok (.istore 5, 2) := by decide +kernel
theorem dL_law_689 : decode cL_law 689 = .ok (.aload_n 2, 1) := by decide +kernel
theorem dL_law_690 : decode cL_law 690 = .ok (.aload_n 0, 1) := by decide +kernel
theorem dL_law_691 : decode cL_law 691 = .ok (.iload 4, 2) := by decide +kernel
theorem dL_law_693 : decode cL_law 693 = .ok (.iconst 1, 1) := by decide +kernel
theorem dL_law_694 : decode cL_law 694 = .ok (.iadd, 1) := by decide +kernel
theorem dL_law_695 : decode cL_law 695 = .ok (.iaload, 1) := by decide +kernel
theorem dL_law_696 : decode cL_law 696 = .ok (.invokevirtual 118, 3) := by decide +kernel
theorem dL_law_699 : decode cL_law 699 = .ok (.istore 6, 2) := by decide +kernel
theorem dL_law_701 : decode cL_law 701 = .ok (.aload_n 2, 1) := by decide +kernel
theorem dL_law_702 : decode cL_law 702 = .ok (.invokevirtual 93, 3) := by decide +kernel
theorem dL_law_705 : decode cL_law 705 = .ok (.iload 5, 2) := by decide +kernel
theorem dL_law_707 : decode cL_law 707 = .ok (.if_icmp .eq 5, 3) := by decide +kernel
theorem dL_law_710 : decode cL_law 710 = .ok (.iconst 0, 1) := by decide +kernel
theorem dL_law_711 : decode cL_law 711 = .ok (.ireturn, 1) := by decide +kernel
theorem dL_law_712 : decode cL_law 712 = .ok (.iload 5, 2) := by decide +kernel
theorem dL_law_714 : decode cL_law 714 = .ok (.ifCond .ne 15, 3) := by decide +kernel
theorem dL_law_717 : decode cL_law 717 = .ok (.aload_n 3, 1) := by decide +kernel
theorem dL_law_718 : decode cL_law 718 = .ok (.iconst 0, 1) := by decide +kernel
theorem dL_law_719 : decode cL_law 719 = .ok (.laload, 1) := by decide +kernel
theorem dL_law_720 : decode cL_law 720 = .ok (.iload 6, 2) := by decide +kernel
theorem dL_law_722 : decode cL_law 722 = .ok (.i2l, 1) := by decide +kernel
theorem dL_law_723 : decode cL_law 723 = .ok (.lcmp, 1) := by decide +kernel
theorem dL_law_724 : decode cL_law 724 = .ok (.ifCond .eq 5, 3) := by decide +kernel
theorem dL_law_727 : decode cL_law 727 = .ok (.iconst 0, 1) := by decide +kernel
theorem dL_law_728 : decode cL_law 728 = .ok (.ireturn, 1) := by decide +kernel
theorem dL_law_729 : decode cL_law 729 = .ok (.goto 852, 3) := by decide +kernel
theorem dL_law_732 : decode cL_law 732 = .ok (.aload_n 1, 1) := by decide +kernel
theorem dL_law_733 : decode cL_law 733 = .ok (.aload_n 0, 1) := by decide +kernel
theorem dL_law_734 : decode cL_law 734 = .ok (.iload 4, 2) := by decide +kernel
theorem dL_law_736 : decode cL_law 736 = .ok (.iconst 1, 1) := by decide +kernel
theorem dL_law_737 : decode cL_law 737 = .ok (.iadd, 1) := by decide +kernel
theorem dL_law_738 : decode cL_law 738 = .ok (.iaload, 1) := by decide +kernel
theorem dL_law_739 : decode cL_law 739 = .ok (.aload_n 3, 1) := by decide +kernel
theorem dL_law_740 : decode cL_law 740 = .ok (.invokestatic 119, 3) := by decide +kernel
theorem dL_law_743 : decode cL_law 743 = .ok (.istore 5, 2) := by decide +kernel
theorem dL_law_745 : decode cL_law 745 = .ok (.aload_n 2, 1) := by decide +kernel
theorem dL_law_746 : decode cL_law 746 = .ok (.aload_n 0, 1) := by decide +kernel
theorem dL_law_747 : decode cL_law 747 = .ok (.iload 4, 2) := by decide +kernel
theorem dL_law_749 : decode cL_law 749 = .ok (.iconst 1, 1) := by decide +kernel
theorem dL_law_750 : decode cL_law 750 = .ok (.iadd, 1) := by decide +kernel
theorem dL_law_751 : decode cL_law 751 = .ok (.iaload, 1) := by decide +kernel
theorem dL_law_752 : decode cL_law 752 = .ok (.invokevirtual 121, 3) := by decide +kernel
theorem dL_law_755 : decode cL_law 755 = .ok (.istore 6, 2) := by decide +kernel
theorem dL_law_757 : decode cL_law 757 = .ok (.aload_n 2, 1) := by decide +kernel
theorem dL_law_758 : decode cL_law 758 = .ok (.invokevirtual 93, 3) := by decide +kernel
theorem dL_law_761 : decode cL_law 761 = .ok (.iload 5, 2) := by decide +kernel
theorem dL_law_763 : decode cL_law 763 = .ok (.if_icmp .eq 5, 3) := by decide +kernel
theorem dL_law_766 : decode cL_law 766 = .ok (.iconst 0, 1) := by decide +kernel
theorem dL_law_767 : decode cL_law 767 = .ok (.ireturn, 1) := by decide +kernel
theorem dL_law_768 : decode cL_law 768 = .ok (.iload 5, 2) := by decide +kernel
theorem dL_law_770 : decode cL_law 770 = .ok (.ifCond .ne 15, 3) := by decide +kernel
theorem dL_law_773 : decode cL_law 773 = .ok (.aload_n 3, 1) := by decide +kernel
theorem dL_law_774 : decode cL_law 774 = .ok (.iconst 0, 1) := by decide +kernel
theorem dL_law_775 : decode cL_law 775 = .ok (.laload, 1) := by decide +kernel
theorem dL_law_776 : decode cL_law 776 = .ok (.iload 6, 2) := by decide +kernel
theorem dL_law_778 : decode cL_law 778 = .ok (.i2l, 1) := by decide +kernel
theorem dL_law_779 : decode cL_law 779 = .ok (.lcmp, 1) := by decide +kernel
theorem dL_law_780 : decode cL_law 780 = .ok (.ifCond .eq 5, 3) := by decide +kernel
theorem dL_law_783 : decode cL_law 783 = .ok (.iconst 0, 1) := by decide +kernel
theorem dL_law_784 : decode cL_law 784 = .ok (.ireturn, 1) := by decide +kernel
theorem dL_law_785 : decode cL_law 785 = .ok (.goto 796, 3) := by decide +kernel
theorem dL_law_788 : decode cL_law 788 = .ok (.aload_n 1, 1) := by decide +kernel
theorem dL_law_789 : decode cL_law 789 = .ok (.aload_n 0, 1) := by decide +kernel
theorem dL_law_790 : decode cL_law 790 = .ok (.iload 4, 2) := by decide +kernel
theorem dL_law_792 : decode cL_law 792 = .ok (.iconst 1, 1) := by decide +kernel
theorem dL_law_793 : decode cL_law 793 = .ok (.iadd, 1) := by decide +kernel
theorem dL_law_794 : decode cL_law 794 = .ok (.iaload, 1) := by decide +kernel
theorem dL_law_795 : decode cL_law 795 = .ok (.aload_n 3, 1) := by decide +kernel
theorem dL_law_796 : decode cL_law 796 = .ok (.invokestatic 122, 3) := by decide +kernel
theorem dL_law_799 : decode cL_law 799 = .ok (.istore 5, 2) := by decide +kernel
theorem dL_law_801 : decode cL_law 801 = .ok (.aload_n 2, 1) := by decide +kernel
theorem dL_law_802 : decode cL_law 802 = .ok (.aload_n 0, 1) := by decide +kernel
theorem dL_law_803 : decode cL_law 803 = .ok (.iload 4, 2) := by decide +kernel
theorem dL_law_805 : decode cL_law 805 = .ok (.iconst 1, 1) := by decide +kernel
theorem dL_law_806 : decode cL_law 806 = .ok (.iadd, 1) := by decide +kernel
theorem dL_law_807 : decode cL_law 807 = .ok (.iaload, 1) := by decide +kernel
theorem dL_law_808 : decode cL_law 808 = .ok (.invokevirtual 124, 3) := by decide +kernel
theorem dL_law_811 : decode cL_law 811 = .ok (.istore 6, 2) := by decide +kernel
theorem dL_law_813 : decode cL_law 813 = .ok (.aload_n 2, 1) := by decide +kernel
theorem dL_law_814 : decode cL_law 814 = .ok (.invokevirtual 93, 3) := by decide +kernel
theorem dL_law_817 : decode cL_law 817 = .ok (.iload 5, 2) := by decide +kernel
theorem dL_law_819 : decode cL_law 819 = .ok (.if_icmp .eq 5, 3) := by decide +kernel
theorem dL_law_822 : decode cL_law 822 = .ok (.iconst 0, 1) := by decide +kernel
theorem dL_law_823 : decode cL_law 823 = .ok (.ireturn, 1) := by decide +kernel
theorem dL_law_824 : decode cL_law 824 = .ok (.iload 5, 2) := by decide +kernel
theorem dL_law_826 : decode cL_law 826 = .ok (.ifCond .ne 22, 3) := by decide +kernel
theorem dL_law_829 : decode cL_law 829 = .ok (.aload_n 3, 1) := by decide +kernel
theorem dL_law_830 : decode cL_law 830 = .ok (.iconst 0, 1) := by decide +kernel
theorem dL_law_831 : decode cL_law 831 = .ok (.laload, 1) := by decide +kernel
theorem dL_law_832 : decode cL_law 832 = .ok (.iload 6, 2) := by decide +kernel
theorem dL_law_834 : decode cL_law 834 = .ok (.ifCond .eq 7, 3) := by decide +kernel
theorem dL_law_837 : decode cL_law 837 = .ok (.lconst 1, 1) := by decide +kernel
theorem dL_law_838 : decode cL_law 838 = .ok (.goto 4, 3) := by decide +kernel
theorem dL_law_841 : decode cL_law 841 = .ok (.lconst 0, 1) := by decide +kernel
theorem dL_law_842 : decode cL_law 842 = .ok (.lcmp, 1) := by decide +kernel
theorem dL_law_843 : decode cL_law 843 = .ok (.ifCond .eq 5, 3) := by decide +kernel
theorem dL_law_846 : decode cL_law 846 = .ok (.iconst 0, 1) := by decide +kernel
theorem dL_law_847 : decode cL_law 847 = .ok (.ireturn, 1) := by decide +kernel
theorem dL_law_848 : decode cL_law 848 = .ok (.goto 733, 3) := by decide +kernel
theorem dL_law_851 : decode cL_law 851 = .ok (.aload_n 1, 1) := by decide +kernel
theorem dL_law_852 : decode cL_law 852 = .ok (.aload_n 0, 1) := by decide +kernel
theorem dL_law_853 : decode cL_law 853 = .ok (.iload 4, 2) := by decide +kernel
theorem dL_law_855 : decode cL_law 855 = .ok (.iconst 1, 1) := by decide +kernel
theorem dL_law_856 : decode cL_law 856 = .ok (.iadd, 1) := by decide +kernel
theorem dL_law_857 : decode cL_law 857 = .ok (.iaload, 1) := by decide +kernel
theorem dL_law_858 : decode cL_law 858 = .ok (.aload_n 3, 1) := by decide +kernel
theorem dL_law_859 : decode cL_law 859 = .ok (.invokestatic 125, 3) := by decide +kernel
theorem dL_law_862 : decode cL_law 862 = .ok (.istore 5, 2) := by decide +kernel
theorem dL_law_864 : decode cL_law 864 = .ok (.aload_n 2, 1) := by decide +kernel
theorem dL_law_865 : decode cL_law 865 = .ok (.aload_n 0, 1) := by decide +kernel
theorem dL_law_866 : decode cL_law 866 = .ok (.iload 4, 2) := by decide +kernel
theorem dL_law_868 : decode cL_law 868 = .ok (.iconst 1, 1) := by decide +kernel
theorem dL_law_869 : decode cL_law 869 = .ok (.iadd, 1) := by decide +kernel
theorem dL_law_870 : decode cL_law 870 = .ok (.iaload, 1) := by decide +kernel
theorem dL_law_871 : decode cL_law 871 = .ok (.invokevirtual 127, 3) := by decide +kernel
theorem dL_law_874 : decode cL_law 874 = .ok (.istore 6, 2) := by decide +kernel
theorem dL_law_876 : decode cL_law 876 = .ok (.aload_n 2, 1) := by decide +kernel
theorem dL_law_877 : decode cL_law 877 = .ok (.invokevirtual 93, 3) := by decide +kernel
theorem dL_law_880 : decode cL_law 880 = .ok (.iload 5, 2) := by decide +kernel
theorem dL_law_882 : decode cL_law 882 = .ok (.if_icmp .eq 5, 3) := by decide +kernel
theorem dL_law_885 : decode cL_law 885 = .ok (.iconst 0, 1) := by decide +kernel
theorem dL_law_886 : decode cL_law 886 = .ok (.ireturn, 1) := by decide +kernel
theorem dL_law_887 : decode cL_law 887 = .ok (.iload 5, 2) := by decide +kernel
theorem dL_law_889 : decode cL_law 889 = .ok (.ifCond .ne 22, 3) := by decide +kernel
theorem dL_law_892 : decode cL_law 892 = .ok (.aload_n 3, 1) := by decide +kernel
theorem dL_law_893 : decode cL_law 893 = .ok (.iconst 0, 1) := by decide +kernel
theorem dL_law_894 : decode cL_law 894 = .ok (.laload, 1) := by decide +kernel
theorem dL_law_895 : decode cL_law 895 = .ok (.iload 6, 2) := by decide +kernel
theorem dL_law_897 : decode cL_law 897 = .ok (.ifCond .eq 7, 3) := by decide +kernel
theorem dL_law_900 : decode cL_law 900 = .ok (.lconst 1, 1) := by decide +kernel
theorem dL_law_901 : decode cL_law 901 = .ok (.goto 4, 3) := by decide +kernel
theorem dL_law_904 : decode cL_law 904 = .ok (.lconst 0, 1) := by decide +kernel
theorem dL_law_905 : decode cL_law 905 = .ok (.lcmp, 1) := by decide +kernel
theorem dL_law_906 : decode cL_law 906 = .ok (.ifCond .eq 5, 3) := by decide +kernel
theorem dL_law_909 : decode cL_law 909 = .ok (.iconst 0, 1) := by decide +kernel
theorem dL_law_910 : decode cL_law 910 = .ok (.ireturn, 1) := by decide +kernel
theorem dL_law_911 : decode cL_law 911 = .ok (.goto 670, 3) := by decide +kernel
theorem dL_law_914 : decode cL_law 914 = .ok (.aload_n 1, 1) := by decide +kernel
theorem dL_law_915 : decode cL_law 915 = .ok (.aload_n 0, 1) := by decide +kernel
theorem dL_law_916 : decode cL_law 916 = .ok (.iload 4, 2) := by decide +kernel
theorem dL_law_918 : decode cL_law 918 = .ok (.iconst 1, 1) := by decide +kernel
theorem dL_law_919 : decode cL_law 919 = .ok (.iadd, 1) := by decide +kernel
theorem dL_law_920 : decode cL_law 920 = .ok (.iaload, 1) := by decide +kernel
theorem dL_law_921 : decode cL_law 921 = .ok (.aload_n 3, 1) := by decide +kernel
theorem dL_law_922 : decode cL_law 922 = .ok (.invokestatic 128, 3) := by decide +kernel
theorem dL_law_925 : decode cL_law 925 = .ok (.istore 5, 2) := by decide +kernel
theorem dL_law_927 : decode cL_law 927 = .ok (.aload_n 2, 1) := by decide +kernel
theorem dL_law_928 : decode cL_law 928 = .ok (.aload_n 0, 1) := by decide +kernel
theorem dL_law_929 : decode cL_law 929 = .ok (.iload 4, 2) := by decide +kernel
theorem dL_law_931 : decode cL_law 931 = .ok (.iconst 1, 1) := by decide +kernel
theorem dL_law_932 : decode cL_law 932 = .ok (.iadd, 1) := by decide +kernel
theorem dL_law_933 : decode cL_law 933 = .ok (.iaload, 1) := by decide +kernel
theorem dL_law_934 : decode cL_law 934 = .ok (.invokevirtual 130, 3) := by decide +kernel
theorem dL_law_937 : decode cL_law 937 = .ok (.istore 6, 2) := by decide +kernel
theorem dL_law_939 : decode cL_law 939 = .ok (.aload_n 2, 1) := by decide +kernel
theorem dL_law_940 : decode cL_law 940 = .ok (.invokevirtual 93, 3) := by decide +kernel
theorem dL_law_943 : decode cL_law 943 = .ok (.iload 5, 2) := by decide +kernel
theorem dL_law_945 : decode cL_law 945 = .ok (.if_icmp .eq 5, 3) := by decide +kernel
theorem dL_law_948 : decode cL_law 948 = .ok (.iconst 0, 1) := by decide +kernel
theorem dL_law_949 : decode cL_law 949 = .ok (.ireturn, 1) := by decide +kernel
theorem dL_law_950 : decode cL_law 950 = .ok (.iload 5, 2) := by decide +kernel
theorem dL_law_952 : decode cL_law 952 = .ok (.ifCond .ne 15, 3) := by decide +kernel
theorem dL_law_955 : decode cL_law 955 = .ok (.aload_n 3, 1) := by decide +kernel
theorem dL_law_956 : decode cL_law 956 = .ok (.iconst 0, 1) := by decide +kernel
theorem dL_law_957 : decode cL_law 957 = .ok (.laload, 1) := by decide +kernel
theorem dL_law_958 : decode cL_law 958 = .ok (.iload 6, 2) := by decide +kernel
theorem dL_law_960 : decode cL_law 960 = .ok (.i2l, 1) := by decide +kernel
theorem dL_law_961 : decode cL_law 961 = .ok (.lcmp, 1) := by decide +kernel
theorem dL_law_962 : decode cL_law 962 = .ok (.ifCond .eq 5, 3) := by decide +kernel
theorem dL_law_965 : decode cL_law 965 = .ok (.iconst 0, 1) := by decide +kernel
theorem dL_law_966 : decode cL_law 966 = .ok (.ireturn, 1) := by decide +kernel
theorem dL_law_967 : decode cL_law 967 = .ok (.goto 614, 3) := by decide +kernel
theorem dL_law_970 : decode cL_law 970 = .ok (.aload_n 1, 1) := by decide +kernel
theorem dL_law_971 : decode cL_law 971 = .ok (.invokevirtual 131, 3) := by decide +kernel
theorem dL_law_974 : decode cL_law 974 = .ok (.aload_n 2, 1) := by decide +kernel
theorem dL_law_975 : decode cL_law 975 = .ok (.invokevirtual 134, 3) := by decide +kernel
theorem dL_law_978 : decode cL_law 978 = .ok (.if_icmp .eq 603, 3) := by decide +kernel
theorem dL_law_981 : decode cL_law 981 = .ok (.iconst 0, 1) := by decide +kernel
theorem dL_law_982 : decode cL_law 982 = .ok (.ireturn, 1) := by decide +kernel
theorem dL_law_983 : decode cL_law 983 = .ok (.aload_n 1, 1) := by decide +kernel
theorem dL_law_984 : decode cL_law 984 = .ok (.invokevirtual 135, 3) := by decide +kernel
theorem dL_law_987 : decode cL_law 987 = .ok (.aload_n 2, 1) := by decide +kernel
theorem dL_law_988 : decode cL_law 988 = .ok (.invokevirtual 138, 3) := by decide +kernel
theorem dL_law_991 : decode cL_law 991 = .ok (.if_icmp .eq 590, 3) := by decide +kernel
theorem dL_law_994 : decode cL_law 994 = .ok (.iconst 0, 1) := by decide +kernel
theorem dL_law_995 : decode cL_law 995 = .ok (.ireturn, 1) := by decide +kernel
theorem dL_law_996 : decode cL_law 996 = .ok (.aload_n 1, 1) := by decide +kernel
theorem dL_law_997 : decode cL_law 997 = .ok (.aload_n 0, 1) := by decide +kernel
theorem dL_law_998 : decode cL_law 998 = .ok (.iload 4, 2) := by decide +kernel
theorem dL_law_1000 : decode cL_law 1000 = .ok (.iconst 1, 1) := by decide +kernel
theorem dL_law_1001 : decode cL_law 1001 = .ok (.iadd, 1) := by decide +kernel
theorem dL_law_1002 : decode cL_law 1002 = .ok (.iaload, 1) := by decide +kernel
theorem dL_law_1003 : decode cL_law 1003 = .ok (.aload_n 0, 1) := by decide +kernel
theorem dL_law_1004 : decode cL_law 1004 = .ok (.iload 4, 2) := by decide +kernel
theorem dL_law_1006 : decode cL_law 1006 = .ok (.iconst 2, 1) := by decide +kernel
theorem dL_law_1007 : decode cL_law 1007 = .ok (.iadd, 1) := by decide +kernel
theorem dL_law_1008 : decode cL_law 1008 = .ok (.iaload, 1) := by decide +kernel
theorem dL_law_1009 : decode cL_law 1009 = .ok (.aload_n 3, 1) := by decide +kernel
theorem dL_law_1010 : decode cL_law 1010 = .ok (.invokestatic 139, 3) := by decide +kernel
theorem dL_law_1013 : decode cL_law 1013 = .ok (.istore 5, 2) := by decide +kernel
theorem dL_law_1015 : decode cL_law 1015 = .ok (.aload_n 2, 1) := by decide +kernel
theorem dL_law_1016 : decode cL_law 1016 = .ok (.aload_n 0, 1) := by decide +kernel
theorem dL_law_1017 : decode cL_law 1017 = .ok (.iload 4, 2) := by decide +kernel
theorem dL_law_1019 : decode cL_law 1019 = .ok (.iconst 1, 1) := by decide +kernel
theorem dL_law_1020 : decode cL_law 1020 = .ok (.iadd, 1) := by decide +kernel
theorem dL_law_1021 : decode cL_law 1021 = .ok (.iaload, 1) := by decide +kernel
theorem dL_law_1022 : decode cL_law 1022 = .ok (.aload_n 0, 1) := by decide +kernel
theorem dL_law_1023 : decode cL_law 1023 = .ok (.iload 4, 2) := by decide +kernel
theorem dL_law_1025 : decode cL_law 1025 = .ok (.iconst 2, 1) := by decide +kernel
theorem dL_law_1026 : decode cL_law 1026 = .ok (.iadd, 1) := by decide +kernel
theorem dL_law_1027 : decode cL_law 1027 = .ok (.iaload, 1) := by decide +kernel
theorem dL_law_1028 : decode cL_law 1028 = .ok (.invokevirtual 141, 3) := by decide +kernel
theorem dL_law_1031 : decode cL_law 1031 = .ok (.istore 6, 2) := by decide +kernel
theorem dL_law_1033 : decode cL_law 1033 = .ok (.aload_n 2, 1) := by decide +kernel
theorem dL_law_1034 : decode cL_law 1034 = .ok (.invokevirtual 93, 3) := by decide +kernel
theorem dL_law_1037 : decode cL_law 1037 = .ok (.iload 5, 2) := by decide +kernel
theorem dL_law_1039 : decode cL_law 1039 = .ok (.if_icmp .eq 5, 3) := by decide +kernel
theorem dL_law_1042 : decode cL_law 1042 = .ok (.iconst 0, 1) := by decide +kernel
theorem dL_law_1043 : decode cL_law 1043 = .ok (.ireturn, 1) := by decide +kernel
theorem dL_law_1044 : decode cL_law 1044 = .ok (.iload 5, 2) := by decide +kernel
theorem dL_law_1046 : decode cL_law 1046 = .ok (.ifCond .ne 15, 3) := by decide +kernel
theorem dL_law_1049 : decode cL_law 1049 = .ok (.aload_n 3, 1) := by decide +kernel
theorem dL_law_1050 : decode cL_law 1050 = .ok (.iconst 0, 1) := by decide +kernel
theorem dL_law_1051 : decode cL_law 1051 = .ok (.laload, 1) := by decide +kernel
theorem dL_law_1052 : decode cL_law 1052 = .ok (.iload 6, 2) := by decide +kernel
theorem dL_law_1054 : decode cL_law 1054 = .ok (.i2l, 1) := by decide +kernel
theorem dL_law_1055 : decode cL_law 1055 = .ok (.lcmp, 1) := by decide +kernel
theorem dL_law_1056 : decode cL_law 1056 = .ok (.ifCond .eq 5, 3) := by decide +kernel
theorem dL_law_1059 : decode cL_law 1059 = .ok (.iconst 0, 1) := by decide +kernel
theorem dL_law_1060 : decode cL_law 1060 = .ok (.ireturn, 1) := by decide +kernel
theorem dL_law_1061 : decode cL_law 1061 = .ok (.goto 520, 3) := by decide +kernel
theorem dL_law_1064 : decode cL_law 1064 = .ok (.aload_n 1, 1) := by decide +kernel
theorem dL_law_1065 : decode cL_law 1065 = .ok (.aload_n 0, 1) := by decide +kernel
theorem dL_law_1066 : decode cL_law 1066 = .ok (.iload 4, 2) := by decide +kernel
theorem dL_law_1068 : decode cL_law 1068 = .ok (.iconst 1, 1) := by decide +kernel
theorem dL_law_1069 : decode cL_law 1069 = .ok (.iadd, 1) := by decide +kernel
theorem dL_law_1070 : decode cL_law 1070 = .ok (.iaload, 1) := by decide +kernel
theorem dL_law_1071 : decode cL_law 1071 = .ok (.aload_n 0, 1) := by decide +kernel
theorem dL_law_1072 : decode cL_law 1072 = .ok (.iload 4, 2) := by decide +kernel
theorem dL_law_1074 : decode cL_law 1074 = .ok (.iconst 2, 1) := by decide +kernel
theorem dL_law_1075 : decode cL_law 1075 = .ok (.iadd, 1) := by decide +kernel
theorem dL_law_1076 : decode cL_law 1076 = .ok (.iaload, 1) := by decide +kernel
theorem dL_law_1077 : decode cL_law 1077 = .ok (.aload_n 3, 1) := by decide +kernel
theorem dL_law_1078 : decode cL_law 1078 = .ok (.invokestatic 142, 3) := by decide +kernel
theorem dL_law_1081 : decode cL_law 1081 = .ok (.istore 5, 2) := by decide +kernel
theorem dL_law_1083 : decode cL_law 1083 = .ok (.aload_n 2, 1) := by decide +kernel
theorem dL_law_1084 : decode cL_law 1084 = .ok (.aload_n 0, 1) := by decide +kernel
theorem dL_law_1085 : decode cL_law 1085 = .ok (.iload 4, 2) := by decide +kernel
theorem dL_law_1087 : decode cL_law 1087 = .ok (.iconst 1, 1) := by decide +kernel
theorem dL_law_1088 : decode cL_law 1088 = .ok (.iadd, 1) := by decide +kernel
theorem dL_law_1089 : decode cL_law 1089 = .ok (.iaload, 1) := by decide +kernel
theorem dL_law_1090 : decode cL_law 1090 = .ok (.aload_n 0, 1) := by decide +kernel
theorem dL_law_1091 : decode cL_law 1091 = .ok (.iload 4, 2) := by decide +kernel
theorem dL_law_1093 : decode cL_law 1093 = .ok (.iconst 2, 1) := by decide +kernel
theorem dL_law_1094 : decode cL_law 1094 = .ok (.iadd, 1) := by decide +kernel
theorem dL_law_1095 : decode cL_law 1095 = .ok (.iaload, 1) := by decide +kernel
theorem dL_law_1096 : decode cL_law 1096 = .ok (.invokevirtual 144, 3) := by decide +kernel
theorem dL_law_1099 : decode cL_law 1099 = .ok (.istore 6, 2) := by decide +kernel
theorem dL_law_1101 : decode cL_law 1101 = .ok (.aload_n 2, 1) := by decide +kernel
theorem dL_law_1102 : decode cL_law 1102 = .ok (.invokevirtual 93, 3) := by decide +kernel
theorem dL_law_1105 : decode cL_law 1105 = .ok (.iload 5, 2) := by decide +kernel
theorem dL_law_1107 : decode cL_law 1107 = .ok (.if_icmp .eq 5, 3) := by decide +kernel
theorem dL_law_1110 : decode cL_law 1110 = .ok (.iconst 0, 1) := by decide +kernel
theorem dL_law_1111 : decode cL_law 1111 = .ok (.ireturn, 1) := by decide +kernel
theorem dL_law_1112 : decode cL_law 1112 = .ok (.iload 5, 2) := by decide +kernel
theorem dL_law_1114 : decode cL_law 1114 = .ok (.ifCond .ne 22, 3) := by decide +kernel
theorem dL_law_1117 : decode cL_law 1117 = .ok (.aload_n 3, 1) := by decide +kernel
theorem dL_law_1118 : decode cL_law 1118 = .ok (.iconst 0, 1) := by decide +kernel
theorem dL_law_1119 : decode cL_law 1119 = .ok (.laload, 1) := by decide +kernel
theorem dL_law_1120 : decode cL_law 1120 = .ok (.iload 6, 2) := by decide +kernel
theorem dL_law_1122 : decode cL_law 1122 = .ok (.ifCond .eq 7, 3) := by decide +kernel
theorem dL_law_1125 : decode cL_law 1125 = .ok (.lconst 1, 1) := by decide +kernel
theorem dL_law_1126 : decode cL_law 1126 = .ok (.goto 4, 3) := by decide +kernel
theorem dL_law_1129 : decode cL_law 1129 = .ok (.lconst 0, 1) := by decide +kernel
theorem dL_law_1130 : decode cL_law 1130 = .ok (.lcmp, 1) := by decide +kernel
theorem dL_law_1131 : decode cL_law 1131 = .ok (.ifCond .eq 5, 3) := by decide +kernel
theorem dL_law_1134 : decode cL_law 1134 = .ok (.iconst 0, 1) := by decide +kernel
theorem dL_law_1135 : decode cL_law 1135 = .ok (.ireturn, 1) := by decide +kernel
theorem dL_law_1136 : decode cL_law 1136 = .ok (.goto 445, 3) := by decide +kernel
theorem dL_law_1139 : decode cL_law 1139 = .ok (.aload_n 1, 1) := by decide +kernel
theorem dL_law_1140 : decode cL_law 1140 = .ok (.aload_n 0, 1) := by decide +kernel
theorem dL_law_1141 : decode cL_law 1141 = .ok (.iload 4, 2) := by decide +kernel
theorem dL_law_1143 : decode cL_law 1143 = .ok (.iconst 1, 1) := by decide +kernel
theorem dL_law_1144 : decode cL_law 1144 = .ok (.iadd, 1) := by decide +kernel
theorem dL_law_1145 : decode cL_law 1145 = .ok (.iaload, 1) := by decide +kernel
theorem dL_law_1146 : decode cL_law 1146 = .ok (.aload_n 3, 1) := by decide +kernel
theorem dL_law_1147 : decode cL_law 1147 = .ok (.invokestatic 145, 3) := by decide +kernel
theorem dL_law_1150 : decode cL_law 1150 = .ok (.istore 5, 2) := by decide +kernel
theorem dL_law_1152 : decode cL_law 1152 = .ok (.aload_n 2, 1) := by decide +kernel
theorem dL_law_1153 : decode cL_law 1153 = .ok (.aload_n 0, 1) := by decide +kernel
theorem dL_law_1154 : decode cL_law 1154 = .ok (.iload 4, 2) := by decide +kernel
theorem dL_law_1156 : decode cL_law 1156 = .ok (.iconst 1, 1) := by decide +kernel
theorem dL_law_1157 : decode cL_law 1157 = .ok (.iadd, 1) := by decide +kernel
theorem dL_law_1158 : decode cL_law 1158 = .ok (.iaload, 1) := by decide +kernel
theorem dL_law_1159 : decode cL_law 1159 = .ok (.invokevirtual 147, 3) := by decide +kernel
theorem dL_law_1162 : decode cL_law 1162 = .ok (.istore 6, 2) := by decide +kernel
theorem dL_law_1164 : decode cL_law 1164 = .ok (.aload_n 2, 1) := by decide +kernel
theorem dL_law_1165 : decode cL_law 1165 = .ok (.invokevirtual 93, 3) := by decide +kernel
theorem dL_law_1168 : decode cL_law 1168 = .ok (.iload 5, 2) := by decide +kernel
theorem dL_law_1170 : decode cL_law 1170 = .ok (.if_icmp .eq 5, 3) := by decide +kernel
theorem dL_law_1173 : decode cL_law 1173 = .ok (.iconst 0, 1) := by decide +kernel
theorem dL_law_1174 : decode cL_law 1174 = .ok (.ireturn, 1) := by decide +kernel
theorem dL_law_1175 : decode cL_law 1175 = .ok (.iload 5, 2) := by decide +kernel
theorem dL_law_1177 : decode cL_law 1177 = .ok (.ifCond .ne 15, 3) := by decide +kernel
theorem dL_law_1180 : decode cL_law 1180 = .ok (.aload_n 3, 1) := by decide +kernel
theorem dL_law_1181 : decode cL_law 1181 = .ok (.iconst 0, 1) := by decide +kernel
theorem dL_law_1182 : decode cL_law 1182 = .ok (.laload, 1) := by decide +kernel
theorem dL_law_1183 : decode cL_law 1183 = .ok (.iload 6, 2) := by decide +kernel
theorem dL_law_1185 : decode cL_law 1185 = .ok (.i2l, 1) := by decide +kernel
theorem dL_law_1186 : decode cL_law 1186 = .ok (.lcmp, 1) := by decide +kernel
theorem dL_law_1187 : decode cL_law 1187 = .ok (.ifCond .eq 5, 3) := by decide +kernel
theorem dL_law_1190 : decode cL_law 1190 = .ok (.iconst 0, 1) := by decide +kernel
theorem dL_law_1191 : decode cL_law 1191 = .ok (.ireturn, 1) := by decide +kernel
theorem dL_law_1192 : decode cL_law 1192 = .ok (.goto 389, 3) := by decide +kernel
theorem dL_law_1195 : decode cL_law 1195 = .ok (.aload_n 1, 1) := by decide +kernel
theorem dL_law_1196 : decode cL_law 1196 = .ok (.aload_n 0, 1) := by decide +kernel
theorem dL_law_1197 : decode cL_law 1197 = .ok (.iload 4, 2) := by decide +kernel
theorem dL_law_1199 : decode cL_law 1199 = .ok (.iconst 1, 1) := by decide +kernel
theorem dL_law_1200 : decode cL_law 1200 = .ok (.iadd, 1) := by decide +kernel
theorem dL_law_1201 : decode cL_law 1201 = .ok (.iaload, 1) := by decide +kernel
theorem dL_law_1202 : decode cL_law 1202 = .ok (.aload_n 0, 1) := by decide +kernel
theorem dL_law_1203 : decode cL_law 1203 = .ok (.iload 4, 2) := by decide +kernel
theorem dL_law_1205 : decode cL_law 1205 = .ok (.iconst 2, 1) := by decide +kernel
theorem dL_law_1206 : decode cL_law 1206 = .ok (.iadd, 1) := by decide +kernel
theorem dL_law_1207 : decode cL_law 1207 = .ok (.iaload, 1) := by decide +kernel
theorem dL_law_1208 : decode cL_law 1208 = .ok (.aload_n 3, 1) := by decide +kernel
theorem dL_law_1209 : decode cL_law 1209 = .ok (.invokestatic 148, 3) := by decide +kernel
theorem dL_law_1212 : decode cL_law 1212 = .ok (.istore 5, 2) := by decide +kernel
theorem dL_law_1214 : decode cL_law 1214 = .ok (.aload_n 2, 1) := by decide +kernel
theorem dL_law_1215 : decode cL_law 1215 = .ok (.aload_n 0, 1) := by decide +kernel
theorem dL_law_1216 : decode cL_law 1216 = .ok (.iload 4, 2) := by decide +kernel
theorem dL_law_1218 : decode cL_law 1218 = .ok (.iconst 1, 1) := by decide +kernel
theorem dL_law_1219 : decode cL_law 1219 = .ok (.iadd, 1) := by decide +kernel
theorem dL_law_1220 : decode cL_law 1220 = .ok (.iaload, 1) := by decide +kernel
theorem dL_law_1221 : decode cL_law 1221 = .ok (.aload_n 0, 1) := by decide +kernel
theorem dL_law_1222 : decode cL_law 1222 = .ok (.iload 4, 2) := by decide +kernel
theorem dL_law_1224 : decode cL_law 1224 = .ok (.iconst 2, 1) := by decide +kernel
theorem dL_law_1225 : decode cL_law 1225 = .ok (.iadd, 1) := by decide +kernel
theorem dL_law_1226 : decode cL_law 1226 = .ok (.iaload, 1) := by decide +kernel
theorem dL_law_1227 : decode cL_law 1227 = .ok (.invokevirtual 150, 3) := by decide +kernel
theorem dL_law_1230 : decode cL_law 1230 = .ok (.istore 6, 2) := by decide +kernel
theorem dL_law_1232 : decode cL_law 1232 = .ok (.aload_n 2, 1) := by decide +kernel
theorem dL_law_1233 : decode cL_law 1233 = .ok (.invokevirtual 93, 3) := by decide +kernel
theorem dL_law_1236 : decode cL_law 1236 = .ok (.iload 5, 2) := by decide +kernel
theorem dL_law_1238 : decode cL_law 1238 = .ok (.if_icmp .eq 5, 3) := by decide +kernel
theorem dL_law_1241 : decode cL_law 1241 = .ok (.iconst 0, 1) := by decide +kernel
theorem dL_law_1242 : decode cL_law 1242 = .ok (.ireturn, 1) := by decide +kernel
theorem dL_law_1243 : decode cL_law 1243 = .ok (.iload 5, 2) := by decide +kernel
theorem dL_law_1245 : decode cL_law 1245 = .ok (.ifCond .ne 22, 3) := by decide +kernel
theorem dL_law_1248 : decode cL_law 1248 = .ok (.aload_n 3, 1) := by decide +kernel
theorem dL_law_1249 : decode cL_law 1249 = .ok (.iconst 0, 1) := by decide +kernel
theorem dL_law_1250 : decode cL_law 1250 = .ok (.laload, 1) := by decide +kernel
theorem dL_law_1251 : decode cL_law 1251 = .ok (.iload 6, 2) := by decide +kernel
theorem dL_law_1253 : decode cL_law 1253 = .ok (.ifCond .eq 7, 3) := by decide +kernel
theorem dL_law_1256 : decode cL_law 1256 = .ok (.lconst 1, 1) := by decide +kernel
theorem dL_law_1257 : decode cL_law 1257 = .ok (.goto 4, 3) := by decide +kernel
theorem dL_law_1260 : decode cL_law 1260 = .ok (.lconst 0, 1) := by decide +kernel
theorem dL_law_1261 : decode cL_law 1261 = .ok (.lcmp, 1) := by decide +kernel
theorem dL_law_1262 : decode cL_law 1262 = .ok (.ifCond .eq 5, 3) := by decide +kernel
theorem dL_law_1265 : decode cL_law 1265 = .ok (.iconst 0, 1) := by decide +kernel
theorem dL_law_1266 : decode cL_law 1266 = .ok (.ireturn, 1) := by decide +kernel
theorem dL_law_1267 : decode cL_law 1267 = .ok (.goto 314, 3) := by decide +kernel
theorem dL_law_1270 : decode cL_law 1270 = .ok (.aload_n 1, 1) := by decide +kernel
theorem dL_law_1271 : decode cL_law 1271 = .ok (.aload_n 0, 1) := by decide +kernel
theorem dL_law_1272 : decode cL_law 1272 = .ok (.iload 4, 2) := by decide +kernel
theorem dL_law_1274 : decode cL_law 1274 = .ok (.iconst 1, 1) := by decide +kernel
theorem dL_law_1275 : decode cL_law 1275 = .ok (.iadd, 1) := by decide +kernel
theorem dL_law_1276 : decode cL_law 1276 = .ok (.iaload, 1) := by decide +kernel
theorem dL_law_1277 : decode cL_law 1277 = .ok (.aload_n 3, 1) := by decide +kernel
theorem dL_law_1278 : decode cL_law 1278 = .ok (.invokestatic 151, 3) := by decide +kernel
theorem dL_law_1281 : decode cL_law 1281 = .ok (.istore 5, 2) := by decide +kernel
theorem dL_law_1283 : decode cL_law 1283 = .ok (.aload_n 2, 1) := by decide +kernel
theorem dL_law_1284 : decode cL_law 1284 = .ok (.aload_n 0, 1) := by decide +kernel
theorem dL_law_1285 : decode cL_law 1285 = .ok (.iload 4, 2) := by decide +kernel
theorem dL_law_1287 : decode cL_law 1287 = .ok (.iconst 1, 1) := by decide +kernel
theorem dL_law_1288 : decode cL_law 1288 = .ok (.iadd, 1) := by decide +kernel
theorem dL_law_1289 : decode cL_law 1289 = .ok (.iaload, 1) := by decide +kernel
theorem dL_law_1290 : decode cL_law 1290 = .ok (.invokevirtual 153, 3) := by decide +kernel
theorem dL_law_1293 : decode cL_law 1293 = .ok (.istore 6, 2) := by decide +kernel
theorem dL_law_1295 : decode cL_law 1295 = .ok (.aload_n 2, 1) := by decide +kernel
theorem dL_law_1296 : decode cL_law 1296 = .ok (.invokevirtual 93, 3) := by decide +kernel
theorem dL_law_1299 : decode cL_law 1299 = .ok (.iload 5, 2) := by decide +kernel
theorem dL_law_1301 : decode cL_law 1301 = .ok (.if_icmp .eq 5, 3) := by decide +kernel
theorem dL_law_1304 : decode cL_law 1304 = .ok (.iconst 0, 1) := by decide +kernel
theorem dL_law_1305 : decode cL_law 1305 = .ok (.ireturn, 1) := by decide +kernel
theorem dL_law_1306 : decode cL_law 1306 = .ok (.iload 5, 2) := by decide +kernel
theorem dL_law_1308 : decode cL_law 1308 = .ok (.ifCond .ne 15, 3) := by decide +kernel
theorem dL_law_1311 : decode cL_law 1311 = .ok (.aload_n 3, 1) := by decide +kernel
theorem dL_law_1312 : decode cL_law 1312 = .ok (.iconst 0, 1) := by decide +kernel
theorem dL_law_1313 : decode cL_law 1313 = .ok (.laload, 1) := by decide +kernel
theorem dL_law_1314 : decode cL_law 1314 = .ok (.iload 6, 2) := by decide +kernel
theorem dL_law_1316 : decode cL_law 1316 = .ok (.i2l, 1) := by decide +kernel
theorem dL_law_1317 : decode cL_law 1317 = .ok (.lcmp, 1) := by decide +kernel
theorem dL_law_1318 : decode cL_law 1318 = .ok (.ifCond .eq 5, 3) := by decide +kernel
theorem dL_law_1321 : decode cL_law 1321 = .ok (.iconst 0, 1) := by decide +kernel
theorem dL_law_1322 : decode cL_law 1322 = .ok (.ireturn, 1) := by decide +kernel
theorem dL_law_1323 : decode cL_law 1323 = .ok (.goto 258, 3) := by decide +kernel
theorem dL_law_1326 : decode cL_law 1326 = .ok (.aload_n 1, 1) := by decide +kernel
theorem dL_law_1327 : decode cL_law 1327 = .ok (.aload_n 0, 1) := by decide +kernel
theorem dL_law_1328 : decode cL_law 1328 = .ok (.iload 4, 2) := by decide +kernel
theorem dL_law_1330 : decode cL_law 1330 = .ok (.iconst 1, 1) := by decide +kernel
theorem dL_law_1331 : decode cL_law 1331 = .ok (.iadd, 1) := by decide +kernel
theorem dL_law_1332 : decode cL_law 1332 = .ok (.iaload, 1) := by decide +kernel
theorem dL_law_1333 : decode cL_law 1333 = .ok (.aload_n 3, 1) := by decide +kernel
theorem dL_law_1334 : decode cL_law 1334 = .ok (.invokestatic 154, 3) := by decide +kernel
theorem dL_law_1337 : decode cL_law 1337 = .ok (.istore 5, 2) := by decide +kernel
theorem dL_law_1339 : decode cL_law 1339 = .ok (.aload_n 2, 1) := by decide +kernel
theorem dL_law_1340 : decode cL_law 1340 = .ok (.aload_n 0, 1) := by decide +kernel
theorem dL_law_1341 : decode cL_law 1341 = .ok (.iload 4, 2) := by decide +kernel
theorem dL_law_1343 : decode cL_law 1343 = .ok (.iconst 1, 1) := by decide +kernel
theorem dL_law_1344 : decode cL_law 1344 = .ok (.iadd, 1) := by decide +kernel
theorem dL_law_1345 : decode cL_law 1345 = .ok (.iaload, 1) := by decide +kernel
theorem dL_law_1346 : decode cL_law 1346 = .ok (.invokevirtual 156, 3) := by decide +kernel
theorem dL_law_1349 : decode cL_law 1349 = .ok (.istore 6, 2) := by decide +kernel
theorem dL_law_1351 : decode cL_law 1351 = .ok (.aload_n 2, 1) := by decide +kernel
theorem dL_law_1352 : decode cL_law 1352 = .ok (.invokevirtual 93, 3) := by decide +kernel
theorem dL_law_1355 : decode cL_law 1355 = .ok (.iload 5, 2) := by decide +kernel
theorem dL_law_1357 : decode cL_law 1357 = .ok (.if_icmp .eq 5, 3) := by decide +kernel
theorem dL_law_1360 : decode cL_law 1360 = .ok (.iconst 0, 1) := by decide +kernel
theorem dL_law_1361 : decode cL_law 1361 = .ok (.ireturn, 1) := by decide +kernel
theorem dL_law_1362 : decode cL_law 1362 = .ok (.iload 5, 2) := by decide +kernel
theorem dL_law_1364 : decode cL_law 1364 = .ok (.ifCond .ne 15, 3) := by decide +kernel
theorem dL_law_1367 : decode cL_law 1367 = .ok (.aload_n 3, 1) := by decide +kernel
theorem dL_law_1368 : decode cL_law 1368 = .ok (.iconst 0, 1) := by decide +kernel
theorem dL_law_1369 : decode cL_law 1369 = .ok (.laload, 1) := by decide +kernel
theorem dL_law_1370 : decode cL_law 1370 = .ok (.iload 6, 2) := by decide +kernel
theorem dL_law_1372 : decode cL_law 1372 = .ok (.i2l, 1) := by decide +kernel
theorem dL_law_1373 : decode cL_law 1373 = .ok (.lcmp, 1) := by decide +kernel
theorem dL_law_1374 : decode cL_law 1374 = .ok (.ifCond .eq 5, 3) := by decide +kernel
theorem dL_law_1377 : decode cL_law 1377 = .ok (.iconst 0, 1) := by decide +kernel
theorem dL_law_1378 : decode cL_law 1378 = .ok (.ireturn, 1) := by decide +kernel
theorem dL_law_1379 : decode cL_law 1379 = .ok (.goto 202, 3) := by decide +kernel
theorem dL_law_1382 : decode cL_law 1382 = .ok (.aload_n 1, 1) := by decide +kernel
theorem dL_law_1383 : decode cL_law 1383 = .ok (.aload_n 0, 1) := by decide +kernel
theorem dL_law_1384 : decode cL_law 1384 = .ok (.iload 4, 2) := by decide +kernel
theorem dL_law_1386 : decode cL_law 1386 = .ok (.iconst 1, 1) := by decide +kernel
theorem dL_law_1387 : decode cL_law 1387 = .ok (.iadd, 1) := by decide +kernel
theorem dL_law_1388 : decode cL_law 1388 = .ok (.iaload, 1) := by decide +kernel
theorem dL_law_1389 : decode cL_law 1389 = .ok (.aload_n 3, 1) := by decide +kernel
theorem dL_law_1390 : decode cL_law 1390 = .ok (.invokestatic 157, 3) := by decide +kernel
theorem dL_law_1393 : decode cL_law 1393 = .ok (.istore 5, 2) := by decide +kernel
theorem dL_law_1395 : decode cL_law 1395 = .ok (.aload_n 2, 1) := by decide +kernel
theorem dL_law_1396 : decode cL_law 1396 = .ok (.aload_n 0, 1) := by decide +kernel
theorem dL_law_1397 : decode cL_law 1397 = .ok (.iload 4, 2) := by decide +kernel
theorem dL_law_1399 : decode cL_law 1399 = .ok (.iconst 1, 1) := by decide +kernel
theorem dL_law_1400 : decode cL_law 1400 = .ok (.iadd, 1) := by decide +kernel
theorem dL_law_1401 : decode cL_law 1401 = .ok (.iaload, 1) := by decide +kernel
theorem dL_law_1402 : decode cL_law 1402 = .ok (.invokevirtual 159, 3) := by decide +kernel
theorem dL_law_1405 : decode cL_law 1405 = .ok (.istore 6, 2) := by decide +kernel
theorem dL_law_1407 : decode cL_law 1407 = .ok (.aload_n 2, 1) := by decide +kernel
theorem dL_law_1408 : decode cL_law 1408 = .ok (.invokevirtual 93, 3) := by decide +kernel
theorem dL_law_1411 : decode cL_law 1411 = .ok (.iload 5, 2) := by decide +kernel
theorem dL_law_1413 : decode cL_law 1413 = .ok (.if_icmp .eq 5, 3) := by decide +kernel
theorem dL_law_1416 : decode cL_law 1416 = .ok (.iconst 0, 1) := by decide +kernel
theorem dL_law_1417 : decode cL_law 1417 = .ok (.ireturn, 1) := by decide +kernel
theorem dL_law_1418 : decode cL_law 1418 = .ok (.iload 5, 2) := by decide +kernel
theorem dL_law_1420 : decode cL_law 1420 = .ok (.ifCond .ne 15, 3) := by decide +kernel
theorem dL_law_1423 : decode cL_law 1423 = .ok (.aload_n 3, 1) := by decide +kernel
theorem dL_law_1424 : decode cL_law 1424 = .ok (.iconst 0, 1) := by decide +kernel
theorem dL_law_1425 : decode cL_law 1425 = .ok (.laload, 1) := by decide +kernel
theorem dL_law_1426 : decode cL_law 1426 = .ok (.iload 6, 2) := by decide +kernel
theorem dL_law_1428 : decode cL_law 1428 = .ok (.i2l, 1) := by decide +kernel
theorem dL_law_1429 : decode cL_law 1429 = .ok (.lcmp, 1) := by decide +kernel
theorem dL_law_1430 : decode cL_law 1430 = .ok (.ifCond .eq 5, 3) := by decide +kernel
theorem dL_law_1433 : decode cL_law 1433 = .ok (.iconst 0, 1) := by decide +kernel
theorem dL_law_1434 : decode cL_law 1434 = .ok (.ireturn, 1) := by decide +kernel
theorem dL_law_1435 : decode cL_law 1435 = .ok (.goto 146, 3) := by decide +kernel
theorem dL_law_1438 : decode cL_law 1438 = .ok (.aload_n 1, 1) := by decide +kernel
theorem dL_law_1439 : decode cL_law 1439 = .ok (.aload_n 0, 1) := by decide +kernel
theorem dL_law_1440 : decode cL_law 1440 = .ok (.iload 4, 2) := by decide +kernel
theorem dL_law_1442 : decode cL_law 1442 = .ok (.iconst 1, 1) := by decide +kernel
theorem dL_law_1443 : decode cL_law 1443 = .ok (.iadd, 1) := by decide +kernel
theorem dL_law_1444 : decode cL_law 1444 = .ok (.iaload, 1) := by decide +kernel
theorem dL_law_1445 : decode cL_law 1445 = .ok (.aload_n 0, 1) := by decide +kernel
theorem dL_law_1446 : decode cL_law 1446 = .ok (.iload 4, 2) := by decide +kernel
theorem dL_law_1448 : decode cL_law 1448 = .ok (.iconst 2, 1) := by decide +kernel
theorem dL_law_1449 : decode cL_law 1449 = .ok (.iadd, 1) := by decide +kernel
theorem dL_law_1450 : decode cL_law 1450 = .ok (.iaload, 1) := by decide +kernel
theorem dL_law_1451 : decode cL_law 1451 = .ok (.aload_n 0, 1) := by decide +kernel
theorem dL_law_1452 : decode cL_law 1452 = .ok (.iload 4, 2) := by decide +kernel
theorem dL_law_1454 : decode cL_law 1454 = .ok (.iconst 3, 1) := by decide +kernel
theorem dL_law_1455 : decode cL_law 1455 = .ok (.iadd, 1) := by decide +kernel
theorem dL_law_1456 : decode cL_law 1456 = .ok (.iaload, 1) := by decide +kernel
theorem dL_law_1457 : decode cL_law 1457 = .ok (.aload_n 3, 1) := by decide +kernel
theorem dL_law_1458 : decode cL_law 1458 = .ok (.invokestatic 160, 3) := by decide +kernel
theorem dL_law_1461 : decode cL_law 1461 = .ok (.istore 5, 2) := by decide +kernel
theorem dL_law_1463 : decode cL_law 1463 = .ok (.aload_n 2, 1) := by decide +kernel
theorem dL_law_1464 : decode cL_law 1464 = .ok (.aload_n 0, 1) := by decide +kernel
theorem dL_law_1465 : decode cL_law 1465 = .ok (.iload 4, 2) := by decide +kernel
theorem dL_law_1467 : decode cL_law 1467 = .ok (.iconst 1, 1) := by decide +kernel
theorem dL_law_1468 : decode cL_law 1468 = .ok (.iadd, 1) := by decide +kernel
theorem dL_law_1469 : decode cL_law 1469 = .ok (.iaload, 1) := by decide +kernel
theorem dL_law_1470 : decode cL_law 1470 = .ok (.aload_n 0, 1) := by decide +kernel
theorem dL_law_1471 : decode cL_law 1471 = .ok (.iload 4, 2) := by decide +kernel
theorem dL_law_1473 : decode cL_law 1473 = .ok (.iconst 2, 1) := by decide +kernel
theorem dL_law_1474 : decode cL_law 1474 = .ok (.iadd, 1) := by decide +kernel
theorem dL_law_1475 : decode cL_law 1475 = .ok (.iaload, 1) := by decide +kernel
theorem dL_law_1476 : decode cL_law 1476 = .ok (.aload_n 0, 1) := by decide +kernel
theorem dL_law_1477 : decode cL_law 1477 = .ok (.iload 4, 2) := by decide +kernel
theorem dL_law_1479 : decode cL_law 1479 = .ok (.iconst 3, 1) := by decide +kernel
theorem dL_law_1480 : decode cL_law 1480 = .ok (.iadd, 1) := by decide +kernel
theorem dL_law_1481 : decode cL_law 1481 = .ok (.iaload, 1) := by decide +kernel
theorem dL_law_1482 : decode cL_law 1482 = .ok (.invokevirtual 162, 3) := by decide +kernel
theorem dL_law_1485 : decode cL_law 1485 = .ok (.istore 6, 2) := by decide +kernel
theorem dL_law_1487 : decode cL_law 1487 = .ok (.aload_n 2, 1) := by decide +kernel
theorem dL_law_1488 : decode cL_law 1488 = .ok (.invokevirtual 93, 3) := by decide +kernel
theorem dL_law_1491 : decode cL_law 1491 = .ok (.iload 5, 2) := by decide +kernel
theorem dL_law_1493 : decode cL_law 1493 = .ok (.if_icmp .eq 5, 3) := by decide +kernel
theorem dL_law_1496 : decode cL_law 1496 = .ok (.iconst 0, 1) := by decide +kernel
theorem dL_law_1497 : decode cL_law 1497 = .ok (.ireturn, 1) := by decide +kernel
theorem dL_law_1498 : decode cL_law 1498 = .ok (.iload 5, 2) := by decide +kernel
theorem dL_law_1500 : decode cL_law 1500 = .ok (.ifCond .ne 15, 3) := by decide +kernel
theorem dL_law_1503 : decode cL_law 1503 = .ok (.aload_n 3, 1) := by decide +kernel
theorem dL_law_1504 : decode cL_law 1504 = .ok (.iconst 0, 1) := by decide +kernel
theorem dL_law_1505 : decode cL_law 1505 = .ok (.laload, 1) := by decide +kernel
theorem dL_law_1506 : decode cL_law 1506 = .ok (.iload 6, 2) := by decide +kernel
theorem dL_law_1508 : decode cL_law 1508 = .ok (.i2l, 1) := by decide +kernel
theorem dL_law_1509 : decode cL_law 1509 = .ok (.lcmp, 1) := by decide +kernel
theorem dL_law_1510 : decode cL_law 1510 = .ok (.ifCond .eq 5, 3) := by decide +kernel
theorem dL_law_1513 : decode cL_law 1513 = .ok (.iconst 0, 1) := by decide +kernel
theorem dL_law_1514 : decode cL_law 1514 = .ok (.ireturn, 1) := by decide +kernel
theorem dL_law_1515 : decode cL_law 1515 = .ok (.goto 66, 3) := by decide +kernel
theorem dL_law_1518 : decode cL_law 1518 = .ok (.aload_n 1, 1) := by decide +kernel
theorem dL_law_1519 : decode cL_law 1519 = .ok (.aload_n 0, 1) := by decide +kernel
theorem dL_law_1520 : decode cL_law 1520 = .ok (.iload 4, 2) := by decide +kernel
theorem dL_law_1522 : decode cL_law 1522 = .ok (.iconst 1, 1) := by decide +kernel
theorem dL_law_1523 : decode cL_law 1523 = .ok (.iadd, 1) := by decide +kernel
theorem dL_law_1524 : decode cL_law 1524 = .ok (.iaload, 1) := by decide +kernel
theorem dL_law_1525 : decode cL_law 1525 = .ok (.aload_n 3, 1) := by decide +kernel
theorem dL_law_1526 : decode cL_law 1526 = .ok (.invokestatic 163, 3) := by decide +kernel
theorem dL_law_1529 : decode cL_law 1529 = .ok (.istore 5, 2) := by decide +kernel
theorem dL_law_1531 : decode cL_law 1531 = .ok (.aload_n 2, 1) := by decide +kernel
theorem dL_law_1532 : decode cL_law 1532 = .ok (.aload_n 0, 1) := by decide +kernel
theorem dL_law_1533 : decode cL_law 1533 = .ok (.iload 4, 2) := by decide +kernel
theorem dL_law_1535 : decode cL_law 1535 = .ok (.iconst 1, 1) := by decide +kernel
theorem dL_law_1536 : decode cL_law 1536 = .ok (.iadd, 1) := by decide +kernel
theorem dL_law_1537 : decode cL_law 1537 = .ok (.iaload, 1) := by decide +kernel
theorem dL_law_1538 : decode cL_law 1538 = .ok (.invokevirtual 165, 3) := by decide +kernel
theorem dL_law_1541 : decode cL_law 1541 = .ok (.istore 6, 2) := by decide +kernel
theorem dL_law_1543 : decode cL_law 1543 = .ok (.aload_n 2, 1) := by decide +kernel
theorem dL_law_1544 : decode cL_law 1544 = .ok (.invokevirtual 93, 3) := by decide +kernel
theorem dL_law_1547 : decode cL_law 1547 = .ok (.iload 5, 2) := by decide +kernel
theorem dL_law_1549 : decode cL_law 1549 = .ok (.if_icmp .eq 5, 3) := by decide +kernel
theorem dL_law_1552 : decode cL_law 1552 = .ok (.iconst 0, 1) := by decide +kernel
theorem dL_law_1553 : decode cL_law 1553 = .ok (.ireturn, 1) := by decide +kernel
theorem dL_law_1554 : decode cL_law 1554 = .ok (.iload 5, 2) := by decide +kernel
theorem dL_law_1556 : decode cL_law 1556 = .ok (.ifCond .ne 22, 3) := by decide +kernel
theorem dL_law_1559 : decode cL_law 1559 = .ok (.aload_n 3, 1) := by decide +kernel
theorem dL_law_1560 : decode cL_law 1560 = .ok (.iconst 0, 1) := by decide +kernel
theorem dL_law_1561 : decode cL_law 1561 = .ok (.laload, 1) := by decide +kernel
theorem dL_law_1562 : decode cL_law 1562 = .ok (.iload 6, 2) := by decide +kernel
theorem dL_law_1564 : decode cL_law 1564 = .ok (.ifCond .eq 7, 3) := by decide +kernel
theorem dL_law_1567 : decode cL_law 1567 = .ok (.lconst 1, 1) := by decide +kernel
theorem dL_law_1568 : decode cL_law 1568 = .ok (.goto 4, 3) := by decide +kernel
theorem dL_law_1571 : decode cL_law 1571 = .ok (.lconst 0, 1) := by decide +kernel
theorem dL_law_1572 : decode cL_law 1572 = .ok (.lcmp, 1) := by decide +kernel
theorem dL_law_1573 : decode cL_law 1573 = .ok (.ifCond .eq 5, 3) := by decide +kernel
theorem dL_law_1576 : decode cL_law 1576 = .ok (.iconst 0, 1) := by decide +kernel
theorem dL_law_1577 : decode cL_law 1577 = .ok (.ireturn, 1) := by decide +kernel
theorem dL_law_1578 : decode cL_law 1578 = .ok (.goto 3, 3) := by decide +kernel
theorem dL_law_1581 : decode cL_law 1581 = .ok (.iinc 4 7, 3) := by decide +kernel
theorem dL_law_1584 : decode cL_law 1584 = .ok (.goto (-1561), 3) := by decide +kernel
theorem dL_law_1587 : decode cL_law 1587 = .ok (.iconst 1, 1) := by decide +kernel
theorem dL_law_1588 : decode cL_law 1588 = .ok (.ireturn, 1) := by decide +kernel
abbrev vwCl : List vw_C := [(RX0, TX0, 10), (RX1, TX1, 8), (RX2, TX2, 18)]
end
section
/-! what a house IS, as numbers: v 0 thrown, v 1 the day, v 2 the revision; r 4 .. r 13 the elements' numbers (kind, storey, fromX, fromY, toX, toY, state, changed, by, due), r 14 the clearances, r 15 the cells of a part, r 16 the lead times, r 17 the locks; n: how many elements -/
def hp_b (b : Bool) : Int32 := if b = true then 1 else 0
theorem hp_bz {b : Bool} (h : hp_b b = 0) : b = false := by cases b with | false => rfl | true => exact absurd h (by decide)
theorem hp_bn {b : Bool} (h : ¬ hp_b b = 0) : b = true := by cases b with | false => exact absurd rfl h | true => rfl
theorem hp_bt {b : Bool} (h : b = true) : hp_b b = 1 := by rw [h]; rfl
theorem hp_bf {b : Bool} (h : b = false) : hp_b b = 0 := by rw [h]; rfl
theorem hp_tf {b : Bool} (h : b = true) (h2 : b = false) : False := by rw [h] at h2; cases h2
theorem hp_nar (b : Bool) : narrow .boolean (.int (hp_b b)) = .int (hp_b b) := by cases b <;> rfl
theorem hp_nle {a b : Int32} (h : ¬ a ≤ b) : b < a := Int32.not_le.mp h
theorem hp_nlt {a b : Int32} (h : ¬ a < b) : b ≤ a := Int32.not_lt.mp h
theorem hp_len {a b : Int32} (h : a ≤ b) : ¬ b < a := Int32.not_lt.mpr h
theorem hp_ltn {a b : Int32} (h : a < b) : ¬ b ≤ a := Int32.not_le.mpr h
def hp_in (x lo hi : Int32) : Bool := decide (lo ≤ x) && decide (x ≤ hi)
def hp_kd (x : Int32) : Bool := hp_in x 0 2
def hp_st (x : Int32) : Bool := hp_in x 0 3
def hp_si (x : Int32) : Bool := hp_in x 0 11
def hp_el (n : Nat) (x : Int32) : Bool := hp_in x 0 (nI n - 1)
theorem hp_in_iff {x lo hi : Int32} : hp_in x lo hi = true ↔ lo ≤ x ∧ x ≤ hi := by simp [hp_in]
theorem hp_in_of {x hi : Int32} {N : Nat} (hN : hi.toInt = (N : Int)) (h : hp_in x 0 hi = true) : ∃ k, k ≤ N ∧ x = nI k := by
  obtain ⟨h1, h2⟩ := hp_in_iff.mp h
  exact nI_of2 hN (hp_len h1) h2
theorem hp_in_nI {k : Nat} {hi : Int32} {N : Nat} (hN : hi.toInt = (N : Int)) (hk : k ≤ N) (hb : N < 2 ^ 31) : hp_in (nI k) 0 hi = true := by
  refine hp_in_iff.mpr ⟨nI_pos' (by omega), ?_⟩
  rw [Int32.le_iff_toInt_le, nI_toInt (by omega), hN]
  omega
theorem hp_kd_of {x : Int32} (h : hp_kd x = true) : ∃ k, k < 3 ∧ x = nI k := by
  obtain ⟨k, h1, h2⟩ := hp_in_of (N := 2) (by decide) h
  exact ⟨k, by omega, h2⟩
theorem hp_st_of {x : Int32} (h : hp_st x = true) : ∃ k, k < 4 ∧ x = nI k := by
  obtain ⟨k, h1, h2⟩ := hp_in_of (N := 3) (by decide) h
  exact ⟨k, by omega, h2⟩
theorem hp_si_of {x : Int32} (h : hp_si x = true) : ∃ k, k < 12 ∧ x = nI k := by
  obtain ⟨k, h1, h2⟩ := hp_in_of (N := 11) (by decide) h
  exact ⟨k, by omega, h2⟩
theorem hp_kd_nI {k : Nat} (h : k < 3) : hp_kd (nI k) = true := hp_in_nI (N := 2) (by decide) (by omega) (by decide)
theorem hp_st_nI {k : Nat} (h : k < 4) : hp_st (nI k) = true := hp_in_nI (N := 3) (by decide) (by omega) (by decide)
theorem hp_si_nI {k : Nat} (h : k < 12) : hp_si (nI k) = true := hp_in_nI (N := 11) (by decide) (by omega) (by decide)
theorem hp_el_of {n : Nat} (hn : n ≤ 40) {x : Int32} (h : hp_el n x = true) : ∃ i, i < n ∧ x = nI i := by
  cases n with
  | zero =>
    obtain ⟨h1, h2⟩ := hp_in_iff.mp h
    exact absurd (Int32.le_trans h1 h2) (by decide)
  | succ n =>
    have h' : hp_in x 0 (nI n) = true := by
      have e : nI (n + 1) - 1 = nI n := nI_pred n
      unfold hp_el at h
      rw [e] at h
      exact h
    obtain ⟨k, h1, h2⟩ := hp_in_of (N := n) (nI_toInt (by omega)) h'
    exact ⟨k, by omega, h2⟩
theorem hp_el_nI {n i : Nat} (hn : n ≤ 40) (h : i < n) : hp_el n (nI i) = true := by
  cases n with
  | zero => omega
  | succ n =>
    unfold hp_el
    rw [nI_pred n]
    exact hp_in_nI (N := n) (nI_toInt (by omega)) (by omega) (by omega)
theorem hp_cl {k : Nat} (h : k < 2 ^ 31) : (nI k).toNatClampNeg = k := nI_clamp h
/-- the numbers of a row that changes in one place -/
def hp_set (r : Nat → Nat → Int32) (a i : Nat) (x : Int32) : Nat → Nat → Int32 := va_up r a (upd (r a) i x)
/-- some of the first n, and the sum over them -/
def hp_any (f : Nat → Bool) : Nat → Bool
  | 0 => false
  | n + 1 => hp_any f n || f n
def hp_sum (f : Nat → Int32) : Nat → Int32
  | 0 => 0
  | n + 1 => hp_sum f n + f n
def hp_all (f : Nat → Bool) : Nat → Bool
  | 0 => true
  | n + 1 => hp_all f n && f n
theorem hp_any_of {f : Nat → Bool} {n i : Nat} (hi : i < n) (h : f i = true) : hp_any f n = true := by
  induction n with
  | zero => omega
  | succ n ih =>
    rcases Nat.lt_succ_iff_lt_or_eq.mp hi with q | q
    · simp [hp_any, ih q]
    · subst q; simp [hp_any, h]
def hp_gap (a b c d : Int32) : Int32 :=
  if (if a < b then b else a) < (if c < d then c else d) then (if c < d then c else d) - (if a < b then b else a)
  else if (if c < d then d else c) < (if a < b then a else b) then (if a < b then a else b) - (if c < d then d else c) else 0
def hp_abs (x : Int32) : Int32 := if x < 0 then -x else x
def hp_max (a b : Int32) : Int32 := if b < a then a else b
def hp_cix (r : Nat → Nat → Int32) (i j : Nat) : Nat := (3 * r 4 i + r 4 j).toNatClampNeg
/-- elements i and j clash -/
def hp_cla (r : Nat → Nat → Int32) (i j : Nat) : Bool :=
  !(i == j) && !(r 10 i == 4) && !(r 10 j == 4) && (r 5 i == r 5 j) && decide (hp_max (hp_gap (r 6 i) (r 8 i) (r 6 j) (r 8 j)) (hp_gap (r 7 i) (r 9 i) (r 7 j) (r 9 j)) < r 14 (hp_cix r i j))
def hp_has (r : Nat → Nat → Int32) (n i : Nat) : Bool := hp_any (fun j => hp_cla r i j) n
def hp_cel (r : Nat → Nat → Int32) (i : Nat) : Int32 := 1 + hp_abs (r 8 i - r 6 i) + hp_abs (r 9 i - r 7 i)
def hp_par (r : Nat → Nat → Int32) (i : Nat) : Int32 := (hp_cel r i + r 15 (r 4 i).toNatClampNeg - 1) / r 15 (r 4 i).toNatClampNeg
def hp_lst (r : Nat → Nat → Int32) (n : Nat) (k low : Int32) : Int32 := hp_sum (fun i => if (r 4 i == k) && hp_in (r 10 i) low 3 then hp_par r i else 0) n
/-- what the numbers hold to -/
def hp_elm (r : Nat → Nat → Int32) (i : Nat) : Prop :=
  (∃ k, k < 3 ∧ r 4 i = nI k) ∧ (∃ k, k < 4 ∧ r 5 i = nI k) ∧ (∃ k, k < 12 ∧ r 6 i = nI k) ∧ (∃ k, k < 12 ∧ r 7 i = nI k) ∧ (∃ k, k < 12 ∧ r 8 i = nI k) ∧ (∃ k, k < 12 ∧ r 9 i = nI k) ∧ (∃ k, k < 5 ∧ r 10 i = nI k) ∧ (r 6 i = r 8 i ∨ r 7 i = r 9 i)
def hp_inv (v : Nat → Int32) (r : Nat → Nat → Int32) (n : Nat) : Prop :=
  n ≤ 40 ∧ (∀ i, i < n → hp_elm r i) ∧ (∀ i, n ≤ i → i < 40 → r 10 i = 0 ∧ r 13 i = 0) ∧ (∀ i, i < 3 → ∃ k, 1 ≤ k ∧ k ≤ 12 ∧ r 15 i = nI k) ∧ (∀ i, i < 3 → ∃ k, k ≤ 100 ∧ r 16 i = nI k) ∧ (∀ i, i < 4 → ∃ b : Bool, r 17 i = hp_b b) ∧ (∃ d, d ≤ 500 ∧ v 1 = nI d)
/-! the worlds -/
abbrev hp_ty (cI cZ cO cJ : ClassId) : List (ClassId × FieldType) := [(cI, .int), (cZ, .boolean), (cO, .object RX0), (cJ, .long)]
def hp_M (cI cZ : ClassId) (o : Nat) (a : Nat → Nat) (v : Nat → Int32) (r : Nat → Nat → Int32) (n : Nat) : va_W :=
  [(o, .inr (2, [.int (v 0), .int (v 1), .int (v 2), .int (nI n), .ref (a 4), .ref (a 5), .ref (a 6), .ref (a 7), .ref (a 8), .ref (a 9), .ref (a 10), .ref (a 11), .ref (a 12), .ref (a 13), .ref (a 14), .ref (a 15), .ref (a 16), .ref (a 17)])),
   (a 4, .inl (cI, 40, .inl (r 4))), (a 5, .inl (cI, 40, .inl (r 5))), (a 6, .inl (cI, 40, .inl (r 6))), (a 7, .inl (cI, 40, .inl (r 7))), (a 8, .inl (cI, 40, .inl (r 8))), (a 9, .inl (cI, 40, .inl (r 9))), (a 10, .inl (cI, 40, .inl (r 10))), (a 11, .inl (cI, 40, .inl (r 11))), (a 12, .inl (cI, 40, .inl (r 12))), (a 13, .inl (cI, 40, .inl (r 13))), (a 14, .inl (cI, 9, .inl (r 14))), (a 15, .inl (cI, 3, .inl (r 15))), (a 16, .inl (cI, 3, .inl (r 16))), (a 17, .inl (cZ, 4, .inl (r 17)))]
abbrev hp_E (r : Nat → Nat → Int32) (i : Nat) : va_E := .inr (0, [.int (r 4 i), .int (r 5 i), .int (r 6 i), .int (r 7 i), .int (r 8 i), .int (r 9 i), .int (r 10 i), .int (r 11 i), .int (r 12 i), .int (r 13 i)])
def hp_Es (ad : Nat → Nat) (r : Nat → Nat → Int32) (n : Nat) : va_W := (List.range n).map (fun i => (ad i, hp_E r i))
def hp_X0 (cI cZ cO : ClassId) (o : Nat) (b : Nat → Nat) (ad : Nat → Nat) (v : Nat → Int32) (r : Nat → Nat → Int32) (n : Nat) : va_W :=
  [(o, .inr (1, [.ref (b 0), .int (nI n), .ref (b 2), .ref (b 3), .ref (b 4), .ref (b 5), .int (v 2), .int (v 1)])), (b 0, .inl (cO, 40, .inr (.inr (.inr (.inr (fun i => if i < n then some (ad i) else none)))))), (b 2, .inl (cI, 9, .inl (r 14))), (b 3, .inl (cI, 3, .inl (r 15))), (b 4, .inl (cI, 3, .inl (r 16))), (b 5, .inl (cZ, 4, .inl (r 17)))]
def hp_X (cI cZ cO : ClassId) (o : Nat) (b : Nat → Nat) (ad : Nat → Nat) (v : Nat → Int32) (r : Nat → Nat → Int32) (n : Nat) : va_W := hp_X0 cI cZ cO o b ad v r n ++ hp_Es ad r n
theorem hp_Es_get {X : va_W} {ad : Nat → Nat} {r : Nat → Nat → Int32} {n i : Nat} (k : Nat) (hk : X.length = k) (h : i < n) : (X ++ hp_Es ad r n)[k + i]? = some (ad i, hp_E r i) := by
  subst hk
  rw [List.getElem?_append_right (by omega), Nat.add_sub_cancel_left]
  simp [hp_Es, h]
/-! a method that reads a world: its start -/
def hp_pre (D : va_G) (cI cZ cO cJ : ClassId) (w : va_W) : State → Prop := fun U => va_P D vwCl w U.heap ∧ va_K D vwCl (hp_ty cI cZ cO cJ) U
theorem hp_fb {D : va_G} {cI cZ cO cJ : ClassId} {w : va_W} {av : List Value} : FrameBlind (va_Pc av (hp_pre D cI cZ cO cJ w)) := fun a U g mk q => ⟨q.1, q.2.1, va_K.moved (u := U) (U := U.calling g mk a) (Vm.Alike.refl U.vm) q.2.2⟩
theorem hp_to {D : va_G} {cI cZ cO cJ : ClassId} {w : va_W} {s U : State} {H : Heap} (hP : va_P D vwCl w H) (hK : va_K D vwCl (hp_ty cI cZ cO cJ) s) (hU : U.heap = H) (hW : s.WarmedH U.vm) : hp_pre D cI cZ cO cJ w U := ⟨by rw [hU]; exact hP, va_K.moved hW.alike hK⟩
def hp_no : State → Prop := fun _ => True
theorem hp_nfb {av : List Value} : FrameBlind (va_Pc av hp_no) := fun _ _ _ _ q => q
/-! joins and loops of a walk -/
section HPW
variable {p : Program} {l : Launch} {e : Env} {R : Room} {s : State} {m : MethodId} {args : Array Value} {below : List Frame} {meth : Method} {c : Code} {H : Heap} {locs : List Loc} {cells slots : Nat} {Q : State → Prop}
theorem hp_join {g : JFrame} {i : Type} (pc nL : Nat) (P : i → Prop) (LV : i → List (Nat × Value)) (ST : i → List Value)
    (J : ∀ x, P x → ∀ ls : Array Slot, lv_has ls nL (LV x) → W p l e R s m args below meth c H locs cells slots Q (F0 m pc ls (ST x)))
    (B : (∀ x, P x → ∀ ls : Array Slot, lv_has ls nL (LV x) → W p l e R s m args below meth c H locs cells slots Q (F0 m pc ls (ST x))) → W p l e R s m args below meth c H locs cells slots Q g) : W p l e R s m args below meth c H locs cells slots Q g := B J
theorem hp_loop {pc nL : Nat} (LV : Nat → List (Nat × Value)) (N : Nat)
    (step : ∀ k, k ≤ N → (k < N → ∀ ls : Array Slot, lv_has ls nL (LV (k + 1)) → W p l e R s m args below meth c H locs cells slots Q (F0 m pc ls [])) → ∀ ls : Array Slot, lv_has ls nL (LV k) → W p l e R s m args below meth c H locs cells slots Q (F0 m pc ls []))
    {ls : Array Slot} (hl : lv_has ls nL (LV 0)) : W p l e R s m args below meth c H locs cells slots Q (F0 m pc ls []) := by
  have key : ∀ f k, k ≤ N → N - k ≤ f → ∀ ls : Array Slot, lv_has ls nL (LV k) → W p l e R s m args below meth c H locs cells slots Q (F0 m pc ls []) := by
    intro f
    induction f with
    | zero => exact fun k hk hf => step k hk (fun hlt => absurd hlt (by omega))
    | succ f ih => exact fun k hk hf => step k hk (fun hlt => ih (k + 1) (by omega) (by omega))
  exact key N 0 (Nat.zero_le N) (by omega) ls hl
end HPW
/-! arrays by a place that is a number -/
section HPA
variable {p : Program} {l : Launch} {e : Env} {R : Room} {s : State} {m : MethodId} {args : Array Value} {below : List Frame} {meth : Method} {c : Code} {H : Heap} {locs : List Loc} {cells slots : Nat} {Q : State → Prop}
variable {cc : ByteArray} {pc : Nat} {ls : Array Slot} {rest : List Value} {D : va_G} {cl : List vw_C} {A : Nat → Prop} {a : Nat} {tys : List (ClassId × FieldType)} {ws : va_W} {H0 : Heap}
theorem hp_iald (hexec : p.tables.exec = Jvm.exec) (hb : c.code = cc) (hK : va_K D cl tys s) (hP : va_P D cl ws H) (q0 t0 : Nat) {cA : ClassId} {n k : Nat} {f : Nat → Int32} {v : Int32} (ha : ws[q0]? = some (a, .inl (cA, n, .inl f))) (ht : tys[t0]? = some (cA, .int)) (hk : k < n) (hn : n < 2 ^ 31) (hv : f k = v) (hdg : decode cc pc = .ok (.iaload, 1))
    (kk : W p l e R s m args below meth c H locs cells slots Q (F0 m (pc + 1) ls (.int v :: rest))) : W p l e R s m args below meth c H locs cells slots Q (F0 m pc ls (.int (nI k) :: .ref a :: rest)) :=
  va_iald hexec hb hK hP q0 t0 ha ht (vp_in_nI hk hn) hdg (by rw [nI_clamp (Nat.lt_trans hk hn), hv]; exact kk)
theorem hp_zald (hexec : p.tables.exec = Jvm.exec) (hb : c.code = cc) (hK : va_K D cl tys s) (hP : va_P D cl ws H) (q0 t0 : Nat) {cA : ClassId} {n k : Nat} {f : Nat → Int32} {v : Int32} (ha : ws[q0]? = some (a, .inl (cA, n, .inl f))) (ht : tys[t0]? = some (cA, .boolean)) (hk : k < n) (hn : n < 2 ^ 31) (hv : f k = v) (hdg : decode cc pc = .ok (.baload, 1))
    (kk : W p l e R s m args below meth c H locs cells slots Q (F0 m (pc + 1) ls (.int v :: rest))) : W p l e R s m args below meth c H locs cells slots Q (F0 m pc ls (.int (nI k) :: .ref a :: rest)) :=
  va_zald hexec hb hK hP q0 t0 ha ht (vp_in_nI hk hn) hdg (by rw [nI_clamp (Nat.lt_trans hk hn), hv]; exact kk)
theorem hp_aald {C : String} (hexec : p.tables.exec = Jvm.exec) (hb : c.code = cc) (hK : va_K D cl tys s) (hP : va_P D cl ws H) (q0 t0 : Nat) {cA : ClassId} {n k : Nat} {f : Nat → Option Nat} (ha : ws[q0]? = some (a, .inl (cA, n, .inr (.inr (.inr (.inr f)))))) (ht : tys[t0]? = some (cA, .object C)) (hk : k < n) (hn : n < 2 ^ 31) (hdg : decode cc pc = .ok (.aaload, 1))
    (kk : W p l e R s m args below meth c H locs cells slots Q (F0 m (pc + 1) ls (va_rf (f k) :: rest))) : W p l e R s m args below meth c H locs cells slots Q (F0 m pc ls (.int (nI k) :: .ref a :: rest)) :=
  va_aldq (C := C) hexec hb hK hP q0 t0 ha ht (vp_in_nI hk hn) hdg (by rw [nI_clamp (Nat.lt_trans hk hn)]; exact kk)
theorem hp_iast (hexec : p.tables.exec = Jvm.exec) (hb : c.code = cc) (hK : va_K D cl tys s) (hP : va_P D cl ws H) (hD : va_D A ws) (hS : va_S A H0 H locs) (q0 t0 : Nat) {cA : ClassId} {n k : Nat} {f : Nat → Int32} {x : Int32} (ha : ws[q0]? = some (a, .inl (cA, n, .inl f))) (ht : tys[t0]? = some (cA, .int)) (hk : k < n) (hn : n < 2 ^ 31) (hdg : decode cc pc = .ok (.iastore, 1))
    (kk : ∀ (H1 : Heap) (locs1 : List Loc), va_P D cl (ws.set q0 (a, .inl (cA, n, .inl (upd f k x)))) H1 → va_D A (ws.set q0 (a, .inl (cA, n, .inl (upd f k x)))) → va_S A H0 H1 locs1 → W p l e R s m args below meth c H1 locs1 cells slots Q (F0 m (pc + 1) ls rest)) : W p l e R s m args below meth c H locs cells slots Q (F0 m pc ls (.int x :: .int (nI k) :: .ref a :: rest)) :=
  va_iast hexec hb hK hP hD hS q0 t0 ha ht (vp_in_nI hk hn) hdg (by rw [nI_clamp (Nat.lt_trans hk hn)]; exact kk)
end HPA
theorem hp_cP {D : va_G} {cl : List vw_C} {H : Heap} {ws ws' : va_W} (e : ws = ws') (h : va_P D cl ws H) : va_P D cl ws' H := e ▸ h
theorem hp_cD {A : Nat → Prop} {ws ws' : va_W} (e : ws = ws') (h : va_D A ws) : va_D A ws' := e ▸ h
theorem hp_Es_set {X : va_W} {ad : Nat → Nat} {r r' : Nat → Nat → Int32} {n i : Nat} {e : va_E} (k : Nat) (hk : X.length = k) (h : i < n) (he : e = hp_E r' i) (hr : ∀ j, j ≠ i → hp_E r' j = hp_E r j) : (X ++ hp_Es ad r n).set (k + i) (ad i, e) = X ++ hp_Es ad r' n := by
  subst hk
  subst he
  apply List.ext_getElem?
  intro j
  by_cases hj : j < X.length
  · rw [List.getElem?_set_ne (by omega), List.getElem?_append_left hj, List.getElem?_append_left hj]
  · rw [List.getElem?_append_right (by omega)]
    by_cases hji : j = X.length + i
    · subst hji
      rw [List.getElem?_set_self (by rw [List.length_append]; simp [hp_Es]; omega), Nat.add_sub_cancel_left]
      simp [hp_Es, h]
    · rw [List.getElem?_set_ne (by omega), List.getElem?_append_right (by omega)]
      have hne : j - X.length ≠ i := by omega
      simp only [hp_Es, List.getElem?_map]
      by_cases hr2 : j - X.length < n
      · rw [List.getElem?_range hr2]
        simp [hr _ hne]
      · rw [List.getElem?_eq_none (by simp; omega)]
        rfl
/-! a method that writes in a world -/
def hp_prm (D : va_G) (cI cZ cO cJ : ClassId) (w : va_W) (sz : Nat) : State → Prop := fun U => U.heap.size = sz ∧ va_P D vwCl w U.heap ∧ va_K D vwCl (hp_ty cI cZ cO cJ) U ∧ va_D (fun _ => True) w
theorem hp_mfb {D : va_G} {cI cZ cO cJ : ClassId} {w : va_W} {sz : Nat} {av : List Value} : FrameBlind (va_Pc av (hp_prm D cI cZ cO cJ w sz)) := fun a U g mk q => ⟨q.1, q.2.1, q.2.2.1, va_K.moved (u := U) (U := U.calling g mk a) (Vm.Alike.refl U.vm) q.2.2.2.1, q.2.2.2.2⟩
theorem hp_mto {D : va_G} {cI cZ cO cJ : ClassId} {w : va_W} {s U : State} {H : Heap} {A : Nat → Prop} (hP : va_P D vwCl w H) (hK : va_K D vwCl (hp_ty cI cZ cO cJ) s) (hD : va_D A w) (hU : U.heap = H) (hW : s.WarmedH U.vm) : hp_prm D cI cZ cO cJ w H.size U := ⟨by rw [hU], by rw [hU]; exact hP, va_K.moved hW.alike hK, hD.weaken (fun _ _ _ _ => trivial)⟩
theorem hp_free {A : Nat → Prop} {w : va_W} {H0 H : Heap} {locs : List Loc} (hD : va_D A w) (hS : va_S A H0 H locs) (hA : ∀ q, H0.size ≤ q → A q) : ∀ q, va_A w H.size q → A q := by
  intro q h
  rcases h with ⟨k, e, h⟩ | h
  · exact hD.2 k (q, e) h
  · exact hA q (Nat.le_trans hS.1 h)
theorem hp_dfst {A : Nat → Prop} {w w' : va_W} (he : w.map Prod.fst = w'.map Prod.fst) (h : va_D A w) : va_D A w' := by
  have key : ∀ (k : Nat) (q : Nat × va_E), w'[k]? = some q → ∃ q0, w[k]? = some q0 ∧ q0.1 = q.1 := by
    intro k q hk
    have h1 : (w'.map Prod.fst)[k]? = some q.1 := by rw [List.getElem?_map, hk]; rfl
    rw [← he, List.getElem?_map] at h1
    cases h2 : w[k]? with
    | none => rw [h2] at h1; cases h1
    | some q0 => rw [h2] at h1; exact ⟨q0, rfl, Option.some.inj h1⟩
  refine ⟨fun i j x y hi hj hxy => ?_, fun k q hk => ?_⟩
  · obtain ⟨x0, h1, h2⟩ := key i x hi
    obtain ⟨y0, h3, h4⟩ := key j y hj
    exact h.1 i j x0 y0 h1 h3 (h2.trans (hxy.trans h4.symm))
  · obtain ⟨q0, h1, h2⟩ := key k q hk
    rw [← h2]
    exact h.2 k q0 h1
theorem hp_dM {A : Nat → Prop} {cI cZ : ClassId} {o : Nat} {a : Nat → Nat} {v v' : Nat → Int32} {r r' : Nat → Nat → Int32} {n n' : Nat} (h : va_D A (hp_M cI cZ o a v r n)) : va_D A (hp_M cI cZ o a v' r' n') := hp_dfst (w := hp_M cI cZ o a v r n) (by simp [hp_M]) h
theorem hp_dX {A : Nat → Prop} {cI cZ cO : ClassId} {o : Nat} {b ad : Nat → Nat} {v v' : Nat → Int32} {r r' : Nat → Nat → Int32} {n : Nat} (h : va_D A (hp_X cI cZ cO o b ad v r n)) : va_D A (hp_X cI cZ cO o b ad v' r' n) := hp_dfst (w := hp_X cI cZ cO o b ad v r n) (by simp [hp_X, hp_X0, hp_Es]) h
theorem hp_kd_in {r : Nat → Nat → Int32} {i : Nat} (h : hp_elm r i) : vp_in (r 4 i) 3 := by
  obtain ⟨⟨k, hk, e⟩, -⟩ := h
  rw [e]
  exact vp_in_nI hk (by decide)
theorem hp_cix_nat {r : Nat → Nat → Int32} {i j : Nat} (hi : hp_elm r i) (hj : hp_elm r j) : ∃ a b, a < 3 ∧ b < 3 ∧ r 4 i = nI a ∧ r 4 j = nI b ∧ 3 * r 4 i + r 4 j = nI (3 * a + b) ∧ r 4 i * 3 + r 4 j = nI (3 * a + b) ∧ hp_cix r i j = 3 * a + b := by
  obtain ⟨⟨a, ha, ea⟩, -⟩ := hi
  obtain ⟨⟨b, hb, eb⟩, -⟩ := hj
  have e1 : 3 * r 4 i + r 4 j = nI (3 * a + b) := by
    rw [ea, eb]
    show nI 3 * nI a + nI b = _
    rw [pk_mul, nI_add]
  have e2 : r 4 i * 3 + r 4 j = nI (3 * a + b) := by
    rw [ea, eb]
    show nI a * nI 3 + nI b = _
    rw [pk_mul, nI_add, Nat.mul_comm]
  refine ⟨a, b, ha, hb, ea, eb, e1, e2, ?_⟩
  unfold hp_cix
  rw [e1, nI_clamp (by omega)]
theorem hp_cix_in {r : Nat → Nat → Int32} {i j : Nat} (hi : hp_elm r i) (hj : hp_elm r j) : vp_in (3 * r 4 i + r 4 j) 9 := by
  obtain ⟨a, b, ha, hb, -, -, e, -⟩ := hp_cix_nat hi hj
  rw [e]
  exact vp_in_nI (by omega) (by decide)
theorem hp_pc_pos {v : Nat → Int32} {r : Nat → Nat → Int32} {n i : Nat} (h : hp_inv v r n) (hi : i < n) : ∃ c, 1 ≤ c ∧ c ≤ 12 ∧ r 15 (r 4 i).toNatClampNeg = nI c := by
  obtain ⟨⟨k, hk, e⟩, -⟩ := h.2.1 i hi
  rw [e, nI_clamp (by omega)]
  exact h.2.2.2.1 k hk
theorem hp_pc_ne {v : Nat → Int32} {r : Nat → Nat → Int32} {n i : Nat} (h : hp_inv v r n) (hi : i < n) : ¬ r 15 (r 4 i).toNatClampNeg = 0 := by
  obtain ⟨c, h1, h2, e⟩ := hp_pc_pos h hi
  rw [e]
  exact nI_ne0 (by omega) (by omega)
/-! what lies where in the reference's world, and what a store makes of it -/
theorem hp_M_o {cI cZ : ClassId} {o : Nat} {a : Nat → Nat} {v : Nat → Int32} {r : Nat → Nat → Int32} {n : Nat} : (hp_M cI cZ o a v r n)[0]? = some (o, .inr (2, [.int (v 0), .int (v 1), .int (v 2), .int (nI n), .ref (a 4), .ref (a 5), .ref (a 6), .ref (a 7), .ref (a 8), .ref (a 9), .ref (a 10), .ref (a 11), .ref (a 12), .ref (a 13), .ref (a 14), .ref (a 15), .ref (a 16), .ref (a 17)])) := rfl
theorem hp_M_4 {cI cZ : ClassId} {o : Nat} {a : Nat → Nat} {v : Nat → Int32} {r : Nat → Nat → Int32} {n : Nat} : (hp_M cI cZ o a v r n)[1]? = some (a 4, .inl (cI, 40, .inl (r 4))) := rfl
theorem hp_M_s4 {cI cZ : ClassId} {o : Nat} {a : Nat → Nat} {v : Nat → Int32} {r : Nat → Nat → Int32} {n : Nat} {i : Nat} {x : Int32} : (hp_M cI cZ o a v r n).set 1 (a 4, .inl (cI, 40, .inl (upd (r 4) i x))) = hp_M cI cZ o a v (hp_set r 4 i x) n := rfl
theorem hp_M_5 {cI cZ : ClassId} {o : Nat} {a : Nat → Nat} {v : Nat → Int32} {r : Nat → Nat → Int32} {n : Nat} : (hp_M cI cZ o a v r n)[2]? = some (a 5, .inl (cI, 40, .inl (r 5))) := rfl
theorem hp_M_s5 {cI cZ : ClassId} {o : Nat} {a : Nat → Nat} {v : Nat → Int32} {r : Nat → Nat → Int32} {n : Nat} {i : Nat} {x : Int32} : (hp_M cI cZ o a v r n).set 2 (a 5, .inl (cI, 40, .inl (upd (r 5) i x))) = hp_M cI cZ o a v (hp_set r 5 i x) n := rfl
theorem hp_M_6 {cI cZ : ClassId} {o : Nat} {a : Nat → Nat} {v : Nat → Int32} {r : Nat → Nat → Int32} {n : Nat} : (hp_M cI cZ o a v r n)[3]? = some (a 6, .inl (cI, 40, .inl (r 6))) := rfl
theorem hp_M_s6 {cI cZ : ClassId} {o : Nat} {a : Nat → Nat} {v : Nat → Int32} {r : Nat → Nat → Int32} {n : Nat} {i : Nat} {x : Int32} : (hp_M cI cZ o a v r n).set 3 (a 6, .inl (cI, 40, .inl (upd (r 6) i x))) = hp_M cI cZ o a v (hp_set r 6 i x) n := rfl
theorem hp_M_7 {cI cZ : ClassId} {o : Nat} {a : Nat → Nat} {v : Nat → Int32} {r : Nat → Nat → Int32} {n : Nat} : (hp_M cI cZ o a v r n)[4]? = some (a 7, .inl (cI, 40, .inl (r 7))) := rfl
theorem hp_M_s7 {cI cZ : ClassId} {o : Nat} {a : Nat → Nat} {v : Nat → Int32} {r : Nat → Nat → Int32} {n : Nat} {i : Nat} {x : Int32} : (hp_M cI cZ o a v r n).set 4 (a 7, .inl (cI, 40, .inl (upd (r 7) i x))) = hp_M cI cZ o a v (hp_set r 7 i x) n := rfl
theorem hp_M_8 {cI cZ : ClassId} {o : Nat} {a : Nat → Nat} {v : Nat → Int32} {r : Nat → Nat → Int32} {n : Nat} : (hp_M cI cZ o a v r n)[5]? = some (a 8, .inl (cI, 40, .inl (r 8))) := rfl
theorem hp_M_s8 {cI cZ : ClassId} {o : Nat} {a : Nat → Nat} {v : Nat → Int32} {r : Nat → Nat → Int32} {n : Nat} {i : Nat} {x : Int32} : (hp_M cI cZ o a v r n).set 5 (a 8, .inl (cI, 40, .inl (upd (r 8) i x))) = hp_M cI cZ o a v (hp_set r 8 i x) n := rfl
theorem hp_M_9 {cI cZ : ClassId} {o : Nat} {a : Nat → Nat} {v : Nat → Int32} {r : Nat → Nat → Int32} {n : Nat} : (hp_M cI cZ o a v r n)[6]? = some (a 9, .inl (cI, 40, .inl (r 9))) := rfl
theorem hp_M_s9 {cI cZ : ClassId} {o : Nat} {a : Nat → Nat} {v : Nat → Int32} {r : Nat → Nat → Int32} {n : Nat} {i : Nat} {x : Int32} : (hp_M cI cZ o a v r n).set 6 (a 9, .inl (cI, 40, .inl (upd (r 9) i x))) = hp_M cI cZ o a v (hp_set r 9 i x) n := rfl
theorem hp_M_10 {cI cZ : ClassId} {o : Nat} {a : Nat → Nat} {v : Nat → Int32} {r : Nat → Nat → Int32} {n : Nat} : (hp_M cI cZ o a v r n)[7]? = some (a 10, .inl (cI, 40, .inl (r 10))) := rfl
theorem hp_M_s10 {cI cZ : ClassId} {o : Nat} {a : Nat → Nat} {v : Nat → Int32} {r : Nat → Nat → Int32} {n : Nat} {i : Nat} {x : Int32} : (hp_M cI cZ o a v r n).set 7 (a 10, .inl (cI, 40, .inl (upd (r 10) i x))) = hp_M cI cZ o a v (hp_set r 10 i x) n := rfl
theorem hp_M_11 {cI cZ : ClassId} {o : Nat} {a : Nat → Nat} {v : Nat → Int32} {r : Nat → Nat → Int32} {n : Nat} : (hp_M cI cZ o a v r n)[8]? = some (a 11, .inl (cI, 40, .inl (r 11))) := rfl
theorem hp_M_s11 {cI cZ : ClassId} {o : Nat} {a : Nat → Nat} {v : Nat → Int32} {r : Nat → Nat → Int32} {n : Nat} {i : Nat} {x : Int32} : (hp_M cI cZ o a v r n).set 8 (a 11, .inl (cI, 40, .inl (upd (r 11) i x))) = hp_M cI cZ o a v (hp_set r 11 i x) n := rfl
theorem hp_M_12 {cI cZ : ClassId} {o : Nat} {a : Nat → Nat} {v : Nat → Int32} {r : Nat → Nat → Int32} {n : Nat} : (hp_M cI cZ o a v r n)[9]? = some (a 12, .inl (cI, 40, .inl (r 12))) := rfl
theorem hp_M_s12 {cI cZ : ClassId} {o : Nat} {a : Nat → Nat} {v : Nat → Int32} {r : Nat → Nat → Int32} {n : Nat} {i : Nat} {x : Int32} : (hp_M cI cZ o a v r n).set 9 (a 12, .inl (cI, 40, .inl (upd (r 12) i x))) = hp_M cI cZ o a v (hp_set r 12 i x) n := rfl
theorem hp_M_13 {cI cZ : ClassId} {o : Nat} {a : Nat → Nat} {v : Nat → Int32} {r : Nat → Nat → Int32} {n : Nat} : (hp_M cI cZ o a v r n)[10]? = some (a 13, .inl (cI, 40, .inl (r 13))) := rfl
theorem hp_M_s13 {cI cZ : ClassId} {o : Nat} {a : Nat → Nat} {v : Nat → Int32} {r : Nat → Nat → Int32} {n : Nat} {i : Nat} {x : Int32} : (hp_M cI cZ o a v r n).set 10 (a 13, .inl (cI, 40, .inl (upd (r 13) i x))) = hp_M cI cZ o a v (hp_set r 13 i x) n := rfl
theorem hp_M_14 {cI cZ : ClassId} {o : Nat} {a : Nat → Nat} {v : Nat → Int32} {r : Nat → Nat → Int32} {n : Nat} : (hp_M cI cZ o a v r n)[11]? = some (a 14, .inl (cI, 9, .inl (r 14))) := rfl
theorem hp_M_s14 {cI cZ : ClassId} {o : Nat} {a : Nat → Nat} {v : Nat → Int32} {r : Nat → Nat → Int32} {n : Nat} {i : Nat} {x : Int32} : (hp_M cI cZ o a v r n).set 11 (a 14, .inl (cI, 9, .inl (upd (r 14) i x))) = hp_M cI cZ o a v (hp_set r 14 i x) n := rfl
theorem hp_M_15 {cI cZ : ClassId} {o : Nat} {a : Nat → Nat} {v : Nat → Int32} {r : Nat → Nat → Int32} {n : Nat} : (hp_M cI cZ o a v r n)[12]? = some (a 15, .inl (cI, 3, .inl (r 15))) := rfl
theorem hp_M_s15 {cI cZ : ClassId} {o : Nat} {a : Nat → Nat} {v : Nat → Int32} {r : Nat → Nat → Int32} {n : Nat} {i : Nat} {x : Int32} : (hp_M cI cZ o a v r n).set 12 (a 15, .inl (cI, 3, .inl (upd (r 15) i x))) = hp_M cI cZ o a v (hp_set r 15 i x) n := rfl
theorem hp_M_16 {cI cZ : ClassId} {o : Nat} {a : Nat → Nat} {v : Nat → Int32} {r : Nat → Nat → Int32} {n : Nat} : (hp_M cI cZ o a v r n)[13]? = some (a 16, .inl (cI, 3, .inl (r 16))) := rfl
theorem hp_M_s16 {cI cZ : ClassId} {o : Nat} {a : Nat → Nat} {v : Nat → Int32} {r : Nat → Nat → Int32} {n : Nat} {i : Nat} {x : Int32} : (hp_M cI cZ o a v r n).set 13 (a 16, .inl (cI, 3, .inl (upd (r 16) i x))) = hp_M cI cZ o a v (hp_set r 16 i x) n := rfl
theorem hp_M_17 {cI cZ : ClassId} {o : Nat} {a : Nat → Nat} {v : Nat → Int32} {r : Nat → Nat → Int32} {n : Nat} : (hp_M cI cZ o a v r n)[14]? = some (a 17, .inl (cZ, 4, .inl (r 17))) := rfl
theorem hp_M_s17 {cI cZ : ClassId} {o : Nat} {a : Nat → Nat} {v : Nat → Int32} {r : Nat → Nat → Int32} {n : Nat} {i : Nat} {x : Int32} : (hp_M cI cZ o a v r n).set 14 (a 17, .inl (cZ, 4, .inl (upd (r 17) i x))) = hp_M cI cZ o a v (hp_set r 17 i x) n := rfl
theorem hp_M_p0 {cI cZ : ClassId} {o : Nat} {a : Nat → Nat} {v : Nat → Int32} {r : Nat → Nat → Int32} {n : Nat} {x : Int32} : (hp_M cI cZ o a v r n).set 0 (o, .inr (2, ([.int (v 0), .int (v 1), .int (v 2), .int (nI n), .ref (a 4), .ref (a 5), .ref (a 6), .ref (a 7), .ref (a 8), .ref (a 9), .ref (a 10), .ref (a 11), .ref (a 12), .ref (a 13), .ref (a 14), .ref (a 15), .ref (a 16), .ref (a 17)] : List Value).set 0 (.int x))) = hp_M cI cZ o a (va_up v 0 x) r n := rfl
theorem hp_M_p1 {cI cZ : ClassId} {o : Nat} {a : Nat → Nat} {v : Nat → Int32} {r : Nat → Nat → Int32} {n : Nat} {x : Int32} : (hp_M cI cZ o a v r n).set 0 (o, .inr (2, ([.int (v 0), .int (v 1), .int (v 2), .int (nI n), .ref (a 4), .ref (a 5), .ref (a 6), .ref (a 7), .ref (a 8), .ref (a 9), .ref (a 10), .ref (a 11), .ref (a 12), .ref (a 13), .ref (a 14), .ref (a 15), .ref (a 16), .ref (a 17)] : List Value).set 1 (.int x))) = hp_M cI cZ o a (va_up v 1 x) r n := rfl
theorem hp_M_p2 {cI cZ : ClassId} {o : Nat} {a : Nat → Nat} {v : Nat → Int32} {r : Nat → Nat → Int32} {n : Nat} {x : Int32} : (hp_M cI cZ o a v r n).set 0 (o, .inr (2, ([.int (v 0), .int (v 1), .int (v 2), .int (nI n), .ref (a 4), .ref (a 5), .ref (a 6), .ref (a 7), .ref (a 8), .ref (a 9), .ref (a 10), .ref (a 11), .ref (a 12), .ref (a 13), .ref (a 14), .ref (a 15), .ref (a 16), .ref (a 17)] : List Value).set 2 (.int x))) = hp_M cI cZ o a (va_up v 2 x) r n := rfl
theorem hp_M_p3 {cI cZ : ClassId} {o : Nat} {a : Nat → Nat} {v : Nat → Int32} {r : Nat → Nat → Int32} {n : Nat} {x : Nat} : (hp_M cI cZ o a v r n).set 0 (o, .inr (2, ([.int (v 0), .int (v 1), .int (v 2), .int (nI n), .ref (a 4), .ref (a 5), .ref (a 6), .ref (a 7), .ref (a 8), .ref (a 9), .ref (a 10), .ref (a 11), .ref (a 12), .ref (a 13), .ref (a 14), .ref (a 15), .ref (a 16), .ref (a 17)] : List Value).set 3 (.int (nI x)))) = hp_M cI cZ o a v r x := rfl
/-! .. and in the class's -/
theorem hp_X_o {cI cZ cO : ClassId} {o : Nat} {b ad : Nat → Nat} {v : Nat → Int32} {r : Nat → Nat → Int32} {n : Nat} : (hp_X cI cZ cO o b ad v r n)[0]? = some (o, .inr (1, [.ref (b 0), .int (nI n), .ref (b 2), .ref (b 3), .ref (b 4), .ref (b 5), .int (v 2), .int (v 1)])) := rfl
theorem hp_X_0 {cI cZ cO : ClassId} {o : Nat} {b ad : Nat → Nat} {v : Nat → Int32} {r : Nat → Nat → Int32} {n : Nat} : (hp_X cI cZ cO o b ad v r n)[1]? = some (b 0, .inl (cO, 40, .inr (.inr (.inr (.inr (fun i => if i < n then some (ad i) else none)))))) := rfl
theorem hp_X_14 {cI cZ cO : ClassId} {o : Nat} {b ad : Nat → Nat} {v : Nat → Int32} {r : Nat → Nat → Int32} {n : Nat} : (hp_X cI cZ cO o b ad v r n)[2]? = some (b 2, .inl (cI, 9, .inl (r 14))) := rfl
theorem hp_X_s14 {cI cZ cO : ClassId} {o : Nat} {b ad : Nat → Nat} {v : Nat → Int32} {r : Nat → Nat → Int32} {n : Nat} {i : Nat} {x : Int32} : (hp_X cI cZ cO o b ad v r n).set 2 (b 2, .inl (cI, 9, .inl (upd (r 14) i x))) = hp_X cI cZ cO o b ad v (hp_set r 14 i x) n := rfl
theorem hp_X_15 {cI cZ cO : ClassId} {o : Nat} {b ad : Nat → Nat} {v : Nat → Int32} {r : Nat → Nat → Int32} {n : Nat} : (hp_X cI cZ cO o b ad v r n)[3]? = some (b 3, .inl (cI, 3, .inl (r 15))) := rfl
theorem hp_X_s15 {cI cZ cO : ClassId} {o : Nat} {b ad : Nat → Nat} {v : Nat → Int32} {r : Nat → Nat → Int32} {n : Nat} {i : Nat} {x : Int32} : (hp_X cI cZ cO o b ad v r n).set 3 (b 3, .inl (cI, 3, .inl (upd (r 15) i x))) = hp_X cI cZ cO o b ad v (hp_set r 15 i x) n := rfl
theorem hp_X_16 {cI cZ cO : ClassId} {o : Nat} {b ad : Nat → Nat} {v : Nat → Int32} {r : Nat → Nat → Int32} {n : Nat} : (hp_X cI cZ cO o b ad v r n)[4]? = some (b 4, .inl (cI, 3, .inl (r 16))) := rfl
theorem hp_X_s16 {cI cZ cO : ClassId} {o : Nat} {b ad : Nat → Nat} {v : Nat → Int32} {r : Nat → Nat → Int32} {n : Nat} {i : Nat} {x : Int32} : (hp_X cI cZ cO o b ad v r n).set 4 (b 4, .inl (cI, 3, .inl (upd (r 16) i x))) = hp_X cI cZ cO o b ad v (hp_set r 16 i x) n := rfl
theorem hp_X_17 {cI cZ cO : ClassId} {o : Nat} {b ad : Nat → Nat} {v : Nat → Int32} {r : Nat → Nat → Int32} {n : Nat} : (hp_X cI cZ cO o b ad v r n)[5]? = some (b 5, .inl (cZ, 4, .inl (r 17))) := rfl
theorem hp_X_s17 {cI cZ cO : ClassId} {o : Nat} {b ad : Nat → Nat} {v : Nat → Int32} {r : Nat → Nat → Int32} {n : Nat} {i : Nat} {x : Int32} : (hp_X cI cZ cO o b ad v r n).set 5 (b 5, .inl (cZ, 4, .inl (upd (r 17) i x))) = hp_X cI cZ cO o b ad v (hp_set r 17 i x) n := rfl
theorem hp_X_p2 {cI cZ cO : ClassId} {o : Nat} {b ad : Nat → Nat} {v : Nat → Int32} {r : Nat → Nat → Int32} {n : Nat} {x : Int32} : (hp_X cI cZ cO o b ad v r n).set 0 (o, .inr (1, ([.ref (b 0), .int (nI n), .ref (b 2), .ref (b 3), .ref (b 4), .ref (b 5), .int (v 2), .int (v 1)] : List Value).set 6 (.int x))) = hp_X cI cZ cO o b ad (va_up v 2 x) r n := rfl
theorem hp_X_p1 {cI cZ cO : ClassId} {o : Nat} {b ad : Nat → Nat} {v : Nat → Int32} {r : Nat → Nat → Int32} {n : Nat} {x : Int32} : (hp_X cI cZ cO o b ad v r n).set 0 (o, .inr (1, ([.ref (b 0), .int (nI n), .ref (b 2), .ref (b 3), .ref (b 4), .ref (b 5), .int (v 2), .int (v 1)] : List Value).set 7 (.int x))) = hp_X cI cZ cO o b ad (va_up v 1 x) r n := rfl
theorem hp_X_e {cI cZ cO : ClassId} {o : Nat} {b ad : Nat → Nat} {v : Nat → Int32} {r : Nat → Nat → Int32} {n : Nat} {i : Nat} (h : i < n) : (hp_X cI cZ cO o b ad v r n)[6 + i]? = some (ad i, .inr (0, [.int (r 4 i), .int (r 5 i), .int (r 6 i), .int (r 7 i), .int (r 8 i), .int (r 9 i), .int (r 10 i), .int (r 11 i), .int (r 12 i), .int (r 13 i)])) := hp_Es_get 6 rfl h
theorem hp_X_f2 {cI cZ cO : ClassId} {o : Nat} {b ad : Nat → Nat} {v : Nat → Int32} {r : Nat → Nat → Int32} {n : Nat} {i : Nat} {x : Int32} (h : i < n) : (hp_X cI cZ cO o b ad v r n).set (6 + i) (ad i, .inr (0, ([.int (r 4 i), .int (r 5 i), .int (r 6 i), .int (r 7 i), .int (r 8 i), .int (r 9 i), .int (r 10 i), .int (r 11 i), .int (r 12 i), .int (r 13 i)] : List Value).set 2 (.int x))) = hp_X cI cZ cO o b ad v (hp_set r 6 i x) n := hp_Es_set 6 rfl h (by simp [hp_E, hp_set, va_up, upd]) (fun j hj => by simp [hp_E, hp_set, va_up, upd, hj])
theorem hp_X_f3 {cI cZ cO : ClassId} {o : Nat} {b ad : Nat → Nat} {v : Nat → Int32} {r : Nat → Nat → Int32} {n : Nat} {i : Nat} {x : Int32} (h : i < n) : (hp_X cI cZ cO o b ad v r n).set (6 + i) (ad i, .inr (0, ([.int (r 4 i), .int (r 5 i), .int (r 6 i), .int (r 7 i), .int (r 8 i), .int (r 9 i), .int (r 10 i), .int (r 11 i), .int (r 12 i), .int (r 13 i)] : List Value).set 3 (.int x))) = hp_X cI cZ cO o b ad v (hp_set r 7 i x) n := hp_Es_set 6 rfl h (by simp [hp_E, hp_set, va_up, upd]) (fun j hj => by simp [hp_E, hp_set, va_up, upd, hj])
theorem hp_X_f4 {cI cZ cO : ClassId} {o : Nat} {b ad : Nat → Nat} {v : Nat → Int32} {r : Nat → Nat → Int32} {n : Nat} {i : Nat} {x : Int32} (h : i < n) : (hp_X cI cZ cO o b ad v r n).set (6 + i) (ad i, .inr (0, ([.int (r 4 i), .int (r 5 i), .int (r 6 i), .int (r 7 i), .int (r 8 i), .int (r 9 i), .int (r 10 i), .int (r 11 i), .int (r 12 i), .int (r 13 i)] : List Value).set 4 (.int x))) = hp_X cI cZ cO o b ad v (hp_set r 8 i x) n := hp_Es_set 6 rfl h (by simp [hp_E, hp_set, va_up, upd]) (fun j hj => by simp [hp_E, hp_set, va_up, upd, hj])
theorem hp_X_f5 {cI cZ cO : ClassId} {o : Nat} {b ad : Nat → Nat} {v : Nat → Int32} {r : Nat → Nat → Int32} {n : Nat} {i : Nat} {x : Int32} (h : i < n) : (hp_X cI cZ cO o b ad v r n).set (6 + i) (ad i, .inr (0, ([.int (r 4 i), .int (r 5 i), .int (r 6 i), .int (r 7 i), .int (r 8 i), .int (r 9 i), .int (r 10 i), .int (r 11 i), .int (r 12 i), .int (r 13 i)] : List Value).set 5 (.int x))) = hp_X cI cZ cO o b ad v (hp_set r 9 i x) n := hp_Es_set 6 rfl h (by simp [hp_E, hp_set, va_up, upd]) (fun j hj => by simp [hp_E, hp_set, va_up, upd, hj])
theorem hp_X_f6 {cI cZ cO : ClassId} {o : Nat} {b ad : Nat → Nat} {v : Nat → Int32} {r : Nat → Nat → Int32} {n : Nat} {i : Nat} {x : Int32} (h : i < n) : (hp_X cI cZ cO o b ad v r n).set (6 + i) (ad i, .inr (0, ([.int (r 4 i), .int (r 5 i), .int (r 6 i), .int (r 7 i), .int (r 8 i), .int (r 9 i), .int (r 10 i), .int (r 11 i), .int (r 12 i), .int (r 13 i)] : List Value).set 6 (.int x))) = hp_X cI cZ cO o b ad v (hp_set r 10 i x) n := hp_Es_set 6 rfl h (by simp [hp_E, hp_set, va_up, upd]) (fun j hj => by simp [hp_E, hp_set, va_up, upd, hj])
theorem hp_X_f7 {cI cZ cO : ClassId} {o : Nat} {b ad : Nat → Nat} {v : Nat → Int32} {r : Nat → Nat → Int32} {n : Nat} {i : Nat} {x : Int32} (h : i < n) : (hp_X cI cZ cO o b ad v r n).set (6 + i) (ad i, .inr (0, ([.int (r 4 i), .int (r 5 i), .int (r 6 i), .int (r 7 i), .int (r 8 i), .int (r 9 i), .int (r 10 i), .int (r 11 i), .int (r 12 i), .int (r 13 i)] : List Value).set 7 (.int x))) = hp_X cI cZ cO o b ad v (hp_set r 11 i x) n := hp_Es_set 6 rfl h (by simp [hp_E, hp_set, va_up, upd]) (fun j hj => by simp [hp_E, hp_set, va_up, upd, hj])
theorem hp_X_f8 {cI cZ cO : ClassId} {o : Nat} {b ad : Nat → Nat} {v : Nat → Int32} {r : Nat → Nat → Int32} {n : Nat} {i : Nat} {x : Int32} (h : i < n) : (hp_X cI cZ cO o b ad v r n).set (6 + i) (ad i, .inr (0, ([.int (r 4 i), .int (r 5 i), .int (r 6 i), .int (r 7 i), .int (r 8 i), .int (r 9 i), .int (r 10 i), .int (r 11 i), .int (r 12 i), .int (r 13 i)] : List Value).set 8 (.int x))) = hp_X cI cZ cO o b ad v (hp_set r 12 i x) n := hp_Es_set 6 rfl h (by simp [hp_E, hp_set, va_up, upd]) (fun j hj => by simp [hp_E, hp_set, va_up, upd, hj])
theorem hp_X_f9 {cI cZ cO : ClassId} {o : Nat} {b ad : Nat → Nat} {v : Nat → Int32} {r : Nat → Nat → Int32} {n : Nat} {i : Nat} {x : Int32} (h : i < n) : (hp_X cI cZ cO o b ad v r n).set (6 + i) (ad i, .inr (0, ([.int (r 4 i), .int (r 5 i), .int (r 6 i), .int (r 7 i), .int (r 8 i), .int (r 9 i), .int (r 10 i), .int (r 11 i), .int (r 12 i), .int (r 13 i)] : List Value).set 9 (.int x))) = hp_X cI cZ cO o b ad v (hp_set r 13 i x) n := hp_Es_set 6 rfl h (by simp [hp_E, hp_set, va_up, upd]) (fun j hj => by simp [hp_E, hp_set, va_up, upd, hj])
end
section
/-! what each call answers, and what it changes, in the numbers of a house -/
def hp_cd (a b c : Bool) : Int32 := if a = false then 1 else if b = false then 2 else if c = false then 3 else 0
theorem hp_cd0 {a b c : Bool} (h : hp_cd a b c = 0) : a = true ∧ b = true ∧ c = true := by
  cases a <;> cases b <;> cases c <;> first | exact ⟨rfl, rfl, rfl⟩ | exact absurd h (by decide)
theorem hp_cd_ok {a b c : Bool} (h : ¬ hp_cd a b c = 0) : a = false ∨ (a = true ∧ b = false) ∨ (a = true ∧ b = true ∧ c = false) := by
  cases a <;> cases b <;> cases c <;> simp_all [hp_cd]
theorem hp_andl {a b : Bool} (h : (a && b) = true) : a = true := by cases a <;> simp_all
theorem hp_andr {a b : Bool} (h : (a && b) = true) : b = true := by cases a <;> simp_all
theorem hp_eq0 {x : Int32} (h : (!(x == 0)) = false) : x = 0 := by simpa using h
theorem hp_ne0 {x : Int32} (h : (!(x == 0)) = true) : ¬ x = 0 := by simpa using h
theorem hp_el_ix {n : Nat} (hn : n ≤ 40) {x : Int32} (h : hp_el n x = true) : x = nI x.toNatClampNeg ∧ x.toNatClampNeg < n := by
  obtain ⟨i, hi, rfl⟩ := hp_el_of hn h
  rw [nI_clamp (by omega)]
  exact ⟨rfl, hi⟩
theorem hp_kd_ix {x : Int32} (h : hp_kd x = true) : x = nI x.toNatClampNeg ∧ x.toNatClampNeg < 3 := by
  obtain ⟨i, hi, rfl⟩ := hp_kd_of h
  rw [nI_clamp (by omega)]
  exact ⟨rfl, hi⟩
theorem hp_st_ix {x : Int32} (h : hp_st x = true) : x = nI x.toNatClampNeg ∧ x.toNatClampNeg < 4 := by
  obtain ⟨i, hi, rfl⟩ := hp_st_of h
  rw [nI_clamp (by omega)]
  exact ⟨rfl, hi⟩
theorem hp_vin {x : Int32} {N M : Nat} (h : x = nI x.toNatClampNeg ∧ x.toNatClampNeg < N) (hM : N ≤ M) (hb : M < 2 ^ 31) : vp_in x M := by
  rw [h.1]
  exact vp_in_nI (by omega) hb
/-- the codes -/
abbrev hp_c_add (r : Nat → Nat → Int32) (n : Nat) (t f x y z w : Int32) : Int32 := hp_cd (hp_kd t && hp_st f) (hp_si x && hp_si y && hp_si z && hp_si w && (x == z || y == w)) ((r 17 f.toNatClampNeg == 0) && !(nI n == 40))
abbrev hp_c_move (v : Nat → Int32) (r : Nat → Nat → Int32) (n : Nat) (t b p x y : Int32) : Int32 := hp_cd (hp_kd t && hp_el n p) (hp_in b 0 (v 2) && hp_in x (-11) 11 && hp_in y (-11) 11 && hp_si (r 6 p.toNatClampNeg + x) && hp_si (r 8 p.toNatClampNeg + x) && hp_si (r 7 p.toNatClampNeg + y) && hp_si (r 9 p.toNatClampNeg + y)) (r 10 p.toNatClampNeg == 0)
abbrev hp_c_remove (v : Nat → Int32) (r : Nat → Nat → Int32) (n : Nat) (t b p : Int32) : Int32 := hp_cd (hp_kd t && hp_el n p) (hp_in b 0 (v 2)) (r 10 p.toNatClampNeg == 0)
abbrev hp_c_clear (k j c : Int32) : Int32 := hp_cd (hp_kd k && hp_kd j) (hp_in c 0 3) true
abbrev hp_c_part (k c : Int32) : Int32 := hp_cd (hp_kd k) (hp_in c 1 12) true
abbrev hp_c_lead (k c : Int32) : Int32 := hp_cd (hp_kd k) (hp_in c 0 100) true
abbrev hp_c_sta (r : Nat → Nat → Int32) (n : Nat) (p q : Int32) : Int32 := hp_cd (hp_el n p) (r 10 p.toNatClampNeg == q) true
abbrev hp_c_inspect (r : Nat → Nat → Int32) (f : Int32) : Int32 := hp_cd (hp_st f) (r 17 f.toNatClampNeg == 0) true
abbrev hp_c_pass (v : Nat → Int32) (d : Int32) : Int32 := hp_cd (hp_in d 1 100) (decide (v 1 + d ≤ 500)) true
abbrev hp_c_elementOf (n : Nat) (p w : Int32) : Int32 := hp_cd (hp_el n p) (hp_in w 0 9) true
abbrev hp_c_clash (n : Nat) (p q : Int32) : Int32 := hp_cd (hp_el n p && hp_el n q) true true
abbrev hp_c_st (f : Int32) : Int32 := hp_cd (hp_st f) true true
abbrev hp_c_kd (f : Int32) : Int32 := hp_cd (hp_kd f) true true
abbrev hp_c_stopped (t f : Int32) : Int32 := hp_cd (hp_kd t && hp_st f) true true
abbrev hp_c_kindsAt (f x y : Int32) : Int32 := hp_cd (hp_st f) (hp_si x && hp_si y) true
/-- changes -/
def hp_chg (r : Nat → Nat → Int32) (i : Nat) (rev t : Int32) : Nat → Nat → Int32 := hp_set (hp_set r 11 i rev) 12 i t
def hp_new (r : Nat → Nat → Int32) (n : Nat) (t f x y z w rev : Int32) : Nat → Nat → Int32 :=
  hp_chg (hp_set (hp_set (hp_set (hp_set (hp_set (hp_set r 4 n t) 5 n f) 6 n x) 7 n y) 8 n z) 9 n w) n rev t
def hp_mov (r : Nat → Nat → Int32) (i : Nat) (x y : Int32) : Nat → Nat → Int32 :=
  hp_set (hp_set (hp_set (hp_set r 6 i (r 6 i + x)) 8 i (r 8 i + x)) 7 i (r 7 i + y)) 9 i (r 9 i + y)
def hp_tk (r : Nat → Nat → Int32) (t b : Int32) (i : Nat) : Bool := decide (r 11 i ≤ b) || r 12 i == t || decide (t < r 12 i)
def hp_rv (v : Nat → Int32) : Nat → Int32 := va_up v 2 (v 2 + 1)
def hp_r_add (v : Nat → Int32) (r : Nat → Nat → Int32) (n : Nat) (t f x y z w : Int32) : Nat → Nat → Int32 := if hp_c_add r n t f x y z w = 0 then hp_new r n t f x y z w (v 2 + 1) else r
def hp_v_add (v : Nat → Int32) (r : Nat → Nat → Int32) (n : Nat) (t f x y z w : Int32) : Nat → Int32 := if hp_c_add r n t f x y z w = 0 then hp_rv v else v
def hp_n_add (r : Nat → Nat → Int32) (n : Nat) (t f x y z w : Int32) : Nat := if hp_c_add r n t f x y z w = 0 then n + 1 else n
def hp_a_add (r : Nat → Nat → Int32) (n : Nat) (t f x y z w : Int32) : Int32 := if hp_c_add r n t f x y z w = 0 then nI n else 0
def hp_b_move (v : Nat → Int32) (r : Nat → Nat → Int32) (n : Nat) (t b p x y : Int32) : Bool := decide (hp_c_move v r n t b p x y = 0) && hp_tk r t b p.toNatClampNeg
def hp_r_move (v : Nat → Int32) (r : Nat → Nat → Int32) (n : Nat) (t b p x y : Int32) : Nat → Nat → Int32 := if hp_b_move v r n t b p x y = true then hp_chg (hp_mov r p.toNatClampNeg x y) p.toNatClampNeg (v 2 + 1) t else r
def hp_v_move (v : Nat → Int32) (r : Nat → Nat → Int32) (n : Nat) (t b p x y : Int32) : Nat → Int32 := if hp_b_move v r n t b p x y = true then hp_rv v else v
def hp_r_remove (v : Nat → Int32) (r : Nat → Nat → Int32) (n : Nat) (t b p : Int32) : Nat → Nat → Int32 := if hp_c_remove v r n t b p = 0 then hp_chg (hp_set r 10 p.toNatClampNeg 4) p.toNatClampNeg (v 2 + 1) t else r
def hp_v_remove (v : Nat → Int32) (r : Nat → Nat → Int32) (n : Nat) (t b p : Int32) : Nat → Int32 := if hp_c_remove v r n t b p = 0 then hp_rv v else v
def hp_ci (k j : Int32) : Nat := (3 * k + j).toNatClampNeg
def hp_r_clear (r : Nat → Nat → Int32) (k j c : Int32) : Nat → Nat → Int32 := if hp_c_clear k j c = 0 then hp_set (hp_set r 14 (hp_ci k j) c) 14 (hp_ci j k) c else r
def hp_a_clear (r : Nat → Nat → Int32) (k j c : Int32) : Int32 := if hp_c_clear k j c = 0 then r 14 (hp_ci k j) else 0
def hp_r_part (r : Nat → Nat → Int32) (k c : Int32) : Nat → Nat → Int32 := if hp_c_part k c = 0 then hp_set r 15 k.toNatClampNeg c else r
def hp_a_part (r : Nat → Nat → Int32) (k c : Int32) : Int32 := if hp_c_part k c = 0 then r 15 k.toNatClampNeg else 0
def hp_r_lead (r : Nat → Nat → Int32) (k c : Int32) : Nat → Nat → Int32 := if hp_c_lead k c = 0 then hp_set r 16 k.toNatClampNeg c else r
def hp_a_lead (r : Nat → Nat → Int32) (k c : Int32) : Int32 := if hp_c_lead k c = 0 then r 16 k.toNatClampNeg else 0
def hp_due (v : Nat → Int32) (r : Nat → Nat → Int32) (i : Nat) : Int32 := v 1 + r 16 (r 4 i).toNatClampNeg
def hp_r_order (v : Nat → Int32) (r : Nat → Nat → Int32) (n : Nat) (p : Int32) : Nat → Nat → Int32 := if hp_c_sta r n p 0 = 0 then hp_set (hp_set r 13 p.toNatClampNeg (hp_due v r p.toNatClampNeg)) 10 p.toNatClampNeg (if hp_due v r p.toNatClampNeg = v 1 then 2 else 1) else r
def hp_a_order (r : Nat → Nat → Int32) (n : Nat) (p : Int32) : Int32 := if hp_c_sta r n p 0 = 0 then hp_par r p.toNatClampNeg else 0
def hp_r_cancel (r : Nat → Nat → Int32) (n : Nat) (p : Int32) : Nat → Nat → Int32 := if hp_c_sta r n p 1 = 0 then hp_set r 10 p.toNatClampNeg 0 else r
def hp_a_cancel (v : Nat → Int32) (r : Nat → Nat → Int32) (n : Nat) (p : Int32) : Int32 := if hp_c_sta r n p 1 = 0 then r 13 p.toNatClampNeg - v 1 else 0
def hp_b_build (r : Nat → Nat → Int32) (n : Nat) (p : Int32) : Bool := decide (hp_c_sta r n p 2 = 0) && !(hp_has r n p.toNatClampNeg)
def hp_r_build (r : Nat → Nat → Int32) (n : Nat) (p : Int32) : Nat → Nat → Int32 := if hp_b_build r n p = true then hp_set r 10 p.toNatClampNeg 3 else r
/-- element i counts on the storey f, and it is in order there -/
def hp_on (r : Nat → Nat → Int32) (f : Int32) (i : Nat) : Bool := r 5 i == f && !(r 10 i == 4)
def hp_oki (r : Nat → Nat → Int32) (n : Nat) (f : Int32) (i : Nat) : Bool := !(hp_on r f i) || (r 10 i == 3 && !(hp_has r n i))
def hp_cnt (f : Nat → Bool) : Nat → Nat
  | 0 => 0
  | n + 1 => hp_cnt f n + (if f n = true then 1 else 0)
def hp_fin (r : Nat → Nat → Int32) (n : Nat) (f : Int32) : Bool := hp_all (hp_oki r n f) n && hp_any (hp_on r f) n
def hp_b_inspect (r : Nat → Nat → Int32) (n : Nat) (f : Int32) : Bool := decide (hp_c_inspect r f = 0) && hp_fin r n f
def hp_r_inspect (r : Nat → Nat → Int32) (n : Nat) (f : Int32) : Nat → Nat → Int32 := if hp_c_inspect r f = 0 then hp_set r 17 f.toNatClampNeg (hp_b (hp_fin r n f)) else r
def hp_dl (r : Nat → Nat → Int32) (d : Int32) (n : Nat) : Nat → Nat → Int32 := va_up r 10 (fun i => if (decide (i < n) && (r 10 i == 1) && decide (r 13 i ≤ d)) = true then 2 else r 10 i)
def hp_r_pass (v : Nat → Int32) (r : Nat → Nat → Int32) (n : Nat) (d : Int32) : Nat → Nat → Int32 := if hp_c_pass v d = 0 then hp_dl r (v 1 + d) n else r
def hp_v_pass (v : Nat → Int32) (d : Int32) : Nat → Int32 := if hp_c_pass v d = 0 then va_up v 1 (v 1 + d) else v
def hp_a_pass (v : Nat → Int32) (d : Int32) : Int32 := if hp_c_pass v d = 0 then v 1 + d else 0
def hp_elof (r : Nat → Nat → Int32) (i : Nat) (w : Int32) : Int32 := if w = 0 then r 4 i else if w = 1 then r 5 i else if w = 2 then r 6 i else if w = 3 then r 7 i else if w = 4 then r 8 i else if w = 5 then r 9 i else if w = 6 then r 10 i else if w = 7 then r 11 i else if w = 8 then r 12 i else hp_cel r i
def hp_a_elementOf (r : Nat → Nat → Int32) (n : Nat) (p w : Int32) : Int32 := if hp_c_elementOf n p w = 0 then hp_elof r p.toNatClampNeg w else 0
def hp_b_clash (r : Nat → Nat → Int32) (n : Nat) (p q : Int32) : Bool := decide (hp_c_clash n p q = 0) && hp_cla r p.toNatClampNeg q.toNatClampNeg
def hp_b2n (b : Bool) : Int32 := hp_b b
/-- the pairs of element i with those of a lower number, on the storey f -/
def hp_prs (r : Nat → Nat → Int32) (f : Int32) (i : Nat) : Nat → Int32 := hp_sum (fun j => if (r 5 i == f && hp_cla r i j) = true then 1 else 0)
def hp_a_clashes (r : Nat → Nat → Int32) (n : Nat) (f : Int32) : Int32 := if hp_c_st f = 0 then hp_sum (fun i => hp_prs r f i i) n else 0
def hp_stp (r : Nat → Nat → Int32) (n : Nat) (t f : Int32) (i : Nat) : Bool := r 4 i == t && r 5 i == f && hp_has r n i
def hp_b_stopped (r : Nat → Nat → Int32) (n : Nat) (t f : Int32) : Bool := decide (hp_c_stopped t f = 0) && hp_any (hp_stp r n t f) n
def hp_a_parts (r : Nat → Nat → Int32) (n : Nat) (k low : Int32) : Int32 := if hp_c_kd k = 0 then hp_lst r n k low else 0
def hp_at (r : Nat → Nat → Int32) (f x y : Int32) (i : Nat) : Bool := !(r 10 i == 4) && (r 5 i == f) && (hp_gap (r 6 i) (r 8 i) x x == 0) && (hp_gap (r 7 i) (r 9 i) y y == 0)
def hp_bits (r : Nat → Nat → Int32) (f x y : Int32) : Nat → Int32
  | 0 => 0
  | n + 1 => hp_bits r f x y n ||| (if hp_at r f x y n = true then 1 <<< (r 4 n &&& 31) else 0)
def hp_a_kindsAt (r : Nat → Nat → Int32) (n : Nat) (f x y : Int32) : Int32 := if hp_c_kindsAt f x y = 0 then hp_bits r f x y n else 0
def hp_b_isLocked (r : Nat → Nat → Int32) (f : Int32) : Bool := decide (hp_c_st f = 0) && !(r 17 f.toNatClampNeg == 0)
theorem hp_cd1 {a b c : Bool} (h : a = false) : 1 = hp_cd a b c := by rw [h]; rfl
theorem hp_cd2 {a b c : Bool} (h : a = true) (h2 : b = false) : 2 = hp_cd a b c := by rw [h, h2]; rfl
theorem hp_cd3 {a b c : Bool} (h : a = true) (h2 : b = true) (h3 : c = false) : 3 = hp_cd a b c := by rw [h, h2, h3]; rfl
theorem hp_cdz {a b c : Bool} (h : a = true) (h2 : b = true) (h3 : c = true) : 0 = hp_cd a b c := by rw [h, h2, h3]; rfl
theorem hp_lt40 {n : Nat} (hn : n ≤ 40) (h : (!(nI n == 40)) = true) : n < 40 := by
  rcases Nat.lt_or_ge n 40 with q | q
  · exact q
  · have : n = 40 := by omega
    subst this
    exact absurd h (by decide)
theorem hp_ci_in {k j : Int32} (hk : hp_kd k = true) (hj : hp_kd j = true) : vp_in (3 * k + j) 9 := by
  obtain ⟨a, ha, rfl⟩ := hp_kd_of hk
  obtain ⟨b, hb, rfl⟩ := hp_kd_of hj
  show vp_in (nI 3 * nI a + nI b) 9
  rw [pk_mul, nI_add]
  exact vp_in_nI (by omega) (by decide)
theorem hp_cnt_le (f : Nat → Bool) (n : Nat) : hp_cnt f n ≤ n := by
  induction n with
  | zero => exact Nat.le_refl 0
  | succ n ih => simp only [hp_cnt]; split <;> omega
theorem hp_cnt_any (f : Nat → Bool) (n : Nat) : (0 < hp_cnt f n) ↔ hp_any f n = true := by
  induction n with
  | zero => simp [hp_cnt, hp_any]
  | succ n ih =>
    simp only [hp_cnt, hp_any, Bool.or_eq_true]
    by_cases h : f n = true
    · simp [h]
    · simp [h, ih]
theorem hp_cntP {f : Nat → Bool} {n : Nat} (hn : n ≤ 40) (h : ¬ nI (hp_cnt f n) ≤ 0) : hp_any f n = true := by
  have h1 := hp_cnt_le f n
  refine (hp_cnt_any f n).mp (Nat.pos_of_ne_zero (fun e => h ?_))
  rw [e]
  decide
theorem hp_cntN {f : Nat → Bool} {n : Nat} (hn : n ≤ 40) (h : nI (hp_cnt f n) ≤ 0) : hp_any f n = false := by
  have h1 := hp_cnt_le f n
  cases hq : hp_any f n with
  | false => rfl
  | true => exact absurd h (nI_nle ((hp_cnt_any f n).mpr hq) (by omega))
theorem hp_dl0 (r : Nat → Nat → Int32) (d : Int32) : hp_dl r d 0 = r := by
  funext a i
  by_cases h : a = 10
  · subst h
    simp [hp_dl, va_up]
  · simp [hp_dl, va_up, h]
theorem hp_dl1 (r : Nat → Nat → Int32) (d : Int32) (k : Nat) : hp_set (hp_dl r d k) 10 k (if ((r 10 k == 1) && decide (r 13 k ≤ d)) = true then 2 else r 10 k) = hp_dl r d (k + 1) := by
  funext a i
  by_cases h : a = 10
  · subst h
    by_cases hi : i = k
    · subst hi
      simp [hp_set, hp_dl, va_up, upd]
    · have e : (i < k + 1) ↔ (i < k) := by omega
      simp [hp_set, hp_dl, va_up, upd, hi, e]
  · simp [hp_set, hp_dl, va_up, h]
theorem hp_dlk (r : Nat → Nat → Int32) (d : Int32) (k : Nat) : hp_dl r d k 10 k = r 10 k := by simp [hp_dl, va_up]
/-! more rows -/
section HPB
variable {p : Program} {l : Launch} {e : Env} {R : Room} {s : State} {m : MethodId} {args : Array Value} {below : List Frame} {meth : Method} {c : Code} {H : Heap} {locs : List Loc} {cells slots : Nat} {Q : State → Prop}
variable {cc : ByteArray} {pc : Nat} {ls : Array Slot} {rest : List Value} {D : va_G} {cl : List vw_C} {A : Nat → Prop} {a : Nat} {tys : List (ClassId × FieldType)} {ws : va_W} {H0 : Heap}
theorem hp_ialdx (hexec : p.tables.exec = Jvm.exec) (hb : c.code = cc) (hK : va_K D cl tys s) (hP : va_P D cl ws H) (q0 t0 : Nat) {cA : ClassId} {n : Nat} {i v : Int32} {f : Nat → Int32} (ha : ws[q0]? = some (a, .inl (cA, n, .inl f))) (ht : tys[t0]? = some (cA, .int)) (hin : vp_in i n) (hv : f i.toNatClampNeg = v) (hdg : decode cc pc = .ok (.iaload, 1))
    (kk : W p l e R s m args below meth c H locs cells slots Q (F0 m (pc + 1) ls (.int v :: rest))) : W p l e R s m args below meth c H locs cells slots Q (F0 m pc ls (.int i :: .ref a :: rest)) :=
  va_iald hexec hb hK hP q0 t0 ha ht hin hdg (by rw [hv]; exact kk)
theorem hp_zaldx (hexec : p.tables.exec = Jvm.exec) (hb : c.code = cc) (hK : va_K D cl tys s) (hP : va_P D cl ws H) (q0 t0 : Nat) {cA : ClassId} {n : Nat} {i v : Int32} {f : Nat → Int32} (ha : ws[q0]? = some (a, .inl (cA, n, .inl f))) (ht : tys[t0]? = some (cA, .boolean)) (hin : vp_in i n) (hv : f i.toNatClampNeg = v) (hdg : decode cc pc = .ok (.baload, 1))
    (kk : W p l e R s m args below meth c H locs cells slots Q (F0 m (pc + 1) ls (.int v :: rest))) : W p l e R s m args below meth c H locs cells slots Q (F0 m pc ls (.int i :: .ref a :: rest)) :=
  va_zald hexec hb hK hP q0 t0 ha ht hin hdg (by rw [hv]; exact kk)
theorem hp_top {x y : Int32} (h : x = y) (k : W p l e R s m args below meth c H locs cells slots Q (F0 m pc ls (.int y :: rest))) : W p l e R s m args below meth c H locs cells slots Q (F0 m pc ls (.int x :: rest)) := by rw [h]; exact k
theorem hp_loopM {pc nL : Nat} (LV : Nat → List (Nat × Value)) (WS : Nat → va_W) (N : Nat)
    (step : ∀ k, k ≤ N → (k < N → ∀ (H : Heap) (locs : List Loc) (ls : Array Slot), va_P D cl (WS (k + 1)) H → va_S A H0 H locs → lv_has ls nL (LV (k + 1)) → W p l e R s m args below meth c H locs cells slots Q (F0 m pc ls [])) → ∀ (H : Heap) (locs : List Loc) (ls : Array Slot), va_P D cl (WS k) H → va_S A H0 H locs → lv_has ls nL (LV k) → W p l e R s m args below meth c H locs cells slots Q (F0 m pc ls []))
    (hP : va_P D cl (WS 0) H) (hS : va_S A H0 H locs) (hl : lv_has ls nL (LV 0)) : W p l e R s m args below meth c H locs cells slots Q (F0 m pc ls []) := by
  have key : ∀ f k, k ≤ N → N - k ≤ f → ∀ (H : Heap) (locs : List Loc) (ls : Array Slot), va_P D cl (WS k) H → va_S A H0 H locs → lv_has ls nL (LV k) → W p l e R s m args below meth c H locs cells slots Q (F0 m pc ls []) := by
    intro f
    induction f with
    | zero => exact fun k hk hf => step k hk (fun hlt => absurd hlt (by omega))
    | succ f ih => exact fun k hk hf => step k hk (fun hlt => ih (k + 1) (by omega) (by omega))
  exact key N 0 (Nat.zero_le N) (by omega) H locs ls hP hS hl
end HPB
theorem hp_bt2 {b : Bool} (h : b = true) : 1 = hp_b b := by rw [h]; rfl
theorem hp_bf2 {b : Bool} (h : b = false) : 0 = hp_b b := by rw [h]; rfl
theorem hp_ht {D : va_G} {cl : List vw_C} {w : va_W} {t : State} {H : Heap} (ht : t.heap = H) (h : va_P D cl w H) : va_P D cl w t.heap := by rw [ht]; exact h
theorem hp_th {D : va_G} {cl : List vw_C} {w : va_W} {t : State} {H : Heap} (ht : t.heap = H) (h : va_P D cl w t.heap) : va_P D cl w H := by rw [← ht]; exact h
theorem hp_up_rv (v : Nat → Int32) (c : Int32) : hp_rv (va_up v 0 c) = va_up (hp_rv v) 0 c := by
  funext j
  by_cases h : j = 2
  · subst h; simp [hp_rv, va_up]
  · simp [hp_rv, va_up, h]
theorem hp_up_1 (v : Nat → Int32) (c d : Int32) : va_up (va_up v 0 c) 1 d = va_up (va_up v 1 d) 0 c := by
  funext j
  by_cases h : j = 1
  · subst h; simp [va_up]
  · simp [va_up, h]
end
section
/-! the reference: its methods that only read -/
set_option maxHeartbeats 400000 in
set_option maxRecDepth 100000 in
theorem c_X2_in (l : Launch)  (p0 p1 p2 : Int32) : Met l yX2_in wsX2_in ({ frames := 0, cells := 0, slots := 0, locals := 0 }) (va_Pc [.int p0, .int p1, .int p2] hp_no) (vp_Si (fun x9 => x9 = hp_b (hp_in p0 p1 p2))) 0 0 (fun _ => False) := by
  refine Met.ofW (cc := cX2_in) (maxL := 3) (ret := (some .boolean)) (by decide) rfl ?_
  intro p e s m args below meth c s₁ B hml hv
  obtain ⟨rfl, -⟩ := hv
  have hx := B.exec
  have hb := B.bytes
  have hr := B.returns
  have hts := atoms_spec (ws := wsX2_in) B.pre
  have hown : s.vm.findClass RX2 = some m.cls := findClass_of_methodNamed B.named
  have hlocks := B.notSynchronized
  have hl := lv_entry ([.int p0, .int p1, .int p2]) (n := 3) (Nat.le_of_ble_eq_true rfl)
  rw [lg_entry_eq]
  generalize (lg_sl ([.int p0, .int p1, .int p2]) ++ List.replicate (3 - (lg_sl ([.int p0, .int p1, .int p2])).length) Slot.unset).toArray = ls at hl ⊢
  have hl : lv_has ls 3 [(0, .int p0), (1, .int p1), (2, .int p2)] := hl
  refine lv_iload_n hx hb dX2_in_0 rfl (lv_at hl 0 rfl) ?_
  refine lv_iload_n hx hb dX2_in_1 rfl (lv_at hl 1 rfl) ?_
  refine lv_icmp_lt (tgt := 14) hx hb dX2_in_2 (by decide) (fun c_1 => ?_) (fun c_1 => ?_)
  · skip
    have c_1n := hp_ltn c_1
    refine lv_iconst (v := 0) hx hb dX2_in_14 (by decide) ?_
    exact W.zret (ty := .boolean) (v := 0) hx hb hr rfl (fun t ht hW => ⟨_, rfl, (by simp [hp_b, hp_in, c_1, c_1n]), ht⟩) (fun _ h => nomatch h) dX2_in_15
  · skip
    have c_1p := hp_nlt c_1
    refine lv_iload_n hx hb dX2_in_5 rfl (lv_at hl 0 rfl) ?_
    refine lv_iload_n hx hb dX2_in_6 rfl (lv_at hl 2 rfl) ?_
    refine lv_icmp_gt (tgt := 14) hx hb dX2_in_7 (by decide) (fun c_2 => ?_) (fun c_2 => ?_)
    · skip
      have c_2n := hp_ltn c_2
      refine lv_iconst (v := 0) hx hb dX2_in_14 (by decide) ?_
      exact W.zret (ty := .boolean) (v := 0) hx hb hr rfl (fun t ht hW => ⟨_, rfl, (by simp [hp_b, hp_in, c_1, c_1p, c_2, c_2n]), ht⟩) (fun _ h => nomatch h) dX2_in_15
    · skip
      have c_2p := hp_nlt c_2
      refine lv_iconst (v := 1) hx hb dX2_in_10 (by decide) ?_
      refine lv_goto (tgt := 15) hx hb dX2_in_11 (by decide) ?_
      exact W.zret (ty := .boolean) (v := 1) hx hb hr rfl (fun t ht hW => ⟨_, rfl, (by simp [hp_b, hp_in, c_1, c_1p, c_2, c_2p]), ht⟩) (fun _ h => nomatch h) dX2_in_15
set_option maxHeartbeats 400000 in
set_option maxRecDepth 100000 in
theorem c_X2_isTrade (l : Launch)  (p0 : Int32) : Met l yX2_isTrade wsX2_isTrade ({ frames := 1, cells := 0, slots := 0, locals := 22 }) (va_Pc [.int p0] hp_no) (vp_Si (fun x9 => x9 = hp_b (hp_kd p0))) 0 0 (fun _ => False) := by
  refine Met.ofW (cc := cX2_isTrade) (maxL := 1) (ret := (some .boolean)) (by decide) rfl ?_
  intro p e s m args below meth c s₁ B hml hv
  obtain ⟨rfl, -⟩ := hv
  have hx := B.exec
  have hb := B.bytes
  have hr := B.returns
  have hts := atoms_spec (ws := wsX2_isTrade) B.pre
  have hown : s.vm.findClass RX2 = some m.cls := findClass_of_methodNamed B.named
  have hlocks := B.notSynchronized
  have hl := lv_entry ([.int p0]) (n := 1) (Nat.le_of_ble_eq_true rfl)
  rw [lg_entry_eq]
  generalize (lg_sl ([.int p0]) ++ List.replicate (1 - (lg_sl ([.int p0])).length) Slot.unset).toArray = ls at hl ⊢
  have hl : lv_has ls 1 [(0, .int p0)] := hl
  refine lv_iload_n hx hb dX2_isTrade_0 rfl (lv_at hl 0 rfl) ?_
  refine lv_iconst (v := 0) hx hb dX2_isTrade_1 (by decide) ?_
  refine lv_iconst (v := 2) hx hb dX2_isTrade_2 (by decide) ?_
  refine vp_callSi (W.runS (As := [.int p0, .int 0, .int 2]) (rest := []) ⟨hx, hb, hml, hown, hts⟩ (c_X2_in l p0 0 2) (va_cwS 3 hts gX2_isTrade_X2_in rfl rfl rfl (by decide +kernel) ⟨(Nat.le_of_ble_eq_true rfl), (Nat.le_of_ble_eq_true rfl)⟩) ⟨hp_nfb, fun _ _ _ => ⟨rfl, trivial⟩⟩ rfl rfl hl.1 rfl (lv_room (Nat.le_of_ble_eq_true rfl)) dX2_isTrade_3 ⟨(Nat.zero_le _), (Nat.zero_le _)⟩) (fun r_1 hr_1 => ?_)
  subst hr_1
  exact W.zret (ty := .boolean) (v := hp_b (hp_in p0 0 2)) hx hb hr (hp_nar _) (fun t ht hW => ⟨_, rfl, (by rfl), ht⟩) (fun _ h => nomatch h) dX2_isTrade_6
set_option maxHeartbeats 400000 in
set_option maxRecDepth 100000 in
theorem c_X2_isStorey (l : Launch)  (p0 : Int32) : Met l yX2_isStorey wsX2_isStorey ({ frames := 1, cells := 0, slots := 0, locals := 22 }) (va_Pc [.int p0] hp_no) (vp_Si (fun x9 => x9 = hp_b (hp_st p0))) 0 0 (fun _ => False) := by
  refine Met.ofW (cc := cX2_isStorey) (maxL := 1) (ret := (some .boolean)) (by decide) rfl ?_
  intro p e s m args below meth c s₁ B hml hv
  obtain ⟨rfl, -⟩ := hv
  have hx := B.exec
  have hb := B.bytes
  have hr := B.returns
  have hts := atoms_spec (ws := wsX2_isStorey) B.pre
  have hown : s.vm.findClass RX2 = some m.cls := findClass_of_methodNamed B.named
  have hlocks := B.notSynchronized
  have hl := lv_entry ([.int p0]) (n := 1) (Nat.le_of_ble_eq_true rfl)
  rw [lg_entry_eq]
  generalize (lg_sl ([.int p0]) ++ List.replicate (1 - (lg_sl ([.int p0])).length) Slot.unset).toArray = ls at hl ⊢
  have hl : lv_has ls 1 [(0, .int p0)] := hl
  refine lv_iload_n hx hb dX2_isStorey_0 rfl (lv_at hl 0 rfl) ?_
  refine lv_iconst (v := 0) hx hb dX2_isStorey_1 (by decide) ?_
  refine lv_iconst (v := 3) hx hb dX2_isStorey_2 (by decide) ?_
  refine vp_callSi (W.runS (As := [.int p0, .int 0, .int 3]) (rest := []) ⟨hx, hb, hml, hown, hts⟩ (c_X2_in l p0 0 3) (va_cwS 3 hts gX2_isStorey_X2_in rfl rfl rfl (by decide +kernel) ⟨(Nat.le_of_ble_eq_true rfl), (Nat.le_of_ble_eq_true rfl)⟩) ⟨hp_nfb, fun _ _ _ => ⟨rfl, trivial⟩⟩ rfl rfl hl.1 rfl (lv_room (Nat.le_of_ble_eq_true rfl)) dX2_isStorey_3 ⟨(Nat.zero_le _), (Nat.zero_le _)⟩) (fun r_1 hr_1 => ?_)
  subst hr_1
  exact W.zret (ty := .boolean) (v := hp_b (hp_in p0 0 3)) hx hb hr (hp_nar _) (fun t ht hW => ⟨_, rfl, (by rfl), ht⟩) (fun _ h => nomatch h) dX2_isStorey_6
set_option maxHeartbeats 400000 in
set_option maxRecDepth 100000 in
theorem c_X2_isSide (l : Launch)  (p0 : Int32) : Met l yX2_isSide wsX2_isSide ({ frames := 1, cells := 0, slots := 0, locals := 22 }) (va_Pc [.int p0] hp_no) (vp_Si (fun x9 => x9 = hp_b (hp_si p0))) 0 0 (fun _ => False) := by
  refine Met.ofW (cc := cX2_isSide) (maxL := 1) (ret := (some .boolean)) (by decide) rfl ?_
  intro p e s m args below meth c s₁ B hml hv
  obtain ⟨rfl, -⟩ := hv
  have hx := B.exec
  have hb := B.bytes
  have hr := B.returns
  have hts := atoms_spec (ws := wsX2_isSide) B.pre
  have hown : s.vm.findClass RX2 = some m.cls := findClass_of_methodNamed B.named
  have hlocks := B.notSynchronized
  have hl := lv_entry ([.int p0]) (n := 1) (Nat.le_of_ble_eq_true rfl)
  rw [lg_entry_eq]
  generalize (lg_sl ([.int p0]) ++ List.replicate (1 - (lg_sl ([.int p0])).length) Slot.unset).toArray = ls at hl ⊢
  have hl : lv_has ls 1 [(0, .int p0)] := hl
  refine lv_iload_n hx hb dX2_isSide_0 rfl (lv_at hl 0 rfl) ?_
  refine lv_iconst (v := 0) hx hb dX2_isSide_1 (by decide) ?_
  refine lv_bipush (v := 11) hx hb dX2_isSide_2 (by decide) ?_
  refine vp_callSi (W.runS (As := [.int p0, .int 0, .int 11]) (rest := []) ⟨hx, hb, hml, hown, hts⟩ (c_X2_in l p0 0 11) (va_cwS 3 hts gX2_isSide_X2_in rfl rfl rfl (by decide +kernel) ⟨(Nat.le_of_ble_eq_true rfl), (Nat.le_of_ble_eq_true rfl)⟩) ⟨hp_nfb, fun _ _ _ => ⟨rfl, trivial⟩⟩ rfl rfl hl.1 rfl (lv_room (Nat.le_of_ble_eq_true rfl)) dX2_isSide_4 ⟨(Nat.zero_le _), (Nat.zero_le _)⟩) (fun r_1 hr_1 => ?_)
  subst hr_1
  exact W.zret (ty := .boolean) (v := hp_b (hp_in p0 0 11)) hx hb hr (hp_nar _) (fun t ht hW => ⟨_, rfl, (by rfl), ht⟩) (fun _ h => nomatch h) dX2_isSide_7
set_option maxHeartbeats 400000 in
set_option maxRecDepth 100000 in
theorem c_X2_size (l : Launch)  (p0 : Int32) : Met l yX2_size wsX2_size ({ frames := 0, cells := 0, slots := 0, locals := 0 }) (va_Pc [.int p0] hp_no) (vp_Si (fun x9 => x9 = hp_abs p0)) 0 0 (fun _ => False) := by
  refine Met.ofW (cc := cX2_size) (maxL := 1) (ret := (some .int)) (by decide) rfl ?_
  intro p e s m args below meth c s₁ B hml hv
  obtain ⟨rfl, -⟩ := hv
  have hx := B.exec
  have hb := B.bytes
  have hr := B.returns
  have hts := atoms_spec (ws := wsX2_size) B.pre
  have hown : s.vm.findClass RX2 = some m.cls := findClass_of_methodNamed B.named
  have hlocks := B.notSynchronized
  have hl := lv_entry ([.int p0]) (n := 1) (Nat.le_of_ble_eq_true rfl)
  rw [lg_entry_eq]
  generalize (lg_sl ([.int p0]) ++ List.replicate (1 - (lg_sl ([.int p0])).length) Slot.unset).toArray = ls at hl ⊢
  have hl : lv_has ls 1 [(0, .int p0)] := hl
  refine lv_iload_n hx hb dX2_size_0 rfl (lv_at hl 0 rfl) ?_
  refine lv_if_ge (tgt := 9) hx hb dX2_size_1 (by decide) (fun c_1 => ?_) (fun c_1 => ?_)
  · skip
    have c_1n := hp_len c_1
    refine lv_iload_n hx hb dX2_size_9 rfl (lv_at hl 0 rfl) ?_
    exact W.iret (v := p0) hx hb hr (fun t ht hW => ⟨_, rfl, (by simp [hp_abs, c_1, c_1n]), ht⟩) (fun _ h => nomatch h) dX2_size_10
  · skip
    have c_1p := hp_nle c_1
    refine lv_iload_n hx hb dX2_size_4 rfl (lv_at hl 0 rfl) ?_
    refine lv_ineg hx hb dX2_size_5 ?_
    refine lv_goto (tgt := 10) hx hb dX2_size_6 (by decide) ?_
    exact W.iret (v := -p0) hx hb hr (fun t ht hW => ⟨_, rfl, (by simp [hp_abs, c_1, c_1p]), ht⟩) (fun _ h => nomatch h) dX2_size_10
set_option maxHeartbeats 400000 in
set_option maxRecDepth 100000 in
theorem c_X2_gap (l : Launch)  (p0 p1 p2 p3 : Int32) : Met l yX2_gap wsX2_gap ({ frames := 0, cells := 0, slots := 0, locals := 0 }) (va_Pc [.int p0, .int p1, .int p2, .int p3] hp_no) (vp_Si (fun x9 => x9 = hp_gap p0 p1 p2 p3)) 0 0 (fun _ => False) := by
  refine Met.ofW (cc := cX2_gap) (maxL := 8) (ret := (some .int)) (by decide) rfl ?_
  intro p e s m args below meth c s₁ B hml hv
  obtain ⟨rfl, -⟩ := hv
  have hx := B.exec
  have hb := B.bytes
  have hr := B.returns
  have hts := atoms_spec (ws := wsX2_gap) B.pre
  have hown : s.vm.findClass RX2 = some m.cls := findClass_of_methodNamed B.named
  have hlocks := B.notSynchronized
  have hl := lv_entry ([.int p0, .int p1, .int p2, .int p3]) (n := 8) (Nat.le_of_ble_eq_true rfl)
  rw [lg_entry_eq]
  generalize (lg_sl ([.int p0, .int p1, .int p2, .int p3]) ++ List.replicate (8 - (lg_sl ([.int p0, .int p1, .int p2, .int p3])).length) Slot.unset).toArray = ls at hl ⊢
  have hl : lv_has ls 8 [(0, .int p0), (1, .int p1), (2, .int p2), (3, .int p3)] := hl
  refine hp_join 10 8 (fun x1 : Int32 => x1 = (if p0 < p1 then p0 else p1)) (fun x1 => [(0, .int p0), (1, .int p1), (2, .int p2), (3, .int p3)]) (fun x1 => [.int x1]) (fun x1 hx_2 ls hl => ?_) (fun jn_2 => ?_)
  · skip
    subst hx_2
    refine lv_istore (lv' := [(4, .int (if p0 < p1 then p0 else p1)), (0, .int p0), (1, .int p1), (2, .int p2), (3, .int p3)]) hx hb dX2_gap_10 hl (by decide) rfl (fun ls hl => ?_)
    refine hp_join 22 8 (fun x3 : Int32 => x3 = (if p0 < p1 then p1 else p0)) (fun x3 => [(4, .int (if p0 < p1 then p0 else p1)), (0, .int p0), (1, .int p1), (2, .int p2), (3, .int p3)]) (fun x3 => [.int x3]) (fun x3 hx_4 ls hl => ?_) (fun jn_4 => ?_)
    · skip
      subst hx_4
      refine lv_istore (lv' := [(5, .int (if p0 < p1 then p1 else p0)), (4, .int (if p0 < p1 then p0 else p1)), (0, .int p0), (1, .int p1), (2, .int p2), (3, .int p3)]) hx hb dX2_gap_22 hl (by decide) rfl (fun ls hl => ?_)
      refine hp_join 34 8 (fun x5 : Int32 => x5 = (if p2 < p3 then p2 else p3)) (fun x5 => [(5, .int (if p0 < p1 then p1 else p0)), (4, .int (if p0 < p1 then p0 else p1)), (0, .int p0), (1, .int p1), (2, .int p2), (3, .int p3)]) (fun x5 => [.int x5]) (fun x5 hx_6 ls hl => ?_) (fun jn_6 => ?_)
      · skip
        subst hx_6
        refine lv_istore (lv' := [(6, .int (if p2 < p3 then p2 else p3)), (5, .int (if p0 < p1 then p1 else p0)), (4, .int (if p0 < p1 then p0 else p1)), (0, .int p0), (1, .int p1), (2, .int p2), (3, .int p3)]) hx hb dX2_gap_34 hl (by decide) rfl (fun ls hl => ?_)
        refine hp_join 46 8 (fun x7 : Int32 => x7 = (if p2 < p3 then p3 else p2)) (fun x7 => [(6, .int (if p2 < p3 then p2 else p3)), (5, .int (if p0 < p1 then p1 else p0)), (4, .int (if p0 < p1 then p0 else p1)), (0, .int p0), (1, .int p1), (2, .int p2), (3, .int p3)]) (fun x7 => [.int x7]) (fun x7 hx_8 ls hl => ?_) (fun jn_8 => ?_)
        · skip
          subst hx_8
          refine lv_istore (lv' := [(7, .int (if p2 < p3 then p3 else p2)), (6, .int (if p2 < p3 then p2 else p3)), (5, .int (if p0 < p1 then p1 else p0)), (4, .int (if p0 < p1 then p0 else p1)), (0, .int p0), (1, .int p1), (2, .int p2), (3, .int p3)]) hx hb dX2_gap_46 hl (by decide) rfl (fun ls hl => ?_)
          refine lv_iload hx hb dX2_gap_48 (lv_at hl 1 rfl) ?_
          refine lv_iload hx hb dX2_gap_50 (lv_at hl 2 rfl) ?_
          refine lv_icmp_le (tgt := 63) hx hb dX2_gap_52 (by decide) (fun c_9 => ?_) (fun c_9 => ?_)
          · skip
            have c_9n := hp_len c_9
            refine lv_iload hx hb dX2_gap_63 (lv_at hl 3 rfl) ?_
            refine lv_iload hx hb dX2_gap_65 (lv_at hl 0 rfl) ?_
            refine lv_icmp_le (tgt := 78) hx hb dX2_gap_67 (by decide) (fun c_10 => ?_) (fun c_10 => ?_)
            · skip
              have c_10n := hp_len c_10
              refine lv_iconst (v := 0) hx hb dX2_gap_78 (by decide) ?_
              exact W.iret (v := 0) hx hb hr (fun t ht hW => ⟨_, rfl, (by simp only [hp_gap]; simp [c_9, c_9n, c_10, c_10n]), ht⟩) (fun _ h => nomatch h) dX2_gap_79
            · skip
              have c_10p := hp_nle c_10
              refine lv_iload hx hb dX2_gap_70 (lv_at hl 3 rfl) ?_
              refine lv_iload hx hb dX2_gap_72 (lv_at hl 0 rfl) ?_
              refine lv_isub hx hb dX2_gap_74 ?_
              refine lv_goto (tgt := 79) hx hb dX2_gap_75 (by decide) ?_
              exact W.iret (v := (if p0 < p1 then p0 else p1) - (if p2 < p3 then p3 else p2)) hx hb hr (fun t ht hW => ⟨_, rfl, (by simp only [hp_gap]; simp [c_9, c_9n, c_10, c_10p]), ht⟩) (fun _ h => nomatch h) dX2_gap_79
          · skip
            have c_9p := hp_nle c_9
            refine lv_iload hx hb dX2_gap_55 (lv_at hl 1 rfl) ?_
            refine lv_iload hx hb dX2_gap_57 (lv_at hl 2 rfl) ?_
            refine lv_isub hx hb dX2_gap_59 ?_
            refine lv_goto (tgt := 79) hx hb dX2_gap_60 (by decide) ?_
            exact W.iret (v := (if p2 < p3 then p2 else p3) - (if p0 < p1 then p1 else p0)) hx hb hr (fun t ht hW => ⟨_, rfl, (by simp only [hp_gap]; simp [c_9, c_9p]), ht⟩) (fun _ h => nomatch h) dX2_gap_79
        · skip
          refine lv_iload_n hx hb dX2_gap_36 rfl (lv_at hl 5 rfl) ?_
          refine lv_iload_n hx hb dX2_gap_37 rfl (lv_at hl 6 rfl) ?_
          refine lv_icmp_ge (tgt := 45) hx hb dX2_gap_38 (by decide) (fun c_11 => ?_) (fun c_11 => ?_)
          · skip
            have c_11n := hp_len c_11
            refine lv_iload_n hx hb dX2_gap_45 rfl (lv_at hl 5 rfl) ?_
            exact jn_8 p2 (by simp [c_11, c_11n]) _ (lv_sub hl [0, 1, 2, 3, 4, 5, 6] rfl)
          · skip
            have c_11p := hp_nle c_11
            refine lv_iload_n hx hb dX2_gap_41 rfl (lv_at hl 6 rfl) ?_
            refine lv_goto (tgt := 46) hx hb dX2_gap_42 (by decide) ?_
            exact jn_8 p3 (by simp [c_11, c_11p]) _ (lv_sub hl [0, 1, 2, 3, 4, 5, 6] rfl)
      · skip
        refine lv_iload_n hx hb dX2_gap_24 rfl (lv_at hl 4 rfl) ?_
        refine lv_iload_n hx hb dX2_gap_25 rfl (lv_at hl 5 rfl) ?_
        refine lv_icmp_ge (tgt := 33) hx hb dX2_gap_26 (by decide) (fun c_12 => ?_) (fun c_12 => ?_)
        · skip
          have c_12n := hp_len c_12
          refine lv_iload_n hx hb dX2_gap_33 rfl (lv_at hl 5 rfl) ?_
          exact jn_6 p3 (by simp [c_12, c_12n]) _ (lv_sub hl [0, 1, 2, 3, 4, 5] rfl)
        · skip
          have c_12p := hp_nle c_12
          refine lv_iload_n hx hb dX2_gap_29 rfl (lv_at hl 4 rfl) ?_
          refine lv_goto (tgt := 34) hx hb dX2_gap_30 (by decide) ?_
          exact jn_6 p2 (by simp [c_12, c_12p]) _ (lv_sub hl [0, 1, 2, 3, 4, 5] rfl)
    · skip
      refine lv_iload_n hx hb dX2_gap_12 rfl (lv_at hl 1 rfl) ?_
      refine lv_iload_n hx hb dX2_gap_13 rfl (lv_at hl 2 rfl) ?_
      refine lv_icmp_ge (tgt := 21) hx hb dX2_gap_14 (by decide) (fun c_13 => ?_) (fun c_13 => ?_)
      · skip
        have c_13n := hp_len c_13
        refine lv_iload_n hx hb dX2_gap_21 rfl (lv_at hl 1 rfl) ?_
        exact jn_4 p0 (by simp [c_13, c_13n]) _ (lv_sub hl [0, 1, 2, 3, 4] rfl)
      · skip
        have c_13p := hp_nle c_13
        refine lv_iload_n hx hb dX2_gap_17 rfl (lv_at hl 2 rfl) ?_
        refine lv_goto (tgt := 22) hx hb dX2_gap_18 (by decide) ?_
        exact jn_4 p1 (by simp [c_13, c_13p]) _ (lv_sub hl [0, 1, 2, 3, 4] rfl)
  · skip
    refine lv_iload_n hx hb dX2_gap_0 rfl (lv_at hl 0 rfl) ?_
    refine lv_iload_n hx hb dX2_gap_1 rfl (lv_at hl 1 rfl) ?_
    refine lv_icmp_ge (tgt := 9) hx hb dX2_gap_2 (by decide) (fun c_14 => ?_) (fun c_14 => ?_)
    · skip
      have c_14n := hp_len c_14
      refine lv_iload_n hx hb dX2_gap_9 rfl (lv_at hl 1 rfl) ?_
      exact jn_2 p1 (by simp [c_14, c_14n]) _ (lv_sub hl [0, 1, 2, 3] rfl)
    · skip
      have c_14p := hp_nle c_14
      refine lv_iload_n hx hb dX2_gap_5 rfl (lv_at hl 0 rfl) ?_
      refine lv_goto (tgt := 10) hx hb dX2_gap_6 (by decide) ?_
      exact jn_2 p0 (by simp [c_14, c_14p]) _ (lv_sub hl [0, 1, 2, 3] rfl)
set_option maxHeartbeats 400000 in
set_option maxRecDepth 100000 in
theorem c_X2_isElement (l : Launch) (dC : Nat → ClassId) (dI : Nat → Nat → Nat) (cI cZ cO cJ : ClassId) (o : Nat) (a : Nat → Nat) (v : Nat → Int32) (r : Nat → Nat → Int32) (n : Nat)  (p0 : Int32) : Met l yX2_isElement wsX2_isElement ({ frames := 1, cells := 0, slots := 0, locals := 22 }) (va_Pc [.ref o, .int p0] (hp_pre (dC, dI) cI cZ cO cJ (hp_M cI cZ o a v r n))) (vp_Si (fun x9 => x9 = hp_b (hp_el n p0))) 0 0 (fun _ => False) := by
  refine Met.ofW (cc := cX2_isElement) (maxL := 2) (ret := (some .boolean)) (by decide) rfl ?_
  intro p e s m args below meth c s₁ B hml hv
  obtain ⟨rfl, hP, hK⟩ := hv
  have hx := B.exec
  have hb := B.bytes
  have hr := B.returns
  have hts := atoms_spec (ws := wsX2_isElement) B.pre
  have hown : s.vm.findClass RX2 = some m.cls := findClass_of_methodNamed B.named
  have hlocks := B.notSynchronized
  have hf_61 := hts (.fieldLink RX2 61 "WallplanModel" "elements" "I") (by decide +kernel)
  have hinX2 : ∀ w ∈ wsX20, w ∈ wsX2_isElement := by decide +kernel
  have hl := lv_entry ([.ref o, .int p0]) (n := 2) (Nat.le_of_ble_eq_true rfl)
  rw [lg_entry_eq]
  generalize (lg_sl ([.ref o, .int p0]) ++ List.replicate (2 - (lg_sl ([.ref o, .int p0])).length) Slot.unset).toArray = ls at hl ⊢
  have hl : lv_has ls 2 [(0, .ref o), (1, .int p0)] := hl
  refine lv_iload_n hx hb dX2_isElement_0 rfl (lv_at hl 1 rfl) ?_
  refine lv_iconst (v := 0) hx hb dX2_isElement_1 (by decide) ?_
  refine lv_aload_n hx hb dX2_isElement_2 rfl (lv_at hl 0 rfl) ?_
  refine va_get (D := (dC, dI)) (ci := 2) (v := .int (nI n)) (C := RX2) (T := TX2) (N := 18) hx hb hts hinX2 hown hK hP 0 hp_M_o rfl 3 (by decide) hf_61 (fun _ h9 => h9) rfl dX2_isElement_3 ?_
  refine lv_iconst (v := 1) hx hb dX2_isElement_6 (by decide) ?_
  refine lv_isub hx hb dX2_isElement_7 ?_
  refine vp_callSi (W.runS (As := [.int p0, .int 0, .int ((nI n) - 1)]) (rest := []) ⟨hx, hb, hml, hown, hts⟩ (c_X2_in l p0 0 ((nI n) - 1)) (va_cwS 3 hts gX2_isElement_X2_in rfl rfl rfl (by decide +kernel) ⟨(Nat.le_of_ble_eq_true rfl), (Nat.le_of_ble_eq_true rfl)⟩) ⟨hp_nfb, fun _ _ _ => ⟨rfl, trivial⟩⟩ rfl rfl hl.1 rfl (lv_room (Nat.le_of_ble_eq_true rfl)) dX2_isElement_8 ⟨(Nat.zero_le _), (Nat.zero_le _)⟩) (fun r_1 hr_1 => ?_)
  subst hr_1
  exact W.zret (ty := .boolean) (v := hp_b (hp_in p0 0 ((nI n) - 1))) hx hb hr (hp_nar _) (fun t ht hW => ⟨_, rfl, (by rfl), ht⟩) (fun _ h => nomatch h) dX2_isElement_11
set_option maxHeartbeats 400000 in
set_option maxRecDepth 100000 in
theorem c_X2_isTaken (l : Launch) (dC : Nat → ClassId) (dI : Nat → Nat → Nat) (cI cZ cO cJ : ClassId) (o : Nat) (a : Nat → Nat) (v : Nat → Int32) (r : Nat → Nat → Int32) (n : Nat) (i : Nat) (x_i : Int32) (hx_i : x_i = nI i) (p0 p1 : Int32) (hi : i < 40) : Met l yX2_isTaken wsX2_isTaken ({ frames := 0, cells := 0, slots := 0, locals := 0 }) (va_Pc [.ref o, .int p0, .int p1, .int x_i] (hp_pre (dC, dI) cI cZ cO cJ (hp_M cI cZ o a v r n))) (vp_Si (fun x9 => x9 = hp_b (decide (r 11 i ≤ p1) || r 12 i == p0 || decide (p0 < r 12 i)))) 0 0 (fun _ => False) := by
  refine Met.ofW (cc := cX2_isTaken) (maxL := 4) (ret := (some .boolean)) (by decide) rfl ?_
  intro p e s m args below meth c s₁ B hml hv
  obtain ⟨rfl, hP, hK⟩ := hv
  have hx := B.exec
  have hb := B.bytes
  have hr := B.returns
  have hts := atoms_spec (ws := wsX2_isTaken) B.pre
  have hown : s.vm.findClass RX2 = some m.cls := findClass_of_methodNamed B.named
  have hlocks := B.notSynchronized
  subst hx_i
  have hf_31 := hts (.fieldLink RX2 31 "WallplanModel" "changed" "[I") (by decide +kernel)
  have hf_34 := hts (.fieldLink RX2 34 "WallplanModel" "by" "[I") (by decide +kernel)
  have hinX2 : ∀ w ∈ wsX20, w ∈ wsX2_isTaken := by decide +kernel
  have hl := lv_entry ([.ref o, .int p0, .int p1, .int (nI i)]) (n := 4) (Nat.le_of_ble_eq_true rfl)
  rw [lg_entry_eq]
  generalize (lg_sl ([.ref o, .int p0, .int p1, .int (nI i)]) ++ List.replicate (4 - (lg_sl ([.ref o, .int p0, .int p1, .int (nI i)])).length) Slot.unset).toArray = ls at hl ⊢
  have hl : lv_has ls 4 [(0, .ref o), (1, .int p0), (2, .int p1), (3, .int (nI i))] := hl
  refine lv_aload_n hx hb dX2_isTaken_0 rfl (lv_at hl 0 rfl) ?_
  refine va_get (D := (dC, dI)) (ci := 2) (v := .ref (a 11)) (C := RX2) (T := TX2) (N := 18) hx hb hts hinX2 hown hK hP 0 hp_M_o rfl 11 (by decide) hf_31 (fun _ h9 => h9) rfl dX2_isTaken_1 ?_
  refine lv_iload_n hx hb dX2_isTaken_4 rfl (lv_at hl 3 rfl) ?_
  refine hp_iald (v := r 11 i) hx hb hK hP 8 0 hp_M_11 rfl (k := i) (by omega) (by decide) rfl dX2_isTaken_5 ?_
  refine lv_iload_n hx hb dX2_isTaken_6 rfl (lv_at hl 2 rfl) ?_
  refine lv_icmp_le (tgt := 30) hx hb dX2_isTaken_7 (by decide) (fun c_1 => ?_) (fun c_1 => ?_)
  · skip
    have c_1n := hp_len c_1
    refine lv_iconst (v := 1) hx hb dX2_isTaken_30 (by decide) ?_
    refine lv_goto (tgt := 35) hx hb dX2_isTaken_31 (by decide) ?_
    exact W.zret (ty := .boolean) (v := 1) hx hb hr rfl (fun t ht hW => ⟨_, rfl, (by simp [hp_b, c_1, c_1n]), ht⟩) (fun _ h => nomatch h) dX2_isTaken_35
  · skip
    have c_1p := hp_nle c_1
    refine lv_aload_n hx hb dX2_isTaken_10 rfl (lv_at hl 0 rfl) ?_
    refine va_get (D := (dC, dI)) (ci := 2) (v := .ref (a 12)) (C := RX2) (T := TX2) (N := 18) hx hb hts hinX2 hown hK hP 0 hp_M_o rfl 12 (by decide) hf_34 (fun _ h9 => h9) rfl dX2_isTaken_11 ?_
    refine lv_iload_n hx hb dX2_isTaken_14 rfl (lv_at hl 3 rfl) ?_
    refine hp_iald (v := r 12 i) hx hb hK hP 9 0 hp_M_12 rfl (k := i) (by omega) (by decide) rfl dX2_isTaken_15 ?_
    refine lv_iload_n hx hb dX2_isTaken_16 rfl (lv_at hl 1 rfl) ?_
    refine lv_icmp_eq (tgt := 30) hx hb dX2_isTaken_17 (by decide) (fun c_2 => ?_) (fun c_2 => ?_)
    · skip
      refine lv_iconst (v := 1) hx hb dX2_isTaken_30 (by decide) ?_
      refine lv_goto (tgt := 35) hx hb dX2_isTaken_31 (by decide) ?_
      exact W.zret (ty := .boolean) (v := 1) hx hb hr rfl (fun t ht hW => ⟨_, rfl, (by simp [hp_b, c_1, c_1p, c_2]), ht⟩) (fun _ h => nomatch h) dX2_isTaken_35
    · skip
      refine lv_iload_n hx hb dX2_isTaken_20 rfl (lv_at hl 1 rfl) ?_
      refine lv_aload_n hx hb dX2_isTaken_21 rfl (lv_at hl 0 rfl) ?_
      refine va_get (D := (dC, dI)) (ci := 2) (v := .ref (a 12)) (C := RX2) (T := TX2) (N := 18) hx hb hts hinX2 hown hK hP 0 hp_M_o rfl 12 (by decide) hf_34 (fun _ h9 => h9) rfl dX2_isTaken_22 ?_
      refine lv_iload_n hx hb dX2_isTaken_25 rfl (lv_at hl 3 rfl) ?_
      refine hp_iald (v := r 12 i) hx hb hK hP 9 0 hp_M_12 rfl (k := i) (by omega) (by decide) rfl dX2_isTaken_26 ?_
      refine lv_icmp_ge (tgt := 34) hx hb dX2_isTaken_27 (by decide) (fun c_3 => ?_) (fun c_3 => ?_)
      · skip
        have c_3n := hp_len c_3
        refine lv_iconst (v := 0) hx hb dX2_isTaken_34 (by decide) ?_
        exact W.zret (ty := .boolean) (v := 0) hx hb hr rfl (fun t ht hW => ⟨_, rfl, (by simp [hp_b, c_1, c_1p, c_2, c_3, c_3n]), ht⟩) (fun _ h => nomatch h) dX2_isTaken_35
      · skip
        have c_3p := hp_nle c_3
        refine lv_iconst (v := 1) hx hb dX2_isTaken_30 (by decide) ?_
        refine lv_goto (tgt := 35) hx hb dX2_isTaken_31 (by decide) ?_
        exact W.zret (ty := .boolean) (v := 1) hx hb hr rfl (fun t ht hW => ⟨_, rfl, (by simp [hp_b, c_1, c_1p, c_2, c_3, c_3p]), ht⟩) (fun _ h => nomatch h) dX2_isTaken_35
set_option maxHeartbeats 400000 in
set_option maxRecDepth 100000 in
theorem c_X2_cellsOf (l : Launch) (dC : Nat → ClassId) (dI : Nat → Nat → Nat) (cI cZ cO cJ : ClassId) (o : Nat) (a : Nat → Nat) (v : Nat → Int32) (r : Nat → Nat → Int32) (n : Nat) (i : Nat) (x_i : Int32) (hx_i : x_i = nI i) (hi : i < 40) : Met l yX2_cellsOf wsX2_cellsOf ({ frames := 1, cells := 0, slots := 0, locals := 20 }) (va_Pc [.ref o, .int x_i] (hp_pre (dC, dI) cI cZ cO cJ (hp_M cI cZ o a v r n))) (vp_Si (fun x9 => x9 = hp_cel r i)) 0 0 (fun _ => False) := by
  refine Met.ofW (cc := cX2_cellsOf) (maxL := 2) (ret := (some .int)) (by decide) rfl ?_
  intro p e s m args below meth c s₁ B hml hv
  obtain ⟨rfl, hP, hK⟩ := hv
  have hx := B.exec
  have hb := B.bytes
  have hr := B.returns
  have hts := atoms_spec (ws := wsX2_cellsOf) B.pre
  have hown : s.vm.findClass RX2 = some m.cls := findClass_of_methodNamed B.named
  have hlocks := B.notSynchronized
  subst hx_i
  have hf_16 := hts (.fieldLink RX2 16 "WallplanModel" "fromX" "[I") (by decide +kernel)
  have hf_19 := hts (.fieldLink RX2 19 "WallplanModel" "fromY" "[I") (by decide +kernel)
  have hf_22 := hts (.fieldLink RX2 22 "WallplanModel" "toX" "[I") (by decide +kernel)
  have hf_25 := hts (.fieldLink RX2 25 "WallplanModel" "toY" "[I") (by decide +kernel)
  have hinX2 : ∀ w ∈ wsX20, w ∈ wsX2_cellsOf := by decide +kernel
  have hl := lv_entry ([.ref o, .int (nI i)]) (n := 2) (Nat.le_of_ble_eq_true rfl)
  rw [lg_entry_eq]
  generalize (lg_sl ([.ref o, .int (nI i)]) ++ List.replicate (2 - (lg_sl ([.ref o, .int (nI i)])).length) Slot.unset).toArray = ls at hl ⊢
  have hl : lv_has ls 2 [(0, .ref o), (1, .int (nI i))] := hl
  refine lv_iconst (v := 1) hx hb dX2_cellsOf_0 (by decide) ?_
  refine lv_aload_n hx hb dX2_cellsOf_1 rfl (lv_at hl 0 rfl) ?_
  refine va_get (D := (dC, dI)) (ci := 2) (v := .ref (a 8)) (C := RX2) (T := TX2) (N := 18) hx hb hts hinX2 hown hK hP 0 hp_M_o rfl 8 (by decide) hf_22 (fun _ h9 => h9) rfl dX2_cellsOf_2 ?_
  refine lv_iload_n hx hb dX2_cellsOf_5 rfl (lv_at hl 1 rfl) ?_
  refine hp_iald (v := r 8 i) hx hb hK hP 5 0 hp_M_8 rfl (k := i) (by omega) (by decide) rfl dX2_cellsOf_6 ?_
  refine lv_aload_n hx hb dX2_cellsOf_7 rfl (lv_at hl 0 rfl) ?_
  refine va_get (D := (dC, dI)) (ci := 2) (v := .ref (a 6)) (C := RX2) (T := TX2) (N := 18) hx hb hts hinX2 hown hK hP 0 hp_M_o rfl 6 (by decide) hf_16 (fun _ h9 => h9) rfl dX2_cellsOf_8 ?_
  refine lv_iload_n hx hb dX2_cellsOf_11 rfl (lv_at hl 1 rfl) ?_
  refine hp_iald (v := r 6 i) hx hb hK hP 3 0 hp_M_6 rfl (k := i) (by omega) (by decide) rfl dX2_cellsOf_12 ?_
  refine lv_isub hx hb dX2_cellsOf_13 ?_
  refine vp_callSi (W.runS (As := [.int ((r 8 i) - (r 6 i))]) (rest := [.int 1]) ⟨hx, hb, hml, hown, hts⟩ (c_X2_size l ((r 8 i) - (r 6 i))) (va_cwS 1 hts gX2_cellsOf_X2_size rfl rfl rfl (by decide +kernel) ⟨(Nat.le_of_ble_eq_true rfl), (Nat.le_of_ble_eq_true rfl)⟩) ⟨hp_nfb, fun _ _ _ => ⟨rfl, trivial⟩⟩ rfl rfl hl.1 rfl (lv_room (Nat.le_of_ble_eq_true rfl)) dX2_cellsOf_14 ⟨(Nat.zero_le _), (Nat.zero_le _)⟩) (fun r_1 hr_1 => ?_)
  subst hr_1
  refine lv_iadd hx hb dX2_cellsOf_17 ?_
  refine lv_aload_n hx hb dX2_cellsOf_18 rfl (lv_at hl 0 rfl) ?_
  refine va_get (D := (dC, dI)) (ci := 2) (v := .ref (a 9)) (C := RX2) (T := TX2) (N := 18) hx hb hts hinX2 hown hK hP 0 hp_M_o rfl 9 (by decide) hf_25 (fun _ h9 => h9) rfl dX2_cellsOf_19 ?_
  refine lv_iload_n hx hb dX2_cellsOf_22 rfl (lv_at hl 1 rfl) ?_
  refine hp_iald (v := r 9 i) hx hb hK hP 6 0 hp_M_9 rfl (k := i) (by omega) (by decide) rfl dX2_cellsOf_23 ?_
  refine lv_aload_n hx hb dX2_cellsOf_24 rfl (lv_at hl 0 rfl) ?_
  refine va_get (D := (dC, dI)) (ci := 2) (v := .ref (a 7)) (C := RX2) (T := TX2) (N := 18) hx hb hts hinX2 hown hK hP 0 hp_M_o rfl 7 (by decide) hf_19 (fun _ h9 => h9) rfl dX2_cellsOf_25 ?_
  refine lv_iload_n hx hb dX2_cellsOf_28 rfl (lv_at hl 1 rfl) ?_
  refine hp_iald (v := r 7 i) hx hb hK hP 4 0 hp_M_7 rfl (k := i) (by omega) (by decide) rfl dX2_cellsOf_29 ?_
  refine lv_isub hx hb dX2_cellsOf_30 ?_
  refine vp_callSi (W.runS (As := [.int ((r 9 i) - (r 7 i))]) (rest := [.int (1 + (hp_abs ((r 8 i) - (r 6 i))))]) ⟨hx, hb, hml, hown, hts⟩ (c_X2_size l ((r 9 i) - (r 7 i))) (va_cwS 1 hts gX2_cellsOf_X2_size rfl rfl rfl (by decide +kernel) ⟨(Nat.le_of_ble_eq_true rfl), (Nat.le_of_ble_eq_true rfl)⟩) ⟨hp_nfb, fun _ _ _ => ⟨rfl, trivial⟩⟩ rfl rfl hl.1 rfl (lv_room (Nat.le_of_ble_eq_true rfl)) dX2_cellsOf_31 ⟨(Nat.zero_le _), (Nat.zero_le _)⟩) (fun r_2 hr_2 => ?_)
  subst hr_2
  refine lv_iadd hx hb dX2_cellsOf_34 ?_
  exact W.iret (v := (1 + (hp_abs ((r 8 i) - (r 6 i)))) + (hp_abs ((r 9 i) - (r 7 i)))) hx hb hr (fun t ht hW => ⟨_, rfl, (by rfl), ht⟩) (fun _ h => nomatch h) dX2_cellsOf_35
set_option maxHeartbeats 400000 in
set_option maxRecDepth 100000 in
theorem c_X2_partsOf (l : Launch) (dC : Nat → ClassId) (dI : Nat → Nat → Nat) (cI cZ cO cJ : ClassId) (o : Nat) (a : Nat → Nat) (v : Nat → Int32) (r : Nat → Nat → Int32) (n : Nat) (i : Nat) (x_i : Int32) (hx_i : x_i = nI i) (hi : i < 40) (hk : vp_in (r 4 i) 3) (hd : ¬ r 15 (r 4 i).toNatClampNeg = 0) : Met l yX2_partsOf wsX2_partsOf ({ frames := 2, cells := 0, slots := 0, locals := 41 }) (va_Pc [.ref o, .int x_i] (hp_pre (dC, dI) cI cZ cO cJ (hp_M cI cZ o a v r n))) (vp_Si (fun x9 => x9 = hp_par r i)) 0 0 (fun _ => False) := by
  refine Met.ofW (cc := cX2_partsOf) (maxL := 2) (ret := (some .int)) (by decide) rfl ?_
  intro p e s m args below meth c s₁ B hml hv
  obtain ⟨rfl, hP, hK⟩ := hv
  have hx := B.exec
  have hb := B.bytes
  have hr := B.returns
  have hts := atoms_spec (ws := wsX2_partsOf) B.pre
  have hown : s.vm.findClass RX2 = some m.cls := findClass_of_methodNamed B.named
  have hlocks := B.notSynchronized
  subst hx_i
  have hf_7 := hts (.fieldLink RX2 7 "WallplanModel" "kind" "[I") (by decide +kernel)
  have hf_43 := hts (.fieldLink RX2 43 "WallplanModel" "cells" "[I") (by decide +kernel)
  have hinX2 : ∀ w ∈ wsX20, w ∈ wsX2_partsOf := by decide +kernel
  have hl := lv_entry ([.ref o, .int (nI i)]) (n := 2) (Nat.le_of_ble_eq_true rfl)
  rw [lg_entry_eq]
  generalize (lg_sl ([.ref o, .int (nI i)]) ++ List.replicate (2 - (lg_sl ([.ref o, .int (nI i)])).length) Slot.unset).toArray = ls at hl ⊢
  have hl : lv_has ls 2 [(0, .ref o), (1, .int (nI i))] := hl
  refine lv_aload_n hx hb dX2_partsOf_0 rfl (lv_at hl 0 rfl) ?_
  refine lv_iload_n hx hb dX2_partsOf_1 rfl (lv_at hl 1 rfl) ?_
  refine vp_callSi (W.runV (As := [.int (nI i)]) (rest := []) ⟨hx, hb, hml, hown, hts⟩ (c_X2_cellsOf l dC dI cI cZ cO cJ o a v r n i (nI i) rfl (by omega)) (cwV 1 hts gX2_partsOf_X2_cellsOf rfl rfl rfl (by decide +kernel) ⟨(Nat.le_of_ble_eq_true rfl), (Nat.le_of_ble_eq_true rfl)⟩) ⟨hp_fb, va_recv hK hP (ci := 2) (q0 := 0) rfl hp_M_o, fun U hU hW => ⟨rfl, hp_to hP hK hU hW⟩⟩ rfl rfl hl.1 rfl (lv_room (Nat.le_of_ble_eq_true rfl)) dX2_partsOf_2 ⟨(Nat.zero_le _), (Nat.zero_le _)⟩) (fun r_1 hr_1 => ?_)
  subst hr_1
  refine lv_aload_n hx hb dX2_partsOf_5 rfl (lv_at hl 0 rfl) ?_
  refine va_get (D := (dC, dI)) (ci := 2) (v := .ref (a 15)) (C := RX2) (T := TX2) (N := 18) hx hb hts hinX2 hown hK hP 0 hp_M_o rfl 15 (by decide) hf_43 (fun _ h9 => h9) rfl dX2_partsOf_6 ?_
  refine lv_aload_n hx hb dX2_partsOf_9 rfl (lv_at hl 0 rfl) ?_
  refine va_get (D := (dC, dI)) (ci := 2) (v := .ref (a 4)) (C := RX2) (T := TX2) (N := 18) hx hb hts hinX2 hown hK hP 0 hp_M_o rfl 4 (by decide) hf_7 (fun _ h9 => h9) rfl dX2_partsOf_10 ?_
  refine lv_iload_n hx hb dX2_partsOf_13 rfl (lv_at hl 1 rfl) ?_
  refine hp_iald (v := r 4 i) hx hb hK hP 1 0 hp_M_4 rfl (k := i) (by omega) (by decide) rfl dX2_partsOf_14 ?_
  refine hp_ialdx (v := r 15 ((r 4 i).toNatClampNeg)) hx hb hK hP 12 0 hp_M_15 rfl (i := r 4 i) (by exact hk) rfl dX2_partsOf_15 ?_
  refine lv_iadd hx hb dX2_partsOf_16 ?_
  refine lv_iconst (v := 1) hx hb dX2_partsOf_17 (by decide) ?_
  refine lv_isub hx hb dX2_partsOf_18 ?_
  refine lv_aload_n hx hb dX2_partsOf_19 rfl (lv_at hl 0 rfl) ?_
  refine va_get (D := (dC, dI)) (ci := 2) (v := .ref (a 15)) (C := RX2) (T := TX2) (N := 18) hx hb hts hinX2 hown hK hP 0 hp_M_o rfl 15 (by decide) hf_43 (fun _ h9 => h9) rfl dX2_partsOf_20 ?_
  refine lv_aload_n hx hb dX2_partsOf_23 rfl (lv_at hl 0 rfl) ?_
  refine va_get (D := (dC, dI)) (ci := 2) (v := .ref (a 4)) (C := RX2) (T := TX2) (N := 18) hx hb hts hinX2 hown hK hP 0 hp_M_o rfl 4 (by decide) hf_7 (fun _ h9 => h9) rfl dX2_partsOf_24 ?_
  refine lv_iload_n hx hb dX2_partsOf_27 rfl (lv_at hl 1 rfl) ?_
  refine hp_iald (v := r 4 i) hx hb hK hP 1 0 hp_M_4 rfl (k := i) (by omega) (by decide) rfl dX2_partsOf_28 ?_
  refine hp_ialdx (v := r 15 ((r 4 i).toNatClampNeg)) hx hb hK hP 12 0 hp_M_15 rfl (i := r 4 i) (by exact hk) rfl dX2_partsOf_29 ?_
  refine lv_idiv hx hb dX2_partsOf_30 (by exact hd) ?_
  exact W.iret (v := (((hp_cel r i) + (r 15 ((r 4 i).toNatClampNeg))) - 1) / (r 15 ((r 4 i).toNatClampNeg))) hx hb hr (fun t ht hW => ⟨_, rfl, (by rfl), ht⟩) (fun _ h => nomatch h) dX2_partsOf_31
set_option maxHeartbeats 400000 in
set_option maxRecDepth 100000 in
theorem c_X2_doClash (l : Launch) (dC : Nat → ClassId) (dI : Nat → Nat → Nat) (cI cZ cO cJ : ClassId) (o : Nat) (a : Nat → Nat) (v : Nat → Int32) (r : Nat → Nat → Int32) (n : Nat) (i : Nat) (x_i : Int32) (hx_i : x_i = nI i) (j : Nat) (x_j : Int32) (hx_j : x_j = nI j) (hi : i < n) (hj : j < n) (hinv : hp_inv v r n) : Met l yX2_doClash wsX2_doClash ({ frames := 1, cells := 0, slots := 0, locals := 27 }) (va_Pc [.ref o, .int x_i, .int x_j] (hp_pre (dC, dI) cI cZ cO cJ (hp_M cI cZ o a v r n))) (vp_Si (fun x9 => x9 = hp_b (hp_cla r i j))) 0 0 (fun _ => False) := by
  refine Met.ofW (cc := cX2_doClash) (maxL := 5) (ret := (some .boolean)) (by decide) rfl ?_
  intro p e s m args below meth c s₁ B hml hv
  obtain ⟨rfl, hP, hK⟩ := hv
  have hx := B.exec
  have hb := B.bytes
  have hr := B.returns
  have hts := atoms_spec (ws := wsX2_doClash) B.pre
  have hown : s.vm.findClass RX2 = some m.cls := findClass_of_methodNamed B.named
  have hlocks := B.notSynchronized
  subst hx_i
  subst hx_j
  have hf_7 := hts (.fieldLink RX2 7 "WallplanModel" "kind" "[I") (by decide +kernel)
  have hf_13 := hts (.fieldLink RX2 13 "WallplanModel" "storey" "[I") (by decide +kernel)
  have hf_16 := hts (.fieldLink RX2 16 "WallplanModel" "fromX" "[I") (by decide +kernel)
  have hf_19 := hts (.fieldLink RX2 19 "WallplanModel" "fromY" "[I") (by decide +kernel)
  have hf_22 := hts (.fieldLink RX2 22 "WallplanModel" "toX" "[I") (by decide +kernel)
  have hf_25 := hts (.fieldLink RX2 25 "WallplanModel" "toY" "[I") (by decide +kernel)
  have hf_28 := hts (.fieldLink RX2 28 "WallplanModel" "state" "[I") (by decide +kernel)
  have hf_40 := hts (.fieldLink RX2 40 "WallplanModel" "clearance" "[I") (by decide +kernel)
  have hinX2 : ∀ w ∈ wsX20, w ∈ wsX2_doClash := by decide +kernel
  have hl := lv_entry ([.ref o, .int (nI i), .int (nI j)]) (n := 5) (Nat.le_of_ble_eq_true rfl)
  rw [lg_entry_eq]
  generalize (lg_sl ([.ref o, .int (nI i), .int (nI j)]) ++ List.replicate (5 - (lg_sl ([.ref o, .int (nI i), .int (nI j)])).length) Slot.unset).toArray = ls at hl ⊢
  have hl : lv_has ls 5 [(0, .ref o), (1, .int (nI i)), (2, .int (nI j))] := hl
  have hn := hinv.1
  refine lv_iload_n hx hb dX2_doClash_0 rfl (lv_at hl 1 rfl) ?_
  refine lv_iload_n hx hb dX2_doClash_1 rfl (lv_at hl 2 rfl) ?_
  refine lv_icmp_eq (tgt := 40) hx hb dX2_doClash_2 (by decide) (fun c_1 => ?_) (fun c_1 => ?_)
  · skip
    have c_1 := (nI_eq (a := i) (b := j) (by omega) (by omega)).mp c_1
    refine lv_iconst (v := 0) hx hb dX2_doClash_40 (by decide) ?_
    exact W.zret (ty := .boolean) (v := 0) hx hb hr rfl (fun t ht hW => ⟨_, rfl, (by simp [hp_cla, hp_cix, hp_b, c_1]), ht⟩) (fun _ h => nomatch h) dX2_doClash_41
  · skip
    have c_1 : ¬ i = j := fun h9 => c_1 ((nI_eq (a := i) (b := j) (by omega) (by omega)).mpr h9)
    refine lv_aload_n hx hb dX2_doClash_5 rfl (lv_at hl 0 rfl) ?_
    refine va_get (D := (dC, dI)) (ci := 2) (v := .ref (a 10)) (C := RX2) (T := TX2) (N := 18) hx hb hts hinX2 hown hK hP 0 hp_M_o rfl 10 (by decide) hf_28 (fun _ h9 => h9) rfl dX2_doClash_6 ?_
    refine lv_iload_n hx hb dX2_doClash_9 rfl (lv_at hl 1 rfl) ?_
    refine hp_iald (v := r 10 i) hx hb hK hP 7 0 hp_M_10 rfl (k := i) (by omega) (by decide) rfl dX2_doClash_10 ?_
    refine lv_iconst (v := 4) hx hb dX2_doClash_11 (by decide) ?_
    refine lv_icmp_eq (tgt := 40) hx hb dX2_doClash_12 (by decide) (fun c_2 => ?_) (fun c_2 => ?_)
    · skip
      refine lv_iconst (v := 0) hx hb dX2_doClash_40 (by decide) ?_
      exact W.zret (ty := .boolean) (v := 0) hx hb hr rfl (fun t ht hW => ⟨_, rfl, (by simp [hp_cla, hp_cix, hp_b, c_1, c_2]), ht⟩) (fun _ h => nomatch h) dX2_doClash_41
    · skip
      refine lv_aload_n hx hb dX2_doClash_15 rfl (lv_at hl 0 rfl) ?_
      refine va_get (D := (dC, dI)) (ci := 2) (v := .ref (a 10)) (C := RX2) (T := TX2) (N := 18) hx hb hts hinX2 hown hK hP 0 hp_M_o rfl 10 (by decide) hf_28 (fun _ h9 => h9) rfl dX2_doClash_16 ?_
      refine lv_iload_n hx hb dX2_doClash_19 rfl (lv_at hl 2 rfl) ?_
      refine hp_iald (v := r 10 j) hx hb hK hP 7 0 hp_M_10 rfl (k := j) (by omega) (by decide) rfl dX2_doClash_20 ?_
      refine lv_iconst (v := 4) hx hb dX2_doClash_21 (by decide) ?_
      refine lv_icmp_eq (tgt := 40) hx hb dX2_doClash_22 (by decide) (fun c_3 => ?_) (fun c_3 => ?_)
      · skip
        refine lv_iconst (v := 0) hx hb dX2_doClash_40 (by decide) ?_
        exact W.zret (ty := .boolean) (v := 0) hx hb hr rfl (fun t ht hW => ⟨_, rfl, (by simp [hp_cla, hp_cix, hp_b, c_1, c_2, c_3]), ht⟩) (fun _ h => nomatch h) dX2_doClash_41
      · skip
        refine lv_aload_n hx hb dX2_doClash_25 rfl (lv_at hl 0 rfl) ?_
        refine va_get (D := (dC, dI)) (ci := 2) (v := .ref (a 5)) (C := RX2) (T := TX2) (N := 18) hx hb hts hinX2 hown hK hP 0 hp_M_o rfl 5 (by decide) hf_13 (fun _ h9 => h9) rfl dX2_doClash_26 ?_
        refine lv_iload_n hx hb dX2_doClash_29 rfl (lv_at hl 1 rfl) ?_
        refine hp_iald (v := r 5 i) hx hb hK hP 2 0 hp_M_5 rfl (k := i) (by omega) (by decide) rfl dX2_doClash_30 ?_
        refine lv_aload_n hx hb dX2_doClash_31 rfl (lv_at hl 0 rfl) ?_
        refine va_get (D := (dC, dI)) (ci := 2) (v := .ref (a 5)) (C := RX2) (T := TX2) (N := 18) hx hb hts hinX2 hown hK hP 0 hp_M_o rfl 5 (by decide) hf_13 (fun _ h9 => h9) rfl dX2_doClash_32 ?_
        refine lv_iload_n hx hb dX2_doClash_35 rfl (lv_at hl 2 rfl) ?_
        refine hp_iald (v := r 5 j) hx hb hK hP 2 0 hp_M_5 rfl (k := j) (by omega) (by decide) rfl dX2_doClash_36 ?_
        refine lv_icmp_eq (tgt := 42) hx hb dX2_doClash_37 (by decide) (fun c_4 => ?_) (fun c_4 => ?_)
        · skip
          refine lv_aload_n hx hb dX2_doClash_42 rfl (lv_at hl 0 rfl) ?_
          refine va_get (D := (dC, dI)) (ci := 2) (v := .ref (a 6)) (C := RX2) (T := TX2) (N := 18) hx hb hts hinX2 hown hK hP 0 hp_M_o rfl 6 (by decide) hf_16 (fun _ h9 => h9) rfl dX2_doClash_43 ?_
          refine lv_iload_n hx hb dX2_doClash_46 rfl (lv_at hl 1 rfl) ?_
          refine hp_iald (v := r 6 i) hx hb hK hP 3 0 hp_M_6 rfl (k := i) (by omega) (by decide) rfl dX2_doClash_47 ?_
          refine lv_aload_n hx hb dX2_doClash_48 rfl (lv_at hl 0 rfl) ?_
          refine va_get (D := (dC, dI)) (ci := 2) (v := .ref (a 8)) (C := RX2) (T := TX2) (N := 18) hx hb hts hinX2 hown hK hP 0 hp_M_o rfl 8 (by decide) hf_22 (fun _ h9 => h9) rfl dX2_doClash_49 ?_
          refine lv_iload_n hx hb dX2_doClash_52 rfl (lv_at hl 1 rfl) ?_
          refine hp_iald (v := r 8 i) hx hb hK hP 5 0 hp_M_8 rfl (k := i) (by omega) (by decide) rfl dX2_doClash_53 ?_
          refine lv_aload_n hx hb dX2_doClash_54 rfl (lv_at hl 0 rfl) ?_
          refine va_get (D := (dC, dI)) (ci := 2) (v := .ref (a 6)) (C := RX2) (T := TX2) (N := 18) hx hb hts hinX2 hown hK hP 0 hp_M_o rfl 6 (by decide) hf_16 (fun _ h9 => h9) rfl dX2_doClash_55 ?_
          refine lv_iload_n hx hb dX2_doClash_58 rfl (lv_at hl 2 rfl) ?_
          refine hp_iald (v := r 6 j) hx hb hK hP 3 0 hp_M_6 rfl (k := j) (by omega) (by decide) rfl dX2_doClash_59 ?_
          refine lv_aload_n hx hb dX2_doClash_60 rfl (lv_at hl 0 rfl) ?_
          refine va_get (D := (dC, dI)) (ci := 2) (v := .ref (a 8)) (C := RX2) (T := TX2) (N := 18) hx hb hts hinX2 hown hK hP 0 hp_M_o rfl 8 (by decide) hf_22 (fun _ h9 => h9) rfl dX2_doClash_61 ?_
          refine lv_iload_n hx hb dX2_doClash_64 rfl (lv_at hl 2 rfl) ?_
          refine hp_iald (v := r 8 j) hx hb hK hP 5 0 hp_M_8 rfl (k := j) (by omega) (by decide) rfl dX2_doClash_65 ?_
          refine vp_callSi (W.runS (As := [.int (r 6 i), .int (r 8 i), .int (r 6 j), .int (r 8 j)]) (rest := []) ⟨hx, hb, hml, hown, hts⟩ (c_X2_gap l (r 6 i) (r 8 i) (r 6 j) (r 8 j)) (va_cwS 4 hts gX2_doClash_X2_gap rfl rfl rfl (by decide +kernel) ⟨(Nat.le_of_ble_eq_true rfl), (Nat.le_of_ble_eq_true rfl)⟩) ⟨hp_nfb, fun _ _ _ => ⟨rfl, trivial⟩⟩ rfl rfl hl.1 rfl (lv_room (Nat.le_of_ble_eq_true rfl)) dX2_doClash_66 ⟨(Nat.zero_le _), (Nat.zero_le _)⟩) (fun r_5 hr_5 => ?_)
          subst hr_5
          refine lv_istore_n (lv' := [(3, .int (hp_gap (r 6 i) (r 8 i) (r 6 j) (r 8 j))), (0, .ref o), (1, .int (nI i)), (2, .int (nI j))]) hx hb dX2_doClash_69 rfl hl (by decide) rfl (fun ls hl => ?_)
          refine lv_aload_n hx hb dX2_doClash_70 rfl (lv_at hl 1 rfl) ?_
          refine va_get (D := (dC, dI)) (ci := 2) (v := .ref (a 7)) (C := RX2) (T := TX2) (N := 18) hx hb hts hinX2 hown hK hP 0 hp_M_o rfl 7 (by decide) hf_19 (fun _ h9 => h9) rfl dX2_doClash_71 ?_
          refine lv_iload_n hx hb dX2_doClash_74 rfl (lv_at hl 2 rfl) ?_
          refine hp_iald (v := r 7 i) hx hb hK hP 4 0 hp_M_7 rfl (k := i) (by omega) (by decide) rfl dX2_doClash_75 ?_
          refine lv_aload_n hx hb dX2_doClash_76 rfl (lv_at hl 1 rfl) ?_
          refine va_get (D := (dC, dI)) (ci := 2) (v := .ref (a 9)) (C := RX2) (T := TX2) (N := 18) hx hb hts hinX2 hown hK hP 0 hp_M_o rfl 9 (by decide) hf_25 (fun _ h9 => h9) rfl dX2_doClash_77 ?_
          refine lv_iload_n hx hb dX2_doClash_80 rfl (lv_at hl 2 rfl) ?_
          refine hp_iald (v := r 9 i) hx hb hK hP 6 0 hp_M_9 rfl (k := i) (by omega) (by decide) rfl dX2_doClash_81 ?_
          refine lv_aload_n hx hb dX2_doClash_82 rfl (lv_at hl 1 rfl) ?_
          refine va_get (D := (dC, dI)) (ci := 2) (v := .ref (a 7)) (C := RX2) (T := TX2) (N := 18) hx hb hts hinX2 hown hK hP 0 hp_M_o rfl 7 (by decide) hf_19 (fun _ h9 => h9) rfl dX2_doClash_83 ?_
          refine lv_iload_n hx hb dX2_doClash_86 rfl (lv_at hl 3 rfl) ?_
          refine hp_iald (v := r 7 j) hx hb hK hP 4 0 hp_M_7 rfl (k := j) (by omega) (by decide) rfl dX2_doClash_87 ?_
          refine lv_aload_n hx hb dX2_doClash_88 rfl (lv_at hl 1 rfl) ?_
          refine va_get (D := (dC, dI)) (ci := 2) (v := .ref (a 9)) (C := RX2) (T := TX2) (N := 18) hx hb hts hinX2 hown hK hP 0 hp_M_o rfl 9 (by decide) hf_25 (fun _ h9 => h9) rfl dX2_doClash_89 ?_
          refine lv_iload_n hx hb dX2_doClash_92 rfl (lv_at hl 3 rfl) ?_
          refine hp_iald (v := r 9 j) hx hb hK hP 6 0 hp_M_9 rfl (k := j) (by omega) (by decide) rfl dX2_doClash_93 ?_
          refine vp_callSi (W.runS (As := [.int (r 7 i), .int (r 9 i), .int (r 7 j), .int (r 9 j)]) (rest := []) ⟨hx, hb, hml, hown, hts⟩ (c_X2_gap l (r 7 i) (r 9 i) (r 7 j) (r 9 j)) (va_cwS 4 hts gX2_doClash_X2_gap rfl rfl rfl (by decide +kernel) ⟨(Nat.le_of_ble_eq_true rfl), (Nat.le_of_ble_eq_true rfl)⟩) ⟨hp_nfb, fun _ _ _ => ⟨rfl, trivial⟩⟩ rfl rfl hl.1 rfl (lv_room (Nat.le_of_ble_eq_true rfl)) dX2_doClash_94 ⟨(Nat.zero_le _), (Nat.zero_le _)⟩) (fun r_6 hr_6 => ?_)
          subst hr_6
          refine lv_istore (lv' := [(4, .int (hp_gap (r 7 i) (r 9 i) (r 7 j) (r 9 j))), (3, .int (hp_gap (r 6 i) (r 8 i) (r 6 j) (r 8 j))), (0, .ref o), (1, .int (nI i)), (2, .int (nI j))]) hx hb dX2_doClash_97 hl (by decide) rfl (fun ls hl => ?_)
          refine hp_join 111 5 (fun x7 : Int32 => x7 = hp_max (hp_gap (r 6 i) (r 8 i) (r 6 j) (r 8 j)) (hp_gap (r 7 i) (r 9 i) (r 7 j) (r 9 j))) (fun x7 => [(4, .int (hp_gap (r 7 i) (r 9 i) (r 7 j) (r 9 j))), (3, .int (hp_gap (r 6 i) (r 8 i) (r 6 j) (r 8 j))), (0, .ref o), (1, .int (nI i)), (2, .int (nI j))]) (fun x7 => [.int x7]) (fun x7 hx_8 ls hl => ?_) (fun jn_8 => ?_)
          · skip
            subst hx_8
            refine lv_aload_n hx hb dX2_doClash_111 rfl (lv_at hl 2 rfl) ?_
            refine va_get (D := (dC, dI)) (ci := 2) (v := .ref (a 14)) (C := RX2) (T := TX2) (N := 18) hx hb hts hinX2 hown hK hP 0 hp_M_o rfl 14 (by decide) hf_40 (fun _ h9 => h9) rfl dX2_doClash_112 ?_
            refine lv_iconst (v := 3) hx hb dX2_doClash_115 (by decide) ?_
            refine lv_aload_n hx hb dX2_doClash_116 rfl (lv_at hl 2 rfl) ?_
            refine va_get (D := (dC, dI)) (ci := 2) (v := .ref (a 4)) (C := RX2) (T := TX2) (N := 18) hx hb hts hinX2 hown hK hP 0 hp_M_o rfl 4 (by decide) hf_7 (fun _ h9 => h9) rfl dX2_doClash_117 ?_
            refine lv_iload_n hx hb dX2_doClash_120 rfl (lv_at hl 3 rfl) ?_
            refine hp_iald (v := r 4 i) hx hb hK hP 1 0 hp_M_4 rfl (k := i) (by omega) (by decide) rfl dX2_doClash_121 ?_
            refine lv_imul hx hb dX2_doClash_122 ?_
            refine lv_aload_n hx hb dX2_doClash_123 rfl (lv_at hl 2 rfl) ?_
            refine va_get (D := (dC, dI)) (ci := 2) (v := .ref (a 4)) (C := RX2) (T := TX2) (N := 18) hx hb hts hinX2 hown hK hP 0 hp_M_o rfl 4 (by decide) hf_7 (fun _ h9 => h9) rfl dX2_doClash_124 ?_
            refine lv_iload_n hx hb dX2_doClash_127 rfl (lv_at hl 4 rfl) ?_
            refine hp_iald (v := r 4 j) hx hb hK hP 1 0 hp_M_4 rfl (k := j) (by omega) (by decide) rfl dX2_doClash_128 ?_
            refine lv_iadd hx hb dX2_doClash_129 ?_
            refine hp_ialdx (v := r 14 (((3 * (r 4 i)) + (r 4 j)).toNatClampNeg)) hx hb hK hP 11 0 hp_M_14 rfl (i := (3 * (r 4 i)) + (r 4 j)) (by exact hp_cix_in (hinv.2.1 i hi) (hinv.2.1 j hj)) rfl dX2_doClash_130 ?_
            refine lv_icmp_ge (tgt := 138) hx hb dX2_doClash_131 (by decide) (fun c_9 => ?_) (fun c_9 => ?_)
            · skip
              have c_9n := hp_len c_9
              refine lv_iconst (v := 0) hx hb dX2_doClash_138 (by decide) ?_
              exact W.zret (ty := .boolean) (v := 0) hx hb hr rfl (fun t ht hW => ⟨_, rfl, (by simp [hp_cla, hp_cix, hp_b, c_1, c_2, c_3, c_4, c_9, c_9n]), ht⟩) (fun _ h => nomatch h) dX2_doClash_139
            · skip
              have c_9p := hp_nle c_9
              refine lv_iconst (v := 1) hx hb dX2_doClash_134 (by decide) ?_
              refine lv_goto (tgt := 139) hx hb dX2_doClash_135 (by decide) ?_
              exact W.zret (ty := .boolean) (v := 1) hx hb hr rfl (fun t ht hW => ⟨_, rfl, (by simp [hp_cla, hp_cix, hp_b, c_1, c_2, c_3, c_4, c_9, c_9p]), ht⟩) (fun _ h => nomatch h) dX2_doClash_139
          · skip
            refine lv_iload_n hx hb dX2_doClash_99 rfl (lv_at hl 1 rfl) ?_
            refine lv_iload hx hb dX2_doClash_100 (lv_at hl 0 rfl) ?_
            refine lv_icmp_le (tgt := 109) hx hb dX2_doClash_102 (by decide) (fun c_10 => ?_) (fun c_10 => ?_)
            · skip
              have c_10n := hp_len c_10
              refine lv_iload hx hb dX2_doClash_109 (lv_at hl 0 rfl) ?_
              exact jn_8 (hp_gap (r 7 i) (r 9 i) (r 7 j) (r 9 j)) (by simp [hp_max, c_1, c_2, c_3, c_4, c_10, c_10n]) _ (lv_sub hl [0, 1, 2, 3, 4] rfl)
            · skip
              have c_10p := hp_nle c_10
              refine lv_iload_n hx hb dX2_doClash_105 rfl (lv_at hl 1 rfl) ?_
              refine lv_goto (tgt := 111) hx hb dX2_doClash_106 (by decide) ?_
              exact jn_8 (hp_gap (r 6 i) (r 8 i) (r 6 j) (r 8 j)) (by simp [hp_max, c_1, c_2, c_3, c_4, c_10, c_10p]) _ (lv_sub hl [0, 1, 2, 3, 4] rfl)
        · skip
          refine lv_iconst (v := 0) hx hb dX2_doClash_40 (by decide) ?_
          exact W.zret (ty := .boolean) (v := 0) hx hb hr rfl (fun t ht hW => ⟨_, rfl, (by simp [hp_cla, hp_cix, hp_b, c_1, c_2, c_3, c_4]), ht⟩) (fun _ h => nomatch h) dX2_doClash_41
set_option maxHeartbeats 400000 in
set_option maxRecDepth 100000 in
theorem c_X2_hasClash (l : Launch) (dC : Nat → ClassId) (dI : Nat → Nat → Nat) (cI cZ cO cJ : ClassId) (o : Nat) (a : Nat → Nat) (v : Nat → Int32) (r : Nat → Nat → Int32) (n : Nat) (i : Nat) (x_i : Int32) (hx_i : x_i = nI i) (hi : i < n) (hinv : hp_inv v r n) : Met l yX2_hasClash wsX2_hasClash ({ frames := 2, cells := 0, slots := 0, locals := 51 }) (va_Pc [.ref o, .int x_i] (hp_pre (dC, dI) cI cZ cO cJ (hp_M cI cZ o a v r n))) (vp_Si (fun x9 => x9 = hp_b (hp_has r n i))) 0 0 (fun _ => False) := by
  refine Met.ofW (cc := cX2_hasClash) (maxL := 4) (ret := (some .boolean)) (by decide) rfl ?_
  intro p e s m args below meth c s₁ B hml hv
  obtain ⟨rfl, hP, hK⟩ := hv
  have hx := B.exec
  have hb := B.bytes
  have hr := B.returns
  have hts := atoms_spec (ws := wsX2_hasClash) B.pre
  have hown : s.vm.findClass RX2 = some m.cls := findClass_of_methodNamed B.named
  have hlocks := B.notSynchronized
  subst hx_i
  have hf_61 := hts (.fieldLink RX2 61 "WallplanModel" "elements" "I") (by decide +kernel)
  have hinX2 : ∀ w ∈ wsX20, w ∈ wsX2_hasClash := by decide +kernel
  have hl := lv_entry ([.ref o, .int (nI i)]) (n := 4) (Nat.le_of_ble_eq_true rfl)
  rw [lg_entry_eq]
  generalize (lg_sl ([.ref o, .int (nI i)]) ++ List.replicate (4 - (lg_sl ([.ref o, .int (nI i)])).length) Slot.unset).toArray = ls at hl ⊢
  have hl : lv_has ls 4 [(0, .ref o), (1, .int (nI i))] := hl
  have hn := hinv.1
  refine lv_iconst (v := 0) hx hb dX2_hasClash_0 (by decide) ?_
  refine lv_istore_n (lv' := [(2, .int 0), (0, .ref o), (1, .int (nI i))]) hx hb dX2_hasClash_1 rfl hl (by decide) rfl (fun ls hl => ?_)
  refine lv_iconst (v := 0) hx hb dX2_hasClash_2 (by decide) ?_
  refine lv_istore_n (lv' := [(3, .int 0), (2, .int 0), (0, .ref o), (1, .int (nI i))]) hx hb dX2_hasClash_3 rfl hl (by decide) rfl (fun ls hl => ?_)
  refine hp_loop (fun k => [(2, .int (hp_b (hp_any (fun j => hp_cla r i j) (k)))), (3, .int (nI k)), (0, .ref o), (1, .int (nI i))]) n (fun k hk_1 ih_1 ls hl => ?_) (lv_sub hl [1, 0, 2, 3] rfl)
  refine lv_iload_n hx hb dX2_hasClash_4 rfl (lv_at hl 1 rfl) ?_
  refine lv_aload_n hx hb dX2_hasClash_5 rfl (lv_at hl 2 rfl) ?_
  refine va_get (D := (dC, dI)) (ci := 2) (v := .int (nI n)) (C := RX2) (T := TX2) (N := 18) hx hb hts hinX2 hown hK hP 0 hp_M_o rfl 3 (by decide) hf_61 (fun _ h9 => h9) rfl dX2_hasClash_6 ?_
  refine lv_icmp_ge (tgt := 37) hx hb dX2_hasClash_9 (by decide) (fun c_2 => ?_) (fun c_2 => ?_)
  · skip
    have c_2n := hp_len c_2
    have ek : k = n := Nat.le_antisymm (by omega) ((nI_leI (by omega) (by omega)).mp c_2)
    refine lv_iload_n hx hb dX2_hasClash_37 rfl (lv_at hl 0 rfl) ?_
    exact W.zret (ty := .boolean) (v := hp_b (hp_any (fun j => hp_cla r i j) (k))) hx hb hr (hp_nar _) (fun t ht hW => ⟨_, rfl, (by exact congrArg (fun z => hp_b (hp_any (fun j => hp_cla r i j) z)) ek), ht⟩) (fun _ h => nomatch h) dX2_hasClash_38
  · skip
    have c_2p := hp_nle c_2
    have hkn : k < n := Nat.lt_of_not_le (fun h => c_2 (nI_le h (by omega)))
    refine hp_join 30 4 (fun x3 : Int32 => x3 = hp_b (hp_any (fun j => hp_cla r i j) (k + 1))) (fun x3 => [(2, .int (hp_b (hp_any (fun j => hp_cla r i j) (k)))), (3, .int (nI k)), (0, .ref o), (1, .int (nI i))]) (fun x3 => [.int x3]) (fun x3 hx_4 ls hl => ?_) (fun jn_4 => ?_)
    · skip
      subst hx_4
      refine lv_istore_n (lv' := [(2, .int (hp_b (hp_any (fun j => hp_cla r i j) (k + 1)))), (3, .int (nI k)), (0, .ref o), (1, .int (nI i))]) hx hb dX2_hasClash_30 rfl hl (by decide) rfl (fun ls hl => ?_)
      refine lv_iinc (v := nI (k + 1)) (lv' := [(3, .int (nI (k + 1))), (2, .int (hp_b (hp_any (fun j => hp_cla r i j) (k + 1)))), (0, .ref o), (1, .int (nI i))]) hx hb dX2_hasClash_31 hl (k := 1) rfl (nI_1 _) (by decide) rfl (fun ls hl => ?_)
      refine lv_goto (tgt := 4) hx hb dX2_hasClash_34 (by decide) ?_
      exact ih_1 hkn _ (lv_sub hl [1, 0, 2, 3] rfl)
    · skip
      refine lv_iload_n hx hb dX2_hasClash_12 rfl (lv_at hl 0 rfl) ?_
      refine lv_if_ne (tgt := 25) hx hb dX2_hasClash_13 (by decide) (fun c_5 => ?_) (fun c_5 => ?_)
      · skip
        have c_5 := hp_bn c_5
        refine lv_iconst (v := 1) hx hb dX2_hasClash_25 (by decide) ?_
        refine lv_goto (tgt := 30) hx hb dX2_hasClash_26 (by decide) ?_
        exact jn_4 1 (by simp [hp_any, hp_b, c_2, c_2p, c_5]) _ (lv_sub hl [0, 1, 2, 3] rfl)
      · skip
        have c_5 := hp_bz c_5
        refine lv_aload_n hx hb dX2_hasClash_16 rfl (lv_at hl 2 rfl) ?_
        refine lv_iload_n hx hb dX2_hasClash_17 rfl (lv_at hl 3 rfl) ?_
        refine lv_iload_n hx hb dX2_hasClash_18 rfl (lv_at hl 1 rfl) ?_
        refine vp_callSi (W.runV (As := [.int (nI i), .int (nI k)]) (rest := []) ⟨hx, hb, hml, hown, hts⟩ (c_X2_doClash l dC dI cI cZ cO cJ o a v r n i (nI i) rfl k (nI k) rfl (by omega) (by omega) hinv) (cwV 2 hts gX2_hasClash_X2_doClash rfl rfl rfl (by decide +kernel) ⟨(Nat.le_of_ble_eq_true rfl), (Nat.le_of_ble_eq_true rfl)⟩) ⟨hp_fb, va_recv hK hP (ci := 2) (q0 := 0) rfl hp_M_o, fun U hU hW => ⟨rfl, hp_to hP hK hU hW⟩⟩ rfl rfl hl.1 rfl (lv_room (Nat.le_of_ble_eq_true rfl)) dX2_hasClash_19 ⟨(Nat.zero_le _), (Nat.zero_le _)⟩) (fun r_6 hr_6 => ?_)
        subst hr_6
        refine lv_if_eq (tgt := 29) hx hb dX2_hasClash_22 (by decide) (fun c_7 => ?_) (fun c_7 => ?_)
        · skip
          have c_7 := hp_bz c_7
          refine lv_iconst (v := 0) hx hb dX2_hasClash_29 (by decide) ?_
          exact jn_4 0 (by simp [hp_any, hp_b, c_2, c_2p, c_5, c_7]) _ (lv_sub hl [0, 1, 2, 3] rfl)
        · skip
          have c_7 := hp_bn c_7
          refine lv_iconst (v := 1) hx hb dX2_hasClash_25 (by decide) ?_
          refine lv_goto (tgt := 30) hx hb dX2_hasClash_26 (by decide) ?_
          exact jn_4 1 (by simp [hp_any, hp_b, c_2, c_2p, c_5, c_7]) _ (lv_sub hl [0, 1, 2, 3] rfl)
set_option maxHeartbeats 400000 in
set_option maxRecDepth 100000 in
theorem c_X2_partsFrom (l : Launch) (dC : Nat → ClassId) (dI : Nat → Nat → Nat) (cI cZ cO cJ : ClassId) (o : Nat) (a : Nat → Nat) (v : Nat → Int32) (r : Nat → Nat → Int32) (n : Nat)  (p0 p1 : Int32) (hinv : hp_inv v r n) : Met l yX2_partsFrom wsX2_partsFrom ({ frames := 3, cells := 0, slots := 0, locals := 62 }) (va_Pc [.ref o, .int p0, .int p1] (hp_pre (dC, dI) cI cZ cO cJ (hp_M cI cZ o a v r n))) (vp_Si (fun x9 => x9 = hp_lst r n p0 p1)) 0 0 (fun _ => False) := by
  refine Met.ofW (cc := cX2_partsFrom) (maxL := 5) (ret := (some .int)) (by decide) rfl ?_
  intro p e s m args below meth c s₁ B hml hv
  obtain ⟨rfl, hP, hK⟩ := hv
  have hx := B.exec
  have hb := B.bytes
  have hr := B.returns
  have hts := atoms_spec (ws := wsX2_partsFrom) B.pre
  have hown : s.vm.findClass RX2 = some m.cls := findClass_of_methodNamed B.named
  have hlocks := B.notSynchronized
  have hf_7 := hts (.fieldLink RX2 7 "WallplanModel" "kind" "[I") (by decide +kernel)
  have hf_28 := hts (.fieldLink RX2 28 "WallplanModel" "state" "[I") (by decide +kernel)
  have hf_61 := hts (.fieldLink RX2 61 "WallplanModel" "elements" "I") (by decide +kernel)
  have hinX2 : ∀ w ∈ wsX20, w ∈ wsX2_partsFrom := by decide +kernel
  have hl := lv_entry ([.ref o, .int p0, .int p1]) (n := 5) (Nat.le_of_ble_eq_true rfl)
  rw [lg_entry_eq]
  generalize (lg_sl ([.ref o, .int p0, .int p1]) ++ List.replicate (5 - (lg_sl ([.ref o, .int p0, .int p1])).length) Slot.unset).toArray = ls at hl ⊢
  have hl : lv_has ls 5 [(0, .ref o), (1, .int p0), (2, .int p1)] := hl
  have hn := hinv.1
  refine lv_iconst (v := 0) hx hb dX2_partsFrom_0 (by decide) ?_
  refine lv_istore_n (lv' := [(3, .int 0), (0, .ref o), (1, .int p0), (2, .int p1)]) hx hb dX2_partsFrom_1 rfl hl (by decide) rfl (fun ls hl => ?_)
  refine lv_iconst (v := 0) hx hb dX2_partsFrom_2 (by decide) ?_
  refine lv_istore (lv' := [(4, .int 0), (3, .int 0), (0, .ref o), (1, .int p0), (2, .int p1)]) hx hb dX2_partsFrom_3 hl (by decide) rfl (fun ls hl => ?_)
  refine hp_loop (fun k => [(3, .int (hp_sum (fun i => if (r 4 i == p0) && hp_in (r 10 i) p1 3 then hp_par r i else 0) (k))), (4, .int (nI k)), (0, .ref o), (1, .int p0), (2, .int p1)]) n (fun k hk_1 ih_1 ls hl => ?_) (lv_sub hl [1, 0, 2, 3, 4] rfl)
  refine lv_iload hx hb dX2_partsFrom_5 (lv_at hl 1 rfl) ?_
  refine lv_aload_n hx hb dX2_partsFrom_7 rfl (lv_at hl 2 rfl) ?_
  refine va_get (D := (dC, dI)) (ci := 2) (v := .int (nI n)) (C := RX2) (T := TX2) (N := 18) hx hb hts hinX2 hown hK hP 0 hp_M_o rfl 3 (by decide) hf_61 (fun _ h9 => h9) rfl dX2_partsFrom_8 ?_
  refine lv_icmp_ge (tgt := 59) hx hb dX2_partsFrom_11 (by decide) (fun c_2 => ?_) (fun c_2 => ?_)
  · skip
    have c_2n := hp_len c_2
    have ek : k = n := Nat.le_antisymm (by omega) ((nI_leI (by omega) (by omega)).mp c_2)
    refine lv_iload_n hx hb dX2_partsFrom_59 rfl (lv_at hl 0 rfl) ?_
    exact W.iret (v := hp_sum (fun i => if (r 4 i == p0) && hp_in (r 10 i) p1 3 then hp_par r i else 0) (k)) hx hb hr (fun t ht hW => ⟨_, rfl, (by exact congrArg (fun z => hp_sum (fun i => if (r 4 i == p0) && hp_in (r 10 i) p1 3 then hp_par r i else 0) z) ek), ht⟩) (fun _ h => nomatch h) dX2_partsFrom_60
  · skip
    have c_2p := hp_nle c_2
    have hkn : k < n := Nat.lt_of_not_le (fun h => c_2 (nI_le h (by omega)))
    refine lv_iload_n hx hb dX2_partsFrom_14 rfl (lv_at hl 0 rfl) ?_
    refine hp_join 51 5 (fun x3 : Int32 => x3 = (if (r 4 k == p0) && hp_in (r 10 k) p1 3 then hp_par r k else 0)) (fun x3 => [(3, .int (hp_sum (fun i => if (r 4 i == p0) && hp_in (r 10 i) p1 3 then hp_par r i else 0) (k))), (4, .int (nI k)), (0, .ref o), (1, .int p0), (2, .int p1)]) (fun x3 => [.int x3, .int (hp_sum (fun i => if (r 4 i == p0) && hp_in (r 10 i) p1 3 then hp_par r i else 0) (k))]) (fun x3 hx_4 ls hl => ?_) (fun jn_4 => ?_)
    · skip
      subst hx_4
      refine lv_iadd hx hb dX2_partsFrom_51 ?_
      refine lv_istore_n (lv' := [(3, .int ((hp_sum (fun i => if (r 4 i == p0) && hp_in (r 10 i) p1 3 then hp_par r i else 0) (k)) + (if (r 4 k == p0) && hp_in (r 10 k) p1 3 then hp_par r k else 0))), (4, .int (nI k)), (0, .ref o), (1, .int p0), (2, .int p1)]) hx hb dX2_partsFrom_52 rfl hl (by decide) rfl (fun ls hl => ?_)
      refine lv_iinc (v := nI (k + 1)) (lv' := [(4, .int (nI (k + 1))), (3, .int ((hp_sum (fun i => if (r 4 i == p0) && hp_in (r 10 i) p1 3 then hp_par r i else 0) (k)) + (if (r 4 k == p0) && hp_in (r 10 k) p1 3 then hp_par r k else 0))), (0, .ref o), (1, .int p0), (2, .int p1)]) hx hb dX2_partsFrom_53 hl (k := 1) rfl (nI_1 _) (by decide) rfl (fun ls hl => ?_)
      refine lv_goto (tgt := 5) hx hb dX2_partsFrom_56 (by decide) ?_
      exact ih_1 hkn _ (lv_sub hl [1, 0, 2, 3, 4] rfl)
    · skip
      refine lv_aload_n hx hb dX2_partsFrom_15 rfl (lv_at hl 2 rfl) ?_
      refine va_get (D := (dC, dI)) (ci := 2) (v := .ref (a 4)) (C := RX2) (T := TX2) (N := 18) hx hb hts hinX2 hown hK hP 0 hp_M_o rfl 4 (by decide) hf_7 (fun _ h9 => h9) rfl dX2_partsFrom_16 ?_
      refine lv_iload hx hb dX2_partsFrom_19 (lv_at hl 1 rfl) ?_
      refine hp_iald (v := r 4 k) hx hb hK hP 1 0 hp_M_4 rfl (k := k) (by omega) (by decide) rfl dX2_partsFrom_21 ?_
      refine lv_iload_n hx hb dX2_partsFrom_22 rfl (lv_at hl 3 rfl) ?_
      refine lv_icmp_ne (tgt := 50) hx hb dX2_partsFrom_23 (by decide) (fun c_5 => ?_) (fun c_5 => ?_)
      · skip
        refine lv_iconst (v := 0) hx hb dX2_partsFrom_50 (by decide) ?_
        exact jn_4 0 (by simp [c_2, c_2p, c_5]) _ (lv_sub hl [0, 1, 2, 3, 4] rfl)
      · skip
        refine lv_aload_n hx hb dX2_partsFrom_26 rfl (lv_at hl 2 rfl) ?_
        refine va_get (D := (dC, dI)) (ci := 2) (v := .ref (a 10)) (C := RX2) (T := TX2) (N := 18) hx hb hts hinX2 hown hK hP 0 hp_M_o rfl 10 (by decide) hf_28 (fun _ h9 => h9) rfl dX2_partsFrom_27 ?_
        refine lv_iload hx hb dX2_partsFrom_30 (lv_at hl 1 rfl) ?_
        refine hp_iald (v := r 10 k) hx hb hK hP 7 0 hp_M_10 rfl (k := k) (by omega) (by decide) rfl dX2_partsFrom_32 ?_
        refine lv_iload_n hx hb dX2_partsFrom_33 rfl (lv_at hl 4 rfl) ?_
        refine lv_iconst (v := 3) hx hb dX2_partsFrom_34 (by decide) ?_
        refine vp_callSi (W.runS (As := [.int (r 10 k), .int p1, .int 3]) (rest := [.int (hp_sum (fun i => if (r 4 i == p0) && hp_in (r 10 i) p1 3 then hp_par r i else 0) (k))]) ⟨hx, hb, hml, hown, hts⟩ (c_X2_in l (r 10 k) p1 3) (va_cwS 3 hts gX2_partsFrom_X2_in rfl rfl rfl (by decide +kernel) ⟨(Nat.le_of_ble_eq_true rfl), (Nat.le_of_ble_eq_true rfl)⟩) ⟨hp_nfb, fun _ _ _ => ⟨rfl, trivial⟩⟩ rfl rfl hl.1 rfl (lv_room (Nat.le_of_ble_eq_true rfl)) dX2_partsFrom_35 ⟨(Nat.zero_le _), (Nat.zero_le _)⟩) (fun r_6 hr_6 => ?_)
        subst hr_6
        refine lv_if_eq (tgt := 50) hx hb dX2_partsFrom_38 (by decide) (fun c_7 => ?_) (fun c_7 => ?_)
        · skip
          have c_7 := hp_bz c_7
          refine lv_iconst (v := 0) hx hb dX2_partsFrom_50 (by decide) ?_
          exact jn_4 0 (by simp [c_2, c_2p, c_5, c_7]) _ (lv_sub hl [0, 1, 2, 3, 4] rfl)
        · skip
          have c_7 := hp_bn c_7
          refine lv_aload_n hx hb dX2_partsFrom_41 rfl (lv_at hl 2 rfl) ?_
          refine lv_iload hx hb dX2_partsFrom_42 (lv_at hl 1 rfl) ?_
          refine vp_callSi (W.runV (As := [.int (nI k)]) (rest := [.int (hp_sum (fun i => if (r 4 i == p0) && hp_in (r 10 i) p1 3 then hp_par r i else 0) (k))]) ⟨hx, hb, hml, hown, hts⟩ (c_X2_partsOf l dC dI cI cZ cO cJ o a v r n k (nI k) rfl (by have := hkn; omega) (hp_kd_in (hinv.2.1 _ hkn)) (hp_pc_ne hinv hkn)) (cwV 1 hts gX2_partsFrom_X2_partsOf rfl rfl rfl (by decide +kernel) ⟨(Nat.le_of_ble_eq_true rfl), (Nat.le_of_ble_eq_true rfl)⟩) ⟨hp_fb, va_recv hK hP (ci := 2) (q0 := 0) rfl hp_M_o, fun U hU hW => ⟨rfl, hp_to hP hK hU hW⟩⟩ rfl rfl hl.1 rfl (lv_room (Nat.le_of_ble_eq_true rfl)) dX2_partsFrom_44 ⟨(Nat.zero_le _), (Nat.zero_le _)⟩) (fun r_8 hr_8 => ?_)
          subst hr_8
          refine lv_goto (tgt := 51) hx hb dX2_partsFrom_47 (by decide) ?_
          exact jn_4 (hp_par r k) (by simp [c_2, c_2p, c_5, c_7]) _ (lv_sub hl [0, 1, 2, 3, 4] rfl)
end
section
set_option maxHeartbeats 400000 in
set_option maxRecDepth 100000 in
theorem c_X2_thrown (l : Launch) (dC : Nat → ClassId) (dI : Nat → Nat → Nat) (cI cZ cO cJ : ClassId) (o : Nat) (a : Nat → Nat) (v : Nat → Int32) (r : Nat → Nat → Int32) (n : Nat)   : Met l yX2_thrown wsX2_thrown ({ frames := 0, cells := 0, slots := 0, locals := 0 }) (va_Pc [.ref o] (hp_pre (dC, dI) cI cZ cO cJ (hp_M cI cZ o a v r n))) (vp_Si (fun x9 => x9 = v 0)) 0 0 (fun _ => False) := by
  refine Met.ofW (cc := cX2_thrown) (maxL := 1) (ret := (some .int)) (by decide) rfl ?_
  intro p e s m args below meth c s₁ B hml hv
  obtain ⟨rfl, hP, hK⟩ := hv
  have hx := B.exec
  have hb := B.bytes
  have hr := B.returns
  have hts := atoms_spec (ws := wsX2_thrown) B.pre
  have hown : s.vm.findClass RX2 = some m.cls := findClass_of_methodNamed B.named
  have hlocks := B.notSynchronized
  have hf_53 := hts (.fieldLink RX2 53 "WallplanModel" "thrown" "I") (by decide +kernel)
  have hinX2 : ∀ w ∈ wsX20, w ∈ wsX2_thrown := by decide +kernel
  have hl := lv_entry ([.ref o]) (n := 1) (Nat.le_of_ble_eq_true rfl)
  rw [lg_entry_eq]
  generalize (lg_sl ([.ref o]) ++ List.replicate (1 - (lg_sl ([.ref o])).length) Slot.unset).toArray = ls at hl ⊢
  have hl : lv_has ls 1 [(0, .ref o)] := hl
  refine lv_aload_n hx hb dX2_thrown_0 rfl (lv_at hl 0 rfl) ?_
  refine va_get (D := (dC, dI)) (ci := 2) (v := .int (v 0)) (C := RX2) (T := TX2) (N := 18) hx hb hts hinX2 hown hK hP 0 hp_M_o rfl 0 (by decide) hf_53 (fun _ h9 => h9) rfl dX2_thrown_1 ?_
  exact W.iret (v := v 0) hx hb hr (fun t ht hW => ⟨_, rfl, (by rfl), ht⟩) (fun _ h => nomatch h) dX2_thrown_4
set_option maxHeartbeats 400000 in
set_option maxRecDepth 100000 in
theorem c_X2_refused (l : Launch) (dC : Nat → ClassId) (dI : Nat → Nat → Nat) (cI cZ cO cJ : ClassId) (o : Nat) (a : Nat → Nat) (v : Nat → Int32) (r : Nat → Nat → Int32) (n : Nat) (sz : Nat)  (p0 : Int32) : Met l yX2_refused wsX2_refused ({ frames := 0, cells := 0, slots := 0, locals := 0 }) (va_Pc [.ref o, .int p0] (hp_prm (dC, dI) cI cZ cO cJ (hp_M cI cZ o a v r n) sz)) (va_Qi (S := Unit) (fun x9 _ => x9 = hp_b (!(p0 == 0))) (fun _ t9 => va_P (dC, dI) vwCl (hp_M cI cZ o a (va_up v 0 p0) r n) t9.heap) (va_A (hp_M cI cZ o a v r n) sz)) 0 0 (va_A (hp_M cI cZ o a v r n) sz) := by
  refine Met.ofW (cc := cX2_refused) (maxL := 2) (ret := (some .boolean)) (by decide) rfl ?_
  intro p e s m args below meth c s₁ B hml hv
  obtain ⟨rfl, hsz, hP, hK, hD0⟩ := hv
  have hx := B.exec
  have hb := B.bytes
  have hr := B.returns
  have hts := atoms_spec (ws := wsX2_refused) B.pre
  have hown : s.vm.findClass RX2 = some m.cls := findClass_of_methodNamed B.named
  have hlocks := B.notSynchronized
  subst hsz
  have hD := hD0.self (sz := s.heap.size)
  generalize hAe : va_A (hp_M cI cZ o a v r n) s.heap.size = A at hD ⊢
  replace hD : ∀ v r n, va_D A (hp_M cI cZ o a v r n) := fun _ _ _ => hp_dM hD
  have hA : ∀ q : Nat, s.heap.size ≤ q → A q := fun q h => by rw [← hAe]; exact Or.inr h
  have hS : va_S A s.heap s.heap [] := va_S.rf
  have hf_53 := hts (.fieldLink RX2 53 "WallplanModel" "thrown" "I") (by decide +kernel)
  have hinX2 : ∀ w ∈ wsX20, w ∈ wsX2_refused := by decide +kernel
  have hl := lv_entry ([.ref o, .int p0]) (n := 2) (Nat.le_of_ble_eq_true rfl)
  rw [lg_entry_eq]
  generalize (lg_sl ([.ref o, .int p0]) ++ List.replicate (2 - (lg_sl ([.ref o, .int p0])).length) Slot.unset).toArray = ls at hl ⊢
  have hl : lv_has ls 2 [(0, .ref o), (1, .int p0)] := hl
  refine lv_aload_n hx hb dX2_refused_0 rfl (lv_at hl 0 rfl) ?_
  refine lv_iload_n hx hb dX2_refused_1 rfl (lv_at hl 1 rfl) ?_
  refine va_put (D := (dC, dI)) (ci := 2) (v := .int p0) (ty := .int) (C := RX2) (T := TX2) (N := 18) hx hb hts hinX2 tyX2 tyX2_ok nmX2 hown hK hP (hD _ _ _) hS 0 hp_M_o rfl 0 (by decide) hf_53 (fun _ h9 => h9) rfl (by decide +kernel) rfl rfl (Nat.le_of_ble_eq_true rfl) dX2_refused_2 (fun H_1 locs_1 hP1 _ hS1 => ?_)
  replace hP : va_P (dC, dI) vwCl (hp_M cI cZ o a (va_up v 0 p0) r n) H_1 := hp_cP hp_M_p0 hP1
  replace hS := hS1
  clear hP1 hS1
  refine lv_iload_n hx hb dX2_refused_5 rfl (lv_at hl 1 rfl) ?_
  refine lv_if_eq (tgt := 13) hx hb dX2_refused_6 (by decide) (fun c_2 => ?_) (fun c_2 => ?_)
  · skip
    refine lv_iconst (v := 0) hx hb dX2_refused_13 (by decide) ?_
    have hP9 : va_P (dC, dI) vwCl (hp_M cI cZ o a (va_up v 0 p0) r n) H_1 := by exact hP
    exact W.zret (ty := .boolean) (v := 0) hx hb hr rfl (fun t ht hW => ⟨⟨0, (), rfl, (by simp [hp_b, c_2]), hp_ht ht hP9⟩, hS.F ht⟩) hS.2.2 dX2_refused_14
  · skip
    refine lv_iconst (v := 1) hx hb dX2_refused_9 (by decide) ?_
    refine lv_goto (tgt := 14) hx hb dX2_refused_10 (by decide) ?_
    have hP9 : va_P (dC, dI) vwCl (hp_M cI cZ o a (va_up v 0 p0) r n) H_1 := by exact hP
    exact W.zret (ty := .boolean) (v := 1) hx hb hr rfl (fun t ht hW => ⟨⟨1, (), rfl, (by simp [hp_b, c_2]), hp_ht ht hP9⟩, hS.F ht⟩) hS.2.2 dX2_refused_14
set_option maxHeartbeats 400000 in
set_option maxRecDepth 100000 in
theorem c_X2_change (l : Launch) (dC : Nat → ClassId) (dI : Nat → Nat → Nat) (cI cZ cO cJ : ClassId) (o : Nat) (a : Nat → Nat) (v : Nat → Int32) (r : Nat → Nat → Int32) (n : Nat) (sz : Nat) (i : Nat) (x_i : Int32) (hx_i : x_i = nI i) (p1 : Int32) (hi : i < 40) : Met l yX2_change wsX2_change ({ frames := 0, cells := 0, slots := 0, locals := 0 }) (va_Pc [.ref o, .int x_i, .int p1] (hp_prm (dC, dI) cI cZ cO cJ (hp_M cI cZ o a v r n) sz)) (va_Qv (S := Unit) (fun _ => True) (fun _ t9 => va_P (dC, dI) vwCl (hp_M cI cZ o a (hp_rv v) (hp_chg r i (v 2 + 1) p1) n) t9.heap) (va_A (hp_M cI cZ o a v r n) sz)) 0 0 (va_A (hp_M cI cZ o a v r n) sz) := by
  refine Met.ofW (cc := cX2_change) (maxL := 3) (ret := none) (by decide) rfl ?_
  intro p e s m args below meth c s₁ B hml hv
  obtain ⟨rfl, hsz, hP, hK, hD0⟩ := hv
  have hx := B.exec
  have hb := B.bytes
  have hr := B.returns
  have hts := atoms_spec (ws := wsX2_change) B.pre
  have hown : s.vm.findClass RX2 = some m.cls := findClass_of_methodNamed B.named
  have hlocks := B.notSynchronized
  subst hx_i
  subst hsz
  have hD := hD0.self (sz := s.heap.size)
  generalize hAe : va_A (hp_M cI cZ o a v r n) s.heap.size = A at hD ⊢
  replace hD : ∀ v r n, va_D A (hp_M cI cZ o a v r n) := fun _ _ _ => hp_dM hD
  have hA : ∀ q : Nat, s.heap.size ≤ q → A q := fun q h => by rw [← hAe]; exact Or.inr h
  have hS : va_S A s.heap s.heap [] := va_S.rf
  have hf_31 := hts (.fieldLink RX2 31 "WallplanModel" "changed" "[I") (by decide +kernel)
  have hf_34 := hts (.fieldLink RX2 34 "WallplanModel" "by" "[I") (by decide +kernel)
  have hf_64 := hts (.fieldLink RX2 64 "WallplanModel" "revision" "I") (by decide +kernel)
  have hinX2 : ∀ w ∈ wsX20, w ∈ wsX2_change := by decide +kernel
  have hl := lv_entry ([.ref o, .int (nI i), .int p1]) (n := 3) (Nat.le_of_ble_eq_true rfl)
  rw [lg_entry_eq]
  generalize (lg_sl ([.ref o, .int (nI i), .int p1]) ++ List.replicate (3 - (lg_sl ([.ref o, .int (nI i), .int p1])).length) Slot.unset).toArray = ls at hl ⊢
  have hl : lv_has ls 3 [(0, .ref o), (1, .int (nI i)), (2, .int p1)] := hl
  refine lv_aload_n hx hb dX2_change_0 rfl (lv_at hl 0 rfl) ?_
  refine lv_dup hx hb dX2_change_1 rfl ?_
  refine va_get (D := (dC, dI)) (ci := 2) (v := .int (v 2)) (C := RX2) (T := TX2) (N := 18) hx hb hts hinX2 hown hK hP 0 hp_M_o rfl 2 (by decide) hf_64 (fun _ h9 => h9) rfl dX2_change_2 ?_
  refine lv_iconst (v := 1) hx hb dX2_change_5 (by decide) ?_
  refine lv_iadd hx hb dX2_change_6 ?_
  refine va_put (D := (dC, dI)) (ci := 2) (v := .int ((v 2) + 1)) (ty := .int) (C := RX2) (T := TX2) (N := 18) hx hb hts hinX2 tyX2 tyX2_ok nmX2 hown hK hP (hD _ _ _) hS 0 hp_M_o rfl 2 (by decide) hf_64 (fun _ h9 => h9) rfl (by decide +kernel) rfl rfl (Nat.le_of_ble_eq_true rfl) dX2_change_7 (fun H_1 locs_1 hP1 _ hS1 => ?_)
  replace hP : va_P (dC, dI) vwCl (hp_M cI cZ o a (va_up v 2 ((v 2) + 1)) r n) H_1 := hp_cP hp_M_p2 hP1
  replace hS := hS1
  clear hP1 hS1
  refine lv_aload_n hx hb dX2_change_10 rfl (lv_at hl 0 rfl) ?_
  refine va_get (D := (dC, dI)) (ci := 2) (v := .ref (a 11)) (C := RX2) (T := TX2) (N := 18) hx hb hts hinX2 hown hK hP 0 hp_M_o rfl 11 (by decide) hf_31 (fun _ h9 => h9) rfl dX2_change_11 ?_
  refine lv_iload_n hx hb dX2_change_14 rfl (lv_at hl 1 rfl) ?_
  refine lv_aload_n hx hb dX2_change_15 rfl (lv_at hl 0 rfl) ?_
  refine va_get (D := (dC, dI)) (ci := 2) (v := .int ((v 2) + 1)) (C := RX2) (T := TX2) (N := 18) hx hb hts hinX2 hown hK hP 0 hp_M_o rfl 2 (by decide) hf_64 (fun _ h9 => h9) rfl dX2_change_16 ?_
  refine hp_iast hx hb hK hP (hD _ _ _) hS 8 0 hp_M_11 rfl (k := i) (x := (v 2) + 1) (by omega) (by decide) dX2_change_19 (fun H_2 locs_2 hP1 _ hS1 => ?_)
  replace hP : va_P (dC, dI) vwCl (hp_M cI cZ o a (va_up v 2 ((v 2) + 1)) (hp_set r 11 i ((v 2) + 1)) n) H_2 := hp_cP hp_M_s11 hP1
  replace hS := hS1
  clear hP1 hS1
  refine lv_aload_n hx hb dX2_change_20 rfl (lv_at hl 0 rfl) ?_
  refine va_get (D := (dC, dI)) (ci := 2) (v := .ref (a 12)) (C := RX2) (T := TX2) (N := 18) hx hb hts hinX2 hown hK hP 0 hp_M_o rfl 12 (by decide) hf_34 (fun _ h9 => h9) rfl dX2_change_21 ?_
  refine lv_iload_n hx hb dX2_change_24 rfl (lv_at hl 1 rfl) ?_
  refine lv_iload_n hx hb dX2_change_25 rfl (lv_at hl 2 rfl) ?_
  refine hp_iast hx hb hK hP (hD _ _ _) hS 9 0 hp_M_12 rfl (k := i) (x := p1) (by omega) (by decide) dX2_change_26 (fun H_3 locs_3 hP1 _ hS1 => ?_)
  replace hP : va_P (dC, dI) vwCl (hp_M cI cZ o a (va_up v 2 ((v 2) + 1)) (hp_set (hp_set r 11 i ((v 2) + 1)) 12 i p1) n) H_3 := hp_cP hp_M_s12 hP1
  replace hS := hS1
  clear hP1 hS1
  have hP9 : va_P (dC, dI) vwCl (hp_M cI cZ o a (hp_rv v) (hp_chg r i (v 2 + 1) p1) n) H_3 := by exact hP
  exact W.vret hx hb hr (fun t ht hW => ⟨⟨(), rfl, trivial, hp_ht ht hP9⟩, hS.F ht⟩) hS.2.2 dX2_change_27
set_option maxHeartbeats 400000 in
set_option maxRecDepth 100000 in
theorem c_X2_clear (l : Launch) (dC : Nat → ClassId) (dI : Nat → Nat → Nat) (cI cZ cO cJ : ClassId) (o : Nat) (a : Nat → Nat) (v : Nat → Int32) (r : Nat → Nat → Int32) (n : Nat) (sz : Nat)  (p0 p1 p2 : Int32) : Met l yX2_clear wsX2_clear ({ frames := 2, cells := 0, slots := 0, locals := 42 }) (va_Pc [.ref o, .int p0, .int p1, .int p2] (hp_prm (dC, dI) cI cZ cO cJ (hp_M cI cZ o a v r n) sz)) (va_Qi (S := Unit) (fun x9 _ => x9 = hp_a_clear r p0 p1 p2) (fun _ t9 => va_P (dC, dI) vwCl (hp_M cI cZ o a (va_up v 0 (hp_c_clear p0 p1 p2)) (hp_r_clear r p0 p1 p2) n) t9.heap) (va_A (hp_M cI cZ o a v r n) sz)) 0 0 (va_A (hp_M cI cZ o a v r n) sz) := by
  refine Met.ofW (cc := cX2_clear) (maxL := 6) (ret := (some .int)) (by decide) rfl ?_
  intro p e s m args below meth c s₁ B hml hv
  obtain ⟨rfl, hsz, hP, hK, hD0⟩ := hv
  have hx := B.exec
  have hb := B.bytes
  have hr := B.returns
  have hts := atoms_spec (ws := wsX2_clear) B.pre
  have hown : s.vm.findClass RX2 = some m.cls := findClass_of_methodNamed B.named
  have hlocks := B.notSynchronized
  subst hsz
  have hD := hD0.self (sz := s.heap.size)
  generalize hAe : va_A (hp_M cI cZ o a v r n) s.heap.size = A at hD ⊢
  replace hD : ∀ v r n, va_D A (hp_M cI cZ o a v r n) := fun _ _ _ => hp_dM hD
  have hA : ∀ q : Nat, s.heap.size ≤ q → A q := fun q h => by rw [← hAe]; exact Or.inr h
  have hS : va_S A s.heap s.heap [] := va_S.rf
  have hf_40 := hts (.fieldLink RX2 40 "WallplanModel" "clearance" "[I") (by decide +kernel)
  have hinX2 : ∀ w ∈ wsX20, w ∈ wsX2_clear := by decide +kernel
  have hl := lv_entry ([.ref o, .int p0, .int p1, .int p2]) (n := 6) (Nat.le_of_ble_eq_true rfl)
  rw [lg_entry_eq]
  generalize (lg_sl ([.ref o, .int p0, .int p1, .int p2]) ++ List.replicate (6 - (lg_sl ([.ref o, .int p0, .int p1, .int p2])).length) Slot.unset).toArray = ls at hl ⊢
  have hl : lv_has ls 6 [(0, .ref o), (1, .int p0), (2, .int p1), (3, .int p2)] := hl
  refine hp_join 19 6 (fun x1 : Int32 => x1 = hp_b (hp_kd p0 && hp_kd p1)) (fun x1 => [(0, .ref o), (1, .int p0), (2, .int p1), (3, .int p2)]) (fun x1 => [.int x1]) (fun x1 hx_2 ls hl => ?_) (fun jn_2 => ?_)
  · skip
    subst hx_2
    refine lv_istore (lv' := [(4, .int (hp_b (hp_kd p0 && hp_kd p1))), (0, .ref o), (1, .int p0), (2, .int p1), (3, .int p2)]) hx hb dX2_clear_19 hl (by decide) rfl (fun ls hl => ?_)
    refine lv_aload_n hx hb dX2_clear_21 rfl (lv_at hl 1 rfl) ?_
    refine hp_join 45 6 (fun x3 : Int32 => x3 = hp_c_clear p0 p1 p2) (fun x3 => [(4, .int (hp_b (hp_kd p0 && hp_kd p1))), (0, .ref o), (1, .int p0), (2, .int p1), (3, .int p2)]) (fun x3 => [.int x3, .ref o]) (fun x3 hx_4 ls hl => ?_) (fun jn_4 => ?_)
    · skip
      subst hx_4
      have hFc := hp_free (hD v r n) hS hA
      refine va_calli (va_runV (As := [.int (hp_c_clear p0 p1 p2)]) (rest := []) ⟨hx, hb, hml, hown, hts⟩ (c_X2_refused l dC dI cI cZ cO cJ o a v r n s.heap.size (hp_c_clear p0 p1 p2)) (cwV 1 hts gX2_clear_X2_refused rfl rfl rfl (by decide +kernel) ⟨(Nat.le_of_ble_eq_true rfl), (Nat.le_of_ble_eq_true rfl)⟩) ⟨hp_mfb, va_recv hK hP (ci := 2) (q0 := 0) rfl hp_M_o, fun U hU hW => ⟨rfl, hp_mto hP hK (hD _ _ _) hU hW⟩⟩ rfl rfl hl.1 rfl (lv_room (Nat.le_of_ble_eq_true rfl)) dX2_clear_45 ⟨(Nat.zero_le _), (Nat.zero_le _)⟩) hS (fun q _ h => hFc q h) hFc (fun r_5 u_5 t_5 H_5 locs_5 ht _ hr_5 hB _ _ hS1 => ?_)
      replace hP : va_P (dC, dI) vwCl (hp_M cI cZ o a (va_up v 0 (hp_c_clear p0 p1 p2)) r n) H_5 := hp_th ht hB
      replace hS := hS1
      clear hS1 hB ht hFc
      subst hr_5
      refine lv_if_eq (tgt := 53) hx hb dX2_clear_48 (by decide) (fun c_6 => ?_) (fun c_6 => ?_)
      · skip
        have c_6 := hp_bz c_6
        have hc := hp_eq0 c_6
        obtain ⟨g1, g2, g3⟩ := hp_cd0 hc
        refine lv_aload_n hx hb dX2_clear_53 rfl (lv_at hl 1 rfl) ?_
        refine va_get (D := (dC, dI)) (ci := 2) (v := .ref (a 14)) (C := RX2) (T := TX2) (N := 18) hx hb hts hinX2 hown hK hP 0 hp_M_o rfl 14 (by decide) hf_40 (fun _ h9 => h9) rfl dX2_clear_54 ?_
        refine lv_iconst (v := 3) hx hb dX2_clear_57 (by decide) ?_
        refine lv_iload_n hx hb dX2_clear_58 rfl (lv_at hl 2 rfl) ?_
        refine lv_imul hx hb dX2_clear_59 ?_
        refine lv_iload_n hx hb dX2_clear_60 rfl (lv_at hl 3 rfl) ?_
        refine lv_iadd hx hb dX2_clear_61 ?_
        refine hp_ialdx (v := r 14 (((3 * p0) + p1).toNatClampNeg)) hx hb hK hP 11 0 hp_M_14 rfl (i := (3 * p0) + p1) (by exact hp_ci_in (hp_andl g1) (hp_andr g1)) rfl dX2_clear_62 ?_
        refine lv_istore (lv' := [(5, .int (r 14 (((3 * p0) + p1).toNatClampNeg))), (4, .int (hp_b (hp_kd p0 && hp_kd p1))), (0, .ref o), (1, .int p0), (2, .int p1), (3, .int p2)]) hx hb dX2_clear_63 hl (by decide) rfl (fun ls hl => ?_)
        refine lv_aload_n hx hb dX2_clear_65 rfl (lv_at hl 2 rfl) ?_
        refine va_get (D := (dC, dI)) (ci := 2) (v := .ref (a 14)) (C := RX2) (T := TX2) (N := 18) hx hb hts hinX2 hown hK hP 0 hp_M_o rfl 14 (by decide) hf_40 (fun _ h9 => h9) rfl dX2_clear_66 ?_
        refine lv_iconst (v := 3) hx hb dX2_clear_69 (by decide) ?_
        refine lv_iload_n hx hb dX2_clear_70 rfl (lv_at hl 3 rfl) ?_
        refine lv_imul hx hb dX2_clear_71 ?_
        refine lv_iload_n hx hb dX2_clear_72 rfl (lv_at hl 4 rfl) ?_
        refine lv_iadd hx hb dX2_clear_73 ?_
        refine lv_iload_n hx hb dX2_clear_74 rfl (lv_at hl 5 rfl) ?_
        refine va_iast hx hb hK hP (hD _ _ _) hS 11 0 hp_M_14 rfl (i := (3 * p0) + p1) (x := p2) (by exact hp_ci_in (hp_andl g1) (hp_andr g1)) dX2_clear_75 (fun H_7 locs_7 hP1 _ hS1 => ?_)
        replace hP : va_P (dC, dI) vwCl (hp_M cI cZ o a (va_up v 0 (hp_c_clear p0 p1 p2)) (hp_set r 14 (((3 * p0) + p1).toNatClampNeg) p2) n) H_7 := hp_cP hp_M_s14 hP1
        replace hS := hS1
        clear hP1 hS1
        refine lv_aload_n hx hb dX2_clear_76 rfl (lv_at hl 2 rfl) ?_
        refine va_get (D := (dC, dI)) (ci := 2) (v := .ref (a 14)) (C := RX2) (T := TX2) (N := 18) hx hb hts hinX2 hown hK hP 0 hp_M_o rfl 14 (by decide) hf_40 (fun _ h9 => h9) rfl dX2_clear_77 ?_
        refine lv_iconst (v := 3) hx hb dX2_clear_80 (by decide) ?_
        refine lv_iload_n hx hb dX2_clear_81 rfl (lv_at hl 4 rfl) ?_
        refine lv_imul hx hb dX2_clear_82 ?_
        refine lv_iload_n hx hb dX2_clear_83 rfl (lv_at hl 3 rfl) ?_
        refine lv_iadd hx hb dX2_clear_84 ?_
        refine lv_iload_n hx hb dX2_clear_85 rfl (lv_at hl 5 rfl) ?_
        refine va_iast hx hb hK hP (hD _ _ _) hS 11 0 hp_M_14 rfl (i := (3 * p1) + p0) (x := p2) (by exact hp_ci_in (hp_andr g1) (hp_andl g1)) dX2_clear_86 (fun H_8 locs_8 hP1 _ hS1 => ?_)
        replace hP : va_P (dC, dI) vwCl (hp_M cI cZ o a (va_up v 0 (hp_c_clear p0 p1 p2)) (hp_set (hp_set r 14 (((3 * p0) + p1).toNatClampNeg) p2) 14 (((3 * p1) + p0).toNatClampNeg) p2) n) H_8 := hp_cP hp_M_s14 hP1
        replace hS := hS1
        clear hP1 hS1
        refine lv_iload hx hb dX2_clear_87 (lv_at hl 0 rfl) ?_
        have hP9 : va_P (dC, dI) vwCl (hp_M cI cZ o a (va_up v 0 (hp_c_clear p0 p1 p2)) (hp_r_clear r p0 p1 p2) n) H_8 := by simp only [hp_r_clear, if_pos hc]; exact hP
        exact W.iret (v := r 14 (((3 * p0) + p1).toNatClampNeg)) hx hb hr (fun t ht hW => ⟨⟨r 14 (((3 * p0) + p1).toNatClampNeg), (), rfl, (by rw [hp_a_clear, if_pos hc]; rfl), hp_ht ht hP9⟩, hS.F ht⟩) hS.2.2 dX2_clear_89
      · skip
        have c_6 := hp_bn c_6
        have hc := hp_ne0 c_6
        refine lv_iconst (v := 0) hx hb dX2_clear_51 (by decide) ?_
        have hP9 : va_P (dC, dI) vwCl (hp_M cI cZ o a (va_up v 0 (hp_c_clear p0 p1 p2)) (hp_r_clear r p0 p1 p2) n) H_5 := by simp only [hp_r_clear, if_neg hc]; exact hP
        exact W.iret (v := 0) hx hb hr (fun t ht hW => ⟨⟨0, (), rfl, (by rw [hp_a_clear, if_neg hc]), hp_ht ht hP9⟩, hS.F ht⟩) hS.2.2 dX2_clear_52
    · skip
      refine lv_iload hx hb dX2_clear_22 (lv_at hl 0 rfl) ?_
      refine lv_if_ne (tgt := 31) hx hb dX2_clear_24 (by decide) (fun c_9 => ?_) (fun c_9 => ?_)
      · skip
        have c_9 := hp_bn c_9
        refine lv_iload_n hx hb dX2_clear_31 rfl (lv_at hl 4 rfl) ?_
        refine lv_iconst (v := 0) hx hb dX2_clear_32 (by decide) ?_
        refine lv_iconst (v := 3) hx hb dX2_clear_33 (by decide) ?_
        refine vp_callSi (W.runS (As := [.int p2, .int 0, .int 3]) (rest := [.ref o]) ⟨hx, hb, hml, hown, hts⟩ (c_X2_in l p2 0 3) (va_cwS 3 hts gX2_clear_X2_in rfl rfl rfl (by decide +kernel) ⟨(Nat.le_of_ble_eq_true rfl), (Nat.le_of_ble_eq_true rfl)⟩) ⟨hp_nfb, fun _ _ _ => ⟨rfl, trivial⟩⟩ rfl rfl hl.1 rfl (lv_room (Nat.le_of_ble_eq_true rfl)) dX2_clear_34 ⟨(Nat.zero_le _), (Nat.zero_le _)⟩) (fun r_10 hr_10 => ?_)
        subst hr_10
        refine lv_if_ne (tgt := 44) hx hb dX2_clear_37 (by decide) (fun c_11 => ?_) (fun c_11 => ?_)
        · skip
          have c_11 := hp_bn c_11
          refine lv_iconst (v := 0) hx hb dX2_clear_44 (by decide) ?_
          exact jn_4 0 (by exact hp_cdz (by (first | assumption | (simp [c_9, c_11]; done))) (by (first | assumption | (simp [c_9, c_11]; done))) (by (first | assumption | (simp [c_9, c_11]; done)))) _ (lv_sub hl [0, 1, 2, 3, 4] rfl)
        · skip
          have c_11 := hp_bz c_11
          refine lv_iconst (v := 2) hx hb dX2_clear_40 (by decide) ?_
          refine lv_goto (tgt := 45) hx hb dX2_clear_41 (by decide) ?_
          exact jn_4 2 (by exact hp_cd2 (by (first | assumption | (simp [c_9, c_11]; done))) (by (first | assumption | (simp [c_9, c_11]; done)))) _ (lv_sub hl [0, 1, 2, 3, 4] rfl)
      · skip
        have c_9 := hp_bz c_9
        refine lv_iconst (v := 1) hx hb dX2_clear_27 (by decide) ?_
        refine lv_goto (tgt := 45) hx hb dX2_clear_28 (by decide) ?_
        exact jn_4 1 (by exact hp_cd1 (by (first | assumption | (simp [c_9]; done)))) _ (lv_sub hl [0, 1, 2, 3, 4] rfl)
  · skip
    refine lv_iload_n hx hb dX2_clear_0 rfl (lv_at hl 1 rfl) ?_
    refine vp_callSi (W.runS (As := [.int p0]) (rest := []) ⟨hx, hb, hml, hown, hts⟩ (c_X2_isTrade l p0) (va_cwS 1 hts gX2_clear_X2_isTrade rfl rfl rfl (by decide +kernel) ⟨(Nat.le_of_ble_eq_true rfl), (Nat.le_of_ble_eq_true rfl)⟩) ⟨hp_nfb, fun _ _ _ => ⟨rfl, trivial⟩⟩ rfl rfl hl.1 rfl (lv_room (Nat.le_of_ble_eq_true rfl)) dX2_clear_1 ⟨(Nat.zero_le _), (Nat.zero_le _)⟩) (fun r_12 hr_12 => ?_)
    subst hr_12
    refine lv_if_eq (tgt := 18) hx hb dX2_clear_4 (by decide) (fun c_13 => ?_) (fun c_13 => ?_)
    · skip
      have c_13 := hp_bz c_13
      refine lv_iconst (v := 0) hx hb dX2_clear_18 (by decide) ?_
      exact jn_2 0 (by simp [hp_b, c_13]) _ (lv_sub hl [0, 1, 2, 3] rfl)
    · skip
      have c_13 := hp_bn c_13
      refine lv_iload_n hx hb dX2_clear_7 rfl (lv_at hl 2 rfl) ?_
      refine vp_callSi (W.runS (As := [.int p1]) (rest := []) ⟨hx, hb, hml, hown, hts⟩ (c_X2_isTrade l p1) (va_cwS 1 hts gX2_clear_X2_isTrade rfl rfl rfl (by decide +kernel) ⟨(Nat.le_of_ble_eq_true rfl), (Nat.le_of_ble_eq_true rfl)⟩) ⟨hp_nfb, fun _ _ _ => ⟨rfl, trivial⟩⟩ rfl rfl hl.1 rfl (lv_room (Nat.le_of_ble_eq_true rfl)) dX2_clear_8 ⟨(Nat.zero_le _), (Nat.zero_le _)⟩) (fun r_14 hr_14 => ?_)
      subst hr_14
      refine lv_if_eq (tgt := 18) hx hb dX2_clear_11 (by decide) (fun c_15 => ?_) (fun c_15 => ?_)
      · skip
        have c_15 := hp_bz c_15
        refine lv_iconst (v := 0) hx hb dX2_clear_18 (by decide) ?_
        exact jn_2 0 (by simp [hp_b, c_13, c_15]) _ (lv_sub hl [0, 1, 2, 3] rfl)
      · skip
        have c_15 := hp_bn c_15
        refine lv_iconst (v := 1) hx hb dX2_clear_14 (by decide) ?_
        refine lv_goto (tgt := 19) hx hb dX2_clear_15 (by decide) ?_
        exact jn_2 1 (by simp [hp_b, c_13, c_15]) _ (lv_sub hl [0, 1, 2, 3] rfl)
end
