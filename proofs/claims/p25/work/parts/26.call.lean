/-! apart: a call on one house keeps what is apart from it -/
def hp_sep (a b : va_W) : Prop := ∀ (i j : Nat) (p q : Nat × va_E), a[i]? = some p → b[j]? = some q → p.1 ≠ q.1
theorem hp_sep_sym {a b : va_W} (h : hp_sep a b) : hp_sep b a := fun i j p q hp hq e => h j i q p hq hp e.symm
theorem hp_sepP {D : va_G} {cl : List vw_C} {a b : va_W} {H H1 : Heap} (hb : va_P D cl b H) (h : hp_sep b a) (hk : ∀ q : Nat, q < H.size → ¬ va_A a H.size q → H1[q]? = H[q]?) : va_P D cl b H1 := hb.kept fun k q hq => hk q.1 ((hb k q hq).lt) (fun z => by
  rcases z with ⟨i, e, z⟩ | z
  · exact h k i q (q.1, e) hq z rfl
  · have := (hb k q hq).lt
    omega)
theorem hp_sepN {D : va_G} {cl : List vw_C} {a a' b : va_W} {H : Heap} (hb : va_P D cl b H) (h : hp_sep b a) (hD : va_D (va_A a H.size) a') : hp_sep b a' := fun i j p q hp hq e => by
  have hl := (hb i p hp).lt
  rcases hD.2 j q hq with ⟨k, e2, z⟩ | z
  · exact h i k p (q.1, e2) hp z e
  · omega
theorem hp_appL {D : va_G} {cl : List vw_C} {a b : va_W} {H : Heap} (h : va_P D cl (a ++ b) H) : va_P D cl a H := fun k q hk => h k q (by
  have hl := (List.getElem?_eq_some_iff.mp hk).1
  rw [List.getElem?_append_left hl]; exact hk)
theorem hp_appR {D : va_G} {cl : List vw_C} {a b : va_W} {H : Heap} (h : va_P D cl (a ++ b) H) : va_P D cl b H := fun k q hk => h (a.length + k) q (by
  rw [List.getElem?_append_right (by omega), Nat.add_sub_cancel_left]; exact hk)
theorem hp_appD {A : Nat → Prop} {a b : va_W} (h : va_D A (a ++ b)) : va_D A a ∧ va_D A b ∧ hp_sep a b := by
  have gL : ∀ (k : Nat) (q : Nat × va_E), a[k]? = some q → (a ++ b)[k]? = some q ∧ k < a.length := fun k q hq => by
    have hl := (List.getElem?_eq_some_iff.mp hq).1
    exact ⟨by rw [List.getElem?_append_left hl]; exact hq, hl⟩
  have gR : ∀ (k : Nat) (q : Nat × va_E), b[k]? = some q → (a ++ b)[a.length + k]? = some q := fun k q hq => by
    rw [List.getElem?_append_right (by omega), Nat.add_sub_cancel_left]; exact hq
  refine ⟨⟨fun i j p q hi hj e => h.1 i j p q (gL i p hi).1 (gL j q hj).1 e, fun k q hk => h.2 k q (gL k q hk).1⟩, ⟨fun i j p q hi hj e => ?_, fun k q hk => h.2 _ q (gR k q hk)⟩, fun i j p q hi hj e => ?_⟩
  · have := h.1 _ _ p q (gR i p hi) (gR j q hj) e
    omega
  · have := h.1 _ _ p q (gL i p hi).1 (gR j q hj) e
    have := (gL i p hi).2
    omega
theorem hp_nI_irem {a d : Nat} (ha : a < 2 ^ 31) (h0 : 0 < d) (hd : d < 2 ^ 31) : nI a - nI a / nI d * nI d = nI (a % d) := pk_rem ha h0 hd
/-- what holds in a method of the law, beside its houses -/
def hp_T (D : va_G) (cI cZ cO cJ : ClassId) (A : Nat → Prop) (s : State) : Prop := va_K D vwCl (hp_ty cI cZ cO cJ) s ∧ hp_ex s ∧ hp_str s ∧ hp_Zu A s s.heap ∧ hp_Zn A s s.heap ∧ hp_nc s ∧ ∀ q : Nat, s.heap.size ≤ q → A q
theorem hp_T.to {D : va_G} {cI cZ cO cJ : ClassId} {w : va_W} {s U : State} {H : Heap} {A : Nat → Prop} {locs : List Loc} (hT : hp_T D cI cZ cO cJ A s) (hP : va_P D vwCl w H) (hD : va_D A w) (hS : va_S A s.heap H locs) (hU : U.heap = H) (hW : s.WarmedH U.vm) : hp_prL D cI cZ cO cJ w H.size U :=
  ⟨hp_toT hP hT.1 hD hT.2.1 hT.2.2.1 hT.2.2.2.1 hT.2.2.2.2.1 hS hT.2.2.2.2.2.2 hU hW, hp_nc_mv hW.alike hT.2.2.2.2.2.1⟩
/-- a method of the law on one house: what it answers, and the house behind it -/
def hp_Lm (l : Launch) (y : MethodName) (ws : List Cond) (rm : Room) (As : List Value) (D : va_G) (cI cZ cO cJ : ClassId) (o : Nat) (b : Nat → Nat) (v : Nat → Int32) (r : Nat → Nat → Int32) (n : Nat) (ans : Int32) (v' : Nat → Int32) (r' : Nat → Nat → Int32) (n' : Nat) (mc ms : Nat) : Prop :=
  ∀ (ad : Nat → Nat) (sz : Nat), vx_Met l y ws rm (va_Pc (.ref o :: As) (hp_prL D cI cZ cO cJ (hp_X cI cZ cO o b ad v r n) sz)) (va_Qi (S := Nat → Nat) (fun x9 _ => x9 = ans) (fun u9 t9 => va_P D vwCl (hp_X cI cZ cO o b u9 v' r' n') t9.heap ∧ va_D (va_A (hp_X cI cZ cO o b ad v r n) sz) (hp_X cI cZ cO o b u9 v' r' n')) (va_A (hp_X cI cZ cO o b ad v r n) sz)) (vx_X (S := Unit) (fun _ => False) (fun _ _ _ => True) (va_A (hp_X cI cZ cO o b ad v r n) sz)) mc ms (va_A (hp_X cI cZ cO o b ad v r n) sz)
theorem hp_Lm.eq {l : Launch} {y : MethodName} {ws : List Cond} {rm : Room} {As : List Value} {D : va_G} {cI cZ cO cJ : ClassId} {o : Nat} {b : Nat → Nat} {v v' v2 : Nat → Int32} {r r' r2 : Nat → Nat → Int32} {n n' n2 : Nat} {ans ans2 : Int32} {mc ms : Nat} (h : hp_Lm l y ws rm As D cI cZ cO cJ o b v r n ans v' r' n' mc ms) (e1 : ans = ans2) (e2 : v' = v2) (e3 : r' = r2) (e4 : n' = n2) : hp_Lm l y ws rm As D cI cZ cO cJ o b v r n ans2 v2 r2 n2 mc ms := by
  subst e1; subst e2; subst e3; subst e4; exact h
/-- one house stands -/
def hp_H1 (D : va_G) (cI cZ cO : ClassId) (A : Nat → Prop) (s : State) (o : Nat) (b : Nat → Nat) (v : Nat → Int32) (r : Nat → Nat → Int32) (n : Nat) (H : Heap) (locs : List Loc) : Prop :=
  (∃ ad : Nat → Nat, va_P D vwCl (hp_X cI cZ cO o b ad v r n) H ∧ va_D A (hp_X cI cZ cO o b ad v r n)) ∧ va_S A s.heap H locs
/-- two houses stand, apart -/
def hp_H2 (D : va_G) (cI cZ cO : ClassId) (A : Nat → Prop) (s : State) (o1 : Nat) (b1 : Nat → Nat) (v1 : Nat → Int32) (r1 : Nat → Nat → Int32) (n1 : Nat) (o2 : Nat) (b2 : Nat → Nat) (v2 : Nat → Int32) (r2 : Nat → Nat → Int32) (n2 : Nat) (H : Heap) (locs : List Loc) : Prop :=
  (∃ ad1 ad2 : Nat → Nat, va_P D vwCl (hp_X cI cZ cO o1 b1 ad1 v1 r1 n1) H ∧ va_D A (hp_X cI cZ cO o1 b1 ad1 v1 r1 n1) ∧ va_P D vwCl (hp_X cI cZ cO o2 b2 ad2 v2 r2 n2) H ∧ va_D A (hp_X cI cZ cO o2 b2 ad2 v2 r2 n2) ∧ hp_sep (hp_X cI cZ cO o1 b1 ad1 v1 r1 n1) (hp_X cI cZ cO o2 b2 ad2 v2 r2 n2)) ∧ va_S A s.heap H locs
theorem hp_H2.sym {D : va_G} {cI cZ cO : ClassId} {A : Nat → Prop} {s : State} {o1 : Nat} {b1 : Nat → Nat} {v1 : Nat → Int32} {r1 : Nat → Nat → Int32} {n1 o2 : Nat} {b2 : Nat → Nat} {v2 : Nat → Int32} {r2 : Nat → Nat → Int32} {n2 : Nat} {H : Heap} {locs : List Loc} (h : hp_H2 D cI cZ cO A s o1 b1 v1 r1 n1 o2 b2 v2 r2 n2 H locs) : hp_H2 D cI cZ cO A s o2 b2 v2 r2 n2 o1 b1 v1 r1 n1 H locs := by
  obtain ⟨⟨ad1, ad2, h1, h2, h3, h4, h5⟩, h6⟩ := h
  exact ⟨⟨ad2, ad1, h3, h4, h1, h2, hp_sep_sym h5⟩, h6⟩
section HPCALL
variable {p : Program} {l : Launch} {e : Env} {R : Room} {s : State} {m : MethodId} {args : Array Value} {below : List Frame} {meth : Method} {c : Code} {H : Heap} {locs : List Loc} {cells slots : Nat} {Q : State → Prop}
variable {cc : ByteArray} {pc : Nat} {ls : Array Slot} {rest st : List Value} {A : Nat → Prop} {D : va_G} {cI cZ cO cJ : ClassId} {o : Nat} {b ad : Nat → Nat} {v v' : Nat → Int32} {r r' : Nat → Nat → Int32} {n n' : Nat}
variable {y : MethodName} {ws Ts : List Cond} {rm : Room} {As : List Value} {ans : Int32} {mc ms nL index maxL k : Nat} {bytes : ByteArray} {ret : Option FieldType} {hh : List (Nat × Nat × Nat × Nat)}
theorem hp_callR (S : CallFix p m c cc nL s args Ts RL) (hM : hp_Lm l y ws rm As D cI cZ cO cJ o b v r n ans v' r' n' mc ms) (cw : vx_CSW R s args RL index y bytes maxL ret hh ws rm mc ms k) (hT : hp_T D cI cZ cO cJ A s) (hP : va_P D vwCl (hp_X cI cZ cO o b ad v r n) H) (hD : va_D A (hp_X cI cZ cO o b ad v r n)) (hS : va_S A s.heap H locs)
    (hst : st = (Value.ref o :: As).reverse ++ rest) (hk : (Value.ref o :: As).length = k) (hls : ls.size = nL) (hrm : (rest.map fun v => v.category).sum ≤ 8) (hdg : decode cc pc = .ok (.invokestatic index, 3)) (hf : cells + mc ≤ R.cells ∧ slots + ms ≤ R.slots)
    (kk : ∀ (ad1 : Nat → Nat) (H1 : Heap) (locs1 : List Loc), va_P D vwCl (hp_X cI cZ cO o b ad1 v' r' n') H1 → va_D A (hp_X cI cZ cO o b ad1 v' r' n') → (∀ w : va_W, va_P D vwCl w H → hp_sep w (hp_X cI cZ cO o b ad v r n) → va_P D vwCl w H1 ∧ hp_sep w (hp_X cI cZ cO o b ad1 v' r' n')) → va_S A s.heap H1 locs1 → W p l e R s m args below meth c H1 locs1 (cells + mc) (slots + ms) Q (F0 m (pc + 3) ls (.int ans :: rest))) :
    W p l e R s m args below meth c H locs cells slots Q (F0 m pc ls st) := by
  subst hst
  have hFc := hp_free hD hS hT.2.2.2.2.2.2
  refine vx_calli (vx_runSX (As := .ref o :: As) (rest := rest) S (hM ad H.size) cw ⟨hp_fbL, fun U hU hW => ⟨rfl, hT.to hP hD hS hU hW⟩⟩ rfl hk hls rfl (lv_room hrm) hdg hf) hS (fun q _ h => hFc q h) hFc (fun q _ h => hFc q h) (fun _ _ _ _ _ _ _ _ _ hpx _ _ _ _ _ _ _ => False.elim hpx) (fun r9 u t9 H1 locs1 ht _ hw hB hsz1 hkk hS1 => ?_)
  subst hw
  obtain ⟨hPx, hDx⟩ := hB
  exact kk u H1 locs1 (hp_th ht hPx) (hDx.weaken (fun k q _ h => hFc q.1 h)) (fun w hw hs => ⟨hp_sepP hw hs hkk, hp_sepN hw hs hDx⟩) hS1
theorem hp_call1 (S : CallFix p m c cc nL s args Ts RL) (hT : hp_T D cI cZ cO cJ A s) (cw : vx_CSW R s args RL index y bytes maxL ret hh ws rm mc ms k) (hM : hp_Lm l y ws rm As D cI cZ cO cJ o b v r n ans v' r' n' mc ms) (hH : hp_H1 D cI cZ cO A s o b v r n H locs)
    (hst : st = (Value.ref o :: As).reverse ++ rest) (hk : (Value.ref o :: As).length = k) (hls : ls.size = nL) (hrm : (rest.map fun v => v.category).sum ≤ 8) (hdg : decode cc pc = .ok (.invokestatic index, 3)) (hf : cells + mc ≤ R.cells ∧ slots + ms ≤ R.slots)
    (kk : ∀ (H1 : Heap) (locs1 : List Loc), hp_H1 D cI cZ cO A s o b v' r' n' H1 locs1 → W p l e R s m args below meth c H1 locs1 (cells + mc) (slots + ms) Q (F0 m (pc + 3) ls (.int ans :: rest))) :
    W p l e R s m args below meth c H locs cells slots Q (F0 m pc ls st) := by
  obtain ⟨⟨ad, hP, hD⟩, hS⟩ := hH
  exact hp_callR S hM cw hT hP hD hS hst hk hls hrm hdg hf (fun ad1 H1 locs1 hP1 hD1 _ hS1 => kk H1 locs1 ⟨⟨ad1, hP1, hD1⟩, hS1⟩)
variable {o2 : Nat} {b2 : Nat → Nat} {v2 : Nat → Int32} {r2 : Nat → Nat → Int32} {n2 : Nat}
theorem hp_call2a (S : CallFix p m c cc nL s args Ts RL) (hT : hp_T D cI cZ cO cJ A s) (cw : vx_CSW R s args RL index y bytes maxL ret hh ws rm mc ms k) (hM : hp_Lm l y ws rm As D cI cZ cO cJ o b v r n ans v' r' n' mc ms) (hH : hp_H2 D cI cZ cO A s o b v r n o2 b2 v2 r2 n2 H locs)
    (hst : st = (Value.ref o :: As).reverse ++ rest) (hk : (Value.ref o :: As).length = k) (hls : ls.size = nL) (hrm : (rest.map fun v => v.category).sum ≤ 8) (hdg : decode cc pc = .ok (.invokestatic index, 3)) (hf : cells + mc ≤ R.cells ∧ slots + ms ≤ R.slots)
    (kk : ∀ (H1 : Heap) (locs1 : List Loc), hp_H2 D cI cZ cO A s o b v' r' n' o2 b2 v2 r2 n2 H1 locs1 → W p l e R s m args below meth c H1 locs1 (cells + mc) (slots + ms) Q (F0 m (pc + 3) ls (.int ans :: rest))) :
    W p l e R s m args below meth c H locs cells slots Q (F0 m pc ls st) := by
  obtain ⟨⟨ad, ad2, hP, hD, hP2, hD2, hsep⟩, hS⟩ := hH
  refine hp_callR S hM cw hT hP hD hS hst hk hls hrm hdg hf (fun ad1 H1 locs1 hP1 hD1 hk1 hS1 => kk H1 locs1 ?_)
  obtain ⟨h1, h2⟩ := hk1 _ hP2 (hp_sep_sym hsep)
  exact ⟨⟨ad1, ad2, hP1, hD1, h1, hD2, hp_sep_sym h2⟩, hS1⟩
theorem hp_call2b (S : CallFix p m c cc nL s args Ts RL) (hT : hp_T D cI cZ cO cJ A s) (cw : vx_CSW R s args RL index y bytes maxL ret hh ws rm mc ms k) (hM : hp_Lm l y ws rm As D cI cZ cO cJ o b v r n ans v' r' n' mc ms) (hH : hp_H2 D cI cZ cO A s o2 b2 v2 r2 n2 o b v r n H locs)
    (hst : st = (Value.ref o :: As).reverse ++ rest) (hk : (Value.ref o :: As).length = k) (hls : ls.size = nL) (hrm : (rest.map fun v => v.category).sum ≤ 8) (hdg : decode cc pc = .ok (.invokestatic index, 3)) (hf : cells + mc ≤ R.cells ∧ slots + ms ≤ R.slots)
    (kk : ∀ (H1 : Heap) (locs1 : List Loc), hp_H2 D cI cZ cO A s o2 b2 v2 r2 n2 o b v' r' n' H1 locs1 → W p l e R s m args below meth c H1 locs1 (cells + mc) (slots + ms) Q (F0 m (pc + 3) ls (.int ans :: rest))) :
    W p l e R s m args below meth c H locs cells slots Q (F0 m pc ls st) :=
  hp_call2a S hT cw hM hH.sym hst hk hls hrm hdg hf (fun H1 locs1 h => kk H1 locs1 h.sym)
/-- a call that is held against a number, and is that number -/
theorem hp_refu {kc : Int32} {ki : Nat} {off : Int} {tgt : Nat} (S : CallFix p m c cc nL s args Ts RL) (hT : hp_T D cI cZ cO cJ A s) (hcon : (Cond.constant RL ki kc).before args s = true) (cw : vx_CSW R s args RL index y bytes maxL ret hh ws rm mc ms k) (hM : hp_Lm l y ws rm As D cI cZ cO cJ o b v r n ans v r n mc ms) (hH : hp_H1 D cI cZ cO A s o b v r n H locs) (he : ans = kc)
    (hst : st = (Value.ref o :: As).reverse ++ rest) (hk : (Value.ref o :: As).length = k) (hls : ls.size = nL) (hrm : (rest.map fun v => v.category).sum ≤ 8) (hdg : decode cc pc = .ok (.invokestatic index, 3)) (hd2 : decode cc (pc + 3) = .ok (.ldc ki, 2)) (hd3 : decode cc (pc + 3 + 2) = .ok (.if_icmp .ne off, 3)) (ht : ((pc + 3 + 2 : Nat) : Int) + off = (tgt : Int)) (hf : cells + mc ≤ R.cells ∧ slots + ms ≤ R.slots)
    (kk : ∀ (H1 : Heap) (locs1 : List Loc), hp_H1 D cI cZ cO A s o b v r n H1 locs1 → W p l e R s m args below meth c H1 locs1 (cells + mc) (slots + ms) Q (F0 m (pc + 3 + 2 + 3) ls rest)) :
    W p l e R s m args below meth c H locs cells slots Q (F0 m pc ls st) := by
  refine hp_call1 S hT cw hM hH hst hk hls hrm hdg hf (fun H1 locs1 h1 => ?_)
  refine lv_ldc S.1 S.2.1 S.2.2.2.1 hcon hd2 ?_
  exact lv_icmp_ne S.1 S.2.1 hd3 ht (fun q => absurd he q) (fun _ => kk H1 locs1 h1)
end HPCALL
section HPJB
variable {p : Program} {l : Launch} {e : Env} {R : Room} {s : State} {m : MethodId} {args : Array Value} {below : List Frame} {meth : Method} {c : Code} {H : Heap} {locs : List Loc} {cells slots : Nat} {Q : State → Prop}
theorem hp_joinB {g : JFrame} {i : Type} (pc nL : Nat) (P : i → Prop) (LV : i → List (Nat × Value)) (ST : i → List Value)
    (B : (∀ x, P x → ∀ ls : Array Slot, lv_has ls nL (LV x) → W p l e R s m args below meth c H locs cells slots Q (F0 m pc ls (ST x))) → W p l e R s m args below meth c H locs cells slots Q g)
    (J : ∀ x, P x → ∀ ls : Array Slot, lv_has ls nL (LV x) → W p l e R s m args below meth c H locs cells slots Q (F0 m pc ls (ST x))) : W p l e R s m args below meth c H locs cells slots Q g := B J
end HPJB
