/-! THE LAW'S WRAPPERS: the program's world and the array 'out' -/
def tysL (cI cZ cJ : ClassId) : List (ClassId × FieldType) := [(cI, .int), (cZ, .boolean), (cJ, .long)]
def W_X2 (ad : Nat → Nat → Nat) (cI cZ : ClassId) (σ : SG) (oa : Nat) (cJ : ClassId) (f : Nat → Int64) : va_W := W_Face ad cI cZ σ ++ [(oa, .inl (cJ, 1, .inr (.inl f)))]
def A2 (ad : Nat → Nat → Nat) (oa : Nat) : Nat → Prop := fun q => inA (fA ad) 29 q ∨ q = oa
theorem D_X2 {ad : Nat → Nat → Nat} {oa : Nat} {cI cZ cJ : ClassId} {σ : SG} {f : Nat → Int64} (inj : Inj (fA ad) 29) (hoa : ¬ inA (fA ad) 29 oa) : va_D (A2 ad oa) (W_X2 ad cI cZ σ oa cJ f) := by
  refine va_D.app ((D_Face inj).weaken (fun _ _ _ h => Or.inl h)) (one_D (Or.inr rfl)) (fun i j x y hx hy h => ?_)
  have h1 := List.mem_of_getElem? hy
  simp only [List.mem_singleton] at h1
  obtain ⟨h2, h3⟩ := at_Face hx
  apply hoa
  exact ⟨i, h2, by rw [← h3, h, h1]⟩
/-- XW at a later state: the tables warmer, the old cells as they were -/
theorem xw_later {s U : State} (hW : s.WarmedH U.vm) (hh : ∀ q : Nat, q < s.heap.size → U.heap[q]? = s.heap[q]?) (hall : ∀ w ∈ XW, ∀ a : Array Value, w.before a s = true) : ∀ w ∈ XW, ∀ a : Array Value, w.before a U = true := by
  intro w hw a
  have h := hall w hw a
  have tab : w.onTables = true → w.keepsFace = true → w.before a U = true := fun h1 h2 => by
    have h3 : w.before a (s.setVm U.vm) = true := Cond.before_shiftedFace (State.Shifted.of_warmed hW) w h2 h
    have h4 := Cond.onTables_vm (A := a) (A' := a) (U := U) (U' := s) U.vm w h1
    rw [State.setVm_self] at h4
    rw [h4]; exact h3
  have lay : ∀ C n d : String, (Cond.laysStatic C n d).before a s = true → (Cond.laysStatic C n d).before a U = true := by
    intro C n d h0
    have h3 : (Cond.laysStatic C n d).before a (s.setVm U.vm) = true := Cond.before_shiftedFace (State.Shifted.of_warmed hW) _ rfl h0
    obtain ⟨c, k, i, f, ad, cell, g1, g2, g3, g4, g5, g6, g7, g8, g9⟩ := Cond.laysStatic_spec h3
    have e1 : U.vm.findClass C = some c := g1
    have e2 : U.fieldFound? C n d = some (c, k, i, f) := g2
    have e5 : s.heap[ad]? = some cell := g5
    have e6 : U.heap[ad]? = some cell := by rw [hh ad (Array.getElem?_eq_some_iff.mp e5).1]; exact e5
    simp [Cond.before, Cond.holds, Cond.value, e1, e2, g3, g4, e6, g6, g7, g8, g9]
  have ref : ∀ C n d : String, (Cond.laysStatic C n d).before a s = true → (Cond.isRef (.static C n d)).before a s = true → (Cond.isRef (.static C n d)).before a U = true := by
    intro C n d h9 h0
    have h3 : (Cond.laysStatic C n d).before a (s.setVm U.vm) = true := Cond.before_shiftedFace (State.Shifted.of_warmed hW) _ rfl h9
    have h4 : (Cond.isRef (.static C n d)).before a (s.setVm U.vm) = true := Cond.before_shiftedFace (State.Shifted.of_warmed hW) _ rfl h0
    obtain ⟨c, k, i, f, ad, cell, g1, g2, g3, g4, g5, g6, g7, g8, g9⟩ := Cond.laysStatic_spec h3
    have e2 : U.fieldFound? C n d = some (c, k, i, f) := g2
    have e2' : (s.setVm U.vm).fieldFound? C n d = some (c, k, i, f) := g2
    have e5 : s.heap[ad]? = some cell := g5
    have e5' : (s.setVm U.vm).heap[ad]? = some cell := g5
    have e6 : U.heap[ad]? = some cell := by rw [hh ad (Array.getElem?_eq_some_iff.mp e5).1]; exact e5
    simp [Cond.before, Cond.holds, Cond.value, Term.eval, State.fieldNamed?, e2', g3, g4, e5, e5', g6, g8] at h4
    simp [Cond.before, Cond.holds, Cond.value, Term.eval, State.fieldNamed?, e2, g3, g4, e6, g6, g8]
    exact h4
  unfold XW at hw
  simp only [List.mem_cons, List.not_mem_nil, or_false] at hw
  rcases hw with rfl | rfl | rfl | rfl | rfl | rfl | rfl | rfl | rfl | rfl
  · exact lay _ _ _ h
  · exact lay _ _ _ h
  · exact ref _ _ _ (hall (.laysStatic Bundle.tN "UNASSIGNED_STACK" Bundle.steD) (by simp [XW]) a) h
  · exact ref _ _ _ (hall (.laysStatic Bundle.tN "SUPPRESSED_SENTINEL" Bundle.listD) (by simp [XW]) a) h
  · exact tab rfl rfl
  · exact tab rfl rfl
  · exact tab rfl rfl
  · exact tab rfl rfl
  · exact tab rfl rfl
  · exact tab rfl rfl
theorem xTh.later {s U : State} (hW : s.WarmedH U.vm) (hh : ∀ q : Nat, q < s.heap.size → U.heap[q]? = s.heap[q]?) (h : xTh s) : xTh U :=
  ⟨xw_later hW hh h.1, fun q hq => by obtain ⟨a, ha⟩ := h.2 q hq; exact ⟨a, vk_R.warm hW ha⟩⟩
def lB (D : va_G) (tys : List (ClassId × FieldType)) (Wd : va_W) : State → Prop := fun U => va_P D classes Wd U.heap ∧ va_K D classes tys U ∧ xTh U ∧ va_Nc "java/lang/IllegalStateException" "java/lang/IllegalArgumentException" U
theorem l_blind {D : va_G} {tys : List (ClassId × FieldType)} {Wd : va_W} {av : List Value} : FrameBlind (va_Pc av (lB D tys Wd)) := fun a U g mk q => by
  obtain ⟨q0, qP, qK, qX, qN⟩ := q
  exact ⟨q0, qP, va_K.moved (u := U) (U := U.calling g mk a) (Vm.Alike.refl U.vm) qK, xTh.same (u := U) rfl rfl qX, va_Nc.moved (u := U) (U := U.calling g mk a) (Vm.Alike.refl U.vm) qN⟩
theorem x_pre {s : State} {C : String} {b : Nat} {As : List Value} {D : va_G} {tys : List (ClassId × FieldType)} {Wd : va_W} (hK : va_K D classes tys s) (hP : va_P D classes Wd s.heap) (hth : xTh s) (hr : ∃ cell : Cell, s.heap[b]? = some cell ∧ cell.vm.isStatics = false ∧ s.vm.findClass C = some cell.cls) : PreV s s.heap C b (va_Pc (.ref b :: As) (xB D tys Wd)) As :=
  ⟨x_blind, hr, fun U hU hW => ⟨rfl, by rw [hU]; exact hP, va_K.moved hW.alike hK, xTh.later hW (fun q _ => by rw [hU]) hth⟩⟩
/-- behind a call of the program: 'out' is as it was -/
theorem x2_join {D : va_G} {ad : Nat → Nat → Nat} {oa : Nat} {cI cZ cJ : ClassId} {σ u : SG} {f : Nat → Int64} {st t : State} {H : Heap} (hoa : ¬ inA (fA ad) 29 oa) (hH : st.heap = H) (hP : va_P D classes (W_X2 ad cI cZ σ oa cJ f) H) (hF : va_F (inA (fA ad) 29) st t) (hP1 : va_P D classes (W_Face ad cI cZ u) t.heap) : va_P D classes (W_X2 ad cI cZ u oa cJ f) t.heap := by
  refine va_P.app hP1 (fun k q hk => ?_)
  have h1 := List.mem_of_getElem? hk
  simp only [List.mem_singleton] at h1
  subst h1
  have h2 : va_at D classes (oa, .inl (cJ, 1, .inr (.inl f))) H := hP 29 _ rfl
  refine h2.kept ?_
  show t.heap[oa]? = H[oa]?
  rw [← hH]
  exact hF.2 oa (by rw [hH]; exact h2.lt) hoa
theorem x2_S {A : Nat → Prop} {ad : Nat → Nat → Nat} {st t : State} {H0 H : Heap} {locs L : List Loc} (hS : va_S A H0 H locs) (hH : st.heap = H) (hsub : ∀ q, inA (fA ad) 29 q → A q) (hF : va_F (inA (fA ad) 29) st t) (hL : ∀ z ∈ L, inA (fA ad) 29 z.base) : va_S A H0 t.heap (locs ++ L) := by
  refine ⟨Nat.le_trans hS.1 (by rw [← hH]; exact hF.1), fun q h1 h2 => ?_, fun z hz => ?_⟩
  · have h3 := hF.2 q (by rw [hH]; exact Nat.lt_of_lt_of_le h1 hS.1) (fun h => h2 (hsub q h))
    rw [h3, hH]; exact hS.2.1 q h1 h2
  · rcases List.mem_append.mp hz with h | h
    · exact hS.2.2 z h
    · exact hsub _ (hL z h)
theorem up_X2 {D : va_G} {ad : Nat → Nat → Nat} {oa : Nat} {cI cZ cJ : ClassId} {u : SG} {f g : Nat → Int64} {H : Heap} (h : va_P D classes ((W_X2 ad cI cZ u oa cJ f).set 29 (oa, .inl (cJ, 1, .inr (.inl g)))) H) : va_P D classes (W_X2 ad cI cZ u oa cJ g) H := h
theorem tab1 {l : List ExceptionTableEntry} {a b c d : Nat} (h : l.map (fun h => (h.startPc, h.endPc, h.handlerPc, h.catchType)) = [(a, b, c, d)]) : ∃ x : ExceptionTableEntry, l = [x] ∧ x.startPc = a ∧ x.endPc = b ∧ x.handlerPc = c ∧ x.catchType = d := by
  match l, h with
  | [x], h =>
    simp only [List.map_cons, List.map_nil, List.cons.injEq, Prod.mk.injEq, and_true] at h
    exact ⟨x, rfl, h⟩
theorem tab2 {l : List ExceptionTableEntry} {a b c d a' b' c' d' : Nat} (h : l.map (fun h => (h.startPc, h.endPc, h.handlerPc, h.catchType)) = [(a, b, c, d), (a', b', c', d')]) : ∃ x z : ExceptionTableEntry, l = [x, z] ∧ (x.startPc = a ∧ x.endPc = b ∧ x.handlerPc = c ∧ x.catchType = d) ∧ (z.startPc = a' ∧ z.endPc = b' ∧ z.handlerPc = c' ∧ z.catchType = d') := by
  match l, h with
  | [x, z], h =>
    simp only [List.map_cons, List.map_nil, List.cons.injEq, Prod.mk.injEq, and_true] at h
    exact ⟨x, z, rfl, h.1, h.2⟩
