def xS : List (Nat × String) := [(72, "not two points"), (77, "no such time"), (85, "no more pieces"), (114, "not a set of points"), (117, "no more rings"), (121, "no such point"), (123, "no such charge"), (126, "no more carriers"), (134, "no more jobs"), (149, "no such carrier"), (177, "no such time, or it is over"), (192, "no such points"), (206, "no such what"), (224, "no such job")]
/-! THE WORDS OF A THROW: those of the tables that keep are in TG, the others in XW -/
def xN : List String := ["java/lang/RuntimeException", "java/lang/Exception"]
def XW : List Cond := [.laysStatic Bundle.tN "UNASSIGNED_STACK" Bundle.steD, .laysStatic Bundle.tN "SUPPRESSED_SENTINEL" Bundle.listD, .isRef (.static Bundle.tN "UNASSIGNED_STACK" Bundle.steD), .isRef (.static Bundle.tN "SUPPRESSED_SENTINEL" Bundle.listD),
  .castable "java/lang/IllegalArgumentException" "java/lang/IllegalArgumentException", .castable "java/lang/IllegalStateException" "java/lang/IllegalStateException", .castable "java/lang/IndexOutOfBoundsException" "java/lang/IndexOutOfBoundsException",
  .declares (Bundle.initS "java/lang/RuntimeException"), .declares (Bundle.initS "java/lang/Exception"), .declares (Bundle.initS Bundle.tN)]
def xL0 (X : String) : List Cond := (Bundle.throwableAtoms ++ Bundle.throwableSAtoms ++ Bundle.chainSAtoms X xN) ++
  [.instantiable X 6, .castable X X, .selects X Bundle.tFill0 Bundle.tFill0, .selects X Bundle.tFill Bundle.tFill,
   .lays X Bundle.tN "cause" "Ljava/lang/Throwable;", .lays X Bundle.tN "stackTrace" Bundle.steD, .lays X Bundle.tN "suppressedExceptions" Bundle.listD, .lays X Bundle.tN "detailMessage" "Ljava/lang/String;",
   .isRef (.static Bundle.tN "UNASSIGNED_STACK" Bundle.steD), .isRef (.static Bundle.tN "SUPPRESSED_SENTINEL" Bundle.listD),
   .fieldLink Bundle.tN 198 Bundle.tN "backtrace" "Ljava/lang/Object;", .lays Bundle.tN Bundle.tN "backtrace" "Ljava/lang/Object;", .lays X Bundle.tN "backtrace" "Ljava/lang/Object;"]
def xOk (w : Cond) : Bool := decide (w ∈ XW) || (goodWord w && decide (w ∈ tables_1))
set_option maxRecDepth 100000 in
theorem xl_a : (xL0 "java/lang/IllegalArgumentException").all xOk = true := by decide +kernel
set_option maxRecDepth 100000 in
theorem xl_s : (xL0 "java/lang/IllegalStateException").all xOk = true := by decide +kernel
set_option maxRecDepth 100000 in
theorem xl_i : (xL0 "java/lang/IndexOutOfBoundsException").all xOk = true := by decide +kernel
theorem xo_of {X : String} {ic : Nat} {args : Array Value} {s : State} (hX : (xL0 X).all xOk = true) (hts : ∀ w ∈ TG, w.before args s = true) (hm : Cond.methodLink "CarrierPaths" ic (Bundle.initS X) ∈ TG) (hx : ∀ w ∈ XW, w.before args s = true) : ∀ w ∈ Bundle.ownAtoms "CarrierPaths" ic X xN, w.before args s = true := by
  intro w hw
  have key : w = Cond.methodLink "CarrierPaths" ic (Bundle.initS X) ∨ w ∈ xL0 X := by
    unfold Bundle.ownAtoms at hw
    rcases List.mem_append.mp hw with h | h
    · exact Or.inr (List.mem_append_left _ h)
    · rcases List.mem_cons.mp h with h | h
      · exact Or.inl h
      · exact Or.inr (List.mem_append_right _ h)
  rcases key with rfl | h
  · exact hts _ hm
  · have h1 := List.all_eq_true.mp hX w h
    unfold xOk at h1
    simp only [Bool.or_eq_true, Bool.and_eq_true, decide_eq_true_eq] at h1
    rcases h1 with h1 | ⟨h1, h2⟩
    · exact hx w h1
    · exact hts w (List.mem_filter.mpr ⟨List.mem_append_right _ h2, h1⟩)
/-- what a throw needs of a state beside the good words: XW, and the text's place -/
def xTh (U : State) : Prop := (∀ w ∈ XW, ∀ a : Array Value, w.before a U = true) ∧ ∀ q ∈ xS, ∃ a : Nat, vk_R "CarrierPaths" q.1 q.2 a U
theorem xw_same {u U : State} (hv : U.vm = u.vm) (hh : U.heap = u.heap) : ∀ w ∈ XW, ∀ a a' : Array Value, w.before a u = true → w.before a' U = true := by
  intro w hw a a' h
  unfold XW at hw
  simp only [List.mem_cons, List.not_mem_nil, or_false] at hw
  rcases hw with rfl | rfl | rfl | rfl | rfl | rfl | rfl | rfl | rfl | rfl <;>
    (simp only [Cond.before, Cond.holds, Cond.value, Term.eval, State.fieldNamed?, State.fieldFound?, State.methodNamed?, hv, hh] at h ⊢; exact h)
theorem xTh.same {u U : State} (hv : U.vm = u.vm) (hh : U.heap = u.heap) (h : xTh u) : xTh U :=
  ⟨fun w hw a => xw_same hv hh w hw a a (h.1 w hw a), fun q hq => by obtain ⟨a, ha⟩ := h.2 q hq; exact ⟨a, vk_R.same hv ha⟩⟩
def xB (D : va_G) (tys : List (ClassId × FieldType)) (Wd : va_W) : State → Prop := fun U => va_P D classes Wd U.heap ∧ va_K D classes tys U ∧ xTh U
theorem x_blind {D : va_G} {tys : List (ClassId × FieldType)} {Wd : va_W} {av : List Value} : FrameBlind (va_Pc av (xB D tys Wd)) := fun a U g mk q => by
  obtain ⟨q0, qP, qK, qX⟩ := q
  exact ⟨q0, qP, va_K.moved (u := U) (U := U.calling g mk a) (Vm.Alike.refl U.vm) qK, xTh.same (u := U) rfl rfl qX⟩
def xC (D : va_G) (ad : Nat → Nat → Nat) (cI cZ : ClassId) (X : String → SG → Prop) : String → State → State → Prop := fun E st t => ∃ u : SG, X E u ∧ va_P D classes (W_Face ad cI cZ u) t.heap ∧ va_F (inA (fA ad) 29) st t
theorem x_thrown {D : va_G} {ad : Nat → Nat → Nat} {cI cZ : ClassId} {X : String → SG → Prop} {E : String} {σ : SG} {s t : State} (h : X E σ) (hP : va_P D classes (W_Face ad cI cZ σ) s.heap) (hz : s.heap.size ≤ t.heap.size) (hq : ∀ q : Nat, q < s.heap.size → t.heap[q]? = s.heap[q]?) : xC D ad cI cZ X E s t :=
  ⟨σ, h, hP.kept (fun k q hk => hq q.1 (hP k q hk).lt), hz, fun q h1 _ => hq q h1⟩
