theorem kw22 : (Cond.instanceMethod ⟨"java/lang/Object", "<init>", "()V"⟩ : Cond) ∈ TG := tg_1 (i := 22) (by decide +kernel) rfl
theorem kw35 : (Cond.methodLink "CarrierPaths$Points" 3 ⟨"java/lang/Object", "<init>", "()V"⟩ : Cond) ∈ TG := tg_1 (i := 35) (by decide +kernel) rfl
theorem kw46 : (Cond.arrayClass .int : Cond) ∈ TG := tg_1 (i := 46) (by decide +kernel) rfl
theorem kw47 : (Cond.arrayClass .boolean : Cond) ∈ TG := tg_1 (i := 47) (by decide +kernel) rfl
theorem kw53 : (Cond.methodLink "CarrierPaths$Roads" 3 ⟨"java/lang/Object", "<init>", "()V"⟩ : Cond) ∈ TG := tg_1 (i := 53) (by decide +kernel) rfl
theorem kw86 : (Cond.methodLink "CarrierPaths$Rings" 3 ⟨"java/lang/Object", "<init>", "()V"⟩ : Cond) ∈ TG := tg_1 (i := 86) (by decide +kernel) rfl
theorem kw99 : (Cond.methodLink "CarrierPaths$Fleet" 3 ⟨"java/lang/Object", "<init>", "()V"⟩ : Cond) ∈ TG := tg_1 (i := 99) (by decide +kernel) rfl
theorem kw130 : (Cond.methodLink "CarrierPaths$Jobs" 3 ⟨"java/lang/Object", "<init>", "()V"⟩ : Cond) ∈ TG := tg_1 (i := 130) (by decide +kernel) rfl
theorem kw152 : (Cond.methodLink "CarrierPaths$Choice" 3 ⟨"java/lang/Object", "<init>", "()V"⟩ : Cond) ∈ TG := tg_1 (i := 152) (by decide +kernel) rfl
theorem kw754 : (Cond.methodLink "CarrierPathsModel" 1 ⟨"java/lang/Object", "<init>", "()V"⟩ : Cond) ∈ TG := tg_4 (i := 34) (by decide +kernel) rfl
theorem kwObj : (Cond.code objectInit ⟨#[0xb1]⟩ 1 none : Cond) ∈ TG := tg_1 (i := 23) (by decide +kernel) rfl
/-! CONSTRUCTORS -/
def zS : Sg := fun _ _ => 0
def nA (h0 sz : Nat) : Nat → Prop := fun q => q = h0 ∨ sz ≤ q
def adl (l : List Nat) : Nat → Nat := fun i => l.getD i 0
def nB (D : va_G) (tys : List (ClassId × FieldType)) (Wd : va_W) (sz : Nat) : State → Prop := fun U => U.heap.size = sz ∧ va_P D classes Wd U.heap ∧ va_K D classes tys U
theorem nB_blind {D : va_G} {tys : List (ClassId × FieldType)} {Wd : va_W} {sz : Nat} {av : List Value} : FrameBlind (va_Pc av (nB D tys Wd sz)) := fun a U g mk q => by
  obtain ⟨q0, q1, qP, qK⟩ := q
  exact ⟨q0, q1, qP, va_K.moved (u := U) (U := U.calling g mk a) (Vm.Alike.refl U.vm) qK⟩
theorem ca_I {D : va_G} {cl : List vw_C} {cI cZ cA : ClassId} {s : State} (h : va_K D cl (tysA cI cZ ++ [(cA, .int)]) s) : cI = cA := Option.some.inj ((h.2 0 _ rfl).2.symm.trans (h.2 2 _ rfl).2)
theorem ca_Z {D : va_G} {cl : List vw_C} {cI cZ cA : ClassId} {s : State} (h : va_K D cl (tysA cI cZ ++ [(cA, .boolean)]) s) : cZ = cA := Option.some.inj ((h.2 1 _ rfl).2.symm.trans (h.2 2 _ rfl).2)
theorem one_D {A : Nat → Prop} {a : Nat} {e : va_E} (h : A a) : va_D A [(a, e)] := by
  refine ⟨fun i j p q hi hj _ => ?_, fun k q hk => ?_⟩
  · have h1 := (List.getElem?_eq_some_iff.mp hi).1
    have h2 := (List.getElem?_eq_some_iff.mp hj).1
    simp only [List.length_singleton] at h1 h2
    omega
  · have h1 := List.mem_of_getElem? hk
    simp only [List.mem_singleton] at h1
    rw [h1]; exact h
theorem inj_ofD {A : Nat → Prop} {ad : Nat → Nat} {n : Nat} {ws : va_W} (hD : va_D A ws) (hm : ws.map Prod.fst = (List.range n).map ad) : Inj ad n := by
  have key : ∀ i, i < n → ∃ p, ws[i]? = some p ∧ p.1 = ad i := by
    intro i hi
    have h1 : (ws.map Prod.fst)[i]? = some (ad i) := by rw [hm, List.getElem?_map, List.getElem?_range hi]; rfl
    rw [List.getElem?_map] at h1
    cases hw : ws[i]? with
    | none => rw [hw] at h1; cases h1
    | some p => rw [hw] at h1; exact ⟨p, rfl, Option.some.inj h1⟩
  intro i j hi hj h
  obtain ⟨p, h1, h2⟩ := key i hi
  obtain ⟨q, h3, h4⟩ := key j hj
  exact hD.1 i j p q h1 h3 (by rw [h2, h4, h])
theorem mem_ofD {A : Nat → Prop} {ad : Nat → Nat} {n : Nat} {ws : va_W} (hD : va_D A ws) (hm : ws.map Prod.fst = (List.range n).map ad) : ∀ i, i < n → A (ad i) := by
  intro i hi
  have h1 : (ws.map Prod.fst)[i]? = some (ad i) := by rw [hm, List.getElem?_map, List.getElem?_range hi]; rfl
  rw [List.getElem?_map] at h1
  cases hw : ws[i]? with
  | none => rw [hw] at h1; cases h1
  | some p =>
    rw [hw] at h1
    rw [← Option.some.inj h1]
    exact hD.2 i p hw
theorem DC_of {A : Nat → Prop} {ad : Nat → Nat} {n : Nat} {ws : va_W} (inj : Inj ad n) (hmem : ∀ i, i < n → A (ad i)) (hm : ws.map Prod.fst = (List.range n).map ad) : va_D A ws :=
  (D_of inj hm).weaken (fun _ q _ h => by obtain ⟨k, hk, e⟩ := h; rw [e]; exact hmem k hk)
theorem sub_ad {A : Nat → Prop} {ad : Nat → Nat} {n : Nat} {q : Nat} (hmem : ∀ i, i < n → A (ad i)) (h : inA ad n q) : A q := by
  obtain ⟨k, hk, rfl⟩ := h
  exact hmem k hk
theorem new_of {ad : Nat → Nat} {n h0 sz : Nat} (hlt : h0 < sz) (inj : Inj ad n) (had0 : ad 0 = h0) (hmem : ∀ i, i < n → nA h0 sz (ad i)) : ∀ i, 0 < i → i < n → sz ≤ ad i := by
  intro i h1 h2
  rcases hmem i h2 with h | h
  · exact absurd (inj i 0 h2 (by omega) (by rw [h, had0])) (by omega)
  · exact h
