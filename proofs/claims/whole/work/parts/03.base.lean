/-! WORDS: one list for all contracts: the tables' good words -/
def TG : List Cond := lw_tbl.filter goodWord
theorem tg_1 {i : Nat} {w : Cond} (h : tables_1_1[i]? = some w) (g : goodWord w = true) : w ∈ TG := List.mem_filter.mpr ⟨List.mem_append_right _ (List.mem_append_left _ (List.mem_of_getElem? h)), g⟩
theorem tg_2 {i : Nat} {w : Cond} (h : tables_1_2[i]? = some w) (g : goodWord w = true) : w ∈ TG := List.mem_filter.mpr ⟨List.mem_append_right _ (List.mem_append_right _ (List.mem_append_left _ (List.mem_of_getElem? h))), g⟩
theorem tg_3 {i : Nat} {w : Cond} (h : tables_1_3[i]? = some w) (g : goodWord w = true) : w ∈ TG := List.mem_filter.mpr ⟨List.mem_append_right _ (List.mem_append_right _ (List.mem_append_right _ (List.mem_append_left _ (List.mem_of_getElem? h)))), g⟩
theorem tg_4 {i : Nat} {w : Cond} (h : tables_1_4[i]? = some w) (g : goodWord w = true) : w ∈ TG := List.mem_filter.mpr ⟨List.mem_append_right _ (List.mem_append_right _ (List.mem_append_right _ (List.mem_append_right _ (List.mem_append_left _ (List.mem_of_getElem? h))))), g⟩
theorem tg_5 {i : Nat} {w : Cond} (h : tables_1_5[i]? = some w) (g : goodWord w = true) : w ∈ TG := List.mem_filter.mpr ⟨List.mem_append_right _ (List.mem_append_right _ (List.mem_append_right _ (List.mem_append_right _ (List.mem_append_right _ (List.mem_of_getElem? h))))), g⟩
theorem tg_p {i : Nat} {w : Cond} (h : (k2_sels lw_privs)[i]? = some w) (g : goodWord w = true) : w ∈ TG := List.mem_filter.mpr ⟨List.mem_append_left _ (List.mem_of_getElem? h), g⟩
theorem tg_good {w : Cond} (h : w ∈ TG) : w ∈ TG ∧ ((w.onTables && w.keeps) = true ∨ ∃ ty, w = .arrayClass ty) := ⟨h, good_of_word (List.mem_filter.mp h).2⟩
theorem g_of {own C : String} {idx : Nat} {y : MethodName} {b : ByteArray} {n : Nat} {r : Option FieldType} (h1 : Cond.methodLink own idx y ∈ TG) (h2 : Cond.instanceMethod y ∈ TG) (h3 : Cond.selects C y y ∈ TG) (h4 : Cond.initialized C ∈ TG) (h5 : Cond.code y b n r ∈ TG) : GoodIn TG (wsV own idx C y (Cond.code y b n r :: TG)) := by
  intro w hw
  unfold wsV at hw
  rcases List.mem_append.mp hw with hw | hw
  · simp only [List.mem_cons, List.not_mem_nil, or_false] at hw
    rcases hw with rfl | rfl | rfl | rfl
    · exact tg_good h1
    · exact tg_good h2
    · exact tg_good h3
    · exact tg_good h4
  · rcases List.mem_cons.mp hw with rfl | hw
    · exact tg_good h5
    · exact tg_good hw
theorem gS_of {own : String} {idx : Nat} {y : MethodName} {b : ByteArray} {n : Nat} {r : Option FieldType} (h1 : Cond.methodLink own idx y ∈ TG) (h2 : Cond.static y ∈ TG) (h4 : Cond.initialized y.cls ∈ TG) (h5 : Cond.code y b n r ∈ TG) : GoodIn TG (va_wsS own idx y (Cond.code y b n r :: TG)) := by
  intro w hw
  unfold va_wsS at hw
  rcases List.mem_append.mp hw with hw | hw
  · simp only [List.mem_cons, List.not_mem_nil, or_false] at hw
    rcases hw with rfl | rfl | rfl
    · exact tg_good h1
    · exact tg_good h2
    · exact tg_good h4
  · rcases List.mem_cons.mp hw with rfl | hw
    · exact tg_good h5
    · exact tg_good hw
/-! STATES AND WORLDS -/
abbrev Sg : Type := Nat → Nat → Int32
def sto (σ : Sg) (k i : Nat) (v : Int32) : Sg := fun j => if j = k then upd (σ j) i v else σ j
def Inj (ad : Nat → Nat) (n : Nat) : Prop := ∀ i j, i < n → j < n → ad i = ad j → i = j
def inA (ad : Nat → Nat) (n : Nat) : Nat → Prop := fun q => ∃ k, k < n ∧ q = ad k
def tysA (cI cZ : ClassId) : List (ClassId × FieldType) := [(cI, .int), (cZ, .boolean)]
theorem D_of {ad : Nat → Nat} {n : Nat} {ws : va_W} (inj : Inj ad n) (hm : ws.map Prod.fst = (List.range n).map ad) : va_D (inA ad n) ws := by
  have key : ∀ (i : Nat) (p : Nat × va_E), ws[i]? = some p → i < n ∧ p.1 = ad i := by
    intro i p hi
    have h1 : (ws.map Prod.fst)[i]? = some p.1 := by rw [List.getElem?_map, hi]; rfl
    rw [hm, List.getElem?_map] at h1
    by_cases hn : i < n
    · rw [List.getElem?_range hn] at h1
      exact ⟨hn, (Option.some.inj h1).symm⟩
    · rw [List.getElem?_eq_none (by rw [List.length_range]; omega)] at h1
      cases h1
  refine ⟨fun i j p q hi hj hpq => ?_, fun k q hk => ⟨k, (key k q hk).1, (key k q hk).2⟩⟩
  obtain ⟨h1, e1⟩ := key i p hi
  obtain ⟨h2, e2⟩ := key j q hj
  exact inj i j h1 h2 (by rw [← e1, ← e2, hpq])
/-! CONTRACTS: a start over a world -/
def roB (D : va_G) (tys : List (ClassId × FieldType)) (Wd : va_W) : State → Prop := fun U => va_P D classes Wd U.heap ∧ va_K D classes tys U
theorem ro_blind {D : va_G} {tys : List (ClassId × FieldType)} {Wd : va_W} {av : List Value} : FrameBlind (va_Pc av (roB D tys Wd)) := fun a U g mk q => by
  obtain ⟨q0, qP, qK⟩ := q
  exact ⟨q0, qP, va_K.moved (u := U) (U := U.calling g mk a) (Vm.Alike.refl U.vm) qK⟩
theorem ro_pre {s : State} {H : Heap} {C : String} {b : Nat} {As : List Value} {D : va_G} {tys : List (ClassId × FieldType)} {Wd : va_W} (hK : va_K D classes tys s) (hP : va_P D classes Wd H) (hr : ∃ cell : Cell, H[b]? = some cell ∧ cell.vm.isStatics = false ∧ s.vm.findClass C = some cell.cls) : PreV s H C b (va_Pc (.ref b :: As) (roB D tys Wd)) As :=
  ⟨ro_blind, hr, fun U hU hW => ⟨rfl, by rw [hU]; exact hP, va_K.moved hW.alike hK⟩⟩
theorem st_pre {s : State} {H : Heap} {As : List Value} : PreS s H (va_Pc As (fun _ => True)) As := ⟨fun _ _ _ _ q => q, fun _ _ _ => ⟨rfl, trivial⟩⟩
theorem hp_back {D : va_G} {cl : List vw_C} {ws : va_W} {t : State} {H : Heap} (ht : t.heap = H) (h : va_P D cl ws H) : va_P D cl ws t.heap := by rw [ht]; exact h
theorem hp_fwd {D : va_G} {cl : List vw_C} {ws : va_W} {t : State} {H : Heap} (ht : t.heap = H) (h : va_P D cl ws t.heap) : va_P D cl ws H := by rw [← ht]; exact h
