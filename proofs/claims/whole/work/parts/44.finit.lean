theorem kw21 : (Cond.methodLink "CarrierPaths" 1 ⟨"java/lang/Object", "<init>", "()V"⟩ : Cond) ∈ TG := tg_1 (i := 21) (by decide +kernel) rfl
theorem kw27 : (Cond.methodLink "CarrierPaths" 15 ⟨"java/lang/Math", "max", "(II)I"⟩ : Cond) ∈ TG := tg_1 (i := 27) (by decide +kernel) rfl
theorem kw30 : (Cond.classLink "CarrierPaths" 18 "CarrierPaths$Points" : Cond) ∈ TG := tg_1 (i := 30) (by decide +kernel) rfl
theorem kw31 : (Cond.instantiable "CarrierPaths$Points" 3 : Cond) ∈ TG := tg_1 (i := 31) (by decide +kernel) rfl
theorem kw32 : (Cond.methodLink "CarrierPaths" 20 ⟨"CarrierPaths$Points", "<init>", "(I)V"⟩ : Cond) ∈ TG := tg_1 (i := 32) (by decide +kernel) rfl
theorem kw33 : (Cond.instanceMethod ⟨"CarrierPaths$Points", "<init>", "(I)V"⟩ : Cond) ∈ TG := tg_1 (i := 33) (by decide +kernel) rfl
theorem kw34 : (Cond.code ⟨"CarrierPaths$Points", "<init>", "(I)V"⟩ prog_5_method_1_code 3 none : Cond) ∈ TG := tg_1 (i := 34) (by decide +kernel) rfl
theorem kw48 : (Cond.classLink "CarrierPaths" 27 "CarrierPaths$Roads" : Cond) ∈ TG := tg_1 (i := 48) (by decide +kernel) rfl
theorem kw49 : (Cond.instantiable "CarrierPaths$Roads" 7 : Cond) ∈ TG := tg_1 (i := 49) (by decide +kernel) rfl
theorem kw50 : (Cond.methodLink "CarrierPaths" 29 ⟨"CarrierPaths$Roads", "<init>", "(I)V"⟩ : Cond) ∈ TG := tg_1 (i := 50) (by decide +kernel) rfl
theorem kw51 : (Cond.instanceMethod ⟨"CarrierPaths$Roads", "<init>", "(I)V"⟩ : Cond) ∈ TG := tg_1 (i := 51) (by decide +kernel) rfl
theorem kw52 : (Cond.code ⟨"CarrierPaths$Roads", "<init>", "(I)V"⟩ prog_7_method_1_code 2 none : Cond) ∈ TG := tg_1 (i := 52) (by decide +kernel) rfl
theorem kw81 : (Cond.classLink "CarrierPaths" 34 "CarrierPaths$Rings" : Cond) ∈ TG := tg_1 (i := 81) (by decide +kernel) rfl
theorem kw82 : (Cond.instantiable "CarrierPaths$Rings" 2 : Cond) ∈ TG := tg_1 (i := 82) (by decide +kernel) rfl
theorem kw83 : (Cond.methodLink "CarrierPaths" 36 ⟨"CarrierPaths$Rings", "<init>", "()V"⟩ : Cond) ∈ TG := tg_1 (i := 83) (by decide +kernel) rfl
theorem kw84 : (Cond.instanceMethod ⟨"CarrierPaths$Rings", "<init>", "()V"⟩ : Cond) ∈ TG := tg_1 (i := 84) (by decide +kernel) rfl
theorem kw85 : (Cond.code ⟨"CarrierPaths$Rings", "<init>", "()V"⟩ prog_6_method_1_code 1 none : Cond) ∈ TG := tg_1 (i := 85) (by decide +kernel) rfl
theorem kw94 : (Cond.classLink "CarrierPaths" 41 "CarrierPaths$Fleet" : Cond) ∈ TG := tg_1 (i := 94) (by decide +kernel) rfl
theorem kw95 : (Cond.instantiable "CarrierPaths$Fleet" 8 : Cond) ∈ TG := tg_1 (i := 95) (by decide +kernel) rfl
theorem kw96 : (Cond.methodLink "CarrierPaths" 43 ⟨"CarrierPaths$Fleet", "<init>", "()V"⟩ : Cond) ∈ TG := tg_1 (i := 96) (by decide +kernel) rfl
theorem kw97 : (Cond.instanceMethod ⟨"CarrierPaths$Fleet", "<init>", "()V"⟩ : Cond) ∈ TG := tg_1 (i := 97) (by decide +kernel) rfl
theorem kw98 : (Cond.code ⟨"CarrierPaths$Fleet", "<init>", "()V"⟩ prog_3_method_1_code 1 none : Cond) ∈ TG := tg_1 (i := 98) (by decide +kernel) rfl
theorem kw125 : (Cond.classLink "CarrierPaths" 48 "CarrierPaths$Jobs" : Cond) ∈ TG := tg_1 (i := 125) (by decide +kernel) rfl
theorem kw126 : (Cond.instantiable "CarrierPaths$Jobs" 5 : Cond) ∈ TG := tg_1 (i := 126) (by decide +kernel) rfl
theorem kw127 : (Cond.methodLink "CarrierPaths" 50 ⟨"CarrierPaths$Jobs", "<init>", "()V"⟩ : Cond) ∈ TG := tg_1 (i := 127) (by decide +kernel) rfl
theorem kw128 : (Cond.instanceMethod ⟨"CarrierPaths$Jobs", "<init>", "()V"⟩ : Cond) ∈ TG := tg_1 (i := 128) (by decide +kernel) rfl
theorem kw129 : (Cond.code ⟨"CarrierPaths$Jobs", "<init>", "()V"⟩ prog_4_method_1_code 1 none : Cond) ∈ TG := tg_1 (i := 129) (by decide +kernel) rfl
theorem kw147 : (Cond.classLink "CarrierPaths" 55 "CarrierPaths$Choice" : Cond) ∈ TG := tg_1 (i := 147) (by decide +kernel) rfl
theorem kw148 : (Cond.instantiable "CarrierPaths$Choice" 6 : Cond) ∈ TG := tg_1 (i := 148) (by decide +kernel) rfl
theorem kw149 : (Cond.methodLink "CarrierPaths" 57 ⟨"CarrierPaths$Choice", "<init>", "()V"⟩ : Cond) ∈ TG := tg_1 (i := 149) (by decide +kernel) rfl
theorem kw150 : (Cond.instanceMethod ⟨"CarrierPaths$Choice", "<init>", "()V"⟩ : Cond) ∈ TG := tg_1 (i := 150) (by decide +kernel) rfl
theorem kw151 : (Cond.code ⟨"CarrierPaths$Choice", "<init>", "()V"⟩ prog_2_method_1_code 1 none : Cond) ∈ TG := tg_1 (i := 151) (by decide +kernel) rfl
theorem d_Face_init_0 : decode prog_1_method_1_code 0 = .ok (.aload_n 0, 1) := by decide +kernel
theorem d_Face_init_1 : decode prog_1_method_1_code 1 = .ok (.invokespecial 1, 3) := by decide +kernel
theorem d_Face_init_4 : decode prog_1_method_1_code 4 = .ok (.iconst 2, 1) := by decide +kernel
theorem d_Face_init_5 : decode prog_1_method_1_code 5 = .ok (.bipush 10, 2) := by decide +kernel
theorem d_Face_init_7 : decode prog_1_method_1_code 7 = .ok (.iload_n 1, 1) := by decide +kernel
theorem d_Face_init_8 : decode prog_1_method_1_code 8 = .ok (.invokestatic 9, 3) := by decide +kernel
theorem d_Face_init_11 : decode prog_1_method_1_code 11 = .ok (.invokestatic 15, 3) := by decide +kernel
theorem d_Face_init_14 : decode prog_1_method_1_code 14 = .ok (.istore_n 2, 1) := by decide +kernel
theorem d_Face_init_15 : decode prog_1_method_1_code 15 = .ok (.aload_n 0, 1) := by decide +kernel
theorem d_Face_init_16 : decode prog_1_method_1_code 16 = .ok (.new 18, 3) := by decide +kernel
theorem d_Face_init_19 : decode prog_1_method_1_code 19 = .ok (.dup, 1) := by decide +kernel
theorem d_Face_init_20 : decode prog_1_method_1_code 20 = .ok (.iload_n 2, 1) := by decide +kernel
theorem d_Face_init_21 : decode prog_1_method_1_code 21 = .ok (.invokespecial 20, 3) := by decide +kernel
theorem d_Face_init_24 : decode prog_1_method_1_code 24 = .ok (.putfield 23, 3) := by decide +kernel
theorem d_Face_init_27 : decode prog_1_method_1_code 27 = .ok (.aload_n 0, 1) := by decide +kernel
theorem d_Face_init_28 : decode prog_1_method_1_code 28 = .ok (.new 27, 3) := by decide +kernel
theorem d_Face_init_31 : decode prog_1_method_1_code 31 = .ok (.dup, 1) := by decide +kernel
theorem d_Face_init_32 : decode prog_1_method_1_code 32 = .ok (.iload_n 2, 1) := by decide +kernel
theorem d_Face_init_33 : decode prog_1_method_1_code 33 = .ok (.invokespecial 29, 3) := by decide +kernel
theorem d_Face_init_36 : decode prog_1_method_1_code 36 = .ok (.putfield 30, 3) := by decide +kernel
theorem d_Face_init_39 : decode prog_1_method_1_code 39 = .ok (.aload_n 0, 1) := by decide +kernel
theorem d_Face_init_40 : decode prog_1_method_1_code 40 = .ok (.new 34, 3) := by decide +kernel
theorem d_Face_init_43 : decode prog_1_method_1_code 43 = .ok (.dup, 1) := by decide +kernel
theorem d_Face_init_44 : decode prog_1_method_1_code 44 = .ok (.invokespecial 36, 3) := by decide +kernel
theorem d_Face_init_47 : decode prog_1_method_1_code 47 = .ok (.putfield 37, 3) := by decide +kernel
theorem d_Face_init_50 : decode prog_1_method_1_code 50 = .ok (.aload_n 0, 1) := by decide +kernel
theorem d_Face_init_51 : decode prog_1_method_1_code 51 = .ok (.new 41, 3) := by decide +kernel
theorem d_Face_init_54 : decode prog_1_method_1_code 54 = .ok (.dup, 1) := by decide +kernel
theorem d_Face_init_55 : decode prog_1_method_1_code 55 = .ok (.invokespecial 43, 3) := by decide +kernel
theorem d_Face_init_58 : decode prog_1_method_1_code 58 = .ok (.putfield 44, 3) := by decide +kernel
theorem d_Face_init_61 : decode prog_1_method_1_code 61 = .ok (.aload_n 0, 1) := by decide +kernel
theorem d_Face_init_62 : decode prog_1_method_1_code 62 = .ok (.new 48, 3) := by decide +kernel
theorem d_Face_init_65 : decode prog_1_method_1_code 65 = .ok (.dup, 1) := by decide +kernel
theorem d_Face_init_66 : decode prog_1_method_1_code 66 = .ok (.invokespecial 50, 3) := by decide +kernel
theorem d_Face_init_69 : decode prog_1_method_1_code 69 = .ok (.putfield 51, 3) := by decide +kernel
theorem d_Face_init_72 : decode prog_1_method_1_code 72 = .ok (.aload_n 0, 1) := by decide +kernel
theorem d_Face_init_73 : decode prog_1_method_1_code 73 = .ok (.new 55, 3) := by decide +kernel
theorem d_Face_init_76 : decode prog_1_method_1_code 76 = .ok (.dup, 1) := by decide +kernel
theorem d_Face_init_77 : decode prog_1_method_1_code 77 = .ok (.invokespecial 57, 3) := by decide +kernel
theorem d_Face_init_80 : decode prog_1_method_1_code 80 = .ok (.putfield 58, 3) := by decide +kernel
theorem d_Face_init_83 : decode prog_1_method_1_code 83 = .ok (.aload_n 0, 1) := by decide +kernel
theorem d_Face_init_84 : decode prog_1_method_1_code 84 = .ok (.iconst 0, 1) := by decide +kernel
theorem d_Face_init_85 : decode prog_1_method_1_code 85 = .ok (.putfield 62, 3) := by decide +kernel
theorem d_Face_init_88 : decode prog_1_method_1_code 88 = .ok (.return_, 1) := by decide +kernel
/-- behind a constructor: what it made beside what was there -/
theorem nj_of {D : va_G} {A : Nat → Prop} {ws w1 : va_W} {q : Nat} {e : va_E} {H H1 : Heap} (hP : va_P D classes (ws ++ [(q, e)]) H) (hD : va_D A (ws ++ [(q, e)])) (hA : ∀ x, H.size ≤ x → A x) (hk : ∀ x : Nat, x < H.size → ¬ nA q H.size x → H1[x]? = H[x]?) (hP1 : va_P D classes w1 H1) (hD1 : va_D (nA q H.size) w1) : va_P D classes (ws ++ w1) H1 ∧ va_D A (ws ++ w1) := by
  have hold : ∀ (k : Nat) (p : Nat × va_E), ws[k]? = some p → (ws ++ [(q, e)])[k]? = some p ∧ k < ws.length := by
    intro k p hk'
    have hl := (List.getElem?_eq_some_iff.mp hk').1
    exact ⟨by rw [List.getElem?_append_left hl]; exact hk', hl⟩
  have hlast : (ws ++ [(q, e)])[ws.length]? = some (q, e) := by rw [List.getElem?_append_right (Nat.le_refl _), Nat.sub_self]; rfl
  have hne : ∀ (k : Nat) (p : Nat × va_E), ws[k]? = some p → p.1 < H.size ∧ p.1 ≠ q := by
    intro k p hk'
    obtain ⟨h1, h2⟩ := hold k p hk'
    refine ⟨(hP k p h1).lt, fun h => ?_⟩
    have := hD.1 k ws.length p (q, e) h1 hlast h
    omega
  have hAq : A q := hD.2 ws.length (q, e) hlast
  refine ⟨va_P.app (fun k p hk' => ?_) hP1, va_D.app ⟨fun i j x y hi hj h => hD.1 i j x y (hold i x hi).1 (hold j y hj).1 h, fun k p hk' => hD.2 k p (hold k p hk').1⟩ (hD1.weaken (fun k p _ h => ?_)) (fun i j x y hi hj h => ?_)⟩
  · obtain ⟨h1, h2⟩ := hne k p hk'
    exact (hP k p (hold k p hk').1).kept (hk p.1 h1 (fun h => h.elim h2 (fun h => absurd h (Nat.not_le.mpr h1))))
  · rcases h with h | h
    · rw [h]; exact hAq
    · exact hA _ h
  · obtain ⟨h1, h2⟩ := hne i x hi
    rcases hD1.2 j y hj with h3 | h3
    · exact h2 (h.trans h3)
    · rw [← h] at h3; omega
theorem nmem_of {ad : Nat → Nat} {n q sz : Nat} (h0 : ad 0 = q) (h : ∀ i, 0 < i → i < n → sz ≤ ad i) : ∀ i, i < n → nA q sz (ad i) := by
  intro i hi
  by_cases h1 : i = 0
  · subst h1; exact Or.inl h0
  · exact Or.inr (h i (by omega) hi)
theorem nb_pre {s : State} {H : Heap} {As : List Value} {D : va_G} {tys : List (ClassId × FieldType)} {Wd : va_W} (hK : va_K D classes tys s) (hP : va_P D classes Wd H) : PreS s H (va_Pc As (nB D tys Wd H.size)) As :=
  ⟨nB_blind, fun U hU hW => ⟨rfl, by rw [hU], by rw [hU]; exact hP, va_K.moved hW.alike hK⟩⟩
theorem gI_of {y : MethodName} {b : ByteArray} {n : Nat} (h5 : Cond.code y b n none ∈ TG) : GoodIn TG (Cond.code y b n none :: TG) := by
  intro w hw
  rcases List.mem_cons.mp hw with rfl | hw
  · exact tg_good h5
  · exact tg_good hw

def adF (h0 : Nat) (a1 : Nat → Nat) (a2 : Nat → Nat) (a3 : Nat → Nat) (a4 : Nat → Nat) (a5 : Nat → Nat) (a6 : Nat → Nat) : Nat → Nat → Nat := fun c => match c with
  | 0 => fun _ => h0
  | 1 => a1
  | 2 => a2
  | 3 => a3
  | 4 => a4
  | 5 => a5
  | _ => a6
def sgF (u1 : Sg) (u2 : Sg) (u3 : Sg) (u4 : Sg) (u5 : Sg) (u6 : Sg) : SG := fun c => match c with
  | 0 => zS
  | 1 => u1
  | 2 => u2
  | 3 => u3
  | 4 => u4
  | 5 => u5
  | _ => u6
theorem sub_n {h0 sz q : Nat} {H0 H : Heap} {locs : List Loc} {x : Nat} (hS : va_S (nA h0 sz) H0 H locs) (hq : nA h0 sz q) (h : nA q H.size x) (e : sz = H0.size := by rfl) : nA h0 sz x := by
  rcases h with h | h
  · rw [h]; exact hq
  · exact Or.inr (by rw [e]; exact Nat.le_trans hS.1 h)
def q_Face_init (v1 : Int32) (Q : SG → Prop) : Prop := q_Points_init (if (2 : Int32) < (if v1 < 10 then v1 else 10) then (if v1 < 10 then v1 else 10) else 2) (fun u1 => q_Roads_init (if (2 : Int32) < (if v1 < 10 then v1 else 10) then (if v1 < 10 then v1 else 10) else 2) (fun u2 => q_Rings_init (fun u3 => q_Fleet_init (fun u4 => q_Jobs_init (fun u5 => q_Choice_init (fun u6 => Q (sgF u1 u2 u3 u4 u5 u6)))))))
set_option maxHeartbeats 4000000 in
set_option maxRecDepth 100000 in
theorem t_Face_init (l : Launch) (D : va_G) (cI cZ : ClassId) (h0 sz : Nat) (v1 : Int32) (Q : SG → Prop) (h : q_Face_init v1 Q) : Met l y_Face_init (.code y_Face_init prog_1_method_1_code 3 none :: TG) { frames := 2, cells := 28, slots := 1281, locals := 43 } (va_Pc [.ref h0, .int v1] (nB D (tysA cI cZ) [(h0, .inr (6, [.null, .null, .null, .null, .null, .null, .int 0]))] sz)) (va_Qv Q (fun u t => ∃ ad : Nat → Nat → Nat, ad 0 0 = h0 ∧ Inj (fA ad) 29 ∧ (∀ i, 0 < i → i < 29 → sz ≤ fA ad i) ∧ va_P D classes (W_Face ad cI cZ u) t.heap) (nA h0 sz)) 28 1281 (nA h0 sz) := by
  refine Met.ofW (cc := prog_1_method_1_code) (maxL := 3) (ret := none) (by decide) rfl ?_
  intro p e s m args below meth c s₁ B hml hv
  obtain ⟨rfl, hsz, hP, hK⟩ := hv
  subst hsz
  have hx := B.exec
  have hb := B.bytes
  have hr := B.returns
  have hts : ∀ w ∈ TG, w.before [.ref h0, .int v1].toArray s = true := fun w hw => atoms_spec (ws := .code y_Face_init prog_1_method_1_code 3 none :: TG) B.pre w (List.mem_cons_of_mem _ hw)
  have hown : s.vm.findClass "CarrierPaths" = some m.cls := findClass_of_methodNamed B.named
  have hlocks := B.notSynchronized
  have hin : meth.name = "<init>" := (name_of_methodNamed B.named B.method).1
  have hA : ∀ q : Nat, s.heap.size ≤ q → nA h0 s.heap.size q := fun q h => Or.inr h
  have hS : va_S (nA h0 s.heap.size) s.heap s.heap [] := va_S.rf
  have hh0 : h0 < s.heap.size := (hP 0 _ rfl).lt
  have hD : va_D (nA h0 s.heap.size) [(h0, .inr (6, [.null, .null, .null, .null, .null, .null, .int 0]))] := one_D (Or.inl rfl)
  have hl := lv_entry ([.ref h0, .int v1]) (n := 3) (Nat.le_of_ble_eq_true rfl)
  rw [lg_entry_eq]
  generalize (lg_sl ([.ref h0, .int v1]) ++ List.replicate (3 - (lg_sl ([.ref h0, .int v1])).length) Slot.unset).toArray = ls at hl ⊢
  have hl : lv_has ls 3 [(0, .ref h0), (1, .int v1)] := hl
  unfold q_Face_init at h
  refine lv_aload_n hx hb d_Face_init_0 rfl (lv_at hl 0 rfl) ?_
  refine W.objInit hx hb hown (hts _ kw21) (hts _ kw22) (hts _ kwObj) rfl (by rw [hml]; exact hl.1) rfl d_Face_init_1 (Nat.le_of_ble_eq_true rfl) (Nat.le_of_ble_eq_true rfl) ?_
  refine W.eq (g2 := F0 m 4 ls []) rfl ?_
  refine lv_iconst (v := 2) hx hb d_Face_init_4 (by decide) ?_
  refine lv_bipush (v := 10) hx hb d_Face_init_5 (by decide) ?_
  refine lv_iload_n hx hb d_Face_init_7 rfl (lv_at hl 1 rfl) ?_
  refine va_mmin hx hb (hml.trans hl.1.symm) hown (hts _ kw24) (hts _ kw25) (hts _ kw2) (hts _ kw26) (Nat.le_of_ble_eq_true rfl) (Nat.le_of_ble_eq_true rfl) (Nat.zero_le _) (Nat.zero_le _) d_Face_init_8 ?_
  refine va_mmax hx hb (hml.trans hl.1.symm) hown (hts _ kw27) (hts _ kw28) (hts _ kw2) (hts _ kw29) (Nat.le_of_ble_eq_true rfl) (Nat.le_of_ble_eq_true rfl) (Nat.zero_le _) (Nat.zero_le _) d_Face_init_11 ?_
  refine lv_istore_n (lv' := [(2, .int (if (2 : Int32) < (if v1 < 10 then v1 else 10) then (if v1 < 10 then v1 else 10) else 2)), (0, .ref h0), (1, .int v1)]) hx hb d_Face_init_14 rfl hl (by decide) rfl (fun ls hl => ?_)
  refine lv_aload_n hx hb d_Face_init_15 rfl (lv_at hl 1 rfl) ?_
  refine va_new (ci := 3) (fs := [.int 0, .null, .null]) (C := "CarrierPaths$Points") (T := F_Points) (N := 3) hx hb hts in_Points ty_Points ty_Points_ok hown (hts _ kw30) (hts _ kw31) (hts _ kw3) hK hP hD hS hA rfl (fun j hj => by rcases (show j = 0 ∨ j = 1 ∨ j = 2 by omega) with rfl | rfl | rfl <;> rfl) (Nat.le_of_ble_eq_true rfl) (Nat.le_of_ble_eq_true rfl) d_Face_init_16 (fun q1 H hP hD hS => ?_)
  refine lv_dup hx hb d_Face_init_19 rfl ?_
  refine lv_iload_n hx hb d_Face_init_20 rfl (lv_at hl 0 rfl) ?_
  have hPc : va_P D classes [(q1, .inr (3, [.int 0, .null, .null]))] H := hP.sub [1] rfl
  have hqA : nA h0 s.heap.size q1 := hD.2 1 _ rfl
  refine va_callv (va_runI (As := [.int (if (2 : Int32) < (if v1 < 10 then v1 else 10) then (if v1 < 10 then v1 else 10) else 2)]) (rest := [.ref q1, .ref h0]) ⟨hx, hb, hml, hown, hts⟩ (t_Points_init l D cI cZ q1 H.size (if (2 : Int32) < (if v1 < 10 then v1 else 10) then (if v1 < 10 then v1 else 10) else 2) _ h) (cwI 1 hts (gI_of kw34) rfl rfl rfl (hts _ kw3) (hts _ kw32) (hts _ kw33) rfl (by decide +kernel) ⟨Nat.le_of_ble_eq_true rfl, Nat.le_of_ble_eq_true rfl⟩) (nb_pre hK hPc) rfl rfl hl.1 rfl (lv_room (Nat.le_of_ble_eq_true rfl)) d_Face_init_21 ⟨Nat.le_of_ble_eq_true rfl, Nat.le_of_ble_eq_true rfl⟩) hS (fun _ _ h => sub_n hS hqA h) (fun _ h => sub_n hS hqA h) (fun u1 t H1 locs ht _ h hB hz1 hk1 hS1 => ?_)
  obtain ⟨a1, had, inj1, hnew, hP1⟩ := hB
  have hP1 : va_P D classes (W_Points a1 cI cZ u1) H1 := hp_fwd ht hP1
  obtain ⟨hP, hD⟩ := nj_of (ws := [(h0, .inr (6, [.null, .null, .null, .null, .null, .null, .int 0]))]) hP hD (fun x hx9 => Or.inr (Nat.le_trans hS.1 hx9)) hk1 hP1 (DC_of inj1 (nmem_of had hnew) rfl)
  clear hk1 hnew hPc ht hP1 hz1
  have hS := hS1
  clear hS1
  generalize H1 = H at hP hS ⊢
  refine va_putF (D := D) (ci := 6) (v := .ref q1) (ty := .object "CarrierPaths$Points") (C := "CarrierPaths") (T := F_Face) (N := 7) hx hb hts in_Face ty_Face ty_Face_ok nm_Face hown hK hP hD hS 0 rfl rfl 0 (by decide) (hts _ kw172) (fun _ h9 => h9) rfl hin rfl (by decide +kernel) rfl rfl (Nat.le_of_ble_eq_true rfl) d_Face_init_24 (fun H locs hP hD hS => ?_)
  have hP : va_P D classes ([(h0, .inr (6, [.ref q1, .null, .null, .null, .null, .null, .int 0]))] ++ W_Points a1 cI cZ u1) H := hP
  have hD : va_D (nA h0 s.heap.size) ([(h0, .inr (6, [.ref q1, .null, .null, .null, .null, .null, .int 0]))] ++ W_Points a1 cI cZ u1) := hD
  subst had
  refine lv_aload_n hx hb d_Face_init_27 rfl (lv_at hl 1 rfl) ?_
  refine va_new (ci := 5) (fs := [.int 0, .null, .null, .null, .null, .null, .int 0]) (C := "CarrierPaths$Roads") (T := F_Roads) (N := 7) hx hb hts in_Roads ty_Roads ty_Roads_ok hown (hts _ kw48) (hts _ kw49) (hts _ kw4) hK hP hD hS hA rfl (fun j hj => by rcases (show j = 0 ∨ j = 1 ∨ j = 2 ∨ j = 3 ∨ j = 4 ∨ j = 5 ∨ j = 6 by omega) with rfl | rfl | rfl | rfl | rfl | rfl | rfl <;> rfl) (Nat.le_of_ble_eq_true rfl) (Nat.le_of_ble_eq_true rfl) d_Face_init_28 (fun q2 H hP hD hS => ?_)
  refine lv_dup hx hb d_Face_init_31 rfl ?_
  refine lv_iload_n hx hb d_Face_init_32 rfl (lv_at hl 0 rfl) ?_
  have hPc : va_P D classes [(q2, .inr (5, [.int 0, .null, .null, .null, .null, .null, .int 0]))] H := hP.sub [4] rfl
  have hqA : nA h0 s.heap.size q2 := hD.2 4 _ rfl
  refine va_callv (va_runI (As := [.int (if (2 : Int32) < (if v1 < 10 then v1 else 10) then (if v1 < 10 then v1 else 10) else 2)]) (rest := [.ref q2, .ref h0]) ⟨hx, hb, hml, hown, hts⟩ (t_Roads_init l D cI cZ q2 H.size (if (2 : Int32) < (if v1 < 10 then v1 else 10) then (if v1 < 10 then v1 else 10) else 2) _ h) (cwI 1 hts (gI_of kw52) rfl rfl rfl (hts _ kw4) (hts _ kw50) (hts _ kw51) rfl (by decide +kernel) ⟨Nat.le_of_ble_eq_true rfl, Nat.le_of_ble_eq_true rfl⟩) (nb_pre hK hPc) rfl rfl hl.1 rfl (lv_room (Nat.le_of_ble_eq_true rfl)) d_Face_init_33 ⟨Nat.le_of_ble_eq_true rfl, Nat.le_of_ble_eq_true rfl⟩) hS (fun _ _ h => sub_n hS hqA h) (fun _ h => sub_n hS hqA h) (fun u2 t H1 locs ht _ h hB hz1 hk1 hS1 => ?_)
  obtain ⟨a2, had, inj2, hnew, hP1⟩ := hB
  have hP1 : va_P D classes (W_Roads a2 cI cZ u2) H1 := hp_fwd ht hP1
  obtain ⟨hP, hD⟩ := nj_of (ws := ([(h0, .inr (6, [.ref (a1 0), .null, .null, .null, .null, .null, .int 0]))] ++ W_Points a1 cI cZ u1)) hP hD (fun x hx9 => Or.inr (Nat.le_trans hS.1 hx9)) hk1 hP1 (DC_of inj2 (nmem_of had hnew) rfl)
  clear hk1 hnew hPc ht hP1 hz1
  have hS := hS1
  clear hS1
  generalize H1 = H at hP hS ⊢
  refine va_putF (D := D) (ci := 6) (v := .ref q2) (ty := .object "CarrierPaths$Roads") (C := "CarrierPaths") (T := F_Face) (N := 7) hx hb hts in_Face ty_Face ty_Face_ok nm_Face hown hK hP hD hS 0 rfl rfl 1 (by decide) (hts _ kw173) (fun _ h9 => h9) rfl hin rfl (by decide +kernel) rfl rfl (Nat.le_of_ble_eq_true rfl) d_Face_init_36 (fun H locs hP hD hS => ?_)
  have hP : va_P D classes (([(h0, .inr (6, [.ref (a1 0), .ref q2, .null, .null, .null, .null, .int 0]))] ++ W_Points a1 cI cZ u1) ++ W_Roads a2 cI cZ u2) H := hP
  have hD : va_D (nA h0 s.heap.size) (([(h0, .inr (6, [.ref (a1 0), .ref q2, .null, .null, .null, .null, .int 0]))] ++ W_Points a1 cI cZ u1) ++ W_Roads a2 cI cZ u2) := hD
  subst had
  refine lv_aload_n hx hb d_Face_init_39 rfl (lv_at hl 1 rfl) ?_
  refine va_new (ci := 4) (fs := [.null, .int 0]) (C := "CarrierPaths$Rings") (T := F_Rings) (N := 2) hx hb hts in_Rings ty_Rings ty_Rings_ok hown (hts _ kw81) (hts _ kw82) (hts _ kw5) hK hP hD hS hA rfl (fun j hj => by rcases (show j = 0 ∨ j = 1 by omega) with rfl | rfl <;> rfl) (Nat.le_of_ble_eq_true rfl) (Nat.le_of_ble_eq_true rfl) d_Face_init_40 (fun q3 H hP hD hS => ?_)
  refine lv_dup hx hb d_Face_init_43 rfl ?_
  have hPc : va_P D classes [(q3, .inr (4, [.null, .int 0]))] H := hP.sub [10] rfl
  have hqA : nA h0 s.heap.size q3 := hD.2 10 _ rfl
  refine va_callv (va_runI (As := []) (rest := [.ref q3, .ref h0]) ⟨hx, hb, hml, hown, hts⟩ (t_Rings_init l D cI cZ q3 H.size _ h) (cwI 0 hts (gI_of kw85) rfl rfl rfl (hts _ kw5) (hts _ kw83) (hts _ kw84) rfl (by decide +kernel) ⟨Nat.le_of_ble_eq_true rfl, Nat.le_of_ble_eq_true rfl⟩) (nb_pre hK hPc) rfl rfl hl.1 rfl (lv_room (Nat.le_of_ble_eq_true rfl)) d_Face_init_44 ⟨Nat.le_of_ble_eq_true rfl, Nat.le_of_ble_eq_true rfl⟩) hS (fun _ _ h => sub_n hS hqA h) (fun _ h => sub_n hS hqA h) (fun u3 t H1 locs ht _ h hB hz1 hk1 hS1 => ?_)
  obtain ⟨a3, had, inj3, hnew, hP1⟩ := hB
  have hP1 : va_P D classes (W_Rings a3 cI cZ u3) H1 := hp_fwd ht hP1
  obtain ⟨hP, hD⟩ := nj_of (ws := (([(h0, .inr (6, [.ref (a1 0), .ref (a2 0), .null, .null, .null, .null, .int 0]))] ++ W_Points a1 cI cZ u1) ++ W_Roads a2 cI cZ u2)) hP hD (fun x hx9 => Or.inr (Nat.le_trans hS.1 hx9)) hk1 hP1 (DC_of inj3 (nmem_of had hnew) rfl)
  clear hk1 hnew hPc ht hP1 hz1
  have hS := hS1
  clear hS1
  generalize H1 = H at hP hS ⊢
  refine va_putF (D := D) (ci := 6) (v := .ref q3) (ty := .object "CarrierPaths$Rings") (C := "CarrierPaths") (T := F_Face) (N := 7) hx hb hts in_Face ty_Face ty_Face_ok nm_Face hown hK hP hD hS 0 rfl rfl 2 (by decide) (hts _ kw174) (fun _ h9 => h9) rfl hin rfl (by decide +kernel) rfl rfl (Nat.le_of_ble_eq_true rfl) d_Face_init_47 (fun H locs hP hD hS => ?_)
  have hP : va_P D classes ((([(h0, .inr (6, [.ref (a1 0), .ref (a2 0), .ref q3, .null, .null, .null, .int 0]))] ++ W_Points a1 cI cZ u1) ++ W_Roads a2 cI cZ u2) ++ W_Rings a3 cI cZ u3) H := hP
  have hD : va_D (nA h0 s.heap.size) ((([(h0, .inr (6, [.ref (a1 0), .ref (a2 0), .ref q3, .null, .null, .null, .int 0]))] ++ W_Points a1 cI cZ u1) ++ W_Roads a2 cI cZ u2) ++ W_Rings a3 cI cZ u3) := hD
  subst had
  refine lv_aload_n hx hb d_Face_init_50 rfl (lv_at hl 1 rfl) ?_
  refine va_new (ci := 1) (fs := [.null, .null, .null, .null, .null, .null, .null, .int 0]) (C := "CarrierPaths$Fleet") (T := F_Fleet) (N := 8) hx hb hts in_Fleet ty_Fleet ty_Fleet_ok hown (hts _ kw94) (hts _ kw95) (hts _ kw6) hK hP hD hS hA rfl (fun j hj => by rcases (show j = 0 ∨ j = 1 ∨ j = 2 ∨ j = 3 ∨ j = 4 ∨ j = 5 ∨ j = 6 ∨ j = 7 by omega) with rfl | rfl | rfl | rfl | rfl | rfl | rfl | rfl <;> rfl) (Nat.le_of_ble_eq_true rfl) (Nat.le_of_ble_eq_true rfl) d_Face_init_51 (fun q4 H hP hD hS => ?_)
  refine lv_dup hx hb d_Face_init_54 rfl ?_
  have hPc : va_P D classes [(q4, .inr (1, [.null, .null, .null, .null, .null, .null, .null, .int 0]))] H := hP.sub [12] rfl
  have hqA : nA h0 s.heap.size q4 := hD.2 12 _ rfl
  refine va_callv (va_runI (As := []) (rest := [.ref q4, .ref h0]) ⟨hx, hb, hml, hown, hts⟩ (t_Fleet_init l D cI cZ q4 H.size _ h) (cwI 0 hts (gI_of kw98) rfl rfl rfl (hts _ kw6) (hts _ kw96) (hts _ kw97) rfl (by decide +kernel) ⟨Nat.le_of_ble_eq_true rfl, Nat.le_of_ble_eq_true rfl⟩) (nb_pre hK hPc) rfl rfl hl.1 rfl (lv_room (Nat.le_of_ble_eq_true rfl)) d_Face_init_55 ⟨Nat.le_of_ble_eq_true rfl, Nat.le_of_ble_eq_true rfl⟩) hS (fun _ _ h => sub_n hS hqA h) (fun _ h => sub_n hS hqA h) (fun u4 t H1 locs ht _ h hB hz1 hk1 hS1 => ?_)
  obtain ⟨a4, had, inj4, hnew, hP1⟩ := hB
  have hP1 : va_P D classes (W_Fleet a4 cI cZ u4) H1 := hp_fwd ht hP1
  obtain ⟨hP, hD⟩ := nj_of (ws := ((([(h0, .inr (6, [.ref (a1 0), .ref (a2 0), .ref (a3 0), .null, .null, .null, .int 0]))] ++ W_Points a1 cI cZ u1) ++ W_Roads a2 cI cZ u2) ++ W_Rings a3 cI cZ u3)) hP hD (fun x hx9 => Or.inr (Nat.le_trans hS.1 hx9)) hk1 hP1 (DC_of inj4 (nmem_of had hnew) rfl)
  clear hk1 hnew hPc ht hP1 hz1
  have hS := hS1
  clear hS1
  generalize H1 = H at hP hS ⊢
  refine va_putF (D := D) (ci := 6) (v := .ref q4) (ty := .object "CarrierPaths$Fleet") (C := "CarrierPaths") (T := F_Face) (N := 7) hx hb hts in_Face ty_Face ty_Face_ok nm_Face hown hK hP hD hS 0 rfl rfl 3 (by decide) (hts _ kw175) (fun _ h9 => h9) rfl hin rfl (by decide +kernel) rfl rfl (Nat.le_of_ble_eq_true rfl) d_Face_init_58 (fun H locs hP hD hS => ?_)
  have hP : va_P D classes (((([(h0, .inr (6, [.ref (a1 0), .ref (a2 0), .ref (a3 0), .ref q4, .null, .null, .int 0]))] ++ W_Points a1 cI cZ u1) ++ W_Roads a2 cI cZ u2) ++ W_Rings a3 cI cZ u3) ++ W_Fleet a4 cI cZ u4) H := hP
  have hD : va_D (nA h0 s.heap.size) (((([(h0, .inr (6, [.ref (a1 0), .ref (a2 0), .ref (a3 0), .ref q4, .null, .null, .int 0]))] ++ W_Points a1 cI cZ u1) ++ W_Roads a2 cI cZ u2) ++ W_Rings a3 cI cZ u3) ++ W_Fleet a4 cI cZ u4) := hD
  subst had
  refine lv_aload_n hx hb d_Face_init_61 rfl (lv_at hl 1 rfl) ?_
  refine va_new (ci := 2) (fs := [.null, .null, .null, .null, .int 0]) (C := "CarrierPaths$Jobs") (T := F_Jobs) (N := 5) hx hb hts in_Jobs ty_Jobs ty_Jobs_ok hown (hts _ kw125) (hts _ kw126) (hts _ kw7) hK hP hD hS hA rfl (fun j hj => by rcases (show j = 0 ∨ j = 1 ∨ j = 2 ∨ j = 3 ∨ j = 4 by omega) with rfl | rfl | rfl | rfl | rfl <;> rfl) (Nat.le_of_ble_eq_true rfl) (Nat.le_of_ble_eq_true rfl) d_Face_init_62 (fun q5 H hP hD hS => ?_)
  refine lv_dup hx hb d_Face_init_65 rfl ?_
  have hPc : va_P D classes [(q5, .inr (2, [.null, .null, .null, .null, .int 0]))] H := hP.sub [20] rfl
  have hqA : nA h0 s.heap.size q5 := hD.2 20 _ rfl
  refine va_callv (va_runI (As := []) (rest := [.ref q5, .ref h0]) ⟨hx, hb, hml, hown, hts⟩ (t_Jobs_init l D cI cZ q5 H.size _ h) (cwI 0 hts (gI_of kw129) rfl rfl rfl (hts _ kw7) (hts _ kw127) (hts _ kw128) rfl (by decide +kernel) ⟨Nat.le_of_ble_eq_true rfl, Nat.le_of_ble_eq_true rfl⟩) (nb_pre hK hPc) rfl rfl hl.1 rfl (lv_room (Nat.le_of_ble_eq_true rfl)) d_Face_init_66 ⟨Nat.le_of_ble_eq_true rfl, Nat.le_of_ble_eq_true rfl⟩) hS (fun _ _ h => sub_n hS hqA h) (fun _ h => sub_n hS hqA h) (fun u5 t H1 locs ht _ h hB hz1 hk1 hS1 => ?_)
  obtain ⟨a5, had, inj5, hnew, hP1⟩ := hB
  have hP1 : va_P D classes (W_Jobs a5 cI cZ u5) H1 := hp_fwd ht hP1
  obtain ⟨hP, hD⟩ := nj_of (ws := (((([(h0, .inr (6, [.ref (a1 0), .ref (a2 0), .ref (a3 0), .ref (a4 0), .null, .null, .int 0]))] ++ W_Points a1 cI cZ u1) ++ W_Roads a2 cI cZ u2) ++ W_Rings a3 cI cZ u3) ++ W_Fleet a4 cI cZ u4)) hP hD (fun x hx9 => Or.inr (Nat.le_trans hS.1 hx9)) hk1 hP1 (DC_of inj5 (nmem_of had hnew) rfl)
  clear hk1 hnew hPc ht hP1 hz1
  have hS := hS1
  clear hS1
  generalize H1 = H at hP hS ⊢
  refine va_putF (D := D) (ci := 6) (v := .ref q5) (ty := .object "CarrierPaths$Jobs") (C := "CarrierPaths") (T := F_Face) (N := 7) hx hb hts in_Face ty_Face ty_Face_ok nm_Face hown hK hP hD hS 0 rfl rfl 4 (by decide) (hts _ kw176) (fun _ h9 => h9) rfl hin rfl (by decide +kernel) rfl rfl (Nat.le_of_ble_eq_true rfl) d_Face_init_69 (fun H locs hP hD hS => ?_)
  have hP : va_P D classes ((((([(h0, .inr (6, [.ref (a1 0), .ref (a2 0), .ref (a3 0), .ref (a4 0), .ref q5, .null, .int 0]))] ++ W_Points a1 cI cZ u1) ++ W_Roads a2 cI cZ u2) ++ W_Rings a3 cI cZ u3) ++ W_Fleet a4 cI cZ u4) ++ W_Jobs a5 cI cZ u5) H := hP
  have hD : va_D (nA h0 s.heap.size) ((((([(h0, .inr (6, [.ref (a1 0), .ref (a2 0), .ref (a3 0), .ref (a4 0), .ref q5, .null, .int 0]))] ++ W_Points a1 cI cZ u1) ++ W_Roads a2 cI cZ u2) ++ W_Rings a3 cI cZ u3) ++ W_Fleet a4 cI cZ u4) ++ W_Jobs a5 cI cZ u5) := hD
  subst had
  refine lv_aload_n hx hb d_Face_init_72 rfl (lv_at hl 1 rfl) ?_
  refine va_new (ci := 0) (fs := [.null, .null, .null, .int 0, .int 0, .int 0]) (C := "CarrierPaths$Choice") (T := F_Choice) (N := 6) hx hb hts in_Choice ty_Choice ty_Choice_ok hown (hts _ kw147) (hts _ kw148) (hts _ kw8) hK hP hD hS hA rfl (fun j hj => by rcases (show j = 0 ∨ j = 1 ∨ j = 2 ∨ j = 3 ∨ j = 4 ∨ j = 5 by omega) with rfl | rfl | rfl | rfl | rfl | rfl <;> rfl) (Nat.le_of_ble_eq_true rfl) (Nat.le_of_ble_eq_true rfl) d_Face_init_73 (fun q6 H hP hD hS => ?_)
  refine lv_dup hx hb d_Face_init_76 rfl ?_
  have hPc : va_P D classes [(q6, .inr (0, [.null, .null, .null, .int 0, .int 0, .int 0]))] H := hP.sub [25] rfl
  have hqA : nA h0 s.heap.size q6 := hD.2 25 _ rfl
  refine va_callv (va_runI (As := []) (rest := [.ref q6, .ref h0]) ⟨hx, hb, hml, hown, hts⟩ (t_Choice_init l D cI cZ q6 H.size _ h) (cwI 0 hts (gI_of kw151) rfl rfl rfl (hts _ kw8) (hts _ kw149) (hts _ kw150) rfl (by decide +kernel) ⟨Nat.le_of_ble_eq_true rfl, Nat.le_of_ble_eq_true rfl⟩) (nb_pre hK hPc) rfl rfl hl.1 rfl (lv_room (Nat.le_of_ble_eq_true rfl)) d_Face_init_77 ⟨Nat.le_of_ble_eq_true rfl, Nat.le_of_ble_eq_true rfl⟩) hS (fun _ _ h => sub_n hS hqA h) (fun _ h => sub_n hS hqA h) (fun u6 t H1 locs ht _ h hB hz1 hk1 hS1 => ?_)
  obtain ⟨a6, had, inj6, hnew, hP1⟩ := hB
  have hP1 : va_P D classes (W_Choice a6 cI cZ u6) H1 := hp_fwd ht hP1
  obtain ⟨hP, hD⟩ := nj_of (ws := ((((([(h0, .inr (6, [.ref (a1 0), .ref (a2 0), .ref (a3 0), .ref (a4 0), .ref (a5 0), .null, .int 0]))] ++ W_Points a1 cI cZ u1) ++ W_Roads a2 cI cZ u2) ++ W_Rings a3 cI cZ u3) ++ W_Fleet a4 cI cZ u4) ++ W_Jobs a5 cI cZ u5)) hP hD (fun x hx9 => Or.inr (Nat.le_trans hS.1 hx9)) hk1 hP1 (DC_of inj6 (nmem_of had hnew) rfl)
  clear hk1 hnew hPc ht hP1 hz1
  have hS := hS1
  clear hS1
  generalize H1 = H at hP hS ⊢
  refine va_putF (D := D) (ci := 6) (v := .ref q6) (ty := .object "CarrierPaths$Choice") (C := "CarrierPaths") (T := F_Face) (N := 7) hx hb hts in_Face ty_Face ty_Face_ok nm_Face hown hK hP hD hS 0 rfl rfl 5 (by decide) (hts _ kw177) (fun _ h9 => h9) rfl hin rfl (by decide +kernel) rfl rfl (Nat.le_of_ble_eq_true rfl) d_Face_init_80 (fun H locs hP hD hS => ?_)
  have hP : va_P D classes (((((([(h0, .inr (6, [.ref (a1 0), .ref (a2 0), .ref (a3 0), .ref (a4 0), .ref (a5 0), .ref q6, .int 0]))] ++ W_Points a1 cI cZ u1) ++ W_Roads a2 cI cZ u2) ++ W_Rings a3 cI cZ u3) ++ W_Fleet a4 cI cZ u4) ++ W_Jobs a5 cI cZ u5) ++ W_Choice a6 cI cZ u6) H := hP
  have hD : va_D (nA h0 s.heap.size) (((((([(h0, .inr (6, [.ref (a1 0), .ref (a2 0), .ref (a3 0), .ref (a4 0), .ref (a5 0), .ref q6, .int 0]))] ++ W_Points a1 cI cZ u1) ++ W_Roads a2 cI cZ u2) ++ W_Rings a3 cI cZ u3) ++ W_Fleet a4 cI cZ u4) ++ W_Jobs a5 cI cZ u5) ++ W_Choice a6 cI cZ u6) := hD
  subst had
  refine lv_aload_n hx hb d_Face_init_83 rfl (lv_at hl 1 rfl) ?_
  refine lv_iconst (v := 0) hx hb d_Face_init_84 (by decide) ?_
  refine va_put (D := D) (ci := 6) (v := .int 0) (ty := .int) (C := "CarrierPaths") (T := F_Face) (N := 7) hx hb hts in_Face ty_Face ty_Face_ok nm_Face hown hK hP hD hS 0 rfl rfl 6 (by decide) (hts _ kw178) (fun _ h9 => h9) rfl (by decide +kernel) rfl rfl (Nat.le_of_ble_eq_true rfl) d_Face_init_85 (fun H locs hP hD hS => ?_)
  have hP : va_P D classes (W_Face (adF h0 a1 a2 a3 a4 a5 a6) cI cZ (sgF u1 u2 u3 u4 u5 u6)) H := hP
  have hD : va_D (nA h0 s.heap.size) (W_Face (adF h0 a1 a2 a3 a4 a5 a6) cI cZ (sgF u1 u2 u3 u4 u5 u6)) := hD
  have inj : Inj (fA (adF h0 a1 a2 a3 a4 a5 a6)) 29 := inj_ofD hD rfl
  have hmem := mem_ofD (n := 29) (ad := fA (adF h0 a1 a2 a3 a4 a5 a6)) hD rfl
  exact W.vret hx hb hr (fun t ht hW => ⟨⟨sgF u1 u2 u3 u4 u5 u6, rfl, h, adF h0 a1 a2 a3 a4 a5 a6, rfl, inj, new_of hh0 inj rfl hmem, hp_back ht hP⟩, hS.F ht⟩) hS.2.2 d_Face_init_88
