/-- a contract of a method of a type that has members of the machine's own, itself none of them -/
theorem mt_plainF {l : Launch} {y : MethodName} {ws ws' : List Cond} {rm : Room} {Pc : Array Value → State → Prop} {Qc : Array Value → State → Outcome → State → Prop} {mc ms : Nat} {free : Addr → Prop} {cc : ByteArray} {maxL : Nat} {ret : Option FieldType} (hy : plainFor y = true) (hw : ws = Cond.code y cc maxL ret :: ws')
    (hbody : ∀ p e s m args below meth c s₁, BodyLoose p l y (headSpec ws rm) cc maxL ret e s m args below meth c s₁ → c.maxLocals = maxL → Pc args s → W p l e (headSpec ws rm).room s m args below meth c s.heap [] 0 0 (MQ below Qc args s mc ms free) (entryFrame m args maxL)) : Met l y ws rm Pc Qc mc ms free := by
  apply MetFree.of_bodySF (code := cc) (maxLocals := maxL) (ret := ret) hy
  · intro args s m hpre hnm
    have hw1 := atoms_spec (ws := ws) hpre (Cond.code y cc maxL ret) (by rw [hw]; exact List.mem_cons_self)
    obtain ⟨me, co, q1, q2, q3, q4, q5, q6, _, _⟩ := Cond.code_spec hnm hw1
    exact ⟨me, co, q1, q2, q3, q4, q5, q6⟩
  · intro p e s m args below meth c s₁ B hml hPc _
    have hh : s₁.heap = s.heap := by rw [B.state]; rfl
    obtain ⟨t, st, o, r1, r2, r3⟩ := hbody p e s m args below meth c s₁ B hml hPc s₁ hh (Stand.of_body B)
    exact ⟨t, o, st, r1, r2, r3.1, r3.2⟩
theorem d_Math_floorDiv_0 : decode prog_14_method_47_code 0 = .ok (.iload_n 0, 1) := by decide +kernel
theorem d_Math_floorDiv_1 : decode prog_14_method_47_code 1 = .ok (.iload_n 1, 1) := by decide +kernel
theorem d_Math_floorDiv_2 : decode prog_14_method_47_code 2 = .ok (.idiv, 1) := by decide +kernel
theorem d_Math_floorDiv_3 : decode prog_14_method_47_code 3 = .ok (.istore_n 2, 1) := by decide +kernel
theorem d_Math_floorDiv_4 : decode prog_14_method_47_code 4 = .ok (.iload_n 0, 1) := by decide +kernel
theorem d_Math_floorDiv_5 : decode prog_14_method_47_code 5 = .ok (.iload_n 1, 1) := by decide +kernel
theorem d_Math_floorDiv_6 : decode prog_14_method_47_code 6 = .ok (.ixor, 1) := by decide +kernel
theorem d_Math_floorDiv_7 : decode prog_14_method_47_code 7 = .ok (.ifCond .ge 14, 3) := by decide +kernel
theorem d_Math_floorDiv_10 : decode prog_14_method_47_code 10 = .ok (.iload_n 2, 1) := by decide +kernel
theorem d_Math_floorDiv_11 : decode prog_14_method_47_code 11 = .ok (.iload_n 1, 1) := by decide +kernel
theorem d_Math_floorDiv_12 : decode prog_14_method_47_code 12 = .ok (.imul, 1) := by decide +kernel
theorem d_Math_floorDiv_13 : decode prog_14_method_47_code 13 = .ok (.iload_n 0, 1) := by decide +kernel
theorem d_Math_floorDiv_14 : decode prog_14_method_47_code 14 = .ok (.if_icmp .eq 7, 3) := by decide +kernel
theorem d_Math_floorDiv_17 : decode prog_14_method_47_code 17 = .ok (.iload_n 2, 1) := by decide +kernel
theorem d_Math_floorDiv_18 : decode prog_14_method_47_code 18 = .ok (.iconst 1, 1) := by decide +kernel
theorem d_Math_floorDiv_19 : decode prog_14_method_47_code 19 = .ok (.isub, 1) := by decide +kernel
theorem d_Math_floorDiv_20 : decode prog_14_method_47_code 20 = .ok (.ireturn, 1) := by decide +kernel
theorem d_Math_floorDiv_21 : decode prog_14_method_47_code 21 = .ok (.iload_n 2, 1) := by decide +kernel
theorem d_Math_floorDiv_22 : decode prog_14_method_47_code 22 = .ok (.ireturn, 1) := by decide +kernel
theorem d_Math_floorMod_0 : decode prog_14_method_50_code 0 = .ok (.iload_n 0, 1) := by decide +kernel
theorem d_Math_floorMod_1 : decode prog_14_method_50_code 1 = .ok (.iload_n 1, 1) := by decide +kernel
theorem d_Math_floorMod_2 : decode prog_14_method_50_code 2 = .ok (.irem, 1) := by decide +kernel
theorem d_Math_floorMod_3 : decode prog_14_method_50_code 3 = .ok (.istore_n 2, 1) := by decide +kernel
theorem d_Math_floorMod_4 : decode prog_14_method_50_code 4 = .ok (.iload_n 0, 1) := by decide +kernel
theorem d_Math_floorMod_5 : decode prog_14_method_50_code 5 = .ok (.iload_n 1, 1) := by decide +kernel
theorem d_Math_floorMod_6 : decode prog_14_method_50_code 6 = .ok (.ixor, 1) := by decide +kernel
theorem d_Math_floorMod_7 : decode prog_14_method_50_code 7 = .ok (.ifCond .ge 11, 3) := by decide +kernel
theorem d_Math_floorMod_10 : decode prog_14_method_50_code 10 = .ok (.iload_n 2, 1) := by decide +kernel
theorem d_Math_floorMod_11 : decode prog_14_method_50_code 11 = .ok (.ifCond .eq 7, 3) := by decide +kernel
theorem d_Math_floorMod_14 : decode prog_14_method_50_code 14 = .ok (.iload_n 2, 1) := by decide +kernel
theorem d_Math_floorMod_15 : decode prog_14_method_50_code 15 = .ok (.iload_n 1, 1) := by decide +kernel
theorem d_Math_floorMod_16 : decode prog_14_method_50_code 16 = .ok (.iadd, 1) := by decide +kernel
theorem d_Math_floorMod_17 : decode prog_14_method_50_code 17 = .ok (.ireturn, 1) := by decide +kernel
theorem d_Math_floorMod_18 : decode prog_14_method_50_code 18 = .ok (.iload_n 2, 1) := by decide +kernel
theorem d_Math_floorMod_19 : decode prog_14_method_50_code 19 = .ok (.ireturn, 1) := by decide +kernel
abbrev y_Math_floorDiv : MethodName := ⟨"java/lang/Math", "floorDiv", "(II)I"⟩
def q_Math_floorDiv (v0 v1 : Int32) (Q : (Int32 → Prop)) : Prop :=
  (¬ v1 = 0 ∧ ((0 ≤ (v0 ^^^ v1) → Q (v0 / v1)) ∧ (¬ 0 ≤ (v0 ^^^ v1) → ((((v0 / v1) * v1) = v0 → Q (v0 / v1)) ∧ (¬ ((v0 / v1) * v1) = v0 → Q ((v0 / v1) - 1))))))
set_option maxHeartbeats 4000000 in
set_option maxRecDepth 100000 in
theorem t_Math_floorDiv (l : Launch) (v0 v1 : Int32) (Q : (Int32 → Prop)) (h : q_Math_floorDiv v0 v1 Q) : Met l y_Math_floorDiv (.code y_Math_floorDiv prog_14_method_47_code 3 (some .int) :: TG) { frames := 0, cells := 0, slots := 0, locals := 0 } (va_Pc [.int v0, .int v1] (fun _ => True)) (vp_Si Q) 0 0 (fun _ => False) := by
  refine mt_plainF (cc := prog_14_method_47_code) (maxL := 3) (ret := (some .int)) (by decide +kernel) rfl ?_
  intro p e s m args below meth c s₁ B hml hv
  obtain ⟨rfl, -⟩ := hv
  have hx := B.exec
  have hb := B.bytes
  have hr := B.returns
  have hts : ∀ w ∈ TG, w.before [.int v0, .int v1].toArray s = true := fun w hw => atoms_spec (ws := .code y_Math_floorDiv prog_14_method_47_code 3 (some .int) :: TG) B.pre w (List.mem_cons_of_mem _ hw)
  have hown : s.vm.findClass "java/lang/Math" = some m.cls := findClass_of_methodNamed B.named
  have hlocks := B.notSynchronized
  have hl := lv_entry ([.int v0, .int v1]) (n := 3) (Nat.le_of_ble_eq_true rfl)
  rw [lg_entry_eq]
  generalize (lg_sl ([.int v0, .int v1]) ++ List.replicate (3 - (lg_sl ([.int v0, .int v1])).length) Slot.unset).toArray = ls at hl ⊢
  have hl : lv_has ls 3 [(0, .int v0), (1, .int v1)] := hl
  unfold q_Math_floorDiv at h
  refine lv_iload_n hx hb d_Math_floorDiv_0 rfl (lv_at hl 0 rfl) ?_
  refine lv_iload_n hx hb d_Math_floorDiv_1 rfl (lv_at hl 1 rfl) ?_
  obtain ⟨hz, h⟩ := h
  refine lv_idiv hx hb d_Math_floorDiv_2 hz ?_
  refine lv_istore_n (lv' := [(2, .int (v0 / v1)), (0, .int v0), (1, .int v1)]) hx hb d_Math_floorDiv_3 rfl hl (by decide) rfl (fun ls hl => ?_)
  refine lv_iload_n hx hb d_Math_floorDiv_4 rfl (lv_at hl 1 rfl) ?_
  refine lv_iload_n hx hb d_Math_floorDiv_5 rfl (lv_at hl 2 rfl) ?_
  refine lv_ixor hx hb d_Math_floorDiv_6 ?_
  refine lv_if_ge (tgt := 21) hx hb d_Math_floorDiv_7 (by decide) (fun hc => ?_) (fun hc => ?_)
  · have h := h.1 hc
    refine lv_iload_n hx hb d_Math_floorDiv_21 rfl (lv_at hl 0 rfl) ?_
    exact W.iret (v := (v0 / v1)) hx hb hr (fun t ht hW => ⟨(v0 / v1), rfl, h, ht⟩) (fun q hq => by cases hq) d_Math_floorDiv_22
  · have h := h.2 hc
    refine lv_iload_n hx hb d_Math_floorDiv_10 rfl (lv_at hl 0 rfl) ?_
    refine lv_iload_n hx hb d_Math_floorDiv_11 rfl (lv_at hl 2 rfl) ?_
    refine lv_imul hx hb d_Math_floorDiv_12 ?_
    refine lv_iload_n hx hb d_Math_floorDiv_13 rfl (lv_at hl 1 rfl) ?_
    refine lv_icmp_eq (tgt := 21) hx hb d_Math_floorDiv_14 (by decide) (fun hc => ?_) (fun hc => ?_)
    · have h := h.1 hc
      refine lv_iload_n hx hb d_Math_floorDiv_21 rfl (lv_at hl 0 rfl) ?_
      exact W.iret (v := (v0 / v1)) hx hb hr (fun t ht hW => ⟨(v0 / v1), rfl, h, ht⟩) (fun q hq => by cases hq) d_Math_floorDiv_22
    · have h := h.2 hc
      refine lv_iload_n hx hb d_Math_floorDiv_17 rfl (lv_at hl 0 rfl) ?_
      refine lv_iconst (v := 1) hx hb d_Math_floorDiv_18 (by decide) ?_
      refine lv_isub hx hb d_Math_floorDiv_19 ?_
      exact W.iret (v := ((v0 / v1) - 1)) hx hb hr (fun t ht hW => ⟨((v0 / v1) - 1), rfl, h, ht⟩) (fun q hq => by cases hq) d_Math_floorDiv_20
abbrev y_Math_floorMod : MethodName := ⟨"java/lang/Math", "floorMod", "(II)I"⟩
def q_Math_floorMod (v0 v1 : Int32) (Q : (Int32 → Prop)) : Prop :=
  (¬ v1 = 0 ∧ ((0 ≤ (v0 ^^^ v1) → Q (v0 - v0 / v1 * v1)) ∧ (¬ 0 ≤ (v0 ^^^ v1) → (((v0 - v0 / v1 * v1) = 0 → Q (v0 - v0 / v1 * v1)) ∧ (¬ (v0 - v0 / v1 * v1) = 0 → Q ((v0 - v0 / v1 * v1) + v1))))))
set_option maxHeartbeats 4000000 in
set_option maxRecDepth 100000 in
theorem t_Math_floorMod (l : Launch) (v0 v1 : Int32) (Q : (Int32 → Prop)) (h : q_Math_floorMod v0 v1 Q) : Met l y_Math_floorMod (.code y_Math_floorMod prog_14_method_50_code 3 (some .int) :: TG) { frames := 0, cells := 0, slots := 0, locals := 0 } (va_Pc [.int v0, .int v1] (fun _ => True)) (vp_Si Q) 0 0 (fun _ => False) := by
  refine mt_plainF (cc := prog_14_method_50_code) (maxL := 3) (ret := (some .int)) (by decide +kernel) rfl ?_
  intro p e s m args below meth c s₁ B hml hv
  obtain ⟨rfl, -⟩ := hv
  have hx := B.exec
  have hb := B.bytes
  have hr := B.returns
  have hts : ∀ w ∈ TG, w.before [.int v0, .int v1].toArray s = true := fun w hw => atoms_spec (ws := .code y_Math_floorMod prog_14_method_50_code 3 (some .int) :: TG) B.pre w (List.mem_cons_of_mem _ hw)
  have hown : s.vm.findClass "java/lang/Math" = some m.cls := findClass_of_methodNamed B.named
  have hlocks := B.notSynchronized
  have hl := lv_entry ([.int v0, .int v1]) (n := 3) (Nat.le_of_ble_eq_true rfl)
  rw [lg_entry_eq]
  generalize (lg_sl ([.int v0, .int v1]) ++ List.replicate (3 - (lg_sl ([.int v0, .int v1])).length) Slot.unset).toArray = ls at hl ⊢
  have hl : lv_has ls 3 [(0, .int v0), (1, .int v1)] := hl
  unfold q_Math_floorMod at h
  refine lv_iload_n hx hb d_Math_floorMod_0 rfl (lv_at hl 0 rfl) ?_
  refine lv_iload_n hx hb d_Math_floorMod_1 rfl (lv_at hl 1 rfl) ?_
  obtain ⟨hz, h⟩ := h
  refine lv_irem hx hb d_Math_floorMod_2 hz ?_
  refine lv_istore_n (lv' := [(2, .int (v0 - v0 / v1 * v1)), (0, .int v0), (1, .int v1)]) hx hb d_Math_floorMod_3 rfl hl (by decide) rfl (fun ls hl => ?_)
  refine lv_iload_n hx hb d_Math_floorMod_4 rfl (lv_at hl 1 rfl) ?_
  refine lv_iload_n hx hb d_Math_floorMod_5 rfl (lv_at hl 2 rfl) ?_
  refine lv_ixor hx hb d_Math_floorMod_6 ?_
  refine lv_if_ge (tgt := 18) hx hb d_Math_floorMod_7 (by decide) (fun hc => ?_) (fun hc => ?_)
  · have h := h.1 hc
    refine lv_iload_n hx hb d_Math_floorMod_18 rfl (lv_at hl 0 rfl) ?_
    exact W.iret (v := (v0 - v0 / v1 * v1)) hx hb hr (fun t ht hW => ⟨(v0 - v0 / v1 * v1), rfl, h, ht⟩) (fun q hq => by cases hq) d_Math_floorMod_19
  · have h := h.2 hc
    refine lv_iload_n hx hb d_Math_floorMod_10 rfl (lv_at hl 0 rfl) ?_
    refine lv_if_eq (tgt := 18) hx hb d_Math_floorMod_11 (by decide) (fun hc => ?_) (fun hc => ?_)
    · have h := h.1 hc
      refine lv_iload_n hx hb d_Math_floorMod_18 rfl (lv_at hl 0 rfl) ?_
      exact W.iret (v := (v0 - v0 / v1 * v1)) hx hb hr (fun t ht hW => ⟨(v0 - v0 / v1 * v1), rfl, h, ht⟩) (fun q hq => by cases hq) d_Math_floorMod_19
    · have h := h.2 hc
      refine lv_iload_n hx hb d_Math_floorMod_14 rfl (lv_at hl 0 rfl) ?_
      refine lv_iload_n hx hb d_Math_floorMod_15 rfl (lv_at hl 2 rfl) ?_
      refine lv_iadd hx hb d_Math_floorMod_16 ?_
      exact W.iret (v := ((v0 - v0 / v1 * v1) + v1)) hx hb hr (fun t ht hW => ⟨((v0 - v0 / v1 * v1) + v1), rfl, h, ht⟩) (fun q hq => by cases hq) d_Math_floorMod_17
