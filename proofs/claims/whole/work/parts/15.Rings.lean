def W_Rings (ad : Nat → Nat) (cI cZ : ClassId) (σ : Sg) : va_W :=
  [(ad 0, .inr (4, [.ref (ad 1), .int (σ 0 1)])),
   (ad 1, .inl (cI, 4, .inl (σ 1)))]
theorem D_Rings {ad : Nat → Nat} {cI cZ : ClassId} {σ : Sg} (inj : Inj ad 2) : va_D (inA ad 2) (W_Rings ad cI cZ σ) := D_of inj rfl
theorem up_Rings_f1 {D : va_G} {ad : Nat → Nat} {cI cZ : ClassId} {σ : Sg} {H : Heap} {v : Int32} (h : va_P D classes ((W_Rings ad cI cZ σ).set 0 (ad 0, .inr (4, ([.ref (ad 1), .int (σ 0 1)] : List Value).set 1 (.int v)))) H) : va_P D classes (W_Rings ad cI cZ (sto σ 0 1 v)) H := h
theorem up_Rings_1 {D : va_G} {ad : Nat → Nat} {cI cZ : ClassId} {σ : Sg} {H : Heap} {i : Nat} {v : Int32} (h : va_P D classes ((W_Rings ad cI cZ σ).set 1 (ad 1, .inl (cI, 4, .inl (upd (σ 1) i v)))) H) : va_P D classes (W_Rings ad cI cZ (sto σ 1 i v)) H := h
def q_Rings_size (σ : Sg) (Q : (Int32 → Prop)) : Prop :=
  Q (σ 0 1)
set_option maxHeartbeats 4000000 in
set_option maxRecDepth 100000 in
theorem t_Rings_size (l : Launch) (D : va_G) (cI cZ : ClassId) (ad : Nat → Nat) (σ : Sg) (Q : (Int32 → Prop)) (h : q_Rings_size σ Q) : Met l y_Rings_size (.code y_Rings_size prog_6_method_2_code 1 (some .int) :: TG) { frames := 0, cells := 0, slots := 0, locals := 0 } (va_Pc [.ref (ad 0)] (roB D (tysA cI cZ) (W_Rings ad cI cZ σ))) (vp_Si Q) 0 0 (fun _ => False) := by
  refine Met.ofW (cc := prog_6_method_2_code) (maxL := 1) (ret := (some .int)) (by decide) rfl ?_
  intro p e s m args below meth c s₁ B hml hv
  obtain ⟨rfl, hP, hK⟩ := hv
  have hx := B.exec
  have hb := B.bytes
  have hr := B.returns
  have hts : ∀ w ∈ TG, w.before [.ref (ad 0)].toArray s = true := fun w hw => atoms_spec (ws := .code y_Rings_size prog_6_method_2_code 1 (some .int) :: TG) B.pre w (List.mem_cons_of_mem _ hw)
  have hown : s.vm.findClass "CarrierPaths$Rings" = some m.cls := findClass_of_methodNamed B.named
  have hlocks := B.notSynchronized
  have hl := lv_entry ([.ref (ad 0)]) (n := 1) (Nat.le_of_ble_eq_true rfl)
  rw [lg_entry_eq]
  generalize (lg_sl ([.ref (ad 0)]) ++ List.replicate (1 - (lg_sl ([.ref (ad 0)])).length) Slot.unset).toArray = ls at hl ⊢
  have hl : lv_has ls 1 [(0, .ref (ad 0))] := hl
  unfold q_Rings_size at h
  refine lv_aload_n hx hb d_Rings_size_0 rfl (lv_at hl 0 rfl) ?_
  refine va_get (D := D) (ci := 4) (v := .int (σ 0 1)) (C := "CarrierPaths$Rings") (T := F_Rings) (N := 2) hx hb hts in_Rings hown hK hP 0 rfl rfl 1 (by decide) (hts _ kw88) (fun _ h9 => h9) rfl d_Rings_size_1 ?_
  exact W.iret (v := (σ 0 1)) hx hb hr (fun t ht hW => ⟨(σ 0 1), rfl, h, ht⟩) (fun q hq => by cases hq) d_Rings_size_4
def q_Rings_has (v1 : Int32) (σ : Sg) (Q : (Int32 → Prop)) : Prop :=
  ((v1 < 0 → Q 0) ∧ (¬ v1 < 0 → (((σ 0 1) ≤ v1 → Q 0) ∧ (¬ (σ 0 1) ≤ v1 → Q 1))))
set_option maxHeartbeats 4000000 in
set_option maxRecDepth 100000 in
theorem t_Rings_has (l : Launch) (D : va_G) (cI cZ : ClassId) (ad : Nat → Nat) (v1 : Int32) (σ : Sg) (Q : (Int32 → Prop)) (h : q_Rings_has v1 σ Q) : Met l y_Rings_has (.code y_Rings_has prog_6_method_3_code 2 (some .boolean) :: TG) { frames := 0, cells := 0, slots := 0, locals := 0 } (va_Pc [.ref (ad 0), .int v1] (roB D (tysA cI cZ) (W_Rings ad cI cZ σ))) (vp_Si Q) 0 0 (fun _ => False) := by
  refine Met.ofW (cc := prog_6_method_3_code) (maxL := 2) (ret := (some .boolean)) (by decide) rfl ?_
  intro p e s m args below meth c s₁ B hml hv
  obtain ⟨rfl, hP, hK⟩ := hv
  have hx := B.exec
  have hb := B.bytes
  have hr := B.returns
  have hts : ∀ w ∈ TG, w.before [.ref (ad 0), .int v1].toArray s = true := fun w hw => atoms_spec (ws := .code y_Rings_has prog_6_method_3_code 2 (some .boolean) :: TG) B.pre w (List.mem_cons_of_mem _ hw)
  have hown : s.vm.findClass "CarrierPaths$Rings" = some m.cls := findClass_of_methodNamed B.named
  have hlocks := B.notSynchronized
  have hl := lv_entry ([.ref (ad 0), .int v1]) (n := 2) (Nat.le_of_ble_eq_true rfl)
  rw [lg_entry_eq]
  generalize (lg_sl ([.ref (ad 0), .int v1]) ++ List.replicate (2 - (lg_sl ([.ref (ad 0), .int v1])).length) Slot.unset).toArray = ls at hl ⊢
  have hl : lv_has ls 2 [(0, .ref (ad 0)), (1, .int v1)] := hl
  unfold q_Rings_has at h
  refine lv_iload_n hx hb d_Rings_has_0 rfl (lv_at hl 1 rfl) ?_
  refine lv_if_lt (tgt := 16) hx hb d_Rings_has_1 (by decide) (fun hc => ?_) (fun hc => ?_)
  · have h := h.1 hc
    refine lv_iconst (v := 0) hx hb d_Rings_has_16 (by decide) ?_
    exact W.zret (v := 0) hx hb hr (by decide) (fun t ht hW => ⟨0, rfl, h, ht⟩) (fun q hq => by cases hq) d_Rings_has_17
  · have h := h.2 hc
    refine lv_iload_n hx hb d_Rings_has_4 rfl (lv_at hl 1 rfl) ?_
    refine lv_aload_n hx hb d_Rings_has_5 rfl (lv_at hl 0 rfl) ?_
    refine va_get (D := D) (ci := 4) (v := .int (σ 0 1)) (C := "CarrierPaths$Rings") (T := F_Rings) (N := 2) hx hb hts in_Rings hown hK hP 0 rfl rfl 1 (by decide) (hts _ kw88) (fun _ h9 => h9) rfl d_Rings_has_6 ?_
    refine lv_icmp_ge (tgt := 16) hx hb d_Rings_has_9 (by decide) (fun hc => ?_) (fun hc => ?_)
    · have h := h.1 hc
      refine lv_iconst (v := 0) hx hb d_Rings_has_16 (by decide) ?_
      exact W.zret (v := 0) hx hb hr (by decide) (fun t ht hW => ⟨0, rfl, h, ht⟩) (fun q hq => by cases hq) d_Rings_has_17
    · have h := h.2 hc
      refine lv_iconst (v := 1) hx hb d_Rings_has_12 (by decide) ?_
      refine lv_goto (tgt := 17) hx hb d_Rings_has_13 (by decide) ?_
      exact W.zret (v := 1) hx hb hr (by decide) (fun t ht hW => ⟨1, rfl, h, ht⟩) (fun q hq => by cases hq) d_Rings_has_17
def q_Rings_add (v1 : Int32) (σ : Sg) (Q : (Int32 → Sg → Prop)) : Prop :=
  (vp_in (σ 0 1) 4 ∧ Q ((sto (sto σ 1 (σ 0 1).toNatClampNeg v1) 0 1 (((sto σ 1 (σ 0 1).toNatClampNeg v1) 0 1) + 1)) 0 1) (sto (sto σ 1 (σ 0 1).toNatClampNeg v1) 0 1 (((sto σ 1 (σ 0 1).toNatClampNeg v1) 0 1) + 1)))
set_option maxHeartbeats 4000000 in
set_option maxRecDepth 100000 in
theorem t_Rings_add (l : Launch) (D : va_G) (cI cZ : ClassId) (ad : Nat → Nat) (inj : Inj ad 2) (v1 : Int32) (σ : Sg) (Q : (Int32 → Sg → Prop)) (h : q_Rings_add v1 σ Q) : Met l y_Rings_add (.code y_Rings_add prog_6_method_4_code 2 (some .int) :: TG) { frames := 0, cells := 0, slots := 0, locals := 0 } (va_Pc [.ref (ad 0), .int v1] (roB D (tysA cI cZ) (W_Rings ad cI cZ σ))) (va_Qi Q (fun u t => va_P D classes (W_Rings ad cI cZ u) t.heap) (inA ad 2)) 0 0 (inA ad 2) := by
  refine Met.ofW (cc := prog_6_method_4_code) (maxL := 2) (ret := (some .int)) (by decide) rfl ?_
  intro p e s m args below meth c s₁ B hml hv
  obtain ⟨rfl, hP, hK⟩ := hv
  have hx := B.exec
  have hb := B.bytes
  have hr := B.returns
  have hts : ∀ w ∈ TG, w.before [.ref (ad 0), .int v1].toArray s = true := fun w hw => atoms_spec (ws := .code y_Rings_add prog_6_method_4_code 2 (some .int) :: TG) B.pre w (List.mem_cons_of_mem _ hw)
  have hown : s.vm.findClass "CarrierPaths$Rings" = some m.cls := findClass_of_methodNamed B.named
  have hlocks := B.notSynchronized
  have hS : va_S (inA ad 2) s.heap s.heap [] := va_S.rf
  have hl := lv_entry ([.ref (ad 0), .int v1]) (n := 2) (Nat.le_of_ble_eq_true rfl)
  rw [lg_entry_eq]
  generalize (lg_sl ([.ref (ad 0), .int v1]) ++ List.replicate (2 - (lg_sl ([.ref (ad 0), .int v1])).length) Slot.unset).toArray = ls at hl ⊢
  have hl : lv_has ls 2 [(0, .ref (ad 0)), (1, .int v1)] := hl
  unfold q_Rings_add at h
  refine lv_aload_n hx hb d_Rings_add_0 rfl (lv_at hl 0 rfl) ?_
  refine va_get (D := D) (ci := 4) (v := .ref (ad 1)) (C := "CarrierPaths$Rings") (T := F_Rings) (N := 2) hx hb hts in_Rings hown hK hP 0 rfl rfl 0 (by decide) (hts _ kw87) (fun _ h9 => h9) rfl d_Rings_add_1 ?_
  refine lv_aload_n hx hb d_Rings_add_4 rfl (lv_at hl 0 rfl) ?_
  refine va_get (D := D) (ci := 4) (v := .int (σ 0 1)) (C := "CarrierPaths$Rings") (T := F_Rings) (N := 2) hx hb hts in_Rings hown hK hP 0 rfl rfl 1 (by decide) (hts _ kw88) (fun _ h9 => h9) rfl d_Rings_add_5 ?_
  refine lv_iload_n hx hb d_Rings_add_8 rfl (lv_at hl 1 rfl) ?_
  obtain ⟨hi, h⟩ := h
  refine va_iast hx hb hK hP (D_Rings inj) hS 1 0 rfl rfl hi d_Rings_add_9 (fun H locs hP _ hS => ?_)
  have hP := up_Rings_1 hP
  refine lv_aload_n hx hb d_Rings_add_10 rfl (lv_at hl 0 rfl) ?_
  refine lv_dup hx hb d_Rings_add_11 rfl ?_
  refine va_get (D := D) (ci := 4) (v := .int ((sto σ 1 (σ 0 1).toNatClampNeg v1) 0 1)) (C := "CarrierPaths$Rings") (T := F_Rings) (N := 2) hx hb hts in_Rings hown hK hP 0 rfl rfl 1 (by decide) (hts _ kw88) (fun _ h9 => h9) rfl d_Rings_add_12 ?_
  refine lv_iconst (v := 1) hx hb d_Rings_add_15 (by decide) ?_
  refine lv_iadd hx hb d_Rings_add_16 ?_
  refine va_put (D := D) (ci := 4) (v := .int (((sto σ 1 (σ 0 1).toNatClampNeg v1) 0 1) + 1)) (ty := .int) (C := "CarrierPaths$Rings") (T := F_Rings) (N := 2) hx hb hts in_Rings ty_Rings ty_Rings_ok nm_Rings hown hK hP (D_Rings inj) hS 0 rfl rfl 1 (by decide) (hts _ kw88) (fun _ h9 => h9) rfl (by decide +kernel) rfl rfl (Nat.le_of_ble_eq_true rfl) d_Rings_add_17 (fun H locs hP _ hS => ?_)
  have hP := up_Rings_f1 hP
  refine lv_aload_n hx hb d_Rings_add_20 rfl (lv_at hl 0 rfl) ?_
  refine va_get (D := D) (ci := 4) (v := .int ((sto (sto σ 1 (σ 0 1).toNatClampNeg v1) 0 1 (((sto σ 1 (σ 0 1).toNatClampNeg v1) 0 1) + 1)) 0 1)) (C := "CarrierPaths$Rings") (T := F_Rings) (N := 2) hx hb hts in_Rings hown hK hP 0 rfl rfl 1 (by decide) (hts _ kw88) (fun _ h9 => h9) rfl d_Rings_add_21 ?_
  exact W.iret (v := ((sto (sto σ 1 (σ 0 1).toNatClampNeg v1) 0 1 (((sto σ 1 (σ 0 1).toNatClampNeg v1) 0 1) + 1)) 0 1)) hx hb hr (fun t ht hW => ⟨⟨((sto (sto σ 1 (σ 0 1).toNatClampNeg v1) 0 1 (((sto σ 1 (σ 0 1).toNatClampNeg v1) 0 1) + 1)) 0 1), (sto (sto σ 1 (σ 0 1).toNatClampNeg v1) 0 1 (((sto σ 1 (σ 0 1).toNatClampNeg v1) 0 1) + 1)), rfl, h, hp_back ht hP⟩, hS.F ht⟩) hS.2.2 d_Rings_add_24
def q_Rings_bitsOf (v1 : Int32) (σ : Sg) (Q : (Int32 → Prop)) : Prop :=
  (vp_in v1 4 ∧ Q (σ 1 v1.toNatClampNeg))
set_option maxHeartbeats 4000000 in
set_option maxRecDepth 100000 in
theorem t_Rings_bitsOf (l : Launch) (D : va_G) (cI cZ : ClassId) (ad : Nat → Nat) (v1 : Int32) (σ : Sg) (Q : (Int32 → Prop)) (h : q_Rings_bitsOf v1 σ Q) : Met l y_Rings_bitsOf (.code y_Rings_bitsOf prog_6_method_5_code 2 (some .int) :: TG) { frames := 0, cells := 0, slots := 0, locals := 0 } (va_Pc [.ref (ad 0), .int v1] (roB D (tysA cI cZ) (W_Rings ad cI cZ σ))) (vp_Si Q) 0 0 (fun _ => False) := by
  refine Met.ofW (cc := prog_6_method_5_code) (maxL := 2) (ret := (some .int)) (by decide) rfl ?_
  intro p e s m args below meth c s₁ B hml hv
  obtain ⟨rfl, hP, hK⟩ := hv
  have hx := B.exec
  have hb := B.bytes
  have hr := B.returns
  have hts : ∀ w ∈ TG, w.before [.ref (ad 0), .int v1].toArray s = true := fun w hw => atoms_spec (ws := .code y_Rings_bitsOf prog_6_method_5_code 2 (some .int) :: TG) B.pre w (List.mem_cons_of_mem _ hw)
  have hown : s.vm.findClass "CarrierPaths$Rings" = some m.cls := findClass_of_methodNamed B.named
  have hlocks := B.notSynchronized
  have hl := lv_entry ([.ref (ad 0), .int v1]) (n := 2) (Nat.le_of_ble_eq_true rfl)
  rw [lg_entry_eq]
  generalize (lg_sl ([.ref (ad 0), .int v1]) ++ List.replicate (2 - (lg_sl ([.ref (ad 0), .int v1])).length) Slot.unset).toArray = ls at hl ⊢
  have hl : lv_has ls 2 [(0, .ref (ad 0)), (1, .int v1)] := hl
  unfold q_Rings_bitsOf at h
  refine lv_aload_n hx hb d_Rings_bitsOf_0 rfl (lv_at hl 0 rfl) ?_
  refine va_get (D := D) (ci := 4) (v := .ref (ad 1)) (C := "CarrierPaths$Rings") (T := F_Rings) (N := 2) hx hb hts in_Rings hown hK hP 0 rfl rfl 0 (by decide) (hts _ kw87) (fun _ h9 => h9) rfl d_Rings_bitsOf_1 ?_
  refine lv_iload_n hx hb d_Rings_bitsOf_4 rfl (lv_at hl 1 rfl) ?_
  obtain ⟨hi, h⟩ := h
  refine va_iald hx hb hK hP 1 0 rfl rfl hi d_Rings_bitsOf_5 ?_
  exact W.iret (v := (σ 1 v1.toNatClampNeg)) hx hb hr (fun t ht hW => ⟨(σ 1 v1.toNatClampNeg), rfl, h, ht⟩) (fun q hq => by cases hq) d_Rings_bitsOf_6
