def W_Fleet (ad : Nat → Nat) (cI cZ : ClassId) (σ : Sg) : va_W :=
  [(ad 0, .inr (1, [.ref (ad 1), .ref (ad 2), .ref (ad 3), .ref (ad 4), .ref (ad 5), .ref (ad 6), .ref (ad 7), .int (σ 0 7)])),
   (ad 1, .inl (cI, 6, .inl (σ 1))),
   (ad 2, .inl (cI, 6, .inl (σ 2))),
   (ad 3, .inl (cI, 6, .inl (σ 3))),
   (ad 4, .inl (cI, 6, .inl (σ 4))),
   (ad 5, .inl (cI, 6, .inl (σ 5))),
   (ad 6, .inl (cI, 6, .inl (σ 6))),
   (ad 7, .inl (cI, 6, .inl (σ 7)))]
theorem D_Fleet {ad : Nat → Nat} {cI cZ : ClassId} {σ : Sg} (inj : Inj ad 8) : va_D (inA ad 8) (W_Fleet ad cI cZ σ) := D_of inj rfl
theorem up_Fleet_f7 {D : va_G} {ad : Nat → Nat} {cI cZ : ClassId} {σ : Sg} {H : Heap} {v : Int32} (h : va_P D classes ((W_Fleet ad cI cZ σ).set 0 (ad 0, .inr (1, ([.ref (ad 1), .ref (ad 2), .ref (ad 3), .ref (ad 4), .ref (ad 5), .ref (ad 6), .ref (ad 7), .int (σ 0 7)] : List Value).set 7 (.int v)))) H) : va_P D classes (W_Fleet ad cI cZ (sto σ 0 7 v)) H := h
theorem up_Fleet_1 {D : va_G} {ad : Nat → Nat} {cI cZ : ClassId} {σ : Sg} {H : Heap} {i : Nat} {v : Int32} (h : va_P D classes ((W_Fleet ad cI cZ σ).set 1 (ad 1, .inl (cI, 6, .inl (upd (σ 1) i v)))) H) : va_P D classes (W_Fleet ad cI cZ (sto σ 1 i v)) H := h
theorem up_Fleet_2 {D : va_G} {ad : Nat → Nat} {cI cZ : ClassId} {σ : Sg} {H : Heap} {i : Nat} {v : Int32} (h : va_P D classes ((W_Fleet ad cI cZ σ).set 2 (ad 2, .inl (cI, 6, .inl (upd (σ 2) i v)))) H) : va_P D classes (W_Fleet ad cI cZ (sto σ 2 i v)) H := h
theorem up_Fleet_3 {D : va_G} {ad : Nat → Nat} {cI cZ : ClassId} {σ : Sg} {H : Heap} {i : Nat} {v : Int32} (h : va_P D classes ((W_Fleet ad cI cZ σ).set 3 (ad 3, .inl (cI, 6, .inl (upd (σ 3) i v)))) H) : va_P D classes (W_Fleet ad cI cZ (sto σ 3 i v)) H := h
theorem up_Fleet_4 {D : va_G} {ad : Nat → Nat} {cI cZ : ClassId} {σ : Sg} {H : Heap} {i : Nat} {v : Int32} (h : va_P D classes ((W_Fleet ad cI cZ σ).set 4 (ad 4, .inl (cI, 6, .inl (upd (σ 4) i v)))) H) : va_P D classes (W_Fleet ad cI cZ (sto σ 4 i v)) H := h
theorem up_Fleet_5 {D : va_G} {ad : Nat → Nat} {cI cZ : ClassId} {σ : Sg} {H : Heap} {i : Nat} {v : Int32} (h : va_P D classes ((W_Fleet ad cI cZ σ).set 5 (ad 5, .inl (cI, 6, .inl (upd (σ 5) i v)))) H) : va_P D classes (W_Fleet ad cI cZ (sto σ 5 i v)) H := h
theorem up_Fleet_6 {D : va_G} {ad : Nat → Nat} {cI cZ : ClassId} {σ : Sg} {H : Heap} {i : Nat} {v : Int32} (h : va_P D classes ((W_Fleet ad cI cZ σ).set 6 (ad 6, .inl (cI, 6, .inl (upd (σ 6) i v)))) H) : va_P D classes (W_Fleet ad cI cZ (sto σ 6 i v)) H := h
theorem up_Fleet_7 {D : va_G} {ad : Nat → Nat} {cI cZ : ClassId} {σ : Sg} {H : Heap} {i : Nat} {v : Int32} (h : va_P D classes ((W_Fleet ad cI cZ σ).set 7 (ad 7, .inl (cI, 6, .inl (upd (σ 7) i v)))) H) : va_P D classes (W_Fleet ad cI cZ (sto σ 7 i v)) H := h
def q_Fleet_size (σ : Sg) (Q : (Int32 → Prop)) : Prop :=
  Q (σ 0 7)
set_option maxHeartbeats 4000000 in
set_option maxRecDepth 100000 in
theorem t_Fleet_size (l : Launch) (D : va_G) (cI cZ : ClassId) (ad : Nat → Nat) (σ : Sg) (Q : (Int32 → Prop)) (h : q_Fleet_size σ Q) : Met l y_Fleet_size (.code y_Fleet_size prog_3_method_2_code 1 (some .int) :: TG) { frames := 0, cells := 0, slots := 0, locals := 0 } (va_Pc [.ref (ad 0)] (roB D (tysA cI cZ) (W_Fleet ad cI cZ σ))) (vp_Si Q) 0 0 (fun _ => False) := by
  refine Met.ofW (cc := prog_3_method_2_code) (maxL := 1) (ret := (some .int)) (by decide) rfl ?_
  intro p e s m args below meth c s₁ B hml hv
  obtain ⟨rfl, hP, hK⟩ := hv
  have hx := B.exec
  have hb := B.bytes
  have hr := B.returns
  have hts : ∀ w ∈ TG, w.before [.ref (ad 0)].toArray s = true := fun w hw => atoms_spec (ws := .code y_Fleet_size prog_3_method_2_code 1 (some .int) :: TG) B.pre w (List.mem_cons_of_mem _ hw)
  have hown : s.vm.findClass "CarrierPaths$Fleet" = some m.cls := findClass_of_methodNamed B.named
  have hlocks := B.notSynchronized
  have hl := lv_entry ([.ref (ad 0)]) (n := 1) (Nat.le_of_ble_eq_true rfl)
  rw [lg_entry_eq]
  generalize (lg_sl ([.ref (ad 0)]) ++ List.replicate (1 - (lg_sl ([.ref (ad 0)])).length) Slot.unset).toArray = ls at hl ⊢
  have hl : lv_has ls 1 [(0, .ref (ad 0))] := hl
  unfold q_Fleet_size at h
  refine lv_aload_n hx hb d_Fleet_size_0 rfl (lv_at hl 0 rfl) ?_
  refine va_get (D := D) (ci := 1) (v := .int (σ 0 7)) (C := "CarrierPaths$Fleet") (T := F_Fleet) (N := 8) hx hb hts in_Fleet hown hK hP 0 rfl rfl 7 (by decide) (hts _ kw107) (fun _ h9 => h9) rfl d_Fleet_size_1 ?_
  exact W.iret (v := (σ 0 7)) hx hb hr (fun t ht hW => ⟨(σ 0 7), rfl, h, ht⟩) (fun q hq => by cases hq) d_Fleet_size_4
def q_Fleet_has (v1 : Int32) (σ : Sg) (Q : (Int32 → Prop)) : Prop :=
  ((v1 < 0 → Q 0) ∧ (¬ v1 < 0 → (((σ 0 7) ≤ v1 → Q 0) ∧ (¬ (σ 0 7) ≤ v1 → Q 1))))
set_option maxHeartbeats 4000000 in
set_option maxRecDepth 100000 in
theorem t_Fleet_has (l : Launch) (D : va_G) (cI cZ : ClassId) (ad : Nat → Nat) (v1 : Int32) (σ : Sg) (Q : (Int32 → Prop)) (h : q_Fleet_has v1 σ Q) : Met l y_Fleet_has (.code y_Fleet_has prog_3_method_3_code 2 (some .boolean) :: TG) { frames := 0, cells := 0, slots := 0, locals := 0 } (va_Pc [.ref (ad 0), .int v1] (roB D (tysA cI cZ) (W_Fleet ad cI cZ σ))) (vp_Si Q) 0 0 (fun _ => False) := by
  refine Met.ofW (cc := prog_3_method_3_code) (maxL := 2) (ret := (some .boolean)) (by decide) rfl ?_
  intro p e s m args below meth c s₁ B hml hv
  obtain ⟨rfl, hP, hK⟩ := hv
  have hx := B.exec
  have hb := B.bytes
  have hr := B.returns
  have hts : ∀ w ∈ TG, w.before [.ref (ad 0), .int v1].toArray s = true := fun w hw => atoms_spec (ws := .code y_Fleet_has prog_3_method_3_code 2 (some .boolean) :: TG) B.pre w (List.mem_cons_of_mem _ hw)
  have hown : s.vm.findClass "CarrierPaths$Fleet" = some m.cls := findClass_of_methodNamed B.named
  have hlocks := B.notSynchronized
  have hl := lv_entry ([.ref (ad 0), .int v1]) (n := 2) (Nat.le_of_ble_eq_true rfl)
  rw [lg_entry_eq]
  generalize (lg_sl ([.ref (ad 0), .int v1]) ++ List.replicate (2 - (lg_sl ([.ref (ad 0), .int v1])).length) Slot.unset).toArray = ls at hl ⊢
  have hl : lv_has ls 2 [(0, .ref (ad 0)), (1, .int v1)] := hl
  unfold q_Fleet_has at h
  refine lv_iload_n hx hb d_Fleet_has_0 rfl (lv_at hl 1 rfl) ?_
  refine lv_if_lt (tgt := 16) hx hb d_Fleet_has_1 (by decide) (fun hc => ?_) (fun hc => ?_)
  · have h := h.1 hc
    refine lv_iconst (v := 0) hx hb d_Fleet_has_16 (by decide) ?_
    exact W.zret (v := 0) hx hb hr (by decide) (fun t ht hW => ⟨0, rfl, h, ht⟩) (fun q hq => by cases hq) d_Fleet_has_17
  · have h := h.2 hc
    refine lv_iload_n hx hb d_Fleet_has_4 rfl (lv_at hl 1 rfl) ?_
    refine lv_aload_n hx hb d_Fleet_has_5 rfl (lv_at hl 0 rfl) ?_
    refine va_get (D := D) (ci := 1) (v := .int (σ 0 7)) (C := "CarrierPaths$Fleet") (T := F_Fleet) (N := 8) hx hb hts in_Fleet hown hK hP 0 rfl rfl 7 (by decide) (hts _ kw107) (fun _ h9 => h9) rfl d_Fleet_has_6 ?_
    refine lv_icmp_ge (tgt := 16) hx hb d_Fleet_has_9 (by decide) (fun hc => ?_) (fun hc => ?_)
    · have h := h.1 hc
      refine lv_iconst (v := 0) hx hb d_Fleet_has_16 (by decide) ?_
      exact W.zret (v := 0) hx hb hr (by decide) (fun t ht hW => ⟨0, rfl, h, ht⟩) (fun q hq => by cases hq) d_Fleet_has_17
    · have h := h.2 hc
      refine lv_iconst (v := 1) hx hb d_Fleet_has_12 (by decide) ?_
      refine lv_goto (tgt := 17) hx hb d_Fleet_has_13 (by decide) ?_
      exact W.zret (v := 1) hx hb hr (by decide) (fun t ht hW => ⟨1, rfl, h, ht⟩) (fun q hq => by cases hq) d_Fleet_has_17
def q_Fleet_add (v1 v2 : Int32) (σ : Sg) (Q : (Int32 → Sg → Prop)) : Prop :=
  (vp_in (σ 0 7) 6 ∧ (vp_in (σ 0 7) 6 ∧ (vp_in (σ 0 7) 6 ∧ (vp_in (σ 0 7) 6 ∧ (vp_in (σ 0 7) 6 ∧ Q (σ 0 7) (sto (sto (sto (sto (sto (sto σ 1 (σ 0 7).toNatClampNeg v1) 2 (σ 0 7).toNatClampNeg (-1)) 3 (σ 0 7).toNatClampNeg (-1)) 4 (σ 0 7).toNatClampNeg (-1)) 5 (σ 0 7).toNatClampNeg v2) 0 7 (((sto (sto (sto (sto (sto σ 1 (σ 0 7).toNatClampNeg v1) 2 (σ 0 7).toNatClampNeg (-1)) 3 (σ 0 7).toNatClampNeg (-1)) 4 (σ 0 7).toNatClampNeg (-1)) 5 (σ 0 7).toNatClampNeg v2) 0 7) + 1)))))))
set_option maxHeartbeats 4000000 in
set_option maxRecDepth 100000 in
theorem t_Fleet_add (l : Launch) (D : va_G) (cI cZ : ClassId) (ad : Nat → Nat) (inj : Inj ad 8) (v1 v2 : Int32) (σ : Sg) (Q : (Int32 → Sg → Prop)) (h : q_Fleet_add v1 v2 σ Q) : Met l y_Fleet_add (.code y_Fleet_add prog_3_method_4_code 4 (some .int) :: TG) { frames := 0, cells := 0, slots := 0, locals := 0 } (va_Pc [.ref (ad 0), .int v1, .int v2] (roB D (tysA cI cZ) (W_Fleet ad cI cZ σ))) (va_Qi Q (fun u t => va_P D classes (W_Fleet ad cI cZ u) t.heap) (inA ad 8)) 0 0 (inA ad 8) := by
  refine Met.ofW (cc := prog_3_method_4_code) (maxL := 4) (ret := (some .int)) (by decide) rfl ?_
  intro p e s m args below meth c s₁ B hml hv
  obtain ⟨rfl, hP, hK⟩ := hv
  have hx := B.exec
  have hb := B.bytes
  have hr := B.returns
  have hts : ∀ w ∈ TG, w.before [.ref (ad 0), .int v1, .int v2].toArray s = true := fun w hw => atoms_spec (ws := .code y_Fleet_add prog_3_method_4_code 4 (some .int) :: TG) B.pre w (List.mem_cons_of_mem _ hw)
  have hown : s.vm.findClass "CarrierPaths$Fleet" = some m.cls := findClass_of_methodNamed B.named
  have hlocks := B.notSynchronized
  have hS : va_S (inA ad 8) s.heap s.heap [] := va_S.rf
  have hl := lv_entry ([.ref (ad 0), .int v1, .int v2]) (n := 4) (Nat.le_of_ble_eq_true rfl)
  rw [lg_entry_eq]
  generalize (lg_sl ([.ref (ad 0), .int v1, .int v2]) ++ List.replicate (4 - (lg_sl ([.ref (ad 0), .int v1, .int v2])).length) Slot.unset).toArray = ls at hl ⊢
  have hl : lv_has ls 4 [(0, .ref (ad 0)), (1, .int v1), (2, .int v2)] := hl
  unfold q_Fleet_add at h
  refine lv_aload_n hx hb d_Fleet_add_0 rfl (lv_at hl 0 rfl) ?_
  refine va_get (D := D) (ci := 1) (v := .int (σ 0 7)) (C := "CarrierPaths$Fleet") (T := F_Fleet) (N := 8) hx hb hts in_Fleet hown hK hP 0 rfl rfl 7 (by decide) (hts _ kw107) (fun _ h9 => h9) rfl d_Fleet_add_1 ?_
  refine lv_istore_n (lv' := [(3, .int (σ 0 7)), (0, .ref (ad 0)), (1, .int v1), (2, .int v2)]) hx hb d_Fleet_add_4 rfl hl (by decide) rfl (fun ls hl => ?_)
  refine lv_aload_n hx hb d_Fleet_add_5 rfl (lv_at hl 1 rfl) ?_
  refine va_get (D := D) (ci := 1) (v := .ref (ad 1)) (C := "CarrierPaths$Fleet") (T := F_Fleet) (N := 8) hx hb hts in_Fleet hown hK hP 0 rfl rfl 0 (by decide) (hts _ kw100) (fun _ h9 => h9) rfl d_Fleet_add_6 ?_
  refine lv_iload_n hx hb d_Fleet_add_9 rfl (lv_at hl 0 rfl) ?_
  refine lv_iload_n hx hb d_Fleet_add_10 rfl (lv_at hl 2 rfl) ?_
  obtain ⟨hi, h⟩ := h
  refine va_iast hx hb hK hP (D_Fleet inj) hS 1 0 rfl rfl hi d_Fleet_add_11 (fun H locs hP _ hS => ?_)
  have hP := up_Fleet_1 hP
  refine lv_aload_n hx hb d_Fleet_add_12 rfl (lv_at hl 1 rfl) ?_
  refine va_get (D := D) (ci := 1) (v := .ref (ad 2)) (C := "CarrierPaths$Fleet") (T := F_Fleet) (N := 8) hx hb hts in_Fleet hown hK hP 0 rfl rfl 1 (by decide) (hts _ kw101) (fun _ h9 => h9) rfl d_Fleet_add_13 ?_
  refine lv_iload_n hx hb d_Fleet_add_16 rfl (lv_at hl 0 rfl) ?_
  refine lv_iconst (v := (-1)) hx hb d_Fleet_add_17 (by decide) ?_
  obtain ⟨hi, h⟩ := h
  refine va_iast hx hb hK hP (D_Fleet inj) hS 2 0 rfl rfl hi d_Fleet_add_18 (fun H locs hP _ hS => ?_)
  have hP := up_Fleet_2 hP
  refine lv_aload_n hx hb d_Fleet_add_19 rfl (lv_at hl 1 rfl) ?_
  refine va_get (D := D) (ci := 1) (v := .ref (ad 3)) (C := "CarrierPaths$Fleet") (T := F_Fleet) (N := 8) hx hb hts in_Fleet hown hK hP 0 rfl rfl 2 (by decide) (hts _ kw102) (fun _ h9 => h9) rfl d_Fleet_add_20 ?_
  refine lv_iload_n hx hb d_Fleet_add_23 rfl (lv_at hl 0 rfl) ?_
  refine lv_iconst (v := (-1)) hx hb d_Fleet_add_24 (by decide) ?_
  obtain ⟨hi, h⟩ := h
  refine va_iast hx hb hK hP (D_Fleet inj) hS 3 0 rfl rfl hi d_Fleet_add_25 (fun H locs hP _ hS => ?_)
  have hP := up_Fleet_3 hP
  refine lv_aload_n hx hb d_Fleet_add_26 rfl (lv_at hl 1 rfl) ?_
  refine va_get (D := D) (ci := 1) (v := .ref (ad 4)) (C := "CarrierPaths$Fleet") (T := F_Fleet) (N := 8) hx hb hts in_Fleet hown hK hP 0 rfl rfl 3 (by decide) (hts _ kw103) (fun _ h9 => h9) rfl d_Fleet_add_27 ?_
  refine lv_iload_n hx hb d_Fleet_add_30 rfl (lv_at hl 0 rfl) ?_
  refine lv_iconst (v := (-1)) hx hb d_Fleet_add_31 (by decide) ?_
  obtain ⟨hi, h⟩ := h
  refine va_iast hx hb hK hP (D_Fleet inj) hS 4 0 rfl rfl hi d_Fleet_add_32 (fun H locs hP _ hS => ?_)
  have hP := up_Fleet_4 hP
  refine lv_aload_n hx hb d_Fleet_add_33 rfl (lv_at hl 1 rfl) ?_
  refine va_get (D := D) (ci := 1) (v := .ref (ad 5)) (C := "CarrierPaths$Fleet") (T := F_Fleet) (N := 8) hx hb hts in_Fleet hown hK hP 0 rfl rfl 4 (by decide) (hts _ kw104) (fun _ h9 => h9) rfl d_Fleet_add_34 ?_
  refine lv_iload_n hx hb d_Fleet_add_37 rfl (lv_at hl 0 rfl) ?_
  refine lv_iload_n hx hb d_Fleet_add_38 rfl (lv_at hl 3 rfl) ?_
  obtain ⟨hi, h⟩ := h
  refine va_iast hx hb hK hP (D_Fleet inj) hS 5 0 rfl rfl hi d_Fleet_add_39 (fun H locs hP _ hS => ?_)
  have hP := up_Fleet_5 hP
  refine lv_aload_n hx hb d_Fleet_add_40 rfl (lv_at hl 1 rfl) ?_
  refine lv_dup hx hb d_Fleet_add_41 rfl ?_
  refine va_get (D := D) (ci := 1) (v := .int ((sto (sto (sto (sto (sto σ 1 (σ 0 7).toNatClampNeg v1) 2 (σ 0 7).toNatClampNeg (-1)) 3 (σ 0 7).toNatClampNeg (-1)) 4 (σ 0 7).toNatClampNeg (-1)) 5 (σ 0 7).toNatClampNeg v2) 0 7)) (C := "CarrierPaths$Fleet") (T := F_Fleet) (N := 8) hx hb hts in_Fleet hown hK hP 0 rfl rfl 7 (by decide) (hts _ kw107) (fun _ h9 => h9) rfl d_Fleet_add_42 ?_
  refine lv_iconst (v := 1) hx hb d_Fleet_add_45 (by decide) ?_
  refine lv_iadd hx hb d_Fleet_add_46 ?_
  refine va_put (D := D) (ci := 1) (v := .int (((sto (sto (sto (sto (sto σ 1 (σ 0 7).toNatClampNeg v1) 2 (σ 0 7).toNatClampNeg (-1)) 3 (σ 0 7).toNatClampNeg (-1)) 4 (σ 0 7).toNatClampNeg (-1)) 5 (σ 0 7).toNatClampNeg v2) 0 7) + 1)) (ty := .int) (C := "CarrierPaths$Fleet") (T := F_Fleet) (N := 8) hx hb hts in_Fleet ty_Fleet ty_Fleet_ok nm_Fleet hown hK hP (D_Fleet inj) hS 0 rfl rfl 7 (by decide) (hts _ kw107) (fun _ h9 => h9) rfl (by decide +kernel) rfl rfl (Nat.le_of_ble_eq_true rfl) d_Fleet_add_47 (fun H locs hP _ hS => ?_)
  have hP := up_Fleet_f7 hP
  refine lv_iload_n hx hb d_Fleet_add_50 rfl (lv_at hl 0 rfl) ?_
  exact W.iret (v := (σ 0 7)) hx hb hr (fun t ht hW => ⟨⟨(σ 0 7), (sto (sto (sto (sto (sto (sto σ 1 (σ 0 7).toNatClampNeg v1) 2 (σ 0 7).toNatClampNeg (-1)) 3 (σ 0 7).toNatClampNeg (-1)) 4 (σ 0 7).toNatClampNeg (-1)) 5 (σ 0 7).toNatClampNeg v2) 0 7 (((sto (sto (sto (sto (sto σ 1 (σ 0 7).toNatClampNeg v1) 2 (σ 0 7).toNatClampNeg (-1)) 3 (σ 0 7).toNatClampNeg (-1)) 4 (σ 0 7).toNatClampNeg (-1)) 5 (σ 0 7).toNatClampNeg v2) 0 7) + 1)), rfl, h, hp_back ht hP⟩, hS.F ht⟩) hS.2.2 d_Fleet_add_51
def q_Fleet_pointOf (v1 : Int32) (σ : Sg) (Q : (Int32 → Prop)) : Prop :=
  (vp_in v1 6 ∧ Q (σ 1 v1.toNatClampNeg))
set_option maxHeartbeats 4000000 in
set_option maxRecDepth 100000 in
theorem t_Fleet_pointOf (l : Launch) (D : va_G) (cI cZ : ClassId) (ad : Nat → Nat) (v1 : Int32) (σ : Sg) (Q : (Int32 → Prop)) (h : q_Fleet_pointOf v1 σ Q) : Met l y_Fleet_pointOf (.code y_Fleet_pointOf prog_3_method_5_code 2 (some .int) :: TG) { frames := 0, cells := 0, slots := 0, locals := 0 } (va_Pc [.ref (ad 0), .int v1] (roB D (tysA cI cZ) (W_Fleet ad cI cZ σ))) (vp_Si Q) 0 0 (fun _ => False) := by
  refine Met.ofW (cc := prog_3_method_5_code) (maxL := 2) (ret := (some .int)) (by decide) rfl ?_
  intro p e s m args below meth c s₁ B hml hv
  obtain ⟨rfl, hP, hK⟩ := hv
  have hx := B.exec
  have hb := B.bytes
  have hr := B.returns
  have hts : ∀ w ∈ TG, w.before [.ref (ad 0), .int v1].toArray s = true := fun w hw => atoms_spec (ws := .code y_Fleet_pointOf prog_3_method_5_code 2 (some .int) :: TG) B.pre w (List.mem_cons_of_mem _ hw)
  have hown : s.vm.findClass "CarrierPaths$Fleet" = some m.cls := findClass_of_methodNamed B.named
  have hlocks := B.notSynchronized
  have hl := lv_entry ([.ref (ad 0), .int v1]) (n := 2) (Nat.le_of_ble_eq_true rfl)
  rw [lg_entry_eq]
  generalize (lg_sl ([.ref (ad 0), .int v1]) ++ List.replicate (2 - (lg_sl ([.ref (ad 0), .int v1])).length) Slot.unset).toArray = ls at hl ⊢
  have hl : lv_has ls 2 [(0, .ref (ad 0)), (1, .int v1)] := hl
  unfold q_Fleet_pointOf at h
  refine lv_aload_n hx hb d_Fleet_pointOf_0 rfl (lv_at hl 0 rfl) ?_
  refine va_get (D := D) (ci := 1) (v := .ref (ad 1)) (C := "CarrierPaths$Fleet") (T := F_Fleet) (N := 8) hx hb hts in_Fleet hown hK hP 0 rfl rfl 0 (by decide) (hts _ kw100) (fun _ h9 => h9) rfl d_Fleet_pointOf_1 ?_
  refine lv_iload_n hx hb d_Fleet_pointOf_4 rfl (lv_at hl 1 rfl) ?_
  obtain ⟨hi, h⟩ := h
  refine va_iald hx hb hK hP 1 0 rfl rfl hi d_Fleet_pointOf_5 ?_
  exact W.iret (v := (σ 1 v1.toNatClampNeg)) hx hb hr (fun t ht hW => ⟨(σ 1 v1.toNatClampNeg), rfl, h, ht⟩) (fun q hq => by cases hq) d_Fleet_pointOf_6
def q_Fleet_pieceOf (v1 : Int32) (σ : Sg) (Q : (Int32 → Prop)) : Prop :=
  (vp_in v1 6 ∧ Q (σ 2 v1.toNatClampNeg))
set_option maxHeartbeats 4000000 in
set_option maxRecDepth 100000 in
theorem t_Fleet_pieceOf (l : Launch) (D : va_G) (cI cZ : ClassId) (ad : Nat → Nat) (v1 : Int32) (σ : Sg) (Q : (Int32 → Prop)) (h : q_Fleet_pieceOf v1 σ Q) : Met l y_Fleet_pieceOf (.code y_Fleet_pieceOf prog_3_method_6_code 2 (some .int) :: TG) { frames := 0, cells := 0, slots := 0, locals := 0 } (va_Pc [.ref (ad 0), .int v1] (roB D (tysA cI cZ) (W_Fleet ad cI cZ σ))) (vp_Si Q) 0 0 (fun _ => False) := by
  refine Met.ofW (cc := prog_3_method_6_code) (maxL := 2) (ret := (some .int)) (by decide) rfl ?_
  intro p e s m args below meth c s₁ B hml hv
  obtain ⟨rfl, hP, hK⟩ := hv
  have hx := B.exec
  have hb := B.bytes
  have hr := B.returns
  have hts : ∀ w ∈ TG, w.before [.ref (ad 0), .int v1].toArray s = true := fun w hw => atoms_spec (ws := .code y_Fleet_pieceOf prog_3_method_6_code 2 (some .int) :: TG) B.pre w (List.mem_cons_of_mem _ hw)
  have hown : s.vm.findClass "CarrierPaths$Fleet" = some m.cls := findClass_of_methodNamed B.named
  have hlocks := B.notSynchronized
  have hl := lv_entry ([.ref (ad 0), .int v1]) (n := 2) (Nat.le_of_ble_eq_true rfl)
  rw [lg_entry_eq]
  generalize (lg_sl ([.ref (ad 0), .int v1]) ++ List.replicate (2 - (lg_sl ([.ref (ad 0), .int v1])).length) Slot.unset).toArray = ls at hl ⊢
  have hl : lv_has ls 2 [(0, .ref (ad 0)), (1, .int v1)] := hl
  unfold q_Fleet_pieceOf at h
  refine lv_aload_n hx hb d_Fleet_pieceOf_0 rfl (lv_at hl 0 rfl) ?_
  refine va_get (D := D) (ci := 1) (v := .ref (ad 2)) (C := "CarrierPaths$Fleet") (T := F_Fleet) (N := 8) hx hb hts in_Fleet hown hK hP 0 rfl rfl 1 (by decide) (hts _ kw101) (fun _ h9 => h9) rfl d_Fleet_pieceOf_1 ?_
  refine lv_iload_n hx hb d_Fleet_pieceOf_4 rfl (lv_at hl 1 rfl) ?_
  obtain ⟨hi, h⟩ := h
  refine va_iald hx hb hK hP 2 0 rfl rfl hi d_Fleet_pieceOf_5 ?_
  exact W.iret (v := (σ 2 v1.toNatClampNeg)) hx hb hr (fun t ht hW => ⟨(σ 2 v1.toNatClampNeg), rfl, h, ht⟩) (fun q hq => by cases hq) d_Fleet_pieceOf_6
def q_Fleet_arrivalOf (v1 : Int32) (σ : Sg) (Q : (Int32 → Prop)) : Prop :=
  (vp_in v1 6 ∧ Q (σ 3 v1.toNatClampNeg))
set_option maxHeartbeats 4000000 in
set_option maxRecDepth 100000 in
theorem t_Fleet_arrivalOf (l : Launch) (D : va_G) (cI cZ : ClassId) (ad : Nat → Nat) (v1 : Int32) (σ : Sg) (Q : (Int32 → Prop)) (h : q_Fleet_arrivalOf v1 σ Q) : Met l y_Fleet_arrivalOf (.code y_Fleet_arrivalOf prog_3_method_7_code 2 (some .int) :: TG) { frames := 0, cells := 0, slots := 0, locals := 0 } (va_Pc [.ref (ad 0), .int v1] (roB D (tysA cI cZ) (W_Fleet ad cI cZ σ))) (vp_Si Q) 0 0 (fun _ => False) := by
  refine Met.ofW (cc := prog_3_method_7_code) (maxL := 2) (ret := (some .int)) (by decide) rfl ?_
  intro p e s m args below meth c s₁ B hml hv
  obtain ⟨rfl, hP, hK⟩ := hv
  have hx := B.exec
  have hb := B.bytes
  have hr := B.returns
  have hts : ∀ w ∈ TG, w.before [.ref (ad 0), .int v1].toArray s = true := fun w hw => atoms_spec (ws := .code y_Fleet_arrivalOf prog_3_method_7_code 2 (some .int) :: TG) B.pre w (List.mem_cons_of_mem _ hw)
  have hown : s.vm.findClass "CarrierPaths$Fleet" = some m.cls := findClass_of_methodNamed B.named
  have hlocks := B.notSynchronized
  have hl := lv_entry ([.ref (ad 0), .int v1]) (n := 2) (Nat.le_of_ble_eq_true rfl)
  rw [lg_entry_eq]
  generalize (lg_sl ([.ref (ad 0), .int v1]) ++ List.replicate (2 - (lg_sl ([.ref (ad 0), .int v1])).length) Slot.unset).toArray = ls at hl ⊢
  have hl : lv_has ls 2 [(0, .ref (ad 0)), (1, .int v1)] := hl
  unfold q_Fleet_arrivalOf at h
  refine lv_aload_n hx hb d_Fleet_arrivalOf_0 rfl (lv_at hl 0 rfl) ?_
  refine va_get (D := D) (ci := 1) (v := .ref (ad 3)) (C := "CarrierPaths$Fleet") (T := F_Fleet) (N := 8) hx hb hts in_Fleet hown hK hP 0 rfl rfl 2 (by decide) (hts _ kw102) (fun _ h9 => h9) rfl d_Fleet_arrivalOf_1 ?_
  refine lv_iload_n hx hb d_Fleet_arrivalOf_4 rfl (lv_at hl 1 rfl) ?_
  obtain ⟨hi, h⟩ := h
  refine va_iald hx hb hK hP 3 0 rfl rfl hi d_Fleet_arrivalOf_5 ?_
  exact W.iret (v := (σ 3 v1.toNatClampNeg)) hx hb hr (fun t ht hW => ⟨(σ 3 v1.toNatClampNeg), rfl, h, ht⟩) (fun q hq => by cases hq) d_Fleet_arrivalOf_6
def q_Fleet_jobOf (v1 : Int32) (σ : Sg) (Q : (Int32 → Prop)) : Prop :=
  (vp_in v1 6 ∧ Q (σ 4 v1.toNatClampNeg))
set_option maxHeartbeats 4000000 in
set_option maxRecDepth 100000 in
theorem t_Fleet_jobOf (l : Launch) (D : va_G) (cI cZ : ClassId) (ad : Nat → Nat) (v1 : Int32) (σ : Sg) (Q : (Int32 → Prop)) (h : q_Fleet_jobOf v1 σ Q) : Met l y_Fleet_jobOf (.code y_Fleet_jobOf prog_3_method_8_code 2 (some .int) :: TG) { frames := 0, cells := 0, slots := 0, locals := 0 } (va_Pc [.ref (ad 0), .int v1] (roB D (tysA cI cZ) (W_Fleet ad cI cZ σ))) (vp_Si Q) 0 0 (fun _ => False) := by
  refine Met.ofW (cc := prog_3_method_8_code) (maxL := 2) (ret := (some .int)) (by decide) rfl ?_
  intro p e s m args below meth c s₁ B hml hv
  obtain ⟨rfl, hP, hK⟩ := hv
  have hx := B.exec
  have hb := B.bytes
  have hr := B.returns
  have hts : ∀ w ∈ TG, w.before [.ref (ad 0), .int v1].toArray s = true := fun w hw => atoms_spec (ws := .code y_Fleet_jobOf prog_3_method_8_code 2 (some .int) :: TG) B.pre w (List.mem_cons_of_mem _ hw)
  have hown : s.vm.findClass "CarrierPaths$Fleet" = some m.cls := findClass_of_methodNamed B.named
  have hlocks := B.notSynchronized
  have hl := lv_entry ([.ref (ad 0), .int v1]) (n := 2) (Nat.le_of_ble_eq_true rfl)
  rw [lg_entry_eq]
  generalize (lg_sl ([.ref (ad 0), .int v1]) ++ List.replicate (2 - (lg_sl ([.ref (ad 0), .int v1])).length) Slot.unset).toArray = ls at hl ⊢
  have hl : lv_has ls 2 [(0, .ref (ad 0)), (1, .int v1)] := hl
  unfold q_Fleet_jobOf at h
  refine lv_aload_n hx hb d_Fleet_jobOf_0 rfl (lv_at hl 0 rfl) ?_
  refine va_get (D := D) (ci := 1) (v := .ref (ad 4)) (C := "CarrierPaths$Fleet") (T := F_Fleet) (N := 8) hx hb hts in_Fleet hown hK hP 0 rfl rfl 3 (by decide) (hts _ kw103) (fun _ h9 => h9) rfl d_Fleet_jobOf_1 ?_
  refine lv_iload_n hx hb d_Fleet_jobOf_4 rfl (lv_at hl 1 rfl) ?_
  obtain ⟨hi, h⟩ := h
  refine va_iald hx hb hK hP 4 0 rfl rfl hi d_Fleet_jobOf_5 ?_
  exact W.iret (v := (σ 4 v1.toNatClampNeg)) hx hb hr (fun t ht hW => ⟨(σ 4 v1.toNatClampNeg), rfl, h, ht⟩) (fun q hq => by cases hq) d_Fleet_jobOf_6
def q_Fleet_chargeOf (v1 : Int32) (σ : Sg) (Q : (Int32 → Prop)) : Prop :=
  (vp_in v1 6 ∧ Q (σ 5 v1.toNatClampNeg))
set_option maxHeartbeats 4000000 in
set_option maxRecDepth 100000 in
theorem t_Fleet_chargeOf (l : Launch) (D : va_G) (cI cZ : ClassId) (ad : Nat → Nat) (v1 : Int32) (σ : Sg) (Q : (Int32 → Prop)) (h : q_Fleet_chargeOf v1 σ Q) : Met l y_Fleet_chargeOf (.code y_Fleet_chargeOf prog_3_method_9_code 2 (some .int) :: TG) { frames := 0, cells := 0, slots := 0, locals := 0 } (va_Pc [.ref (ad 0), .int v1] (roB D (tysA cI cZ) (W_Fleet ad cI cZ σ))) (vp_Si Q) 0 0 (fun _ => False) := by
  refine Met.ofW (cc := prog_3_method_9_code) (maxL := 2) (ret := (some .int)) (by decide) rfl ?_
  intro p e s m args below meth c s₁ B hml hv
  obtain ⟨rfl, hP, hK⟩ := hv
  have hx := B.exec
  have hb := B.bytes
  have hr := B.returns
  have hts : ∀ w ∈ TG, w.before [.ref (ad 0), .int v1].toArray s = true := fun w hw => atoms_spec (ws := .code y_Fleet_chargeOf prog_3_method_9_code 2 (some .int) :: TG) B.pre w (List.mem_cons_of_mem _ hw)
  have hown : s.vm.findClass "CarrierPaths$Fleet" = some m.cls := findClass_of_methodNamed B.named
  have hlocks := B.notSynchronized
  have hl := lv_entry ([.ref (ad 0), .int v1]) (n := 2) (Nat.le_of_ble_eq_true rfl)
  rw [lg_entry_eq]
  generalize (lg_sl ([.ref (ad 0), .int v1]) ++ List.replicate (2 - (lg_sl ([.ref (ad 0), .int v1])).length) Slot.unset).toArray = ls at hl ⊢
  have hl : lv_has ls 2 [(0, .ref (ad 0)), (1, .int v1)] := hl
  unfold q_Fleet_chargeOf at h
  refine lv_aload_n hx hb d_Fleet_chargeOf_0 rfl (lv_at hl 0 rfl) ?_
  refine va_get (D := D) (ci := 1) (v := .ref (ad 5)) (C := "CarrierPaths$Fleet") (T := F_Fleet) (N := 8) hx hb hts in_Fleet hown hK hP 0 rfl rfl 4 (by decide) (hts _ kw104) (fun _ h9 => h9) rfl d_Fleet_chargeOf_1 ?_
  refine lv_iload_n hx hb d_Fleet_chargeOf_4 rfl (lv_at hl 1 rfl) ?_
  obtain ⟨hi, h⟩ := h
  refine va_iald hx hb hK hP 5 0 rfl rfl hi d_Fleet_chargeOf_5 ?_
  exact W.iret (v := (σ 5 v1.toNatClampNeg)) hx hb hr (fun t ht hW => ⟨(σ 5 v1.toNatClampNeg), rfl, h, ht⟩) (fun q hq => by cases hq) d_Fleet_chargeOf_6
def q_Fleet_endedBy (v1 : Int32) (σ : Sg) (Q : (Int32 → Prop)) : Prop :=
  (vp_in v1 6 ∧ Q (σ 6 v1.toNatClampNeg))
set_option maxHeartbeats 4000000 in
set_option maxRecDepth 100000 in
theorem t_Fleet_endedBy (l : Launch) (D : va_G) (cI cZ : ClassId) (ad : Nat → Nat) (v1 : Int32) (σ : Sg) (Q : (Int32 → Prop)) (h : q_Fleet_endedBy v1 σ Q) : Met l y_Fleet_endedBy (.code y_Fleet_endedBy prog_3_method_10_code 2 (some .int) :: TG) { frames := 0, cells := 0, slots := 0, locals := 0 } (va_Pc [.ref (ad 0), .int v1] (roB D (tysA cI cZ) (W_Fleet ad cI cZ σ))) (vp_Si Q) 0 0 (fun _ => False) := by
  refine Met.ofW (cc := prog_3_method_10_code) (maxL := 2) (ret := (some .int)) (by decide) rfl ?_
  intro p e s m args below meth c s₁ B hml hv
  obtain ⟨rfl, hP, hK⟩ := hv
  have hx := B.exec
  have hb := B.bytes
  have hr := B.returns
  have hts : ∀ w ∈ TG, w.before [.ref (ad 0), .int v1].toArray s = true := fun w hw => atoms_spec (ws := .code y_Fleet_endedBy prog_3_method_10_code 2 (some .int) :: TG) B.pre w (List.mem_cons_of_mem _ hw)
  have hown : s.vm.findClass "CarrierPaths$Fleet" = some m.cls := findClass_of_methodNamed B.named
  have hlocks := B.notSynchronized
  have hl := lv_entry ([.ref (ad 0), .int v1]) (n := 2) (Nat.le_of_ble_eq_true rfl)
  rw [lg_entry_eq]
  generalize (lg_sl ([.ref (ad 0), .int v1]) ++ List.replicate (2 - (lg_sl ([.ref (ad 0), .int v1])).length) Slot.unset).toArray = ls at hl ⊢
  have hl : lv_has ls 2 [(0, .ref (ad 0)), (1, .int v1)] := hl
  unfold q_Fleet_endedBy at h
  refine lv_aload_n hx hb d_Fleet_endedBy_0 rfl (lv_at hl 0 rfl) ?_
  refine va_get (D := D) (ci := 1) (v := .ref (ad 6)) (C := "CarrierPaths$Fleet") (T := F_Fleet) (N := 8) hx hb hts in_Fleet hown hK hP 0 rfl rfl 5 (by decide) (hts _ kw105) (fun _ h9 => h9) rfl d_Fleet_endedBy_1 ?_
  refine lv_iload_n hx hb d_Fleet_endedBy_4 rfl (lv_at hl 1 rfl) ?_
  obtain ⟨hi, h⟩ := h
  refine va_iald hx hb hK hP 6 0 rfl rfl hi d_Fleet_endedBy_5 ?_
  exact W.iret (v := (σ 6 v1.toNatClampNeg)) hx hb hr (fun t ht hW => ⟨(σ 6 v1.toNatClampNeg), rfl, h, ht⟩) (fun q hq => by cases hq) d_Fleet_endedBy_6
def q_Fleet_emptyTimeOf (v1 : Int32) (σ : Sg) (Q : (Int32 → Prop)) : Prop :=
  (vp_in v1 6 ∧ Q (σ 7 v1.toNatClampNeg))
set_option maxHeartbeats 4000000 in
set_option maxRecDepth 100000 in
theorem t_Fleet_emptyTimeOf (l : Launch) (D : va_G) (cI cZ : ClassId) (ad : Nat → Nat) (v1 : Int32) (σ : Sg) (Q : (Int32 → Prop)) (h : q_Fleet_emptyTimeOf v1 σ Q) : Met l y_Fleet_emptyTimeOf (.code y_Fleet_emptyTimeOf prog_3_method_11_code 2 (some .int) :: TG) { frames := 0, cells := 0, slots := 0, locals := 0 } (va_Pc [.ref (ad 0), .int v1] (roB D (tysA cI cZ) (W_Fleet ad cI cZ σ))) (vp_Si Q) 0 0 (fun _ => False) := by
  refine Met.ofW (cc := prog_3_method_11_code) (maxL := 2) (ret := (some .int)) (by decide) rfl ?_
  intro p e s m args below meth c s₁ B hml hv
  obtain ⟨rfl, hP, hK⟩ := hv
  have hx := B.exec
  have hb := B.bytes
  have hr := B.returns
  have hts : ∀ w ∈ TG, w.before [.ref (ad 0), .int v1].toArray s = true := fun w hw => atoms_spec (ws := .code y_Fleet_emptyTimeOf prog_3_method_11_code 2 (some .int) :: TG) B.pre w (List.mem_cons_of_mem _ hw)
  have hown : s.vm.findClass "CarrierPaths$Fleet" = some m.cls := findClass_of_methodNamed B.named
  have hlocks := B.notSynchronized
  have hl := lv_entry ([.ref (ad 0), .int v1]) (n := 2) (Nat.le_of_ble_eq_true rfl)
  rw [lg_entry_eq]
  generalize (lg_sl ([.ref (ad 0), .int v1]) ++ List.replicate (2 - (lg_sl ([.ref (ad 0), .int v1])).length) Slot.unset).toArray = ls at hl ⊢
  have hl : lv_has ls 2 [(0, .ref (ad 0)), (1, .int v1)] := hl
  unfold q_Fleet_emptyTimeOf at h
  refine lv_aload_n hx hb d_Fleet_emptyTimeOf_0 rfl (lv_at hl 0 rfl) ?_
  refine va_get (D := D) (ci := 1) (v := .ref (ad 7)) (C := "CarrierPaths$Fleet") (T := F_Fleet) (N := 8) hx hb hts in_Fleet hown hK hP 0 rfl rfl 6 (by decide) (hts _ kw106) (fun _ h9 => h9) rfl d_Fleet_emptyTimeOf_1 ?_
  refine lv_iload_n hx hb d_Fleet_emptyTimeOf_4 rfl (lv_at hl 1 rfl) ?_
  obtain ⟨hi, h⟩ := h
  refine va_iald hx hb hK hP 7 0 rfl rfl hi d_Fleet_emptyTimeOf_5 ?_
  exact W.iret (v := (σ 7 v1.toNatClampNeg)) hx hb hr (fun t ht hW => ⟨(σ 7 v1.toNatClampNeg), rfl, h, ht⟩) (fun q hq => by cases hq) d_Fleet_emptyTimeOf_6
def q_Fleet_isOnPiece (v1 : Int32) (σ : Sg) (Q : (Int32 → Prop)) : Prop :=
  (vp_in v1 6 ∧ (((σ 2 v1.toNatClampNeg) = (-1) → Q 0) ∧ (¬ (σ 2 v1.toNatClampNeg) = (-1) → Q 1)))
set_option maxHeartbeats 4000000 in
set_option maxRecDepth 100000 in
theorem t_Fleet_isOnPiece (l : Launch) (D : va_G) (cI cZ : ClassId) (ad : Nat → Nat) (v1 : Int32) (σ : Sg) (Q : (Int32 → Prop)) (h : q_Fleet_isOnPiece v1 σ Q) : Met l y_Fleet_isOnPiece (.code y_Fleet_isOnPiece prog_3_method_12_code 2 (some .boolean) :: TG) { frames := 0, cells := 0, slots := 0, locals := 0 } (va_Pc [.ref (ad 0), .int v1] (roB D (tysA cI cZ) (W_Fleet ad cI cZ σ))) (vp_Si Q) 0 0 (fun _ => False) := by
  refine Met.ofW (cc := prog_3_method_12_code) (maxL := 2) (ret := (some .boolean)) (by decide) rfl ?_
  intro p e s m args below meth c s₁ B hml hv
  obtain ⟨rfl, hP, hK⟩ := hv
  have hx := B.exec
  have hb := B.bytes
  have hr := B.returns
  have hts : ∀ w ∈ TG, w.before [.ref (ad 0), .int v1].toArray s = true := fun w hw => atoms_spec (ws := .code y_Fleet_isOnPiece prog_3_method_12_code 2 (some .boolean) :: TG) B.pre w (List.mem_cons_of_mem _ hw)
  have hown : s.vm.findClass "CarrierPaths$Fleet" = some m.cls := findClass_of_methodNamed B.named
  have hlocks := B.notSynchronized
  have hl := lv_entry ([.ref (ad 0), .int v1]) (n := 2) (Nat.le_of_ble_eq_true rfl)
  rw [lg_entry_eq]
  generalize (lg_sl ([.ref (ad 0), .int v1]) ++ List.replicate (2 - (lg_sl ([.ref (ad 0), .int v1])).length) Slot.unset).toArray = ls at hl ⊢
  have hl : lv_has ls 2 [(0, .ref (ad 0)), (1, .int v1)] := hl
  unfold q_Fleet_isOnPiece at h
  refine lv_aload_n hx hb d_Fleet_isOnPiece_0 rfl (lv_at hl 0 rfl) ?_
  refine va_get (D := D) (ci := 1) (v := .ref (ad 2)) (C := "CarrierPaths$Fleet") (T := F_Fleet) (N := 8) hx hb hts in_Fleet hown hK hP 0 rfl rfl 1 (by decide) (hts _ kw101) (fun _ h9 => h9) rfl d_Fleet_isOnPiece_1 ?_
  refine lv_iload_n hx hb d_Fleet_isOnPiece_4 rfl (lv_at hl 1 rfl) ?_
  obtain ⟨hi, h⟩ := h
  refine va_iald hx hb hK hP 2 0 rfl rfl hi d_Fleet_isOnPiece_5 ?_
  refine lv_iconst (v := (-1)) hx hb d_Fleet_isOnPiece_6 (by decide) ?_
  refine lv_icmp_eq (tgt := 14) hx hb d_Fleet_isOnPiece_7 (by decide) (fun hc => ?_) (fun hc => ?_)
  · have h := h.1 hc
    refine lv_iconst (v := 0) hx hb d_Fleet_isOnPiece_14 (by decide) ?_
    exact W.zret (v := 0) hx hb hr (by decide) (fun t ht hW => ⟨0, rfl, h, ht⟩) (fun q hq => by cases hq) d_Fleet_isOnPiece_15
  · have h := h.2 hc
    refine lv_iconst (v := 1) hx hb d_Fleet_isOnPiece_10 (by decide) ?_
    refine lv_goto (tgt := 15) hx hb d_Fleet_isOnPiece_11 (by decide) ?_
    exact W.zret (v := 1) hx hb hr (by decide) (fun t ht hW => ⟨1, rfl, h, ht⟩) (fun q hq => by cases hq) d_Fleet_isOnPiece_15
def q_Fleet_isIdle (v1 : Int32) (σ : Sg) (Q : (Int32 → Prop)) : Prop :=
  (q_Fleet_isOnPiece v1 σ (fun r1 => ((r1 = 0 → (vp_in v1 6 ∧ (((σ 4 v1.toNatClampNeg) = (-1) → Q 1) ∧ (¬ (σ 4 v1.toNatClampNeg) = (-1) → Q 0)))) ∧ (¬ r1 = 0 → Q 0))))
set_option maxHeartbeats 4000000 in
set_option maxRecDepth 100000 in
theorem t_Fleet_isIdle (l : Launch) (D : va_G) (cI cZ : ClassId) (ad : Nat → Nat) (v1 : Int32) (σ : Sg) (Q : (Int32 → Prop)) (h : q_Fleet_isIdle v1 σ Q) : Met l y_Fleet_isIdle (.code y_Fleet_isIdle prog_3_method_13_code 2 (some .boolean) :: TG) { frames := 1, cells := 0, slots := 0, locals := 21 } (va_Pc [.ref (ad 0), .int v1] (roB D (tysA cI cZ) (W_Fleet ad cI cZ σ))) (vp_Si Q) 0 0 (fun _ => False) := by
  refine Met.ofW (cc := prog_3_method_13_code) (maxL := 2) (ret := (some .boolean)) (by decide) rfl ?_
  intro p e s m args below meth c s₁ B hml hv
  obtain ⟨rfl, hP, hK⟩ := hv
  have hx := B.exec
  have hb := B.bytes
  have hr := B.returns
  have hts : ∀ w ∈ TG, w.before [.ref (ad 0), .int v1].toArray s = true := fun w hw => atoms_spec (ws := .code y_Fleet_isIdle prog_3_method_13_code 2 (some .boolean) :: TG) B.pre w (List.mem_cons_of_mem _ hw)
  have hown : s.vm.findClass "CarrierPaths$Fleet" = some m.cls := findClass_of_methodNamed B.named
  have hlocks := B.notSynchronized
  have hl := lv_entry ([.ref (ad 0), .int v1]) (n := 2) (Nat.le_of_ble_eq_true rfl)
  rw [lg_entry_eq]
  generalize (lg_sl ([.ref (ad 0), .int v1]) ++ List.replicate (2 - (lg_sl ([.ref (ad 0), .int v1])).length) Slot.unset).toArray = ls at hl ⊢
  have hl : lv_has ls 2 [(0, .ref (ad 0)), (1, .int v1)] := hl
  unfold q_Fleet_isIdle at h
  refine lv_aload_n hx hb d_Fleet_isIdle_0 rfl (lv_at hl 0 rfl) ?_
  refine lv_iload_n hx hb d_Fleet_isIdle_1 rfl (lv_at hl 1 rfl) ?_
  refine vp_callSi (W.runV (As := [.int v1]) (rest := []) ⟨hx, hb, hml, hown, hts⟩ (t_Fleet_isOnPiece l D cI cZ ad v1 σ _ h) (cwV 1 hts (g_of kw266 kw267 kw268 kw6 kw269) rfl rfl rfl (by decide +kernel) ⟨Nat.le_of_ble_eq_true rfl, Nat.le_of_ble_eq_true rfl⟩) (ro_pre hK hP (va_recv hK hP (ci := 1) (q0 := 0) rfl rfl)) rfl rfl hl.1 rfl (lv_room (Nat.le_of_ble_eq_true rfl)) d_Fleet_isIdle_2 ⟨Nat.le_of_ble_eq_true rfl, Nat.le_of_ble_eq_true rfl⟩) (fun r1 h => ?_)
  refine lv_if_ne (tgt := 22) hx hb d_Fleet_isIdle_5 (by decide) (fun hc => ?_) (fun hc => ?_)
  · have h := h.2 hc
    refine lv_iconst (v := 0) hx hb d_Fleet_isIdle_22 (by decide) ?_
    exact W.zret (v := 0) hx hb hr (by decide) (fun t ht hW => ⟨0, rfl, h, ht⟩) (fun q hq => by cases hq) d_Fleet_isIdle_23
  · have h := h.1 hc
    refine lv_aload_n hx hb d_Fleet_isIdle_8 rfl (lv_at hl 0 rfl) ?_
    refine va_get (D := D) (ci := 1) (v := .ref (ad 4)) (C := "CarrierPaths$Fleet") (T := F_Fleet) (N := 8) hx hb hts in_Fleet hown hK hP 0 rfl rfl 3 (by decide) (hts _ kw103) (fun _ h9 => h9) rfl d_Fleet_isIdle_9 ?_
    refine lv_iload_n hx hb d_Fleet_isIdle_12 rfl (lv_at hl 1 rfl) ?_
    obtain ⟨hi, h⟩ := h
    refine va_iald hx hb hK hP 4 0 rfl rfl hi d_Fleet_isIdle_13 ?_
    refine lv_iconst (v := (-1)) hx hb d_Fleet_isIdle_14 (by decide) ?_
    refine lv_icmp_ne (tgt := 22) hx hb d_Fleet_isIdle_15 (by decide) (fun hc => ?_) (fun hc => ?_)
    · have h := h.2 hc
      refine lv_iconst (v := 0) hx hb d_Fleet_isIdle_22 (by decide) ?_
      exact W.zret (v := 0) hx hb hr (by decide) (fun t ht hW => ⟨0, rfl, h, ht⟩) (fun q hq => by cases hq) d_Fleet_isIdle_23
    · have h := h.1 hc
      refine lv_iconst (v := 1) hx hb d_Fleet_isIdle_18 (by decide) ?_
      refine lv_goto (tgt := 23) hx hb d_Fleet_isIdle_19 (by decide) ?_
      exact W.zret (v := 1) hx hb hr (by decide) (fun t ht hW => ⟨1, rfl, h, ht⟩) (fun q hq => by cases hq) d_Fleet_isIdle_23
def q_Fleet_isTaken_b0 (J : Nat → Int32 → Int32 → Prop) (Q : (Int32 → Prop)) (v1 v2 : Int32) (σ : Sg) : Prop :=
  J 1 v1 0
def q_Fleet_isTaken_b1 (J : Nat → Int32 → Int32 → Prop) (Q : (Int32 → Prop)) (v1 v2 : Int32) (σ : Sg) : Prop :=
  (((σ 0 7) ≤ v2 → Q 0) ∧ (¬ (σ 0 7) ≤ v2 → (vp_in v2 6 ∧ (((σ 2 v2.toNatClampNeg) = v1 → Q 1) ∧ (¬ (σ 2 v2.toNatClampNeg) = v1 → J 1 v1 (v2 + 1))))))
def q_Fleet_isTaken_j (Q : (Int32 → Prop)) (σ : Sg) : Nat → Nat → Int32 → Int32 → Prop
  | 0, _, _, _ => False
  | n + 1, 0, v1, v2 => q_Fleet_isTaken_b0 (q_Fleet_isTaken_j Q σ n) Q v1 v2 σ
  | n + 1, 1, v1, v2 => q_Fleet_isTaken_b1 (q_Fleet_isTaken_j Q σ n) Q v1 v2 σ
  | _ + 1, _ + 2, _, _ => False
def q_Fleet_isTaken (v1 : Int32) (σ : Sg) (Q : (Int32 → Prop)) : Prop := q_Fleet_isTaken_j Q σ 4000 0 v1 0
def lc_Fleet_isTaken (ad : Nat → Nat) (b : Nat) (v1 v2 : Int32) : List (Nat × Value) := match b with
  | 0 => [(0, .ref (ad 0)), (1, .int v1)]
  | 1 => [(0, .ref (ad 0)), (1, .int v1), (2, .int v2)]
  | _ => []
def pc_Fleet_isTaken (b : Nat) : Nat := match b with
  | 0 => 0
  | 1 => 2
  | _ => 0
set_option maxHeartbeats 4000000 in
set_option maxRecDepth 100000 in
theorem t_Fleet_isTaken (l : Launch) (D : va_G) (cI cZ : ClassId) (ad : Nat → Nat) (v1 : Int32) (σ : Sg) (Q : (Int32 → Prop)) (h : q_Fleet_isTaken v1 σ Q) : Met l y_Fleet_isTaken (.code y_Fleet_isTaken prog_3_method_14_code 3 (some .boolean) :: TG) { frames := 0, cells := 0, slots := 0, locals := 0 } (va_Pc [.ref (ad 0), .int v1] (roB D (tysA cI cZ) (W_Fleet ad cI cZ σ))) (vp_Si Q) 0 0 (fun _ => False) := by
  refine Met.ofW (cc := prog_3_method_14_code) (maxL := 3) (ret := (some .boolean)) (by decide) rfl ?_
  intro p e s m args below meth c s₁ B hml hv
  obtain ⟨rfl, hP, hK⟩ := hv
  have hx := B.exec
  have hb := B.bytes
  have hr := B.returns
  have hts : ∀ w ∈ TG, w.before [.ref (ad 0), .int v1].toArray s = true := fun w hw => atoms_spec (ws := .code y_Fleet_isTaken prog_3_method_14_code 3 (some .boolean) :: TG) B.pre w (List.mem_cons_of_mem _ hw)
  have hown : s.vm.findClass "CarrierPaths$Fleet" = some m.cls := findClass_of_methodNamed B.named
  have hlocks := B.notSynchronized
  have hl := lv_entry ([.ref (ad 0), .int v1]) (n := 3) (Nat.le_of_ble_eq_true rfl)
  rw [lg_entry_eq]
  generalize (lg_sl ([.ref (ad 0), .int v1]) ++ List.replicate (3 - (lg_sl ([.ref (ad 0), .int v1])).length) Slot.unset).toArray = ls at hl ⊢
  generalize ([.ref (ad 0), .int v1] : List Value).toArray = args at hts ⊢
  have key : ∀ (n b : Nat) (v1 v2 : Int32), q_Fleet_isTaken_j Q σ n b v1 v2 → ∀ ls : Array Slot, lv_has ls 3 (lc_Fleet_isTaken ad b v1 v2) → W p l e (headSpec (.code y_Fleet_isTaken prog_3_method_14_code 3 (some .boolean) :: TG) { frames := 0, cells := 0, slots := 0, locals := 0 }).room s m args below meth c s.heap [] 0 0 (MQ below (vp_Si Q) args s 0 0 (fun _ => False)) (F0 m (pc_Fleet_isTaken b) ls []) := by
    clear h hl
    intro n
    induction n with
    | zero => intro b _ _ h; exact False.elim h
    | succ n ih =>
      intro b v1 v2 h ls hl
      match b, h, hl with
      | 0, h, hl =>
        have h : q_Fleet_isTaken_b0 (q_Fleet_isTaken_j Q σ n) Q v1 v2 σ := h
        have hl : lv_has ls 3 [(0, .ref (ad 0)), (1, .int v1)] := hl
        refine W.eq (g2 := F0 m 0 ls []) rfl ?_
        unfold q_Fleet_isTaken_b0 at h
        refine lv_iconst (v := 0) hx hb d_Fleet_isTaken_0 (by decide) ?_
        refine lv_istore_n (lv' := [(2, .int 0), (0, .ref (ad 0)), (1, .int v1)]) hx hb d_Fleet_isTaken_1 rfl hl (by decide) rfl (fun ls hl => ?_)
        exact ih 1 v1 0 h _ (lv_sub hl [1, 2, 0] rfl)
      | 1, h, hl =>
        have h : q_Fleet_isTaken_b1 (q_Fleet_isTaken_j Q σ n) Q v1 v2 σ := h
        have hl : lv_has ls 3 [(0, .ref (ad 0)), (1, .int v1), (2, .int v2)] := hl
        refine W.eq (g2 := F0 m 2 ls []) rfl ?_
        unfold q_Fleet_isTaken_b1 at h
        refine lv_iload_n hx hb d_Fleet_isTaken_2 rfl (lv_at hl 2 rfl) ?_
        refine lv_aload_n hx hb d_Fleet_isTaken_3 rfl (lv_at hl 0 rfl) ?_
        refine va_get (D := D) (ci := 1) (v := .int (σ 0 7)) (C := "CarrierPaths$Fleet") (T := F_Fleet) (N := 8) hx hb hts in_Fleet hown hK hP 0 rfl rfl 7 (by decide) (hts _ kw107) (fun _ h9 => h9) rfl d_Fleet_isTaken_4 ?_
        refine lv_icmp_ge (tgt := 28) hx hb d_Fleet_isTaken_7 (by decide) (fun hc => ?_) (fun hc => ?_)
        · have h := h.1 hc
          refine lv_iconst (v := 0) hx hb d_Fleet_isTaken_28 (by decide) ?_
          exact W.zret (v := 0) hx hb hr (by decide) (fun t ht hW => ⟨0, rfl, h, ht⟩) (fun q hq => by cases hq) d_Fleet_isTaken_29
        · have h := h.2 hc
          refine lv_aload_n hx hb d_Fleet_isTaken_10 rfl (lv_at hl 0 rfl) ?_
          refine va_get (D := D) (ci := 1) (v := .ref (ad 2)) (C := "CarrierPaths$Fleet") (T := F_Fleet) (N := 8) hx hb hts in_Fleet hown hK hP 0 rfl rfl 1 (by decide) (hts _ kw101) (fun _ h9 => h9) rfl d_Fleet_isTaken_11 ?_
          refine lv_iload_n hx hb d_Fleet_isTaken_14 rfl (lv_at hl 2 rfl) ?_
          obtain ⟨hi, h⟩ := h
          refine va_iald hx hb hK hP 2 0 rfl rfl hi d_Fleet_isTaken_15 ?_
          refine lv_iload_n hx hb d_Fleet_isTaken_16 rfl (lv_at hl 1 rfl) ?_
          refine lv_icmp_ne (tgt := 22) hx hb d_Fleet_isTaken_17 (by decide) (fun hc => ?_) (fun hc => ?_)
          · have h := h.2 hc
            refine lv_iinc (v := (v2 + 1)) (lv' := [(2, .int (v2 + 1)), (0, .ref (ad 0)), (1, .int v1)]) hx hb d_Fleet_isTaken_22 hl (k := 2) rfl rfl (by decide) rfl (fun ls hl => ?_)
            refine lv_goto (tgt := 2) hx hb d_Fleet_isTaken_25 (by decide) ?_
            exact ih 1 v1 (v2 + 1) h _ (lv_sub hl [1, 2, 0] rfl)
          · have h := h.1 hc
            refine lv_iconst (v := 1) hx hb d_Fleet_isTaken_20 (by decide) ?_
            exact W.zret (v := 1) hx hb hr (by decide) (fun t ht hW => ⟨1, rfl, h, ht⟩) (fun q hq => by cases hq) d_Fleet_isTaken_21
      | _ + 2, h, _ => exact False.elim h
  exact key 4000 0 v1 0 h ls hl
def q_Fleet_boundFor_b0 (J : Nat → Int32 → Int32 → Int32 → Prop) (Q : (Int32 → Prop)) (v1 v2 v3 : Int32) (σ : Sg) : Prop :=
  J 1 v1 0 0
def q_Fleet_boundFor_b1 (J : Nat → Int32 → Int32 → Int32 → Prop) (Q : (Int32 → Prop)) (v1 v2 v3 : Int32) (σ : Sg) : Prop :=
  (((σ 0 7) ≤ v3 → Q v2) ∧ (¬ (σ 0 7) ≤ v3 → (vp_in v3 6 ∧ (((σ 1 v3.toNatClampNeg) = v1 → J 1 v1 (v2 + 1) (v3 + 1)) ∧ (¬ (σ 1 v3.toNatClampNeg) = v1 → J 1 v1 v2 (v3 + 1))))))
def q_Fleet_boundFor_j (Q : (Int32 → Prop)) (σ : Sg) : Nat → Nat → Int32 → Int32 → Int32 → Prop
  | 0, _, _, _, _ => False
  | n + 1, 0, v1, v2, v3 => q_Fleet_boundFor_b0 (q_Fleet_boundFor_j Q σ n) Q v1 v2 v3 σ
  | n + 1, 1, v1, v2, v3 => q_Fleet_boundFor_b1 (q_Fleet_boundFor_j Q σ n) Q v1 v2 v3 σ
  | _ + 1, _ + 2, _, _, _ => False
def q_Fleet_boundFor (v1 : Int32) (σ : Sg) (Q : (Int32 → Prop)) : Prop := q_Fleet_boundFor_j Q σ 4000 0 v1 0 0
def lc_Fleet_boundFor (ad : Nat → Nat) (b : Nat) (v1 v2 v3 : Int32) : List (Nat × Value) := match b with
  | 0 => [(0, .ref (ad 0)), (1, .int v1)]
  | 1 => [(0, .ref (ad 0)), (1, .int v1), (2, .int v2), (3, .int v3)]
  | _ => []
def pc_Fleet_boundFor (b : Nat) : Nat := match b with
  | 0 => 0
  | 1 => 4
  | _ => 0
set_option maxHeartbeats 4000000 in
set_option maxRecDepth 100000 in
theorem t_Fleet_boundFor (l : Launch) (D : va_G) (cI cZ : ClassId) (ad : Nat → Nat) (v1 : Int32) (σ : Sg) (Q : (Int32 → Prop)) (h : q_Fleet_boundFor v1 σ Q) : Met l y_Fleet_boundFor (.code y_Fleet_boundFor prog_3_method_15_code 4 (some .int) :: TG) { frames := 0, cells := 0, slots := 0, locals := 0 } (va_Pc [.ref (ad 0), .int v1] (roB D (tysA cI cZ) (W_Fleet ad cI cZ σ))) (vp_Si Q) 0 0 (fun _ => False) := by
  refine Met.ofW (cc := prog_3_method_15_code) (maxL := 4) (ret := (some .int)) (by decide) rfl ?_
  intro p e s m args below meth c s₁ B hml hv
  obtain ⟨rfl, hP, hK⟩ := hv
  have hx := B.exec
  have hb := B.bytes
  have hr := B.returns
  have hts : ∀ w ∈ TG, w.before [.ref (ad 0), .int v1].toArray s = true := fun w hw => atoms_spec (ws := .code y_Fleet_boundFor prog_3_method_15_code 4 (some .int) :: TG) B.pre w (List.mem_cons_of_mem _ hw)
  have hown : s.vm.findClass "CarrierPaths$Fleet" = some m.cls := findClass_of_methodNamed B.named
  have hlocks := B.notSynchronized
  have hl := lv_entry ([.ref (ad 0), .int v1]) (n := 4) (Nat.le_of_ble_eq_true rfl)
  rw [lg_entry_eq]
  generalize (lg_sl ([.ref (ad 0), .int v1]) ++ List.replicate (4 - (lg_sl ([.ref (ad 0), .int v1])).length) Slot.unset).toArray = ls at hl ⊢
  generalize ([.ref (ad 0), .int v1] : List Value).toArray = args at hts ⊢
  have key : ∀ (n b : Nat) (v1 v2 v3 : Int32), q_Fleet_boundFor_j Q σ n b v1 v2 v3 → ∀ ls : Array Slot, lv_has ls 4 (lc_Fleet_boundFor ad b v1 v2 v3) → W p l e (headSpec (.code y_Fleet_boundFor prog_3_method_15_code 4 (some .int) :: TG) { frames := 0, cells := 0, slots := 0, locals := 0 }).room s m args below meth c s.heap [] 0 0 (MQ below (vp_Si Q) args s 0 0 (fun _ => False)) (F0 m (pc_Fleet_boundFor b) ls []) := by
    clear h hl
    intro n
    induction n with
    | zero => intro b _ _ _ h; exact False.elim h
    | succ n ih =>
      intro b v1 v2 v3 h ls hl
      match b, h, hl with
      | 0, h, hl =>
        have h : q_Fleet_boundFor_b0 (q_Fleet_boundFor_j Q σ n) Q v1 v2 v3 σ := h
        have hl : lv_has ls 4 [(0, .ref (ad 0)), (1, .int v1)] := hl
        refine W.eq (g2 := F0 m 0 ls []) rfl ?_
        unfold q_Fleet_boundFor_b0 at h
        refine lv_iconst (v := 0) hx hb d_Fleet_boundFor_0 (by decide) ?_
        refine lv_istore_n (lv' := [(2, .int 0), (0, .ref (ad 0)), (1, .int v1)]) hx hb d_Fleet_boundFor_1 rfl hl (by decide) rfl (fun ls hl => ?_)
        refine lv_iconst (v := 0) hx hb d_Fleet_boundFor_2 (by decide) ?_
        refine lv_istore_n (lv' := [(3, .int 0), (2, .int 0), (0, .ref (ad 0)), (1, .int v1)]) hx hb d_Fleet_boundFor_3 rfl hl (by decide) rfl (fun ls hl => ?_)
        exact ih 1 v1 0 0 h _ (lv_sub hl [2, 3, 1, 0] rfl)
      | 1, h, hl =>
        have h : q_Fleet_boundFor_b1 (q_Fleet_boundFor_j Q σ n) Q v1 v2 v3 σ := h
        have hl : lv_has ls 4 [(0, .ref (ad 0)), (1, .int v1), (2, .int v2), (3, .int v3)] := hl
        refine W.eq (g2 := F0 m 4 ls []) rfl ?_
        unfold q_Fleet_boundFor_b1 at h
        refine lv_iload_n hx hb d_Fleet_boundFor_4 rfl (lv_at hl 3 rfl) ?_
        refine lv_aload_n hx hb d_Fleet_boundFor_5 rfl (lv_at hl 0 rfl) ?_
        refine va_get (D := D) (ci := 1) (v := .int (σ 0 7)) (C := "CarrierPaths$Fleet") (T := F_Fleet) (N := 8) hx hb hts in_Fleet hown hK hP 0 rfl rfl 7 (by decide) (hts _ kw107) (fun _ h9 => h9) rfl d_Fleet_boundFor_6 ?_
        refine lv_icmp_ge (tgt := 31) hx hb d_Fleet_boundFor_9 (by decide) (fun hc => ?_) (fun hc => ?_)
        · have h := h.1 hc
          refine lv_iload_n hx hb d_Fleet_boundFor_31 rfl (lv_at hl 2 rfl) ?_
          exact W.iret (v := v2) hx hb hr (fun t ht hW => ⟨v2, rfl, h, ht⟩) (fun q hq => by cases hq) d_Fleet_boundFor_32
        · have h := h.2 hc
          refine lv_aload_n hx hb d_Fleet_boundFor_12 rfl (lv_at hl 0 rfl) ?_
          refine va_get (D := D) (ci := 1) (v := .ref (ad 1)) (C := "CarrierPaths$Fleet") (T := F_Fleet) (N := 8) hx hb hts in_Fleet hown hK hP 0 rfl rfl 0 (by decide) (hts _ kw100) (fun _ h9 => h9) rfl d_Fleet_boundFor_13 ?_
          refine lv_iload_n hx hb d_Fleet_boundFor_16 rfl (lv_at hl 3 rfl) ?_
          obtain ⟨hi, h⟩ := h
          refine va_iald hx hb hK hP 1 0 rfl rfl hi d_Fleet_boundFor_17 ?_
          refine lv_iload_n hx hb d_Fleet_boundFor_18 rfl (lv_at hl 1 rfl) ?_
          refine lv_icmp_ne (tgt := 25) hx hb d_Fleet_boundFor_19 (by decide) (fun hc => ?_) (fun hc => ?_)
          · have h := h.2 hc
            refine lv_iinc (v := (v3 + 1)) (lv' := [(3, .int (v3 + 1)), (0, .ref (ad 0)), (1, .int v1), (2, .int v2)]) hx hb d_Fleet_boundFor_25 hl (k := 3) rfl rfl (by decide) rfl (fun ls hl => ?_)
            refine lv_goto (tgt := 4) hx hb d_Fleet_boundFor_28 (by decide) ?_
            exact ih 1 v1 v2 (v3 + 1) h _ (lv_sub hl [1, 2, 3, 0] rfl)
          · have h := h.1 hc
            refine lv_iinc (v := (v2 + 1)) (lv' := [(2, .int (v2 + 1)), (0, .ref (ad 0)), (1, .int v1), (3, .int v3)]) hx hb d_Fleet_boundFor_22 hl (k := 2) rfl rfl (by decide) rfl (fun ls hl => ?_)
            refine lv_iinc (v := (v3 + 1)) (lv' := [(3, .int (v3 + 1)), (2, .int (v2 + 1)), (0, .ref (ad 0)), (1, .int v1)]) hx hb d_Fleet_boundFor_25 hl (k := 3) rfl rfl (by decide) rfl (fun ls hl => ?_)
            refine lv_goto (tgt := 4) hx hb d_Fleet_boundFor_28 (by decide) ?_
            exact ih 1 v1 (v2 + 1) (v3 + 1) h _ (lv_sub hl [2, 3, 1, 0] rfl)
      | _ + 2, h, _ => exact False.elim h
  exact key 4000 0 v1 0 0 h ls hl
def q_Fleet_onPieces_b0 (J : Nat → Int32 → Int32 → Prop) (Q : (Int32 → Prop)) (v1 v2 : Int32) (σ : Sg) : Prop :=
  J 1 0 0
def q_Fleet_onPieces_b1 (J : Nat → Int32 → Int32 → Prop) (Q : (Int32 → Prop)) (v1 v2 : Int32) (σ : Sg) : Prop :=
  (((σ 0 7) ≤ v2 → Q v1) ∧ (¬ (σ 0 7) ≤ v2 → (q_Fleet_isOnPiece v2 σ (fun r1 => ((r1 = 0 → J 1 v1 (v2 + 1)) ∧ (¬ r1 = 0 → J 1 (v1 + 1) (v2 + 1)))))))
def q_Fleet_onPieces_j (Q : (Int32 → Prop)) (σ : Sg) : Nat → Nat → Int32 → Int32 → Prop
  | 0, _, _, _ => False
  | n + 1, 0, v1, v2 => q_Fleet_onPieces_b0 (q_Fleet_onPieces_j Q σ n) Q v1 v2 σ
  | n + 1, 1, v1, v2 => q_Fleet_onPieces_b1 (q_Fleet_onPieces_j Q σ n) Q v1 v2 σ
  | _ + 1, _ + 2, _, _ => False
def q_Fleet_onPieces (σ : Sg) (Q : (Int32 → Prop)) : Prop := q_Fleet_onPieces_j Q σ 4000 0 0 0
def lc_Fleet_onPieces (ad : Nat → Nat) (b : Nat) (v1 v2 : Int32) : List (Nat × Value) := match b with
  | 0 => [(0, .ref (ad 0))]
  | 1 => [(0, .ref (ad 0)), (1, .int v1), (2, .int v2)]
  | _ => []
def pc_Fleet_onPieces (b : Nat) : Nat := match b with
  | 0 => 0
  | 1 => 4
  | _ => 0
set_option maxHeartbeats 4000000 in
set_option maxRecDepth 100000 in
theorem t_Fleet_onPieces (l : Launch) (D : va_G) (cI cZ : ClassId) (ad : Nat → Nat) (σ : Sg) (Q : (Int32 → Prop)) (h : q_Fleet_onPieces σ Q) : Met l y_Fleet_onPieces (.code y_Fleet_onPieces prog_3_method_16_code 3 (some .int) :: TG) { frames := 1, cells := 0, slots := 0, locals := 21 } (va_Pc [.ref (ad 0)] (roB D (tysA cI cZ) (W_Fleet ad cI cZ σ))) (vp_Si Q) 0 0 (fun _ => False) := by
  refine Met.ofW (cc := prog_3_method_16_code) (maxL := 3) (ret := (some .int)) (by decide) rfl ?_
  intro p e s m args below meth c s₁ B hml hv
  obtain ⟨rfl, hP, hK⟩ := hv
  have hx := B.exec
  have hb := B.bytes
  have hr := B.returns
  have hts : ∀ w ∈ TG, w.before [.ref (ad 0)].toArray s = true := fun w hw => atoms_spec (ws := .code y_Fleet_onPieces prog_3_method_16_code 3 (some .int) :: TG) B.pre w (List.mem_cons_of_mem _ hw)
  have hown : s.vm.findClass "CarrierPaths$Fleet" = some m.cls := findClass_of_methodNamed B.named
  have hlocks := B.notSynchronized
  have hl := lv_entry ([.ref (ad 0)]) (n := 3) (Nat.le_of_ble_eq_true rfl)
  rw [lg_entry_eq]
  generalize (lg_sl ([.ref (ad 0)]) ++ List.replicate (3 - (lg_sl ([.ref (ad 0)])).length) Slot.unset).toArray = ls at hl ⊢
  generalize ([.ref (ad 0)] : List Value).toArray = args at hts ⊢
  have key : ∀ (n b : Nat) (v1 v2 : Int32), q_Fleet_onPieces_j Q σ n b v1 v2 → ∀ ls : Array Slot, lv_has ls 3 (lc_Fleet_onPieces ad b v1 v2) → W p l e (headSpec (.code y_Fleet_onPieces prog_3_method_16_code 3 (some .int) :: TG) { frames := 1, cells := 0, slots := 0, locals := 21 }).room s m args below meth c s.heap [] 0 0 (MQ below (vp_Si Q) args s 0 0 (fun _ => False)) (F0 m (pc_Fleet_onPieces b) ls []) := by
    clear h hl
    intro n
    induction n with
    | zero => intro b _ _ h; exact False.elim h
    | succ n ih =>
      intro b v1 v2 h ls hl
      match b, h, hl with
      | 0, h, hl =>
        have h : q_Fleet_onPieces_b0 (q_Fleet_onPieces_j Q σ n) Q v1 v2 σ := h
        have hl : lv_has ls 3 [(0, .ref (ad 0))] := hl
        refine W.eq (g2 := F0 m 0 ls []) rfl ?_
        unfold q_Fleet_onPieces_b0 at h
        refine lv_iconst (v := 0) hx hb d_Fleet_onPieces_0 (by decide) ?_
        refine lv_istore_n (lv' := [(1, .int 0), (0, .ref (ad 0))]) hx hb d_Fleet_onPieces_1 rfl hl (by decide) rfl (fun ls hl => ?_)
        refine lv_iconst (v := 0) hx hb d_Fleet_onPieces_2 (by decide) ?_
        refine lv_istore_n (lv' := [(2, .int 0), (1, .int 0), (0, .ref (ad 0))]) hx hb d_Fleet_onPieces_3 rfl hl (by decide) rfl (fun ls hl => ?_)
        exact ih 1 0 0 h _ (lv_sub hl [2, 1, 0] rfl)
      | 1, h, hl =>
        have h : q_Fleet_onPieces_b1 (q_Fleet_onPieces_j Q σ n) Q v1 v2 σ := h
        have hl : lv_has ls 3 [(0, .ref (ad 0)), (1, .int v1), (2, .int v2)] := hl
        refine W.eq (g2 := F0 m 4 ls []) rfl ?_
        unfold q_Fleet_onPieces_b1 at h
        refine lv_iload_n hx hb d_Fleet_onPieces_4 rfl (lv_at hl 2 rfl) ?_
        refine lv_aload_n hx hb d_Fleet_onPieces_5 rfl (lv_at hl 0 rfl) ?_
        refine va_get (D := D) (ci := 1) (v := .int (σ 0 7)) (C := "CarrierPaths$Fleet") (T := F_Fleet) (N := 8) hx hb hts in_Fleet hown hK hP 0 rfl rfl 7 (by decide) (hts _ kw107) (fun _ h9 => h9) rfl d_Fleet_onPieces_6 ?_
        refine lv_icmp_ge (tgt := 29) hx hb d_Fleet_onPieces_9 (by decide) (fun hc => ?_) (fun hc => ?_)
        · have h := h.1 hc
          refine lv_iload_n hx hb d_Fleet_onPieces_29 rfl (lv_at hl 1 rfl) ?_
          exact W.iret (v := v1) hx hb hr (fun t ht hW => ⟨v1, rfl, h, ht⟩) (fun q hq => by cases hq) d_Fleet_onPieces_30
        · have h := h.2 hc
          refine lv_aload_n hx hb d_Fleet_onPieces_12 rfl (lv_at hl 0 rfl) ?_
          refine lv_iload_n hx hb d_Fleet_onPieces_13 rfl (lv_at hl 2 rfl) ?_
          refine vp_callSi (W.runV (As := [.int v2]) (rest := []) ⟨hx, hb, hml, hown, hts⟩ (t_Fleet_isOnPiece l D cI cZ ad v2 σ _ h) (cwV 1 hts (g_of kw266 kw267 kw268 kw6 kw269) rfl rfl rfl (by decide +kernel) ⟨Nat.le_of_ble_eq_true rfl, Nat.le_of_ble_eq_true rfl⟩) (ro_pre hK hP (va_recv hK hP (ci := 1) (q0 := 0) rfl rfl)) rfl rfl hl.1 rfl (lv_room (Nat.le_of_ble_eq_true rfl)) d_Fleet_onPieces_14 ⟨Nat.le_of_ble_eq_true rfl, Nat.le_of_ble_eq_true rfl⟩) (fun r1 h => ?_)
          refine lv_if_eq (tgt := 23) hx hb d_Fleet_onPieces_17 (by decide) (fun hc => ?_) (fun hc => ?_)
          · have h := h.1 hc
            refine lv_iinc (v := (v2 + 1)) (lv' := [(2, .int (v2 + 1)), (0, .ref (ad 0)), (1, .int v1)]) hx hb d_Fleet_onPieces_23 hl (k := 2) rfl rfl (by decide) rfl (fun ls hl => ?_)
            refine lv_goto (tgt := 4) hx hb d_Fleet_onPieces_26 (by decide) ?_
            exact ih 1 v1 (v2 + 1) h _ (lv_sub hl [1, 2, 0] rfl)
          · have h := h.2 hc
            refine lv_iinc (v := (v1 + 1)) (lv' := [(1, .int (v1 + 1)), (0, .ref (ad 0)), (2, .int v2)]) hx hb d_Fleet_onPieces_20 hl (k := 1) rfl rfl (by decide) rfl (fun ls hl => ?_)
            refine lv_iinc (v := (v2 + 1)) (lv' := [(2, .int (v2 + 1)), (1, .int (v1 + 1)), (0, .ref (ad 0))]) hx hb d_Fleet_onPieces_23 hl (k := 2) rfl rfl (by decide) rfl (fun ls hl => ?_)
            refine lv_goto (tgt := 4) hx hb d_Fleet_onPieces_26 (by decide) ?_
            exact ih 1 (v1 + 1) (v2 + 1) h _ (lv_sub hl [2, 1, 0] rfl)
      | _ + 2, h, _ => exact False.elim h
  exact key 4000 0 0 0 h ls hl
def q_Fleet_takeJob (v1 v2 : Int32) (σ : Sg) (Q : (Sg → Prop)) : Prop :=
  (vp_in v1 6 ∧ Q (sto σ 4 v1.toNatClampNeg v2))
set_option maxHeartbeats 4000000 in
set_option maxRecDepth 100000 in
theorem t_Fleet_takeJob (l : Launch) (D : va_G) (cI cZ : ClassId) (ad : Nat → Nat) (inj : Inj ad 8) (v1 v2 : Int32) (σ : Sg) (Q : (Sg → Prop)) (h : q_Fleet_takeJob v1 v2 σ Q) : Met l y_Fleet_takeJob (.code y_Fleet_takeJob prog_3_method_17_code 3 none :: TG) { frames := 0, cells := 0, slots := 0, locals := 0 } (va_Pc [.ref (ad 0), .int v1, .int v2] (roB D (tysA cI cZ) (W_Fleet ad cI cZ σ))) (va_Qv Q (fun u t => va_P D classes (W_Fleet ad cI cZ u) t.heap) (inA ad 8)) 0 0 (inA ad 8) := by
  refine Met.ofW (cc := prog_3_method_17_code) (maxL := 3) (ret := none) (by decide) rfl ?_
  intro p e s m args below meth c s₁ B hml hv
  obtain ⟨rfl, hP, hK⟩ := hv
  have hx := B.exec
  have hb := B.bytes
  have hr := B.returns
  have hts : ∀ w ∈ TG, w.before [.ref (ad 0), .int v1, .int v2].toArray s = true := fun w hw => atoms_spec (ws := .code y_Fleet_takeJob prog_3_method_17_code 3 none :: TG) B.pre w (List.mem_cons_of_mem _ hw)
  have hown : s.vm.findClass "CarrierPaths$Fleet" = some m.cls := findClass_of_methodNamed B.named
  have hlocks := B.notSynchronized
  have hS : va_S (inA ad 8) s.heap s.heap [] := va_S.rf
  have hl := lv_entry ([.ref (ad 0), .int v1, .int v2]) (n := 3) (Nat.le_of_ble_eq_true rfl)
  rw [lg_entry_eq]
  generalize (lg_sl ([.ref (ad 0), .int v1, .int v2]) ++ List.replicate (3 - (lg_sl ([.ref (ad 0), .int v1, .int v2])).length) Slot.unset).toArray = ls at hl ⊢
  have hl : lv_has ls 3 [(0, .ref (ad 0)), (1, .int v1), (2, .int v2)] := hl
  unfold q_Fleet_takeJob at h
  refine lv_aload_n hx hb d_Fleet_takeJob_0 rfl (lv_at hl 0 rfl) ?_
  refine va_get (D := D) (ci := 1) (v := .ref (ad 4)) (C := "CarrierPaths$Fleet") (T := F_Fleet) (N := 8) hx hb hts in_Fleet hown hK hP 0 rfl rfl 3 (by decide) (hts _ kw103) (fun _ h9 => h9) rfl d_Fleet_takeJob_1 ?_
  refine lv_iload_n hx hb d_Fleet_takeJob_4 rfl (lv_at hl 1 rfl) ?_
  refine lv_iload_n hx hb d_Fleet_takeJob_5 rfl (lv_at hl 2 rfl) ?_
  obtain ⟨hi, h⟩ := h
  refine va_iast hx hb hK hP (D_Fleet inj) hS 4 0 rfl rfl hi d_Fleet_takeJob_6 (fun H locs hP _ hS => ?_)
  have hP := up_Fleet_4 hP
  exact W.vret hx hb hr (fun t ht hW => ⟨⟨(sto σ 4 v1.toNatClampNeg v2), rfl, h, hp_back ht hP⟩, hS.F ht⟩) hS.2.2 d_Fleet_takeJob_7
def q_Fleet_endJob (v1 : Int32) (σ : Sg) (Q : (Sg → Prop)) : Prop :=
  (vp_in v1 6 ∧ (vp_in v1 6 ∧ (vp_in v1 6 ∧ Q (sto (sto σ 4 v1.toNatClampNeg (-1)) 6 v1.toNatClampNeg (((sto σ 4 v1.toNatClampNeg (-1)) 6 v1.toNatClampNeg) + 1)))))
set_option maxHeartbeats 4000000 in
set_option maxRecDepth 100000 in
theorem t_Fleet_endJob (l : Launch) (D : va_G) (cI cZ : ClassId) (ad : Nat → Nat) (inj : Inj ad 8) (v1 : Int32) (σ : Sg) (Q : (Sg → Prop)) (h : q_Fleet_endJob v1 σ Q) : Met l y_Fleet_endJob (.code y_Fleet_endJob prog_3_method_18_code 2 none :: TG) { frames := 0, cells := 0, slots := 0, locals := 0 } (va_Pc [.ref (ad 0), .int v1] (roB D (tysA cI cZ) (W_Fleet ad cI cZ σ))) (va_Qv Q (fun u t => va_P D classes (W_Fleet ad cI cZ u) t.heap) (inA ad 8)) 0 0 (inA ad 8) := by
  refine Met.ofW (cc := prog_3_method_18_code) (maxL := 2) (ret := none) (by decide) rfl ?_
  intro p e s m args below meth c s₁ B hml hv
  obtain ⟨rfl, hP, hK⟩ := hv
  have hx := B.exec
  have hb := B.bytes
  have hr := B.returns
  have hts : ∀ w ∈ TG, w.before [.ref (ad 0), .int v1].toArray s = true := fun w hw => atoms_spec (ws := .code y_Fleet_endJob prog_3_method_18_code 2 none :: TG) B.pre w (List.mem_cons_of_mem _ hw)
  have hown : s.vm.findClass "CarrierPaths$Fleet" = some m.cls := findClass_of_methodNamed B.named
  have hlocks := B.notSynchronized
  have hS : va_S (inA ad 8) s.heap s.heap [] := va_S.rf
  have hl := lv_entry ([.ref (ad 0), .int v1]) (n := 2) (Nat.le_of_ble_eq_true rfl)
  rw [lg_entry_eq]
  generalize (lg_sl ([.ref (ad 0), .int v1]) ++ List.replicate (2 - (lg_sl ([.ref (ad 0), .int v1])).length) Slot.unset).toArray = ls at hl ⊢
  have hl : lv_has ls 2 [(0, .ref (ad 0)), (1, .int v1)] := hl
  unfold q_Fleet_endJob at h
  refine lv_aload_n hx hb d_Fleet_endJob_0 rfl (lv_at hl 0 rfl) ?_
  refine va_get (D := D) (ci := 1) (v := .ref (ad 4)) (C := "CarrierPaths$Fleet") (T := F_Fleet) (N := 8) hx hb hts in_Fleet hown hK hP 0 rfl rfl 3 (by decide) (hts _ kw103) (fun _ h9 => h9) rfl d_Fleet_endJob_1 ?_
  refine lv_iload_n hx hb d_Fleet_endJob_4 rfl (lv_at hl 1 rfl) ?_
  refine lv_iconst (v := (-1)) hx hb d_Fleet_endJob_5 (by decide) ?_
  obtain ⟨hi, h⟩ := h
  refine va_iast hx hb hK hP (D_Fleet inj) hS 4 0 rfl rfl hi d_Fleet_endJob_6 (fun H locs hP _ hS => ?_)
  have hP := up_Fleet_4 hP
  refine lv_aload_n hx hb d_Fleet_endJob_7 rfl (lv_at hl 0 rfl) ?_
  refine va_get (D := D) (ci := 1) (v := .ref (ad 6)) (C := "CarrierPaths$Fleet") (T := F_Fleet) (N := 8) hx hb hts in_Fleet hown hK hP 0 rfl rfl 5 (by decide) (hts _ kw105) (fun _ h9 => h9) rfl d_Fleet_endJob_8 ?_
  refine lv_iload_n hx hb d_Fleet_endJob_11 rfl (lv_at hl 1 rfl) ?_
  refine lv_dup2_11 hx hb d_Fleet_endJob_12 rfl rfl ?_
  obtain ⟨hi, h⟩ := h
  refine va_iald hx hb hK hP 6 0 rfl rfl hi d_Fleet_endJob_13 ?_
  refine lv_iconst (v := 1) hx hb d_Fleet_endJob_14 (by decide) ?_
  refine lv_iadd hx hb d_Fleet_endJob_15 ?_
  obtain ⟨hi, h⟩ := h
  refine va_iast hx hb hK hP (D_Fleet inj) hS 6 0 rfl rfl hi d_Fleet_endJob_16 (fun H locs hP _ hS => ?_)
  have hP := up_Fleet_6 hP
  exact W.vret hx hb hr (fun t ht hW => ⟨⟨(sto (sto σ 4 v1.toNatClampNeg (-1)) 6 v1.toNatClampNeg (((sto σ 4 v1.toNatClampNeg (-1)) 6 v1.toNatClampNeg) + 1)), rfl, h, hp_back ht hP⟩, hS.F ht⟩) hS.2.2 d_Fleet_endJob_17
def q_Fleet_chargeUp (v1 : Int32) (σ : Sg) (Q : (Sg → Prop)) : Prop :=
  (vp_in v1 6 ∧ Q (sto σ 5 v1.toNatClampNeg 1000))
set_option maxHeartbeats 4000000 in
set_option maxRecDepth 100000 in
theorem t_Fleet_chargeUp (l : Launch) (D : va_G) (cI cZ : ClassId) (ad : Nat → Nat) (inj : Inj ad 8) (v1 : Int32) (σ : Sg) (Q : (Sg → Prop)) (h : q_Fleet_chargeUp v1 σ Q) : Met l y_Fleet_chargeUp (.code y_Fleet_chargeUp prog_3_method_19_code 2 none :: TG) { frames := 0, cells := 0, slots := 0, locals := 0 } (va_Pc [.ref (ad 0), .int v1] (roB D (tysA cI cZ) (W_Fleet ad cI cZ σ))) (va_Qv Q (fun u t => va_P D classes (W_Fleet ad cI cZ u) t.heap) (inA ad 8)) 0 0 (inA ad 8) := by
  refine Met.ofW (cc := prog_3_method_19_code) (maxL := 2) (ret := none) (by decide) rfl ?_
  intro p e s m args below meth c s₁ B hml hv
  obtain ⟨rfl, hP, hK⟩ := hv
  have hx := B.exec
  have hb := B.bytes
  have hr := B.returns
  have hts : ∀ w ∈ TG, w.before [.ref (ad 0), .int v1].toArray s = true := fun w hw => atoms_spec (ws := .code y_Fleet_chargeUp prog_3_method_19_code 2 none :: TG) B.pre w (List.mem_cons_of_mem _ hw)
  have hown : s.vm.findClass "CarrierPaths$Fleet" = some m.cls := findClass_of_methodNamed B.named
  have hlocks := B.notSynchronized
  have hS : va_S (inA ad 8) s.heap s.heap [] := va_S.rf
  have hl := lv_entry ([.ref (ad 0), .int v1]) (n := 2) (Nat.le_of_ble_eq_true rfl)
  rw [lg_entry_eq]
  generalize (lg_sl ([.ref (ad 0), .int v1]) ++ List.replicate (2 - (lg_sl ([.ref (ad 0), .int v1])).length) Slot.unset).toArray = ls at hl ⊢
  have hl : lv_has ls 2 [(0, .ref (ad 0)), (1, .int v1)] := hl
  unfold q_Fleet_chargeUp at h
  refine lv_aload_n hx hb d_Fleet_chargeUp_0 rfl (lv_at hl 0 rfl) ?_
  refine va_get (D := D) (ci := 1) (v := .ref (ad 5)) (C := "CarrierPaths$Fleet") (T := F_Fleet) (N := 8) hx hb hts in_Fleet hown hK hP 0 rfl rfl 4 (by decide) (hts _ kw104) (fun _ h9 => h9) rfl d_Fleet_chargeUp_1 ?_
  refine lv_iload_n hx hb d_Fleet_chargeUp_4 rfl (lv_at hl 1 rfl) ?_
  refine lv_sipush (v := 1000) hx hb d_Fleet_chargeUp_5 (by decide) ?_
  obtain ⟨hi, h⟩ := h
  refine va_iast hx hb hK hP (D_Fleet inj) hS 5 0 rfl rfl hi d_Fleet_chargeUp_8 (fun H locs hP _ hS => ?_)
  have hP := up_Fleet_5 hP
  exact W.vret hx hb hr (fun t ht hW => ⟨⟨(sto σ 5 v1.toNatClampNeg 1000), rfl, h, hp_back ht hP⟩, hS.F ht⟩) hS.2.2 d_Fleet_chargeUp_9
def q_Fleet_enter (v1 v2 v3 v4 v5 : Int32) (σ : Sg) (Q : (Sg → Prop)) : Prop :=
  (vp_in v1 6 ∧ (vp_in v1 6 ∧ (vp_in v1 6 ∧ (vp_in v1 6 ∧ (vp_in v1 6 ∧ Q (sto (sto (sto (sto σ 2 v1.toNatClampNeg v2) 1 v1.toNatClampNeg v3) 3 v1.toNatClampNeg (v5 + v4)) 5 v1.toNatClampNeg (((sto (sto (sto σ 2 v1.toNatClampNeg v2) 1 v1.toNatClampNeg v3) 3 v1.toNatClampNeg (v5 + v4)) 5 v1.toNatClampNeg) - v4)))))))
set_option maxHeartbeats 4000000 in
set_option maxRecDepth 100000 in
theorem t_Fleet_enter (l : Launch) (D : va_G) (cI cZ : ClassId) (ad : Nat → Nat) (inj : Inj ad 8) (v1 v2 v3 v4 v5 : Int32) (σ : Sg) (Q : (Sg → Prop)) (h : q_Fleet_enter v1 v2 v3 v4 v5 σ Q) : Met l y_Fleet_enter (.code y_Fleet_enter prog_3_method_20_code 6 none :: TG) { frames := 0, cells := 0, slots := 0, locals := 0 } (va_Pc [.ref (ad 0), .int v1, .int v2, .int v3, .int v4, .int v5] (roB D (tysA cI cZ) (W_Fleet ad cI cZ σ))) (va_Qv Q (fun u t => va_P D classes (W_Fleet ad cI cZ u) t.heap) (inA ad 8)) 0 0 (inA ad 8) := by
  refine Met.ofW (cc := prog_3_method_20_code) (maxL := 6) (ret := none) (by decide) rfl ?_
  intro p e s m args below meth c s₁ B hml hv
  obtain ⟨rfl, hP, hK⟩ := hv
  have hx := B.exec
  have hb := B.bytes
  have hr := B.returns
  have hts : ∀ w ∈ TG, w.before [.ref (ad 0), .int v1, .int v2, .int v3, .int v4, .int v5].toArray s = true := fun w hw => atoms_spec (ws := .code y_Fleet_enter prog_3_method_20_code 6 none :: TG) B.pre w (List.mem_cons_of_mem _ hw)
  have hown : s.vm.findClass "CarrierPaths$Fleet" = some m.cls := findClass_of_methodNamed B.named
  have hlocks := B.notSynchronized
  have hS : va_S (inA ad 8) s.heap s.heap [] := va_S.rf
  have hl := lv_entry ([.ref (ad 0), .int v1, .int v2, .int v3, .int v4, .int v5]) (n := 6) (Nat.le_of_ble_eq_true rfl)
  rw [lg_entry_eq]
  generalize (lg_sl ([.ref (ad 0), .int v1, .int v2, .int v3, .int v4, .int v5]) ++ List.replicate (6 - (lg_sl ([.ref (ad 0), .int v1, .int v2, .int v3, .int v4, .int v5])).length) Slot.unset).toArray = ls at hl ⊢
  have hl : lv_has ls 6 [(0, .ref (ad 0)), (1, .int v1), (2, .int v2), (3, .int v3), (4, .int v4), (5, .int v5)] := hl
  unfold q_Fleet_enter at h
  refine lv_aload_n hx hb d_Fleet_enter_0 rfl (lv_at hl 0 rfl) ?_
  refine va_get (D := D) (ci := 1) (v := .ref (ad 2)) (C := "CarrierPaths$Fleet") (T := F_Fleet) (N := 8) hx hb hts in_Fleet hown hK hP 0 rfl rfl 1 (by decide) (hts _ kw101) (fun _ h9 => h9) rfl d_Fleet_enter_1 ?_
  refine lv_iload_n hx hb d_Fleet_enter_4 rfl (lv_at hl 1 rfl) ?_
  refine lv_iload_n hx hb d_Fleet_enter_5 rfl (lv_at hl 2 rfl) ?_
  obtain ⟨hi, h⟩ := h
  refine va_iast hx hb hK hP (D_Fleet inj) hS 2 0 rfl rfl hi d_Fleet_enter_6 (fun H locs hP _ hS => ?_)
  have hP := up_Fleet_2 hP
  refine lv_aload_n hx hb d_Fleet_enter_7 rfl (lv_at hl 0 rfl) ?_
  refine va_get (D := D) (ci := 1) (v := .ref (ad 1)) (C := "CarrierPaths$Fleet") (T := F_Fleet) (N := 8) hx hb hts in_Fleet hown hK hP 0 rfl rfl 0 (by decide) (hts _ kw100) (fun _ h9 => h9) rfl d_Fleet_enter_8 ?_
  refine lv_iload_n hx hb d_Fleet_enter_11 rfl (lv_at hl 1 rfl) ?_
  refine lv_iload_n hx hb d_Fleet_enter_12 rfl (lv_at hl 3 rfl) ?_
  obtain ⟨hi, h⟩ := h
  refine va_iast hx hb hK hP (D_Fleet inj) hS 1 0 rfl rfl hi d_Fleet_enter_13 (fun H locs hP _ hS => ?_)
  have hP := up_Fleet_1 hP
  refine lv_aload_n hx hb d_Fleet_enter_14 rfl (lv_at hl 0 rfl) ?_
  refine va_get (D := D) (ci := 1) (v := .ref (ad 3)) (C := "CarrierPaths$Fleet") (T := F_Fleet) (N := 8) hx hb hts in_Fleet hown hK hP 0 rfl rfl 2 (by decide) (hts _ kw102) (fun _ h9 => h9) rfl d_Fleet_enter_15 ?_
  refine lv_iload_n hx hb d_Fleet_enter_18 rfl (lv_at hl 1 rfl) ?_
  refine lv_iload hx hb d_Fleet_enter_19 (lv_at hl 5 rfl) ?_
  refine lv_iload hx hb d_Fleet_enter_21 (lv_at hl 4 rfl) ?_
  refine lv_iadd hx hb d_Fleet_enter_23 ?_
  obtain ⟨hi, h⟩ := h
  refine va_iast hx hb hK hP (D_Fleet inj) hS 3 0 rfl rfl hi d_Fleet_enter_24 (fun H locs hP _ hS => ?_)
  have hP := up_Fleet_3 hP
  refine lv_aload_n hx hb d_Fleet_enter_25 rfl (lv_at hl 0 rfl) ?_
  refine va_get (D := D) (ci := 1) (v := .ref (ad 5)) (C := "CarrierPaths$Fleet") (T := F_Fleet) (N := 8) hx hb hts in_Fleet hown hK hP 0 rfl rfl 4 (by decide) (hts _ kw104) (fun _ h9 => h9) rfl d_Fleet_enter_26 ?_
  refine lv_iload_n hx hb d_Fleet_enter_29 rfl (lv_at hl 1 rfl) ?_
  refine lv_dup2_11 hx hb d_Fleet_enter_30 rfl rfl ?_
  obtain ⟨hi, h⟩ := h
  refine va_iald hx hb hK hP 5 0 rfl rfl hi d_Fleet_enter_31 ?_
  refine lv_iload hx hb d_Fleet_enter_32 (lv_at hl 4 rfl) ?_
  refine lv_isub hx hb d_Fleet_enter_34 ?_
  obtain ⟨hi, h⟩ := h
  refine va_iast hx hb hK hP (D_Fleet inj) hS 5 0 rfl rfl hi d_Fleet_enter_35 (fun H locs hP _ hS => ?_)
  have hP := up_Fleet_5 hP
  exact W.vret hx hb hr (fun t ht hW => ⟨⟨(sto (sto (sto (sto σ 2 v1.toNatClampNeg v2) 1 v1.toNatClampNeg v3) 3 v1.toNatClampNeg (v5 + v4)) 5 v1.toNatClampNeg (((sto (sto (sto σ 2 v1.toNatClampNeg v2) 1 v1.toNatClampNeg v3) 3 v1.toNatClampNeg (v5 + v4)) 5 v1.toNatClampNeg) - v4)), rfl, h, hp_back ht hP⟩, hS.F ht⟩) hS.2.2 d_Fleet_enter_36
def q_Fleet_addEmptyTime (v1 v2 : Int32) (σ : Sg) (Q : (Sg → Prop)) : Prop :=
  (vp_in v1 6 ∧ (vp_in v1 6 ∧ Q (sto σ 7 v1.toNatClampNeg ((σ 7 v1.toNatClampNeg) + v2))))
set_option maxHeartbeats 4000000 in
set_option maxRecDepth 100000 in
theorem t_Fleet_addEmptyTime (l : Launch) (D : va_G) (cI cZ : ClassId) (ad : Nat → Nat) (inj : Inj ad 8) (v1 v2 : Int32) (σ : Sg) (Q : (Sg → Prop)) (h : q_Fleet_addEmptyTime v1 v2 σ Q) : Met l y_Fleet_addEmptyTime (.code y_Fleet_addEmptyTime prog_3_method_21_code 3 none :: TG) { frames := 0, cells := 0, slots := 0, locals := 0 } (va_Pc [.ref (ad 0), .int v1, .int v2] (roB D (tysA cI cZ) (W_Fleet ad cI cZ σ))) (va_Qv Q (fun u t => va_P D classes (W_Fleet ad cI cZ u) t.heap) (inA ad 8)) 0 0 (inA ad 8) := by
  refine Met.ofW (cc := prog_3_method_21_code) (maxL := 3) (ret := none) (by decide) rfl ?_
  intro p e s m args below meth c s₁ B hml hv
  obtain ⟨rfl, hP, hK⟩ := hv
  have hx := B.exec
  have hb := B.bytes
  have hr := B.returns
  have hts : ∀ w ∈ TG, w.before [.ref (ad 0), .int v1, .int v2].toArray s = true := fun w hw => atoms_spec (ws := .code y_Fleet_addEmptyTime prog_3_method_21_code 3 none :: TG) B.pre w (List.mem_cons_of_mem _ hw)
  have hown : s.vm.findClass "CarrierPaths$Fleet" = some m.cls := findClass_of_methodNamed B.named
  have hlocks := B.notSynchronized
  have hS : va_S (inA ad 8) s.heap s.heap [] := va_S.rf
  have hl := lv_entry ([.ref (ad 0), .int v1, .int v2]) (n := 3) (Nat.le_of_ble_eq_true rfl)
  rw [lg_entry_eq]
  generalize (lg_sl ([.ref (ad 0), .int v1, .int v2]) ++ List.replicate (3 - (lg_sl ([.ref (ad 0), .int v1, .int v2])).length) Slot.unset).toArray = ls at hl ⊢
  have hl : lv_has ls 3 [(0, .ref (ad 0)), (1, .int v1), (2, .int v2)] := hl
  unfold q_Fleet_addEmptyTime at h
  refine lv_aload_n hx hb d_Fleet_addEmptyTime_0 rfl (lv_at hl 0 rfl) ?_
  refine va_get (D := D) (ci := 1) (v := .ref (ad 7)) (C := "CarrierPaths$Fleet") (T := F_Fleet) (N := 8) hx hb hts in_Fleet hown hK hP 0 rfl rfl 6 (by decide) (hts _ kw106) (fun _ h9 => h9) rfl d_Fleet_addEmptyTime_1 ?_
  refine lv_iload_n hx hb d_Fleet_addEmptyTime_4 rfl (lv_at hl 1 rfl) ?_
  refine lv_dup2_11 hx hb d_Fleet_addEmptyTime_5 rfl rfl ?_
  obtain ⟨hi, h⟩ := h
  refine va_iald hx hb hK hP 7 0 rfl rfl hi d_Fleet_addEmptyTime_6 ?_
  refine lv_iload_n hx hb d_Fleet_addEmptyTime_7 rfl (lv_at hl 2 rfl) ?_
  refine lv_iadd hx hb d_Fleet_addEmptyTime_8 ?_
  obtain ⟨hi, h⟩ := h
  refine va_iast hx hb hK hP (D_Fleet inj) hS 7 0 rfl rfl hi d_Fleet_addEmptyTime_9 (fun H locs hP _ hS => ?_)
  have hP := up_Fleet_7 hP
  exact W.vret hx hb hr (fun t ht hW => ⟨⟨(sto σ 7 v1.toNatClampNeg ((σ 7 v1.toNatClampNeg) + v2)), rfl, h, hp_back ht hP⟩, hS.F ht⟩) hS.2.2 d_Fleet_addEmptyTime_10
def q_Fleet_arrive_b0 (J : Nat → Int32 → Int32 → Int32 → Sg → Prop) (Q : (Int32 → Sg → Prop)) (v1 v2 v3 : Int32) (σ : Sg) : Prop :=
  J 1 v1 0 0 σ
def q_Fleet_arrive_b1 (J : Nat → Int32 → Int32 → Int32 → Sg → Prop) (Q : (Int32 → Sg → Prop)) (v1 v2 v3 : Int32) (σ : Sg) : Prop :=
  (((σ 0 7) ≤ v3 → Q v2 σ) ∧ (¬ (σ 0 7) ≤ v3 → (q_Fleet_isOnPiece v3 σ (fun r1 => ((r1 = 0 → J 1 v1 v2 (v3 + 1) σ) ∧ (¬ r1 = 0 → (vp_in v3 6 ∧ ((v1 < (σ 3 v3.toNatClampNeg) → J 1 v1 v2 (v3 + 1) σ) ∧ (¬ v1 < (σ 3 v3.toNatClampNeg) → (vp_in v3 6 ∧ (vp_in v3 6 ∧ J 1 v1 (v2 + 1) (v3 + 1) (sto (sto σ 2 v3.toNatClampNeg (-1)) 3 v3.toNatClampNeg (-1)))))))))))))
def q_Fleet_arrive_j (Q : (Int32 → Sg → Prop)) : Nat → Nat → Int32 → Int32 → Int32 → Sg → Prop
  | 0, _, _, _, _, _ => False
  | n + 1, 0, v1, v2, v3, σ => q_Fleet_arrive_b0 (q_Fleet_arrive_j Q n) Q v1 v2 v3 σ
  | n + 1, 1, v1, v2, v3, σ => q_Fleet_arrive_b1 (q_Fleet_arrive_j Q n) Q v1 v2 v3 σ
  | _ + 1, _ + 2, _, _, _, _ => False
def q_Fleet_arrive (v1 : Int32) (σ : Sg) (Q : (Int32 → Sg → Prop)) : Prop := q_Fleet_arrive_j Q 4000 0 v1 0 0 σ
def lc_Fleet_arrive (ad : Nat → Nat) (b : Nat) (v1 v2 v3 : Int32) : List (Nat × Value) := match b with
  | 0 => [(0, .ref (ad 0)), (1, .int v1)]
  | 1 => [(0, .ref (ad 0)), (1, .int v1), (2, .int v2), (3, .int v3)]
  | _ => []
def pc_Fleet_arrive (b : Nat) : Nat := match b with
  | 0 => 0
  | 1 => 4
  | _ => 0
set_option maxHeartbeats 4000000 in
set_option maxRecDepth 100000 in
theorem t_Fleet_arrive (l : Launch) (D : va_G) (cI cZ : ClassId) (ad : Nat → Nat) (inj : Inj ad 8) (v1 : Int32) (σ : Sg) (Q : (Int32 → Sg → Prop)) (h : q_Fleet_arrive v1 σ Q) : Met l y_Fleet_arrive (.code y_Fleet_arrive prog_3_method_22_code 4 (some .int) :: TG) { frames := 1, cells := 0, slots := 0, locals := 21 } (va_Pc [.ref (ad 0), .int v1] (roB D (tysA cI cZ) (W_Fleet ad cI cZ σ))) (va_Qi Q (fun u t => va_P D classes (W_Fleet ad cI cZ u) t.heap) (inA ad 8)) 0 0 (inA ad 8) := by
  refine Met.ofW (cc := prog_3_method_22_code) (maxL := 4) (ret := (some .int)) (by decide) rfl ?_
  intro p e s m args below meth c s₁ B hml hv
  obtain ⟨rfl, hP, hK⟩ := hv
  have hx := B.exec
  have hb := B.bytes
  have hr := B.returns
  have hts : ∀ w ∈ TG, w.before [.ref (ad 0), .int v1].toArray s = true := fun w hw => atoms_spec (ws := .code y_Fleet_arrive prog_3_method_22_code 4 (some .int) :: TG) B.pre w (List.mem_cons_of_mem _ hw)
  have hown : s.vm.findClass "CarrierPaths$Fleet" = some m.cls := findClass_of_methodNamed B.named
  have hlocks := B.notSynchronized
  have hS : va_S (inA ad 8) s.heap s.heap [] := va_S.rf
  have hl := lv_entry ([.ref (ad 0), .int v1]) (n := 4) (Nat.le_of_ble_eq_true rfl)
  rw [lg_entry_eq]
  generalize (lg_sl ([.ref (ad 0), .int v1]) ++ List.replicate (4 - (lg_sl ([.ref (ad 0), .int v1])).length) Slot.unset).toArray = ls at hl ⊢
  generalize ([.ref (ad 0), .int v1] : List Value).toArray = args at hts ⊢
  have key : ∀ (n b : Nat) (v1 v2 v3 : Int32) (σ : Sg), q_Fleet_arrive_j Q n b v1 v2 v3 σ → ∀ (H : Heap) (locs : List Loc) (ls : Array Slot), va_P D classes (W_Fleet ad cI cZ σ) H → va_S (inA ad 8) s.heap H locs → lv_has ls 4 (lc_Fleet_arrive ad b v1 v2 v3) → W p l e (headSpec (.code y_Fleet_arrive prog_3_method_22_code 4 (some .int) :: TG) { frames := 1, cells := 0, slots := 0, locals := 21 }).room s m args below meth c H locs 0 0 (MQ below (va_Qi Q (fun u t => va_P D classes (W_Fleet ad cI cZ u) t.heap) (inA ad 8)) args s 0 0 (inA ad 8)) (F0 m (pc_Fleet_arrive b) ls []) := by
    clear h hl hP hS
    intro n
    induction n with
    | zero => intro b _ _ _ _ h; exact False.elim h
    | succ n ih =>
      intro b v1 v2 v3 σ h H locs ls hP hS hl
      match b, h, hl with
      | 0, h, hl =>
        have h : q_Fleet_arrive_b0 (q_Fleet_arrive_j Q n) Q v1 v2 v3 σ := h
        have hl : lv_has ls 4 [(0, .ref (ad 0)), (1, .int v1)] := hl
        refine W.eq (g2 := F0 m 0 ls []) rfl ?_
        unfold q_Fleet_arrive_b0 at h
        refine lv_iconst (v := 0) hx hb d_Fleet_arrive_0 (by decide) ?_
        refine lv_istore_n (lv' := [(2, .int 0), (0, .ref (ad 0)), (1, .int v1)]) hx hb d_Fleet_arrive_1 rfl hl (by decide) rfl (fun ls hl => ?_)
        refine lv_iconst (v := 0) hx hb d_Fleet_arrive_2 (by decide) ?_
        refine lv_istore_n (lv' := [(3, .int 0), (2, .int 0), (0, .ref (ad 0)), (1, .int v1)]) hx hb d_Fleet_arrive_3 rfl hl (by decide) rfl (fun ls hl => ?_)
        exact ih 1 v1 0 0 σ h _ _ _ hP hS (lv_sub hl [2, 3, 1, 0] rfl)
      | 1, h, hl =>
        have h : q_Fleet_arrive_b1 (q_Fleet_arrive_j Q n) Q v1 v2 v3 σ := h
        have hl : lv_has ls 4 [(0, .ref (ad 0)), (1, .int v1), (2, .int v2), (3, .int v3)] := hl
        refine W.eq (g2 := F0 m 4 ls []) rfl ?_
        unfold q_Fleet_arrive_b1 at h
        refine lv_iload_n hx hb d_Fleet_arrive_4 rfl (lv_at hl 3 rfl) ?_
        refine lv_aload_n hx hb d_Fleet_arrive_5 rfl (lv_at hl 0 rfl) ?_
        refine va_get (D := D) (ci := 1) (v := .int (σ 0 7)) (C := "CarrierPaths$Fleet") (T := F_Fleet) (N := 8) hx hb hts in_Fleet hown hK hP 0 rfl rfl 7 (by decide) (hts _ kw107) (fun _ h9 => h9) rfl d_Fleet_arrive_6 ?_
        refine lv_icmp_ge (tgt := 53) hx hb d_Fleet_arrive_9 (by decide) (fun hc => ?_) (fun hc => ?_)
        · have h := h.1 hc
          refine lv_iload_n hx hb d_Fleet_arrive_53 rfl (lv_at hl 2 rfl) ?_
          exact W.iret (v := v2) hx hb hr (fun t ht hW => ⟨⟨v2, σ, rfl, h, hp_back ht hP⟩, hS.F ht⟩) hS.2.2 d_Fleet_arrive_54
        · have h := h.2 hc
          refine lv_aload_n hx hb d_Fleet_arrive_12 rfl (lv_at hl 0 rfl) ?_
          refine lv_iload_n hx hb d_Fleet_arrive_13 rfl (lv_at hl 3 rfl) ?_
          refine vp_callSi (W.runV (As := [.int v3]) (rest := []) ⟨hx, hb, hml, hown, hts⟩ (t_Fleet_isOnPiece l D cI cZ ad v3 σ _ h) (cwV 1 hts (g_of kw266 kw267 kw268 kw6 kw269) rfl rfl rfl (by decide +kernel) ⟨Nat.le_of_ble_eq_true rfl, Nat.le_of_ble_eq_true rfl⟩) (ro_pre hK hP (va_recv hK hP (ci := 1) (q0 := 0) rfl rfl)) rfl rfl hl.1 rfl (lv_room (Nat.le_of_ble_eq_true rfl)) d_Fleet_arrive_14 ⟨Nat.le_of_ble_eq_true rfl, Nat.le_of_ble_eq_true rfl⟩) (fun r1 h => ?_)
          refine lv_if_eq (tgt := 47) hx hb d_Fleet_arrive_17 (by decide) (fun hc => ?_) (fun hc => ?_)
          · have h := h.1 hc
            refine lv_iinc (v := (v3 + 1)) (lv' := [(3, .int (v3 + 1)), (0, .ref (ad 0)), (1, .int v1), (2, .int v2)]) hx hb d_Fleet_arrive_47 hl (k := 3) rfl rfl (by decide) rfl (fun ls hl => ?_)
            refine lv_goto (tgt := 4) hx hb d_Fleet_arrive_50 (by decide) ?_
            exact ih 1 v1 v2 (v3 + 1) σ h _ _ _ hP hS (lv_sub hl [1, 2, 3, 0] rfl)
          · have h := h.2 hc
            refine lv_aload_n hx hb d_Fleet_arrive_20 rfl (lv_at hl 0 rfl) ?_
            refine va_get (D := D) (ci := 1) (v := .ref (ad 3)) (C := "CarrierPaths$Fleet") (T := F_Fleet) (N := 8) hx hb hts in_Fleet hown hK hP 0 rfl rfl 2 (by decide) (hts _ kw102) (fun _ h9 => h9) rfl d_Fleet_arrive_21 ?_
            refine lv_iload_n hx hb d_Fleet_arrive_24 rfl (lv_at hl 3 rfl) ?_
            obtain ⟨hi, h⟩ := h
            refine va_iald hx hb hK hP 3 0 rfl rfl hi d_Fleet_arrive_25 ?_
            refine lv_iload_n hx hb d_Fleet_arrive_26 rfl (lv_at hl 1 rfl) ?_
            refine lv_icmp_gt (tgt := 47) hx hb d_Fleet_arrive_27 (by decide) (fun hc => ?_) (fun hc => ?_)
            · have h := h.1 hc
              refine lv_iinc (v := (v3 + 1)) (lv' := [(3, .int (v3 + 1)), (0, .ref (ad 0)), (1, .int v1), (2, .int v2)]) hx hb d_Fleet_arrive_47 hl (k := 3) rfl rfl (by decide) rfl (fun ls hl => ?_)
              refine lv_goto (tgt := 4) hx hb d_Fleet_arrive_50 (by decide) ?_
              exact ih 1 v1 v2 (v3 + 1) σ h _ _ _ hP hS (lv_sub hl [1, 2, 3, 0] rfl)
            · have h := h.2 hc
              refine lv_aload_n hx hb d_Fleet_arrive_30 rfl (lv_at hl 0 rfl) ?_
              refine va_get (D := D) (ci := 1) (v := .ref (ad 2)) (C := "CarrierPaths$Fleet") (T := F_Fleet) (N := 8) hx hb hts in_Fleet hown hK hP 0 rfl rfl 1 (by decide) (hts _ kw101) (fun _ h9 => h9) rfl d_Fleet_arrive_31 ?_
              refine lv_iload_n hx hb d_Fleet_arrive_34 rfl (lv_at hl 3 rfl) ?_
              refine lv_iconst (v := (-1)) hx hb d_Fleet_arrive_35 (by decide) ?_
              obtain ⟨hi, h⟩ := h
              refine va_iast hx hb hK hP (D_Fleet inj) hS 2 0 rfl rfl hi d_Fleet_arrive_36 (fun H locs hP _ hS => ?_)
              have hP := up_Fleet_2 hP
              refine lv_aload_n hx hb d_Fleet_arrive_37 rfl (lv_at hl 0 rfl) ?_
              refine va_get (D := D) (ci := 1) (v := .ref (ad 3)) (C := "CarrierPaths$Fleet") (T := F_Fleet) (N := 8) hx hb hts in_Fleet hown hK hP 0 rfl rfl 2 (by decide) (hts _ kw102) (fun _ h9 => h9) rfl d_Fleet_arrive_38 ?_
              refine lv_iload_n hx hb d_Fleet_arrive_41 rfl (lv_at hl 3 rfl) ?_
              refine lv_iconst (v := (-1)) hx hb d_Fleet_arrive_42 (by decide) ?_
              obtain ⟨hi, h⟩ := h
              refine va_iast hx hb hK hP (D_Fleet inj) hS 3 0 rfl rfl hi d_Fleet_arrive_43 (fun H locs hP _ hS => ?_)
              have hP := up_Fleet_3 hP
              refine lv_iinc (v := (v2 + 1)) (lv' := [(2, .int (v2 + 1)), (0, .ref (ad 0)), (1, .int v1), (3, .int v3)]) hx hb d_Fleet_arrive_44 hl (k := 2) rfl rfl (by decide) rfl (fun ls hl => ?_)
              refine lv_iinc (v := (v3 + 1)) (lv' := [(3, .int (v3 + 1)), (2, .int (v2 + 1)), (0, .ref (ad 0)), (1, .int v1)]) hx hb d_Fleet_arrive_47 hl (k := 3) rfl rfl (by decide) rfl (fun ls hl => ?_)
              refine lv_goto (tgt := 4) hx hb d_Fleet_arrive_50 (by decide) ?_
              exact ih 1 v1 (v2 + 1) (v3 + 1) (sto (sto σ 2 v3.toNatClampNeg (-1)) 3 v3.toNatClampNeg (-1)) h _ _ _ hP hS (lv_sub hl [2, 3, 1, 0] rfl)
      | _ + 2, h, _ => exact False.elim h
  exact key 4000 0 v1 0 0 σ h s.heap [] ls hP hS hl
