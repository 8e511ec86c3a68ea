def W_Jobs (ad : Nat → Nat) (cI cZ : ClassId) (σ : Sg) : va_W :=
  [(ad 0, .inr (2, [.ref (ad 1), .ref (ad 2), .ref (ad 3), .ref (ad 4), .int (σ 0 4)])),
   (ad 1, .inl (cI, 12, .inl (σ 1))),
   (ad 2, .inl (cI, 12, .inl (σ 2))),
   (ad 3, .inl (cI, 12, .inl (σ 3))),
   (ad 4, .inl (cI, 12, .inl (σ 4)))]
theorem D_Jobs {ad : Nat → Nat} {cI cZ : ClassId} {σ : Sg} (inj : Inj ad 5) : va_D (inA ad 5) (W_Jobs ad cI cZ σ) := D_of inj rfl
theorem up_Jobs_f4 {D : va_G} {ad : Nat → Nat} {cI cZ : ClassId} {σ : Sg} {H : Heap} {v : Int32} (h : va_P D classes ((W_Jobs ad cI cZ σ).set 0 (ad 0, .inr (2, ([.ref (ad 1), .ref (ad 2), .ref (ad 3), .ref (ad 4), .int (σ 0 4)] : List Value).set 4 (.int v)))) H) : va_P D classes (W_Jobs ad cI cZ (sto σ 0 4 v)) H := h
theorem up_Jobs_1 {D : va_G} {ad : Nat → Nat} {cI cZ : ClassId} {σ : Sg} {H : Heap} {i : Nat} {v : Int32} (h : va_P D classes ((W_Jobs ad cI cZ σ).set 1 (ad 1, .inl (cI, 12, .inl (upd (σ 1) i v)))) H) : va_P D classes (W_Jobs ad cI cZ (sto σ 1 i v)) H := h
theorem up_Jobs_2 {D : va_G} {ad : Nat → Nat} {cI cZ : ClassId} {σ : Sg} {H : Heap} {i : Nat} {v : Int32} (h : va_P D classes ((W_Jobs ad cI cZ σ).set 2 (ad 2, .inl (cI, 12, .inl (upd (σ 2) i v)))) H) : va_P D classes (W_Jobs ad cI cZ (sto σ 2 i v)) H := h
theorem up_Jobs_3 {D : va_G} {ad : Nat → Nat} {cI cZ : ClassId} {σ : Sg} {H : Heap} {i : Nat} {v : Int32} (h : va_P D classes ((W_Jobs ad cI cZ σ).set 3 (ad 3, .inl (cI, 12, .inl (upd (σ 3) i v)))) H) : va_P D classes (W_Jobs ad cI cZ (sto σ 3 i v)) H := h
theorem up_Jobs_4 {D : va_G} {ad : Nat → Nat} {cI cZ : ClassId} {σ : Sg} {H : Heap} {i : Nat} {v : Int32} (h : va_P D classes ((W_Jobs ad cI cZ σ).set 4 (ad 4, .inl (cI, 12, .inl (upd (σ 4) i v)))) H) : va_P D classes (W_Jobs ad cI cZ (sto σ 4 i v)) H := h
def q_Jobs_size (σ : Sg) (Q : (Int32 → Prop)) : Prop :=
  Q (σ 0 4)
set_option maxHeartbeats 4000000 in
set_option maxRecDepth 100000 in
theorem t_Jobs_size (l : Launch) (D : va_G) (cI cZ : ClassId) (ad : Nat → Nat) (σ : Sg) (Q : (Int32 → Prop)) (h : q_Jobs_size σ Q) : Met l y_Jobs_size (.code y_Jobs_size prog_4_method_2_code 1 (some .int) :: TG) { frames := 0, cells := 0, slots := 0, locals := 0 } (va_Pc [.ref (ad 0)] (roB D (tysA cI cZ) (W_Jobs ad cI cZ σ))) (vp_Si Q) 0 0 (fun _ => False) := by
  refine Met.ofW (cc := prog_4_method_2_code) (maxL := 1) (ret := (some .int)) (by decide) rfl ?_
  intro p e s m args below meth c s₁ B hml hv
  obtain ⟨rfl, hP, hK⟩ := hv
  have hx := B.exec
  have hb := B.bytes
  have hr := B.returns
  have hts : ∀ w ∈ TG, w.before [.ref (ad 0)].toArray s = true := fun w hw => atoms_spec (ws := .code y_Jobs_size prog_4_method_2_code 1 (some .int) :: TG) B.pre w (List.mem_cons_of_mem _ hw)
  have hown : s.vm.findClass "CarrierPaths$Jobs" = some m.cls := findClass_of_methodNamed B.named
  have hlocks := B.notSynchronized
  have hl := lv_entry ([.ref (ad 0)]) (n := 1) (Nat.le_of_ble_eq_true rfl)
  rw [lg_entry_eq]
  generalize (lg_sl ([.ref (ad 0)]) ++ List.replicate (1 - (lg_sl ([.ref (ad 0)])).length) Slot.unset).toArray = ls at hl ⊢
  have hl : lv_has ls 1 [(0, .ref (ad 0))] := hl
  unfold q_Jobs_size at h
  refine lv_aload_n hx hb d_Jobs_size_0 rfl (lv_at hl 0 rfl) ?_
  refine va_get (D := D) (ci := 2) (v := .int (σ 0 4)) (C := "CarrierPaths$Jobs") (T := F_Jobs) (N := 5) hx hb hts in_Jobs hown hK hP 0 rfl rfl 4 (by decide) (hts _ kw135) (fun _ h9 => h9) rfl d_Jobs_size_1 ?_
  exact W.iret (v := (σ 0 4)) hx hb hr (fun t ht hW => ⟨(σ 0 4), rfl, h, ht⟩) (fun q hq => by cases hq) d_Jobs_size_4
def q_Jobs_has (v1 : Int32) (σ : Sg) (Q : (Int32 → Prop)) : Prop :=
  ((v1 < 0 → Q 0) ∧ (¬ v1 < 0 → (((σ 0 4) ≤ v1 → Q 0) ∧ (¬ (σ 0 4) ≤ v1 → Q 1))))
set_option maxHeartbeats 4000000 in
set_option maxRecDepth 100000 in
theorem t_Jobs_has (l : Launch) (D : va_G) (cI cZ : ClassId) (ad : Nat → Nat) (v1 : Int32) (σ : Sg) (Q : (Int32 → Prop)) (h : q_Jobs_has v1 σ Q) : Met l y_Jobs_has (.code y_Jobs_has prog_4_method_3_code 2 (some .boolean) :: TG) { frames := 0, cells := 0, slots := 0, locals := 0 } (va_Pc [.ref (ad 0), .int v1] (roB D (tysA cI cZ) (W_Jobs ad cI cZ σ))) (vp_Si Q) 0 0 (fun _ => False) := by
  refine Met.ofW (cc := prog_4_method_3_code) (maxL := 2) (ret := (some .boolean)) (by decide) rfl ?_
  intro p e s m args below meth c s₁ B hml hv
  obtain ⟨rfl, hP, hK⟩ := hv
  have hx := B.exec
  have hb := B.bytes
  have hr := B.returns
  have hts : ∀ w ∈ TG, w.before [.ref (ad 0), .int v1].toArray s = true := fun w hw => atoms_spec (ws := .code y_Jobs_has prog_4_method_3_code 2 (some .boolean) :: TG) B.pre w (List.mem_cons_of_mem _ hw)
  have hown : s.vm.findClass "CarrierPaths$Jobs" = some m.cls := findClass_of_methodNamed B.named
  have hlocks := B.notSynchronized
  have hl := lv_entry ([.ref (ad 0), .int v1]) (n := 2) (Nat.le_of_ble_eq_true rfl)
  rw [lg_entry_eq]
  generalize (lg_sl ([.ref (ad 0), .int v1]) ++ List.replicate (2 - (lg_sl ([.ref (ad 0), .int v1])).length) Slot.unset).toArray = ls at hl ⊢
  have hl : lv_has ls 2 [(0, .ref (ad 0)), (1, .int v1)] := hl
  unfold q_Jobs_has at h
  refine lv_iload_n hx hb d_Jobs_has_0 rfl (lv_at hl 1 rfl) ?_
  refine lv_if_lt (tgt := 16) hx hb d_Jobs_has_1 (by decide) (fun hc => ?_) (fun hc => ?_)
  · have h := h.1 hc
    refine lv_iconst (v := 0) hx hb d_Jobs_has_16 (by decide) ?_
    exact W.zret (v := 0) hx hb hr (by decide) (fun t ht hW => ⟨0, rfl, h, ht⟩) (fun q hq => by cases hq) d_Jobs_has_17
  · have h := h.2 hc
    refine lv_iload_n hx hb d_Jobs_has_4 rfl (lv_at hl 1 rfl) ?_
    refine lv_aload_n hx hb d_Jobs_has_5 rfl (lv_at hl 0 rfl) ?_
    refine va_get (D := D) (ci := 2) (v := .int (σ 0 4)) (C := "CarrierPaths$Jobs") (T := F_Jobs) (N := 5) hx hb hts in_Jobs hown hK hP 0 rfl rfl 4 (by decide) (hts _ kw135) (fun _ h9 => h9) rfl d_Jobs_has_6 ?_
    refine lv_icmp_ge (tgt := 16) hx hb d_Jobs_has_9 (by decide) (fun hc => ?_) (fun hc => ?_)
    · have h := h.1 hc
      refine lv_iconst (v := 0) hx hb d_Jobs_has_16 (by decide) ?_
      exact W.zret (v := 0) hx hb hr (by decide) (fun t ht hW => ⟨0, rfl, h, ht⟩) (fun q hq => by cases hq) d_Jobs_has_17
    · have h := h.2 hc
      refine lv_iconst (v := 1) hx hb d_Jobs_has_12 (by decide) ?_
      refine lv_goto (tgt := 17) hx hb d_Jobs_has_13 (by decide) ?_
      exact W.zret (v := 1) hx hb hr (by decide) (fun t ht hW => ⟨1, rfl, h, ht⟩) (fun q hq => by cases hq) d_Jobs_has_17
def q_Jobs_add (v1 v2 : Int32) (σ : Sg) (Q : (Int32 → Sg → Prop)) : Prop :=
  (vp_in (σ 0 4) 12 ∧ (vp_in (σ 0 4) 12 ∧ (vp_in (σ 0 4) 12 ∧ (vp_in (σ 0 4) 12 ∧ Q (σ 0 4) (sto (sto (sto (sto (sto σ 1 (σ 0 4).toNatClampNeg v1) 2 (σ 0 4).toNatClampNeg v2) 3 (σ 0 4).toNatClampNeg 0) 4 (σ 0 4).toNatClampNeg (-1)) 0 4 (((sto (sto (sto (sto σ 1 (σ 0 4).toNatClampNeg v1) 2 (σ 0 4).toNatClampNeg v2) 3 (σ 0 4).toNatClampNeg 0) 4 (σ 0 4).toNatClampNeg (-1)) 0 4) + 1))))))
set_option maxHeartbeats 4000000 in
set_option maxRecDepth 100000 in
theorem t_Jobs_add (l : Launch) (D : va_G) (cI cZ : ClassId) (ad : Nat → Nat) (inj : Inj ad 5) (v1 v2 : Int32) (σ : Sg) (Q : (Int32 → Sg → Prop)) (h : q_Jobs_add v1 v2 σ Q) : Met l y_Jobs_add (.code y_Jobs_add prog_4_method_4_code 4 (some .int) :: TG) { frames := 0, cells := 0, slots := 0, locals := 0 } (va_Pc [.ref (ad 0), .int v1, .int v2] (roB D (tysA cI cZ) (W_Jobs ad cI cZ σ))) (va_Qi Q (fun u t => va_P D classes (W_Jobs ad cI cZ u) t.heap) (inA ad 5)) 0 0 (inA ad 5) := by
  refine Met.ofW (cc := prog_4_method_4_code) (maxL := 4) (ret := (some .int)) (by decide) rfl ?_
  intro p e s m args below meth c s₁ B hml hv
  obtain ⟨rfl, hP, hK⟩ := hv
  have hx := B.exec
  have hb := B.bytes
  have hr := B.returns
  have hts : ∀ w ∈ TG, w.before [.ref (ad 0), .int v1, .int v2].toArray s = true := fun w hw => atoms_spec (ws := .code y_Jobs_add prog_4_method_4_code 4 (some .int) :: TG) B.pre w (List.mem_cons_of_mem _ hw)
  have hown : s.vm.findClass "CarrierPaths$Jobs" = some m.cls := findClass_of_methodNamed B.named
  have hlocks := B.notSynchronized
  have hS : va_S (inA ad 5) s.heap s.heap [] := va_S.rf
  have hl := lv_entry ([.ref (ad 0), .int v1, .int v2]) (n := 4) (Nat.le_of_ble_eq_true rfl)
  rw [lg_entry_eq]
  generalize (lg_sl ([.ref (ad 0), .int v1, .int v2]) ++ List.replicate (4 - (lg_sl ([.ref (ad 0), .int v1, .int v2])).length) Slot.unset).toArray = ls at hl ⊢
  have hl : lv_has ls 4 [(0, .ref (ad 0)), (1, .int v1), (2, .int v2)] := hl
  unfold q_Jobs_add at h
  refine lv_aload_n hx hb d_Jobs_add_0 rfl (lv_at hl 0 rfl) ?_
  refine va_get (D := D) (ci := 2) (v := .int (σ 0 4)) (C := "CarrierPaths$Jobs") (T := F_Jobs) (N := 5) hx hb hts in_Jobs hown hK hP 0 rfl rfl 4 (by decide) (hts _ kw135) (fun _ h9 => h9) rfl d_Jobs_add_1 ?_
  refine lv_istore_n (lv' := [(3, .int (σ 0 4)), (0, .ref (ad 0)), (1, .int v1), (2, .int v2)]) hx hb d_Jobs_add_4 rfl hl (by decide) rfl (fun ls hl => ?_)
  refine lv_aload_n hx hb d_Jobs_add_5 rfl (lv_at hl 1 rfl) ?_
  refine va_get (D := D) (ci := 2) (v := .ref (ad 1)) (C := "CarrierPaths$Jobs") (T := F_Jobs) (N := 5) hx hb hts in_Jobs hown hK hP 0 rfl rfl 0 (by decide) (hts _ kw131) (fun _ h9 => h9) rfl d_Jobs_add_6 ?_
  refine lv_iload_n hx hb d_Jobs_add_9 rfl (lv_at hl 0 rfl) ?_
  refine lv_iload_n hx hb d_Jobs_add_10 rfl (lv_at hl 2 rfl) ?_
  obtain ⟨hi, h⟩ := h
  refine va_iast hx hb hK hP (D_Jobs inj) hS 1 0 rfl rfl hi d_Jobs_add_11 (fun H locs hP _ hS => ?_)
  have hP := up_Jobs_1 hP
  refine lv_aload_n hx hb d_Jobs_add_12 rfl (lv_at hl 1 rfl) ?_
  refine va_get (D := D) (ci := 2) (v := .ref (ad 2)) (C := "CarrierPaths$Jobs") (T := F_Jobs) (N := 5) hx hb hts in_Jobs hown hK hP 0 rfl rfl 1 (by decide) (hts _ kw132) (fun _ h9 => h9) rfl d_Jobs_add_13 ?_
  refine lv_iload_n hx hb d_Jobs_add_16 rfl (lv_at hl 0 rfl) ?_
  refine lv_iload_n hx hb d_Jobs_add_17 rfl (lv_at hl 3 rfl) ?_
  obtain ⟨hi, h⟩ := h
  refine va_iast hx hb hK hP (D_Jobs inj) hS 2 0 rfl rfl hi d_Jobs_add_18 (fun H locs hP _ hS => ?_)
  have hP := up_Jobs_2 hP
  refine lv_aload_n hx hb d_Jobs_add_19 rfl (lv_at hl 1 rfl) ?_
  refine va_get (D := D) (ci := 2) (v := .ref (ad 3)) (C := "CarrierPaths$Jobs") (T := F_Jobs) (N := 5) hx hb hts in_Jobs hown hK hP 0 rfl rfl 2 (by decide) (hts _ kw133) (fun _ h9 => h9) rfl d_Jobs_add_20 ?_
  refine lv_iload_n hx hb d_Jobs_add_23 rfl (lv_at hl 0 rfl) ?_
  refine lv_iconst (v := 0) hx hb d_Jobs_add_24 (by decide) ?_
  obtain ⟨hi, h⟩ := h
  refine va_iast hx hb hK hP (D_Jobs inj) hS 3 0 rfl rfl hi d_Jobs_add_25 (fun H locs hP _ hS => ?_)
  have hP := up_Jobs_3 hP
  refine lv_aload_n hx hb d_Jobs_add_26 rfl (lv_at hl 1 rfl) ?_
  refine va_get (D := D) (ci := 2) (v := .ref (ad 4)) (C := "CarrierPaths$Jobs") (T := F_Jobs) (N := 5) hx hb hts in_Jobs hown hK hP 0 rfl rfl 3 (by decide) (hts _ kw134) (fun _ h9 => h9) rfl d_Jobs_add_27 ?_
  refine lv_iload_n hx hb d_Jobs_add_30 rfl (lv_at hl 0 rfl) ?_
  refine lv_iconst (v := (-1)) hx hb d_Jobs_add_31 (by decide) ?_
  obtain ⟨hi, h⟩ := h
  refine va_iast hx hb hK hP (D_Jobs inj) hS 4 0 rfl rfl hi d_Jobs_add_32 (fun H locs hP _ hS => ?_)
  have hP := up_Jobs_4 hP
  refine lv_aload_n hx hb d_Jobs_add_33 rfl (lv_at hl 1 rfl) ?_
  refine lv_dup hx hb d_Jobs_add_34 rfl ?_
  refine va_get (D := D) (ci := 2) (v := .int ((sto (sto (sto (sto σ 1 (σ 0 4).toNatClampNeg v1) 2 (σ 0 4).toNatClampNeg v2) 3 (σ 0 4).toNatClampNeg 0) 4 (σ 0 4).toNatClampNeg (-1)) 0 4)) (C := "CarrierPaths$Jobs") (T := F_Jobs) (N := 5) hx hb hts in_Jobs hown hK hP 0 rfl rfl 4 (by decide) (hts _ kw135) (fun _ h9 => h9) rfl d_Jobs_add_35 ?_
  refine lv_iconst (v := 1) hx hb d_Jobs_add_38 (by decide) ?_
  refine lv_iadd hx hb d_Jobs_add_39 ?_
  refine va_put (D := D) (ci := 2) (v := .int (((sto (sto (sto (sto σ 1 (σ 0 4).toNatClampNeg v1) 2 (σ 0 4).toNatClampNeg v2) 3 (σ 0 4).toNatClampNeg 0) 4 (σ 0 4).toNatClampNeg (-1)) 0 4) + 1)) (ty := .int) (C := "CarrierPaths$Jobs") (T := F_Jobs) (N := 5) hx hb hts in_Jobs ty_Jobs ty_Jobs_ok nm_Jobs hown hK hP (D_Jobs inj) hS 0 rfl rfl 4 (by decide) (hts _ kw135) (fun _ h9 => h9) rfl (by decide +kernel) rfl rfl (Nat.le_of_ble_eq_true rfl) d_Jobs_add_40 (fun H locs hP _ hS => ?_)
  have hP := up_Jobs_f4 hP
  refine lv_iload_n hx hb d_Jobs_add_43 rfl (lv_at hl 0 rfl) ?_
  exact W.iret (v := (σ 0 4)) hx hb hr (fun t ht hW => ⟨⟨(σ 0 4), (sto (sto (sto (sto (sto σ 1 (σ 0 4).toNatClampNeg v1) 2 (σ 0 4).toNatClampNeg v2) 3 (σ 0 4).toNatClampNeg 0) 4 (σ 0 4).toNatClampNeg (-1)) 0 4 (((sto (sto (sto (sto σ 1 (σ 0 4).toNatClampNeg v1) 2 (σ 0 4).toNatClampNeg v2) 3 (σ 0 4).toNatClampNeg 0) 4 (σ 0 4).toNatClampNeg (-1)) 0 4) + 1)), rfl, h, hp_back ht hP⟩, hS.F ht⟩) hS.2.2 d_Jobs_add_44
def q_Jobs_fromOf (v1 : Int32) (σ : Sg) (Q : (Int32 → Prop)) : Prop :=
  (vp_in v1 12 ∧ Q (σ 1 v1.toNatClampNeg))
set_option maxHeartbeats 4000000 in
set_option maxRecDepth 100000 in
theorem t_Jobs_fromOf (l : Launch) (D : va_G) (cI cZ : ClassId) (ad : Nat → Nat) (v1 : Int32) (σ : Sg) (Q : (Int32 → Prop)) (h : q_Jobs_fromOf v1 σ Q) : Met l y_Jobs_fromOf (.code y_Jobs_fromOf prog_4_method_5_code 2 (some .int) :: TG) { frames := 0, cells := 0, slots := 0, locals := 0 } (va_Pc [.ref (ad 0), .int v1] (roB D (tysA cI cZ) (W_Jobs ad cI cZ σ))) (vp_Si Q) 0 0 (fun _ => False) := by
  refine Met.ofW (cc := prog_4_method_5_code) (maxL := 2) (ret := (some .int)) (by decide) rfl ?_
  intro p e s m args below meth c s₁ B hml hv
  obtain ⟨rfl, hP, hK⟩ := hv
  have hx := B.exec
  have hb := B.bytes
  have hr := B.returns
  have hts : ∀ w ∈ TG, w.before [.ref (ad 0), .int v1].toArray s = true := fun w hw => atoms_spec (ws := .code y_Jobs_fromOf prog_4_method_5_code 2 (some .int) :: TG) B.pre w (List.mem_cons_of_mem _ hw)
  have hown : s.vm.findClass "CarrierPaths$Jobs" = some m.cls := findClass_of_methodNamed B.named
  have hlocks := B.notSynchronized
  have hl := lv_entry ([.ref (ad 0), .int v1]) (n := 2) (Nat.le_of_ble_eq_true rfl)
  rw [lg_entry_eq]
  generalize (lg_sl ([.ref (ad 0), .int v1]) ++ List.replicate (2 - (lg_sl ([.ref (ad 0), .int v1])).length) Slot.unset).toArray = ls at hl ⊢
  have hl : lv_has ls 2 [(0, .ref (ad 0)), (1, .int v1)] := hl
  unfold q_Jobs_fromOf at h
  refine lv_aload_n hx hb d_Jobs_fromOf_0 rfl (lv_at hl 0 rfl) ?_
  refine va_get (D := D) (ci := 2) (v := .ref (ad 1)) (C := "CarrierPaths$Jobs") (T := F_Jobs) (N := 5) hx hb hts in_Jobs hown hK hP 0 rfl rfl 0 (by decide) (hts _ kw131) (fun _ h9 => h9) rfl d_Jobs_fromOf_1 ?_
  refine lv_iload_n hx hb d_Jobs_fromOf_4 rfl (lv_at hl 1 rfl) ?_
  obtain ⟨hi, h⟩ := h
  refine va_iald hx hb hK hP 1 0 rfl rfl hi d_Jobs_fromOf_5 ?_
  exact W.iret (v := (σ 1 v1.toNatClampNeg)) hx hb hr (fun t ht hW => ⟨(σ 1 v1.toNatClampNeg), rfl, h, ht⟩) (fun q hq => by cases hq) d_Jobs_fromOf_6
def q_Jobs_toOf (v1 : Int32) (σ : Sg) (Q : (Int32 → Prop)) : Prop :=
  (vp_in v1 12 ∧ Q (σ 2 v1.toNatClampNeg))
set_option maxHeartbeats 4000000 in
set_option maxRecDepth 100000 in
theorem t_Jobs_toOf (l : Launch) (D : va_G) (cI cZ : ClassId) (ad : Nat → Nat) (v1 : Int32) (σ : Sg) (Q : (Int32 → Prop)) (h : q_Jobs_toOf v1 σ Q) : Met l y_Jobs_toOf (.code y_Jobs_toOf prog_4_method_6_code 2 (some .int) :: TG) { frames := 0, cells := 0, slots := 0, locals := 0 } (va_Pc [.ref (ad 0), .int v1] (roB D (tysA cI cZ) (W_Jobs ad cI cZ σ))) (vp_Si Q) 0 0 (fun _ => False) := by
  refine Met.ofW (cc := prog_4_method_6_code) (maxL := 2) (ret := (some .int)) (by decide) rfl ?_
  intro p e s m args below meth c s₁ B hml hv
  obtain ⟨rfl, hP, hK⟩ := hv
  have hx := B.exec
  have hb := B.bytes
  have hr := B.returns
  have hts : ∀ w ∈ TG, w.before [.ref (ad 0), .int v1].toArray s = true := fun w hw => atoms_spec (ws := .code y_Jobs_toOf prog_4_method_6_code 2 (some .int) :: TG) B.pre w (List.mem_cons_of_mem _ hw)
  have hown : s.vm.findClass "CarrierPaths$Jobs" = some m.cls := findClass_of_methodNamed B.named
  have hlocks := B.notSynchronized
  have hl := lv_entry ([.ref (ad 0), .int v1]) (n := 2) (Nat.le_of_ble_eq_true rfl)
  rw [lg_entry_eq]
  generalize (lg_sl ([.ref (ad 0), .int v1]) ++ List.replicate (2 - (lg_sl ([.ref (ad 0), .int v1])).length) Slot.unset).toArray = ls at hl ⊢
  have hl : lv_has ls 2 [(0, .ref (ad 0)), (1, .int v1)] := hl
  unfold q_Jobs_toOf at h
  refine lv_aload_n hx hb d_Jobs_toOf_0 rfl (lv_at hl 0 rfl) ?_
  refine va_get (D := D) (ci := 2) (v := .ref (ad 2)) (C := "CarrierPaths$Jobs") (T := F_Jobs) (N := 5) hx hb hts in_Jobs hown hK hP 0 rfl rfl 1 (by decide) (hts _ kw132) (fun _ h9 => h9) rfl d_Jobs_toOf_1 ?_
  refine lv_iload_n hx hb d_Jobs_toOf_4 rfl (lv_at hl 1 rfl) ?_
  obtain ⟨hi, h⟩ := h
  refine va_iald hx hb hK hP 2 0 rfl rfl hi d_Jobs_toOf_5 ?_
  exact W.iret (v := (σ 2 v1.toNatClampNeg)) hx hb hr (fun t ht hW => ⟨(σ 2 v1.toNatClampNeg), rfl, h, ht⟩) (fun q hq => by cases hq) d_Jobs_toOf_6
def q_Jobs_stateOf (v1 : Int32) (σ : Sg) (Q : (Int32 → Prop)) : Prop :=
  (vp_in v1 12 ∧ Q (σ 3 v1.toNatClampNeg))
set_option maxHeartbeats 4000000 in
set_option maxRecDepth 100000 in
theorem t_Jobs_stateOf (l : Launch) (D : va_G) (cI cZ : ClassId) (ad : Nat → Nat) (v1 : Int32) (σ : Sg) (Q : (Int32 → Prop)) (h : q_Jobs_stateOf v1 σ Q) : Met l y_Jobs_stateOf (.code y_Jobs_stateOf prog_4_method_7_code 2 (some .int) :: TG) { frames := 0, cells := 0, slots := 0, locals := 0 } (va_Pc [.ref (ad 0), .int v1] (roB D (tysA cI cZ) (W_Jobs ad cI cZ σ))) (vp_Si Q) 0 0 (fun _ => False) := by
  refine Met.ofW (cc := prog_4_method_7_code) (maxL := 2) (ret := (some .int)) (by decide) rfl ?_
  intro p e s m args below meth c s₁ B hml hv
  obtain ⟨rfl, hP, hK⟩ := hv
  have hx := B.exec
  have hb := B.bytes
  have hr := B.returns
  have hts : ∀ w ∈ TG, w.before [.ref (ad 0), .int v1].toArray s = true := fun w hw => atoms_spec (ws := .code y_Jobs_stateOf prog_4_method_7_code 2 (some .int) :: TG) B.pre w (List.mem_cons_of_mem _ hw)
  have hown : s.vm.findClass "CarrierPaths$Jobs" = some m.cls := findClass_of_methodNamed B.named
  have hlocks := B.notSynchronized
  have hl := lv_entry ([.ref (ad 0), .int v1]) (n := 2) (Nat.le_of_ble_eq_true rfl)
  rw [lg_entry_eq]
  generalize (lg_sl ([.ref (ad 0), .int v1]) ++ List.replicate (2 - (lg_sl ([.ref (ad 0), .int v1])).length) Slot.unset).toArray = ls at hl ⊢
  have hl : lv_has ls 2 [(0, .ref (ad 0)), (1, .int v1)] := hl
  unfold q_Jobs_stateOf at h
  refine lv_aload_n hx hb d_Jobs_stateOf_0 rfl (lv_at hl 0 rfl) ?_
  refine va_get (D := D) (ci := 2) (v := .ref (ad 3)) (C := "CarrierPaths$Jobs") (T := F_Jobs) (N := 5) hx hb hts in_Jobs hown hK hP 0 rfl rfl 2 (by decide) (hts _ kw133) (fun _ h9 => h9) rfl d_Jobs_stateOf_1 ?_
  refine lv_iload_n hx hb d_Jobs_stateOf_4 rfl (lv_at hl 1 rfl) ?_
  obtain ⟨hi, h⟩ := h
  refine va_iald hx hb hK hP 3 0 rfl rfl hi d_Jobs_stateOf_5 ?_
  exact W.iret (v := (σ 3 v1.toNatClampNeg)) hx hb hr (fun t ht hW => ⟨(σ 3 v1.toNatClampNeg), rfl, h, ht⟩) (fun q hq => by cases hq) d_Jobs_stateOf_6
def q_Jobs_carrierOf (v1 : Int32) (σ : Sg) (Q : (Int32 → Prop)) : Prop :=
  (vp_in v1 12 ∧ Q (σ 4 v1.toNatClampNeg))
set_option maxHeartbeats 4000000 in
set_option maxRecDepth 100000 in
theorem t_Jobs_carrierOf (l : Launch) (D : va_G) (cI cZ : ClassId) (ad : Nat → Nat) (v1 : Int32) (σ : Sg) (Q : (Int32 → Prop)) (h : q_Jobs_carrierOf v1 σ Q) : Met l y_Jobs_carrierOf (.code y_Jobs_carrierOf prog_4_method_8_code 2 (some .int) :: TG) { frames := 0, cells := 0, slots := 0, locals := 0 } (va_Pc [.ref (ad 0), .int v1] (roB D (tysA cI cZ) (W_Jobs ad cI cZ σ))) (vp_Si Q) 0 0 (fun _ => False) := by
  refine Met.ofW (cc := prog_4_method_8_code) (maxL := 2) (ret := (some .int)) (by decide) rfl ?_
  intro p e s m args below meth c s₁ B hml hv
  obtain ⟨rfl, hP, hK⟩ := hv
  have hx := B.exec
  have hb := B.bytes
  have hr := B.returns
  have hts : ∀ w ∈ TG, w.before [.ref (ad 0), .int v1].toArray s = true := fun w hw => atoms_spec (ws := .code y_Jobs_carrierOf prog_4_method_8_code 2 (some .int) :: TG) B.pre w (List.mem_cons_of_mem _ hw)
  have hown : s.vm.findClass "CarrierPaths$Jobs" = some m.cls := findClass_of_methodNamed B.named
  have hlocks := B.notSynchronized
  have hl := lv_entry ([.ref (ad 0), .int v1]) (n := 2) (Nat.le_of_ble_eq_true rfl)
  rw [lg_entry_eq]
  generalize (lg_sl ([.ref (ad 0), .int v1]) ++ List.replicate (2 - (lg_sl ([.ref (ad 0), .int v1])).length) Slot.unset).toArray = ls at hl ⊢
  have hl : lv_has ls 2 [(0, .ref (ad 0)), (1, .int v1)] := hl
  unfold q_Jobs_carrierOf at h
  refine lv_aload_n hx hb d_Jobs_carrierOf_0 rfl (lv_at hl 0 rfl) ?_
  refine va_get (D := D) (ci := 2) (v := .ref (ad 4)) (C := "CarrierPaths$Jobs") (T := F_Jobs) (N := 5) hx hb hts in_Jobs hown hK hP 0 rfl rfl 3 (by decide) (hts _ kw134) (fun _ h9 => h9) rfl d_Jobs_carrierOf_1 ?_
  refine lv_iload_n hx hb d_Jobs_carrierOf_4 rfl (lv_at hl 1 rfl) ?_
  obtain ⟨hi, h⟩ := h
  refine va_iald hx hb hK hP 4 0 rfl rfl hi d_Jobs_carrierOf_5 ?_
  exact W.iret (v := (σ 4 v1.toNatClampNeg)) hx hb hr (fun t ht hW => ⟨(σ 4 v1.toNatClampNeg), rfl, h, ht⟩) (fun q hq => by cases hq) d_Jobs_carrierOf_6
def q_Jobs_isWaiting (v1 : Int32) (σ : Sg) (Q : (Int32 → Prop)) : Prop :=
  (vp_in v1 12 ∧ (((σ 3 v1.toNatClampNeg) = 0 → Q 1) ∧ (¬ (σ 3 v1.toNatClampNeg) = 0 → Q 0)))
set_option maxHeartbeats 4000000 in
set_option maxRecDepth 100000 in
theorem t_Jobs_isWaiting (l : Launch) (D : va_G) (cI cZ : ClassId) (ad : Nat → Nat) (v1 : Int32) (σ : Sg) (Q : (Int32 → Prop)) (h : q_Jobs_isWaiting v1 σ Q) : Met l y_Jobs_isWaiting (.code y_Jobs_isWaiting prog_4_method_9_code 2 (some .boolean) :: TG) { frames := 0, cells := 0, slots := 0, locals := 0 } (va_Pc [.ref (ad 0), .int v1] (roB D (tysA cI cZ) (W_Jobs ad cI cZ σ))) (vp_Si Q) 0 0 (fun _ => False) := by
  refine Met.ofW (cc := prog_4_method_9_code) (maxL := 2) (ret := (some .boolean)) (by decide) rfl ?_
  intro p e s m args below meth c s₁ B hml hv
  obtain ⟨rfl, hP, hK⟩ := hv
  have hx := B.exec
  have hb := B.bytes
  have hr := B.returns
  have hts : ∀ w ∈ TG, w.before [.ref (ad 0), .int v1].toArray s = true := fun w hw => atoms_spec (ws := .code y_Jobs_isWaiting prog_4_method_9_code 2 (some .boolean) :: TG) B.pre w (List.mem_cons_of_mem _ hw)
  have hown : s.vm.findClass "CarrierPaths$Jobs" = some m.cls := findClass_of_methodNamed B.named
  have hlocks := B.notSynchronized
  have hl := lv_entry ([.ref (ad 0), .int v1]) (n := 2) (Nat.le_of_ble_eq_true rfl)
  rw [lg_entry_eq]
  generalize (lg_sl ([.ref (ad 0), .int v1]) ++ List.replicate (2 - (lg_sl ([.ref (ad 0), .int v1])).length) Slot.unset).toArray = ls at hl ⊢
  have hl : lv_has ls 2 [(0, .ref (ad 0)), (1, .int v1)] := hl
  unfold q_Jobs_isWaiting at h
  refine lv_aload_n hx hb d_Jobs_isWaiting_0 rfl (lv_at hl 0 rfl) ?_
  refine va_get (D := D) (ci := 2) (v := .ref (ad 3)) (C := "CarrierPaths$Jobs") (T := F_Jobs) (N := 5) hx hb hts in_Jobs hown hK hP 0 rfl rfl 2 (by decide) (hts _ kw133) (fun _ h9 => h9) rfl d_Jobs_isWaiting_1 ?_
  refine lv_iload_n hx hb d_Jobs_isWaiting_4 rfl (lv_at hl 1 rfl) ?_
  obtain ⟨hi, h⟩ := h
  refine va_iald hx hb hK hP 3 0 rfl rfl hi d_Jobs_isWaiting_5 ?_
  refine lv_if_ne (tgt := 13) hx hb d_Jobs_isWaiting_6 (by decide) (fun hc => ?_) (fun hc => ?_)
  · have h := h.2 hc
    refine lv_iconst (v := 0) hx hb d_Jobs_isWaiting_13 (by decide) ?_
    exact W.zret (v := 0) hx hb hr (by decide) (fun t ht hW => ⟨0, rfl, h, ht⟩) (fun q hq => by cases hq) d_Jobs_isWaiting_14
  · have h := h.1 hc
    refine lv_iconst (v := 1) hx hb d_Jobs_isWaiting_9 (by decide) ?_
    refine lv_goto (tgt := 14) hx hb d_Jobs_isWaiting_10 (by decide) ?_
    exact W.zret (v := 1) hx hb hr (by decide) (fun t ht hW => ⟨1, rfl, h, ht⟩) (fun q hq => by cases hq) d_Jobs_isWaiting_14
def q_Jobs_isLoaded (v1 : Int32) (σ : Sg) (Q : (Int32 → Prop)) : Prop :=
  (vp_in v1 12 ∧ (((σ 3 v1.toNatClampNeg) = 2 → Q 1) ∧ (¬ (σ 3 v1.toNatClampNeg) = 2 → Q 0)))
set_option maxHeartbeats 4000000 in
set_option maxRecDepth 100000 in
theorem t_Jobs_isLoaded (l : Launch) (D : va_G) (cI cZ : ClassId) (ad : Nat → Nat) (v1 : Int32) (σ : Sg) (Q : (Int32 → Prop)) (h : q_Jobs_isLoaded v1 σ Q) : Met l y_Jobs_isLoaded (.code y_Jobs_isLoaded prog_4_method_10_code 2 (some .boolean) :: TG) { frames := 0, cells := 0, slots := 0, locals := 0 } (va_Pc [.ref (ad 0), .int v1] (roB D (tysA cI cZ) (W_Jobs ad cI cZ σ))) (vp_Si Q) 0 0 (fun _ => False) := by
  refine Met.ofW (cc := prog_4_method_10_code) (maxL := 2) (ret := (some .boolean)) (by decide) rfl ?_
  intro p e s m args below meth c s₁ B hml hv
  obtain ⟨rfl, hP, hK⟩ := hv
  have hx := B.exec
  have hb := B.bytes
  have hr := B.returns
  have hts : ∀ w ∈ TG, w.before [.ref (ad 0), .int v1].toArray s = true := fun w hw => atoms_spec (ws := .code y_Jobs_isLoaded prog_4_method_10_code 2 (some .boolean) :: TG) B.pre w (List.mem_cons_of_mem _ hw)
  have hown : s.vm.findClass "CarrierPaths$Jobs" = some m.cls := findClass_of_methodNamed B.named
  have hlocks := B.notSynchronized
  have hl := lv_entry ([.ref (ad 0), .int v1]) (n := 2) (Nat.le_of_ble_eq_true rfl)
  rw [lg_entry_eq]
  generalize (lg_sl ([.ref (ad 0), .int v1]) ++ List.replicate (2 - (lg_sl ([.ref (ad 0), .int v1])).length) Slot.unset).toArray = ls at hl ⊢
  have hl : lv_has ls 2 [(0, .ref (ad 0)), (1, .int v1)] := hl
  unfold q_Jobs_isLoaded at h
  refine lv_aload_n hx hb d_Jobs_isLoaded_0 rfl (lv_at hl 0 rfl) ?_
  refine va_get (D := D) (ci := 2) (v := .ref (ad 3)) (C := "CarrierPaths$Jobs") (T := F_Jobs) (N := 5) hx hb hts in_Jobs hown hK hP 0 rfl rfl 2 (by decide) (hts _ kw133) (fun _ h9 => h9) rfl d_Jobs_isLoaded_1 ?_
  refine lv_iload_n hx hb d_Jobs_isLoaded_4 rfl (lv_at hl 1 rfl) ?_
  obtain ⟨hi, h⟩ := h
  refine va_iald hx hb hK hP 3 0 rfl rfl hi d_Jobs_isLoaded_5 ?_
  refine lv_iconst (v := 2) hx hb d_Jobs_isLoaded_6 (by decide) ?_
  refine lv_icmp_ne (tgt := 14) hx hb d_Jobs_isLoaded_7 (by decide) (fun hc => ?_) (fun hc => ?_)
  · have h := h.2 hc
    refine lv_iconst (v := 0) hx hb d_Jobs_isLoaded_14 (by decide) ?_
    exact W.zret (v := 0) hx hb hr (by decide) (fun t ht hW => ⟨0, rfl, h, ht⟩) (fun q hq => by cases hq) d_Jobs_isLoaded_15
  · have h := h.1 hc
    refine lv_iconst (v := 1) hx hb d_Jobs_isLoaded_10 (by decide) ?_
    refine lv_goto (tgt := 15) hx hb d_Jobs_isLoaded_11 (by decide) ?_
    exact W.zret (v := 1) hx hb hr (by decide) (fun t ht hW => ⟨1, rfl, h, ht⟩) (fun q hq => by cases hq) d_Jobs_isLoaded_15
def q_Jobs_goalOf (v1 : Int32) (σ : Sg) (Q : (Int32 → Prop)) : Prop :=
  (q_Jobs_isLoaded v1 σ (fun r1 => ((r1 = 0 → (vp_in v1 12 ∧ Q (σ 1 v1.toNatClampNeg))) ∧ (¬ r1 = 0 → (vp_in v1 12 ∧ Q (σ 2 v1.toNatClampNeg))))))
set_option maxHeartbeats 4000000 in
set_option maxRecDepth 100000 in
theorem t_Jobs_goalOf (l : Launch) (D : va_G) (cI cZ : ClassId) (ad : Nat → Nat) (v1 : Int32) (σ : Sg) (Q : (Int32 → Prop)) (h : q_Jobs_goalOf v1 σ Q) : Met l y_Jobs_goalOf (.code y_Jobs_goalOf prog_4_method_11_code 2 (some .int) :: TG) { frames := 1, cells := 0, slots := 0, locals := 21 } (va_Pc [.ref (ad 0), .int v1] (roB D (tysA cI cZ) (W_Jobs ad cI cZ σ))) (vp_Si Q) 0 0 (fun _ => False) := by
  refine Met.ofW (cc := prog_4_method_11_code) (maxL := 2) (ret := (some .int)) (by decide) rfl ?_
  intro p e s m args below meth c s₁ B hml hv
  obtain ⟨rfl, hP, hK⟩ := hv
  have hx := B.exec
  have hb := B.bytes
  have hr := B.returns
  have hts : ∀ w ∈ TG, w.before [.ref (ad 0), .int v1].toArray s = true := fun w hw => atoms_spec (ws := .code y_Jobs_goalOf prog_4_method_11_code 2 (some .int) :: TG) B.pre w (List.mem_cons_of_mem _ hw)
  have hown : s.vm.findClass "CarrierPaths$Jobs" = some m.cls := findClass_of_methodNamed B.named
  have hlocks := B.notSynchronized
  have hl := lv_entry ([.ref (ad 0), .int v1]) (n := 2) (Nat.le_of_ble_eq_true rfl)
  rw [lg_entry_eq]
  generalize (lg_sl ([.ref (ad 0), .int v1]) ++ List.replicate (2 - (lg_sl ([.ref (ad 0), .int v1])).length) Slot.unset).toArray = ls at hl ⊢
  have hl : lv_has ls 2 [(0, .ref (ad 0)), (1, .int v1)] := hl
  unfold q_Jobs_goalOf at h
  refine lv_aload_n hx hb d_Jobs_goalOf_0 rfl (lv_at hl 0 rfl) ?_
  refine lv_iload_n hx hb d_Jobs_goalOf_1 rfl (lv_at hl 1 rfl) ?_
  refine vp_callSi (W.runV (As := [.int v1]) (rest := []) ⟨hx, hb, hml, hown, hts⟩ (t_Jobs_isLoaded l D cI cZ ad v1 σ _ h) (cwV 1 hts (g_of kw596 kw597 kw598 kw7 kw599) rfl rfl rfl (by decide +kernel) ⟨Nat.le_of_ble_eq_true rfl, Nat.le_of_ble_eq_true rfl⟩) (ro_pre hK hP (va_recv hK hP (ci := 2) (q0 := 0) rfl rfl)) rfl rfl hl.1 rfl (lv_room (Nat.le_of_ble_eq_true rfl)) d_Jobs_goalOf_2 ⟨Nat.le_of_ble_eq_true rfl, Nat.le_of_ble_eq_true rfl⟩) (fun r1 h => ?_)
  refine lv_if_eq (tgt := 17) hx hb d_Jobs_goalOf_5 (by decide) (fun hc => ?_) (fun hc => ?_)
  · have h := h.1 hc
    refine lv_aload_n hx hb d_Jobs_goalOf_17 rfl (lv_at hl 0 rfl) ?_
    refine va_get (D := D) (ci := 2) (v := .ref (ad 1)) (C := "CarrierPaths$Jobs") (T := F_Jobs) (N := 5) hx hb hts in_Jobs hown hK hP 0 rfl rfl 0 (by decide) (hts _ kw131) (fun _ h9 => h9) rfl d_Jobs_goalOf_18 ?_
    refine lv_iload_n hx hb d_Jobs_goalOf_21 rfl (lv_at hl 1 rfl) ?_
    obtain ⟨hi, h⟩ := h
    refine va_iald hx hb hK hP 1 0 rfl rfl hi d_Jobs_goalOf_22 ?_
    exact W.iret (v := (σ 1 v1.toNatClampNeg)) hx hb hr (fun t ht hW => ⟨(σ 1 v1.toNatClampNeg), rfl, h, ht⟩) (fun q hq => by cases hq) d_Jobs_goalOf_23
  · have h := h.2 hc
    refine lv_aload_n hx hb d_Jobs_goalOf_8 rfl (lv_at hl 0 rfl) ?_
    refine va_get (D := D) (ci := 2) (v := .ref (ad 2)) (C := "CarrierPaths$Jobs") (T := F_Jobs) (N := 5) hx hb hts in_Jobs hown hK hP 0 rfl rfl 1 (by decide) (hts _ kw132) (fun _ h9 => h9) rfl d_Jobs_goalOf_9 ?_
    refine lv_iload_n hx hb d_Jobs_goalOf_12 rfl (lv_at hl 1 rfl) ?_
    obtain ⟨hi, h⟩ := h
    refine va_iald hx hb hK hP 2 0 rfl rfl hi d_Jobs_goalOf_13 ?_
    refine lv_goto (tgt := 23) hx hb d_Jobs_goalOf_14 (by decide) ?_
    exact W.iret (v := (σ 2 v1.toNatClampNeg)) hx hb hr (fun t ht hW => ⟨(σ 2 v1.toNatClampNeg), rfl, h, ht⟩) (fun q hq => by cases hq) d_Jobs_goalOf_23
def q_Jobs_ended_b0 (J : Nat → Int32 → Int32 → Prop) (Q : (Int32 → Prop)) (v1 v2 : Int32) (σ : Sg) : Prop :=
  J 1 0 0
def q_Jobs_ended_b1 (J : Nat → Int32 → Int32 → Prop) (Q : (Int32 → Prop)) (v1 v2 : Int32) (σ : Sg) : Prop :=
  (((σ 0 4) ≤ v2 → Q v1) ∧ (¬ (σ 0 4) ≤ v2 → (vp_in v2 12 ∧ (((σ 3 v2.toNatClampNeg) = 3 → J 1 (v1 + 1) (v2 + 1)) ∧ (¬ (σ 3 v2.toNatClampNeg) = 3 → J 1 v1 (v2 + 1))))))
def q_Jobs_ended_j (Q : (Int32 → Prop)) (σ : Sg) : Nat → Nat → Int32 → Int32 → Prop
  | 0, _, _, _ => False
  | n + 1, 0, v1, v2 => q_Jobs_ended_b0 (q_Jobs_ended_j Q σ n) Q v1 v2 σ
  | n + 1, 1, v1, v2 => q_Jobs_ended_b1 (q_Jobs_ended_j Q σ n) Q v1 v2 σ
  | _ + 1, _ + 2, _, _ => False
def q_Jobs_ended (σ : Sg) (Q : (Int32 → Prop)) : Prop := q_Jobs_ended_j Q σ 4000 0 0 0
def lc_Jobs_ended (ad : Nat → Nat) (b : Nat) (v1 v2 : Int32) : List (Nat × Value) := match b with
  | 0 => [(0, .ref (ad 0))]
  | 1 => [(0, .ref (ad 0)), (1, .int v1), (2, .int v2)]
  | _ => []
def pc_Jobs_ended (b : Nat) : Nat := match b with
  | 0 => 0
  | 1 => 4
  | _ => 0
set_option maxHeartbeats 4000000 in
set_option maxRecDepth 100000 in
theorem t_Jobs_ended (l : Launch) (D : va_G) (cI cZ : ClassId) (ad : Nat → Nat) (σ : Sg) (Q : (Int32 → Prop)) (h : q_Jobs_ended σ Q) : Met l y_Jobs_ended (.code y_Jobs_ended prog_4_method_12_code 3 (some .int) :: TG) { frames := 0, cells := 0, slots := 0, locals := 0 } (va_Pc [.ref (ad 0)] (roB D (tysA cI cZ) (W_Jobs ad cI cZ σ))) (vp_Si Q) 0 0 (fun _ => False) := by
  refine Met.ofW (cc := prog_4_method_12_code) (maxL := 3) (ret := (some .int)) (by decide) rfl ?_
  intro p e s m args below meth c s₁ B hml hv
  obtain ⟨rfl, hP, hK⟩ := hv
  have hx := B.exec
  have hb := B.bytes
  have hr := B.returns
  have hts : ∀ w ∈ TG, w.before [.ref (ad 0)].toArray s = true := fun w hw => atoms_spec (ws := .code y_Jobs_ended prog_4_method_12_code 3 (some .int) :: TG) B.pre w (List.mem_cons_of_mem _ hw)
  have hown : s.vm.findClass "CarrierPaths$Jobs" = some m.cls := findClass_of_methodNamed B.named
  have hlocks := B.notSynchronized
  have hl := lv_entry ([.ref (ad 0)]) (n := 3) (Nat.le_of_ble_eq_true rfl)
  rw [lg_entry_eq]
  generalize (lg_sl ([.ref (ad 0)]) ++ List.replicate (3 - (lg_sl ([.ref (ad 0)])).length) Slot.unset).toArray = ls at hl ⊢
  generalize ([.ref (ad 0)] : List Value).toArray = args at hts ⊢
  have key : ∀ (n b : Nat) (v1 v2 : Int32), q_Jobs_ended_j Q σ n b v1 v2 → ∀ ls : Array Slot, lv_has ls 3 (lc_Jobs_ended ad b v1 v2) → W p l e (headSpec (.code y_Jobs_ended prog_4_method_12_code 3 (some .int) :: TG) { frames := 0, cells := 0, slots := 0, locals := 0 }).room s m args below meth c s.heap [] 0 0 (MQ below (vp_Si Q) args s 0 0 (fun _ => False)) (F0 m (pc_Jobs_ended b) ls []) := by
    clear h hl
    intro n
    induction n with
    | zero => intro b _ _ h; exact False.elim h
    | succ n ih =>
      intro b v1 v2 h ls hl
      match b, h, hl with
      | 0, h, hl =>
        have h : q_Jobs_ended_b0 (q_Jobs_ended_j Q σ n) Q v1 v2 σ := h
        have hl : lv_has ls 3 [(0, .ref (ad 0))] := hl
        refine W.eq (g2 := F0 m 0 ls []) rfl ?_
        unfold q_Jobs_ended_b0 at h
        refine lv_iconst (v := 0) hx hb d_Jobs_ended_0 (by decide) ?_
        refine lv_istore_n (lv' := [(1, .int 0), (0, .ref (ad 0))]) hx hb d_Jobs_ended_1 rfl hl (by decide) rfl (fun ls hl => ?_)
        refine lv_iconst (v := 0) hx hb d_Jobs_ended_2 (by decide) ?_
        refine lv_istore_n (lv' := [(2, .int 0), (1, .int 0), (0, .ref (ad 0))]) hx hb d_Jobs_ended_3 rfl hl (by decide) rfl (fun ls hl => ?_)
        exact ih 1 0 0 h _ (lv_sub hl [2, 1, 0] rfl)
      | 1, h, hl =>
        have h : q_Jobs_ended_b1 (q_Jobs_ended_j Q σ n) Q v1 v2 σ := h
        have hl : lv_has ls 3 [(0, .ref (ad 0)), (1, .int v1), (2, .int v2)] := hl
        refine W.eq (g2 := F0 m 4 ls []) rfl ?_
        unfold q_Jobs_ended_b1 at h
        refine lv_iload_n hx hb d_Jobs_ended_4 rfl (lv_at hl 2 rfl) ?_
        refine lv_aload_n hx hb d_Jobs_ended_5 rfl (lv_at hl 0 rfl) ?_
        refine va_get (D := D) (ci := 2) (v := .int (σ 0 4)) (C := "CarrierPaths$Jobs") (T := F_Jobs) (N := 5) hx hb hts in_Jobs hown hK hP 0 rfl rfl 4 (by decide) (hts _ kw135) (fun _ h9 => h9) rfl d_Jobs_ended_6 ?_
        refine lv_icmp_ge (tgt := 31) hx hb d_Jobs_ended_9 (by decide) (fun hc => ?_) (fun hc => ?_)
        · have h := h.1 hc
          refine lv_iload_n hx hb d_Jobs_ended_31 rfl (lv_at hl 1 rfl) ?_
          exact W.iret (v := v1) hx hb hr (fun t ht hW => ⟨v1, rfl, h, ht⟩) (fun q hq => by cases hq) d_Jobs_ended_32
        · have h := h.2 hc
          refine lv_aload_n hx hb d_Jobs_ended_12 rfl (lv_at hl 0 rfl) ?_
          refine va_get (D := D) (ci := 2) (v := .ref (ad 3)) (C := "CarrierPaths$Jobs") (T := F_Jobs) (N := 5) hx hb hts in_Jobs hown hK hP 0 rfl rfl 2 (by decide) (hts _ kw133) (fun _ h9 => h9) rfl d_Jobs_ended_13 ?_
          refine lv_iload_n hx hb d_Jobs_ended_16 rfl (lv_at hl 2 rfl) ?_
          obtain ⟨hi, h⟩ := h
          refine va_iald hx hb hK hP 3 0 rfl rfl hi d_Jobs_ended_17 ?_
          refine lv_iconst (v := 3) hx hb d_Jobs_ended_18 (by decide) ?_
          refine lv_icmp_ne (tgt := 25) hx hb d_Jobs_ended_19 (by decide) (fun hc => ?_) (fun hc => ?_)
          · have h := h.2 hc
            refine lv_iinc (v := (v2 + 1)) (lv' := [(2, .int (v2 + 1)), (0, .ref (ad 0)), (1, .int v1)]) hx hb d_Jobs_ended_25 hl (k := 2) rfl rfl (by decide) rfl (fun ls hl => ?_)
            refine lv_goto (tgt := 4) hx hb d_Jobs_ended_28 (by decide) ?_
            exact ih 1 v1 (v2 + 1) h _ (lv_sub hl [1, 2, 0] rfl)
          · have h := h.1 hc
            refine lv_iinc (v := (v1 + 1)) (lv' := [(1, .int (v1 + 1)), (0, .ref (ad 0)), (2, .int v2)]) hx hb d_Jobs_ended_22 hl (k := 1) rfl rfl (by decide) rfl (fun ls hl => ?_)
            refine lv_iinc (v := (v2 + 1)) (lv' := [(2, .int (v2 + 1)), (1, .int (v1 + 1)), (0, .ref (ad 0))]) hx hb d_Jobs_ended_25 hl (k := 2) rfl rfl (by decide) rfl (fun ls hl => ?_)
            refine lv_goto (tgt := 4) hx hb d_Jobs_ended_28 (by decide) ?_
            exact ih 1 (v1 + 1) (v2 + 1) h _ (lv_sub hl [2, 1, 0] rfl)
      | _ + 2, h, _ => exact False.elim h
  exact key 4000 0 0 0 h ls hl
def q_Jobs_setState (v1 v2 : Int32) (σ : Sg) (Q : (Sg → Prop)) : Prop :=
  (vp_in v1 12 ∧ Q (sto σ 3 v1.toNatClampNeg v2))
set_option maxHeartbeats 4000000 in
set_option maxRecDepth 100000 in
theorem t_Jobs_setState (l : Launch) (D : va_G) (cI cZ : ClassId) (ad : Nat → Nat) (inj : Inj ad 5) (v1 v2 : Int32) (σ : Sg) (Q : (Sg → Prop)) (h : q_Jobs_setState v1 v2 σ Q) : Met l y_Jobs_setState (.code y_Jobs_setState prog_4_method_13_code 3 none :: TG) { frames := 0, cells := 0, slots := 0, locals := 0 } (va_Pc [.ref (ad 0), .int v1, .int v2] (roB D (tysA cI cZ) (W_Jobs ad cI cZ σ))) (va_Qv Q (fun u t => va_P D classes (W_Jobs ad cI cZ u) t.heap) (inA ad 5)) 0 0 (inA ad 5) := by
  refine Met.ofW (cc := prog_4_method_13_code) (maxL := 3) (ret := none) (by decide) rfl ?_
  intro p e s m args below meth c s₁ B hml hv
  obtain ⟨rfl, hP, hK⟩ := hv
  have hx := B.exec
  have hb := B.bytes
  have hr := B.returns
  have hts : ∀ w ∈ TG, w.before [.ref (ad 0), .int v1, .int v2].toArray s = true := fun w hw => atoms_spec (ws := .code y_Jobs_setState prog_4_method_13_code 3 none :: TG) B.pre w (List.mem_cons_of_mem _ hw)
  have hown : s.vm.findClass "CarrierPaths$Jobs" = some m.cls := findClass_of_methodNamed B.named
  have hlocks := B.notSynchronized
  have hS : va_S (inA ad 5) s.heap s.heap [] := va_S.rf
  have hl := lv_entry ([.ref (ad 0), .int v1, .int v2]) (n := 3) (Nat.le_of_ble_eq_true rfl)
  rw [lg_entry_eq]
  generalize (lg_sl ([.ref (ad 0), .int v1, .int v2]) ++ List.replicate (3 - (lg_sl ([.ref (ad 0), .int v1, .int v2])).length) Slot.unset).toArray = ls at hl ⊢
  have hl : lv_has ls 3 [(0, .ref (ad 0)), (1, .int v1), (2, .int v2)] := hl
  unfold q_Jobs_setState at h
  refine lv_aload_n hx hb d_Jobs_setState_0 rfl (lv_at hl 0 rfl) ?_
  refine va_get (D := D) (ci := 2) (v := .ref (ad 3)) (C := "CarrierPaths$Jobs") (T := F_Jobs) (N := 5) hx hb hts in_Jobs hown hK hP 0 rfl rfl 2 (by decide) (hts _ kw133) (fun _ h9 => h9) rfl d_Jobs_setState_1 ?_
  refine lv_iload_n hx hb d_Jobs_setState_4 rfl (lv_at hl 1 rfl) ?_
  refine lv_iload_n hx hb d_Jobs_setState_5 rfl (lv_at hl 2 rfl) ?_
  obtain ⟨hi, h⟩ := h
  refine va_iast hx hb hK hP (D_Jobs inj) hS 3 0 rfl rfl hi d_Jobs_setState_6 (fun H locs hP _ hS => ?_)
  have hP := up_Jobs_3 hP
  exact W.vret hx hb hr (fun t ht hW => ⟨⟨(sto σ 3 v1.toNatClampNeg v2), rfl, h, hp_back ht hP⟩, hS.F ht⟩) hS.2.2 d_Jobs_setState_7
def q_Jobs_give (v1 v2 : Int32) (σ : Sg) (Q : (Sg → Prop)) : Prop :=
  (vp_in v1 12 ∧ (vp_in v1 12 ∧ Q (sto (sto σ 3 v1.toNatClampNeg 1) 4 v1.toNatClampNeg v2)))
set_option maxHeartbeats 4000000 in
set_option maxRecDepth 100000 in
theorem t_Jobs_give (l : Launch) (D : va_G) (cI cZ : ClassId) (ad : Nat → Nat) (inj : Inj ad 5) (v1 v2 : Int32) (σ : Sg) (Q : (Sg → Prop)) (h : q_Jobs_give v1 v2 σ Q) : Met l y_Jobs_give (.code y_Jobs_give prog_4_method_14_code 3 none :: TG) { frames := 0, cells := 0, slots := 0, locals := 0 } (va_Pc [.ref (ad 0), .int v1, .int v2] (roB D (tysA cI cZ) (W_Jobs ad cI cZ σ))) (va_Qv Q (fun u t => va_P D classes (W_Jobs ad cI cZ u) t.heap) (inA ad 5)) 0 0 (inA ad 5) := by
  refine Met.ofW (cc := prog_4_method_14_code) (maxL := 3) (ret := none) (by decide) rfl ?_
  intro p e s m args below meth c s₁ B hml hv
  obtain ⟨rfl, hP, hK⟩ := hv
  have hx := B.exec
  have hb := B.bytes
  have hr := B.returns
  have hts : ∀ w ∈ TG, w.before [.ref (ad 0), .int v1, .int v2].toArray s = true := fun w hw => atoms_spec (ws := .code y_Jobs_give prog_4_method_14_code 3 none :: TG) B.pre w (List.mem_cons_of_mem _ hw)
  have hown : s.vm.findClass "CarrierPaths$Jobs" = some m.cls := findClass_of_methodNamed B.named
  have hlocks := B.notSynchronized
  have hS : va_S (inA ad 5) s.heap s.heap [] := va_S.rf
  have hl := lv_entry ([.ref (ad 0), .int v1, .int v2]) (n := 3) (Nat.le_of_ble_eq_true rfl)
  rw [lg_entry_eq]
  generalize (lg_sl ([.ref (ad 0), .int v1, .int v2]) ++ List.replicate (3 - (lg_sl ([.ref (ad 0), .int v1, .int v2])).length) Slot.unset).toArray = ls at hl ⊢
  have hl : lv_has ls 3 [(0, .ref (ad 0)), (1, .int v1), (2, .int v2)] := hl
  unfold q_Jobs_give at h
  refine lv_aload_n hx hb d_Jobs_give_0 rfl (lv_at hl 0 rfl) ?_
  refine va_get (D := D) (ci := 2) (v := .ref (ad 3)) (C := "CarrierPaths$Jobs") (T := F_Jobs) (N := 5) hx hb hts in_Jobs hown hK hP 0 rfl rfl 2 (by decide) (hts _ kw133) (fun _ h9 => h9) rfl d_Jobs_give_1 ?_
  refine lv_iload_n hx hb d_Jobs_give_4 rfl (lv_at hl 1 rfl) ?_
  refine lv_iconst (v := 1) hx hb d_Jobs_give_5 (by decide) ?_
  obtain ⟨hi, h⟩ := h
  refine va_iast hx hb hK hP (D_Jobs inj) hS 3 0 rfl rfl hi d_Jobs_give_6 (fun H locs hP _ hS => ?_)
  have hP := up_Jobs_3 hP
  refine lv_aload_n hx hb d_Jobs_give_7 rfl (lv_at hl 0 rfl) ?_
  refine va_get (D := D) (ci := 2) (v := .ref (ad 4)) (C := "CarrierPaths$Jobs") (T := F_Jobs) (N := 5) hx hb hts in_Jobs hown hK hP 0 rfl rfl 3 (by decide) (hts _ kw134) (fun _ h9 => h9) rfl d_Jobs_give_8 ?_
  refine lv_iload_n hx hb d_Jobs_give_11 rfl (lv_at hl 1 rfl) ?_
  refine lv_iload_n hx hb d_Jobs_give_12 rfl (lv_at hl 2 rfl) ?_
  obtain ⟨hi, h⟩ := h
  refine va_iast hx hb hK hP (D_Jobs inj) hS 4 0 rfl rfl hi d_Jobs_give_13 (fun H locs hP _ hS => ?_)
  have hP := up_Jobs_4 hP
  exact W.vret hx hb hr (fun t ht hW => ⟨⟨(sto (sto σ 3 v1.toNatClampNeg 1) 4 v1.toNatClampNeg v2), rfl, h, hp_back ht hP⟩, hS.F ht⟩) hS.2.2 d_Jobs_give_14
