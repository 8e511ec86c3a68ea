def W_Roads (ad : Nat → Nat) (cI cZ : ClassId) (σ : Sg) : va_W :=
  [(ad 0, .inr (5, [.int (σ 0 0), .ref (ad 1), .ref (ad 2), .ref (ad 3), .ref (ad 4), .ref (ad 5), .int (σ 0 6)])),
   (ad 1, .inl (cI, 30, .inl (σ 1))),
   (ad 2, .inl (cI, 30, .inl (σ 2))),
   (ad 3, .inl (cI, 30, .inl (σ 3))),
   (ad 4, .inl (cZ, 30, .inl (σ 4))),
   (ad 5, .inl (cI, 100, .inl (σ 5)))]
theorem D_Roads {ad : Nat → Nat} {cI cZ : ClassId} {σ : Sg} (inj : Inj ad 6) : va_D (inA ad 6) (W_Roads ad cI cZ σ) := D_of inj rfl
theorem up_Roads_f6 {D : va_G} {ad : Nat → Nat} {cI cZ : ClassId} {σ : Sg} {H : Heap} {v : Int32} (h : va_P D classes ((W_Roads ad cI cZ σ).set 0 (ad 0, .inr (5, ([.int (σ 0 0), .ref (ad 1), .ref (ad 2), .ref (ad 3), .ref (ad 4), .ref (ad 5), .int (σ 0 6)] : List Value).set 6 (.int v)))) H) : va_P D classes (W_Roads ad cI cZ (sto σ 0 6 v)) H := h
theorem up_Roads_1 {D : va_G} {ad : Nat → Nat} {cI cZ : ClassId} {σ : Sg} {H : Heap} {i : Nat} {v : Int32} (h : va_P D classes ((W_Roads ad cI cZ σ).set 1 (ad 1, .inl (cI, 30, .inl (upd (σ 1) i v)))) H) : va_P D classes (W_Roads ad cI cZ (sto σ 1 i v)) H := h
theorem up_Roads_2 {D : va_G} {ad : Nat → Nat} {cI cZ : ClassId} {σ : Sg} {H : Heap} {i : Nat} {v : Int32} (h : va_P D classes ((W_Roads ad cI cZ σ).set 2 (ad 2, .inl (cI, 30, .inl (upd (σ 2) i v)))) H) : va_P D classes (W_Roads ad cI cZ (sto σ 2 i v)) H := h
theorem up_Roads_3 {D : va_G} {ad : Nat → Nat} {cI cZ : ClassId} {σ : Sg} {H : Heap} {i : Nat} {v : Int32} (h : va_P D classes ((W_Roads ad cI cZ σ).set 3 (ad 3, .inl (cI, 30, .inl (upd (σ 3) i v)))) H) : va_P D classes (W_Roads ad cI cZ (sto σ 3 i v)) H := h
theorem up_Roads_4 {D : va_G} {ad : Nat → Nat} {cI cZ : ClassId} {σ : Sg} {H : Heap} {i : Nat} {v : Int32} (h : va_P D classes ((W_Roads ad cI cZ σ).set 4 (ad 4, .inl (cZ, 30, .inl (upd (σ 4) i v)))) H) : va_P D classes (W_Roads ad cI cZ (sto σ 4 i v)) H := h
theorem up_Roads_5 {D : va_G} {ad : Nat → Nat} {cI cZ : ClassId} {σ : Sg} {H : Heap} {i : Nat} {v : Int32} (h : va_P D classes ((W_Roads ad cI cZ σ).set 5 (ad 5, .inl (cI, 100, .inl (upd (σ 5) i v)))) H) : va_P D classes (W_Roads ad cI cZ (sto σ 5 i v)) H := h
def q_Roads_size (σ : Sg) (Q : (Int32 → Prop)) : Prop :=
  Q (σ 0 6)
set_option maxHeartbeats 4000000 in
set_option maxRecDepth 100000 in
theorem t_Roads_size (l : Launch) (D : va_G) (cI cZ : ClassId) (ad : Nat → Nat) (σ : Sg) (Q : (Int32 → Prop)) (h : q_Roads_size σ Q) : Met l y_Roads_size (.code y_Roads_size prog_7_method_2_code 1 (some .int) :: TG) { frames := 0, cells := 0, slots := 0, locals := 0 } (va_Pc [.ref (ad 0)] (roB D (tysA cI cZ) (W_Roads ad cI cZ σ))) (vp_Si Q) 0 0 (fun _ => False) := by
  refine Met.ofW (cc := prog_7_method_2_code) (maxL := 1) (ret := (some .int)) (by decide) rfl ?_
  intro p e s m args below meth c s₁ B hml hv
  obtain ⟨rfl, hP, hK⟩ := hv
  have hx := B.exec
  have hb := B.bytes
  have hr := B.returns
  have hts : ∀ w ∈ TG, w.before [.ref (ad 0)].toArray s = true := fun w hw => atoms_spec (ws := .code y_Roads_size prog_7_method_2_code 1 (some .int) :: TG) B.pre w (List.mem_cons_of_mem _ hw)
  have hown : s.vm.findClass "CarrierPaths$Roads" = some m.cls := findClass_of_methodNamed B.named
  have hlocks := B.notSynchronized
  have hl := lv_entry ([.ref (ad 0)]) (n := 1) (Nat.le_of_ble_eq_true rfl)
  rw [lg_entry_eq]
  generalize (lg_sl ([.ref (ad 0)]) ++ List.replicate (1 - (lg_sl ([.ref (ad 0)])).length) Slot.unset).toArray = ls at hl ⊢
  have hl : lv_has ls 1 [(0, .ref (ad 0))] := hl
  unfold q_Roads_size at h
  refine lv_aload_n hx hb d_Roads_size_0 rfl (lv_at hl 0 rfl) ?_
  refine va_get (D := D) (ci := 5) (v := .int (σ 0 6)) (C := "CarrierPaths$Roads") (T := F_Roads) (N := 7) hx hb hts in_Roads hown hK hP 0 rfl rfl 6 (by decide) (hts _ kw65) (fun _ h9 => h9) rfl d_Roads_size_1 ?_
  exact W.iret (v := (σ 0 6)) hx hb hr (fun t ht hW => ⟨(σ 0 6), rfl, h, ht⟩) (fun q hq => by cases hq) d_Roads_size_4
def q_Roads_has (v1 : Int32) (σ : Sg) (Q : (Int32 → Prop)) : Prop :=
  ((v1 < 0 → Q 0) ∧ (¬ v1 < 0 → (((σ 0 6) ≤ v1 → Q 0) ∧ (¬ (σ 0 6) ≤ v1 → Q 1))))
set_option maxHeartbeats 4000000 in
set_option maxRecDepth 100000 in
theorem t_Roads_has (l : Launch) (D : va_G) (cI cZ : ClassId) (ad : Nat → Nat) (v1 : Int32) (σ : Sg) (Q : (Int32 → Prop)) (h : q_Roads_has v1 σ Q) : Met l y_Roads_has (.code y_Roads_has prog_7_method_3_code 2 (some .boolean) :: TG) { frames := 0, cells := 0, slots := 0, locals := 0 } (va_Pc [.ref (ad 0), .int v1] (roB D (tysA cI cZ) (W_Roads ad cI cZ σ))) (vp_Si Q) 0 0 (fun _ => False) := by
  refine Met.ofW (cc := prog_7_method_3_code) (maxL := 2) (ret := (some .boolean)) (by decide) rfl ?_
  intro p e s m args below meth c s₁ B hml hv
  obtain ⟨rfl, hP, hK⟩ := hv
  have hx := B.exec
  have hb := B.bytes
  have hr := B.returns
  have hts : ∀ w ∈ TG, w.before [.ref (ad 0), .int v1].toArray s = true := fun w hw => atoms_spec (ws := .code y_Roads_has prog_7_method_3_code 2 (some .boolean) :: TG) B.pre w (List.mem_cons_of_mem _ hw)
  have hown : s.vm.findClass "CarrierPaths$Roads" = some m.cls := findClass_of_methodNamed B.named
  have hlocks := B.notSynchronized
  have hl := lv_entry ([.ref (ad 0), .int v1]) (n := 2) (Nat.le_of_ble_eq_true rfl)
  rw [lg_entry_eq]
  generalize (lg_sl ([.ref (ad 0), .int v1]) ++ List.replicate (2 - (lg_sl ([.ref (ad 0), .int v1])).length) Slot.unset).toArray = ls at hl ⊢
  have hl : lv_has ls 2 [(0, .ref (ad 0)), (1, .int v1)] := hl
  unfold q_Roads_has at h
  refine lv_iload_n hx hb d_Roads_has_0 rfl (lv_at hl 1 rfl) ?_
  refine lv_if_lt (tgt := 16) hx hb d_Roads_has_1 (by decide) (fun hc => ?_) (fun hc => ?_)
  · have h := h.1 hc
    refine lv_iconst (v := 0) hx hb d_Roads_has_16 (by decide) ?_
    exact W.zret (v := 0) hx hb hr (by decide) (fun t ht hW => ⟨0, rfl, h, ht⟩) (fun q hq => by cases hq) d_Roads_has_17
  · have h := h.2 hc
    refine lv_iload_n hx hb d_Roads_has_4 rfl (lv_at hl 1 rfl) ?_
    refine lv_aload_n hx hb d_Roads_has_5 rfl (lv_at hl 0 rfl) ?_
    refine va_get (D := D) (ci := 5) (v := .int (σ 0 6)) (C := "CarrierPaths$Roads") (T := F_Roads) (N := 7) hx hb hts in_Roads hown hK hP 0 rfl rfl 6 (by decide) (hts _ kw65) (fun _ h9 => h9) rfl d_Roads_has_6 ?_
    refine lv_icmp_ge (tgt := 16) hx hb d_Roads_has_9 (by decide) (fun hc => ?_) (fun hc => ?_)
    · have h := h.1 hc
      refine lv_iconst (v := 0) hx hb d_Roads_has_16 (by decide) ?_
      exact W.zret (v := 0) hx hb hr (by decide) (fun t ht hW => ⟨0, rfl, h, ht⟩) (fun q hq => by cases hq) d_Roads_has_17
    · have h := h.2 hc
      refine lv_iconst (v := 1) hx hb d_Roads_has_12 (by decide) ?_
      refine lv_goto (tgt := 17) hx hb d_Roads_has_13 (by decide) ?_
      exact W.zret (v := 1) hx hb hr (by decide) (fun t ht hW => ⟨1, rfl, h, ht⟩) (fun q hq => by cases hq) d_Roads_has_17
def q_Roads_beginningOf (v1 : Int32) (σ : Sg) (Q : (Int32 → Prop)) : Prop :=
  (vp_in v1 30 ∧ Q (σ 1 v1.toNatClampNeg))
set_option maxHeartbeats 4000000 in
set_option maxRecDepth 100000 in
theorem t_Roads_beginningOf (l : Launch) (D : va_G) (cI cZ : ClassId) (ad : Nat → Nat) (v1 : Int32) (σ : Sg) (Q : (Int32 → Prop)) (h : q_Roads_beginningOf v1 σ Q) : Met l y_Roads_beginningOf (.code y_Roads_beginningOf prog_7_method_5_code 2 (some .int) :: TG) { frames := 0, cells := 0, slots := 0, locals := 0 } (va_Pc [.ref (ad 0), .int v1] (roB D (tysA cI cZ) (W_Roads ad cI cZ σ))) (vp_Si Q) 0 0 (fun _ => False) := by
  refine Met.ofW (cc := prog_7_method_5_code) (maxL := 2) (ret := (some .int)) (by decide) rfl ?_
  intro p e s m args below meth c s₁ B hml hv
  obtain ⟨rfl, hP, hK⟩ := hv
  have hx := B.exec
  have hb := B.bytes
  have hr := B.returns
  have hts : ∀ w ∈ TG, w.before [.ref (ad 0), .int v1].toArray s = true := fun w hw => atoms_spec (ws := .code y_Roads_beginningOf prog_7_method_5_code 2 (some .int) :: TG) B.pre w (List.mem_cons_of_mem _ hw)
  have hown : s.vm.findClass "CarrierPaths$Roads" = some m.cls := findClass_of_methodNamed B.named
  have hlocks := B.notSynchronized
  have hl := lv_entry ([.ref (ad 0), .int v1]) (n := 2) (Nat.le_of_ble_eq_true rfl)
  rw [lg_entry_eq]
  generalize (lg_sl ([.ref (ad 0), .int v1]) ++ List.replicate (2 - (lg_sl ([.ref (ad 0), .int v1])).length) Slot.unset).toArray = ls at hl ⊢
  have hl : lv_has ls 2 [(0, .ref (ad 0)), (1, .int v1)] := hl
  unfold q_Roads_beginningOf at h
  refine lv_aload_n hx hb d_Roads_beginningOf_0 rfl (lv_at hl 0 rfl) ?_
  refine va_get (D := D) (ci := 5) (v := .ref (ad 1)) (C := "CarrierPaths$Roads") (T := F_Roads) (N := 7) hx hb hts in_Roads hown hK hP 0 rfl rfl 1 (by decide) (hts _ kw60) (fun _ h9 => h9) rfl d_Roads_beginningOf_1 ?_
  refine lv_iload_n hx hb d_Roads_beginningOf_4 rfl (lv_at hl 1 rfl) ?_
  obtain ⟨hi, h⟩ := h
  refine va_iald hx hb hK hP 1 0 rfl rfl hi d_Roads_beginningOf_5 ?_
  exact W.iret (v := (σ 1 v1.toNatClampNeg)) hx hb hr (fun t ht hW => ⟨(σ 1 v1.toNatClampNeg), rfl, h, ht⟩) (fun q hq => by cases hq) d_Roads_beginningOf_6
def q_Roads_endOf (v1 : Int32) (σ : Sg) (Q : (Int32 → Prop)) : Prop :=
  (vp_in v1 30 ∧ Q (σ 2 v1.toNatClampNeg))
set_option maxHeartbeats 4000000 in
set_option maxRecDepth 100000 in
theorem t_Roads_endOf (l : Launch) (D : va_G) (cI cZ : ClassId) (ad : Nat → Nat) (v1 : Int32) (σ : Sg) (Q : (Int32 → Prop)) (h : q_Roads_endOf v1 σ Q) : Met l y_Roads_endOf (.code y_Roads_endOf prog_7_method_6_code 2 (some .int) :: TG) { frames := 0, cells := 0, slots := 0, locals := 0 } (va_Pc [.ref (ad 0), .int v1] (roB D (tysA cI cZ) (W_Roads ad cI cZ σ))) (vp_Si Q) 0 0 (fun _ => False) := by
  refine Met.ofW (cc := prog_7_method_6_code) (maxL := 2) (ret := (some .int)) (by decide) rfl ?_
  intro p e s m args below meth c s₁ B hml hv
  obtain ⟨rfl, hP, hK⟩ := hv
  have hx := B.exec
  have hb := B.bytes
  have hr := B.returns
  have hts : ∀ w ∈ TG, w.before [.ref (ad 0), .int v1].toArray s = true := fun w hw => atoms_spec (ws := .code y_Roads_endOf prog_7_method_6_code 2 (some .int) :: TG) B.pre w (List.mem_cons_of_mem _ hw)
  have hown : s.vm.findClass "CarrierPaths$Roads" = some m.cls := findClass_of_methodNamed B.named
  have hlocks := B.notSynchronized
  have hl := lv_entry ([.ref (ad 0), .int v1]) (n := 2) (Nat.le_of_ble_eq_true rfl)
  rw [lg_entry_eq]
  generalize (lg_sl ([.ref (ad 0), .int v1]) ++ List.replicate (2 - (lg_sl ([.ref (ad 0), .int v1])).length) Slot.unset).toArray = ls at hl ⊢
  have hl : lv_has ls 2 [(0, .ref (ad 0)), (1, .int v1)] := hl
  unfold q_Roads_endOf at h
  refine lv_aload_n hx hb d_Roads_endOf_0 rfl (lv_at hl 0 rfl) ?_
  refine va_get (D := D) (ci := 5) (v := .ref (ad 2)) (C := "CarrierPaths$Roads") (T := F_Roads) (N := 7) hx hb hts in_Roads hown hK hP 0 rfl rfl 2 (by decide) (hts _ kw61) (fun _ h9 => h9) rfl d_Roads_endOf_1 ?_
  refine lv_iload_n hx hb d_Roads_endOf_4 rfl (lv_at hl 1 rfl) ?_
  obtain ⟨hi, h⟩ := h
  refine va_iald hx hb hK hP 2 0 rfl rfl hi d_Roads_endOf_5 ?_
  exact W.iret (v := (σ 2 v1.toNatClampNeg)) hx hb hr (fun t ht hW => ⟨(σ 2 v1.toNatClampNeg), rfl, h, ht⟩) (fun q hq => by cases hq) d_Roads_endOf_6
def q_Roads_timeOf (v1 : Int32) (σ : Sg) (Q : (Int32 → Prop)) : Prop :=
  (vp_in v1 30 ∧ Q (σ 3 v1.toNatClampNeg))
set_option maxHeartbeats 4000000 in
set_option maxRecDepth 100000 in
theorem t_Roads_timeOf (l : Launch) (D : va_G) (cI cZ : ClassId) (ad : Nat → Nat) (v1 : Int32) (σ : Sg) (Q : (Int32 → Prop)) (h : q_Roads_timeOf v1 σ Q) : Met l y_Roads_timeOf (.code y_Roads_timeOf prog_7_method_7_code 2 (some .int) :: TG) { frames := 0, cells := 0, slots := 0, locals := 0 } (va_Pc [.ref (ad 0), .int v1] (roB D (tysA cI cZ) (W_Roads ad cI cZ σ))) (vp_Si Q) 0 0 (fun _ => False) := by
  refine Met.ofW (cc := prog_7_method_7_code) (maxL := 2) (ret := (some .int)) (by decide) rfl ?_
  intro p e s m args below meth c s₁ B hml hv
  obtain ⟨rfl, hP, hK⟩ := hv
  have hx := B.exec
  have hb := B.bytes
  have hr := B.returns
  have hts : ∀ w ∈ TG, w.before [.ref (ad 0), .int v1].toArray s = true := fun w hw => atoms_spec (ws := .code y_Roads_timeOf prog_7_method_7_code 2 (some .int) :: TG) B.pre w (List.mem_cons_of_mem _ hw)
  have hown : s.vm.findClass "CarrierPaths$Roads" = some m.cls := findClass_of_methodNamed B.named
  have hlocks := B.notSynchronized
  have hl := lv_entry ([.ref (ad 0), .int v1]) (n := 2) (Nat.le_of_ble_eq_true rfl)
  rw [lg_entry_eq]
  generalize (lg_sl ([.ref (ad 0), .int v1]) ++ List.replicate (2 - (lg_sl ([.ref (ad 0), .int v1])).length) Slot.unset).toArray = ls at hl ⊢
  have hl : lv_has ls 2 [(0, .ref (ad 0)), (1, .int v1)] := hl
  unfold q_Roads_timeOf at h
  refine lv_aload_n hx hb d_Roads_timeOf_0 rfl (lv_at hl 0 rfl) ?_
  refine va_get (D := D) (ci := 5) (v := .ref (ad 3)) (C := "CarrierPaths$Roads") (T := F_Roads) (N := 7) hx hb hts in_Roads hown hK hP 0 rfl rfl 3 (by decide) (hts _ kw62) (fun _ h9 => h9) rfl d_Roads_timeOf_1 ?_
  refine lv_iload_n hx hb d_Roads_timeOf_4 rfl (lv_at hl 1 rfl) ?_
  obtain ⟨hi, h⟩ := h
  refine va_iald hx hb hK hP 3 0 rfl rfl hi d_Roads_timeOf_5 ?_
  exact W.iret (v := (σ 3 v1.toNatClampNeg)) hx hb hr (fun t ht hW => ⟨(σ 3 v1.toNatClampNeg), rfl, h, ht⟩) (fun q hq => by cases hq) d_Roads_timeOf_6
def q_Roads_isClosed (v1 : Int32) (σ : Sg) (Q : (Int32 → Prop)) : Prop :=
  (vp_in v1 30 ∧ (narrow .boolean (.int (σ 4 v1.toNatClampNeg)) = .int (σ 4 v1.toNatClampNeg) ∧ Q (σ 4 v1.toNatClampNeg)))
set_option maxHeartbeats 4000000 in
set_option maxRecDepth 100000 in
theorem t_Roads_isClosed (l : Launch) (D : va_G) (cI cZ : ClassId) (ad : Nat → Nat) (v1 : Int32) (σ : Sg) (Q : (Int32 → Prop)) (h : q_Roads_isClosed v1 σ Q) : Met l y_Roads_isClosed (.code y_Roads_isClosed prog_7_method_8_code 2 (some .boolean) :: TG) { frames := 0, cells := 0, slots := 0, locals := 0 } (va_Pc [.ref (ad 0), .int v1] (roB D (tysA cI cZ) (W_Roads ad cI cZ σ))) (vp_Si Q) 0 0 (fun _ => False) := by
  refine Met.ofW (cc := prog_7_method_8_code) (maxL := 2) (ret := (some .boolean)) (by decide) rfl ?_
  intro p e s m args below meth c s₁ B hml hv
  obtain ⟨rfl, hP, hK⟩ := hv
  have hx := B.exec
  have hb := B.bytes
  have hr := B.returns
  have hts : ∀ w ∈ TG, w.before [.ref (ad 0), .int v1].toArray s = true := fun w hw => atoms_spec (ws := .code y_Roads_isClosed prog_7_method_8_code 2 (some .boolean) :: TG) B.pre w (List.mem_cons_of_mem _ hw)
  have hown : s.vm.findClass "CarrierPaths$Roads" = some m.cls := findClass_of_methodNamed B.named
  have hlocks := B.notSynchronized
  have hl := lv_entry ([.ref (ad 0), .int v1]) (n := 2) (Nat.le_of_ble_eq_true rfl)
  rw [lg_entry_eq]
  generalize (lg_sl ([.ref (ad 0), .int v1]) ++ List.replicate (2 - (lg_sl ([.ref (ad 0), .int v1])).length) Slot.unset).toArray = ls at hl ⊢
  have hl : lv_has ls 2 [(0, .ref (ad 0)), (1, .int v1)] := hl
  unfold q_Roads_isClosed at h
  refine lv_aload_n hx hb d_Roads_isClosed_0 rfl (lv_at hl 0 rfl) ?_
  refine va_get (D := D) (ci := 5) (v := .ref (ad 4)) (C := "CarrierPaths$Roads") (T := F_Roads) (N := 7) hx hb hts in_Roads hown hK hP 0 rfl rfl 4 (by decide) (hts _ kw63) (fun _ h9 => h9) rfl d_Roads_isClosed_1 ?_
  refine lv_iload_n hx hb d_Roads_isClosed_4 rfl (lv_at hl 1 rfl) ?_
  obtain ⟨hi, h⟩ := h
  refine va_zald hx hb hK hP 4 1 rfl rfl hi d_Roads_isClosed_5 ?_
  obtain ⟨hn, h⟩ := h
  exact W.zret (v := (σ 4 v1.toNatClampNeg)) hx hb hr hn (fun t ht hW => ⟨(σ 4 v1.toNatClampNeg), rfl, h, ht⟩) (fun q hq => by cases hq) d_Roads_isClosed_6
def q_Roads_leastTime (v1 v2 : Int32) (σ : Sg) (Q : (Int32 → Prop)) : Prop :=
  (vp_in ((v1 * 10) + v2) 100 ∧ Q (σ 5 ((v1 * 10) + v2).toNatClampNeg))
set_option maxHeartbeats 4000000 in
set_option maxRecDepth 100000 in
theorem t_Roads_leastTime (l : Launch) (D : va_G) (cI cZ : ClassId) (ad : Nat → Nat) (v1 v2 : Int32) (σ : Sg) (Q : (Int32 → Prop)) (h : q_Roads_leastTime v1 v2 σ Q) : Met l y_Roads_leastTime (.code y_Roads_leastTime prog_7_method_11_code 3 (some .int) :: TG) { frames := 0, cells := 0, slots := 0, locals := 0 } (va_Pc [.ref (ad 0), .int v1, .int v2] (roB D (tysA cI cZ) (W_Roads ad cI cZ σ))) (vp_Si Q) 0 0 (fun _ => False) := by
  refine Met.ofW (cc := prog_7_method_11_code) (maxL := 3) (ret := (some .int)) (by decide) rfl ?_
  intro p e s m args below meth c s₁ B hml hv
  obtain ⟨rfl, hP, hK⟩ := hv
  have hx := B.exec
  have hb := B.bytes
  have hr := B.returns
  have hts : ∀ w ∈ TG, w.before [.ref (ad 0), .int v1, .int v2].toArray s = true := fun w hw => atoms_spec (ws := .code y_Roads_leastTime prog_7_method_11_code 3 (some .int) :: TG) B.pre w (List.mem_cons_of_mem _ hw)
  have hown : s.vm.findClass "CarrierPaths$Roads" = some m.cls := findClass_of_methodNamed B.named
  have hlocks := B.notSynchronized
  have hl := lv_entry ([.ref (ad 0), .int v1, .int v2]) (n := 3) (Nat.le_of_ble_eq_true rfl)
  rw [lg_entry_eq]
  generalize (lg_sl ([.ref (ad 0), .int v1, .int v2]) ++ List.replicate (3 - (lg_sl ([.ref (ad 0), .int v1, .int v2])).length) Slot.unset).toArray = ls at hl ⊢
  have hl : lv_has ls 3 [(0, .ref (ad 0)), (1, .int v1), (2, .int v2)] := hl
  unfold q_Roads_leastTime at h
  refine lv_aload_n hx hb d_Roads_leastTime_0 rfl (lv_at hl 0 rfl) ?_
  refine va_get (D := D) (ci := 5) (v := .ref (ad 5)) (C := "CarrierPaths$Roads") (T := F_Roads) (N := 7) hx hb hts in_Roads hown hK hP 0 rfl rfl 5 (by decide) (hts _ kw64) (fun _ h9 => h9) rfl d_Roads_leastTime_1 ?_
  refine lv_iload_n hx hb d_Roads_leastTime_4 rfl (lv_at hl 1 rfl) ?_
  refine lv_bipush (v := 10) hx hb d_Roads_leastTime_5 (by decide) ?_
  refine lv_imul hx hb d_Roads_leastTime_7 ?_
  refine lv_iload_n hx hb d_Roads_leastTime_8 rfl (lv_at hl 2 rfl) ?_
  refine lv_iadd hx hb d_Roads_leastTime_9 ?_
  obtain ⟨hi, h⟩ := h
  refine va_iald hx hb hK hP 5 0 rfl rfl hi d_Roads_leastTime_10 ?_
  exact W.iret (v := (σ 5 ((v1 * 10) + v2).toNatClampNeg)) hx hb hr (fun t ht hW => ⟨(σ 5 ((v1 * 10) + v2).toNatClampNeg), rfl, h, ht⟩) (fun q hq => by cases hq) d_Roads_leastTime_11
def q_Roads_hasWay (v1 v2 : Int32) (σ : Sg) (Q : (Int32 → Prop)) : Prop :=
  (q_Roads_leastTime v1 v2 σ (fun r1 => ((1000000 ≤ r1 → Q 0) ∧ (¬ 1000000 ≤ r1 → Q 1))))
set_option maxHeartbeats 4000000 in
set_option maxRecDepth 100000 in
theorem t_Roads_hasWay (l : Launch) (D : va_G) (cI cZ : ClassId) (ad : Nat → Nat) (v1 v2 : Int32) (σ : Sg) (Q : (Int32 → Prop)) (h : q_Roads_hasWay v1 v2 σ Q) : Met l y_Roads_hasWay (.code y_Roads_hasWay prog_7_method_10_code 3 (some .boolean) :: TG) { frames := 1, cells := 0, slots := 0, locals := 22 } (va_Pc [.ref (ad 0), .int v1, .int v2] (roB D (tysA cI cZ) (W_Roads ad cI cZ σ))) (vp_Si Q) 0 0 (fun _ => False) := by
  refine Met.ofW (cc := prog_7_method_10_code) (maxL := 3) (ret := (some .boolean)) (by decide) rfl ?_
  intro p e s m args below meth c s₁ B hml hv
  obtain ⟨rfl, hP, hK⟩ := hv
  have hx := B.exec
  have hb := B.bytes
  have hr := B.returns
  have hts : ∀ w ∈ TG, w.before [.ref (ad 0), .int v1, .int v2].toArray s = true := fun w hw => atoms_spec (ws := .code y_Roads_hasWay prog_7_method_10_code 3 (some .boolean) :: TG) B.pre w (List.mem_cons_of_mem _ hw)
  have hown : s.vm.findClass "CarrierPaths$Roads" = some m.cls := findClass_of_methodNamed B.named
  have hlocks := B.notSynchronized
  have hl := lv_entry ([.ref (ad 0), .int v1, .int v2]) (n := 3) (Nat.le_of_ble_eq_true rfl)
  rw [lg_entry_eq]
  generalize (lg_sl ([.ref (ad 0), .int v1, .int v2]) ++ List.replicate (3 - (lg_sl ([.ref (ad 0), .int v1, .int v2])).length) Slot.unset).toArray = ls at hl ⊢
  have hl : lv_has ls 3 [(0, .ref (ad 0)), (1, .int v1), (2, .int v2)] := hl
  unfold q_Roads_hasWay at h
  refine lv_aload_n hx hb d_Roads_hasWay_0 rfl (lv_at hl 0 rfl) ?_
  refine lv_iload_n hx hb d_Roads_hasWay_1 rfl (lv_at hl 1 rfl) ?_
  refine lv_iload_n hx hb d_Roads_hasWay_2 rfl (lv_at hl 2 rfl) ?_
  refine vp_callSi (W.runV (As := [.int v1, .int v2]) (rest := []) ⟨hx, hb, hml, hown, hts⟩ (t_Roads_leastTime l D cI cZ ad v1 v2 σ _ h) (cwV 2 hts (g_of kw348 kw255 kw256 kw4 kw257) rfl rfl rfl (by decide +kernel) ⟨Nat.le_of_ble_eq_true rfl, Nat.le_of_ble_eq_true rfl⟩) (ro_pre hK hP (va_recv hK hP (ci := 5) (q0 := 0) rfl rfl)) rfl rfl hl.1 rfl (lv_room (Nat.le_of_ble_eq_true rfl)) d_Roads_hasWay_3 ⟨Nat.le_of_ble_eq_true rfl, Nat.le_of_ble_eq_true rfl⟩) (fun r1 h => ?_)
  refine lv_ldc (v := 1000000) hx hb hown (hts _ kw58) d_Roads_hasWay_6 ?_
  refine lv_icmp_ge (tgt := 15) hx hb d_Roads_hasWay_8 (by decide) (fun hc => ?_) (fun hc => ?_)
  · have h := h.1 hc
    refine lv_iconst (v := 0) hx hb d_Roads_hasWay_15 (by decide) ?_
    exact W.zret (v := 0) hx hb hr (by decide) (fun t ht hW => ⟨0, rfl, h, ht⟩) (fun q hq => by cases hq) d_Roads_hasWay_16
  · have h := h.2 hc
    refine lv_iconst (v := 1) hx hb d_Roads_hasWay_11 (by decide) ?_
    refine lv_goto (tgt := 16) hx hb d_Roads_hasWay_12 (by decide) ?_
    exact W.zret (v := 1) hx hb hr (by decide) (fun t ht hW => ⟨1, rfl, h, ht⟩) (fun q hq => by cases hq) d_Roads_hasWay_16
def q_Roads_firstPiece_b0 (J : Nat → Int32 → Int32 → Int32 → Int32 → Prop) (Q : (Int32 → Prop)) (v1 v2 v3 v4 : Int32) (σ : Sg) : Prop :=
  (q_Roads_leastTime v1 v2 σ (fun r1 => J 1 v1 v2 r1 0))
def q_Roads_firstPiece_b1 (J : Nat → Int32 → Int32 → Int32 → Int32 → Prop) (Q : (Int32 → Prop)) (v1 v2 v3 v4 : Int32) (σ : Sg) : Prop :=
  (((σ 0 6) ≤ v4 → Q (-1)) ∧ (¬ (σ 0 6) ≤ v4 → (vp_in v4 30 ∧ (((σ 4 v4.toNatClampNeg) = 0 → (vp_in v4 30 ∧ (((σ 1 v4.toNatClampNeg) = v1 → (vp_in v4 30 ∧ (vp_in v4 30 ∧ (q_Roads_leastTime (σ 2 v4.toNatClampNeg) v2 σ (fun r2 => ((((σ 3 v4.toNatClampNeg) + r2) = v3 → Q v4) ∧ (¬ ((σ 3 v4.toNatClampNeg) + r2) = v3 → J 1 v1 v2 v3 (v4 + 1)))))))) ∧ (¬ (σ 1 v4.toNatClampNeg) = v1 → J 1 v1 v2 v3 (v4 + 1))))) ∧ (¬ (σ 4 v4.toNatClampNeg) = 0 → J 1 v1 v2 v3 (v4 + 1))))))
def q_Roads_firstPiece_j (Q : (Int32 → Prop)) (σ : Sg) : Nat → Nat → Int32 → Int32 → Int32 → Int32 → Prop
  | 0, _, _, _, _, _ => False
  | n + 1, 0, v1, v2, v3, v4 => q_Roads_firstPiece_b0 (q_Roads_firstPiece_j Q σ n) Q v1 v2 v3 v4 σ
  | n + 1, 1, v1, v2, v3, v4 => q_Roads_firstPiece_b1 (q_Roads_firstPiece_j Q σ n) Q v1 v2 v3 v4 σ
  | _ + 1, _ + 2, _, _, _, _ => False
def q_Roads_firstPiece (v1 v2 : Int32) (σ : Sg) (Q : (Int32 → Prop)) : Prop := q_Roads_firstPiece_j Q σ 4000 0 v1 v2 0 0
def lc_Roads_firstPiece (ad : Nat → Nat) (b : Nat) (v1 v2 v3 v4 : Int32) : List (Nat × Value) := match b with
  | 0 => [(0, .ref (ad 0)), (1, .int v1), (2, .int v2)]
  | 1 => [(0, .ref (ad 0)), (1, .int v1), (2, .int v2), (3, .int v3), (4, .int v4)]
  | _ => []
def pc_Roads_firstPiece (b : Nat) : Nat := match b with
  | 0 => 0
  | 1 => 10
  | _ => 0
set_option maxHeartbeats 4000000 in
set_option maxRecDepth 100000 in
theorem t_Roads_firstPiece (l : Launch) (D : va_G) (cI cZ : ClassId) (ad : Nat → Nat) (v1 v2 : Int32) (σ : Sg) (Q : (Int32 → Prop)) (h : q_Roads_firstPiece v1 v2 σ Q) : Met l y_Roads_firstPiece (.code y_Roads_firstPiece prog_7_method_12_code 5 (some .int) :: TG) { frames := 1, cells := 0, slots := 0, locals := 22 } (va_Pc [.ref (ad 0), .int v1, .int v2] (roB D (tysA cI cZ) (W_Roads ad cI cZ σ))) (vp_Si Q) 0 0 (fun _ => False) := by
  refine Met.ofW (cc := prog_7_method_12_code) (maxL := 5) (ret := (some .int)) (by decide) rfl ?_
  intro p e s m args below meth c s₁ B hml hv
  obtain ⟨rfl, hP, hK⟩ := hv
  have hx := B.exec
  have hb := B.bytes
  have hr := B.returns
  have hts : ∀ w ∈ TG, w.before [.ref (ad 0), .int v1, .int v2].toArray s = true := fun w hw => atoms_spec (ws := .code y_Roads_firstPiece prog_7_method_12_code 5 (some .int) :: TG) B.pre w (List.mem_cons_of_mem _ hw)
  have hown : s.vm.findClass "CarrierPaths$Roads" = some m.cls := findClass_of_methodNamed B.named
  have hlocks := B.notSynchronized
  have hl := lv_entry ([.ref (ad 0), .int v1, .int v2]) (n := 5) (Nat.le_of_ble_eq_true rfl)
  rw [lg_entry_eq]
  generalize (lg_sl ([.ref (ad 0), .int v1, .int v2]) ++ List.replicate (5 - (lg_sl ([.ref (ad 0), .int v1, .int v2])).length) Slot.unset).toArray = ls at hl ⊢
  generalize ([.ref (ad 0), .int v1, .int v2] : List Value).toArray = args at hts ⊢
  have key : ∀ (n b : Nat) (v1 v2 v3 v4 : Int32), q_Roads_firstPiece_j Q σ n b v1 v2 v3 v4 → ∀ ls : Array Slot, lv_has ls 5 (lc_Roads_firstPiece ad b v1 v2 v3 v4) → W p l e (headSpec (.code y_Roads_firstPiece prog_7_method_12_code 5 (some .int) :: TG) { frames := 1, cells := 0, slots := 0, locals := 22 }).room s m args below meth c s.heap [] 0 0 (MQ below (vp_Si Q) args s 0 0 (fun _ => False)) (F0 m (pc_Roads_firstPiece b) ls []) := by
    clear h hl
    intro n
    induction n with
    | zero => intro b _ _ _ _ h; exact False.elim h
    | succ n ih =>
      intro b v1 v2 v3 v4 h ls hl
      match b, h, hl with
      | 0, h, hl =>
        have h : q_Roads_firstPiece_b0 (q_Roads_firstPiece_j Q σ n) Q v1 v2 v3 v4 σ := h
        have hl : lv_has ls 5 [(0, .ref (ad 0)), (1, .int v1), (2, .int v2)] := hl
        refine W.eq (g2 := F0 m 0 ls []) rfl ?_
        unfold q_Roads_firstPiece_b0 at h
        refine lv_aload_n hx hb d_Roads_firstPiece_0 rfl (lv_at hl 0 rfl) ?_
        refine lv_iload_n hx hb d_Roads_firstPiece_1 rfl (lv_at hl 1 rfl) ?_
        refine lv_iload_n hx hb d_Roads_firstPiece_2 rfl (lv_at hl 2 rfl) ?_
        refine vp_callSi (W.runV (As := [.int v1, .int v2]) (rest := []) ⟨hx, hb, hml, hown, hts⟩ (t_Roads_leastTime l D cI cZ ad v1 v2 σ _ h) (cwV 2 hts (g_of kw348 kw255 kw256 kw4 kw257) rfl rfl rfl (by decide +kernel) ⟨Nat.le_of_ble_eq_true rfl, Nat.le_of_ble_eq_true rfl⟩) (ro_pre hK hP (va_recv hK hP (ci := 5) (q0 := 0) rfl rfl)) rfl rfl hl.1 rfl (lv_room (Nat.le_of_ble_eq_true rfl)) d_Roads_firstPiece_3 ⟨Nat.le_of_ble_eq_true rfl, Nat.le_of_ble_eq_true rfl⟩) (fun r1 h => ?_)
        refine lv_istore_n (lv' := [(3, .int r1), (0, .ref (ad 0)), (1, .int v1), (2, .int v2)]) hx hb d_Roads_firstPiece_6 rfl hl (by decide) rfl (fun ls hl => ?_)
        refine lv_iconst (v := 0) hx hb d_Roads_firstPiece_7 (by decide) ?_
        refine lv_istore (lv' := [(4, .int 0), (3, .int r1), (0, .ref (ad 0)), (1, .int v1), (2, .int v2)]) hx hb d_Roads_firstPiece_8 hl (by decide) rfl (fun ls hl => ?_)
        exact ih 1 v1 v2 r1 0 h _ (lv_sub hl [2, 3, 4, 1, 0] rfl)
      | 1, h, hl =>
        have h : q_Roads_firstPiece_b1 (q_Roads_firstPiece_j Q σ n) Q v1 v2 v3 v4 σ := h
        have hl : lv_has ls 5 [(0, .ref (ad 0)), (1, .int v1), (2, .int v2), (3, .int v3), (4, .int v4)] := hl
        refine W.eq (g2 := F0 m 10 ls []) rfl ?_
        unfold q_Roads_firstPiece_b1 at h
        refine lv_iload hx hb d_Roads_firstPiece_10 (lv_at hl 4 rfl) ?_
        refine lv_aload_n hx hb d_Roads_firstPiece_12 rfl (lv_at hl 0 rfl) ?_
        refine va_get (D := D) (ci := 5) (v := .int (σ 0 6)) (C := "CarrierPaths$Roads") (T := F_Roads) (N := 7) hx hb hts in_Roads hown hK hP 0 rfl rfl 6 (by decide) (hts _ kw65) (fun _ h9 => h9) rfl d_Roads_firstPiece_13 ?_
        refine lv_icmp_ge (tgt := 73) hx hb d_Roads_firstPiece_16 (by decide) (fun hc => ?_) (fun hc => ?_)
        · have h := h.1 hc
          refine lv_iconst (v := (-1)) hx hb d_Roads_firstPiece_73 (by decide) ?_
          exact W.iret (v := (-1)) hx hb hr (fun t ht hW => ⟨(-1), rfl, h, ht⟩) (fun q hq => by cases hq) d_Roads_firstPiece_74
        · have h := h.2 hc
          refine lv_aload_n hx hb d_Roads_firstPiece_19 rfl (lv_at hl 0 rfl) ?_
          refine va_get (D := D) (ci := 5) (v := .ref (ad 4)) (C := "CarrierPaths$Roads") (T := F_Roads) (N := 7) hx hb hts in_Roads hown hK hP 0 rfl rfl 4 (by decide) (hts _ kw63) (fun _ h9 => h9) rfl d_Roads_firstPiece_20 ?_
          refine lv_iload hx hb d_Roads_firstPiece_23 (lv_at hl 4 rfl) ?_
          obtain ⟨hi, h⟩ := h
          refine va_zald hx hb hK hP 4 1 rfl rfl hi d_Roads_firstPiece_25 ?_
          refine lv_if_ne (tgt := 67) hx hb d_Roads_firstPiece_26 (by decide) (fun hc => ?_) (fun hc => ?_)
          · have h := h.2 hc
            refine lv_iinc (v := (v4 + 1)) (lv' := [(4, .int (v4 + 1)), (0, .ref (ad 0)), (1, .int v1), (2, .int v2), (3, .int v3)]) hx hb d_Roads_firstPiece_67 hl (k := 4) rfl rfl (by decide) rfl (fun ls hl => ?_)
            refine lv_goto (tgt := 10) hx hb d_Roads_firstPiece_70 (by decide) ?_
            exact ih 1 v1 v2 v3 (v4 + 1) h _ (lv_sub hl [1, 2, 3, 4, 0] rfl)
          · have h := h.1 hc
            refine lv_aload_n hx hb d_Roads_firstPiece_29 rfl (lv_at hl 0 rfl) ?_
            refine va_get (D := D) (ci := 5) (v := .ref (ad 1)) (C := "CarrierPaths$Roads") (T := F_Roads) (N := 7) hx hb hts in_Roads hown hK hP 0 rfl rfl 1 (by decide) (hts _ kw60) (fun _ h9 => h9) rfl d_Roads_firstPiece_30 ?_
            refine lv_iload hx hb d_Roads_firstPiece_33 (lv_at hl 4 rfl) ?_
            obtain ⟨hi, h⟩ := h
            refine va_iald hx hb hK hP 1 0 rfl rfl hi d_Roads_firstPiece_35 ?_
            refine lv_iload_n hx hb d_Roads_firstPiece_36 rfl (lv_at hl 1 rfl) ?_
            refine lv_icmp_ne (tgt := 67) hx hb d_Roads_firstPiece_37 (by decide) (fun hc => ?_) (fun hc => ?_)
            · have h := h.2 hc
              refine lv_iinc (v := (v4 + 1)) (lv' := [(4, .int (v4 + 1)), (0, .ref (ad 0)), (1, .int v1), (2, .int v2), (3, .int v3)]) hx hb d_Roads_firstPiece_67 hl (k := 4) rfl rfl (by decide) rfl (fun ls hl => ?_)
              refine lv_goto (tgt := 10) hx hb d_Roads_firstPiece_70 (by decide) ?_
              exact ih 1 v1 v2 v3 (v4 + 1) h _ (lv_sub hl [1, 2, 3, 4, 0] rfl)
            · have h := h.1 hc
              refine lv_aload_n hx hb d_Roads_firstPiece_40 rfl (lv_at hl 0 rfl) ?_
              refine va_get (D := D) (ci := 5) (v := .ref (ad 3)) (C := "CarrierPaths$Roads") (T := F_Roads) (N := 7) hx hb hts in_Roads hown hK hP 0 rfl rfl 3 (by decide) (hts _ kw62) (fun _ h9 => h9) rfl d_Roads_firstPiece_41 ?_
              refine lv_iload hx hb d_Roads_firstPiece_44 (lv_at hl 4 rfl) ?_
              obtain ⟨hi, h⟩ := h
              refine va_iald hx hb hK hP 3 0 rfl rfl hi d_Roads_firstPiece_46 ?_
              refine lv_aload_n hx hb d_Roads_firstPiece_47 rfl (lv_at hl 0 rfl) ?_
              refine lv_aload_n hx hb d_Roads_firstPiece_48 rfl (lv_at hl 0 rfl) ?_
              refine va_get (D := D) (ci := 5) (v := .ref (ad 2)) (C := "CarrierPaths$Roads") (T := F_Roads) (N := 7) hx hb hts in_Roads hown hK hP 0 rfl rfl 2 (by decide) (hts _ kw61) (fun _ h9 => h9) rfl d_Roads_firstPiece_49 ?_
              refine lv_iload hx hb d_Roads_firstPiece_52 (lv_at hl 4 rfl) ?_
              obtain ⟨hi, h⟩ := h
              refine va_iald hx hb hK hP 2 0 rfl rfl hi d_Roads_firstPiece_54 ?_
              refine lv_iload_n hx hb d_Roads_firstPiece_55 rfl (lv_at hl 2 rfl) ?_
              refine vp_callSi (W.runV (As := [.int (σ 2 v4.toNatClampNeg), .int v2]) (rest := [.int (σ 3 v4.toNatClampNeg)]) ⟨hx, hb, hml, hown, hts⟩ (t_Roads_leastTime l D cI cZ ad (σ 2 v4.toNatClampNeg) v2 σ _ h) (cwV 2 hts (g_of kw348 kw255 kw256 kw4 kw257) rfl rfl rfl (by decide +kernel) ⟨Nat.le_of_ble_eq_true rfl, Nat.le_of_ble_eq_true rfl⟩) (ro_pre hK hP (va_recv hK hP (ci := 5) (q0 := 0) rfl rfl)) rfl rfl hl.1 rfl (lv_room (Nat.le_of_ble_eq_true rfl)) d_Roads_firstPiece_56 ⟨Nat.le_of_ble_eq_true rfl, Nat.le_of_ble_eq_true rfl⟩) (fun r2 h => ?_)
              refine lv_iadd hx hb d_Roads_firstPiece_59 ?_
              refine lv_iload_n hx hb d_Roads_firstPiece_60 rfl (lv_at hl 3 rfl) ?_
              refine lv_icmp_ne (tgt := 67) hx hb d_Roads_firstPiece_61 (by decide) (fun hc => ?_) (fun hc => ?_)
              · have h := h.2 hc
                refine lv_iinc (v := (v4 + 1)) (lv' := [(4, .int (v4 + 1)), (0, .ref (ad 0)), (1, .int v1), (2, .int v2), (3, .int v3)]) hx hb d_Roads_firstPiece_67 hl (k := 4) rfl rfl (by decide) rfl (fun ls hl => ?_)
                refine lv_goto (tgt := 10) hx hb d_Roads_firstPiece_70 (by decide) ?_
                exact ih 1 v1 v2 v3 (v4 + 1) h _ (lv_sub hl [1, 2, 3, 4, 0] rfl)
              · have h := h.1 hc
                refine lv_iload hx hb d_Roads_firstPiece_64 (lv_at hl 4 rfl) ?_
                exact W.iret (v := v4) hx hb hr (fun t ht hW => ⟨v4, rfl, h, ht⟩) (fun q hq => by cases hq) d_Roads_firstPiece_66
      | _ + 2, h, _ => exact False.elim h
  exact key 4000 0 v1 v2 0 0 h ls hl
def q_Roads_piecesOnWay_b0 (J : Nat → Int32 → Int32 → Int32 → Int32 → Prop) (Q : (Int32 → Prop)) (v1 v2 v3 v4 : Int32) (σ : Sg) : Prop :=
  (q_Roads_firstPiece v1 v2 σ (fun r1 => J 1 v1 v2 0 r1))
def q_Roads_piecesOnWay_b1 (J : Nat → Int32 → Int32 → Int32 → Int32 → Prop) (Q : (Int32 → Prop)) (v1 v2 v3 v4 : Int32) (σ : Sg) : Prop :=
  ((v4 = (-1) → Q v3) ∧ (¬ v4 = (-1) → (((σ 0 0) ≤ v3 → Q v3) ∧ (¬ (σ 0 0) ≤ v3 → (vp_in v4 30 ∧ (q_Roads_firstPiece (σ 2 v4.toNatClampNeg) v2 σ (fun r2 => J 1 v1 v2 (v3 + 1) r2)))))))
def q_Roads_piecesOnWay_j (Q : (Int32 → Prop)) (σ : Sg) : Nat → Nat → Int32 → Int32 → Int32 → Int32 → Prop
  | 0, _, _, _, _, _ => False
  | n + 1, 0, v1, v2, v3, v4 => q_Roads_piecesOnWay_b0 (q_Roads_piecesOnWay_j Q σ n) Q v1 v2 v3 v4 σ
  | n + 1, 1, v1, v2, v3, v4 => q_Roads_piecesOnWay_b1 (q_Roads_piecesOnWay_j Q σ n) Q v1 v2 v3 v4 σ
  | _ + 1, _ + 2, _, _, _, _ => False
def q_Roads_piecesOnWay (v1 v2 : Int32) (σ : Sg) (Q : (Int32 → Prop)) : Prop := q_Roads_piecesOnWay_j Q σ 4000 0 v1 v2 0 0
def lc_Roads_piecesOnWay (ad : Nat → Nat) (b : Nat) (v1 v2 v3 v4 : Int32) : List (Nat × Value) := match b with
  | 0 => [(0, .ref (ad 0)), (1, .int v1), (2, .int v2)]
  | 1 => [(0, .ref (ad 0)), (1, .int v1), (2, .int v2), (3, .int v3), (4, .int v4)]
  | _ => []
def pc_Roads_piecesOnWay (b : Nat) : Nat := match b with
  | 0 => 0
  | 1 => 10
  | _ => 0
set_option maxHeartbeats 4000000 in
set_option maxRecDepth 100000 in
theorem t_Roads_piecesOnWay (l : Launch) (D : va_G) (cI cZ : ClassId) (ad : Nat → Nat) (v1 v2 : Int32) (σ : Sg) (Q : (Int32 → Prop)) (h : q_Roads_piecesOnWay v1 v2 σ Q) : Met l y_Roads_piecesOnWay (.code y_Roads_piecesOnWay prog_7_method_13_code 5 (some .int) :: TG) { frames := 2, cells := 0, slots := 0, locals := 46 } (va_Pc [.ref (ad 0), .int v1, .int v2] (roB D (tysA cI cZ) (W_Roads ad cI cZ σ))) (vp_Si Q) 0 0 (fun _ => False) := by
  refine Met.ofW (cc := prog_7_method_13_code) (maxL := 5) (ret := (some .int)) (by decide) rfl ?_
  intro p e s m args below meth c s₁ B hml hv
  obtain ⟨rfl, hP, hK⟩ := hv
  have hx := B.exec
  have hb := B.bytes
  have hr := B.returns
  have hts : ∀ w ∈ TG, w.before [.ref (ad 0), .int v1, .int v2].toArray s = true := fun w hw => atoms_spec (ws := .code y_Roads_piecesOnWay prog_7_method_13_code 5 (some .int) :: TG) B.pre w (List.mem_cons_of_mem _ hw)
  have hown : s.vm.findClass "CarrierPaths$Roads" = some m.cls := findClass_of_methodNamed B.named
  have hlocks := B.notSynchronized
  have hl := lv_entry ([.ref (ad 0), .int v1, .int v2]) (n := 5) (Nat.le_of_ble_eq_true rfl)
  rw [lg_entry_eq]
  generalize (lg_sl ([.ref (ad 0), .int v1, .int v2]) ++ List.replicate (5 - (lg_sl ([.ref (ad 0), .int v1, .int v2])).length) Slot.unset).toArray = ls at hl ⊢
  generalize ([.ref (ad 0), .int v1, .int v2] : List Value).toArray = args at hts ⊢
  have key : ∀ (n b : Nat) (v1 v2 v3 v4 : Int32), q_Roads_piecesOnWay_j Q σ n b v1 v2 v3 v4 → ∀ ls : Array Slot, lv_has ls 5 (lc_Roads_piecesOnWay ad b v1 v2 v3 v4) → W p l e (headSpec (.code y_Roads_piecesOnWay prog_7_method_13_code 5 (some .int) :: TG) { frames := 2, cells := 0, slots := 0, locals := 46 }).room s m args below meth c s.heap [] 0 0 (MQ below (vp_Si Q) args s 0 0 (fun _ => False)) (F0 m (pc_Roads_piecesOnWay b) ls []) := by
    clear h hl
    intro n
    induction n with
    | zero => intro b _ _ _ _ h; exact False.elim h
    | succ n ih =>
      intro b v1 v2 v3 v4 h ls hl
      match b, h, hl with
      | 0, h, hl =>
        have h : q_Roads_piecesOnWay_b0 (q_Roads_piecesOnWay_j Q σ n) Q v1 v2 v3 v4 σ := h
        have hl : lv_has ls 5 [(0, .ref (ad 0)), (1, .int v1), (2, .int v2)] := hl
        refine W.eq (g2 := F0 m 0 ls []) rfl ?_
        unfold q_Roads_piecesOnWay_b0 at h
        refine lv_iconst (v := 0) hx hb d_Roads_piecesOnWay_0 (by decide) ?_
        refine lv_istore_n (lv' := [(3, .int 0), (0, .ref (ad 0)), (1, .int v1), (2, .int v2)]) hx hb d_Roads_piecesOnWay_1 rfl hl (by decide) rfl (fun ls hl => ?_)
        refine lv_aload_n hx hb d_Roads_piecesOnWay_2 rfl (lv_at hl 1 rfl) ?_
        refine lv_iload_n hx hb d_Roads_piecesOnWay_3 rfl (lv_at hl 2 rfl) ?_
        refine lv_iload_n hx hb d_Roads_piecesOnWay_4 rfl (lv_at hl 3 rfl) ?_
        refine vp_callSi (W.runV (As := [.int v1, .int v2]) (rest := []) ⟨hx, hb, hml, hown, hts⟩ (t_Roads_firstPiece l D cI cZ ad v1 v2 σ _ h) (cwV 2 hts (g_of kw700 kw605 kw606 kw4 kw607) rfl rfl rfl (by decide +kernel) ⟨Nat.le_of_ble_eq_true rfl, Nat.le_of_ble_eq_true rfl⟩) (ro_pre hK hP (va_recv hK hP (ci := 5) (q0 := 0) rfl rfl)) rfl rfl hl.1 rfl (lv_room (Nat.le_of_ble_eq_true rfl)) d_Roads_piecesOnWay_5 ⟨Nat.le_of_ble_eq_true rfl, Nat.le_of_ble_eq_true rfl⟩) (fun r1 h => ?_)
        refine lv_istore (lv' := [(4, .int r1), (3, .int 0), (0, .ref (ad 0)), (1, .int v1), (2, .int v2)]) hx hb d_Roads_piecesOnWay_8 hl (by decide) rfl (fun ls hl => ?_)
        exact ih 1 v1 v2 0 r1 h _ (lv_sub hl [2, 3, 4, 1, 0] rfl)
      | 1, h, hl =>
        have h : q_Roads_piecesOnWay_b1 (q_Roads_piecesOnWay_j Q σ n) Q v1 v2 v3 v4 σ := h
        have hl : lv_has ls 5 [(0, .ref (ad 0)), (1, .int v1), (2, .int v2), (3, .int v3), (4, .int v4)] := hl
        refine W.eq (g2 := F0 m 10 ls []) rfl ?_
        unfold q_Roads_piecesOnWay_b1 at h
        refine lv_iload hx hb d_Roads_piecesOnWay_10 (lv_at hl 4 rfl) ?_
        refine lv_iconst (v := (-1)) hx hb d_Roads_piecesOnWay_12 (by decide) ?_
        refine lv_icmp_eq (tgt := 44) hx hb d_Roads_piecesOnWay_13 (by decide) (fun hc => ?_) (fun hc => ?_)
        · have h := h.1 hc
          refine lv_iload_n hx hb d_Roads_piecesOnWay_44 rfl (lv_at hl 3 rfl) ?_
          exact W.iret (v := v3) hx hb hr (fun t ht hW => ⟨v3, rfl, h, ht⟩) (fun q hq => by cases hq) d_Roads_piecesOnWay_45
        · have h := h.2 hc
          refine lv_iload_n hx hb d_Roads_piecesOnWay_16 rfl (lv_at hl 3 rfl) ?_
          refine lv_aload_n hx hb d_Roads_piecesOnWay_17 rfl (lv_at hl 0 rfl) ?_
          refine va_get (D := D) (ci := 5) (v := .int (σ 0 0)) (C := "CarrierPaths$Roads") (T := F_Roads) (N := 7) hx hb hts in_Roads hown hK hP 0 rfl rfl 0 (by decide) (hts _ kw59) (fun _ h9 => h9) rfl d_Roads_piecesOnWay_18 ?_
          refine lv_icmp_ge (tgt := 44) hx hb d_Roads_piecesOnWay_21 (by decide) (fun hc => ?_) (fun hc => ?_)
          · have h := h.1 hc
            refine lv_iload_n hx hb d_Roads_piecesOnWay_44 rfl (lv_at hl 3 rfl) ?_
            exact W.iret (v := v3) hx hb hr (fun t ht hW => ⟨v3, rfl, h, ht⟩) (fun q hq => by cases hq) d_Roads_piecesOnWay_45
          · have h := h.2 hc
            refine lv_iinc (v := (v3 + 1)) (lv' := [(3, .int (v3 + 1)), (0, .ref (ad 0)), (1, .int v1), (2, .int v2), (4, .int v4)]) hx hb d_Roads_piecesOnWay_24 hl (k := 3) rfl rfl (by decide) rfl (fun ls hl => ?_)
            refine lv_aload_n hx hb d_Roads_piecesOnWay_27 rfl (lv_at hl 1 rfl) ?_
            refine lv_aload_n hx hb d_Roads_piecesOnWay_28 rfl (lv_at hl 1 rfl) ?_
            refine va_get (D := D) (ci := 5) (v := .ref (ad 2)) (C := "CarrierPaths$Roads") (T := F_Roads) (N := 7) hx hb hts in_Roads hown hK hP 0 rfl rfl 2 (by decide) (hts _ kw61) (fun _ h9 => h9) rfl d_Roads_piecesOnWay_29 ?_
            refine lv_iload hx hb d_Roads_piecesOnWay_32 (lv_at hl 4 rfl) ?_
            obtain ⟨hi, h⟩ := h
            refine va_iald hx hb hK hP 2 0 rfl rfl hi d_Roads_piecesOnWay_34 ?_
            refine lv_iload_n hx hb d_Roads_piecesOnWay_35 rfl (lv_at hl 3 rfl) ?_
            refine vp_callSi (W.runV (As := [.int (σ 2 v4.toNatClampNeg), .int v2]) (rest := []) ⟨hx, hb, hml, hown, hts⟩ (t_Roads_firstPiece l D cI cZ ad (σ 2 v4.toNatClampNeg) v2 σ _ h) (cwV 2 hts (g_of kw700 kw605 kw606 kw4 kw607) rfl rfl rfl (by decide +kernel) ⟨Nat.le_of_ble_eq_true rfl, Nat.le_of_ble_eq_true rfl⟩) (ro_pre hK hP (va_recv hK hP (ci := 5) (q0 := 0) rfl rfl)) rfl rfl hl.1 rfl (lv_room (Nat.le_of_ble_eq_true rfl)) d_Roads_piecesOnWay_36 ⟨Nat.le_of_ble_eq_true rfl, Nat.le_of_ble_eq_true rfl⟩) (fun r2 h => ?_)
            refine lv_istore (lv' := [(4, .int r2), (3, .int (v3 + 1)), (0, .ref (ad 0)), (1, .int v1), (2, .int v2)]) hx hb d_Roads_piecesOnWay_39 hl (by decide) rfl (fun ls hl => ?_)
            refine lv_goto (tgt := 10) hx hb d_Roads_piecesOnWay_41 (by decide) ?_
            exact ih 1 v1 v2 (v3 + 1) r2 h _ (lv_sub hl [2, 3, 4, 1, 0] rfl)
      | _ + 2, h, _ => exact False.elim h
  exact key 4000 0 v1 v2 0 0 h ls hl
def q_Roads_forgetTimes_b0 (J : Nat → Int32 → Int32 → Sg → Prop) (Q : (Sg → Prop)) (v1 v2 : Int32) (σ : Sg) : Prop :=
  J 1 0 0 σ
def q_Roads_forgetTimes_b1 (J : Nat → Int32 → Int32 → Sg → Prop) (Q : (Sg → Prop)) (v1 v2 : Int32) (σ : Sg) : Prop :=
  ((10 ≤ v1 → Q σ) ∧ (¬ 10 ≤ v1 → J 2 v1 0 σ))
def q_Roads_forgetTimes_b2 (J : Nat → Int32 → Int32 → Sg → Prop) (Q : (Sg → Prop)) (v1 v2 : Int32) (σ : Sg) : Prop :=
  ((10 ≤ v2 → J 1 (v1 + 1) 0 σ) ∧ (¬ 10 ≤ v2 → ((v1 = v2 → (vp_in ((v1 * 10) + v2) 100 ∧ J 2 v1 (v2 + 1) (sto σ 5 ((v1 * 10) + v2).toNatClampNeg 0))) ∧ (¬ v1 = v2 → (vp_in ((v1 * 10) + v2) 100 ∧ J 2 v1 (v2 + 1) (sto σ 5 ((v1 * 10) + v2).toNatClampNeg 1000000))))))
def q_Roads_forgetTimes_j (Q : (Sg → Prop)) : Nat → Nat → Int32 → Int32 → Sg → Prop
  | 0, _, _, _, _ => False
  | n + 1, 0, v1, v2, σ => q_Roads_forgetTimes_b0 (q_Roads_forgetTimes_j Q n) Q v1 v2 σ
  | n + 1, 1, v1, v2, σ => q_Roads_forgetTimes_b1 (q_Roads_forgetTimes_j Q n) Q v1 v2 σ
  | n + 1, 2, v1, v2, σ => q_Roads_forgetTimes_b2 (q_Roads_forgetTimes_j Q n) Q v1 v2 σ
  | _ + 1, _ + 3, _, _, _ => False
def q_Roads_forgetTimes (σ : Sg) (Q : (Sg → Prop)) : Prop := q_Roads_forgetTimes_j Q 4000 0 0 0 σ
def lc_Roads_forgetTimes (ad : Nat → Nat) (b : Nat) (v1 v2 : Int32) : List (Nat × Value) := match b with
  | 0 => [(0, .ref (ad 0))]
  | 1 => [(0, .ref (ad 0)), (1, .int v1)]
  | 2 => [(0, .ref (ad 0)), (1, .int v1), (2, .int v2)]
  | _ => []
def pc_Roads_forgetTimes (b : Nat) : Nat := match b with
  | 0 => 0
  | 1 => 2
  | 2 => 10
  | _ => 0
set_option maxHeartbeats 4000000 in
set_option maxRecDepth 100000 in
theorem t_Roads_forgetTimes (l : Launch) (D : va_G) (cI cZ : ClassId) (ad : Nat → Nat) (inj : Inj ad 6) (σ : Sg) (Q : (Sg → Prop)) (h : q_Roads_forgetTimes σ Q) : Met l y_Roads_forgetTimes (.code y_Roads_forgetTimes prog_7_method_15_code 3 none :: TG) { frames := 0, cells := 0, slots := 0, locals := 0 } (va_Pc [.ref (ad 0)] (roB D (tysA cI cZ) (W_Roads ad cI cZ σ))) (va_Qv Q (fun u t => va_P D classes (W_Roads ad cI cZ u) t.heap) (inA ad 6)) 0 0 (inA ad 6) := by
  refine Met.ofW (cc := prog_7_method_15_code) (maxL := 3) (ret := none) (by decide) rfl ?_
  intro p e s m args below meth c s₁ B hml hv
  obtain ⟨rfl, hP, hK⟩ := hv
  have hx := B.exec
  have hb := B.bytes
  have hr := B.returns
  have hts : ∀ w ∈ TG, w.before [.ref (ad 0)].toArray s = true := fun w hw => atoms_spec (ws := .code y_Roads_forgetTimes prog_7_method_15_code 3 none :: TG) B.pre w (List.mem_cons_of_mem _ hw)
  have hown : s.vm.findClass "CarrierPaths$Roads" = some m.cls := findClass_of_methodNamed B.named
  have hlocks := B.notSynchronized
  have hS : va_S (inA ad 6) s.heap s.heap [] := va_S.rf
  have hl := lv_entry ([.ref (ad 0)]) (n := 3) (Nat.le_of_ble_eq_true rfl)
  rw [lg_entry_eq]
  generalize (lg_sl ([.ref (ad 0)]) ++ List.replicate (3 - (lg_sl ([.ref (ad 0)])).length) Slot.unset).toArray = ls at hl ⊢
  generalize ([.ref (ad 0)] : List Value).toArray = args at hts ⊢
  have key : ∀ (n b : Nat) (v1 v2 : Int32) (σ : Sg), q_Roads_forgetTimes_j Q n b v1 v2 σ → ∀ (H : Heap) (locs : List Loc) (ls : Array Slot), va_P D classes (W_Roads ad cI cZ σ) H → va_S (inA ad 6) s.heap H locs → lv_has ls 3 (lc_Roads_forgetTimes ad b v1 v2) → W p l e (headSpec (.code y_Roads_forgetTimes prog_7_method_15_code 3 none :: TG) { frames := 0, cells := 0, slots := 0, locals := 0 }).room s m args below meth c H locs 0 0 (MQ below (va_Qv Q (fun u t => va_P D classes (W_Roads ad cI cZ u) t.heap) (inA ad 6)) args s 0 0 (inA ad 6)) (F0 m (pc_Roads_forgetTimes b) ls []) := by
    clear h hl hP hS
    intro n
    induction n with
    | zero => intro b _ _ _ h; exact False.elim h
    | succ n ih =>
      intro b v1 v2 σ h H locs ls hP hS hl
      match b, h, hl with
      | 0, h, hl =>
        have h : q_Roads_forgetTimes_b0 (q_Roads_forgetTimes_j Q n) Q v1 v2 σ := h
        have hl : lv_has ls 3 [(0, .ref (ad 0))] := hl
        refine W.eq (g2 := F0 m 0 ls []) rfl ?_
        unfold q_Roads_forgetTimes_b0 at h
        refine lv_iconst (v := 0) hx hb d_Roads_forgetTimes_0 (by decide) ?_
        refine lv_istore_n (lv' := [(1, .int 0), (0, .ref (ad 0))]) hx hb d_Roads_forgetTimes_1 rfl hl (by decide) rfl (fun ls hl => ?_)
        exact ih 1 0 0 σ h _ _ _ hP hS (lv_sub hl [1, 0] rfl)
      | 1, h, hl =>
        have h : q_Roads_forgetTimes_b1 (q_Roads_forgetTimes_j Q n) Q v1 v2 σ := h
        have hl : lv_has ls 3 [(0, .ref (ad 0)), (1, .int v1)] := hl
        refine W.eq (g2 := F0 m 2 ls []) rfl ?_
        unfold q_Roads_forgetTimes_b1 at h
        refine lv_iload_n hx hb d_Roads_forgetTimes_2 rfl (lv_at hl 1 rfl) ?_
        refine lv_bipush (v := 10) hx hb d_Roads_forgetTimes_3 (by decide) ?_
        refine lv_icmp_ge (tgt := 50) hx hb d_Roads_forgetTimes_5 (by decide) (fun hc => ?_) (fun hc => ?_)
        · have h := h.1 hc
          exact W.vret hx hb hr (fun t ht hW => ⟨⟨σ, rfl, h, hp_back ht hP⟩, hS.F ht⟩) hS.2.2 d_Roads_forgetTimes_50
        · have h := h.2 hc
          refine lv_iconst (v := 0) hx hb d_Roads_forgetTimes_8 (by decide) ?_
          refine lv_istore_n (lv' := [(2, .int 0), (0, .ref (ad 0)), (1, .int v1)]) hx hb d_Roads_forgetTimes_9 rfl hl (by decide) rfl (fun ls hl => ?_)
          exact ih 2 v1 0 σ h _ _ _ hP hS (lv_sub hl [1, 2, 0] rfl)
      | 2, h, hl =>
        have h : q_Roads_forgetTimes_b2 (q_Roads_forgetTimes_j Q n) Q v1 v2 σ := h
        have hl : lv_has ls 3 [(0, .ref (ad 0)), (1, .int v1), (2, .int v2)] := hl
        refine W.eq (g2 := F0 m 10 ls []) rfl ?_
        unfold q_Roads_forgetTimes_b2 at h
        refine lv_iload_n hx hb d_Roads_forgetTimes_10 rfl (lv_at hl 2 rfl) ?_
        refine lv_bipush (v := 10) hx hb d_Roads_forgetTimes_11 (by decide) ?_
        refine lv_icmp_ge (tgt := 44) hx hb d_Roads_forgetTimes_13 (by decide) (fun hc => ?_) (fun hc => ?_)
        · have h := h.1 hc
          refine lv_iinc (v := (v1 + 1)) (lv' := [(1, .int (v1 + 1)), (0, .ref (ad 0)), (2, .int v2)]) hx hb d_Roads_forgetTimes_44 hl (k := 1) rfl rfl (by decide) rfl (fun ls hl => ?_)
          refine lv_goto (tgt := 2) hx hb d_Roads_forgetTimes_47 (by decide) ?_
          exact ih 1 (v1 + 1) 0 σ h _ _ _ hP hS (lv_sub hl [1, 0] rfl)
        · have h := h.2 hc
          refine lv_aload_n hx hb d_Roads_forgetTimes_16 rfl (lv_at hl 0 rfl) ?_
          refine va_get (D := D) (ci := 5) (v := .ref (ad 5)) (C := "CarrierPaths$Roads") (T := F_Roads) (N := 7) hx hb hts in_Roads hown hK hP 0 rfl rfl 5 (by decide) (hts _ kw64) (fun _ h9 => h9) rfl d_Roads_forgetTimes_17 ?_
          refine lv_iload_n hx hb d_Roads_forgetTimes_20 rfl (lv_at hl 1 rfl) ?_
          refine lv_bipush (v := 10) hx hb d_Roads_forgetTimes_21 (by decide) ?_
          refine lv_imul hx hb d_Roads_forgetTimes_23 ?_
          refine lv_iload_n hx hb d_Roads_forgetTimes_24 rfl (lv_at hl 2 rfl) ?_
          refine lv_iadd hx hb d_Roads_forgetTimes_25 ?_
          refine lv_iload_n hx hb d_Roads_forgetTimes_26 rfl (lv_at hl 1 rfl) ?_
          refine lv_iload_n hx hb d_Roads_forgetTimes_27 rfl (lv_at hl 2 rfl) ?_
          refine lv_icmp_ne (tgt := 35) hx hb d_Roads_forgetTimes_28 (by decide) (fun hc => ?_) (fun hc => ?_)
          · have h := h.2 hc
            refine lv_ldc (v := 1000000) hx hb hown (hts _ kw58) d_Roads_forgetTimes_35 ?_
            obtain ⟨hi, h⟩ := h
            refine va_iast hx hb hK hP (D_Roads inj) hS 5 0 rfl rfl hi d_Roads_forgetTimes_37 (fun H locs hP _ hS => ?_)
            have hP := up_Roads_5 hP
            refine lv_iinc (v := (v2 + 1)) (lv' := [(2, .int (v2 + 1)), (0, .ref (ad 0)), (1, .int v1)]) hx hb d_Roads_forgetTimes_38 hl (k := 2) rfl rfl (by decide) rfl (fun ls hl => ?_)
            refine lv_goto (tgt := 10) hx hb d_Roads_forgetTimes_41 (by decide) ?_
            exact ih 2 v1 (v2 + 1) (sto σ 5 ((v1 * 10) + v2).toNatClampNeg 1000000) h _ _ _ hP hS (lv_sub hl [1, 2, 0] rfl)
          · have h := h.1 hc
            refine lv_iconst (v := 0) hx hb d_Roads_forgetTimes_31 (by decide) ?_
            refine lv_goto (tgt := 37) hx hb d_Roads_forgetTimes_32 (by decide) ?_
            obtain ⟨hi, h⟩ := h
            refine va_iast hx hb hK hP (D_Roads inj) hS 5 0 rfl rfl hi d_Roads_forgetTimes_37 (fun H locs hP _ hS => ?_)
            have hP := up_Roads_5 hP
            refine lv_iinc (v := (v2 + 1)) (lv' := [(2, .int (v2 + 1)), (0, .ref (ad 0)), (1, .int v1)]) hx hb d_Roads_forgetTimes_38 hl (k := 2) rfl rfl (by decide) rfl (fun ls hl => ?_)
            refine lv_goto (tgt := 10) hx hb d_Roads_forgetTimes_41 (by decide) ?_
            exact ih 2 v1 (v2 + 1) (sto σ 5 ((v1 * 10) + v2).toNatClampNeg 0) h _ _ _ hP hS (lv_sub hl [1, 2, 0] rfl)
      | _ + 3, h, _ => exact False.elim h
  exact key 4000 0 0 0 σ h s.heap [] ls hP hS hl
def q_Roads_shortenBy_b0 (J : Nat → Int32 → Int32 → Int32 → Int32 → Sg → Prop) (Q : (Sg → Prop)) (v1 v2 v3 v4 : Int32) (σ : Sg) : Prop :=
  J 1 v1 0 0 0 σ
def q_Roads_shortenBy_b1 (J : Nat → Int32 → Int32 → Int32 → Int32 → Sg → Prop) (Q : (Sg → Prop)) (v1 v2 v3 v4 : Int32) (σ : Sg) : Prop :=
  (((σ 0 0) ≤ v2 → Q σ) ∧ (¬ (σ 0 0) ≤ v2 → (vp_in v1 30 ∧ (q_Roads_leastTime v2 (σ 1 v1.toNatClampNeg) σ (fun r1 => (vp_in v1 30 ∧ J 2 v1 v2 (r1 + (σ 3 v1.toNatClampNeg)) 0 σ))))))
def q_Roads_shortenBy_b2 (J : Nat → Int32 → Int32 → Int32 → Int32 → Sg → Prop) (Q : (Sg → Prop)) (v1 v2 v3 v4 : Int32) (σ : Sg) : Prop :=
  (((σ 0 0) ≤ v4 → J 1 v1 (v2 + 1) 0 0 σ) ∧ (¬ (σ 0 0) ≤ v4 → (q_Roads_leastTime v2 v4 σ (fun r2 => (vp_in v1 30 ∧ (q_Roads_leastTime (σ 2 v1.toNatClampNeg) v4 σ (fun r3 => (vp_in ((v2 * 10) + v4) 100 ∧ J 2 v1 v2 v3 (v4 + 1) (sto σ 5 ((v2 * 10) + v4).toNatClampNeg (if (v3 + r3) < r2 then (v3 + r3) else r2))))))))))
def q_Roads_shortenBy_j (Q : (Sg → Prop)) : Nat → Nat → Int32 → Int32 → Int32 → Int32 → Sg → Prop
  | 0, _, _, _, _, _, _ => False
  | n + 1, 0, v1, v2, v3, v4, σ => q_Roads_shortenBy_b0 (q_Roads_shortenBy_j Q n) Q v1 v2 v3 v4 σ
  | n + 1, 1, v1, v2, v3, v4, σ => q_Roads_shortenBy_b1 (q_Roads_shortenBy_j Q n) Q v1 v2 v3 v4 σ
  | n + 1, 2, v1, v2, v3, v4, σ => q_Roads_shortenBy_b2 (q_Roads_shortenBy_j Q n) Q v1 v2 v3 v4 σ
  | _ + 1, _ + 3, _, _, _, _, _ => False
def q_Roads_shortenBy (v1 : Int32) (σ : Sg) (Q : (Sg → Prop)) : Prop := q_Roads_shortenBy_j Q 4000 0 v1 0 0 0 σ
def lc_Roads_shortenBy (ad : Nat → Nat) (b : Nat) (v1 v2 v3 v4 : Int32) : List (Nat × Value) := match b with
  | 0 => [(0, .ref (ad 0)), (1, .int v1)]
  | 1 => [(0, .ref (ad 0)), (1, .int v1), (2, .int v2)]
  | 2 => [(0, .ref (ad 0)), (1, .int v1), (2, .int v2), (3, .int v3), (4, .int v4)]
  | _ => []
def pc_Roads_shortenBy (b : Nat) : Nat := match b with
  | 0 => 0
  | 1 => 2
  | 2 => 32
  | _ => 0
set_option maxHeartbeats 4000000 in
set_option maxRecDepth 100000 in
theorem t_Roads_shortenBy (l : Launch) (D : va_G) (cI cZ : ClassId) (ad : Nat → Nat) (inj : Inj ad 6) (v1 : Int32) (σ : Sg) (Q : (Sg → Prop)) (h : q_Roads_shortenBy v1 σ Q) : Met l y_Roads_shortenBy (.code y_Roads_shortenBy prog_7_method_16_code 5 none :: TG) { frames := 1, cells := 0, slots := 0, locals := 22 } (va_Pc [.ref (ad 0), .int v1] (roB D (tysA cI cZ) (W_Roads ad cI cZ σ))) (va_Qv Q (fun u t => va_P D classes (W_Roads ad cI cZ u) t.heap) (inA ad 6)) 0 0 (inA ad 6) := by
  refine Met.ofW (cc := prog_7_method_16_code) (maxL := 5) (ret := none) (by decide) rfl ?_
  intro p e s m args below meth c s₁ B hml hv
  obtain ⟨rfl, hP, hK⟩ := hv
  have hx := B.exec
  have hb := B.bytes
  have hr := B.returns
  have hts : ∀ w ∈ TG, w.before [.ref (ad 0), .int v1].toArray s = true := fun w hw => atoms_spec (ws := .code y_Roads_shortenBy prog_7_method_16_code 5 none :: TG) B.pre w (List.mem_cons_of_mem _ hw)
  have hown : s.vm.findClass "CarrierPaths$Roads" = some m.cls := findClass_of_methodNamed B.named
  have hlocks := B.notSynchronized
  have hS : va_S (inA ad 6) s.heap s.heap [] := va_S.rf
  have hl := lv_entry ([.ref (ad 0), .int v1]) (n := 5) (Nat.le_of_ble_eq_true rfl)
  rw [lg_entry_eq]
  generalize (lg_sl ([.ref (ad 0), .int v1]) ++ List.replicate (5 - (lg_sl ([.ref (ad 0), .int v1])).length) Slot.unset).toArray = ls at hl ⊢
  generalize ([.ref (ad 0), .int v1] : List Value).toArray = args at hts ⊢
  have key : ∀ (n b : Nat) (v1 v2 v3 v4 : Int32) (σ : Sg), q_Roads_shortenBy_j Q n b v1 v2 v3 v4 σ → ∀ (H : Heap) (locs : List Loc) (ls : Array Slot), va_P D classes (W_Roads ad cI cZ σ) H → va_S (inA ad 6) s.heap H locs → lv_has ls 5 (lc_Roads_shortenBy ad b v1 v2 v3 v4) → W p l e (headSpec (.code y_Roads_shortenBy prog_7_method_16_code 5 none :: TG) { frames := 1, cells := 0, slots := 0, locals := 22 }).room s m args below meth c H locs 0 0 (MQ below (va_Qv Q (fun u t => va_P D classes (W_Roads ad cI cZ u) t.heap) (inA ad 6)) args s 0 0 (inA ad 6)) (F0 m (pc_Roads_shortenBy b) ls []) := by
    clear h hl hP hS
    intro n
    induction n with
    | zero => intro b _ _ _ _ _ h; exact False.elim h
    | succ n ih =>
      intro b v1 v2 v3 v4 σ h H locs ls hP hS hl
      match b, h, hl with
      | 0, h, hl =>
        have h : q_Roads_shortenBy_b0 (q_Roads_shortenBy_j Q n) Q v1 v2 v3 v4 σ := h
        have hl : lv_has ls 5 [(0, .ref (ad 0)), (1, .int v1)] := hl
        refine W.eq (g2 := F0 m 0 ls []) rfl ?_
        unfold q_Roads_shortenBy_b0 at h
        refine lv_iconst (v := 0) hx hb d_Roads_shortenBy_0 (by decide) ?_
        refine lv_istore_n (lv' := [(2, .int 0), (0, .ref (ad 0)), (1, .int v1)]) hx hb d_Roads_shortenBy_1 rfl hl (by decide) rfl (fun ls hl => ?_)
        exact ih 1 v1 0 0 0 σ h _ _ _ hP hS (lv_sub hl [1, 2, 0] rfl)
      | 1, h, hl =>
        have h : q_Roads_shortenBy_b1 (q_Roads_shortenBy_j Q n) Q v1 v2 v3 v4 σ := h
        have hl : lv_has ls 5 [(0, .ref (ad 0)), (1, .int v1), (2, .int v2)] := hl
        refine W.eq (g2 := F0 m 2 ls []) rfl ?_
        unfold q_Roads_shortenBy_b1 at h
        refine lv_iload_n hx hb d_Roads_shortenBy_2 rfl (lv_at hl 2 rfl) ?_
        refine lv_aload_n hx hb d_Roads_shortenBy_3 rfl (lv_at hl 0 rfl) ?_
        refine va_get (D := D) (ci := 5) (v := .int (σ 0 0)) (C := "CarrierPaths$Roads") (T := F_Roads) (N := 7) hx hb hts in_Roads hown hK hP 0 rfl rfl 0 (by decide) (hts _ kw59) (fun _ h9 => h9) rfl d_Roads_shortenBy_4 ?_
        refine lv_icmp_ge (tgt := 89) hx hb d_Roads_shortenBy_7 (by decide) (fun hc => ?_) (fun hc => ?_)
        · have h := h.1 hc
          exact W.vret hx hb hr (fun t ht hW => ⟨⟨σ, rfl, h, hp_back ht hP⟩, hS.F ht⟩) hS.2.2 d_Roads_shortenBy_89
        · have h := h.2 hc
          refine lv_aload_n hx hb d_Roads_shortenBy_10 rfl (lv_at hl 0 rfl) ?_
          refine lv_iload_n hx hb d_Roads_shortenBy_11 rfl (lv_at hl 2 rfl) ?_
          refine lv_aload_n hx hb d_Roads_shortenBy_12 rfl (lv_at hl 0 rfl) ?_
          refine va_get (D := D) (ci := 5) (v := .ref (ad 1)) (C := "CarrierPaths$Roads") (T := F_Roads) (N := 7) hx hb hts in_Roads hown hK hP 0 rfl rfl 1 (by decide) (hts _ kw60) (fun _ h9 => h9) rfl d_Roads_shortenBy_13 ?_
          refine lv_iload_n hx hb d_Roads_shortenBy_16 rfl (lv_at hl 1 rfl) ?_
          obtain ⟨hi, h⟩ := h
          refine va_iald hx hb hK hP 1 0 rfl rfl hi d_Roads_shortenBy_17 ?_
          refine vp_callSi (W.runV (As := [.int v2, .int (σ 1 v1.toNatClampNeg)]) (rest := []) ⟨hx, hb, hml, hown, hts⟩ (t_Roads_leastTime l D cI cZ ad v2 (σ 1 v1.toNatClampNeg) σ _ h) (cwV 2 hts (g_of kw348 kw255 kw256 kw4 kw257) rfl rfl rfl (by decide +kernel) ⟨Nat.le_of_ble_eq_true rfl, Nat.le_of_ble_eq_true rfl⟩) (ro_pre hK hP (va_recv hK hP (ci := 5) (q0 := 0) rfl rfl)) rfl rfl hl.1 rfl (lv_room (Nat.le_of_ble_eq_true rfl)) d_Roads_shortenBy_18 ⟨Nat.le_of_ble_eq_true rfl, Nat.le_of_ble_eq_true rfl⟩) (fun r1 h => ?_)
          refine lv_aload_n hx hb d_Roads_shortenBy_21 rfl (lv_at hl 0 rfl) ?_
          refine va_get (D := D) (ci := 5) (v := .ref (ad 3)) (C := "CarrierPaths$Roads") (T := F_Roads) (N := 7) hx hb hts in_Roads hown hK hP 0 rfl rfl 3 (by decide) (hts _ kw62) (fun _ h9 => h9) rfl d_Roads_shortenBy_22 ?_
          refine lv_iload_n hx hb d_Roads_shortenBy_25 rfl (lv_at hl 1 rfl) ?_
          obtain ⟨hi, h⟩ := h
          refine va_iald hx hb hK hP 3 0 rfl rfl hi d_Roads_shortenBy_26 ?_
          refine lv_iadd hx hb d_Roads_shortenBy_27 ?_
          refine lv_istore_n (lv' := [(3, .int (r1 + (σ 3 v1.toNatClampNeg))), (0, .ref (ad 0)), (1, .int v1), (2, .int v2)]) hx hb d_Roads_shortenBy_28 rfl hl (by decide) rfl (fun ls hl => ?_)
          refine lv_iconst (v := 0) hx hb d_Roads_shortenBy_29 (by decide) ?_
          refine lv_istore (lv' := [(4, .int 0), (3, .int (r1 + (σ 3 v1.toNatClampNeg))), (0, .ref (ad 0)), (1, .int v1), (2, .int v2)]) hx hb d_Roads_shortenBy_30 hl (by decide) rfl (fun ls hl => ?_)
          exact ih 2 v1 v2 (r1 + (σ 3 v1.toNatClampNeg)) 0 σ h _ _ _ hP hS (lv_sub hl [2, 3, 4, 1, 0] rfl)
      | 2, h, hl =>
        have h : q_Roads_shortenBy_b2 (q_Roads_shortenBy_j Q n) Q v1 v2 v3 v4 σ := h
        have hl : lv_has ls 5 [(0, .ref (ad 0)), (1, .int v1), (2, .int v2), (3, .int v3), (4, .int v4)] := hl
        refine W.eq (g2 := F0 m 32 ls []) rfl ?_
        unfold q_Roads_shortenBy_b2 at h
        refine lv_iload hx hb d_Roads_shortenBy_32 (lv_at hl 4 rfl) ?_
        refine lv_aload_n hx hb d_Roads_shortenBy_34 rfl (lv_at hl 0 rfl) ?_
        refine va_get (D := D) (ci := 5) (v := .int (σ 0 0)) (C := "CarrierPaths$Roads") (T := F_Roads) (N := 7) hx hb hts in_Roads hown hK hP 0 rfl rfl 0 (by decide) (hts _ kw59) (fun _ h9 => h9) rfl d_Roads_shortenBy_35 ?_
        refine lv_icmp_ge (tgt := 83) hx hb d_Roads_shortenBy_38 (by decide) (fun hc => ?_) (fun hc => ?_)
        · have h := h.1 hc
          refine lv_iinc (v := (v2 + 1)) (lv' := [(2, .int (v2 + 1)), (0, .ref (ad 0)), (1, .int v1), (3, .int v3), (4, .int v4)]) hx hb d_Roads_shortenBy_83 hl (k := 2) rfl rfl (by decide) rfl (fun ls hl => ?_)
          refine lv_goto (tgt := 2) hx hb d_Roads_shortenBy_86 (by decide) ?_
          exact ih 1 v1 (v2 + 1) 0 0 σ h _ _ _ hP hS (lv_sub hl [1, 2, 0] rfl)
        · have h := h.2 hc
          refine lv_aload_n hx hb d_Roads_shortenBy_41 rfl (lv_at hl 0 rfl) ?_
          refine va_get (D := D) (ci := 5) (v := .ref (ad 5)) (C := "CarrierPaths$Roads") (T := F_Roads) (N := 7) hx hb hts in_Roads hown hK hP 0 rfl rfl 5 (by decide) (hts _ kw64) (fun _ h9 => h9) rfl d_Roads_shortenBy_42 ?_
          refine lv_iload_n hx hb d_Roads_shortenBy_45 rfl (lv_at hl 2 rfl) ?_
          refine lv_bipush (v := 10) hx hb d_Roads_shortenBy_46 (by decide) ?_
          refine lv_imul hx hb d_Roads_shortenBy_48 ?_
          refine lv_iload hx hb d_Roads_shortenBy_49 (lv_at hl 4 rfl) ?_
          refine lv_iadd hx hb d_Roads_shortenBy_51 ?_
          refine lv_aload_n hx hb d_Roads_shortenBy_52 rfl (lv_at hl 0 rfl) ?_
          refine lv_iload_n hx hb d_Roads_shortenBy_53 rfl (lv_at hl 2 rfl) ?_
          refine lv_iload hx hb d_Roads_shortenBy_54 (lv_at hl 4 rfl) ?_
          refine vp_callSi (W.runV (As := [.int v2, .int v4]) (rest := [.int ((v2 * 10) + v4), .ref (ad 5)]) ⟨hx, hb, hml, hown, hts⟩ (t_Roads_leastTime l D cI cZ ad v2 v4 σ _ h) (cwV 2 hts (g_of kw348 kw255 kw256 kw4 kw257) rfl rfl rfl (by decide +kernel) ⟨Nat.le_of_ble_eq_true rfl, Nat.le_of_ble_eq_true rfl⟩) (ro_pre hK hP (va_recv hK hP (ci := 5) (q0 := 0) rfl rfl)) rfl rfl hl.1 rfl (lv_room (Nat.le_of_ble_eq_true rfl)) d_Roads_shortenBy_56 ⟨Nat.le_of_ble_eq_true rfl, Nat.le_of_ble_eq_true rfl⟩) (fun r2 h => ?_)
          refine lv_iload_n hx hb d_Roads_shortenBy_59 rfl (lv_at hl 3 rfl) ?_
          refine lv_aload_n hx hb d_Roads_shortenBy_60 rfl (lv_at hl 0 rfl) ?_
          refine lv_aload_n hx hb d_Roads_shortenBy_61 rfl (lv_at hl 0 rfl) ?_
          refine va_get (D := D) (ci := 5) (v := .ref (ad 2)) (C := "CarrierPaths$Roads") (T := F_Roads) (N := 7) hx hb hts in_Roads hown hK hP 0 rfl rfl 2 (by decide) (hts _ kw61) (fun _ h9 => h9) rfl d_Roads_shortenBy_62 ?_
          refine lv_iload_n hx hb d_Roads_shortenBy_65 rfl (lv_at hl 1 rfl) ?_
          obtain ⟨hi, h⟩ := h
          refine va_iald hx hb hK hP 2 0 rfl rfl hi d_Roads_shortenBy_66 ?_
          refine lv_iload hx hb d_Roads_shortenBy_67 (lv_at hl 4 rfl) ?_
          refine vp_callSi (W.runV (As := [.int (σ 2 v1.toNatClampNeg), .int v4]) (rest := [.int v3, .int r2, .int ((v2 * 10) + v4), .ref (ad 5)]) ⟨hx, hb, hml, hown, hts⟩ (t_Roads_leastTime l D cI cZ ad (σ 2 v1.toNatClampNeg) v4 σ _ h) (cwV 2 hts (g_of kw348 kw255 kw256 kw4 kw257) rfl rfl rfl (by decide +kernel) ⟨Nat.le_of_ble_eq_true rfl, Nat.le_of_ble_eq_true rfl⟩) (ro_pre hK hP (va_recv hK hP (ci := 5) (q0 := 0) rfl rfl)) rfl rfl hl.1 rfl (lv_room (Nat.le_of_ble_eq_true rfl)) d_Roads_shortenBy_69 ⟨Nat.le_of_ble_eq_true rfl, Nat.le_of_ble_eq_true rfl⟩) (fun r3 h => ?_)
          refine lv_iadd hx hb d_Roads_shortenBy_72 ?_
          refine va_mmin hx hb (hml.trans hl.1.symm) hown (hts _ kw349) (hts _ kw25) (hts _ kw2) (hts _ kw26) (Nat.le_of_ble_eq_true rfl) (Nat.le_of_ble_eq_true rfl) (Nat.zero_le _) (Nat.zero_le _) d_Roads_shortenBy_73 ?_
          obtain ⟨hi, h⟩ := h
          refine va_iast hx hb hK hP (D_Roads inj) hS 5 0 rfl rfl hi d_Roads_shortenBy_76 (fun H locs hP _ hS => ?_)
          have hP := up_Roads_5 hP
          refine lv_iinc (v := (v4 + 1)) (lv' := [(4, .int (v4 + 1)), (0, .ref (ad 0)), (1, .int v1), (2, .int v2), (3, .int v3)]) hx hb d_Roads_shortenBy_77 hl (k := 4) rfl rfl (by decide) rfl (fun ls hl => ?_)
          refine lv_goto (tgt := 32) hx hb d_Roads_shortenBy_80 (by decide) ?_
          exact ih 2 v1 v2 v3 (v4 + 1) (sto σ 5 ((v2 * 10) + v4).toNatClampNeg (if (v3 + r3) < r2 then (v3 + r3) else r2)) h _ _ _ hP hS (lv_sub hl [1, 2, 3, 4, 0] rfl)
      | _ + 3, h, _ => exact False.elim h
  exact key 4000 0 v1 0 0 0 σ h s.heap [] ls hP hS hl
def q_Roads_add (v1 v2 v3 : Int32) (σ : Sg) (Q : (Int32 → Sg → Prop)) : Prop :=
  (vp_in (σ 0 6) 30 ∧ (vp_in (σ 0 6) 30 ∧ (vp_in (σ 0 6) 30 ∧ (q_Roads_shortenBy (σ 0 6) (sto (sto (sto (sto σ 1 (σ 0 6).toNatClampNeg v1) 2 (σ 0 6).toNatClampNeg v2) 3 (σ 0 6).toNatClampNeg v3) 0 6 (((sto (sto (sto σ 1 (σ 0 6).toNatClampNeg v1) 2 (σ 0 6).toNatClampNeg v2) 3 (σ 0 6).toNatClampNeg v3) 0 6) + 1)) (fun u1 => Q (σ 0 6) u1)))))
set_option maxHeartbeats 4000000 in
set_option maxRecDepth 100000 in
theorem t_Roads_add (l : Launch) (D : va_G) (cI cZ : ClassId) (ad : Nat → Nat) (inj : Inj ad 6) (v1 v2 v3 : Int32) (σ : Sg) (Q : (Int32 → Sg → Prop)) (h : q_Roads_add v1 v2 v3 σ Q) : Met l y_Roads_add (.code y_Roads_add prog_7_method_4_code 5 (some .int) :: TG) { frames := 2, cells := 0, slots := 0, locals := 46 } (va_Pc [.ref (ad 0), .int v1, .int v2, .int v3] (roB D (tysA cI cZ) (W_Roads ad cI cZ σ))) (va_Qi Q (fun u t => va_P D classes (W_Roads ad cI cZ u) t.heap) (inA ad 6)) 0 0 (inA ad 6) := by
  refine Met.ofW (cc := prog_7_method_4_code) (maxL := 5) (ret := (some .int)) (by decide) rfl ?_
  intro p e s m args below meth c s₁ B hml hv
  obtain ⟨rfl, hP, hK⟩ := hv
  have hx := B.exec
  have hb := B.bytes
  have hr := B.returns
  have hts : ∀ w ∈ TG, w.before [.ref (ad 0), .int v1, .int v2, .int v3].toArray s = true := fun w hw => atoms_spec (ws := .code y_Roads_add prog_7_method_4_code 5 (some .int) :: TG) B.pre w (List.mem_cons_of_mem _ hw)
  have hown : s.vm.findClass "CarrierPaths$Roads" = some m.cls := findClass_of_methodNamed B.named
  have hlocks := B.notSynchronized
  have hS : va_S (inA ad 6) s.heap s.heap [] := va_S.rf
  have hl := lv_entry ([.ref (ad 0), .int v1, .int v2, .int v3]) (n := 5) (Nat.le_of_ble_eq_true rfl)
  rw [lg_entry_eq]
  generalize (lg_sl ([.ref (ad 0), .int v1, .int v2, .int v3]) ++ List.replicate (5 - (lg_sl ([.ref (ad 0), .int v1, .int v2, .int v3])).length) Slot.unset).toArray = ls at hl ⊢
  have hl : lv_has ls 5 [(0, .ref (ad 0)), (1, .int v1), (2, .int v2), (3, .int v3)] := hl
  unfold q_Roads_add at h
  refine lv_aload_n hx hb d_Roads_add_0 rfl (lv_at hl 0 rfl) ?_
  refine va_get (D := D) (ci := 5) (v := .int (σ 0 6)) (C := "CarrierPaths$Roads") (T := F_Roads) (N := 7) hx hb hts in_Roads hown hK hP 0 rfl rfl 6 (by decide) (hts _ kw65) (fun _ h9 => h9) rfl d_Roads_add_1 ?_
  refine lv_istore (lv' := [(4, .int (σ 0 6)), (0, .ref (ad 0)), (1, .int v1), (2, .int v2), (3, .int v3)]) hx hb d_Roads_add_4 hl (by decide) rfl (fun ls hl => ?_)
  refine lv_aload_n hx hb d_Roads_add_6 rfl (lv_at hl 1 rfl) ?_
  refine va_get (D := D) (ci := 5) (v := .ref (ad 1)) (C := "CarrierPaths$Roads") (T := F_Roads) (N := 7) hx hb hts in_Roads hown hK hP 0 rfl rfl 1 (by decide) (hts _ kw60) (fun _ h9 => h9) rfl d_Roads_add_7 ?_
  refine lv_iload hx hb d_Roads_add_10 (lv_at hl 0 rfl) ?_
  refine lv_iload_n hx hb d_Roads_add_12 rfl (lv_at hl 2 rfl) ?_
  obtain ⟨hi, h⟩ := h
  refine va_iast hx hb hK hP (D_Roads inj) hS 1 0 rfl rfl hi d_Roads_add_13 (fun H locs hP _ hS => ?_)
  have hP := up_Roads_1 hP
  refine lv_aload_n hx hb d_Roads_add_14 rfl (lv_at hl 1 rfl) ?_
  refine va_get (D := D) (ci := 5) (v := .ref (ad 2)) (C := "CarrierPaths$Roads") (T := F_Roads) (N := 7) hx hb hts in_Roads hown hK hP 0 rfl rfl 2 (by decide) (hts _ kw61) (fun _ h9 => h9) rfl d_Roads_add_15 ?_
  refine lv_iload hx hb d_Roads_add_18 (lv_at hl 0 rfl) ?_
  refine lv_iload_n hx hb d_Roads_add_20 rfl (lv_at hl 3 rfl) ?_
  obtain ⟨hi, h⟩ := h
  refine va_iast hx hb hK hP (D_Roads inj) hS 2 0 rfl rfl hi d_Roads_add_21 (fun H locs hP _ hS => ?_)
  have hP := up_Roads_2 hP
  refine lv_aload_n hx hb d_Roads_add_22 rfl (lv_at hl 1 rfl) ?_
  refine va_get (D := D) (ci := 5) (v := .ref (ad 3)) (C := "CarrierPaths$Roads") (T := F_Roads) (N := 7) hx hb hts in_Roads hown hK hP 0 rfl rfl 3 (by decide) (hts _ kw62) (fun _ h9 => h9) rfl d_Roads_add_23 ?_
  refine lv_iload hx hb d_Roads_add_26 (lv_at hl 0 rfl) ?_
  refine lv_iload_n hx hb d_Roads_add_28 rfl (lv_at hl 4 rfl) ?_
  obtain ⟨hi, h⟩ := h
  refine va_iast hx hb hK hP (D_Roads inj) hS 3 0 rfl rfl hi d_Roads_add_29 (fun H locs hP _ hS => ?_)
  have hP := up_Roads_3 hP
  refine lv_aload_n hx hb d_Roads_add_30 rfl (lv_at hl 1 rfl) ?_
  refine lv_dup hx hb d_Roads_add_31 rfl ?_
  refine va_get (D := D) (ci := 5) (v := .int ((sto (sto (sto σ 1 (σ 0 6).toNatClampNeg v1) 2 (σ 0 6).toNatClampNeg v2) 3 (σ 0 6).toNatClampNeg v3) 0 6)) (C := "CarrierPaths$Roads") (T := F_Roads) (N := 7) hx hb hts in_Roads hown hK hP 0 rfl rfl 6 (by decide) (hts _ kw65) (fun _ h9 => h9) rfl d_Roads_add_32 ?_
  refine lv_iconst (v := 1) hx hb d_Roads_add_35 (by decide) ?_
  refine lv_iadd hx hb d_Roads_add_36 ?_
  refine va_put (D := D) (ci := 5) (v := .int (((sto (sto (sto σ 1 (σ 0 6).toNatClampNeg v1) 2 (σ 0 6).toNatClampNeg v2) 3 (σ 0 6).toNatClampNeg v3) 0 6) + 1)) (ty := .int) (C := "CarrierPaths$Roads") (T := F_Roads) (N := 7) hx hb hts in_Roads ty_Roads ty_Roads_ok nm_Roads hown hK hP (D_Roads inj) hS 0 rfl rfl 6 (by decide) (hts _ kw65) (fun _ h9 => h9) rfl (by decide +kernel) rfl rfl (Nat.le_of_ble_eq_true rfl) d_Roads_add_37 (fun H locs hP _ hS => ?_)
  have hP := up_Roads_f6 hP
  refine lv_aload_n hx hb d_Roads_add_40 rfl (lv_at hl 1 rfl) ?_
  refine lv_iload hx hb d_Roads_add_41 (lv_at hl 0 rfl) ?_
  refine va_callv (va_runV (As := [.int (σ 0 6)]) (rest := []) ⟨hx, hb, hml, hown, hts⟩ (t_Roads_shortenBy l D cI cZ ad inj (σ 0 6) (sto (sto (sto (sto σ 1 (σ 0 6).toNatClampNeg v1) 2 (σ 0 6).toNatClampNeg v2) 3 (σ 0 6).toNatClampNeg v3) 0 6 (((sto (sto (sto σ 1 (σ 0 6).toNatClampNeg v1) 2 (σ 0 6).toNatClampNeg v2) 3 (σ 0 6).toNatClampNeg v3) 0 6) + 1)) _ h) (cwV 1 hts (g_of kw344 kw346 kp12 kw4 kw347) rfl rfl rfl (by decide +kernel) ⟨Nat.le_of_ble_eq_true rfl, Nat.le_of_ble_eq_true rfl⟩) (ro_pre hK hP (va_recv hK hP (ci := 5) (q0 := 0) rfl rfl)) rfl rfl hl.1 rfl (lv_room (Nat.le_of_ble_eq_true rfl)) d_Roads_add_43 ⟨Nat.le_of_ble_eq_true rfl, Nat.le_of_ble_eq_true rfl⟩) hS (fun _ _ h => h) (fun _ h => h) (fun u1 t H1 locs ht _ h hP1 _ hk1 hS => ?_)
  have hP1 : va_P D classes (W_Roads ad cI cZ u1) H1 := hp_fwd ht hP1
  clear hk1 ht
  generalize H1 = H at hP1 hS ⊢
  have hP := hP1
  refine lv_iload hx hb d_Roads_add_46 (lv_at hl 0 rfl) ?_
  exact W.iret (v := (σ 0 6)) hx hb hr (fun t ht hW => ⟨⟨(σ 0 6), u1, rfl, h, hp_back ht hP⟩, hS.F ht⟩) hS.2.2 d_Roads_add_48
def q_Roads_measureAnew_b0 (J : Nat → Int32 → Sg → Prop) (Q : (Sg → Prop)) (v1 : Int32) (σ : Sg) : Prop :=
  (q_Roads_forgetTimes σ (fun u1 => J 1 0 u1))
def q_Roads_measureAnew_b1 (J : Nat → Int32 → Sg → Prop) (Q : (Sg → Prop)) (v1 : Int32) (σ : Sg) : Prop :=
  (((σ 0 6) ≤ v1 → Q σ) ∧ (¬ (σ 0 6) ≤ v1 → (vp_in v1 30 ∧ (((σ 4 v1.toNatClampNeg) = 0 → (q_Roads_shortenBy v1 σ (fun u2 => J 1 (v1 + 1) u2))) ∧ (¬ (σ 4 v1.toNatClampNeg) = 0 → J 1 (v1 + 1) σ)))))
def q_Roads_measureAnew_j (Q : (Sg → Prop)) : Nat → Nat → Int32 → Sg → Prop
  | 0, _, _, _ => False
  | n + 1, 0, v1, σ => q_Roads_measureAnew_b0 (q_Roads_measureAnew_j Q n) Q v1 σ
  | n + 1, 1, v1, σ => q_Roads_measureAnew_b1 (q_Roads_measureAnew_j Q n) Q v1 σ
  | _ + 1, _ + 2, _, _ => False
def q_Roads_measureAnew (σ : Sg) (Q : (Sg → Prop)) : Prop := q_Roads_measureAnew_j Q 4000 0 0 σ
def lc_Roads_measureAnew (ad : Nat → Nat) (b : Nat) (v1 : Int32) : List (Nat × Value) := match b with
  | 0 => [(0, .ref (ad 0))]
  | 1 => [(0, .ref (ad 0)), (1, .int v1)]
  | _ => []
def pc_Roads_measureAnew (b : Nat) : Nat := match b with
  | 0 => 0
  | 1 => 6
  | _ => 0
set_option maxHeartbeats 4000000 in
set_option maxRecDepth 100000 in
theorem t_Roads_measureAnew (l : Launch) (D : va_G) (cI cZ : ClassId) (ad : Nat → Nat) (inj : Inj ad 6) (σ : Sg) (Q : (Sg → Prop)) (h : q_Roads_measureAnew σ Q) : Met l y_Roads_measureAnew (.code y_Roads_measureAnew prog_7_method_14_code 2 none :: TG) { frames := 2, cells := 0, slots := 0, locals := 46 } (va_Pc [.ref (ad 0)] (roB D (tysA cI cZ) (W_Roads ad cI cZ σ))) (va_Qv Q (fun u t => va_P D classes (W_Roads ad cI cZ u) t.heap) (inA ad 6)) 0 0 (inA ad 6) := by
  refine Met.ofW (cc := prog_7_method_14_code) (maxL := 2) (ret := none) (by decide) rfl ?_
  intro p e s m args below meth c s₁ B hml hv
  obtain ⟨rfl, hP, hK⟩ := hv
  have hx := B.exec
  have hb := B.bytes
  have hr := B.returns
  have hts : ∀ w ∈ TG, w.before [.ref (ad 0)].toArray s = true := fun w hw => atoms_spec (ws := .code y_Roads_measureAnew prog_7_method_14_code 2 none :: TG) B.pre w (List.mem_cons_of_mem _ hw)
  have hown : s.vm.findClass "CarrierPaths$Roads" = some m.cls := findClass_of_methodNamed B.named
  have hlocks := B.notSynchronized
  have hS : va_S (inA ad 6) s.heap s.heap [] := va_S.rf
  have hl := lv_entry ([.ref (ad 0)]) (n := 2) (Nat.le_of_ble_eq_true rfl)
  rw [lg_entry_eq]
  generalize (lg_sl ([.ref (ad 0)]) ++ List.replicate (2 - (lg_sl ([.ref (ad 0)])).length) Slot.unset).toArray = ls at hl ⊢
  generalize ([.ref (ad 0)] : List Value).toArray = args at hts ⊢
  have key : ∀ (n b : Nat) (v1 : Int32) (σ : Sg), q_Roads_measureAnew_j Q n b v1 σ → ∀ (H : Heap) (locs : List Loc) (ls : Array Slot), va_P D classes (W_Roads ad cI cZ σ) H → va_S (inA ad 6) s.heap H locs → lv_has ls 2 (lc_Roads_measureAnew ad b v1) → W p l e (headSpec (.code y_Roads_measureAnew prog_7_method_14_code 2 none :: TG) { frames := 2, cells := 0, slots := 0, locals := 46 }).room s m args below meth c H locs 0 0 (MQ below (va_Qv Q (fun u t => va_P D classes (W_Roads ad cI cZ u) t.heap) (inA ad 6)) args s 0 0 (inA ad 6)) (F0 m (pc_Roads_measureAnew b) ls []) := by
    clear h hl hP hS
    intro n
    induction n with
    | zero => intro b _ _ h; exact False.elim h
    | succ n ih =>
      intro b v1 σ h H locs ls hP hS hl
      match b, h, hl with
      | 0, h, hl =>
        have h : q_Roads_measureAnew_b0 (q_Roads_measureAnew_j Q n) Q v1 σ := h
        have hl : lv_has ls 2 [(0, .ref (ad 0))] := hl
        refine W.eq (g2 := F0 m 0 ls []) rfl ?_
        unfold q_Roads_measureAnew_b0 at h
        refine lv_aload_n hx hb d_Roads_measureAnew_0 rfl (lv_at hl 0 rfl) ?_
        refine va_callv (va_runV (As := []) (rest := []) ⟨hx, hb, hml, hown, hts⟩ (t_Roads_forgetTimes l D cI cZ ad inj σ _ h) (cwV 0 hts (g_of kw54 kw56 kp0 kw4 kw57) rfl rfl rfl (by decide +kernel) ⟨Nat.le_of_ble_eq_true rfl, Nat.le_of_ble_eq_true rfl⟩) (ro_pre hK hP (va_recv hK hP (ci := 5) (q0 := 0) rfl rfl)) rfl rfl hl.1 rfl (lv_room (Nat.le_of_ble_eq_true rfl)) d_Roads_measureAnew_1 ⟨Nat.le_of_ble_eq_true rfl, Nat.le_of_ble_eq_true rfl⟩) hS (fun _ _ h => h) (fun _ h => h) (fun u1 t H1 locs ht _ h hP1 _ hk1 hS => ?_)
        have hP1 : va_P D classes (W_Roads ad cI cZ u1) H1 := hp_fwd ht hP1
        clear hk1 ht
        generalize H1 = H at hP1 hS ⊢
        have hP := hP1
        refine lv_iconst (v := 0) hx hb d_Roads_measureAnew_4 (by decide) ?_
        refine lv_istore_n (lv' := [(1, .int 0), (0, .ref (ad 0))]) hx hb d_Roads_measureAnew_5 rfl hl (by decide) rfl (fun ls hl => ?_)
        exact ih 1 0 u1 h _ _ _ hP hS (lv_sub hl [1, 0] rfl)
      | 1, h, hl =>
        have h : q_Roads_measureAnew_b1 (q_Roads_measureAnew_j Q n) Q v1 σ := h
        have hl : lv_has ls 2 [(0, .ref (ad 0)), (1, .int v1)] := hl
        refine W.eq (g2 := F0 m 6 ls []) rfl ?_
        unfold q_Roads_measureAnew_b1 at h
        refine lv_iload_n hx hb d_Roads_measureAnew_6 rfl (lv_at hl 1 rfl) ?_
        refine lv_aload_n hx hb d_Roads_measureAnew_7 rfl (lv_at hl 0 rfl) ?_
        refine va_get (D := D) (ci := 5) (v := .int (σ 0 6)) (C := "CarrierPaths$Roads") (T := F_Roads) (N := 7) hx hb hts in_Roads hown hK hP 0 rfl rfl 6 (by decide) (hts _ kw65) (fun _ h9 => h9) rfl d_Roads_measureAnew_8 ?_
        refine lv_icmp_ge (tgt := 34) hx hb d_Roads_measureAnew_11 (by decide) (fun hc => ?_) (fun hc => ?_)
        · have h := h.1 hc
          exact W.vret hx hb hr (fun t ht hW => ⟨⟨σ, rfl, h, hp_back ht hP⟩, hS.F ht⟩) hS.2.2 d_Roads_measureAnew_34
        · have h := h.2 hc
          refine lv_aload_n hx hb d_Roads_measureAnew_14 rfl (lv_at hl 0 rfl) ?_
          refine va_get (D := D) (ci := 5) (v := .ref (ad 4)) (C := "CarrierPaths$Roads") (T := F_Roads) (N := 7) hx hb hts in_Roads hown hK hP 0 rfl rfl 4 (by decide) (hts _ kw63) (fun _ h9 => h9) rfl d_Roads_measureAnew_15 ?_
          refine lv_iload_n hx hb d_Roads_measureAnew_18 rfl (lv_at hl 1 rfl) ?_
          obtain ⟨hi, h⟩ := h
          refine va_zald hx hb hK hP 4 1 rfl rfl hi d_Roads_measureAnew_19 ?_
          refine lv_if_ne (tgt := 28) hx hb d_Roads_measureAnew_20 (by decide) (fun hc => ?_) (fun hc => ?_)
          · have h := h.2 hc
            refine lv_iinc (v := (v1 + 1)) (lv' := [(1, .int (v1 + 1)), (0, .ref (ad 0))]) hx hb d_Roads_measureAnew_28 hl (k := 1) rfl rfl (by decide) rfl (fun ls hl => ?_)
            refine lv_goto (tgt := 6) hx hb d_Roads_measureAnew_31 (by decide) ?_
            exact ih 1 (v1 + 1) σ h _ _ _ hP hS (lv_sub hl [1, 0] rfl)
          · have h := h.1 hc
            refine lv_aload_n hx hb d_Roads_measureAnew_23 rfl (lv_at hl 0 rfl) ?_
            refine lv_iload_n hx hb d_Roads_measureAnew_24 rfl (lv_at hl 1 rfl) ?_
            refine va_callv (va_runV (As := [.int v1]) (rest := []) ⟨hx, hb, hml, hown, hts⟩ (t_Roads_shortenBy l D cI cZ ad inj v1 σ _ h) (cwV 1 hts (g_of kw344 kw346 kp12 kw4 kw347) rfl rfl rfl (by decide +kernel) ⟨Nat.le_of_ble_eq_true rfl, Nat.le_of_ble_eq_true rfl⟩) (ro_pre hK hP (va_recv hK hP (ci := 5) (q0 := 0) rfl rfl)) rfl rfl hl.1 rfl (lv_room (Nat.le_of_ble_eq_true rfl)) d_Roads_measureAnew_25 ⟨Nat.le_of_ble_eq_true rfl, Nat.le_of_ble_eq_true rfl⟩) hS (fun _ _ h => h) (fun _ h => h) (fun u2 t H1 locs ht _ h hP1 _ hk1 hS => ?_)
            have hP1 : va_P D classes (W_Roads ad cI cZ u2) H1 := hp_fwd ht hP1
            clear hk1 ht
            generalize H1 = H at hP1 hS ⊢
            have hP := hP1
            refine lv_iinc (v := (v1 + 1)) (lv' := [(1, .int (v1 + 1)), (0, .ref (ad 0))]) hx hb d_Roads_measureAnew_28 hl (k := 1) rfl rfl (by decide) rfl (fun ls hl => ?_)
            refine lv_goto (tgt := 6) hx hb d_Roads_measureAnew_31 (by decide) ?_
            exact ih 1 (v1 + 1) u2 h _ _ _ hP hS (lv_sub hl [1, 0] rfl)
      | _ + 2, h, _ => exact False.elim h
  exact key 4000 0 0 σ h s.heap [] ls hP hS hl
def q_Roads_setClosed (v1 v2 : Int32) (σ : Sg) (Q : (Sg → Prop)) : Prop :=
  (vp_in v1 30 ∧ ((v2 = 0 → (q_Roads_shortenBy v1 (sto σ 4 v1.toNatClampNeg (vp_nar .boolean v2)) (fun u1 => Q u1))) ∧ (¬ v2 = 0 → (q_Roads_measureAnew (sto σ 4 v1.toNatClampNeg (vp_nar .boolean v2)) (fun u2 => Q u2)))))
set_option maxHeartbeats 4000000 in
set_option maxRecDepth 100000 in
theorem t_Roads_setClosed (l : Launch) (D : va_G) (cI cZ : ClassId) (ad : Nat → Nat) (inj : Inj ad 6) (v1 v2 : Int32) (σ : Sg) (Q : (Sg → Prop)) (h : q_Roads_setClosed v1 v2 σ Q) : Met l y_Roads_setClosed (.code y_Roads_setClosed prog_7_method_9_code 3 none :: TG) { frames := 3, cells := 0, slots := 0, locals := 67 } (va_Pc [.ref (ad 0), .int v1, .int v2] (roB D (tysA cI cZ) (W_Roads ad cI cZ σ))) (va_Qv Q (fun u t => va_P D classes (W_Roads ad cI cZ u) t.heap) (inA ad 6)) 0 0 (inA ad 6) := by
  refine Met.ofW (cc := prog_7_method_9_code) (maxL := 3) (ret := none) (by decide) rfl ?_
  intro p e s m args below meth c s₁ B hml hv
  obtain ⟨rfl, hP, hK⟩ := hv
  have hx := B.exec
  have hb := B.bytes
  have hr := B.returns
  have hts : ∀ w ∈ TG, w.before [.ref (ad 0), .int v1, .int v2].toArray s = true := fun w hw => atoms_spec (ws := .code y_Roads_setClosed prog_7_method_9_code 3 none :: TG) B.pre w (List.mem_cons_of_mem _ hw)
  have hown : s.vm.findClass "CarrierPaths$Roads" = some m.cls := findClass_of_methodNamed B.named
  have hlocks := B.notSynchronized
  have hS : va_S (inA ad 6) s.heap s.heap [] := va_S.rf
  have hl := lv_entry ([.ref (ad 0), .int v1, .int v2]) (n := 3) (Nat.le_of_ble_eq_true rfl)
  rw [lg_entry_eq]
  generalize (lg_sl ([.ref (ad 0), .int v1, .int v2]) ++ List.replicate (3 - (lg_sl ([.ref (ad 0), .int v1, .int v2])).length) Slot.unset).toArray = ls at hl ⊢
  have hl : lv_has ls 3 [(0, .ref (ad 0)), (1, .int v1), (2, .int v2)] := hl
  unfold q_Roads_setClosed at h
  refine lv_aload_n hx hb d_Roads_setClosed_0 rfl (lv_at hl 0 rfl) ?_
  refine va_get (D := D) (ci := 5) (v := .ref (ad 4)) (C := "CarrierPaths$Roads") (T := F_Roads) (N := 7) hx hb hts in_Roads hown hK hP 0 rfl rfl 4 (by decide) (hts _ kw63) (fun _ h9 => h9) rfl d_Roads_setClosed_1 ?_
  refine lv_iload_n hx hb d_Roads_setClosed_4 rfl (lv_at hl 1 rfl) ?_
  refine lv_iload_n hx hb d_Roads_setClosed_5 rfl (lv_at hl 2 rfl) ?_
  obtain ⟨hi, h⟩ := h
  refine va_zast hx hb hK hP (D_Roads inj) hS 4 1 rfl rfl hi d_Roads_setClosed_6 (fun H locs hP _ hS => ?_)
  have hP := up_Roads_4 hP
  refine lv_iload_n hx hb d_Roads_setClosed_7 rfl (lv_at hl 2 rfl) ?_
  refine lv_if_eq (tgt := 18) hx hb d_Roads_setClosed_8 (by decide) (fun hc => ?_) (fun hc => ?_)
  · have h := h.1 hc
    refine lv_aload_n hx hb d_Roads_setClosed_18 rfl (lv_at hl 0 rfl) ?_
    refine lv_iload_n hx hb d_Roads_setClosed_19 rfl (lv_at hl 1 rfl) ?_
    refine va_callv (va_runV (As := [.int v1]) (rest := []) ⟨hx, hb, hml, hown, hts⟩ (t_Roads_shortenBy l D cI cZ ad inj v1 (sto σ 4 v1.toNatClampNeg (vp_nar .boolean v2)) _ h) (cwV 1 hts (g_of kw344 kw346 kp12 kw4 kw347) rfl rfl rfl (by decide +kernel) ⟨Nat.le_of_ble_eq_true rfl, Nat.le_of_ble_eq_true rfl⟩) (ro_pre hK hP (va_recv hK hP (ci := 5) (q0 := 0) rfl rfl)) rfl rfl hl.1 rfl (lv_room (Nat.le_of_ble_eq_true rfl)) d_Roads_setClosed_20 ⟨Nat.le_of_ble_eq_true rfl, Nat.le_of_ble_eq_true rfl⟩) hS (fun _ _ h => h) (fun _ h => h) (fun u1 t H1 locs ht _ h hP1 _ hk1 hS => ?_)
    have hP1 : va_P D classes (W_Roads ad cI cZ u1) H1 := hp_fwd ht hP1
    clear hk1 ht
    generalize H1 = H at hP1 hS ⊢
    have hP := hP1
    exact W.vret hx hb hr (fun t ht hW => ⟨⟨u1, rfl, h, hp_back ht hP⟩, hS.F ht⟩) hS.2.2 d_Roads_setClosed_23
  · have h := h.2 hc
    refine lv_aload_n hx hb d_Roads_setClosed_11 rfl (lv_at hl 0 rfl) ?_
    refine va_callv (va_runV (As := []) (rest := []) ⟨hx, hb, hml, hown, hts⟩ (t_Roads_measureAnew l D cI cZ ad inj (sto σ 4 v1.toNatClampNeg (vp_nar .boolean v2)) _ h) (cwV 0 hts (g_of kw340 kw342 kp11 kw4 kw343) rfl rfl rfl (by decide +kernel) ⟨Nat.le_of_ble_eq_true rfl, Nat.le_of_ble_eq_true rfl⟩) (ro_pre hK hP (va_recv hK hP (ci := 5) (q0 := 0) rfl rfl)) rfl rfl hl.1 rfl (lv_room (Nat.le_of_ble_eq_true rfl)) d_Roads_setClosed_12 ⟨Nat.le_of_ble_eq_true rfl, Nat.le_of_ble_eq_true rfl⟩) hS (fun _ _ h => h) (fun _ h => h) (fun u2 t H1 locs ht _ h hP1 _ hk1 hS => ?_)
    have hP1 : va_P D classes (W_Roads ad cI cZ u2) H1 := hp_fwd ht hP1
    clear hk1 ht
    generalize H1 = H at hP1 hS ⊢
    have hP := hP1
    refine lv_goto (tgt := 23) hx hb d_Roads_setClosed_15 (by decide) ?_
    exact W.vret hx hb hr (fun t ht hW => ⟨⟨u2, rfl, h, hp_back ht hP⟩, hS.F ht⟩) hS.2.2 d_Roads_setClosed_23
