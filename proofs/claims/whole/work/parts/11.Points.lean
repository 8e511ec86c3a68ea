def W_Points (ad : Nat → Nat) (cI cZ : ClassId) (σ : Sg) : va_W :=
  [(ad 0, .inr (3, [.int (σ 0 0), .ref (ad 1), .ref (ad 2)])),
   (ad 1, .inl (cI, 10, .inl (σ 1))),
   (ad 2, .inl (cZ, 10, .inl (σ 2)))]
theorem D_Points {ad : Nat → Nat} {cI cZ : ClassId} {σ : Sg} (inj : Inj ad 3) : va_D (inA ad 3) (W_Points ad cI cZ σ) := D_of inj rfl
theorem up_Points_1 {D : va_G} {ad : Nat → Nat} {cI cZ : ClassId} {σ : Sg} {H : Heap} {i : Nat} {v : Int32} (h : va_P D classes ((W_Points ad cI cZ σ).set 1 (ad 1, .inl (cI, 10, .inl (upd (σ 1) i v)))) H) : va_P D classes (W_Points ad cI cZ (sto σ 1 i v)) H := h
theorem up_Points_2 {D : va_G} {ad : Nat → Nat} {cI cZ : ClassId} {σ : Sg} {H : Heap} {i : Nat} {v : Int32} (h : va_P D classes ((W_Points ad cI cZ σ).set 2 (ad 2, .inl (cZ, 10, .inl (upd (σ 2) i v)))) H) : va_P D classes (W_Points ad cI cZ (sto σ 2 i v)) H := h
def q_Points_size (σ : Sg) (Q : (Int32 → Prop)) : Prop :=
  Q (σ 0 0)
set_option maxHeartbeats 4000000 in
set_option maxRecDepth 100000 in
theorem t_Points_size (l : Launch) (D : va_G) (cI cZ : ClassId) (ad : Nat → Nat) (σ : Sg) (Q : (Int32 → Prop)) (h : q_Points_size σ Q) : Met l y_Points_size (.code y_Points_size prog_5_method_2_code 1 (some .int) :: TG) { frames := 0, cells := 0, slots := 0, locals := 0 } (va_Pc [.ref (ad 0)] (roB D (tysA cI cZ) (W_Points ad cI cZ σ))) (vp_Si Q) 0 0 (fun _ => False) := by
  refine Met.ofW (cc := prog_5_method_2_code) (maxL := 1) (ret := (some .int)) (by decide) rfl ?_
  intro p e s m args below meth c s₁ B hml hv
  obtain ⟨rfl, hP, hK⟩ := hv
  have hx := B.exec
  have hb := B.bytes
  have hr := B.returns
  have hts : ∀ w ∈ TG, w.before [.ref (ad 0)].toArray s = true := fun w hw => atoms_spec (ws := .code y_Points_size prog_5_method_2_code 1 (some .int) :: TG) B.pre w (List.mem_cons_of_mem _ hw)
  have hown : s.vm.findClass "CarrierPaths$Points" = some m.cls := findClass_of_methodNamed B.named
  have hlocks := B.notSynchronized
  have hl := lv_entry ([.ref (ad 0)]) (n := 1) (Nat.le_of_ble_eq_true rfl)
  rw [lg_entry_eq]
  generalize (lg_sl ([.ref (ad 0)]) ++ List.replicate (1 - (lg_sl ([.ref (ad 0)])).length) Slot.unset).toArray = ls at hl ⊢
  have hl : lv_has ls 1 [(0, .ref (ad 0))] := hl
  unfold q_Points_size at h
  refine lv_aload_n hx hb d_Points_size_0 rfl (lv_at hl 0 rfl) ?_
  refine va_get (D := D) (ci := 3) (v := .int (σ 0 0)) (C := "CarrierPaths$Points") (T := F_Points) (N := 3) hx hb hts in_Points hown hK hP 0 rfl rfl 0 (by decide) (hts _ kw36) (fun _ h9 => h9) rfl d_Points_size_1 ?_
  exact W.iret (v := (σ 0 0)) hx hb hr (fun t ht hW => ⟨(σ 0 0), rfl, h, ht⟩) (fun q hq => by cases hq) d_Points_size_4
def q_Points_has (v1 : Int32) (σ : Sg) (Q : (Int32 → Prop)) : Prop :=
  ((v1 < 0 → Q 0) ∧ (¬ v1 < 0 → (((σ 0 0) ≤ v1 → Q 0) ∧ (¬ (σ 0 0) ≤ v1 → Q 1))))
set_option maxHeartbeats 4000000 in
set_option maxRecDepth 100000 in
theorem t_Points_has (l : Launch) (D : va_G) (cI cZ : ClassId) (ad : Nat → Nat) (v1 : Int32) (σ : Sg) (Q : (Int32 → Prop)) (h : q_Points_has v1 σ Q) : Met l y_Points_has (.code y_Points_has prog_5_method_3_code 2 (some .boolean) :: TG) { frames := 0, cells := 0, slots := 0, locals := 0 } (va_Pc [.ref (ad 0), .int v1] (roB D (tysA cI cZ) (W_Points ad cI cZ σ))) (vp_Si Q) 0 0 (fun _ => False) := by
  refine Met.ofW (cc := prog_5_method_3_code) (maxL := 2) (ret := (some .boolean)) (by decide) rfl ?_
  intro p e s m args below meth c s₁ B hml hv
  obtain ⟨rfl, hP, hK⟩ := hv
  have hx := B.exec
  have hb := B.bytes
  have hr := B.returns
  have hts : ∀ w ∈ TG, w.before [.ref (ad 0), .int v1].toArray s = true := fun w hw => atoms_spec (ws := .code y_Points_has prog_5_method_3_code 2 (some .boolean) :: TG) B.pre w (List.mem_cons_of_mem _ hw)
  have hown : s.vm.findClass "CarrierPaths$Points" = some m.cls := findClass_of_methodNamed B.named
  have hlocks := B.notSynchronized
  have hl := lv_entry ([.ref (ad 0), .int v1]) (n := 2) (Nat.le_of_ble_eq_true rfl)
  rw [lg_entry_eq]
  generalize (lg_sl ([.ref (ad 0), .int v1]) ++ List.replicate (2 - (lg_sl ([.ref (ad 0), .int v1])).length) Slot.unset).toArray = ls at hl ⊢
  have hl : lv_has ls 2 [(0, .ref (ad 0)), (1, .int v1)] := hl
  unfold q_Points_has at h
  refine lv_iload_n hx hb d_Points_has_0 rfl (lv_at hl 1 rfl) ?_
  refine lv_if_lt (tgt := 16) hx hb d_Points_has_1 (by decide) (fun hc => ?_) (fun hc => ?_)
  · have h := h.1 hc
    refine lv_iconst (v := 0) hx hb d_Points_has_16 (by decide) ?_
    exact W.zret (v := 0) hx hb hr (by decide) (fun t ht hW => ⟨0, rfl, h, ht⟩) (fun q hq => by cases hq) d_Points_has_17
  · have h := h.2 hc
    refine lv_iload_n hx hb d_Points_has_4 rfl (lv_at hl 1 rfl) ?_
    refine lv_aload_n hx hb d_Points_has_5 rfl (lv_at hl 0 rfl) ?_
    refine va_get (D := D) (ci := 3) (v := .int (σ 0 0)) (C := "CarrierPaths$Points") (T := F_Points) (N := 3) hx hb hts in_Points hown hK hP 0 rfl rfl 0 (by decide) (hts _ kw36) (fun _ h9 => h9) rfl d_Points_has_6 ?_
    refine lv_icmp_ge (tgt := 16) hx hb d_Points_has_9 (by decide) (fun hc => ?_) (fun hc => ?_)
    · have h := h.1 hc
      refine lv_iconst (v := 0) hx hb d_Points_has_16 (by decide) ?_
      exact W.zret (v := 0) hx hb hr (by decide) (fun t ht hW => ⟨0, rfl, h, ht⟩) (fun q hq => by cases hq) d_Points_has_17
    · have h := h.2 hc
      refine lv_iconst (v := 1) hx hb d_Points_has_12 (by decide) ?_
      refine lv_goto (tgt := 17) hx hb d_Points_has_13 (by decide) ?_
      exact W.zret (v := 1) hx hb hr (by decide) (fun t ht hW => ⟨1, rfl, h, ht⟩) (fun q hq => by cases hq) d_Points_has_17
def q_Points_areTwo (v1 v2 : Int32) (σ : Sg) (Q : (Int32 → Prop)) : Prop :=
  (q_Points_has v1 σ (fun r1 => ((r1 = 0 → Q 0) ∧ (¬ r1 = 0 → (q_Points_has v2 σ (fun r2 => ((r2 = 0 → Q 0) ∧ (¬ r2 = 0 → ((v1 = v2 → Q 0) ∧ (¬ v1 = v2 → Q 1))))))))))
set_option maxHeartbeats 4000000 in
set_option maxRecDepth 100000 in
theorem t_Points_areTwo (l : Launch) (D : va_G) (cI cZ : ClassId) (ad : Nat → Nat) (v1 v2 : Int32) (σ : Sg) (Q : (Int32 → Prop)) (h : q_Points_areTwo v1 v2 σ Q) : Met l y_Points_areTwo (.code y_Points_areTwo prog_5_method_4_code 3 (some .boolean) :: TG) { frames := 1, cells := 0, slots := 0, locals := 21 } (va_Pc [.ref (ad 0), .int v1, .int v2] (roB D (tysA cI cZ) (W_Points ad cI cZ σ))) (vp_Si Q) 0 0 (fun _ => False) := by
  refine Met.ofW (cc := prog_5_method_4_code) (maxL := 3) (ret := (some .boolean)) (by decide) rfl ?_
  intro p e s m args below meth c s₁ B hml hv
  obtain ⟨rfl, hP, hK⟩ := hv
  have hx := B.exec
  have hb := B.bytes
  have hr := B.returns
  have hts : ∀ w ∈ TG, w.before [.ref (ad 0), .int v1, .int v2].toArray s = true := fun w hw => atoms_spec (ws := .code y_Points_areTwo prog_5_method_4_code 3 (some .boolean) :: TG) B.pre w (List.mem_cons_of_mem _ hw)
  have hown : s.vm.findClass "CarrierPaths$Points" = some m.cls := findClass_of_methodNamed B.named
  have hlocks := B.notSynchronized
  have hl := lv_entry ([.ref (ad 0), .int v1, .int v2]) (n := 3) (Nat.le_of_ble_eq_true rfl)
  rw [lg_entry_eq]
  generalize (lg_sl ([.ref (ad 0), .int v1, .int v2]) ++ List.replicate (3 - (lg_sl ([.ref (ad 0), .int v1, .int v2])).length) Slot.unset).toArray = ls at hl ⊢
  have hl : lv_has ls 3 [(0, .ref (ad 0)), (1, .int v1), (2, .int v2)] := hl
  unfold q_Points_areTwo at h
  refine lv_aload_n hx hb d_Points_areTwo_0 rfl (lv_at hl 0 rfl) ?_
  refine lv_iload_n hx hb d_Points_areTwo_1 rfl (lv_at hl 1 rfl) ?_
  refine vp_callSi (W.runV (As := [.int v1]) (rest := []) ⟨hx, hb, hml, hown, hts⟩ (t_Points_has l D cI cZ ad v1 σ _ h) (cwV 1 hts (g_of kw422 kw199 kw200 kw3 kw201) rfl rfl rfl (by decide +kernel) ⟨Nat.le_of_ble_eq_true rfl, Nat.le_of_ble_eq_true rfl⟩) (ro_pre hK hP (va_recv hK hP (ci := 3) (q0 := 0) rfl rfl)) rfl rfl hl.1 rfl (lv_room (Nat.le_of_ble_eq_true rfl)) d_Points_areTwo_2 ⟨Nat.le_of_ble_eq_true rfl, Nat.le_of_ble_eq_true rfl⟩) (fun r1 h => ?_)
  refine lv_if_eq (tgt := 25) hx hb d_Points_areTwo_5 (by decide) (fun hc => ?_) (fun hc => ?_)
  · have h := h.1 hc
    refine lv_iconst (v := 0) hx hb d_Points_areTwo_25 (by decide) ?_
    exact W.zret (v := 0) hx hb hr (by decide) (fun t ht hW => ⟨0, rfl, h, ht⟩) (fun q hq => by cases hq) d_Points_areTwo_26
  · have h := h.2 hc
    refine lv_aload_n hx hb d_Points_areTwo_8 rfl (lv_at hl 0 rfl) ?_
    refine lv_iload_n hx hb d_Points_areTwo_9 rfl (lv_at hl 2 rfl) ?_
    refine vp_callSi (W.runV (As := [.int v2]) (rest := []) ⟨hx, hb, hml, hown, hts⟩ (t_Points_has l D cI cZ ad v2 σ _ h) (cwV 1 hts (g_of kw422 kw199 kw200 kw3 kw201) rfl rfl rfl (by decide +kernel) ⟨Nat.le_of_ble_eq_true rfl, Nat.le_of_ble_eq_true rfl⟩) (ro_pre hK hP (va_recv hK hP (ci := 3) (q0 := 0) rfl rfl)) rfl rfl hl.1 rfl (lv_room (Nat.le_of_ble_eq_true rfl)) d_Points_areTwo_10 ⟨Nat.le_of_ble_eq_true rfl, Nat.le_of_ble_eq_true rfl⟩) (fun r2 h => ?_)
    refine lv_if_eq (tgt := 25) hx hb d_Points_areTwo_13 (by decide) (fun hc => ?_) (fun hc => ?_)
    · have h := h.1 hc
      refine lv_iconst (v := 0) hx hb d_Points_areTwo_25 (by decide) ?_
      exact W.zret (v := 0) hx hb hr (by decide) (fun t ht hW => ⟨0, rfl, h, ht⟩) (fun q hq => by cases hq) d_Points_areTwo_26
    · have h := h.2 hc
      refine lv_iload_n hx hb d_Points_areTwo_16 rfl (lv_at hl 1 rfl) ?_
      refine lv_iload_n hx hb d_Points_areTwo_17 rfl (lv_at hl 2 rfl) ?_
      refine lv_icmp_eq (tgt := 25) hx hb d_Points_areTwo_18 (by decide) (fun hc => ?_) (fun hc => ?_)
      · have h := h.1 hc
        refine lv_iconst (v := 0) hx hb d_Points_areTwo_25 (by decide) ?_
        exact W.zret (v := 0) hx hb hr (by decide) (fun t ht hW => ⟨0, rfl, h, ht⟩) (fun q hq => by cases hq) d_Points_areTwo_26
      · have h := h.2 hc
        refine lv_iconst (v := 1) hx hb d_Points_areTwo_21 (by decide) ?_
        refine lv_goto (tgt := 26) hx hb d_Points_areTwo_22 (by decide) ?_
        exact W.zret (v := 1) hx hb hr (by decide) (fun t ht hW => ⟨1, rfl, h, ht⟩) (fun q hq => by cases hq) d_Points_areTwo_26
def q_Points_asBits (σ : Sg) (Q : (Int32 → Prop)) : Prop :=
  Q (((1 : Int32) <<< ((σ 0 0) &&& 31)) - 1)
set_option maxHeartbeats 4000000 in
set_option maxRecDepth 100000 in
theorem t_Points_asBits (l : Launch) (D : va_G) (cI cZ : ClassId) (ad : Nat → Nat) (σ : Sg) (Q : (Int32 → Prop)) (h : q_Points_asBits σ Q) : Met l y_Points_asBits (.code y_Points_asBits prog_5_method_5_code 1 (some .int) :: TG) { frames := 0, cells := 0, slots := 0, locals := 0 } (va_Pc [.ref (ad 0)] (roB D (tysA cI cZ) (W_Points ad cI cZ σ))) (vp_Si Q) 0 0 (fun _ => False) := by
  refine Met.ofW (cc := prog_5_method_5_code) (maxL := 1) (ret := (some .int)) (by decide) rfl ?_
  intro p e s m args below meth c s₁ B hml hv
  obtain ⟨rfl, hP, hK⟩ := hv
  have hx := B.exec
  have hb := B.bytes
  have hr := B.returns
  have hts : ∀ w ∈ TG, w.before [.ref (ad 0)].toArray s = true := fun w hw => atoms_spec (ws := .code y_Points_asBits prog_5_method_5_code 1 (some .int) :: TG) B.pre w (List.mem_cons_of_mem _ hw)
  have hown : s.vm.findClass "CarrierPaths$Points" = some m.cls := findClass_of_methodNamed B.named
  have hlocks := B.notSynchronized
  have hl := lv_entry ([.ref (ad 0)]) (n := 1) (Nat.le_of_ble_eq_true rfl)
  rw [lg_entry_eq]
  generalize (lg_sl ([.ref (ad 0)]) ++ List.replicate (1 - (lg_sl ([.ref (ad 0)])).length) Slot.unset).toArray = ls at hl ⊢
  have hl : lv_has ls 1 [(0, .ref (ad 0))] := hl
  unfold q_Points_asBits at h
  refine lv_iconst (v := 1) hx hb d_Points_asBits_0 (by decide) ?_
  refine lv_aload_n hx hb d_Points_asBits_1 rfl (lv_at hl 0 rfl) ?_
  refine va_get (D := D) (ci := 3) (v := .int (σ 0 0)) (C := "CarrierPaths$Points") (T := F_Points) (N := 3) hx hb hts in_Points hown hK hP 0 rfl rfl 0 (by decide) (hts _ kw36) (fun _ h9 => h9) rfl d_Points_asBits_2 ?_
  refine lv_ishl hx hb d_Points_asBits_5 ?_
  refine lv_iconst (v := 1) hx hb d_Points_asBits_6 (by decide) ?_
  refine lv_isub hx hb d_Points_asBits_7 ?_
  exact W.iret (v := (((1 : Int32) <<< ((σ 0 0) &&& 31)) - 1)) hx hb hr (fun t ht hW => ⟨(((1 : Int32) <<< ((σ 0 0) &&& 31)) - 1), rfl, h, ht⟩) (fun q hq => by cases hq) d_Points_asBits_8
def q_Points_placesOf (v1 : Int32) (σ : Sg) (Q : (Int32 → Prop)) : Prop :=
  (vp_in v1 10 ∧ Q (σ 1 v1.toNatClampNeg))
set_option maxHeartbeats 4000000 in
set_option maxRecDepth 100000 in
theorem t_Points_placesOf (l : Launch) (D : va_G) (cI cZ : ClassId) (ad : Nat → Nat) (v1 : Int32) (σ : Sg) (Q : (Int32 → Prop)) (h : q_Points_placesOf v1 σ Q) : Met l y_Points_placesOf (.code y_Points_placesOf prog_5_method_6_code 2 (some .int) :: TG) { frames := 0, cells := 0, slots := 0, locals := 0 } (va_Pc [.ref (ad 0), .int v1] (roB D (tysA cI cZ) (W_Points ad cI cZ σ))) (vp_Si Q) 0 0 (fun _ => False) := by
  refine Met.ofW (cc := prog_5_method_6_code) (maxL := 2) (ret := (some .int)) (by decide) rfl ?_
  intro p e s m args below meth c s₁ B hml hv
  obtain ⟨rfl, hP, hK⟩ := hv
  have hx := B.exec
  have hb := B.bytes
  have hr := B.returns
  have hts : ∀ w ∈ TG, w.before [.ref (ad 0), .int v1].toArray s = true := fun w hw => atoms_spec (ws := .code y_Points_placesOf prog_5_method_6_code 2 (some .int) :: TG) B.pre w (List.mem_cons_of_mem _ hw)
  have hown : s.vm.findClass "CarrierPaths$Points" = some m.cls := findClass_of_methodNamed B.named
  have hlocks := B.notSynchronized
  have hl := lv_entry ([.ref (ad 0), .int v1]) (n := 2) (Nat.le_of_ble_eq_true rfl)
  rw [lg_entry_eq]
  generalize (lg_sl ([.ref (ad 0), .int v1]) ++ List.replicate (2 - (lg_sl ([.ref (ad 0), .int v1])).length) Slot.unset).toArray = ls at hl ⊢
  have hl : lv_has ls 2 [(0, .ref (ad 0)), (1, .int v1)] := hl
  unfold q_Points_placesOf at h
  refine lv_aload_n hx hb d_Points_placesOf_0 rfl (lv_at hl 0 rfl) ?_
  refine va_get (D := D) (ci := 3) (v := .ref (ad 1)) (C := "CarrierPaths$Points") (T := F_Points) (N := 3) hx hb hts in_Points hown hK hP 0 rfl rfl 1 (by decide) (hts _ kw37) (fun _ h9 => h9) rfl d_Points_placesOf_1 ?_
  refine lv_iload_n hx hb d_Points_placesOf_4 rfl (lv_at hl 1 rfl) ?_
  obtain ⟨hi, h⟩ := h
  refine va_iald hx hb hK hP 1 0 rfl rfl hi d_Points_placesOf_5 ?_
  exact W.iret (v := (σ 1 v1.toNatClampNeg)) hx hb hr (fun t ht hW => ⟨(σ 1 v1.toNatClampNeg), rfl, h, ht⟩) (fun q hq => by cases hq) d_Points_placesOf_6
def q_Points_setPlaces (v1 v2 : Int32) (σ : Sg) (Q : (Sg → Prop)) : Prop :=
  (vp_in v1 10 ∧ Q (sto σ 1 v1.toNatClampNeg v2))
set_option maxHeartbeats 4000000 in
set_option maxRecDepth 100000 in
theorem t_Points_setPlaces (l : Launch) (D : va_G) (cI cZ : ClassId) (ad : Nat → Nat) (inj : Inj ad 3) (v1 v2 : Int32) (σ : Sg) (Q : (Sg → Prop)) (h : q_Points_setPlaces v1 v2 σ Q) : Met l y_Points_setPlaces (.code y_Points_setPlaces prog_5_method_7_code 3 none :: TG) { frames := 0, cells := 0, slots := 0, locals := 0 } (va_Pc [.ref (ad 0), .int v1, .int v2] (roB D (tysA cI cZ) (W_Points ad cI cZ σ))) (va_Qv Q (fun u t => va_P D classes (W_Points ad cI cZ u) t.heap) (inA ad 3)) 0 0 (inA ad 3) := by
  refine Met.ofW (cc := prog_5_method_7_code) (maxL := 3) (ret := none) (by decide) rfl ?_
  intro p e s m args below meth c s₁ B hml hv
  obtain ⟨rfl, hP, hK⟩ := hv
  have hx := B.exec
  have hb := B.bytes
  have hr := B.returns
  have hts : ∀ w ∈ TG, w.before [.ref (ad 0), .int v1, .int v2].toArray s = true := fun w hw => atoms_spec (ws := .code y_Points_setPlaces prog_5_method_7_code 3 none :: TG) B.pre w (List.mem_cons_of_mem _ hw)
  have hown : s.vm.findClass "CarrierPaths$Points" = some m.cls := findClass_of_methodNamed B.named
  have hlocks := B.notSynchronized
  have hS : va_S (inA ad 3) s.heap s.heap [] := va_S.rf
  have hl := lv_entry ([.ref (ad 0), .int v1, .int v2]) (n := 3) (Nat.le_of_ble_eq_true rfl)
  rw [lg_entry_eq]
  generalize (lg_sl ([.ref (ad 0), .int v1, .int v2]) ++ List.replicate (3 - (lg_sl ([.ref (ad 0), .int v1, .int v2])).length) Slot.unset).toArray = ls at hl ⊢
  have hl : lv_has ls 3 [(0, .ref (ad 0)), (1, .int v1), (2, .int v2)] := hl
  unfold q_Points_setPlaces at h
  refine lv_aload_n hx hb d_Points_setPlaces_0 rfl (lv_at hl 0 rfl) ?_
  refine va_get (D := D) (ci := 3) (v := .ref (ad 1)) (C := "CarrierPaths$Points") (T := F_Points) (N := 3) hx hb hts in_Points hown hK hP 0 rfl rfl 1 (by decide) (hts _ kw37) (fun _ h9 => h9) rfl d_Points_setPlaces_1 ?_
  refine lv_iload_n hx hb d_Points_setPlaces_4 rfl (lv_at hl 1 rfl) ?_
  refine lv_iload_n hx hb d_Points_setPlaces_5 rfl (lv_at hl 2 rfl) ?_
  obtain ⟨hi, h⟩ := h
  refine va_iast hx hb hK hP (D_Points inj) hS 1 0 rfl rfl hi d_Points_setPlaces_6 (fun H locs hP _ hS => ?_)
  have hP := up_Points_1 hP
  exact W.vret hx hb hr (fun t ht hW => ⟨⟨(sto σ 1 v1.toNatClampNeg v2), rfl, h, hp_back ht hP⟩, hS.F ht⟩) hS.2.2 d_Points_setPlaces_7
def q_Points_hasCharger (v1 : Int32) (σ : Sg) (Q : (Int32 → Prop)) : Prop :=
  (vp_in v1 10 ∧ (narrow .boolean (.int (σ 2 v1.toNatClampNeg)) = .int (σ 2 v1.toNatClampNeg) ∧ Q (σ 2 v1.toNatClampNeg)))
set_option maxHeartbeats 4000000 in
set_option maxRecDepth 100000 in
theorem t_Points_hasCharger (l : Launch) (D : va_G) (cI cZ : ClassId) (ad : Nat → Nat) (v1 : Int32) (σ : Sg) (Q : (Int32 → Prop)) (h : q_Points_hasCharger v1 σ Q) : Met l y_Points_hasCharger (.code y_Points_hasCharger prog_5_method_8_code 2 (some .boolean) :: TG) { frames := 0, cells := 0, slots := 0, locals := 0 } (va_Pc [.ref (ad 0), .int v1] (roB D (tysA cI cZ) (W_Points ad cI cZ σ))) (vp_Si Q) 0 0 (fun _ => False) := by
  refine Met.ofW (cc := prog_5_method_8_code) (maxL := 2) (ret := (some .boolean)) (by decide) rfl ?_
  intro p e s m args below meth c s₁ B hml hv
  obtain ⟨rfl, hP, hK⟩ := hv
  have hx := B.exec
  have hb := B.bytes
  have hr := B.returns
  have hts : ∀ w ∈ TG, w.before [.ref (ad 0), .int v1].toArray s = true := fun w hw => atoms_spec (ws := .code y_Points_hasCharger prog_5_method_8_code 2 (some .boolean) :: TG) B.pre w (List.mem_cons_of_mem _ hw)
  have hown : s.vm.findClass "CarrierPaths$Points" = some m.cls := findClass_of_methodNamed B.named
  have hlocks := B.notSynchronized
  have hl := lv_entry ([.ref (ad 0), .int v1]) (n := 2) (Nat.le_of_ble_eq_true rfl)
  rw [lg_entry_eq]
  generalize (lg_sl ([.ref (ad 0), .int v1]) ++ List.replicate (2 - (lg_sl ([.ref (ad 0), .int v1])).length) Slot.unset).toArray = ls at hl ⊢
  have hl : lv_has ls 2 [(0, .ref (ad 0)), (1, .int v1)] := hl
  unfold q_Points_hasCharger at h
  refine lv_aload_n hx hb d_Points_hasCharger_0 rfl (lv_at hl 0 rfl) ?_
  refine va_get (D := D) (ci := 3) (v := .ref (ad 2)) (C := "CarrierPaths$Points") (T := F_Points) (N := 3) hx hb hts in_Points hown hK hP 0 rfl rfl 2 (by decide) (hts _ kw38) (fun _ h9 => h9) rfl d_Points_hasCharger_1 ?_
  refine lv_iload_n hx hb d_Points_hasCharger_4 rfl (lv_at hl 1 rfl) ?_
  obtain ⟨hi, h⟩ := h
  refine va_zald hx hb hK hP 2 1 rfl rfl hi d_Points_hasCharger_5 ?_
  obtain ⟨hn, h⟩ := h
  exact W.zret (v := (σ 2 v1.toNatClampNeg)) hx hb hr hn (fun t ht hW => ⟨(σ 2 v1.toNatClampNeg), rfl, h, ht⟩) (fun q hq => by cases hq) d_Points_hasCharger_6
def q_Points_setCharger (v1 v2 : Int32) (σ : Sg) (Q : (Sg → Prop)) : Prop :=
  (vp_in v1 10 ∧ Q (sto σ 2 v1.toNatClampNeg (vp_nar .boolean v2)))
set_option maxHeartbeats 4000000 in
set_option maxRecDepth 100000 in
theorem t_Points_setCharger (l : Launch) (D : va_G) (cI cZ : ClassId) (ad : Nat → Nat) (inj : Inj ad 3) (v1 v2 : Int32) (σ : Sg) (Q : (Sg → Prop)) (h : q_Points_setCharger v1 v2 σ Q) : Met l y_Points_setCharger (.code y_Points_setCharger prog_5_method_9_code 3 none :: TG) { frames := 0, cells := 0, slots := 0, locals := 0 } (va_Pc [.ref (ad 0), .int v1, .int v2] (roB D (tysA cI cZ) (W_Points ad cI cZ σ))) (va_Qv Q (fun u t => va_P D classes (W_Points ad cI cZ u) t.heap) (inA ad 3)) 0 0 (inA ad 3) := by
  refine Met.ofW (cc := prog_5_method_9_code) (maxL := 3) (ret := none) (by decide) rfl ?_
  intro p e s m args below meth c s₁ B hml hv
  obtain ⟨rfl, hP, hK⟩ := hv
  have hx := B.exec
  have hb := B.bytes
  have hr := B.returns
  have hts : ∀ w ∈ TG, w.before [.ref (ad 0), .int v1, .int v2].toArray s = true := fun w hw => atoms_spec (ws := .code y_Points_setCharger prog_5_method_9_code 3 none :: TG) B.pre w (List.mem_cons_of_mem _ hw)
  have hown : s.vm.findClass "CarrierPaths$Points" = some m.cls := findClass_of_methodNamed B.named
  have hlocks := B.notSynchronized
  have hS : va_S (inA ad 3) s.heap s.heap [] := va_S.rf
  have hl := lv_entry ([.ref (ad 0), .int v1, .int v2]) (n := 3) (Nat.le_of_ble_eq_true rfl)
  rw [lg_entry_eq]
  generalize (lg_sl ([.ref (ad 0), .int v1, .int v2]) ++ List.replicate (3 - (lg_sl ([.ref (ad 0), .int v1, .int v2])).length) Slot.unset).toArray = ls at hl ⊢
  have hl : lv_has ls 3 [(0, .ref (ad 0)), (1, .int v1), (2, .int v2)] := hl
  unfold q_Points_setCharger at h
  refine lv_aload_n hx hb d_Points_setCharger_0 rfl (lv_at hl 0 rfl) ?_
  refine va_get (D := D) (ci := 3) (v := .ref (ad 2)) (C := "CarrierPaths$Points") (T := F_Points) (N := 3) hx hb hts in_Points hown hK hP 0 rfl rfl 2 (by decide) (hts _ kw38) (fun _ h9 => h9) rfl d_Points_setCharger_1 ?_
  refine lv_iload_n hx hb d_Points_setCharger_4 rfl (lv_at hl 1 rfl) ?_
  refine lv_iload_n hx hb d_Points_setCharger_5 rfl (lv_at hl 2 rfl) ?_
  obtain ⟨hi, h⟩ := h
  refine va_zast hx hb hK hP (D_Points inj) hS 2 1 rfl rfl hi d_Points_setCharger_6 (fun H locs hP _ hS => ?_)
  have hP := up_Points_2 hP
  exact W.vret hx hb hr (fun t ht hW => ⟨⟨(sto σ 2 v1.toNatClampNeg (vp_nar .boolean v2)), rfl, h, hp_back ht hP⟩, hS.F ht⟩) hS.2.2 d_Points_setCharger_7
