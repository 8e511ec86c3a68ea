def W_Model (ad : Nat → Nat) (cI cZ : ClassId) (σ : Sg) : va_W :=
  [(ad 0, .inr (7, [.int (σ 0 0), .int (σ 0 1), .ref (ad 1), .ref (ad 2), .int (σ 0 4), .ref (ad 3), .ref (ad 4), .ref (ad 5), .ref (ad 6), .int (σ 0 9), .ref (ad 7), .int (σ 0 11), .ref (ad 8), .ref (ad 9), .ref (ad 10), .ref (ad 11), .ref (ad 12), .ref (ad 13), .ref (ad 14), .int (σ 0 19), .ref (ad 15), .ref (ad 16), .ref (ad 17), .ref (ad 18), .int (σ 0 24), .ref (ad 19), .ref (ad 20)])),
   (ad 1, .inl (cI, 10, .inl (σ 1))),
   (ad 2, .inl (cZ, 10, .inl (σ 2))),
   (ad 3, .inl (cI, 30, .inl (σ 3))),
   (ad 4, .inl (cI, 30, .inl (σ 4))),
   (ad 5, .inl (cI, 30, .inl (σ 5))),
   (ad 6, .inl (cZ, 30, .inl (σ 6))),
   (ad 7, .inl (cI, 4, .inl (σ 7))),
   (ad 8, .inl (cI, 6, .inl (σ 8))),
   (ad 9, .inl (cI, 6, .inl (σ 9))),
   (ad 10, .inl (cI, 6, .inl (σ 10))),
   (ad 11, .inl (cI, 6, .inl (σ 11))),
   (ad 12, .inl (cI, 6, .inl (σ 12))),
   (ad 13, .inl (cI, 6, .inl (σ 13))),
   (ad 14, .inl (cI, 6, .inl (σ 14))),
   (ad 15, .inl (cI, 12, .inl (σ 15))),
   (ad 16, .inl (cI, 12, .inl (σ 16))),
   (ad 17, .inl (cI, 12, .inl (σ 17))),
   (ad 18, .inl (cI, 12, .inl (σ 18))),
   (ad 19, .inl (cI, 10, .inl (σ 19))),
   (ad 20, .inl (cI, 832, .inl (σ 20)))]
theorem D_Model {ad : Nat → Nat} {cI cZ : ClassId} {σ : Sg} (inj : Inj ad 21) : va_D (inA ad 21) (W_Model ad cI cZ σ) := D_of inj rfl
theorem up_Model_f0 {D : va_G} {ad : Nat → Nat} {cI cZ : ClassId} {σ : Sg} {H : Heap} {v : Int32} (h : va_P D classes ((W_Model ad cI cZ σ).set 0 (ad 0, .inr (7, ([.int (σ 0 0), .int (σ 0 1), .ref (ad 1), .ref (ad 2), .int (σ 0 4), .ref (ad 3), .ref (ad 4), .ref (ad 5), .ref (ad 6), .int (σ 0 9), .ref (ad 7), .int (σ 0 11), .ref (ad 8), .ref (ad 9), .ref (ad 10), .ref (ad 11), .ref (ad 12), .ref (ad 13), .ref (ad 14), .int (σ 0 19), .ref (ad 15), .ref (ad 16), .ref (ad 17), .ref (ad 18), .int (σ 0 24), .ref (ad 19), .ref (ad 20)] : List Value).set 0 (.int v)))) H) : va_P D classes (W_Model ad cI cZ (sto σ 0 0 v)) H := h
theorem up_Model_f4 {D : va_G} {ad : Nat → Nat} {cI cZ : ClassId} {σ : Sg} {H : Heap} {v : Int32} (h : va_P D classes ((W_Model ad cI cZ σ).set 0 (ad 0, .inr (7, ([.int (σ 0 0), .int (σ 0 1), .ref (ad 1), .ref (ad 2), .int (σ 0 4), .ref (ad 3), .ref (ad 4), .ref (ad 5), .ref (ad 6), .int (σ 0 9), .ref (ad 7), .int (σ 0 11), .ref (ad 8), .ref (ad 9), .ref (ad 10), .ref (ad 11), .ref (ad 12), .ref (ad 13), .ref (ad 14), .int (σ 0 19), .ref (ad 15), .ref (ad 16), .ref (ad 17), .ref (ad 18), .int (σ 0 24), .ref (ad 19), .ref (ad 20)] : List Value).set 4 (.int v)))) H) : va_P D classes (W_Model ad cI cZ (sto σ 0 4 v)) H := h
theorem up_Model_f9 {D : va_G} {ad : Nat → Nat} {cI cZ : ClassId} {σ : Sg} {H : Heap} {v : Int32} (h : va_P D classes ((W_Model ad cI cZ σ).set 0 (ad 0, .inr (7, ([.int (σ 0 0), .int (σ 0 1), .ref (ad 1), .ref (ad 2), .int (σ 0 4), .ref (ad 3), .ref (ad 4), .ref (ad 5), .ref (ad 6), .int (σ 0 9), .ref (ad 7), .int (σ 0 11), .ref (ad 8), .ref (ad 9), .ref (ad 10), .ref (ad 11), .ref (ad 12), .ref (ad 13), .ref (ad 14), .int (σ 0 19), .ref (ad 15), .ref (ad 16), .ref (ad 17), .ref (ad 18), .int (σ 0 24), .ref (ad 19), .ref (ad 20)] : List Value).set 9 (.int v)))) H) : va_P D classes (W_Model ad cI cZ (sto σ 0 9 v)) H := h
theorem up_Model_f11 {D : va_G} {ad : Nat → Nat} {cI cZ : ClassId} {σ : Sg} {H : Heap} {v : Int32} (h : va_P D classes ((W_Model ad cI cZ σ).set 0 (ad 0, .inr (7, ([.int (σ 0 0), .int (σ 0 1), .ref (ad 1), .ref (ad 2), .int (σ 0 4), .ref (ad 3), .ref (ad 4), .ref (ad 5), .ref (ad 6), .int (σ 0 9), .ref (ad 7), .int (σ 0 11), .ref (ad 8), .ref (ad 9), .ref (ad 10), .ref (ad 11), .ref (ad 12), .ref (ad 13), .ref (ad 14), .int (σ 0 19), .ref (ad 15), .ref (ad 16), .ref (ad 17), .ref (ad 18), .int (σ 0 24), .ref (ad 19), .ref (ad 20)] : List Value).set 11 (.int v)))) H) : va_P D classes (W_Model ad cI cZ (sto σ 0 11 v)) H := h
theorem up_Model_f19 {D : va_G} {ad : Nat → Nat} {cI cZ : ClassId} {σ : Sg} {H : Heap} {v : Int32} (h : va_P D classes ((W_Model ad cI cZ σ).set 0 (ad 0, .inr (7, ([.int (σ 0 0), .int (σ 0 1), .ref (ad 1), .ref (ad 2), .int (σ 0 4), .ref (ad 3), .ref (ad 4), .ref (ad 5), .ref (ad 6), .int (σ 0 9), .ref (ad 7), .int (σ 0 11), .ref (ad 8), .ref (ad 9), .ref (ad 10), .ref (ad 11), .ref (ad 12), .ref (ad 13), .ref (ad 14), .int (σ 0 19), .ref (ad 15), .ref (ad 16), .ref (ad 17), .ref (ad 18), .int (σ 0 24), .ref (ad 19), .ref (ad 20)] : List Value).set 19 (.int v)))) H) : va_P D classes (W_Model ad cI cZ (sto σ 0 19 v)) H := h
theorem up_Model_f24 {D : va_G} {ad : Nat → Nat} {cI cZ : ClassId} {σ : Sg} {H : Heap} {v : Int32} (h : va_P D classes ((W_Model ad cI cZ σ).set 0 (ad 0, .inr (7, ([.int (σ 0 0), .int (σ 0 1), .ref (ad 1), .ref (ad 2), .int (σ 0 4), .ref (ad 3), .ref (ad 4), .ref (ad 5), .ref (ad 6), .int (σ 0 9), .ref (ad 7), .int (σ 0 11), .ref (ad 8), .ref (ad 9), .ref (ad 10), .ref (ad 11), .ref (ad 12), .ref (ad 13), .ref (ad 14), .int (σ 0 19), .ref (ad 15), .ref (ad 16), .ref (ad 17), .ref (ad 18), .int (σ 0 24), .ref (ad 19), .ref (ad 20)] : List Value).set 24 (.int v)))) H) : va_P D classes (W_Model ad cI cZ (sto σ 0 24 v)) H := h
theorem up_Model_1 {D : va_G} {ad : Nat → Nat} {cI cZ : ClassId} {σ : Sg} {H : Heap} {i : Nat} {v : Int32} (h : va_P D classes ((W_Model ad cI cZ σ).set 1 (ad 1, .inl (cI, 10, .inl (upd (σ 1) i v)))) H) : va_P D classes (W_Model ad cI cZ (sto σ 1 i v)) H := h
theorem up_Model_2 {D : va_G} {ad : Nat → Nat} {cI cZ : ClassId} {σ : Sg} {H : Heap} {i : Nat} {v : Int32} (h : va_P D classes ((W_Model ad cI cZ σ).set 2 (ad 2, .inl (cZ, 10, .inl (upd (σ 2) i v)))) H) : va_P D classes (W_Model ad cI cZ (sto σ 2 i v)) H := h
theorem up_Model_3 {D : va_G} {ad : Nat → Nat} {cI cZ : ClassId} {σ : Sg} {H : Heap} {i : Nat} {v : Int32} (h : va_P D classes ((W_Model ad cI cZ σ).set 3 (ad 3, .inl (cI, 30, .inl (upd (σ 3) i v)))) H) : va_P D classes (W_Model ad cI cZ (sto σ 3 i v)) H := h
theorem up_Model_4 {D : va_G} {ad : Nat → Nat} {cI cZ : ClassId} {σ : Sg} {H : Heap} {i : Nat} {v : Int32} (h : va_P D classes ((W_Model ad cI cZ σ).set 4 (ad 4, .inl (cI, 30, .inl (upd (σ 4) i v)))) H) : va_P D classes (W_Model ad cI cZ (sto σ 4 i v)) H := h
theorem up_Model_5 {D : va_G} {ad : Nat → Nat} {cI cZ : ClassId} {σ : Sg} {H : Heap} {i : Nat} {v : Int32} (h : va_P D classes ((W_Model ad cI cZ σ).set 5 (ad 5, .inl (cI, 30, .inl (upd (σ 5) i v)))) H) : va_P D classes (W_Model ad cI cZ (sto σ 5 i v)) H := h
theorem up_Model_6 {D : va_G} {ad : Nat → Nat} {cI cZ : ClassId} {σ : Sg} {H : Heap} {i : Nat} {v : Int32} (h : va_P D classes ((W_Model ad cI cZ σ).set 6 (ad 6, .inl (cZ, 30, .inl (upd (σ 6) i v)))) H) : va_P D classes (W_Model ad cI cZ (sto σ 6 i v)) H := h
theorem up_Model_7 {D : va_G} {ad : Nat → Nat} {cI cZ : ClassId} {σ : Sg} {H : Heap} {i : Nat} {v : Int32} (h : va_P D classes ((W_Model ad cI cZ σ).set 7 (ad 7, .inl (cI, 4, .inl (upd (σ 7) i v)))) H) : va_P D classes (W_Model ad cI cZ (sto σ 7 i v)) H := h
theorem up_Model_8 {D : va_G} {ad : Nat → Nat} {cI cZ : ClassId} {σ : Sg} {H : Heap} {i : Nat} {v : Int32} (h : va_P D classes ((W_Model ad cI cZ σ).set 8 (ad 8, .inl (cI, 6, .inl (upd (σ 8) i v)))) H) : va_P D classes (W_Model ad cI cZ (sto σ 8 i v)) H := h
theorem up_Model_9 {D : va_G} {ad : Nat → Nat} {cI cZ : ClassId} {σ : Sg} {H : Heap} {i : Nat} {v : Int32} (h : va_P D classes ((W_Model ad cI cZ σ).set 9 (ad 9, .inl (cI, 6, .inl (upd (σ 9) i v)))) H) : va_P D classes (W_Model ad cI cZ (sto σ 9 i v)) H := h
theorem up_Model_10 {D : va_G} {ad : Nat → Nat} {cI cZ : ClassId} {σ : Sg} {H : Heap} {i : Nat} {v : Int32} (h : va_P D classes ((W_Model ad cI cZ σ).set 10 (ad 10, .inl (cI, 6, .inl (upd (σ 10) i v)))) H) : va_P D classes (W_Model ad cI cZ (sto σ 10 i v)) H := h
theorem up_Model_11 {D : va_G} {ad : Nat → Nat} {cI cZ : ClassId} {σ : Sg} {H : Heap} {i : Nat} {v : Int32} (h : va_P D classes ((W_Model ad cI cZ σ).set 11 (ad 11, .inl (cI, 6, .inl (upd (σ 11) i v)))) H) : va_P D classes (W_Model ad cI cZ (sto σ 11 i v)) H := h
theorem up_Model_12 {D : va_G} {ad : Nat → Nat} {cI cZ : ClassId} {σ : Sg} {H : Heap} {i : Nat} {v : Int32} (h : va_P D classes ((W_Model ad cI cZ σ).set 12 (ad 12, .inl (cI, 6, .inl (upd (σ 12) i v)))) H) : va_P D classes (W_Model ad cI cZ (sto σ 12 i v)) H := h
theorem up_Model_13 {D : va_G} {ad : Nat → Nat} {cI cZ : ClassId} {σ : Sg} {H : Heap} {i : Nat} {v : Int32} (h : va_P D classes ((W_Model ad cI cZ σ).set 13 (ad 13, .inl (cI, 6, .inl (upd (σ 13) i v)))) H) : va_P D classes (W_Model ad cI cZ (sto σ 13 i v)) H := h
theorem up_Model_14 {D : va_G} {ad : Nat → Nat} {cI cZ : ClassId} {σ : Sg} {H : Heap} {i : Nat} {v : Int32} (h : va_P D classes ((W_Model ad cI cZ σ).set 14 (ad 14, .inl (cI, 6, .inl (upd (σ 14) i v)))) H) : va_P D classes (W_Model ad cI cZ (sto σ 14 i v)) H := h
theorem up_Model_15 {D : va_G} {ad : Nat → Nat} {cI cZ : ClassId} {σ : Sg} {H : Heap} {i : Nat} {v : Int32} (h : va_P D classes ((W_Model ad cI cZ σ).set 15 (ad 15, .inl (cI, 12, .inl (upd (σ 15) i v)))) H) : va_P D classes (W_Model ad cI cZ (sto σ 15 i v)) H := h
theorem up_Model_16 {D : va_G} {ad : Nat → Nat} {cI cZ : ClassId} {σ : Sg} {H : Heap} {i : Nat} {v : Int32} (h : va_P D classes ((W_Model ad cI cZ σ).set 16 (ad 16, .inl (cI, 12, .inl (upd (σ 16) i v)))) H) : va_P D classes (W_Model ad cI cZ (sto σ 16 i v)) H := h
theorem up_Model_17 {D : va_G} {ad : Nat → Nat} {cI cZ : ClassId} {σ : Sg} {H : Heap} {i : Nat} {v : Int32} (h : va_P D classes ((W_Model ad cI cZ σ).set 17 (ad 17, .inl (cI, 12, .inl (upd (σ 17) i v)))) H) : va_P D classes (W_Model ad cI cZ (sto σ 17 i v)) H := h
theorem up_Model_18 {D : va_G} {ad : Nat → Nat} {cI cZ : ClassId} {σ : Sg} {H : Heap} {i : Nat} {v : Int32} (h : va_P D classes ((W_Model ad cI cZ σ).set 18 (ad 18, .inl (cI, 12, .inl (upd (σ 18) i v)))) H) : va_P D classes (W_Model ad cI cZ (sto σ 18 i v)) H := h
theorem up_Model_19 {D : va_G} {ad : Nat → Nat} {cI cZ : ClassId} {σ : Sg} {H : Heap} {i : Nat} {v : Int32} (h : va_P D classes ((W_Model ad cI cZ σ).set 19 (ad 19, .inl (cI, 10, .inl (upd (σ 19) i v)))) H) : va_P D classes (W_Model ad cI cZ (sto σ 19 i v)) H := h
theorem up_Model_20 {D : va_G} {ad : Nat → Nat} {cI cZ : ClassId} {σ : Sg} {H : Heap} {i : Nat} {v : Int32} (h : va_P D classes ((W_Model ad cI cZ σ).set 20 (ad 20, .inl (cI, 832, .inl (upd (σ 20) i v)))) H) : va_P D classes (W_Model ad cI cZ (sto σ 20 i v)) H := h
def q_Model_thrown (σ : Sg) (Q : (Int32 → Prop)) : Prop :=
  Q (σ 0 0)
set_option maxHeartbeats 4000000 in
set_option maxRecDepth 100000 in
theorem t_Model_thrown (l : Launch) (D : va_G) (cI cZ : ClassId) (ad : Nat → Nat) (σ : Sg) (Q : (Int32 → Prop)) (h : q_Model_thrown σ Q) : Met l y_Model_thrown (.code y_Model_thrown prog_9_method_2_code 1 (some .int) :: TG) { frames := 0, cells := 0, slots := 0, locals := 0 } (va_Pc [.ref (ad 0)] (roB D (tysA cI cZ) (W_Model ad cI cZ σ))) (vp_Si Q) 0 0 (fun _ => False) := by
  refine Met.ofW (cc := prog_9_method_2_code) (maxL := 1) (ret := (some .int)) (by decide) rfl ?_
  intro p e s m args below meth c s₁ B hml hv
  obtain ⟨rfl, hP, hK⟩ := hv
  have hx := B.exec
  have hb := B.bytes
  have hr := B.returns
  have hts : ∀ w ∈ TG, w.before [.ref (ad 0)].toArray s = true := fun w hw => atoms_spec (ws := .code y_Model_thrown prog_9_method_2_code 1 (some .int) :: TG) B.pre w (List.mem_cons_of_mem _ hw)
  have hown : s.vm.findClass "CarrierPathsModel" = some m.cls := findClass_of_methodNamed B.named
  have hlocks := B.notSynchronized
  have hl := lv_entry ([.ref (ad 0)]) (n := 1) (Nat.le_of_ble_eq_true rfl)
  rw [lg_entry_eq]
  generalize (lg_sl ([.ref (ad 0)]) ++ List.replicate (1 - (lg_sl ([.ref (ad 0)])).length) Slot.unset).toArray = ls at hl ⊢
  have hl : lv_has ls 1 [(0, .ref (ad 0))] := hl
  unfold q_Model_thrown at h
  refine lv_aload_n hx hb d_Model_thrown_0 rfl (lv_at hl 0 rfl) ?_
  refine va_get (D := D) (ci := 7) (v := .int (σ 0 0)) (C := "CarrierPathsModel") (T := F_Model) (N := 27) hx hb hts in_Model hown hK hP 0 rfl rfl 0 (by decide) (hts _ kw755) (fun _ h9 => h9) rfl d_Model_thrown_1 ?_
  exact W.iret (v := (σ 0 0)) hx hb hr (fun t ht hW => ⟨(σ 0 0), rfl, h, ht⟩) (fun q hq => by cases hq) d_Model_thrown_4
def q_Model_fails (v1 : Int32) (σ : Sg) (Q : (Int32 → Sg → Prop)) : Prop :=
  Q 0 (sto σ 0 0 v1)
set_option maxHeartbeats 4000000 in
set_option maxRecDepth 100000 in
theorem t_Model_fails (l : Launch) (D : va_G) (cI cZ : ClassId) (ad : Nat → Nat) (inj : Inj ad 21) (v1 : Int32) (σ : Sg) (Q : (Int32 → Sg → Prop)) (h : q_Model_fails v1 σ Q) : Met l y_Model_fails (.code y_Model_fails prog_9_method_3_code 2 (some .int) :: TG) { frames := 0, cells := 0, slots := 0, locals := 0 } (va_Pc [.ref (ad 0), .int v1] (roB D (tysA cI cZ) (W_Model ad cI cZ σ))) (va_Qi Q (fun u t => va_P D classes (W_Model ad cI cZ u) t.heap) (inA ad 21)) 0 0 (inA ad 21) := by
  refine Met.ofW (cc := prog_9_method_3_code) (maxL := 2) (ret := (some .int)) (by decide) rfl ?_
  intro p e s m args below meth c s₁ B hml hv
  obtain ⟨rfl, hP, hK⟩ := hv
  have hx := B.exec
  have hb := B.bytes
  have hr := B.returns
  have hts : ∀ w ∈ TG, w.before [.ref (ad 0), .int v1].toArray s = true := fun w hw => atoms_spec (ws := .code y_Model_fails prog_9_method_3_code 2 (some .int) :: TG) B.pre w (List.mem_cons_of_mem _ hw)
  have hown : s.vm.findClass "CarrierPathsModel" = some m.cls := findClass_of_methodNamed B.named
  have hlocks := B.notSynchronized
  have hS : va_S (inA ad 21) s.heap s.heap [] := va_S.rf
  have hl := lv_entry ([.ref (ad 0), .int v1]) (n := 2) (Nat.le_of_ble_eq_true rfl)
  rw [lg_entry_eq]
  generalize (lg_sl ([.ref (ad 0), .int v1]) ++ List.replicate (2 - (lg_sl ([.ref (ad 0), .int v1])).length) Slot.unset).toArray = ls at hl ⊢
  have hl : lv_has ls 2 [(0, .ref (ad 0)), (1, .int v1)] := hl
  unfold q_Model_fails at h
  refine lv_aload_n hx hb d_Model_fails_0 rfl (lv_at hl 0 rfl) ?_
  refine lv_iload_n hx hb d_Model_fails_1 rfl (lv_at hl 1 rfl) ?_
  refine va_put (D := D) (ci := 7) (v := .int v1) (ty := .int) (C := "CarrierPathsModel") (T := F_Model) (N := 27) hx hb hts in_Model ty_Model ty_Model_ok nm_Model hown hK hP (D_Model inj) hS 0 rfl rfl 0 (by decide) (hts _ kw755) (fun _ h9 => h9) rfl (by decide +kernel) rfl rfl (Nat.le_of_ble_eq_true rfl) d_Model_fails_2 (fun H locs hP _ hS => ?_)
  have hP := up_Model_f0 hP
  refine lv_iconst (v := 0) hx hb d_Model_fails_5 (by decide) ?_
  exact W.iret (v := 0) hx hb hr (fun t ht hW => ⟨⟨0, (sto σ 0 0 v1), rfl, h, hp_back ht hP⟩, hS.F ht⟩) hS.2.2 d_Model_fails_6
def q_Model_in (v0 v1 v2 : Int32) (Q : (Int32 → Prop)) : Prop :=
  ((v0 < v1 → Q 0) ∧ (¬ v0 < v1 → ((v2 < v0 → Q 0) ∧ (¬ v2 < v0 → Q 1))))
set_option maxHeartbeats 4000000 in
set_option maxRecDepth 100000 in
theorem t_Model_in (l : Launch) (v0 v1 v2 : Int32) (Q : (Int32 → Prop)) (h : q_Model_in v0 v1 v2 Q) : Met l y_Model_in (.code y_Model_in prog_9_method_4_code 3 (some .boolean) :: TG) { frames := 0, cells := 0, slots := 0, locals := 0 } (va_Pc [.int v0, .int v1, .int v2] (fun _ => True)) (vp_Si Q) 0 0 (fun _ => False) := by
  refine Met.ofW (cc := prog_9_method_4_code) (maxL := 3) (ret := (some .boolean)) (by decide) rfl ?_
  intro p e s m args below meth c s₁ B hml hv
  obtain ⟨rfl, -⟩ := hv
  have hx := B.exec
  have hb := B.bytes
  have hr := B.returns
  have hts : ∀ w ∈ TG, w.before [.int v0, .int v1, .int v2].toArray s = true := fun w hw => atoms_spec (ws := .code y_Model_in prog_9_method_4_code 3 (some .boolean) :: TG) B.pre w (List.mem_cons_of_mem _ hw)
  have hown : s.vm.findClass "CarrierPathsModel" = some m.cls := findClass_of_methodNamed B.named
  have hlocks := B.notSynchronized
  have hl := lv_entry ([.int v0, .int v1, .int v2]) (n := 3) (Nat.le_of_ble_eq_true rfl)
  rw [lg_entry_eq]
  generalize (lg_sl ([.int v0, .int v1, .int v2]) ++ List.replicate (3 - (lg_sl ([.int v0, .int v1, .int v2])).length) Slot.unset).toArray = ls at hl ⊢
  have hl : lv_has ls 3 [(0, .int v0), (1, .int v1), (2, .int v2)] := hl
  unfold q_Model_in at h
  refine lv_iload_n hx hb d_Model_in_0 rfl (lv_at hl 0 rfl) ?_
  refine lv_iload_n hx hb d_Model_in_1 rfl (lv_at hl 1 rfl) ?_
  refine lv_icmp_lt (tgt := 14) hx hb d_Model_in_2 (by decide) (fun hc => ?_) (fun hc => ?_)
  · have h := h.1 hc
    refine lv_iconst (v := 0) hx hb d_Model_in_14 (by decide) ?_
    exact W.zret (v := 0) hx hb hr (by decide) (fun t ht hW => ⟨0, rfl, h, ht⟩) (fun q hq => by cases hq) d_Model_in_15
  · have h := h.2 hc
    refine lv_iload_n hx hb d_Model_in_5 rfl (lv_at hl 0 rfl) ?_
    refine lv_iload_n hx hb d_Model_in_6 rfl (lv_at hl 2 rfl) ?_
    refine lv_icmp_gt (tgt := 14) hx hb d_Model_in_7 (by decide) (fun hc => ?_) (fun hc => ?_)
    · have h := h.1 hc
      refine lv_iconst (v := 0) hx hb d_Model_in_14 (by decide) ?_
      exact W.zret (v := 0) hx hb hr (by decide) (fun t ht hW => ⟨0, rfl, h, ht⟩) (fun q hq => by cases hq) d_Model_in_15
    · have h := h.2 hc
      refine lv_iconst (v := 1) hx hb d_Model_in_10 (by decide) ?_
      refine lv_goto (tgt := 15) hx hb d_Model_in_11 (by decide) ?_
      exact W.zret (v := 1) hx hb hr (by decide) (fun t ht hW => ⟨1, rfl, h, ht⟩) (fun q hq => by cases hq) d_Model_in_15
def q_Model_isPoint (v1 : Int32) (σ : Sg) (Q : (Int32 → Prop)) : Prop :=
  ((v1 < 0 → Q 0) ∧ (¬ v1 < 0 → (((σ 0 1) ≤ v1 → Q 0) ∧ (¬ (σ 0 1) ≤ v1 → Q 1))))
set_option maxHeartbeats 4000000 in
set_option maxRecDepth 100000 in
theorem t_Model_isPoint (l : Launch) (D : va_G) (cI cZ : ClassId) (ad : Nat → Nat) (v1 : Int32) (σ : Sg) (Q : (Int32 → Prop)) (h : q_Model_isPoint v1 σ Q) : Met l y_Model_isPoint (.code y_Model_isPoint prog_9_method_5_code 2 (some .boolean) :: TG) { frames := 0, cells := 0, slots := 0, locals := 0 } (va_Pc [.ref (ad 0), .int v1] (roB D (tysA cI cZ) (W_Model ad cI cZ σ))) (vp_Si Q) 0 0 (fun _ => False) := by
  refine Met.ofW (cc := prog_9_method_5_code) (maxL := 2) (ret := (some .boolean)) (by decide) rfl ?_
  intro p e s m args below meth c s₁ B hml hv
  obtain ⟨rfl, hP, hK⟩ := hv
  have hx := B.exec
  have hb := B.bytes
  have hr := B.returns
  have hts : ∀ w ∈ TG, w.before [.ref (ad 0), .int v1].toArray s = true := fun w hw => atoms_spec (ws := .code y_Model_isPoint prog_9_method_5_code 2 (some .boolean) :: TG) B.pre w (List.mem_cons_of_mem _ hw)
  have hown : s.vm.findClass "CarrierPathsModel" = some m.cls := findClass_of_methodNamed B.named
  have hlocks := B.notSynchronized
  have hl := lv_entry ([.ref (ad 0), .int v1]) (n := 2) (Nat.le_of_ble_eq_true rfl)
  rw [lg_entry_eq]
  generalize (lg_sl ([.ref (ad 0), .int v1]) ++ List.replicate (2 - (lg_sl ([.ref (ad 0), .int v1])).length) Slot.unset).toArray = ls at hl ⊢
  have hl : lv_has ls 2 [(0, .ref (ad 0)), (1, .int v1)] := hl
  unfold q_Model_isPoint at h
  refine lv_iload_n hx hb d_Model_isPoint_0 rfl (lv_at hl 1 rfl) ?_
  refine lv_if_lt (tgt := 16) hx hb d_Model_isPoint_1 (by decide) (fun hc => ?_) (fun hc => ?_)
  · have h := h.1 hc
    refine lv_iconst (v := 0) hx hb d_Model_isPoint_16 (by decide) ?_
    exact W.zret (v := 0) hx hb hr (by decide) (fun t ht hW => ⟨0, rfl, h, ht⟩) (fun q hq => by cases hq) d_Model_isPoint_17
  · have h := h.2 hc
    refine lv_iload_n hx hb d_Model_isPoint_4 rfl (lv_at hl 1 rfl) ?_
    refine lv_aload_n hx hb d_Model_isPoint_5 rfl (lv_at hl 0 rfl) ?_
    refine va_get (D := D) (ci := 7) (v := .int (σ 0 1)) (C := "CarrierPathsModel") (T := F_Model) (N := 27) hx hb hts in_Model hown hK hP 0 rfl rfl 1 (by decide) (hts _ kw756) (fun _ h9 => h9) rfl d_Model_isPoint_6 ?_
    refine lv_icmp_ge (tgt := 16) hx hb d_Model_isPoint_9 (by decide) (fun hc => ?_) (fun hc => ?_)
    · have h := h.1 hc
      refine lv_iconst (v := 0) hx hb d_Model_isPoint_16 (by decide) ?_
      exact W.zret (v := 0) hx hb hr (by decide) (fun t ht hW => ⟨0, rfl, h, ht⟩) (fun q hq => by cases hq) d_Model_isPoint_17
    · have h := h.2 hc
      refine lv_iconst (v := 1) hx hb d_Model_isPoint_12 (by decide) ?_
      refine lv_goto (tgt := 17) hx hb d_Model_isPoint_13 (by decide) ?_
      exact W.zret (v := 1) hx hb hr (by decide) (fun t ht hW => ⟨1, rfl, h, ht⟩) (fun q hq => by cases hq) d_Model_isPoint_17
def q_Model_isCarrier (v1 : Int32) (σ : Sg) (Q : (Int32 → Prop)) : Prop :=
  ((v1 < 0 → Q 0) ∧ (¬ v1 < 0 → (((σ 0 11) ≤ v1 → Q 0) ∧ (¬ (σ 0 11) ≤ v1 → Q 1))))
set_option maxHeartbeats 4000000 in
set_option maxRecDepth 100000 in
theorem t_Model_isCarrier (l : Launch) (D : va_G) (cI cZ : ClassId) (ad : Nat → Nat) (v1 : Int32) (σ : Sg) (Q : (Int32 → Prop)) (h : q_Model_isCarrier v1 σ Q) : Met l y_Model_isCarrier (.code y_Model_isCarrier prog_9_method_6_code 2 (some .boolean) :: TG) { frames := 0, cells := 0, slots := 0, locals := 0 } (va_Pc [.ref (ad 0), .int v1] (roB D (tysA cI cZ) (W_Model ad cI cZ σ))) (vp_Si Q) 0 0 (fun _ => False) := by
  refine Met.ofW (cc := prog_9_method_6_code) (maxL := 2) (ret := (some .boolean)) (by decide) rfl ?_
  intro p e s m args below meth c s₁ B hml hv
  obtain ⟨rfl, hP, hK⟩ := hv
  have hx := B.exec
  have hb := B.bytes
  have hr := B.returns
  have hts : ∀ w ∈ TG, w.before [.ref (ad 0), .int v1].toArray s = true := fun w hw => atoms_spec (ws := .code y_Model_isCarrier prog_9_method_6_code 2 (some .boolean) :: TG) B.pre w (List.mem_cons_of_mem _ hw)
  have hown : s.vm.findClass "CarrierPathsModel" = some m.cls := findClass_of_methodNamed B.named
  have hlocks := B.notSynchronized
  have hl := lv_entry ([.ref (ad 0), .int v1]) (n := 2) (Nat.le_of_ble_eq_true rfl)
  rw [lg_entry_eq]
  generalize (lg_sl ([.ref (ad 0), .int v1]) ++ List.replicate (2 - (lg_sl ([.ref (ad 0), .int v1])).length) Slot.unset).toArray = ls at hl ⊢
  have hl : lv_has ls 2 [(0, .ref (ad 0)), (1, .int v1)] := hl
  unfold q_Model_isCarrier at h
  refine lv_iload_n hx hb d_Model_isCarrier_0 rfl (lv_at hl 1 rfl) ?_
  refine lv_if_lt (tgt := 16) hx hb d_Model_isCarrier_1 (by decide) (fun hc => ?_) (fun hc => ?_)
  · have h := h.1 hc
    refine lv_iconst (v := 0) hx hb d_Model_isCarrier_16 (by decide) ?_
    exact W.zret (v := 0) hx hb hr (by decide) (fun t ht hW => ⟨0, rfl, h, ht⟩) (fun q hq => by cases hq) d_Model_isCarrier_17
  · have h := h.2 hc
    refine lv_iload_n hx hb d_Model_isCarrier_4 rfl (lv_at hl 1 rfl) ?_
    refine lv_aload_n hx hb d_Model_isCarrier_5 rfl (lv_at hl 0 rfl) ?_
    refine va_get (D := D) (ci := 7) (v := .int (σ 0 11)) (C := "CarrierPathsModel") (T := F_Model) (N := 27) hx hb hts in_Model hown hK hP 0 rfl rfl 11 (by decide) (hts _ kw766) (fun _ h9 => h9) rfl d_Model_isCarrier_6 ?_
    refine lv_icmp_ge (tgt := 16) hx hb d_Model_isCarrier_9 (by decide) (fun hc => ?_) (fun hc => ?_)
    · have h := h.1 hc
      refine lv_iconst (v := 0) hx hb d_Model_isCarrier_16 (by decide) ?_
      exact W.zret (v := 0) hx hb hr (by decide) (fun t ht hW => ⟨0, rfl, h, ht⟩) (fun q hq => by cases hq) d_Model_isCarrier_17
    · have h := h.2 hc
      refine lv_iconst (v := 1) hx hb d_Model_isCarrier_12 (by decide) ?_
      refine lv_goto (tgt := 17) hx hb d_Model_isCarrier_13 (by decide) ?_
      exact W.zret (v := 1) hx hb hr (by decide) (fun t ht hW => ⟨1, rfl, h, ht⟩) (fun q hq => by cases hq) d_Model_isCarrier_17
def q_Model_timesTo_b0 (J : Nat → Int32 → Int32 → Int32 → Sg → Prop) (Q : (Sg → Prop)) (v1 v2 v3 : Int32) (σ : Sg) : Prop :=
  J 1 v1 0 0 σ
def q_Model_timesTo_b1 (J : Nat → Int32 → Int32 → Int32 → Sg → Prop) (Q : (Sg → Prop)) (v1 v2 v3 : Int32) (σ : Sg) : Prop :=
  (((σ 0 1) ≤ v2 → J 2 v1 0 0 σ) ∧ (¬ (σ 0 1) ≤ v2 → ((v2 = v1 → (vp_in v2 10 ∧ J 1 v1 (v2 + 1) 0 (sto σ 19 v2.toNatClampNeg 0))) ∧ (¬ v2 = v1 → (vp_in v2 10 ∧ J 1 v1 (v2 + 1) 0 (sto σ 19 v2.toNatClampNeg 1000000000))))))
def q_Model_timesTo_b2 (J : Nat → Int32 → Int32 → Int32 → Sg → Prop) (Q : (Sg → Prop)) (v1 v2 v3 : Int32) (σ : Sg) : Prop :=
  (((σ 0 1) ≤ v2 → Q σ) ∧ (¬ (σ 0 1) ≤ v2 → J 3 v1 v2 0 σ))
def q_Model_timesTo_b3 (J : Nat → Int32 → Int32 → Int32 → Sg → Prop) (Q : (Sg → Prop)) (v1 v2 v3 : Int32) (σ : Sg) : Prop :=
  (((σ 0 4) ≤ v3 → J 2 v1 (v2 + 1) 0 σ) ∧ (¬ (σ 0 4) ≤ v3 → (vp_in v3 30 ∧ (((σ 6 v3.toNatClampNeg) = 0 → (vp_in v3 30 ∧ (vp_in (σ 4 v3.toNatClampNeg) 10 ∧ ((1000000000 ≤ (σ 19 (σ 4 v3.toNatClampNeg).toNatClampNeg) → J 3 v1 v2 (v3 + 1) σ) ∧ (¬ 1000000000 ≤ (σ 19 (σ 4 v3.toNatClampNeg).toNatClampNeg) → (vp_in v3 30 ∧ (vp_in (σ 4 v3.toNatClampNeg) 10 ∧ (vp_in v3 30 ∧ (vp_in v3 30 ∧ (vp_in (σ 3 v3.toNatClampNeg) 10 ∧ (((σ 19 (σ 3 v3.toNatClampNeg).toNatClampNeg) ≤ ((σ 19 (σ 4 v3.toNatClampNeg).toNatClampNeg) + (σ 5 v3.toNatClampNeg)) → J 3 v1 v2 (v3 + 1) σ) ∧ (¬ (σ 19 (σ 3 v3.toNatClampNeg).toNatClampNeg) ≤ ((σ 19 (σ 4 v3.toNatClampNeg).toNatClampNeg) + (σ 5 v3.toNatClampNeg)) → (vp_in v3 30 ∧ (vp_in v3 30 ∧ (vp_in (σ 4 v3.toNatClampNeg) 10 ∧ (vp_in v3 30 ∧ (vp_in (σ 3 v3.toNatClampNeg) 10 ∧ J 3 v1 v2 (v3 + 1) (sto σ 19 (σ 3 v3.toNatClampNeg).toNatClampNeg ((σ 19 (σ 4 v3.toNatClampNeg).toNatClampNeg) + (σ 5 v3.toNatClampNeg)))))))))))))))))))) ∧ (¬ (σ 6 v3.toNatClampNeg) = 0 → J 3 v1 v2 (v3 + 1) σ)))))
def q_Model_timesTo_j (Q : (Sg → Prop)) : Nat → Nat → Int32 → Int32 → Int32 → Sg → Prop
  | 0, _, _, _, _, _ => False
  | n + 1, 0, v1, v2, v3, σ => q_Model_timesTo_b0 (q_Model_timesTo_j Q n) Q v1 v2 v3 σ
  | n + 1, 1, v1, v2, v3, σ => q_Model_timesTo_b1 (q_Model_timesTo_j Q n) Q v1 v2 v3 σ
  | n + 1, 2, v1, v2, v3, σ => q_Model_timesTo_b2 (q_Model_timesTo_j Q n) Q v1 v2 v3 σ
  | n + 1, 3, v1, v2, v3, σ => q_Model_timesTo_b3 (q_Model_timesTo_j Q n) Q v1 v2 v3 σ
  | _ + 1, _ + 4, _, _, _, _ => False
def q_Model_timesTo (v1 : Int32) (σ : Sg) (Q : (Sg → Prop)) : Prop := q_Model_timesTo_j Q 4000 0 v1 0 0 σ
def lc_Model_timesTo (ad : Nat → Nat) (b : Nat) (v1 v2 v3 : Int32) : List (Nat × Value) := match b with
  | 0 => [(0, .ref (ad 0)), (1, .int v1)]
  | 1 => [(0, .ref (ad 0)), (1, .int v1), (2, .int v2)]
  | 2 => [(0, .ref (ad 0)), (1, .int v1), (2, .int v2)]
  | 3 => [(0, .ref (ad 0)), (1, .int v1), (2, .int v2), (3, .int v3)]
  | _ => []
def pc_Model_timesTo (b : Nat) : Nat := match b with
  | 0 => 0
  | 1 => 2
  | 2 => 35
  | 3 => 45
  | _ => 0
set_option maxHeartbeats 4000000 in
set_option maxRecDepth 100000 in
theorem t_Model_timesTo (l : Launch) (D : va_G) (cI cZ : ClassId) (ad : Nat → Nat) (inj : Inj ad 21) (v1 : Int32) (σ : Sg) (Q : (Sg → Prop)) (h : q_Model_timesTo v1 σ Q) : Met l y_Model_timesTo (.code y_Model_timesTo prog_9_method_7_code 4 none :: TG) { frames := 0, cells := 0, slots := 0, locals := 0 } (va_Pc [.ref (ad 0), .int v1] (roB D (tysA cI cZ) (W_Model ad cI cZ σ))) (va_Qv Q (fun u t => va_P D classes (W_Model ad cI cZ u) t.heap) (inA ad 21)) 0 0 (inA ad 21) := by
  refine Met.ofW (cc := prog_9_method_7_code) (maxL := 4) (ret := none) (by decide) rfl ?_
  intro p e s m args below meth c s₁ B hml hv
  obtain ⟨rfl, hP, hK⟩ := hv
  have hx := B.exec
  have hb := B.bytes
  have hr := B.returns
  have hts : ∀ w ∈ TG, w.before [.ref (ad 0), .int v1].toArray s = true := fun w hw => atoms_spec (ws := .code y_Model_timesTo prog_9_method_7_code 4 none :: TG) B.pre w (List.mem_cons_of_mem _ hw)
  have hown : s.vm.findClass "CarrierPathsModel" = some m.cls := findClass_of_methodNamed B.named
  have hlocks := B.notSynchronized
  have hS : va_S (inA ad 21) s.heap s.heap [] := va_S.rf
  have hl := lv_entry ([.ref (ad 0), .int v1]) (n := 4) (Nat.le_of_ble_eq_true rfl)
  rw [lg_entry_eq]
  generalize (lg_sl ([.ref (ad 0), .int v1]) ++ List.replicate (4 - (lg_sl ([.ref (ad 0), .int v1])).length) Slot.unset).toArray = ls at hl ⊢
  generalize ([.ref (ad 0), .int v1] : List Value).toArray = args at hts ⊢
  have key : ∀ (n b : Nat) (v1 v2 v3 : Int32) (σ : Sg), q_Model_timesTo_j Q n b v1 v2 v3 σ → ∀ (H : Heap) (locs : List Loc) (ls : Array Slot), va_P D classes (W_Model ad cI cZ σ) H → va_S (inA ad 21) s.heap H locs → lv_has ls 4 (lc_Model_timesTo ad b v1 v2 v3) → W p l e (headSpec (.code y_Model_timesTo prog_9_method_7_code 4 none :: TG) { frames := 0, cells := 0, slots := 0, locals := 0 }).room s m args below meth c H locs 0 0 (MQ below (va_Qv Q (fun u t => va_P D classes (W_Model ad cI cZ u) t.heap) (inA ad 21)) args s 0 0 (inA ad 21)) (F0 m (pc_Model_timesTo b) ls []) := by
    clear h hl hP hS
    intro n
    induction n with
    | zero => intro b _ _ _ _ h; exact False.elim h
    | succ n ih =>
      intro b v1 v2 v3 σ h H locs ls hP hS hl
      match b, h, hl with
      | 0, h, hl =>
        have h : q_Model_timesTo_b0 (q_Model_timesTo_j Q n) Q v1 v2 v3 σ := h
        have hl : lv_has ls 4 [(0, .ref (ad 0)), (1, .int v1)] := hl
        refine W.eq (g2 := F0 m 0 ls []) rfl ?_
        unfold q_Model_timesTo_b0 at h
        refine lv_iconst (v := 0) hx hb d_Model_timesTo_0 (by decide) ?_
        refine lv_istore_n (lv' := [(2, .int 0), (0, .ref (ad 0)), (1, .int v1)]) hx hb d_Model_timesTo_1 rfl hl (by decide) rfl (fun ls hl => ?_)
        exact ih 1 v1 0 0 σ h _ _ _ hP hS (lv_sub hl [1, 2, 0] rfl)
      | 1, h, hl =>
        have h : q_Model_timesTo_b1 (q_Model_timesTo_j Q n) Q v1 v2 v3 σ := h
        have hl : lv_has ls 4 [(0, .ref (ad 0)), (1, .int v1), (2, .int v2)] := hl
        refine W.eq (g2 := F0 m 2 ls []) rfl ?_
        unfold q_Model_timesTo_b1 at h
        refine lv_iload_n hx hb d_Model_timesTo_2 rfl (lv_at hl 2 rfl) ?_
        refine lv_aload_n hx hb d_Model_timesTo_3 rfl (lv_at hl 0 rfl) ?_
        refine va_get (D := D) (ci := 7) (v := .int (σ 0 1)) (C := "CarrierPathsModel") (T := F_Model) (N := 27) hx hb hts in_Model hown hK hP 0 rfl rfl 1 (by decide) (hts _ kw756) (fun _ h9 => h9) rfl d_Model_timesTo_4 ?_
        refine lv_icmp_ge (tgt := 33) hx hb d_Model_timesTo_7 (by decide) (fun hc => ?_) (fun hc => ?_)
        · have h := h.1 hc
          refine lv_iconst (v := 0) hx hb d_Model_timesTo_33 (by decide) ?_
          refine lv_istore_n (lv' := [(2, .int 0), (0, .ref (ad 0)), (1, .int v1)]) hx hb d_Model_timesTo_34 rfl hl (by decide) rfl (fun ls hl => ?_)
          exact ih 2 v1 0 0 σ h _ _ _ hP hS (lv_sub hl [1, 2, 0] rfl)
        · have h := h.2 hc
          refine lv_aload_n hx hb d_Model_timesTo_10 rfl (lv_at hl 0 rfl) ?_
          refine va_get (D := D) (ci := 7) (v := .ref (ad 19)) (C := "CarrierPathsModel") (T := F_Model) (N := 27) hx hb hts in_Model hown hK hP 0 rfl rfl 25 (by decide) (hts _ kw780) (fun _ h9 => h9) rfl d_Model_timesTo_11 ?_
          refine lv_iload_n hx hb d_Model_timesTo_14 rfl (lv_at hl 2 rfl) ?_
          refine lv_iload_n hx hb d_Model_timesTo_15 rfl (lv_at hl 2 rfl) ?_
          refine lv_iload_n hx hb d_Model_timesTo_16 rfl (lv_at hl 1 rfl) ?_
          refine lv_icmp_ne (tgt := 24) hx hb d_Model_timesTo_17 (by decide) (fun hc => ?_) (fun hc => ?_)
          · have h := h.2 hc
            refine lv_ldc (v := 1000000000) hx hb hown (hts _ kw860) d_Model_timesTo_24 ?_
            obtain ⟨hi, h⟩ := h
            refine va_iast hx hb hK hP (D_Model inj) hS 19 0 rfl rfl hi d_Model_timesTo_26 (fun H locs hP _ hS => ?_)
            have hP := up_Model_19 hP
            refine lv_iinc (v := (v2 + 1)) (lv' := [(2, .int (v2 + 1)), (0, .ref (ad 0)), (1, .int v1)]) hx hb d_Model_timesTo_27 hl (k := 2) rfl rfl (by decide) rfl (fun ls hl => ?_)
            refine lv_goto (tgt := 2) hx hb d_Model_timesTo_30 (by decide) ?_
            exact ih 1 v1 (v2 + 1) 0 (sto σ 19 v2.toNatClampNeg 1000000000) h _ _ _ hP hS (lv_sub hl [1, 2, 0] rfl)
          · have h := h.1 hc
            refine lv_iconst (v := 0) hx hb d_Model_timesTo_20 (by decide) ?_
            refine lv_goto (tgt := 26) hx hb d_Model_timesTo_21 (by decide) ?_
            obtain ⟨hi, h⟩ := h
            refine va_iast hx hb hK hP (D_Model inj) hS 19 0 rfl rfl hi d_Model_timesTo_26 (fun H locs hP _ hS => ?_)
            have hP := up_Model_19 hP
            refine lv_iinc (v := (v2 + 1)) (lv' := [(2, .int (v2 + 1)), (0, .ref (ad 0)), (1, .int v1)]) hx hb d_Model_timesTo_27 hl (k := 2) rfl rfl (by decide) rfl (fun ls hl => ?_)
            refine lv_goto (tgt := 2) hx hb d_Model_timesTo_30 (by decide) ?_
            exact ih 1 v1 (v2 + 1) 0 (sto σ 19 v2.toNatClampNeg 0) h _ _ _ hP hS (lv_sub hl [1, 2, 0] rfl)
      | 2, h, hl =>
        have h : q_Model_timesTo_b2 (q_Model_timesTo_j Q n) Q v1 v2 v3 σ := h
        have hl : lv_has ls 4 [(0, .ref (ad 0)), (1, .int v1), (2, .int v2)] := hl
        refine W.eq (g2 := F0 m 35 ls []) rfl ?_
        unfold q_Model_timesTo_b2 at h
        refine lv_iload_n hx hb d_Model_timesTo_35 rfl (lv_at hl 2 rfl) ?_
        refine lv_aload_n hx hb d_Model_timesTo_36 rfl (lv_at hl 0 rfl) ?_
        refine va_get (D := D) (ci := 7) (v := .int (σ 0 1)) (C := "CarrierPathsModel") (T := F_Model) (N := 27) hx hb hts in_Model hown hK hP 0 rfl rfl 1 (by decide) (hts _ kw756) (fun _ h9 => h9) rfl d_Model_timesTo_37 ?_
        refine lv_icmp_ge (tgt := 151) hx hb d_Model_timesTo_40 (by decide) (fun hc => ?_) (fun hc => ?_)
        · have h := h.1 hc
          exact W.vret hx hb hr (fun t ht hW => ⟨⟨σ, rfl, h, hp_back ht hP⟩, hS.F ht⟩) hS.2.2 d_Model_timesTo_151
        · have h := h.2 hc
          refine lv_iconst (v := 0) hx hb d_Model_timesTo_43 (by decide) ?_
          refine lv_istore_n (lv' := [(3, .int 0), (0, .ref (ad 0)), (1, .int v1), (2, .int v2)]) hx hb d_Model_timesTo_44 rfl hl (by decide) rfl (fun ls hl => ?_)
          exact ih 3 v1 v2 0 σ h _ _ _ hP hS (lv_sub hl [1, 2, 3, 0] rfl)
      | 3, h, hl =>
        have h : q_Model_timesTo_b3 (q_Model_timesTo_j Q n) Q v1 v2 v3 σ := h
        have hl : lv_has ls 4 [(0, .ref (ad 0)), (1, .int v1), (2, .int v2), (3, .int v3)] := hl
        refine W.eq (g2 := F0 m 45 ls []) rfl ?_
        unfold q_Model_timesTo_b3 at h
        refine lv_iload_n hx hb d_Model_timesTo_45 rfl (lv_at hl 3 rfl) ?_
        refine lv_aload_n hx hb d_Model_timesTo_46 rfl (lv_at hl 0 rfl) ?_
        refine va_get (D := D) (ci := 7) (v := .int (σ 0 4)) (C := "CarrierPathsModel") (T := F_Model) (N := 27) hx hb hts in_Model hown hK hP 0 rfl rfl 4 (by decide) (hts _ kw759) (fun _ h9 => h9) rfl d_Model_timesTo_47 ?_
        refine lv_icmp_ge (tgt := 145) hx hb d_Model_timesTo_50 (by decide) (fun hc => ?_) (fun hc => ?_)
        · have h := h.1 hc
          refine lv_iinc (v := (v2 + 1)) (lv' := [(2, .int (v2 + 1)), (0, .ref (ad 0)), (1, .int v1), (3, .int v3)]) hx hb d_Model_timesTo_145 hl (k := 2) rfl rfl (by decide) rfl (fun ls hl => ?_)
          refine lv_goto (tgt := 35) hx hb d_Model_timesTo_148 (by decide) ?_
          exact ih 2 v1 (v2 + 1) 0 σ h _ _ _ hP hS (lv_sub hl [1, 2, 0] rfl)
        · have h := h.2 hc
          refine lv_aload_n hx hb d_Model_timesTo_53 rfl (lv_at hl 0 rfl) ?_
          refine va_get (D := D) (ci := 7) (v := .ref (ad 6)) (C := "CarrierPathsModel") (T := F_Model) (N := 27) hx hb hts in_Model hown hK hP 0 rfl rfl 8 (by decide) (hts _ kw763) (fun _ h9 => h9) rfl d_Model_timesTo_54 ?_
          refine lv_iload_n hx hb d_Model_timesTo_57 rfl (lv_at hl 3 rfl) ?_
          obtain ⟨hi, h⟩ := h
          refine va_zald hx hb hK hP 6 1 rfl rfl hi d_Model_timesTo_58 ?_
          refine lv_if_ne (tgt := 139) hx hb d_Model_timesTo_59 (by decide) (fun hc => ?_) (fun hc => ?_)
          · have h := h.2 hc
            refine lv_iinc (v := (v3 + 1)) (lv' := [(3, .int (v3 + 1)), (0, .ref (ad 0)), (1, .int v1), (2, .int v2)]) hx hb d_Model_timesTo_139 hl (k := 3) rfl rfl (by decide) rfl (fun ls hl => ?_)
            refine lv_goto (tgt := 45) hx hb d_Model_timesTo_142 (by decide) ?_
            exact ih 3 v1 v2 (v3 + 1) σ h _ _ _ hP hS (lv_sub hl [1, 2, 3, 0] rfl)
          · have h := h.1 hc
            refine lv_aload_n hx hb d_Model_timesTo_62 rfl (lv_at hl 0 rfl) ?_
            refine va_get (D := D) (ci := 7) (v := .ref (ad 19)) (C := "CarrierPathsModel") (T := F_Model) (N := 27) hx hb hts in_Model hown hK hP 0 rfl rfl 25 (by decide) (hts _ kw780) (fun _ h9 => h9) rfl d_Model_timesTo_63 ?_
            refine lv_aload_n hx hb d_Model_timesTo_66 rfl (lv_at hl 0 rfl) ?_
            refine va_get (D := D) (ci := 7) (v := .ref (ad 4)) (C := "CarrierPathsModel") (T := F_Model) (N := 27) hx hb hts in_Model hown hK hP 0 rfl rfl 6 (by decide) (hts _ kw761) (fun _ h9 => h9) rfl d_Model_timesTo_67 ?_
            refine lv_iload_n hx hb d_Model_timesTo_70 rfl (lv_at hl 3 rfl) ?_
            obtain ⟨hi, h⟩ := h
            refine va_iald hx hb hK hP 4 0 rfl rfl hi d_Model_timesTo_71 ?_
            obtain ⟨hi, h⟩ := h
            refine va_iald hx hb hK hP 19 0 rfl rfl hi d_Model_timesTo_72 ?_
            refine lv_ldc (v := 1000000000) hx hb hown (hts _ kw860) d_Model_timesTo_73 ?_
            refine lv_icmp_ge (tgt := 139) hx hb d_Model_timesTo_75 (by decide) (fun hc => ?_) (fun hc => ?_)
            · have h := h.1 hc
              refine lv_iinc (v := (v3 + 1)) (lv' := [(3, .int (v3 + 1)), (0, .ref (ad 0)), (1, .int v1), (2, .int v2)]) hx hb d_Model_timesTo_139 hl (k := 3) rfl rfl (by decide) rfl (fun ls hl => ?_)
              refine lv_goto (tgt := 45) hx hb d_Model_timesTo_142 (by decide) ?_
              exact ih 3 v1 v2 (v3 + 1) σ h _ _ _ hP hS (lv_sub hl [1, 2, 3, 0] rfl)
            · have h := h.2 hc
              refine lv_aload_n hx hb d_Model_timesTo_78 rfl (lv_at hl 0 rfl) ?_
              refine va_get (D := D) (ci := 7) (v := .ref (ad 19)) (C := "CarrierPathsModel") (T := F_Model) (N := 27) hx hb hts in_Model hown hK hP 0 rfl rfl 25 (by decide) (hts _ kw780) (fun _ h9 => h9) rfl d_Model_timesTo_79 ?_
              refine lv_aload_n hx hb d_Model_timesTo_82 rfl (lv_at hl 0 rfl) ?_
              refine va_get (D := D) (ci := 7) (v := .ref (ad 4)) (C := "CarrierPathsModel") (T := F_Model) (N := 27) hx hb hts in_Model hown hK hP 0 rfl rfl 6 (by decide) (hts _ kw761) (fun _ h9 => h9) rfl d_Model_timesTo_83 ?_
              refine lv_iload_n hx hb d_Model_timesTo_86 rfl (lv_at hl 3 rfl) ?_
              obtain ⟨hi, h⟩ := h
              refine va_iald hx hb hK hP 4 0 rfl rfl hi d_Model_timesTo_87 ?_
              obtain ⟨hi, h⟩ := h
              refine va_iald hx hb hK hP 19 0 rfl rfl hi d_Model_timesTo_88 ?_
              refine lv_aload_n hx hb d_Model_timesTo_89 rfl (lv_at hl 0 rfl) ?_
              refine va_get (D := D) (ci := 7) (v := .ref (ad 5)) (C := "CarrierPathsModel") (T := F_Model) (N := 27) hx hb hts in_Model hown hK hP 0 rfl rfl 7 (by decide) (hts _ kw762) (fun _ h9 => h9) rfl d_Model_timesTo_90 ?_
              refine lv_iload_n hx hb d_Model_timesTo_93 rfl (lv_at hl 3 rfl) ?_
              obtain ⟨hi, h⟩ := h
              refine va_iald hx hb hK hP 5 0 rfl rfl hi d_Model_timesTo_94 ?_
              refine lv_iadd hx hb d_Model_timesTo_95 ?_
              refine lv_aload_n hx hb d_Model_timesTo_96 rfl (lv_at hl 0 rfl) ?_
              refine va_get (D := D) (ci := 7) (v := .ref (ad 19)) (C := "CarrierPathsModel") (T := F_Model) (N := 27) hx hb hts in_Model hown hK hP 0 rfl rfl 25 (by decide) (hts _ kw780) (fun _ h9 => h9) rfl d_Model_timesTo_97 ?_
              refine lv_aload_n hx hb d_Model_timesTo_100 rfl (lv_at hl 0 rfl) ?_
              refine va_get (D := D) (ci := 7) (v := .ref (ad 3)) (C := "CarrierPathsModel") (T := F_Model) (N := 27) hx hb hts in_Model hown hK hP 0 rfl rfl 5 (by decide) (hts _ kw760) (fun _ h9 => h9) rfl d_Model_timesTo_101 ?_
              refine lv_iload_n hx hb d_Model_timesTo_104 rfl (lv_at hl 3 rfl) ?_
              obtain ⟨hi, h⟩ := h
              refine va_iald hx hb hK hP 3 0 rfl rfl hi d_Model_timesTo_105 ?_
              obtain ⟨hi, h⟩ := h
              refine va_iald hx hb hK hP 19 0 rfl rfl hi d_Model_timesTo_106 ?_
              refine lv_icmp_ge (tgt := 139) hx hb d_Model_timesTo_107 (by decide) (fun hc => ?_) (fun hc => ?_)
              · have h := h.1 hc
                refine lv_iinc (v := (v3 + 1)) (lv' := [(3, .int (v3 + 1)), (0, .ref (ad 0)), (1, .int v1), (2, .int v2)]) hx hb d_Model_timesTo_139 hl (k := 3) rfl rfl (by decide) rfl (fun ls hl => ?_)
                refine lv_goto (tgt := 45) hx hb d_Model_timesTo_142 (by decide) ?_
                exact ih 3 v1 v2 (v3 + 1) σ h _ _ _ hP hS (lv_sub hl [1, 2, 3, 0] rfl)
              · have h := h.2 hc
                refine lv_aload_n hx hb d_Model_timesTo_110 rfl (lv_at hl 0 rfl) ?_
                refine va_get (D := D) (ci := 7) (v := .ref (ad 19)) (C := "CarrierPathsModel") (T := F_Model) (N := 27) hx hb hts in_Model hown hK hP 0 rfl rfl 25 (by decide) (hts _ kw780) (fun _ h9 => h9) rfl d_Model_timesTo_111 ?_
                refine lv_aload_n hx hb d_Model_timesTo_114 rfl (lv_at hl 0 rfl) ?_
                refine va_get (D := D) (ci := 7) (v := .ref (ad 3)) (C := "CarrierPathsModel") (T := F_Model) (N := 27) hx hb hts in_Model hown hK hP 0 rfl rfl 5 (by decide) (hts _ kw760) (fun _ h9 => h9) rfl d_Model_timesTo_115 ?_
                refine lv_iload_n hx hb d_Model_timesTo_118 rfl (lv_at hl 3 rfl) ?_
                obtain ⟨hi, h⟩ := h
                refine va_iald hx hb hK hP 3 0 rfl rfl hi d_Model_timesTo_119 ?_
                refine lv_aload_n hx hb d_Model_timesTo_120 rfl (lv_at hl 0 rfl) ?_
                refine va_get (D := D) (ci := 7) (v := .ref (ad 19)) (C := "CarrierPathsModel") (T := F_Model) (N := 27) hx hb hts in_Model hown hK hP 0 rfl rfl 25 (by decide) (hts _ kw780) (fun _ h9 => h9) rfl d_Model_timesTo_121 ?_
                refine lv_aload_n hx hb d_Model_timesTo_124 rfl (lv_at hl 0 rfl) ?_
                refine va_get (D := D) (ci := 7) (v := .ref (ad 4)) (C := "CarrierPathsModel") (T := F_Model) (N := 27) hx hb hts in_Model hown hK hP 0 rfl rfl 6 (by decide) (hts _ kw761) (fun _ h9 => h9) rfl d_Model_timesTo_125 ?_
                refine lv_iload_n hx hb d_Model_timesTo_128 rfl (lv_at hl 3 rfl) ?_
                obtain ⟨hi, h⟩ := h
                refine va_iald hx hb hK hP 4 0 rfl rfl hi d_Model_timesTo_129 ?_
                obtain ⟨hi, h⟩ := h
                refine va_iald hx hb hK hP 19 0 rfl rfl hi d_Model_timesTo_130 ?_
                refine lv_aload_n hx hb d_Model_timesTo_131 rfl (lv_at hl 0 rfl) ?_
                refine va_get (D := D) (ci := 7) (v := .ref (ad 5)) (C := "CarrierPathsModel") (T := F_Model) (N := 27) hx hb hts in_Model hown hK hP 0 rfl rfl 7 (by decide) (hts _ kw762) (fun _ h9 => h9) rfl d_Model_timesTo_132 ?_
                refine lv_iload_n hx hb d_Model_timesTo_135 rfl (lv_at hl 3 rfl) ?_
                obtain ⟨hi, h⟩ := h
                refine va_iald hx hb hK hP 5 0 rfl rfl hi d_Model_timesTo_136 ?_
                refine lv_iadd hx hb d_Model_timesTo_137 ?_
                obtain ⟨hi, h⟩ := h
                refine va_iast hx hb hK hP (D_Model inj) hS 19 0 rfl rfl hi d_Model_timesTo_138 (fun H locs hP _ hS => ?_)
                have hP := up_Model_19 hP
                refine lv_iinc (v := (v3 + 1)) (lv' := [(3, .int (v3 + 1)), (0, .ref (ad 0)), (1, .int v1), (2, .int v2)]) hx hb d_Model_timesTo_139 hl (k := 3) rfl rfl (by decide) rfl (fun ls hl => ?_)
                refine lv_goto (tgt := 45) hx hb d_Model_timesTo_142 (by decide) ?_
                exact ih 3 v1 v2 (v3 + 1) (sto σ 19 (σ 3 v3.toNatClampNeg).toNatClampNeg ((σ 19 (σ 4 v3.toNatClampNeg).toNatClampNeg) + (σ 5 v3.toNatClampNeg))) h _ _ _ hP hS (lv_sub hl [1, 2, 3, 0] rfl)
      | _ + 4, h, _ => exact False.elim h
  exact key 4000 0 v1 0 0 σ h s.heap [] ls hP hS hl
def q_Model_pieceFrom_b0 (J : Nat → Int32 → Int32 → Int32 → Int32 → Prop) (Q : (Int32 → Prop)) (v1 v2 v3 v4 : Int32) (σ : Sg) : Prop :=
  J 1 v1 (-1) ((σ 0 4) - 1) 0
def q_Model_pieceFrom_b1 (J : Nat → Int32 → Int32 → Int32 → Int32 → Prop) (Q : (Int32 → Prop)) (v1 v2 v3 v4 : Int32) (σ : Sg) : Prop :=
  ((v3 < 0 → Q v2) ∧ (¬ v3 < 0 → (vp_in v3 30 ∧ (((σ 6 v3.toNatClampNeg) = 0 → (vp_in v3 30 ∧ (((σ 3 v3.toNatClampNeg) = v1 → (vp_in v3 30 ∧ (vp_in (σ 4 v3.toNatClampNeg) 10 ∧ ((1000000000 ≤ (σ 19 (σ 4 v3.toNatClampNeg).toNatClampNeg) → J 2 v1 v2 v3 0) ∧ (¬ 1000000000 ≤ (σ 19 (σ 4 v3.toNatClampNeg).toNatClampNeg) → (vp_in v3 30 ∧ (vp_in (σ 4 v3.toNatClampNeg) 10 ∧ (vp_in v3 30 ∧ (vp_in v1 10 ∧ ((((σ 19 (σ 4 v3.toNatClampNeg).toNatClampNeg) + (σ 5 v3.toNatClampNeg)) = (σ 19 v1.toNatClampNeg) → J 1 v1 v3 (v3 + (-1)) 0) ∧ (¬ ((σ 19 (σ 4 v3.toNatClampNeg).toNatClampNeg) + (σ 5 v3.toNatClampNeg)) = (σ 19 v1.toNatClampNeg) → J 2 v1 v2 v3 0))))))))))) ∧ (¬ (σ 3 v3.toNatClampNeg) = v1 → J 2 v1 v2 v3 0)))) ∧ (¬ (σ 6 v3.toNatClampNeg) = 0 → J 2 v1 v2 v3 0)))))
def q_Model_pieceFrom_b2 (J : Nat → Int32 → Int32 → Int32 → Int32 → Prop) (Q : (Int32 → Prop)) (v1 v2 v3 v4 : Int32) (σ : Sg) : Prop :=
  J 1 v1 v2 (v3 + (-1)) 0
def q_Model_pieceFrom_j (Q : (Int32 → Prop)) (σ : Sg) : Nat → Nat → Int32 → Int32 → Int32 → Int32 → Prop
  | 0, _, _, _, _, _ => False
  | n + 1, 0, v1, v2, v3, v4 => q_Model_pieceFrom_b0 (q_Model_pieceFrom_j Q σ n) Q v1 v2 v3 v4 σ
  | n + 1, 1, v1, v2, v3, v4 => q_Model_pieceFrom_b1 (q_Model_pieceFrom_j Q σ n) Q v1 v2 v3 v4 σ
  | n + 1, 2, v1, v2, v3, v4 => q_Model_pieceFrom_b2 (q_Model_pieceFrom_j Q σ n) Q v1 v2 v3 v4 σ
  | _ + 1, _ + 3, _, _, _, _ => False
def q_Model_pieceFrom (v1 : Int32) (σ : Sg) (Q : (Int32 → Prop)) : Prop := q_Model_pieceFrom_j Q σ 4000 0 v1 0 0 0
def lc_Model_pieceFrom (ad : Nat → Nat) (b : Nat) (v1 v2 v3 v4 : Int32) : List (Nat × Value) := match b with
  | 0 => [(0, .ref (ad 0)), (1, .int v1)]
  | 1 => [(0, .ref (ad 0)), (1, .int v1), (2, .int v2), (3, .int v3)]
  | 2 => [(0, .ref (ad 0)), (1, .int v1), (2, .int v2), (3, .int v3)]
  | _ => []
def pc_Model_pieceFrom (b : Nat) : Nat := match b with
  | 0 => 0
  | 1 => 9
  | 2 => 79
  | _ => 0
set_option maxHeartbeats 4000000 in
set_option maxRecDepth 100000 in
theorem t_Model_pieceFrom (l : Launch) (D : va_G) (cI cZ : ClassId) (ad : Nat → Nat) (v1 : Int32) (σ : Sg) (Q : (Int32 → Prop)) (h : q_Model_pieceFrom v1 σ Q) : Met l y_Model_pieceFrom (.code y_Model_pieceFrom prog_9_method_8_code 5 (some .int) :: TG) { frames := 0, cells := 0, slots := 0, locals := 0 } (va_Pc [.ref (ad 0), .int v1] (roB D (tysA cI cZ) (W_Model ad cI cZ σ))) (vp_Si Q) 0 0 (fun _ => False) := by
  refine Met.ofW (cc := prog_9_method_8_code) (maxL := 5) (ret := (some .int)) (by decide) rfl ?_
  intro p e s m args below meth c s₁ B hml hv
  obtain ⟨rfl, hP, hK⟩ := hv
  have hx := B.exec
  have hb := B.bytes
  have hr := B.returns
  have hts : ∀ w ∈ TG, w.before [.ref (ad 0), .int v1].toArray s = true := fun w hw => atoms_spec (ws := .code y_Model_pieceFrom prog_9_method_8_code 5 (some .int) :: TG) B.pre w (List.mem_cons_of_mem _ hw)
  have hown : s.vm.findClass "CarrierPathsModel" = some m.cls := findClass_of_methodNamed B.named
  have hlocks := B.notSynchronized
  have hl := lv_entry ([.ref (ad 0), .int v1]) (n := 5) (Nat.le_of_ble_eq_true rfl)
  rw [lg_entry_eq]
  generalize (lg_sl ([.ref (ad 0), .int v1]) ++ List.replicate (5 - (lg_sl ([.ref (ad 0), .int v1])).length) Slot.unset).toArray = ls at hl ⊢
  generalize ([.ref (ad 0), .int v1] : List Value).toArray = args at hts ⊢
  have key : ∀ (n b : Nat) (v1 v2 v3 v4 : Int32), q_Model_pieceFrom_j Q σ n b v1 v2 v3 v4 → ∀ ls : Array Slot, lv_has ls 5 (lc_Model_pieceFrom ad b v1 v2 v3 v4) → W p l e (headSpec (.code y_Model_pieceFrom prog_9_method_8_code 5 (some .int) :: TG) { frames := 0, cells := 0, slots := 0, locals := 0 }).room s m args below meth c s.heap [] 0 0 (MQ below (vp_Si Q) args s 0 0 (fun _ => False)) (F0 m (pc_Model_pieceFrom b) ls []) := by
    clear h hl
    intro n
    induction n with
    | zero => intro b _ _ _ _ h; exact False.elim h
    | succ n ih =>
      intro b v1 v2 v3 v4 h ls hl
      match b, h, hl with
      | 0, h, hl =>
        have h : q_Model_pieceFrom_b0 (q_Model_pieceFrom_j Q σ n) Q v1 v2 v3 v4 σ := h
        have hl : lv_has ls 5 [(0, .ref (ad 0)), (1, .int v1)] := hl
        refine W.eq (g2 := F0 m 0 ls []) rfl ?_
        unfold q_Model_pieceFrom_b0 at h
        refine lv_iconst (v := (-1)) hx hb d_Model_pieceFrom_0 (by decide) ?_
        refine lv_istore_n (lv' := [(2, .int (-1)), (0, .ref (ad 0)), (1, .int v1)]) hx hb d_Model_pieceFrom_1 rfl hl (by decide) rfl (fun ls hl => ?_)
        refine lv_aload_n hx hb d_Model_pieceFrom_2 rfl (lv_at hl 1 rfl) ?_
        refine va_get (D := D) (ci := 7) (v := .int (σ 0 4)) (C := "CarrierPathsModel") (T := F_Model) (N := 27) hx hb hts in_Model hown hK hP 0 rfl rfl 4 (by decide) (hts _ kw759) (fun _ h9 => h9) rfl d_Model_pieceFrom_3 ?_
        refine lv_iconst (v := 1) hx hb d_Model_pieceFrom_6 (by decide) ?_
        refine lv_isub hx hb d_Model_pieceFrom_7 ?_
        refine lv_istore_n (lv' := [(3, .int ((σ 0 4) - 1)), (2, .int (-1)), (0, .ref (ad 0)), (1, .int v1)]) hx hb d_Model_pieceFrom_8 rfl hl (by decide) rfl (fun ls hl => ?_)
        exact ih 1 v1 (-1) ((σ 0 4) - 1) 0 h _ (lv_sub hl [2, 3, 1, 0] rfl)
      | 1, h, hl =>
        have h : q_Model_pieceFrom_b1 (q_Model_pieceFrom_j Q σ n) Q v1 v2 v3 v4 σ := h
        have hl : lv_has ls 5 [(0, .ref (ad 0)), (1, .int v1), (2, .int v2), (3, .int v3)] := hl
        refine W.eq (g2 := F0 m 9 ls []) rfl ?_
        unfold q_Model_pieceFrom_b1 at h
        refine lv_iload_n hx hb d_Model_pieceFrom_9 rfl (lv_at hl 3 rfl) ?_
        refine lv_if_lt (tgt := 99) hx hb d_Model_pieceFrom_10 (by decide) (fun hc => ?_) (fun hc => ?_)
        · have h := h.1 hc
          refine lv_iload_n hx hb d_Model_pieceFrom_99 rfl (lv_at hl 2 rfl) ?_
          exact W.iret (v := v2) hx hb hr (fun t ht hW => ⟨v2, rfl, h, ht⟩) (fun q hq => by cases hq) d_Model_pieceFrom_100
        · have h := h.2 hc
          refine lv_aload_n hx hb d_Model_pieceFrom_13 rfl (lv_at hl 0 rfl) ?_
          refine va_get (D := D) (ci := 7) (v := .ref (ad 6)) (C := "CarrierPathsModel") (T := F_Model) (N := 27) hx hb hts in_Model hown hK hP 0 rfl rfl 8 (by decide) (hts _ kw763) (fun _ h9 => h9) rfl d_Model_pieceFrom_14 ?_
          refine lv_iload_n hx hb d_Model_pieceFrom_17 rfl (lv_at hl 3 rfl) ?_
          obtain ⟨hi, h⟩ := h
          refine va_zald hx hb hK hP 6 1 rfl rfl hi d_Model_pieceFrom_18 ?_
          refine lv_if_ne (tgt := 79) hx hb d_Model_pieceFrom_19 (by decide) (fun hc => ?_) (fun hc => ?_)
          · have h := h.2 hc
            exact ih 2 v1 v2 v3 0 h _ (lv_sub hl [0, 1, 2, 3] rfl)
          · have h := h.1 hc
            refine lv_aload_n hx hb d_Model_pieceFrom_22 rfl (lv_at hl 0 rfl) ?_
            refine va_get (D := D) (ci := 7) (v := .ref (ad 3)) (C := "CarrierPathsModel") (T := F_Model) (N := 27) hx hb hts in_Model hown hK hP 0 rfl rfl 5 (by decide) (hts _ kw760) (fun _ h9 => h9) rfl d_Model_pieceFrom_23 ?_
            refine lv_iload_n hx hb d_Model_pieceFrom_26 rfl (lv_at hl 3 rfl) ?_
            obtain ⟨hi, h⟩ := h
            refine va_iald hx hb hK hP 3 0 rfl rfl hi d_Model_pieceFrom_27 ?_
            refine lv_iload_n hx hb d_Model_pieceFrom_28 rfl (lv_at hl 1 rfl) ?_
            refine lv_icmp_ne (tgt := 79) hx hb d_Model_pieceFrom_29 (by decide) (fun hc => ?_) (fun hc => ?_)
            · have h := h.2 hc
              exact ih 2 v1 v2 v3 0 h _ (lv_sub hl [0, 1, 2, 3] rfl)
            · have h := h.1 hc
              refine lv_aload_n hx hb d_Model_pieceFrom_32 rfl (lv_at hl 0 rfl) ?_
              refine va_get (D := D) (ci := 7) (v := .ref (ad 19)) (C := "CarrierPathsModel") (T := F_Model) (N := 27) hx hb hts in_Model hown hK hP 0 rfl rfl 25 (by decide) (hts _ kw780) (fun _ h9 => h9) rfl d_Model_pieceFrom_33 ?_
              refine lv_aload_n hx hb d_Model_pieceFrom_36 rfl (lv_at hl 0 rfl) ?_
              refine va_get (D := D) (ci := 7) (v := .ref (ad 4)) (C := "CarrierPathsModel") (T := F_Model) (N := 27) hx hb hts in_Model hown hK hP 0 rfl rfl 6 (by decide) (hts _ kw761) (fun _ h9 => h9) rfl d_Model_pieceFrom_37 ?_
              refine lv_iload_n hx hb d_Model_pieceFrom_40 rfl (lv_at hl 3 rfl) ?_
              obtain ⟨hi, h⟩ := h
              refine va_iald hx hb hK hP 4 0 rfl rfl hi d_Model_pieceFrom_41 ?_
              obtain ⟨hi, h⟩ := h
              refine va_iald hx hb hK hP 19 0 rfl rfl hi d_Model_pieceFrom_42 ?_
              refine lv_ldc (v := 1000000000) hx hb hown (hts _ kw860) d_Model_pieceFrom_43 ?_
              refine lv_icmp_ge (tgt := 79) hx hb d_Model_pieceFrom_45 (by decide) (fun hc => ?_) (fun hc => ?_)
              · have h := h.1 hc
                exact ih 2 v1 v2 v3 0 h _ (lv_sub hl [0, 1, 2, 3] rfl)
              · have h := h.2 hc
                refine lv_aload_n hx hb d_Model_pieceFrom_48 rfl (lv_at hl 0 rfl) ?_
                refine va_get (D := D) (ci := 7) (v := .ref (ad 19)) (C := "CarrierPathsModel") (T := F_Model) (N := 27) hx hb hts in_Model hown hK hP 0 rfl rfl 25 (by decide) (hts _ kw780) (fun _ h9 => h9) rfl d_Model_pieceFrom_49 ?_
                refine lv_aload_n hx hb d_Model_pieceFrom_52 rfl (lv_at hl 0 rfl) ?_
                refine va_get (D := D) (ci := 7) (v := .ref (ad 4)) (C := "CarrierPathsModel") (T := F_Model) (N := 27) hx hb hts in_Model hown hK hP 0 rfl rfl 6 (by decide) (hts _ kw761) (fun _ h9 => h9) rfl d_Model_pieceFrom_53 ?_
                refine lv_iload_n hx hb d_Model_pieceFrom_56 rfl (lv_at hl 3 rfl) ?_
                obtain ⟨hi, h⟩ := h
                refine va_iald hx hb hK hP 4 0 rfl rfl hi d_Model_pieceFrom_57 ?_
                obtain ⟨hi, h⟩ := h
                refine va_iald hx hb hK hP 19 0 rfl rfl hi d_Model_pieceFrom_58 ?_
                refine lv_aload_n hx hb d_Model_pieceFrom_59 rfl (lv_at hl 0 rfl) ?_
                refine va_get (D := D) (ci := 7) (v := .ref (ad 5)) (C := "CarrierPathsModel") (T := F_Model) (N := 27) hx hb hts in_Model hown hK hP 0 rfl rfl 7 (by decide) (hts _ kw762) (fun _ h9 => h9) rfl d_Model_pieceFrom_60 ?_
                refine lv_iload_n hx hb d_Model_pieceFrom_63 rfl (lv_at hl 3 rfl) ?_
                obtain ⟨hi, h⟩ := h
                refine va_iald hx hb hK hP 5 0 rfl rfl hi d_Model_pieceFrom_64 ?_
                refine lv_iadd hx hb d_Model_pieceFrom_65 ?_
                refine lv_aload_n hx hb d_Model_pieceFrom_66 rfl (lv_at hl 0 rfl) ?_
                refine va_get (D := D) (ci := 7) (v := .ref (ad 19)) (C := "CarrierPathsModel") (T := F_Model) (N := 27) hx hb hts in_Model hown hK hP 0 rfl rfl 25 (by decide) (hts _ kw780) (fun _ h9 => h9) rfl d_Model_pieceFrom_67 ?_
                refine lv_iload_n hx hb d_Model_pieceFrom_70 rfl (lv_at hl 1 rfl) ?_
                obtain ⟨hi, h⟩ := h
                refine va_iald hx hb hK hP 19 0 rfl rfl hi d_Model_pieceFrom_71 ?_
                refine lv_icmp_ne (tgt := 79) hx hb d_Model_pieceFrom_72 (by decide) (fun hc => ?_) (fun hc => ?_)
                · have h := h.2 hc
                  exact ih 2 v1 v2 v3 0 h _ (lv_sub hl [0, 1, 2, 3] rfl)
                · have h := h.1 hc
                  refine lv_iconst (v := 1) hx hb d_Model_pieceFrom_75 (by decide) ?_
                  refine lv_goto (tgt := 80) hx hb d_Model_pieceFrom_76 (by decide) ?_
                  refine lv_istore (lv' := [(4, .int 1), (0, .ref (ad 0)), (1, .int v1), (2, .int v2), (3, .int v3)]) hx hb d_Model_pieceFrom_80 hl (by decide) rfl (fun ls hl => ?_)
                  refine lv_iload hx hb d_Model_pieceFrom_82 (lv_at hl 0 rfl) ?_
                  refine lv_if_eq (tgt := 91) hx hb d_Model_pieceFrom_84 (by decide) (fun hc => absurd hc (by decide)) (fun _ => ?_)
                  refine lv_iload_n hx hb d_Model_pieceFrom_87 rfl (lv_at hl 4 rfl) ?_
                  refine lv_goto (tgt := 92) hx hb d_Model_pieceFrom_88 (by decide) ?_
                  refine lv_istore_n (lv' := [(2, .int v3), (4, .int 1), (0, .ref (ad 0)), (1, .int v1), (3, .int v3)]) hx hb d_Model_pieceFrom_92 rfl hl (by decide) rfl (fun ls hl => ?_)
                  refine lv_iinc (v := (v3 + (-1))) (lv' := [(3, .int (v3 + (-1))), (2, .int v3), (4, .int 1), (0, .ref (ad 0)), (1, .int v1)]) hx hb d_Model_pieceFrom_93 hl (k := 4) rfl rfl (by decide) rfl (fun ls hl => ?_)
                  refine lv_goto (tgt := 9) hx hb d_Model_pieceFrom_96 (by decide) ?_
                  exact ih 1 v1 v3 (v3 + (-1)) 0 h _ (lv_sub hl [3, 4, 1, 0] rfl)
      | 2, h, hl =>
        have h : q_Model_pieceFrom_b2 (q_Model_pieceFrom_j Q σ n) Q v1 v2 v3 v4 σ := h
        have hl : lv_has ls 5 [(0, .ref (ad 0)), (1, .int v1), (2, .int v2), (3, .int v3)] := hl
        refine W.eq (g2 := F0 m 79 ls []) rfl ?_
        unfold q_Model_pieceFrom_b2 at h
        refine lv_iconst (v := 0) hx hb d_Model_pieceFrom_79 (by decide) ?_
        refine lv_istore (lv' := [(4, .int 0), (0, .ref (ad 0)), (1, .int v1), (2, .int v2), (3, .int v3)]) hx hb d_Model_pieceFrom_80 hl (by decide) rfl (fun ls hl => ?_)
        refine lv_iload hx hb d_Model_pieceFrom_82 (lv_at hl 0 rfl) ?_
        refine lv_if_eq (tgt := 91) hx hb d_Model_pieceFrom_84 (by decide) (fun _ => ?_) (fun hc => absurd hc (by decide))
        refine lv_iload_n hx hb d_Model_pieceFrom_91 rfl (lv_at hl 3 rfl) ?_
        refine lv_istore_n (lv' := [(2, .int v2), (4, .int 0), (0, .ref (ad 0)), (1, .int v1), (3, .int v3)]) hx hb d_Model_pieceFrom_92 rfl hl (by decide) rfl (fun ls hl => ?_)
        refine lv_iinc (v := (v3 + (-1))) (lv' := [(3, .int (v3 + (-1))), (2, .int v2), (4, .int 0), (0, .ref (ad 0)), (1, .int v1)]) hx hb d_Model_pieceFrom_93 hl (k := 4) rfl rfl (by decide) rfl (fun ls hl => ?_)
        refine lv_goto (tgt := 9) hx hb d_Model_pieceFrom_96 (by decide) ?_
        exact ih 1 v1 v2 (v3 + (-1)) 0 h _ (lv_sub hl [3, 4, 1, 0] rfl)
      | _ + 3, h, _ => exact False.elim h
  exact key 4000 0 v1 0 0 0 h ls hl
def q_Model_timeTo (v1 v2 : Int32) (σ : Sg) (Q : (Int32 → Sg → Prop)) : Prop :=
  (q_Model_timesTo v2 σ (fun u1 => (vp_in v1 10 ∧ Q (u1 19 v1.toNatClampNeg) u1)))
set_option maxHeartbeats 4000000 in
set_option maxRecDepth 100000 in
theorem t_Model_timeTo (l : Launch) (D : va_G) (cI cZ : ClassId) (ad : Nat → Nat) (inj : Inj ad 21) (v1 v2 : Int32) (σ : Sg) (Q : (Int32 → Sg → Prop)) (h : q_Model_timeTo v1 v2 σ Q) : Met l y_Model_timeTo (.code y_Model_timeTo prog_9_method_9_code 3 (some .int) :: TG) { frames := 1, cells := 0, slots := 0, locals := 23 } (va_Pc [.ref (ad 0), .int v1, .int v2] (roB D (tysA cI cZ) (W_Model ad cI cZ σ))) (va_Qi Q (fun u t => va_P D classes (W_Model ad cI cZ u) t.heap) (inA ad 21)) 0 0 (inA ad 21) := by
  refine Met.ofW (cc := prog_9_method_9_code) (maxL := 3) (ret := (some .int)) (by decide) rfl ?_
  intro p e s m args below meth c s₁ B hml hv
  obtain ⟨rfl, hP, hK⟩ := hv
  have hx := B.exec
  have hb := B.bytes
  have hr := B.returns
  have hts : ∀ w ∈ TG, w.before [.ref (ad 0), .int v1, .int v2].toArray s = true := fun w hw => atoms_spec (ws := .code y_Model_timeTo prog_9_method_9_code 3 (some .int) :: TG) B.pre w (List.mem_cons_of_mem _ hw)
  have hown : s.vm.findClass "CarrierPathsModel" = some m.cls := findClass_of_methodNamed B.named
  have hlocks := B.notSynchronized
  have hS : va_S (inA ad 21) s.heap s.heap [] := va_S.rf
  have hl := lv_entry ([.ref (ad 0), .int v1, .int v2]) (n := 3) (Nat.le_of_ble_eq_true rfl)
  rw [lg_entry_eq]
  generalize (lg_sl ([.ref (ad 0), .int v1, .int v2]) ++ List.replicate (3 - (lg_sl ([.ref (ad 0), .int v1, .int v2])).length) Slot.unset).toArray = ls at hl ⊢
  have hl : lv_has ls 3 [(0, .ref (ad 0)), (1, .int v1), (2, .int v2)] := hl
  unfold q_Model_timeTo at h
  refine lv_aload_n hx hb d_Model_timeTo_0 rfl (lv_at hl 0 rfl) ?_
  refine lv_iload_n hx hb d_Model_timeTo_1 rfl (lv_at hl 2 rfl) ?_
  refine va_callv (va_runV (As := [.int v2]) (rest := []) ⟨hx, hb, hml, hown, hts⟩ (t_Model_timesTo l D cI cZ ad inj v2 σ _ h) (cwV 1 hts (g_of kw856 kw858 kp24 kw9 kw859) rfl rfl rfl (by decide +kernel) ⟨Nat.le_of_ble_eq_true rfl, Nat.le_of_ble_eq_true rfl⟩) (ro_pre hK hP (va_recv hK hP (ci := 7) (q0 := 0) rfl rfl)) rfl rfl hl.1 rfl (lv_room (Nat.le_of_ble_eq_true rfl)) d_Model_timeTo_2 ⟨Nat.le_of_ble_eq_true rfl, Nat.le_of_ble_eq_true rfl⟩) hS (fun _ _ h => h) (fun _ h => h) (fun u1 t H1 locs ht _ h hP1 _ hk1 hS => ?_)
  have hP1 : va_P D classes (W_Model ad cI cZ u1) H1 := hp_fwd ht hP1
  clear hk1 ht
  generalize H1 = H at hP1 hS ⊢
  have hP := hP1
  refine lv_aload_n hx hb d_Model_timeTo_5 rfl (lv_at hl 0 rfl) ?_
  refine va_get (D := D) (ci := 7) (v := .ref (ad 19)) (C := "CarrierPathsModel") (T := F_Model) (N := 27) hx hb hts in_Model hown hK hP 0 rfl rfl 25 (by decide) (hts _ kw780) (fun _ h9 => h9) rfl d_Model_timeTo_6 ?_
  refine lv_iload_n hx hb d_Model_timeTo_9 rfl (lv_at hl 1 rfl) ?_
  obtain ⟨hi, h⟩ := h
  refine va_iald hx hb hK hP 19 0 rfl rfl hi d_Model_timeTo_10 ?_
  exact W.iret (v := (u1 19 v1.toNatClampNeg)) hx hb hr (fun t ht hW => ⟨⟨(u1 19 v1.toNatClampNeg), u1, rfl, h, hp_back ht hP⟩, hS.F ht⟩) hS.2.2 d_Model_timeTo_11
def q_Model_way_b0 (J : Nat → Int32 → Int32 → Int32 → Int32 → Int32 → Sg → Prop) (Q : (Int32 → Sg → Prop)) (v1 v2 v3 v4 v5 : Int32) (σ : Sg) : Prop :=
  (q_Model_isPoint v1 σ (fun r1 => ((r1 = 0 → J 1 v1 v2 v3 0 0 σ) ∧ (¬ r1 = 0 → (q_Model_isPoint v2 σ (fun r2 => ((r2 = 0 → J 1 v1 v2 v3 0 0 σ) ∧ (¬ r2 = 0 → (q_Model_in v3 0 2 (fun r3 => ((r3 = 0 → J 1 v1 v2 v3 0 0 σ) ∧ (¬ r3 = 0 → (q_Model_timesTo v2 (sto σ 0 0 0) (fun u4 => (vp_in v1 10 ∧ (((u4 19 v1.toNatClampNeg) = 1000000000 → Q (-1) u4) ∧ (¬ (u4 19 v1.toNatClampNeg) = 1000000000 → ((2 ≤ v3 → J 2 v1 v2 v3 0 v1 u4) ∧ (¬ 2 ≤ v3 → ((v3 = 0 → (vp_in v1 10 ∧ Q (u4 19 v1.toNatClampNeg) u4)) ∧ (¬ v3 = 0 → (q_Model_pieceFrom v1 u4 (fun r5 => Q r5 u4)))))))))))))))))))))))
def q_Model_way_b1 (J : Nat → Int32 → Int32 → Int32 → Int32 → Int32 → Sg → Prop) (Q : (Int32 → Sg → Prop)) (v1 v2 v3 v4 v5 : Int32) (σ : Sg) : Prop :=
  (q_Model_fails 1 σ (fun r7 u6 => Q r7 u6))
def q_Model_way_b2 (J : Nat → Int32 → Int32 → Int32 → Int32 → Int32 → Sg → Prop) (Q : (Int32 → Sg → Prop)) (v1 v2 v3 v4 v5 : Int32) (σ : Sg) : Prop :=
  ((v5 = v2 → Q v4 σ) ∧ (¬ v5 = v2 → (q_Model_pieceFrom v5 σ (fun r8 => (vp_in r8 30 ∧ J 2 v1 v2 v3 (v4 + 1) (σ 4 r8.toNatClampNeg) σ)))))
def q_Model_way_j (Q : (Int32 → Sg → Prop)) : Nat → Nat → Int32 → Int32 → Int32 → Int32 → Int32 → Sg → Prop
  | 0, _, _, _, _, _, _, _ => False
  | n + 1, 0, v1, v2, v3, v4, v5, σ => q_Model_way_b0 (q_Model_way_j Q n) Q v1 v2 v3 v4 v5 σ
  | n + 1, 1, v1, v2, v3, v4, v5, σ => q_Model_way_b1 (q_Model_way_j Q n) Q v1 v2 v3 v4 v5 σ
  | n + 1, 2, v1, v2, v3, v4, v5, σ => q_Model_way_b2 (q_Model_way_j Q n) Q v1 v2 v3 v4 v5 σ
  | _ + 1, _ + 3, _, _, _, _, _, _ => False
def q_Model_way (v1 v2 v3 : Int32) (σ : Sg) (Q : (Int32 → Sg → Prop)) : Prop := q_Model_way_j Q 4000 0 v1 v2 v3 0 0 σ
def lc_Model_way (ad : Nat → Nat) (b : Nat) (v1 v2 v3 v4 v5 : Int32) : List (Nat × Value) := match b with
  | 0 => [(0, .ref (ad 0)), (1, .int v1), (2, .int v2), (3, .int v3)]
  | 1 => [(0, .ref (ad 0)), (1, .int v1), (2, .int v2), (3, .int v3)]
  | 2 => [(0, .ref (ad 0)), (1, .int v1), (2, .int v2), (3, .int v3), (4, .int v4), (5, .int v5)]
  | _ => []
def pc_Model_way (b : Nat) : Nat := match b with
  | 0 => 0
  | 1 => 25
  | 2 => 84
  | _ => 0
set_option maxHeartbeats 4000000 in
set_option maxRecDepth 100000 in
theorem t_Model_way (l : Launch) (D : va_G) (cI cZ : ClassId) (ad : Nat → Nat) (inj : Inj ad 21) (v1 v2 v3 : Int32) (σ : Sg) (Q : (Int32 → Sg → Prop)) (h : q_Model_way v1 v2 v3 σ Q) : Met l y_Model_way (.code y_Model_way prog_9_method_10_code 6 (some .int) :: TG) { frames := 1, cells := 0, slots := 0, locals := 24 } (va_Pc [.ref (ad 0), .int v1, .int v2, .int v3] (roB D (tysA cI cZ) (W_Model ad cI cZ σ))) (va_Qi Q (fun u t => va_P D classes (W_Model ad cI cZ u) t.heap) (inA ad 21)) 0 0 (inA ad 21) := by
  refine Met.ofW (cc := prog_9_method_10_code) (maxL := 6) (ret := (some .int)) (by decide) rfl ?_
  intro p e s m args below meth c s₁ B hml hv
  obtain ⟨rfl, hP, hK⟩ := hv
  have hx := B.exec
  have hb := B.bytes
  have hr := B.returns
  have hts : ∀ w ∈ TG, w.before [.ref (ad 0), .int v1, .int v2, .int v3].toArray s = true := fun w hw => atoms_spec (ws := .code y_Model_way prog_9_method_10_code 6 (some .int) :: TG) B.pre w (List.mem_cons_of_mem _ hw)
  have hown : s.vm.findClass "CarrierPathsModel" = some m.cls := findClass_of_methodNamed B.named
  have hlocks := B.notSynchronized
  have hS : va_S (inA ad 21) s.heap s.heap [] := va_S.rf
  have hl := lv_entry ([.ref (ad 0), .int v1, .int v2, .int v3]) (n := 6) (Nat.le_of_ble_eq_true rfl)
  rw [lg_entry_eq]
  generalize (lg_sl ([.ref (ad 0), .int v1, .int v2, .int v3]) ++ List.replicate (6 - (lg_sl ([.ref (ad 0), .int v1, .int v2, .int v3])).length) Slot.unset).toArray = ls at hl ⊢
  generalize ([.ref (ad 0), .int v1, .int v2, .int v3] : List Value).toArray = args at hts ⊢
  have key : ∀ (n b : Nat) (v1 v2 v3 v4 v5 : Int32) (σ : Sg), q_Model_way_j Q n b v1 v2 v3 v4 v5 σ → ∀ (H : Heap) (locs : List Loc) (ls : Array Slot), va_P D classes (W_Model ad cI cZ σ) H → va_S (inA ad 21) s.heap H locs → lv_has ls 6 (lc_Model_way ad b v1 v2 v3 v4 v5) → W p l e (headSpec (.code y_Model_way prog_9_method_10_code 6 (some .int) :: TG) { frames := 1, cells := 0, slots := 0, locals := 24 }).room s m args below meth c H locs 0 0 (MQ below (va_Qi Q (fun u t => va_P D classes (W_Model ad cI cZ u) t.heap) (inA ad 21)) args s 0 0 (inA ad 21)) (F0 m (pc_Model_way b) ls []) := by
    clear h hl hP hS
    intro n
    induction n with
    | zero => intro b _ _ _ _ _ _ h; exact False.elim h
    | succ n ih =>
      intro b v1 v2 v3 v4 v5 σ h H locs ls hP hS hl
      match b, h, hl with
      | 0, h, hl =>
        have h : q_Model_way_b0 (q_Model_way_j Q n) Q v1 v2 v3 v4 v5 σ := h
        have hl : lv_has ls 6 [(0, .ref (ad 0)), (1, .int v1), (2, .int v2), (3, .int v3)] := hl
        refine W.eq (g2 := F0 m 0 ls []) rfl ?_
        unfold q_Model_way_b0 at h
        refine lv_aload_n hx hb d_Model_way_0 rfl (lv_at hl 0 rfl) ?_
        refine lv_iload_n hx hb d_Model_way_1 rfl (lv_at hl 1 rfl) ?_
        refine vp_callSi (W.runV (As := [.int v1]) (rest := []) ⟨hx, hb, hml, hown, hts⟩ (t_Model_isPoint l D cI cZ ad v1 σ _ h) (cwV 1 hts (g_of kw845 kw847 kp22 kw9 kw848) rfl rfl rfl (by decide +kernel) ⟨Nat.le_of_ble_eq_true rfl, Nat.le_of_ble_eq_true rfl⟩) (ro_pre hK hP (va_recv hK hP (ci := 7) (q0 := 0) rfl rfl)) rfl rfl hl.1 rfl (lv_room (Nat.le_of_ble_eq_true rfl)) d_Model_way_2 ⟨Nat.le_of_ble_eq_true rfl, Nat.le_of_ble_eq_true rfl⟩) (fun r1 h => ?_)
        refine lv_if_eq (tgt := 25) hx hb d_Model_way_5 (by decide) (fun hc => ?_) (fun hc => ?_)
        · have h := h.1 hc
          exact ih 1 v1 v2 v3 0 0 σ h _ _ _ hP hS (lv_sub hl [0, 1, 2, 3] rfl)
        · have h := h.2 hc
          refine lv_aload_n hx hb d_Model_way_8 rfl (lv_at hl 0 rfl) ?_
          refine lv_iload_n hx hb d_Model_way_9 rfl (lv_at hl 2 rfl) ?_
          refine vp_callSi (W.runV (As := [.int v2]) (rest := []) ⟨hx, hb, hml, hown, hts⟩ (t_Model_isPoint l D cI cZ ad v2 σ _ h) (cwV 1 hts (g_of kw845 kw847 kp22 kw9 kw848) rfl rfl rfl (by decide +kernel) ⟨Nat.le_of_ble_eq_true rfl, Nat.le_of_ble_eq_true rfl⟩) (ro_pre hK hP (va_recv hK hP (ci := 7) (q0 := 0) rfl rfl)) rfl rfl hl.1 rfl (lv_room (Nat.le_of_ble_eq_true rfl)) d_Model_way_10 ⟨Nat.le_of_ble_eq_true rfl, Nat.le_of_ble_eq_true rfl⟩) (fun r2 h => ?_)
          refine lv_if_eq (tgt := 25) hx hb d_Model_way_13 (by decide) (fun hc => ?_) (fun hc => ?_)
          · have h := h.1 hc
            exact ih 1 v1 v2 v3 0 0 σ h _ _ _ hP hS (lv_sub hl [0, 1, 2, 3] rfl)
          · have h := h.2 hc
            refine lv_iload_n hx hb d_Model_way_16 rfl (lv_at hl 3 rfl) ?_
            refine lv_iconst (v := 0) hx hb d_Model_way_17 (by decide) ?_
            refine lv_iconst (v := 2) hx hb d_Model_way_18 (by decide) ?_
            refine vp_callSi (W.runS (As := [.int v3, .int 0, .int 2]) (rest := []) ⟨hx, hb, hml, hown, hts⟩ (t_Model_in l v3 0 2 _ h) (va_cwS 3 hts (gS_of kw849 kw850 kw9 kw851) rfl rfl rfl (by decide +kernel) ⟨Nat.le_of_ble_eq_true rfl, Nat.le_of_ble_eq_true rfl⟩) st_pre rfl rfl hl.1 rfl (lv_room (Nat.le_of_ble_eq_true rfl)) d_Model_way_19 ⟨Nat.le_of_ble_eq_true rfl, Nat.le_of_ble_eq_true rfl⟩) (fun r3 h => ?_)
            refine lv_if_ne (tgt := 31) hx hb d_Model_way_22 (by decide) (fun hc => ?_) (fun hc => ?_)
            · have h := h.2 hc
              refine lv_aload_n hx hb d_Model_way_31 rfl (lv_at hl 0 rfl) ?_
              refine lv_iconst (v := 0) hx hb d_Model_way_32 (by decide) ?_
              refine va_put (D := D) (ci := 7) (v := .int 0) (ty := .int) (C := "CarrierPathsModel") (T := F_Model) (N := 27) hx hb hts in_Model ty_Model ty_Model_ok nm_Model hown hK hP (D_Model inj) hS 0 rfl rfl 0 (by decide) (hts _ kw755) (fun _ h9 => h9) rfl (by decide +kernel) rfl rfl (Nat.le_of_ble_eq_true rfl) d_Model_way_33 (fun H locs hP _ hS => ?_)
              have hP := up_Model_f0 hP
              refine lv_aload_n hx hb d_Model_way_36 rfl (lv_at hl 0 rfl) ?_
              refine lv_iload_n hx hb d_Model_way_37 rfl (lv_at hl 2 rfl) ?_
              refine va_callv (va_runV (As := [.int v2]) (rest := []) ⟨hx, hb, hml, hown, hts⟩ (t_Model_timesTo l D cI cZ ad inj v2 (sto σ 0 0 0) _ h) (cwV 1 hts (g_of kw856 kw858 kp24 kw9 kw859) rfl rfl rfl (by decide +kernel) ⟨Nat.le_of_ble_eq_true rfl, Nat.le_of_ble_eq_true rfl⟩) (ro_pre hK hP (va_recv hK hP (ci := 7) (q0 := 0) rfl rfl)) rfl rfl hl.1 rfl (lv_room (Nat.le_of_ble_eq_true rfl)) d_Model_way_38 ⟨Nat.le_of_ble_eq_true rfl, Nat.le_of_ble_eq_true rfl⟩) hS (fun _ _ h => h) (fun _ h => h) (fun u4 t H1 locs ht _ h hP1 _ hk1 hS => ?_)
              have hP1 : va_P D classes (W_Model ad cI cZ u4) H1 := hp_fwd ht hP1
              clear hk1 ht
              generalize H1 = H at hP1 hS ⊢
              have hP := hP1
              refine lv_aload_n hx hb d_Model_way_41 rfl (lv_at hl 0 rfl) ?_
              refine va_get (D := D) (ci := 7) (v := .ref (ad 19)) (C := "CarrierPathsModel") (T := F_Model) (N := 27) hx hb hts in_Model hown hK hP 0 rfl rfl 25 (by decide) (hts _ kw780) (fun _ h9 => h9) rfl d_Model_way_42 ?_
              refine lv_iload_n hx hb d_Model_way_45 rfl (lv_at hl 1 rfl) ?_
              obtain ⟨hi, h⟩ := h
              refine va_iald hx hb hK hP 19 0 rfl rfl hi d_Model_way_46 ?_
              refine lv_ldc (v := 1000000000) hx hb hown (hts _ kw860) d_Model_way_47 ?_
              refine lv_icmp_ne (tgt := 54) hx hb d_Model_way_49 (by decide) (fun hc => ?_) (fun hc => ?_)
              · have h := h.2 hc
                refine lv_iload_n hx hb d_Model_way_54 rfl (lv_at hl 3 rfl) ?_
                refine lv_iconst (v := 2) hx hb d_Model_way_55 (by decide) ?_
                refine lv_icmp_ge (tgt := 78) hx hb d_Model_way_56 (by decide) (fun hc => ?_) (fun hc => ?_)
                · have h := h.1 hc
                  refine lv_iconst (v := 0) hx hb d_Model_way_78 (by decide) ?_
                  refine lv_istore (lv' := [(4, .int 0), (0, .ref (ad 0)), (1, .int v1), (2, .int v2), (3, .int v3)]) hx hb d_Model_way_79 hl (by decide) rfl (fun ls hl => ?_)
                  refine lv_iload_n hx hb d_Model_way_81 rfl (lv_at hl 2 rfl) ?_
                  refine lv_istore (lv' := [(5, .int v1), (4, .int 0), (0, .ref (ad 0)), (1, .int v1), (2, .int v2), (3, .int v3)]) hx hb d_Model_way_82 hl (by decide) rfl (fun ls hl => ?_)
                  exact ih 2 v1 v2 v3 0 v1 u4 h _ _ _ hP hS (lv_sub hl [2, 3, 4, 5, 1, 0] rfl)
                · have h := h.2 hc
                  refine lv_iload_n hx hb d_Model_way_59 rfl (lv_at hl 3 rfl) ?_
                  refine lv_if_ne (tgt := 72) hx hb d_Model_way_60 (by decide) (fun hc => ?_) (fun hc => ?_)
                  · have h := h.2 hc
                    refine lv_aload_n hx hb d_Model_way_72 rfl (lv_at hl 0 rfl) ?_
                    refine lv_iload_n hx hb d_Model_way_73 rfl (lv_at hl 1 rfl) ?_
                    refine vp_callSi (W.runV (As := [.int v1]) (rest := []) ⟨hx, hb, hml, hown, hts⟩ (t_Model_pieceFrom l D cI cZ ad v1 u4 _ h) (cwV 1 hts (g_of kw861 kw863 kp25 kw9 kw864) rfl rfl rfl (by decide +kernel) ⟨Nat.le_of_ble_eq_true rfl, Nat.le_of_ble_eq_true rfl⟩) (ro_pre hK hP (va_recv hK hP (ci := 7) (q0 := 0) rfl rfl)) rfl rfl hl.1 rfl (lv_room (Nat.le_of_ble_eq_true rfl)) d_Model_way_74 ⟨Nat.le_of_ble_eq_true rfl, Nat.le_of_ble_eq_true rfl⟩) (fun r5 h => ?_)
                    exact W.iret (v := r5) hx hb hr (fun t ht hW => ⟨⟨r5, u4, rfl, h, hp_back ht hP⟩, hS.F ht⟩) hS.2.2 d_Model_way_77
                  · have h := h.1 hc
                    refine lv_aload_n hx hb d_Model_way_63 rfl (lv_at hl 0 rfl) ?_
                    refine va_get (D := D) (ci := 7) (v := .ref (ad 19)) (C := "CarrierPathsModel") (T := F_Model) (N := 27) hx hb hts in_Model hown hK hP 0 rfl rfl 25 (by decide) (hts _ kw780) (fun _ h9 => h9) rfl d_Model_way_64 ?_
                    refine lv_iload_n hx hb d_Model_way_67 rfl (lv_at hl 1 rfl) ?_
                    obtain ⟨hi, h⟩ := h
                    refine va_iald hx hb hK hP 19 0 rfl rfl hi d_Model_way_68 ?_
                    refine lv_goto (tgt := 77) hx hb d_Model_way_69 (by decide) ?_
                    exact W.iret (v := (u4 19 v1.toNatClampNeg)) hx hb hr (fun t ht hW => ⟨⟨(u4 19 v1.toNatClampNeg), u4, rfl, h, hp_back ht hP⟩, hS.F ht⟩) hS.2.2 d_Model_way_77
              · have h := h.1 hc
                refine lv_iconst (v := (-1)) hx hb d_Model_way_52 (by decide) ?_
                exact W.iret (v := (-1)) hx hb hr (fun t ht hW => ⟨⟨(-1), u4, rfl, h, hp_back ht hP⟩, hS.F ht⟩) hS.2.2 d_Model_way_53
            · have h := h.1 hc
              exact ih 1 v1 v2 v3 0 0 σ h _ _ _ hP hS (lv_sub hl [0, 1, 2, 3] rfl)
      | 1, h, hl =>
        have h : q_Model_way_b1 (q_Model_way_j Q n) Q v1 v2 v3 v4 v5 σ := h
        have hl : lv_has ls 6 [(0, .ref (ad 0)), (1, .int v1), (2, .int v2), (3, .int v3)] := hl
        refine W.eq (g2 := F0 m 25 ls []) rfl ?_
        unfold q_Model_way_b1 at h
        refine lv_aload_n hx hb d_Model_way_25 rfl (lv_at hl 0 rfl) ?_
        refine lv_iconst (v := 1) hx hb d_Model_way_26 (by decide) ?_
        refine va_calli (va_runV (As := [.int 1]) (rest := []) ⟨hx, hb, hml, hown, hts⟩ (t_Model_fails l D cI cZ ad inj 1 σ _ h) (cwV 1 hts (g_of kw852 kw854 kp23 kw9 kw855) rfl rfl rfl (by decide +kernel) ⟨Nat.le_of_ble_eq_true rfl, Nat.le_of_ble_eq_true rfl⟩) (ro_pre hK hP (va_recv hK hP (ci := 7) (q0 := 0) rfl rfl)) rfl rfl hl.1 rfl (lv_room (Nat.le_of_ble_eq_true rfl)) d_Model_way_27 ⟨Nat.le_of_ble_eq_true rfl, Nat.le_of_ble_eq_true rfl⟩) hS (fun _ _ h => h) (fun _ h => h) (fun r7 u6 t H1 locs ht _ h hP1 _ hk1 hS => ?_)
        have hP1 : va_P D classes (W_Model ad cI cZ u6) H1 := hp_fwd ht hP1
        clear hk1 ht
        generalize H1 = H at hP1 hS ⊢
        have hP := hP1
        exact W.iret (v := r7) hx hb hr (fun t ht hW => ⟨⟨r7, u6, rfl, h, hp_back ht hP⟩, hS.F ht⟩) hS.2.2 d_Model_way_30
      | 2, h, hl =>
        have h : q_Model_way_b2 (q_Model_way_j Q n) Q v1 v2 v3 v4 v5 σ := h
        have hl : lv_has ls 6 [(0, .ref (ad 0)), (1, .int v1), (2, .int v2), (3, .int v3), (4, .int v4), (5, .int v5)] := hl
        refine W.eq (g2 := F0 m 84 ls []) rfl ?_
        unfold q_Model_way_b2 at h
        refine lv_iload hx hb d_Model_way_84 (lv_at hl 5 rfl) ?_
        refine lv_iload_n hx hb d_Model_way_86 rfl (lv_at hl 2 rfl) ?_
        refine lv_icmp_eq (tgt := 109) hx hb d_Model_way_87 (by decide) (fun hc => ?_) (fun hc => ?_)
        · have h := h.1 hc
          refine lv_iload hx hb d_Model_way_109 (lv_at hl 4 rfl) ?_
          exact W.iret (v := v4) hx hb hr (fun t ht hW => ⟨⟨v4, σ, rfl, h, hp_back ht hP⟩, hS.F ht⟩) hS.2.2 d_Model_way_111
        · have h := h.2 hc
          refine lv_aload_n hx hb d_Model_way_90 rfl (lv_at hl 0 rfl) ?_
          refine va_get (D := D) (ci := 7) (v := .ref (ad 4)) (C := "CarrierPathsModel") (T := F_Model) (N := 27) hx hb hts in_Model hown hK hP 0 rfl rfl 6 (by decide) (hts _ kw761) (fun _ h9 => h9) rfl d_Model_way_91 ?_
          refine lv_aload_n hx hb d_Model_way_94 rfl (lv_at hl 0 rfl) ?_
          refine lv_iload hx hb d_Model_way_95 (lv_at hl 5 rfl) ?_
          refine vp_callSi (W.runV (As := [.int v5]) (rest := [.ref (ad 4)]) ⟨hx, hb, hml, hown, hts⟩ (t_Model_pieceFrom l D cI cZ ad v5 σ _ h) (cwV 1 hts (g_of kw861 kw863 kp25 kw9 kw864) rfl rfl rfl (by decide +kernel) ⟨Nat.le_of_ble_eq_true rfl, Nat.le_of_ble_eq_true rfl⟩) (ro_pre hK hP (va_recv hK hP (ci := 7) (q0 := 0) rfl rfl)) rfl rfl hl.1 rfl (lv_room (Nat.le_of_ble_eq_true rfl)) d_Model_way_97 ⟨Nat.le_of_ble_eq_true rfl, Nat.le_of_ble_eq_true rfl⟩) (fun r8 h => ?_)
          obtain ⟨hi, h⟩ := h
          refine va_iald hx hb hK hP 4 0 rfl rfl hi d_Model_way_100 ?_
          refine lv_istore (lv' := [(5, .int (σ 4 r8.toNatClampNeg)), (0, .ref (ad 0)), (1, .int v1), (2, .int v2), (3, .int v3), (4, .int v4)]) hx hb d_Model_way_101 hl (by decide) rfl (fun ls hl => ?_)
          refine lv_iinc (v := (v4 + 1)) (lv' := [(4, .int (v4 + 1)), (5, .int (σ 4 r8.toNatClampNeg)), (0, .ref (ad 0)), (1, .int v1), (2, .int v2), (3, .int v3)]) hx hb d_Model_way_103 hl (k := 5) rfl rfl (by decide) rfl (fun ls hl => ?_)
          refine lv_goto (tgt := 84) hx hb d_Model_way_106 (by decide) ?_
          exact ih 2 v1 v2 v3 (v4 + 1) (σ 4 r8.toNatClampNeg) σ h _ _ _ hP hS (lv_sub hl [2, 3, 4, 5, 0, 1] rfl)
      | _ + 3, h, _ => exact False.elim h
  exact key 4000 0 v1 v2 v3 0 0 σ h s.heap [] ls hP hS hl
