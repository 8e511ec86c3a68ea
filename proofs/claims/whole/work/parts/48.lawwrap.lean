abbrev y_Law_piece : MethodName := ⟨"CarrierPathsLaw", "piece", "(LCarrierPaths;III[J)I"⟩
def q_Law_piece (v1 v2 v3 : Int32) (σ : SG) (f : Nat → Int64) (Q : Int32 → SG → (Nat → Int64) → Prop) : Prop :=
  q_Face_piece v1 v2 v3 σ (fun r u => Q 0 u (vp_updL f 0 r.toInt64)) (fun E u => (E = "java/lang/IllegalArgumentException" ∧ Q 1 u f) ∨ (E = "java/lang/IllegalStateException" ∧ Q 2 u f))
set_option maxHeartbeats 4000000 in
set_option maxRecDepth 100000 in
theorem t_Law_piece (l : Launch) (hst : l.stackTraces = false) (D : va_G) (cI cZ cJ : ClassId) (ad : Nat → Nat → Nat) (inj : Inj (fA ad) 29) (oa : Nat) (hoa : ¬ inA (fA ad) 29 oa) (v1 v2 v3 : Int32) (σ : SG) (f : Nat → Int64) (Q : Int32 → SG → (Nat → Int64) → Prop) (h : q_Law_piece v1 v2 v3 σ f Q) : Met l y_Law_piece (.codeWith y_Law_piece method_3_code 6 (some .int) [(0, 12, 15, 13), (0, 12, 19, 15)] :: TG) { frames := 7, cells := 1, slots := 6, locals := 105 } (va_Pc [.ref (ad 0 0), .int v1, .int v2, .int v3, .ref oa] (lB D (tysL cI cZ cJ) (W_X2 ad cI cZ σ oa cJ f))) (va_Qi (S := SG × (Nat → Int64)) (fun r u => Q r u.1 u.2) (fun u t => va_P D classes (W_X2 ad cI cZ u.1 oa cJ u.2) t.heap) (A2 ad oa)) 1 6 (A2 ad oa) := by
  refine mt_with (cc := method_3_code) (maxL := 6) (ret := (some .int)) (hh := [(0, 12, 15, 13), (0, 12, 19, 15)]) (by decide) rfl ?_
  intro p e s m args below meth c s₁ B hml htab hv
  obtain ⟨rfl, hP, hK, hth, hnc⟩ := hv
  have hx := B.exec
  have hb := B.bytes
  have hr := B.returns
  have hts : ∀ w ∈ TG, w.before [.ref (ad 0 0), .int v1, .int v2, .int v3, .ref oa].toArray s = true := fun w hw => atoms_spec (ws := .codeWith y_Law_piece method_3_code 6 (some .int) [(0, 12, 15, 13), (0, 12, 19, 15)] :: TG) B.pre w (List.mem_cons_of_mem _ hw)
  have hown : s.vm.findClass "CarrierPathsLaw" = some m.cls := findClass_of_methodNamed B.named
  have hlocks := B.notSynchronized
  have hS : va_S (A2 ad oa) s.heap s.heap [] := va_S.rf
  have hl := lv_entry ([.ref (ad 0 0), .int v1, .int v2, .int v3, .ref oa]) (n := 6) (Nat.le_of_ble_eq_true rfl)
  rw [lg_entry_eq]
  generalize (lg_sl ([.ref (ad 0 0), .int v1, .int v2, .int v3, .ref oa]) ++ List.replicate (6 - (lg_sl ([.ref (ad 0 0), .int v1, .int v2, .int v3, .ref oa])).length) Slot.unset).toArray = ls at hl ⊢
  have hl : lv_has ls 6 [(0, .ref (ad 0 0)), (1, .int v1), (2, .int v2), (3, .int v3), (4, .ref oa)] := hl
  obtain ⟨x1, x2, hsp, ⟨e1, e2, e3, e4⟩, f1, f2, f3, f4⟩ := tab2 htab
  unfold q_Law_piece at h
  refine lv_aload hx hb d_Law_piece_0 (lv_at hl 4 rfl) ?_
  refine lv_iconst (v := 0) hx hb d_Law_piece_2 (by decide) ?_
  refine lv_aload_n hx hb d_Law_piece_3 rfl (lv_at hl 0 rfl) ?_
  refine lv_iload_n hx hb d_Law_piece_4 rfl (lv_at hl 1 rfl) ?_
  refine lv_iload_n hx hb d_Law_piece_5 rfl (lv_at hl 2 rfl) ?_
  refine lv_iload_n hx hb d_Law_piece_6 rfl (lv_at hl 3 rfl) ?_
  have hPf : va_P D classes (W_Face ad cI cZ σ) s.heap := hP.sub [0, 1, 2, 3, 4, 5, 6, 7, 8, 9, 10, 11, 12, 13, 14, 15, 16, 17, 18, 19, 20, 21, 22, 23, 24, 25, 26, 27, 28] rfl
  have hKf := hK.sub (tys' := tysA cI cZ) [0, 1] rfl
  refine x_runV (As := [.int v1, .int v2, .int v3]) (rest := [.int 0, .ref oa]) ⟨hx, hb, hml, hown, hts⟩ (t_Face_piece l hst D cI cZ ad inj v1 v2 v3 σ _ _ h) (cwV 3 hts (g_of kw414 kw415 kw416 kw1 kw417) rfl rfl rfl (by decide +kernel) ⟨Nat.le_of_ble_eq_true rfl, Nat.le_of_ble_eq_true rfl⟩) (x_pre hKf hPf hth (va_recv hKf hPf (ci := 6) (q0 := 0) rfl rfl)) rfl rfl hl.1 rfl (lv_room (Nat.le_of_ble_eq_true rfl)) d_Law_piece_7 ⟨Nat.le_of_ble_eq_true rfl, Nat.le_of_ble_eq_true rfl⟩ (fun v st0 t L hH ha hq hL => ?_) (fun q E ce st0 t L hH ha hq hce hcv hcl hL => ?_)
  · obtain ⟨⟨r, u, hv, h, hP1⟩, hF⟩ := hq
    cases hv
    have hP := x2_join hoa hH hP hF hP1
    have hS := x2_S hS hH (fun _ h => Or.inl h) hF hL
    generalize t.heap = H at hP hS ⊢
    refine W.eq (g2 := F0 m 10 ls [.int r, .int 0, .ref oa]) rfl ?_
    refine lv_i2l (v := r.toInt64) hx hb d_Law_piece_10 rfl ?_
    refine va_last hx hb hK hP (D_X2 inj hoa) hS 29 2 rfl rfl (by unfold vp_in; decide) d_Law_piece_11 (fun H locs hP _ hS => ?_)
    have hP := up_X2 hP
    refine lv_goto (tgt := 23) hx hb d_Law_piece_12 (by decide) ?_
    refine lv_iconst (v := 0) hx hb d_Law_piece_23 (by decide) ?_
    exact W.iret (v := 0) hx hb hr (fun t ht hW => ⟨⟨0, (u, vp_updL f 0 r.toInt64), rfl, h, hp_back ht hP⟩, hS.F ht⟩) hS.2.2 d_Law_piece_24
  · obtain ⟨u, hX, hP1, hF⟩ := hq
    have hP := x2_join hoa hH hP hF hP1
    have hS := x2_S hS hH (fun _ h => Or.inl h) hF hL
    generalize t.heap = H at hP hS hce ⊢
    rcases hX with ⟨rfl, h⟩ | ⟨rfl, h⟩
    · refine x_catch (E := "java/lang/IllegalArgumentException") (name := "java/lang/IllegalArgumentException") hown [] x1 [x2] hsp (fun z hz => nomatch hz) (by simp [covers, e1, e2]) (by rw [e4]; decide) (by rw [e4]; exact hts _ kw412) (hth.1 _ (by simp [XW]) _) hce hcv hcl ?_
      rw [e3]
      refine lv_astore (lv' := [(5, .ref q), (0, .ref (ad 0 0)), (1, .int v1), (2, .int v2), (3, .int v3), (4, .ref oa)]) hx hb d_Law_piece_15 hl (by decide) rfl (fun ls hl => ?_)
      refine lv_iconst (v := 1) hx hb d_Law_piece_17 (by decide) ?_
      exact W.iret (v := 1) hx hb hr (fun t ht hW => ⟨⟨1, (u, f), rfl, h, hp_back ht hP⟩, hS.F ht⟩) hS.2.2 d_Law_piece_18
    · refine x_catch (E := "java/lang/IllegalStateException") (name := "java/lang/IllegalStateException") hown [x1] x2 [] hsp (fun z hz => by rw [List.mem_singleton.mp hz, e4]; exact ⟨by decide, _, hts _ kw412, hnc⟩) (by simp [covers, f1, f2]) (by rw [f4]; decide) (by rw [f4]; exact hts _ kw413) (hth.1 _ (by simp [XW]) _) hce hcv hcl ?_
      rw [f3]
      refine lv_astore (lv' := [(5, .ref q), (0, .ref (ad 0 0)), (1, .int v1), (2, .int v2), (3, .int v3), (4, .ref oa)]) hx hb d_Law_piece_19 hl (by decide) rfl (fun ls hl => ?_)
      refine lv_iconst (v := 2) hx hb d_Law_piece_21 (by decide) ?_
      exact W.iret (v := 2) hx hb hr (fun t ht hW => ⟨⟨2, (u, f), rfl, h, hp_back ht hP⟩, hS.F ht⟩) hS.2.2 d_Law_piece_22
abbrev y_Law_ring : MethodName := ⟨"CarrierPathsLaw", "ring", "(LCarrierPaths;I[J)I"⟩
def q_Law_ring (v1 : Int32) (σ : SG) (f : Nat → Int64) (Q : Int32 → SG → (Nat → Int64) → Prop) : Prop :=
  q_Face_ring v1 σ (fun r u => Q 0 u (vp_updL f 0 r.toInt64)) (fun E u => (E = "java/lang/IllegalArgumentException" ∧ Q 1 u f) ∨ (E = "java/lang/IllegalStateException" ∧ Q 2 u f))
set_option maxHeartbeats 4000000 in
set_option maxRecDepth 100000 in
theorem t_Law_ring (l : Launch) (hst : l.stackTraces = false) (D : va_G) (cI cZ cJ : ClassId) (ad : Nat → Nat → Nat) (inj : Inj (fA ad) 29) (oa : Nat) (hoa : ¬ inA (fA ad) 29 oa) (v1 : Int32) (σ : SG) (f : Nat → Int64) (Q : Int32 → SG → (Nat → Int64) → Prop) (h : q_Law_ring v1 σ f Q) : Met l y_Law_ring (.codeWith y_Law_ring method_4_code 4 (some .int) [(0, 9, 12, 13), (0, 9, 15, 15)] :: TG) { frames := 7, cells := 1, slots := 6, locals := 103 } (va_Pc [.ref (ad 0 0), .int v1, .ref oa] (lB D (tysL cI cZ cJ) (W_X2 ad cI cZ σ oa cJ f))) (va_Qi (S := SG × (Nat → Int64)) (fun r u => Q r u.1 u.2) (fun u t => va_P D classes (W_X2 ad cI cZ u.1 oa cJ u.2) t.heap) (A2 ad oa)) 1 6 (A2 ad oa) := by
  refine mt_with (cc := method_4_code) (maxL := 4) (ret := (some .int)) (hh := [(0, 9, 12, 13), (0, 9, 15, 15)]) (by decide) rfl ?_
  intro p e s m args below meth c s₁ B hml htab hv
  obtain ⟨rfl, hP, hK, hth, hnc⟩ := hv
  have hx := B.exec
  have hb := B.bytes
  have hr := B.returns
  have hts : ∀ w ∈ TG, w.before [.ref (ad 0 0), .int v1, .ref oa].toArray s = true := fun w hw => atoms_spec (ws := .codeWith y_Law_ring method_4_code 4 (some .int) [(0, 9, 12, 13), (0, 9, 15, 15)] :: TG) B.pre w (List.mem_cons_of_mem _ hw)
  have hown : s.vm.findClass "CarrierPathsLaw" = some m.cls := findClass_of_methodNamed B.named
  have hlocks := B.notSynchronized
  have hS : va_S (A2 ad oa) s.heap s.heap [] := va_S.rf
  have hl := lv_entry ([.ref (ad 0 0), .int v1, .ref oa]) (n := 4) (Nat.le_of_ble_eq_true rfl)
  rw [lg_entry_eq]
  generalize (lg_sl ([.ref (ad 0 0), .int v1, .ref oa]) ++ List.replicate (4 - (lg_sl ([.ref (ad 0 0), .int v1, .ref oa])).length) Slot.unset).toArray = ls at hl ⊢
  have hl : lv_has ls 4 [(0, .ref (ad 0 0)), (1, .int v1), (2, .ref oa)] := hl
  obtain ⟨x1, x2, hsp, ⟨e1, e2, e3, e4⟩, f1, f2, f3, f4⟩ := tab2 htab
  unfold q_Law_ring at h
  refine lv_aload_n hx hb d_Law_ring_0 rfl (lv_at hl 2 rfl) ?_
  refine lv_iconst (v := 0) hx hb d_Law_ring_1 (by decide) ?_
  refine lv_aload_n hx hb d_Law_ring_2 rfl (lv_at hl 0 rfl) ?_
  refine lv_iload_n hx hb d_Law_ring_3 rfl (lv_at hl 1 rfl) ?_
  have hPf : va_P D classes (W_Face ad cI cZ σ) s.heap := hP.sub [0, 1, 2, 3, 4, 5, 6, 7, 8, 9, 10, 11, 12, 13, 14, 15, 16, 17, 18, 19, 20, 21, 22, 23, 24, 25, 26, 27, 28] rfl
  have hKf := hK.sub (tys' := tysA cI cZ) [0, 1] rfl
  refine x_runV (As := [.int v1]) (rest := [.int 0, .ref oa]) ⟨hx, hb, hml, hown, hts⟩ (t_Face_ring l hst D cI cZ ad inj v1 σ _ _ h) (cwV 1 hts (g_of kw515 kw516 kw517 kw1 kw518) rfl rfl rfl (by decide +kernel) ⟨Nat.le_of_ble_eq_true rfl, Nat.le_of_ble_eq_true rfl⟩) (x_pre hKf hPf hth (va_recv hKf hPf (ci := 6) (q0 := 0) rfl rfl)) rfl rfl hl.1 rfl (lv_room (Nat.le_of_ble_eq_true rfl)) d_Law_ring_4 ⟨Nat.le_of_ble_eq_true rfl, Nat.le_of_ble_eq_true rfl⟩ (fun v st0 t L hH ha hq hL => ?_) (fun q E ce st0 t L hH ha hq hce hcv hcl hL => ?_)
  · obtain ⟨⟨r, u, hv, h, hP1⟩, hF⟩ := hq
    cases hv
    have hP := x2_join hoa hH hP hF hP1
    have hS := x2_S hS hH (fun _ h => Or.inl h) hF hL
    generalize t.heap = H at hP hS ⊢
    refine W.eq (g2 := F0 m 7 ls [.int r, .int 0, .ref oa]) rfl ?_
    refine lv_i2l (v := r.toInt64) hx hb d_Law_ring_7 rfl ?_
    refine va_last hx hb hK hP (D_X2 inj hoa) hS 29 2 rfl rfl (by unfold vp_in; decide) d_Law_ring_8 (fun H locs hP _ hS => ?_)
    have hP := up_X2 hP
    refine lv_goto (tgt := 18) hx hb d_Law_ring_9 (by decide) ?_
    refine lv_iconst (v := 0) hx hb d_Law_ring_18 (by decide) ?_
    exact W.iret (v := 0) hx hb hr (fun t ht hW => ⟨⟨0, (u, vp_updL f 0 r.toInt64), rfl, h, hp_back ht hP⟩, hS.F ht⟩) hS.2.2 d_Law_ring_19
  · obtain ⟨u, hX, hP1, hF⟩ := hq
    have hP := x2_join hoa hH hP hF hP1
    have hS := x2_S hS hH (fun _ h => Or.inl h) hF hL
    generalize t.heap = H at hP hS hce ⊢
    rcases hX with ⟨rfl, h⟩ | ⟨rfl, h⟩
    · refine x_catch (E := "java/lang/IllegalArgumentException") (name := "java/lang/IllegalArgumentException") hown [] x1 [x2] hsp (fun z hz => nomatch hz) (by simp [covers, e1, e2]) (by rw [e4]; decide) (by rw [e4]; exact hts _ kw412) (hth.1 _ (by simp [XW]) _) hce hcv hcl ?_
      rw [e3]
      refine lv_astore_n (lv' := [(3, .ref q), (0, .ref (ad 0 0)), (1, .int v1), (2, .ref oa)]) hx hb d_Law_ring_12 rfl hl (by decide) rfl (fun ls hl => ?_)
      refine lv_iconst (v := 1) hx hb d_Law_ring_13 (by decide) ?_
      exact W.iret (v := 1) hx hb hr (fun t ht hW => ⟨⟨1, (u, f), rfl, h, hp_back ht hP⟩, hS.F ht⟩) hS.2.2 d_Law_ring_14
    · refine x_catch (E := "java/lang/IllegalStateException") (name := "java/lang/IllegalStateException") hown [x1] x2 [] hsp (fun z hz => by rw [List.mem_singleton.mp hz, e4]; exact ⟨by decide, _, hts _ kw412, hnc⟩) (by simp [covers, f1, f2]) (by rw [f4]; decide) (by rw [f4]; exact hts _ kw413) (hth.1 _ (by simp [XW]) _) hce hcv hcl ?_
      rw [f3]
      refine lv_astore_n (lv' := [(3, .ref q), (0, .ref (ad 0 0)), (1, .int v1), (2, .ref oa)]) hx hb d_Law_ring_15 rfl hl (by decide) rfl (fun ls hl => ?_)
      refine lv_iconst (v := 2) hx hb d_Law_ring_16 (by decide) ?_
      exact W.iret (v := 2) hx hb hr (fun t ht hW => ⟨⟨2, (u, f), rfl, h, hp_back ht hP⟩, hS.F ht⟩) hS.2.2 d_Law_ring_17
abbrev y_Law_carrier : MethodName := ⟨"CarrierPathsLaw", "carrier", "(LCarrierPaths;II[J)I"⟩
def q_Law_carrier (v1 v2 : Int32) (σ : SG) (f : Nat → Int64) (Q : Int32 → SG → (Nat → Int64) → Prop) : Prop :=
  q_Face_carrier v1 v2 σ (fun r u => Q 0 u (vp_updL f 0 r.toInt64)) (fun E u => (E = "java/lang/IllegalArgumentException" ∧ Q 1 u f) ∨ (E = "java/lang/IllegalStateException" ∧ Q 2 u f))
set_option maxHeartbeats 4000000 in
set_option maxRecDepth 100000 in
theorem t_Law_carrier (l : Launch) (hst : l.stackTraces = false) (D : va_G) (cI cZ cJ : ClassId) (ad : Nat → Nat → Nat) (inj : Inj (fA ad) 29) (oa : Nat) (hoa : ¬ inA (fA ad) 29 oa) (v1 v2 : Int32) (σ : SG) (f : Nat → Int64) (Q : Int32 → SG → (Nat → Int64) → Prop) (h : q_Law_carrier v1 v2 σ f Q) : Met l y_Law_carrier (.codeWith y_Law_carrier method_5_code 5 (some .int) [(0, 10, 13, 13), (0, 10, 17, 15)] :: TG) { frames := 7, cells := 1, slots := 6, locals := 104 } (va_Pc [.ref (ad 0 0), .int v1, .int v2, .ref oa] (lB D (tysL cI cZ cJ) (W_X2 ad cI cZ σ oa cJ f))) (va_Qi (S := SG × (Nat → Int64)) (fun r u => Q r u.1 u.2) (fun u t => va_P D classes (W_X2 ad cI cZ u.1 oa cJ u.2) t.heap) (A2 ad oa)) 1 6 (A2 ad oa) := by
  refine mt_with (cc := method_5_code) (maxL := 5) (ret := (some .int)) (hh := [(0, 10, 13, 13), (0, 10, 17, 15)]) (by decide) rfl ?_
  intro p e s m args below meth c s₁ B hml htab hv
  obtain ⟨rfl, hP, hK, hth, hnc⟩ := hv
  have hx := B.exec
  have hb := B.bytes
  have hr := B.returns
  have hts : ∀ w ∈ TG, w.before [.ref (ad 0 0), .int v1, .int v2, .ref oa].toArray s = true := fun w hw => atoms_spec (ws := .codeWith y_Law_carrier method_5_code 5 (some .int) [(0, 10, 13, 13), (0, 10, 17, 15)] :: TG) B.pre w (List.mem_cons_of_mem _ hw)
  have hown : s.vm.findClass "CarrierPathsLaw" = some m.cls := findClass_of_methodNamed B.named
  have hlocks := B.notSynchronized
  have hS : va_S (A2 ad oa) s.heap s.heap [] := va_S.rf
  have hl := lv_entry ([.ref (ad 0 0), .int v1, .int v2, .ref oa]) (n := 5) (Nat.le_of_ble_eq_true rfl)
  rw [lg_entry_eq]
  generalize (lg_sl ([.ref (ad 0 0), .int v1, .int v2, .ref oa]) ++ List.replicate (5 - (lg_sl ([.ref (ad 0 0), .int v1, .int v2, .ref oa])).length) Slot.unset).toArray = ls at hl ⊢
  have hl : lv_has ls 5 [(0, .ref (ad 0 0)), (1, .int v1), (2, .int v2), (3, .ref oa)] := hl
  obtain ⟨x1, x2, hsp, ⟨e1, e2, e3, e4⟩, f1, f2, f3, f4⟩ := tab2 htab
  unfold q_Law_carrier at h
  refine lv_aload_n hx hb d_Law_carrier_0 rfl (lv_at hl 3 rfl) ?_
  refine lv_iconst (v := 0) hx hb d_Law_carrier_1 (by decide) ?_
  refine lv_aload_n hx hb d_Law_carrier_2 rfl (lv_at hl 0 rfl) ?_
  refine lv_iload_n hx hb d_Law_carrier_3 rfl (lv_at hl 1 rfl) ?_
  refine lv_iload_n hx hb d_Law_carrier_4 rfl (lv_at hl 2 rfl) ?_
  have hPf : va_P D classes (W_Face ad cI cZ σ) s.heap := hP.sub [0, 1, 2, 3, 4, 5, 6, 7, 8, 9, 10, 11, 12, 13, 14, 15, 16, 17, 18, 19, 20, 21, 22, 23, 24, 25, 26, 27, 28] rfl
  have hKf := hK.sub (tys' := tysA cI cZ) [0, 1] rfl
  refine x_runV (As := [.int v1, .int v2]) (rest := [.int 0, .ref oa]) ⟨hx, hb, hml, hown, hts⟩ (t_Face_carrier l hst D cI cZ ad inj v1 v2 σ _ _ h) (cwV 2 hts (g_of kw532 kw533 kw534 kw1 kw535) rfl rfl rfl (by decide +kernel) ⟨Nat.le_of_ble_eq_true rfl, Nat.le_of_ble_eq_true rfl⟩) (x_pre hKf hPf hth (va_recv hKf hPf (ci := 6) (q0 := 0) rfl rfl)) rfl rfl hl.1 rfl (lv_room (Nat.le_of_ble_eq_true rfl)) d_Law_carrier_5 ⟨Nat.le_of_ble_eq_true rfl, Nat.le_of_ble_eq_true rfl⟩ (fun v st0 t L hH ha hq hL => ?_) (fun q E ce st0 t L hH ha hq hce hcv hcl hL => ?_)
  · obtain ⟨⟨r, u, hv, h, hP1⟩, hF⟩ := hq
    cases hv
    have hP := x2_join hoa hH hP hF hP1
    have hS := x2_S hS hH (fun _ h => Or.inl h) hF hL
    generalize t.heap = H at hP hS ⊢
    refine W.eq (g2 := F0 m 8 ls [.int r, .int 0, .ref oa]) rfl ?_
    refine lv_i2l (v := r.toInt64) hx hb d_Law_carrier_8 rfl ?_
    refine va_last hx hb hK hP (D_X2 inj hoa) hS 29 2 rfl rfl (by unfold vp_in; decide) d_Law_carrier_9 (fun H locs hP _ hS => ?_)
    have hP := up_X2 hP
    refine lv_goto (tgt := 21) hx hb d_Law_carrier_10 (by decide) ?_
    refine lv_iconst (v := 0) hx hb d_Law_carrier_21 (by decide) ?_
    exact W.iret (v := 0) hx hb hr (fun t ht hW => ⟨⟨0, (u, vp_updL f 0 r.toInt64), rfl, h, hp_back ht hP⟩, hS.F ht⟩) hS.2.2 d_Law_carrier_22
  · obtain ⟨u, hX, hP1, hF⟩ := hq
    have hP := x2_join hoa hH hP hF hP1
    have hS := x2_S hS hH (fun _ h => Or.inl h) hF hL
    generalize t.heap = H at hP hS hce ⊢
    rcases hX with ⟨rfl, h⟩ | ⟨rfl, h⟩
    · refine x_catch (E := "java/lang/IllegalArgumentException") (name := "java/lang/IllegalArgumentException") hown [] x1 [x2] hsp (fun z hz => nomatch hz) (by simp [covers, e1, e2]) (by rw [e4]; decide) (by rw [e4]; exact hts _ kw412) (hth.1 _ (by simp [XW]) _) hce hcv hcl ?_
      rw [e3]
      refine lv_astore (lv' := [(4, .ref q), (0, .ref (ad 0 0)), (1, .int v1), (2, .int v2), (3, .ref oa)]) hx hb d_Law_carrier_13 hl (by decide) rfl (fun ls hl => ?_)
      refine lv_iconst (v := 1) hx hb d_Law_carrier_15 (by decide) ?_
      exact W.iret (v := 1) hx hb hr (fun t ht hW => ⟨⟨1, (u, f), rfl, h, hp_back ht hP⟩, hS.F ht⟩) hS.2.2 d_Law_carrier_16
    · refine x_catch (E := "java/lang/IllegalStateException") (name := "java/lang/IllegalStateException") hown [x1] x2 [] hsp (fun z hz => by rw [List.mem_singleton.mp hz, e4]; exact ⟨by decide, _, hts _ kw412, hnc⟩) (by simp [covers, f1, f2]) (by rw [f4]; decide) (by rw [f4]; exact hts _ kw413) (hth.1 _ (by simp [XW]) _) hce hcv hcl ?_
      rw [f3]
      refine lv_astore (lv' := [(4, .ref q), (0, .ref (ad 0 0)), (1, .int v1), (2, .int v2), (3, .ref oa)]) hx hb d_Law_carrier_17 hl (by decide) rfl (fun ls hl => ?_)
      refine lv_iconst (v := 2) hx hb d_Law_carrier_19 (by decide) ?_
      exact W.iret (v := 2) hx hb hr (fun t ht hW => ⟨⟨2, (u, f), rfl, h, hp_back ht hP⟩, hS.F ht⟩) hS.2.2 d_Law_carrier_20
abbrev y_Law_job : MethodName := ⟨"CarrierPathsLaw", "job", "(LCarrierPaths;II[J)I"⟩
def q_Law_job (v1 v2 : Int32) (σ : SG) (f : Nat → Int64) (Q : Int32 → SG → (Nat → Int64) → Prop) : Prop :=
  q_Face_job v1 v2 σ (fun r u => Q 0 u (vp_updL f 0 r.toInt64)) (fun E u => (E = "java/lang/IllegalArgumentException" ∧ Q 1 u f) ∨ (E = "java/lang/IllegalStateException" ∧ Q 2 u f))
set_option maxHeartbeats 4000000 in
set_option maxRecDepth 100000 in
theorem t_Law_job (l : Launch) (hst : l.stackTraces = false) (D : va_G) (cI cZ cJ : ClassId) (ad : Nat → Nat → Nat) (inj : Inj (fA ad) 29) (oa : Nat) (hoa : ¬ inA (fA ad) 29 oa) (v1 v2 : Int32) (σ : SG) (f : Nat → Int64) (Q : Int32 → SG → (Nat → Int64) → Prop) (h : q_Law_job v1 v2 σ f Q) : Met l y_Law_job (.codeWith y_Law_job method_6_code 5 (some .int) [(0, 10, 13, 13), (0, 10, 17, 15)] :: TG) { frames := 7, cells := 1, slots := 6, locals := 104 } (va_Pc [.ref (ad 0 0), .int v1, .int v2, .ref oa] (lB D (tysL cI cZ cJ) (W_X2 ad cI cZ σ oa cJ f))) (va_Qi (S := SG × (Nat → Int64)) (fun r u => Q r u.1 u.2) (fun u t => va_P D classes (W_X2 ad cI cZ u.1 oa cJ u.2) t.heap) (A2 ad oa)) 1 6 (A2 ad oa) := by
  refine mt_with (cc := method_6_code) (maxL := 5) (ret := (some .int)) (hh := [(0, 10, 13, 13), (0, 10, 17, 15)]) (by decide) rfl ?_
  intro p e s m args below meth c s₁ B hml htab hv
  obtain ⟨rfl, hP, hK, hth, hnc⟩ := hv
  have hx := B.exec
  have hb := B.bytes
  have hr := B.returns
  have hts : ∀ w ∈ TG, w.before [.ref (ad 0 0), .int v1, .int v2, .ref oa].toArray s = true := fun w hw => atoms_spec (ws := .codeWith y_Law_job method_6_code 5 (some .int) [(0, 10, 13, 13), (0, 10, 17, 15)] :: TG) B.pre w (List.mem_cons_of_mem _ hw)
  have hown : s.vm.findClass "CarrierPathsLaw" = some m.cls := findClass_of_methodNamed B.named
  have hlocks := B.notSynchronized
  have hS : va_S (A2 ad oa) s.heap s.heap [] := va_S.rf
  have hl := lv_entry ([.ref (ad 0 0), .int v1, .int v2, .ref oa]) (n := 5) (Nat.le_of_ble_eq_true rfl)
  rw [lg_entry_eq]
  generalize (lg_sl ([.ref (ad 0 0), .int v1, .int v2, .ref oa]) ++ List.replicate (5 - (lg_sl ([.ref (ad 0 0), .int v1, .int v2, .ref oa])).length) Slot.unset).toArray = ls at hl ⊢
  have hl : lv_has ls 5 [(0, .ref (ad 0 0)), (1, .int v1), (2, .int v2), (3, .ref oa)] := hl
  obtain ⟨x1, x2, hsp, ⟨e1, e2, e3, e4⟩, f1, f2, f3, f4⟩ := tab2 htab
  unfold q_Law_job at h
  refine lv_aload_n hx hb d_Law_job_0 rfl (lv_at hl 3 rfl) ?_
  refine lv_iconst (v := 0) hx hb d_Law_job_1 (by decide) ?_
  refine lv_aload_n hx hb d_Law_job_2 rfl (lv_at hl 0 rfl) ?_
  refine lv_iload_n hx hb d_Law_job_3 rfl (lv_at hl 1 rfl) ?_
  refine lv_iload_n hx hb d_Law_job_4 rfl (lv_at hl 2 rfl) ?_
  have hPf : va_P D classes (W_Face ad cI cZ σ) s.heap := hP.sub [0, 1, 2, 3, 4, 5, 6, 7, 8, 9, 10, 11, 12, 13, 14, 15, 16, 17, 18, 19, 20, 21, 22, 23, 24, 25, 26, 27, 28] rfl
  have hKf := hK.sub (tys' := tysA cI cZ) [0, 1] rfl
  refine x_runV (As := [.int v1, .int v2]) (rest := [.int 0, .ref oa]) ⟨hx, hb, hml, hown, hts⟩ (t_Face_job l hst D cI cZ ad inj v1 v2 σ _ _ h) (cwV 2 hts (g_of kw550 kw551 kw552 kw1 kw553) rfl rfl rfl (by decide +kernel) ⟨Nat.le_of_ble_eq_true rfl, Nat.le_of_ble_eq_true rfl⟩) (x_pre hKf hPf hth (va_recv hKf hPf (ci := 6) (q0 := 0) rfl rfl)) rfl rfl hl.1 rfl (lv_room (Nat.le_of_ble_eq_true rfl)) d_Law_job_5 ⟨Nat.le_of_ble_eq_true rfl, Nat.le_of_ble_eq_true rfl⟩ (fun v st0 t L hH ha hq hL => ?_) (fun q E ce st0 t L hH ha hq hce hcv hcl hL => ?_)
  · obtain ⟨⟨r, u, hv, h, hP1⟩, hF⟩ := hq
    cases hv
    have hP := x2_join hoa hH hP hF hP1
    have hS := x2_S hS hH (fun _ h => Or.inl h) hF hL
    generalize t.heap = H at hP hS ⊢
    refine W.eq (g2 := F0 m 8 ls [.int r, .int 0, .ref oa]) rfl ?_
    refine lv_i2l (v := r.toInt64) hx hb d_Law_job_8 rfl ?_
    refine va_last hx hb hK hP (D_X2 inj hoa) hS 29 2 rfl rfl (by unfold vp_in; decide) d_Law_job_9 (fun H locs hP _ hS => ?_)
    have hP := up_X2 hP
    refine lv_goto (tgt := 21) hx hb d_Law_job_10 (by decide) ?_
    refine lv_iconst (v := 0) hx hb d_Law_job_21 (by decide) ?_
    exact W.iret (v := 0) hx hb hr (fun t ht hW => ⟨⟨0, (u, vp_updL f 0 r.toInt64), rfl, h, hp_back ht hP⟩, hS.F ht⟩) hS.2.2 d_Law_job_22
  · obtain ⟨u, hX, hP1, hF⟩ := hq
    have hP := x2_join hoa hH hP hF hP1
    have hS := x2_S hS hH (fun _ h => Or.inl h) hF hL
    generalize t.heap = H at hP hS hce ⊢
    rcases hX with ⟨rfl, h⟩ | ⟨rfl, h⟩
    · refine x_catch (E := "java/lang/IllegalArgumentException") (name := "java/lang/IllegalArgumentException") hown [] x1 [x2] hsp (fun z hz => nomatch hz) (by simp [covers, e1, e2]) (by rw [e4]; decide) (by rw [e4]; exact hts _ kw412) (hth.1 _ (by simp [XW]) _) hce hcv hcl ?_
      rw [e3]
      refine lv_astore (lv' := [(4, .ref q), (0, .ref (ad 0 0)), (1, .int v1), (2, .int v2), (3, .ref oa)]) hx hb d_Law_job_13 hl (by decide) rfl (fun ls hl => ?_)
      refine lv_iconst (v := 1) hx hb d_Law_job_15 (by decide) ?_
      exact W.iret (v := 1) hx hb hr (fun t ht hW => ⟨⟨1, (u, f), rfl, h, hp_back ht hP⟩, hS.F ht⟩) hS.2.2 d_Law_job_16
    · refine x_catch (E := "java/lang/IllegalStateException") (name := "java/lang/IllegalStateException") hown [x1] x2 [] hsp (fun z hz => by rw [List.mem_singleton.mp hz, e4]; exact ⟨by decide, _, hts _ kw412, hnc⟩) (by simp [covers, f1, f2]) (by rw [f4]; decide) (by rw [f4]; exact hts _ kw413) (hth.1 _ (by simp [XW]) _) hce hcv hcl ?_
      rw [f3]
      refine lv_astore (lv' := [(4, .ref q), (0, .ref (ad 0 0)), (1, .int v1), (2, .int v2), (3, .ref oa)]) hx hb d_Law_job_17 hl (by decide) rfl (fun ls hl => ?_)
      refine lv_iconst (v := 2) hx hb d_Law_job_19 (by decide) ?_
      exact W.iret (v := 2) hx hb hr (fun t ht hW => ⟨⟨2, (u, f), rfl, h, hp_back ht hP⟩, hS.F ht⟩) hS.2.2 d_Law_job_20
abbrev y_Law_step : MethodName := ⟨"CarrierPathsLaw", "step", "(LCarrierPaths;I[J)I"⟩
def q_Law_step (v1 : Int32) (σ : SG) (f : Nat → Int64) (Q : Int32 → SG → (Nat → Int64) → Prop) : Prop :=
  q_Face_step v1 σ (fun r u => Q 0 u (vp_updL f 0 r.toInt64)) (fun E u => (E = "java/lang/IndexOutOfBoundsException" ∧ Q 1 u f))
set_option maxHeartbeats 4000000 in
set_option maxRecDepth 100000 in
theorem t_Law_step (l : Launch) (hst : l.stackTraces = false) (D : va_G) (cI cZ cJ : ClassId) (ad : Nat → Nat → Nat) (inj : Inj (fA ad) 29) (oa : Nat) (hoa : ¬ inA (fA ad) 29 oa) (v1 : Int32) (σ : SG) (f : Nat → Int64) (Q : Int32 → SG → (Nat → Int64) → Prop) (h : q_Law_step v1 σ f Q) : Met l y_Law_step (.codeWith y_Law_step method_7_code 4 (some .int) [(0, 9, 12, 31)] :: TG) { frames := 7, cells := 1, slots := 6, locals := 117 } (va_Pc [.ref (ad 0 0), .int v1, .ref oa] (lB D (tysL cI cZ cJ) (W_X2 ad cI cZ σ oa cJ f))) (va_Qi (S := SG × (Nat → Int64)) (fun r u => Q r u.1 u.2) (fun u t => va_P D classes (W_X2 ad cI cZ u.1 oa cJ u.2) t.heap) (A2 ad oa)) 1 6 (A2 ad oa) := by
  refine mt_with (cc := method_7_code) (maxL := 4) (ret := (some .int)) (hh := [(0, 9, 12, 31)]) (by decide) rfl ?_
  intro p e s m args below meth c s₁ B hml htab hv
  obtain ⟨rfl, hP, hK, hth, hnc⟩ := hv
  have hx := B.exec
  have hb := B.bytes
  have hr := B.returns
  have hts : ∀ w ∈ TG, w.before [.ref (ad 0 0), .int v1, .ref oa].toArray s = true := fun w hw => atoms_spec (ws := .codeWith y_Law_step method_7_code 4 (some .int) [(0, 9, 12, 31)] :: TG) B.pre w (List.mem_cons_of_mem _ hw)
  have hown : s.vm.findClass "CarrierPathsLaw" = some m.cls := findClass_of_methodNamed B.named
  have hlocks := B.notSynchronized
  have hS : va_S (A2 ad oa) s.heap s.heap [] := va_S.rf
  have hl := lv_entry ([.ref (ad 0 0), .int v1, .ref oa]) (n := 4) (Nat.le_of_ble_eq_true rfl)
  rw [lg_entry_eq]
  generalize (lg_sl ([.ref (ad 0 0), .int v1, .ref oa]) ++ List.replicate (4 - (lg_sl ([.ref (ad 0 0), .int v1, .ref oa])).length) Slot.unset).toArray = ls at hl ⊢
  have hl : lv_has ls 4 [(0, .ref (ad 0 0)), (1, .int v1), (2, .ref oa)] := hl
  obtain ⟨x1, hsp, e1, e2, e3, e4⟩ := tab1 htab
  unfold q_Law_step at h
  refine lv_aload_n hx hb d_Law_step_0 rfl (lv_at hl 2 rfl) ?_
  refine lv_iconst (v := 0) hx hb d_Law_step_1 (by decide) ?_
  refine lv_aload_n hx hb d_Law_step_2 rfl (lv_at hl 0 rfl) ?_
  refine lv_iload_n hx hb d_Law_step_3 rfl (lv_at hl 1 rfl) ?_
  have hPf : va_P D classes (W_Face ad cI cZ σ) s.heap := hP.sub [0, 1, 2, 3, 4, 5, 6, 7, 8, 9, 10, 11, 12, 13, 14, 15, 16, 17, 18, 19, 20, 21, 22, 23, 24, 25, 26, 27, 28] rfl
  have hKf := hK.sub (tys' := tysA cI cZ) [0, 1] rfl
  refine x_runV (As := [.int v1]) (rest := [.int 0, .ref oa]) ⟨hx, hb, hml, hown, hts⟩ (t_Face_step l hst D cI cZ ad inj v1 σ _ _ h) (cwV 1 hts (g_of kw563 kw564 kw565 kw1 kw566) rfl rfl rfl (by decide +kernel) ⟨Nat.le_of_ble_eq_true rfl, Nat.le_of_ble_eq_true rfl⟩) (x_pre hKf hPf hth (va_recv hKf hPf (ci := 6) (q0 := 0) rfl rfl)) rfl rfl hl.1 rfl (lv_room (Nat.le_of_ble_eq_true rfl)) d_Law_step_4 ⟨Nat.le_of_ble_eq_true rfl, Nat.le_of_ble_eq_true rfl⟩ (fun v st0 t L hH ha hq hL => ?_) (fun q E ce st0 t L hH ha hq hce hcv hcl hL => ?_)
  · obtain ⟨⟨r, u, hv, h, hP1⟩, hF⟩ := hq
    cases hv
    have hP := x2_join hoa hH hP hF hP1
    have hS := x2_S hS hH (fun _ h => Or.inl h) hF hL
    generalize t.heap = H at hP hS ⊢
    refine W.eq (g2 := F0 m 7 ls [.int r, .int 0, .ref oa]) rfl ?_
    refine lv_i2l (v := r.toInt64) hx hb d_Law_step_7 rfl ?_
    refine va_last hx hb hK hP (D_X2 inj hoa) hS 29 2 rfl rfl (by unfold vp_in; decide) d_Law_step_8 (fun H locs hP _ hS => ?_)
    have hP := up_X2 hP
    refine lv_goto (tgt := 15) hx hb d_Law_step_9 (by decide) ?_
    refine lv_iconst (v := 0) hx hb d_Law_step_15 (by decide) ?_
    exact W.iret (v := 0) hx hb hr (fun t ht hW => ⟨⟨0, (u, vp_updL f 0 r.toInt64), rfl, h, hp_back ht hP⟩, hS.F ht⟩) hS.2.2 d_Law_step_16
  · obtain ⟨u, hX, hP1, hF⟩ := hq
    have hP := x2_join hoa hH hP hF hP1
    have hS := x2_S hS hH (fun _ h => Or.inl h) hF hL
    generalize t.heap = H at hP hS hce ⊢
    obtain ⟨rfl, h⟩ := hX
    refine x_catch (E := "java/lang/IndexOutOfBoundsException") (name := "java/lang/IndexOutOfBoundsException") hown [] x1 [] hsp (fun z hz => nomatch hz) (by simp [covers, e1, e2]) (by rw [e4]; decide) (by rw [e4]; exact hts _ kw562) (hth.1 _ (by simp [XW]) _) hce hcv hcl ?_
    rw [e3]
    refine lv_astore_n (lv' := [(3, .ref q), (0, .ref (ad 0 0)), (1, .int v1), (2, .ref oa)]) hx hb d_Law_step_12 rfl hl (by decide) rfl (fun ls hl => ?_)
    refine lv_iconst (v := 1) hx hb d_Law_step_13 (by decide) ?_
    exact W.iret (v := 1) hx hb hr (fun t ht hW => ⟨⟨1, (u, f), rfl, h, hp_back ht hP⟩, hS.F ht⟩) hS.2.2 d_Law_step_14
abbrev y_Law_tick : MethodName := ⟨"CarrierPathsLaw", "tick", "(LCarrierPaths;I[J)I"⟩
def q_Law_tick (v1 : Int32) (σ : SG) (f : Nat → Int64) (Q : Int32 → SG → (Nat → Int64) → Prop) : Prop :=
  q_Face_tick v1 σ (fun r u => Q 0 u (vp_updL f 0 r.toInt64)) (fun E u => (E = "java/lang/IllegalArgumentException" ∧ Q 1 u f))
set_option maxHeartbeats 4000000 in
set_option maxRecDepth 100000 in
theorem t_Law_tick (l : Launch) (hst : l.stackTraces = false) (D : va_G) (cI cZ cJ : ClassId) (ad : Nat → Nat → Nat) (inj : Inj (fA ad) 29) (oa : Nat) (hoa : ¬ inA (fA ad) 29 oa) (v1 : Int32) (σ : SG) (f : Nat → Int64) (Q : Int32 → SG → (Nat → Int64) → Prop) (h : q_Law_tick v1 σ f Q) : Met l y_Law_tick (.codeWith y_Law_tick method_8_code 4 (some .int) [(0, 9, 12, 13)] :: TG) { frames := 7, cells := 1, slots := 6, locals := 103 } (va_Pc [.ref (ad 0 0), .int v1, .ref oa] (lB D (tysL cI cZ cJ) (W_X2 ad cI cZ σ oa cJ f))) (va_Qi (S := SG × (Nat → Int64)) (fun r u => Q r u.1 u.2) (fun u t => va_P D classes (W_X2 ad cI cZ u.1 oa cJ u.2) t.heap) (A2 ad oa)) 1 6 (A2 ad oa) := by
  refine mt_with (cc := method_8_code) (maxL := 4) (ret := (some .int)) (hh := [(0, 9, 12, 13)]) (by decide) rfl ?_
  intro p e s m args below meth c s₁ B hml htab hv
  obtain ⟨rfl, hP, hK, hth, hnc⟩ := hv
  have hx := B.exec
  have hb := B.bytes
  have hr := B.returns
  have hts : ∀ w ∈ TG, w.before [.ref (ad 0 0), .int v1, .ref oa].toArray s = true := fun w hw => atoms_spec (ws := .codeWith y_Law_tick method_8_code 4 (some .int) [(0, 9, 12, 13)] :: TG) B.pre w (List.mem_cons_of_mem _ hw)
  have hown : s.vm.findClass "CarrierPathsLaw" = some m.cls := findClass_of_methodNamed B.named
  have hlocks := B.notSynchronized
  have hS : va_S (A2 ad oa) s.heap s.heap [] := va_S.rf
  have hl := lv_entry ([.ref (ad 0 0), .int v1, .ref oa]) (n := 4) (Nat.le_of_ble_eq_true rfl)
  rw [lg_entry_eq]
  generalize (lg_sl ([.ref (ad 0 0), .int v1, .ref oa]) ++ List.replicate (4 - (lg_sl ([.ref (ad 0 0), .int v1, .ref oa])).length) Slot.unset).toArray = ls at hl ⊢
  have hl : lv_has ls 4 [(0, .ref (ad 0 0)), (1, .int v1), (2, .ref oa)] := hl
  obtain ⟨x1, hsp, e1, e2, e3, e4⟩ := tab1 htab
  unfold q_Law_tick at h
  refine lv_aload_n hx hb d_Law_tick_0 rfl (lv_at hl 2 rfl) ?_
  refine lv_iconst (v := 0) hx hb d_Law_tick_1 (by decide) ?_
  refine lv_aload_n hx hb d_Law_tick_2 rfl (lv_at hl 0 rfl) ?_
  refine lv_iload_n hx hb d_Law_tick_3 rfl (lv_at hl 1 rfl) ?_
  have hPf : va_P D classes (W_Face ad cI cZ σ) s.heap := hP.sub [0, 1, 2, 3, 4, 5, 6, 7, 8, 9, 10, 11, 12, 13, 14, 15, 16, 17, 18, 19, 20, 21, 22, 23, 24, 25, 26, 27, 28] rfl
  have hKf := hK.sub (tys' := tysA cI cZ) [0, 1] rfl
  refine x_runV (As := [.int v1]) (rest := [.int 0, .ref oa]) ⟨hx, hb, hml, hown, hts⟩ (t_Face_tick l hst D cI cZ ad inj v1 σ _ _ h) (cwV 1 hts (g_of kw664 kw665 kw666 kw1 kw667) rfl rfl rfl (by decide +kernel) ⟨Nat.le_of_ble_eq_true rfl, Nat.le_of_ble_eq_true rfl⟩) (x_pre hKf hPf hth (va_recv hKf hPf (ci := 6) (q0 := 0) rfl rfl)) rfl rfl hl.1 rfl (lv_room (Nat.le_of_ble_eq_true rfl)) d_Law_tick_4 ⟨Nat.le_of_ble_eq_true rfl, Nat.le_of_ble_eq_true rfl⟩ (fun v st0 t L hH ha hq hL => ?_) (fun q E ce st0 t L hH ha hq hce hcv hcl hL => ?_)
  · obtain ⟨⟨r, u, hv, h, hP1⟩, hF⟩ := hq
    cases hv
    have hP := x2_join hoa hH hP hF hP1
    have hS := x2_S hS hH (fun _ h => Or.inl h) hF hL
    generalize t.heap = H at hP hS ⊢
    refine W.eq (g2 := F0 m 7 ls [.int r, .int 0, .ref oa]) rfl ?_
    refine lv_i2l (v := r.toInt64) hx hb d_Law_tick_7 rfl ?_
    refine va_last hx hb hK hP (D_X2 inj hoa) hS 29 2 rfl rfl (by unfold vp_in; decide) d_Law_tick_8 (fun H locs hP _ hS => ?_)
    have hP := up_X2 hP
    refine lv_goto (tgt := 15) hx hb d_Law_tick_9 (by decide) ?_
    refine lv_iconst (v := 0) hx hb d_Law_tick_15 (by decide) ?_
    exact W.iret (v := 0) hx hb hr (fun t ht hW => ⟨⟨0, (u, vp_updL f 0 r.toInt64), rfl, h, hp_back ht hP⟩, hS.F ht⟩) hS.2.2 d_Law_tick_16
  · obtain ⟨u, hX, hP1, hF⟩ := hq
    have hP := x2_join hoa hH hP hF hP1
    have hS := x2_S hS hH (fun _ h => Or.inl h) hF hL
    generalize t.heap = H at hP hS hce ⊢
    obtain ⟨rfl, h⟩ := hX
    refine x_catch (E := "java/lang/IllegalArgumentException") (name := "java/lang/IllegalArgumentException") hown [] x1 [] hsp (fun z hz => nomatch hz) (by simp [covers, e1, e2]) (by rw [e4]; decide) (by rw [e4]; exact hts _ kw412) (hth.1 _ (by simp [XW]) _) hce hcv hcl ?_
    rw [e3]
    refine lv_astore_n (lv' := [(3, .ref q), (0, .ref (ad 0 0)), (1, .int v1), (2, .ref oa)]) hx hb d_Law_tick_12 rfl hl (by decide) rfl (fun ls hl => ?_)
    refine lv_iconst (v := 1) hx hb d_Law_tick_13 (by decide) ?_
    exact W.iret (v := 1) hx hb hr (fun t ht hW => ⟨⟨1, (u, f), rfl, h, hp_back ht hP⟩, hS.F ht⟩) hS.2.2 d_Law_tick_14
abbrev y_Law_charge : MethodName := ⟨"CarrierPathsLaw", "charge", "(LCarrierPaths;I[J)I"⟩
def q_Law_charge (v1 : Int32) (σ : SG) (f : Nat → Int64) (Q : Int32 → SG → (Nat → Int64) → Prop) : Prop :=
  q_Face_charge v1 σ (fun r u => Q 0 u (vp_updL f 0 (if r = 0 then 0 else 1))) (fun E u => (E = "java/lang/IndexOutOfBoundsException" ∧ Q 1 u f))
set_option maxHeartbeats 4000000 in
set_option maxRecDepth 100000 in
theorem t_Law_charge (l : Launch) (hst : l.stackTraces = false) (D : va_G) (cI cZ cJ : ClassId) (ad : Nat → Nat → Nat) (inj : Inj (fA ad) 29) (oa : Nat) (hoa : ¬ inA (fA ad) 29 oa) (v1 : Int32) (σ : SG) (f : Nat → Int64) (Q : Int32 → SG → (Nat → Int64) → Prop) (h : q_Law_charge v1 σ f Q) : Met l y_Law_charge (.codeWith y_Law_charge method_9_code 4 (some .int) [(0, 16, 19, 31)] :: TG) { frames := 7, cells := 1, slots := 6, locals := 103 } (va_Pc [.ref (ad 0 0), .int v1, .ref oa] (lB D (tysL cI cZ cJ) (W_X2 ad cI cZ σ oa cJ f))) (va_Qi (S := SG × (Nat → Int64)) (fun r u => Q r u.1 u.2) (fun u t => va_P D classes (W_X2 ad cI cZ u.1 oa cJ u.2) t.heap) (A2 ad oa)) 1 6 (A2 ad oa) := by
  refine mt_with (cc := method_9_code) (maxL := 4) (ret := (some .int)) (hh := [(0, 16, 19, 31)]) (by decide) rfl ?_
  intro p e s m args below meth c s₁ B hml htab hv
  obtain ⟨rfl, hP, hK, hth, hnc⟩ := hv
  have hx := B.exec
  have hb := B.bytes
  have hr := B.returns
  have hts : ∀ w ∈ TG, w.before [.ref (ad 0 0), .int v1, .ref oa].toArray s = true := fun w hw => atoms_spec (ws := .codeWith y_Law_charge method_9_code 4 (some .int) [(0, 16, 19, 31)] :: TG) B.pre w (List.mem_cons_of_mem _ hw)
  have hown : s.vm.findClass "CarrierPathsLaw" = some m.cls := findClass_of_methodNamed B.named
  have hlocks := B.notSynchronized
  have hS : va_S (A2 ad oa) s.heap s.heap [] := va_S.rf
  have hl := lv_entry ([.ref (ad 0 0), .int v1, .ref oa]) (n := 4) (Nat.le_of_ble_eq_true rfl)
  rw [lg_entry_eq]
  generalize (lg_sl ([.ref (ad 0 0), .int v1, .ref oa]) ++ List.replicate (4 - (lg_sl ([.ref (ad 0 0), .int v1, .ref oa])).length) Slot.unset).toArray = ls at hl ⊢
  have hl : lv_has ls 4 [(0, .ref (ad 0 0)), (1, .int v1), (2, .ref oa)] := hl
  obtain ⟨x1, hsp, e1, e2, e3, e4⟩ := tab1 htab
  unfold q_Law_charge at h
  refine lv_aload_n hx hb d_Law_charge_0 rfl (lv_at hl 2 rfl) ?_
  refine lv_iconst (v := 0) hx hb d_Law_charge_1 (by decide) ?_
  refine lv_aload_n hx hb d_Law_charge_2 rfl (lv_at hl 0 rfl) ?_
  refine lv_iload_n hx hb d_Law_charge_3 rfl (lv_at hl 1 rfl) ?_
  have hPf : va_P D classes (W_Face ad cI cZ σ) s.heap := hP.sub [0, 1, 2, 3, 4, 5, 6, 7, 8, 9, 10, 11, 12, 13, 14, 15, 16, 17, 18, 19, 20, 21, 22, 23, 24, 25, 26, 27, 28] rfl
  have hKf := hK.sub (tys' := tysA cI cZ) [0, 1] rfl
  refine x_runV (As := [.int v1]) (rest := [.int 0, .ref oa]) ⟨hx, hb, hml, hown, hts⟩ (t_Face_charge l hst D cI cZ ad inj v1 σ _ _ h) (cwV 1 hts (g_of kw676 kw677 kw678 kw1 kw679) rfl rfl rfl (by decide +kernel) ⟨Nat.le_of_ble_eq_true rfl, Nat.le_of_ble_eq_true rfl⟩) (x_pre hKf hPf hth (va_recv hKf hPf (ci := 6) (q0 := 0) rfl rfl)) rfl rfl hl.1 rfl (lv_room (Nat.le_of_ble_eq_true rfl)) d_Law_charge_4 ⟨Nat.le_of_ble_eq_true rfl, Nat.le_of_ble_eq_true rfl⟩ (fun v st0 t L hH ha hq hL => ?_) (fun q E ce st0 t L hH ha hq hce hcv hcl hL => ?_)
  · obtain ⟨⟨r, u, hv, h, hP1⟩, hF⟩ := hq
    cases hv
    have hP := x2_join hoa hH hP hF hP1
    have hS := x2_S hS hH (fun _ h => Or.inl h) hF hL
    generalize t.heap = H at hP hS ⊢
    refine W.eq (g2 := F0 m 7 ls [.int r, .int 0, .ref oa]) rfl ?_
    refine lv_if_eq (tgt := 14) hx hb d_Law_charge_7 (by decide) (fun hc => ?_) (fun hc => ?_)
    · rw [if_pos hc] at h
      refine lv_lconst (v := 0) hx hb d_Law_charge_14 (by decide) ?_
      refine va_last hx hb hK hP (D_X2 inj hoa) hS 29 2 rfl rfl (by unfold vp_in; decide) d_Law_charge_15 (fun H locs hP _ hS => ?_)
      have hP := up_X2 hP
      refine lv_goto (tgt := 22) hx hb d_Law_charge_16 (by decide) ?_
      refine lv_iconst (v := 0) hx hb d_Law_charge_22 (by decide) ?_
      exact W.iret (v := 0) hx hb hr (fun t ht hW => ⟨⟨0, (u, vp_updL f 0 0), rfl, h, hp_back ht hP⟩, hS.F ht⟩) hS.2.2 d_Law_charge_23
    · rw [if_neg hc] at h
      refine lv_lconst (v := 1) hx hb d_Law_charge_10 (by decide) ?_
      refine lv_goto (tgt := 15) hx hb d_Law_charge_11 (by decide) ?_
      refine va_last hx hb hK hP (D_X2 inj hoa) hS 29 2 rfl rfl (by unfold vp_in; decide) d_Law_charge_15 (fun H locs hP _ hS => ?_)
      have hP := up_X2 hP
      refine lv_goto (tgt := 22) hx hb d_Law_charge_16 (by decide) ?_
      refine lv_iconst (v := 0) hx hb d_Law_charge_22 (by decide) ?_
      exact W.iret (v := 0) hx hb hr (fun t ht hW => ⟨⟨0, (u, vp_updL f 0 1), rfl, h, hp_back ht hP⟩, hS.F ht⟩) hS.2.2 d_Law_charge_23
  · obtain ⟨u, hX, hP1, hF⟩ := hq
    have hP := x2_join hoa hH hP hF hP1
    have hS := x2_S hS hH (fun _ h => Or.inl h) hF hL
    generalize t.heap = H at hP hS hce ⊢
    obtain ⟨rfl, h⟩ := hX
    refine x_catch (E := "java/lang/IndexOutOfBoundsException") (name := "java/lang/IndexOutOfBoundsException") hown [] x1 [] hsp (fun z hz => nomatch hz) (by simp [covers, e1, e2]) (by rw [e4]; decide) (by rw [e4]; exact hts _ kw562) (hth.1 _ (by simp [XW]) _) hce hcv hcl ?_
    rw [e3]
    refine lv_astore_n (lv' := [(3, .ref q), (0, .ref (ad 0 0)), (1, .int v1), (2, .ref oa)]) hx hb d_Law_charge_19 rfl hl (by decide) rfl (fun ls hl => ?_)
    refine lv_iconst (v := 1) hx hb d_Law_charge_20 (by decide) ?_
    exact W.iret (v := 1) hx hb hr (fun t ht hW => ⟨⟨1, (u, f), rfl, h, hp_back ht hP⟩, hS.F ht⟩) hS.2.2 d_Law_charge_21
abbrev y_Law_way : MethodName := ⟨"CarrierPathsLaw", "way", "(LCarrierPaths;III[J)I"⟩
def q_Law_way (v1 v2 v3 : Int32) (σ : SG) (f : Nat → Int64) (Q : Int32 → SG → (Nat → Int64) → Prop) : Prop :=
  q_Face_way v1 v2 v3 σ (fun r u => Q 0 u (vp_updL f 0 r.toInt64)) (fun E u => (E = "java/lang/IllegalArgumentException" ∧ Q 1 u f))
set_option maxHeartbeats 4000000 in
set_option maxRecDepth 100000 in
theorem t_Law_way (l : Launch) (hst : l.stackTraces = false) (D : va_G) (cI cZ cJ : ClassId) (ad : Nat → Nat → Nat) (inj : Inj (fA ad) 29) (oa : Nat) (hoa : ¬ inA (fA ad) 29 oa) (v1 v2 v3 : Int32) (σ : SG) (f : Nat → Int64) (Q : Int32 → SG → (Nat → Int64) → Prop) (h : q_Law_way v1 v2 v3 σ f Q) : Met l y_Law_way (.codeWith y_Law_way method_10_code 6 (some .int) [(0, 12, 15, 13)] :: TG) { frames := 7, cells := 1, slots := 6, locals := 105 } (va_Pc [.ref (ad 0 0), .int v1, .int v2, .int v3, .ref oa] (lB D (tysL cI cZ cJ) (W_X2 ad cI cZ σ oa cJ f))) (va_Qi (S := SG × (Nat → Int64)) (fun r u => Q r u.1 u.2) (fun u t => va_P D classes (W_X2 ad cI cZ u.1 oa cJ u.2) t.heap) (A2 ad oa)) 1 6 (A2 ad oa) := by
  refine mt_with (cc := method_10_code) (maxL := 6) (ret := (some .int)) (hh := [(0, 12, 15, 13)]) (by decide) rfl ?_
  intro p e s m args below meth c s₁ B hml htab hv
  obtain ⟨rfl, hP, hK, hth, hnc⟩ := hv
  have hx := B.exec
  have hb := B.bytes
  have hr := B.returns
  have hts : ∀ w ∈ TG, w.before [.ref (ad 0 0), .int v1, .int v2, .int v3, .ref oa].toArray s = true := fun w hw => atoms_spec (ws := .codeWith y_Law_way method_10_code 6 (some .int) [(0, 12, 15, 13)] :: TG) B.pre w (List.mem_cons_of_mem _ hw)
  have hown : s.vm.findClass "CarrierPathsLaw" = some m.cls := findClass_of_methodNamed B.named
  have hlocks := B.notSynchronized
  have hS : va_S (A2 ad oa) s.heap s.heap [] := va_S.rf
  have hl := lv_entry ([.ref (ad 0 0), .int v1, .int v2, .int v3, .ref oa]) (n := 6) (Nat.le_of_ble_eq_true rfl)
  rw [lg_entry_eq]
  generalize (lg_sl ([.ref (ad 0 0), .int v1, .int v2, .int v3, .ref oa]) ++ List.replicate (6 - (lg_sl ([.ref (ad 0 0), .int v1, .int v2, .int v3, .ref oa])).length) Slot.unset).toArray = ls at hl ⊢
  have hl : lv_has ls 6 [(0, .ref (ad 0 0)), (1, .int v1), (2, .int v2), (3, .int v3), (4, .ref oa)] := hl
  obtain ⟨x1, hsp, e1, e2, e3, e4⟩ := tab1 htab
  unfold q_Law_way at h
  refine lv_aload hx hb d_Law_way_0 (lv_at hl 4 rfl) ?_
  refine lv_iconst (v := 0) hx hb d_Law_way_2 (by decide) ?_
  refine lv_aload_n hx hb d_Law_way_3 rfl (lv_at hl 0 rfl) ?_
  refine lv_iload_n hx hb d_Law_way_4 rfl (lv_at hl 1 rfl) ?_
  refine lv_iload_n hx hb d_Law_way_5 rfl (lv_at hl 2 rfl) ?_
  refine lv_iload_n hx hb d_Law_way_6 rfl (lv_at hl 3 rfl) ?_
  have hPf : va_P D classes (W_Face ad cI cZ σ) s.heap := hP.sub [0, 1, 2, 3, 4, 5, 6, 7, 8, 9, 10, 11, 12, 13, 14, 15, 16, 17, 18, 19, 20, 21, 22, 23, 24, 25, 26, 27, 28] rfl
  have hKf := hK.sub (tys' := tysA cI cZ) [0, 1] rfl
  refine x_runV (As := [.int v1, .int v2, .int v3]) (rest := [.int 0, .ref oa]) ⟨hx, hb, hml, hown, hts⟩ (t_Face_way l hst D cI cZ ad inj v1 v2 v3 σ _ _ h) (cwV 3 hts (g_of kw687 kw688 kw689 kw1 kw690) rfl rfl rfl (by decide +kernel) ⟨Nat.le_of_ble_eq_true rfl, Nat.le_of_ble_eq_true rfl⟩) (x_pre hKf hPf hth (va_recv hKf hPf (ci := 6) (q0 := 0) rfl rfl)) rfl rfl hl.1 rfl (lv_room (Nat.le_of_ble_eq_true rfl)) d_Law_way_7 ⟨Nat.le_of_ble_eq_true rfl, Nat.le_of_ble_eq_true rfl⟩ (fun v st0 t L hH ha hq hL => ?_) (fun q E ce st0 t L hH ha hq hce hcv hcl hL => ?_)
  · obtain ⟨⟨r, u, hv, h, hP1⟩, hF⟩ := hq
    cases hv
    have hP := x2_join hoa hH hP hF hP1
    have hS := x2_S hS hH (fun _ h => Or.inl h) hF hL
    generalize t.heap = H at hP hS ⊢
    refine W.eq (g2 := F0 m 10 ls [.int r, .int 0, .ref oa]) rfl ?_
    refine lv_i2l (v := r.toInt64) hx hb d_Law_way_10 rfl ?_
    refine va_last hx hb hK hP (D_X2 inj hoa) hS 29 2 rfl rfl (by unfold vp_in; decide) d_Law_way_11 (fun H locs hP _ hS => ?_)
    have hP := up_X2 hP
    refine lv_goto (tgt := 19) hx hb d_Law_way_12 (by decide) ?_
    refine lv_iconst (v := 0) hx hb d_Law_way_19 (by decide) ?_
    exact W.iret (v := 0) hx hb hr (fun t ht hW => ⟨⟨0, (u, vp_updL f 0 r.toInt64), rfl, h, hp_back ht hP⟩, hS.F ht⟩) hS.2.2 d_Law_way_20
  · obtain ⟨u, hX, hP1, hF⟩ := hq
    have hP := x2_join hoa hH hP hF hP1
    have hS := x2_S hS hH (fun _ h => Or.inl h) hF hL
    generalize t.heap = H at hP hS hce ⊢
    obtain ⟨rfl, h⟩ := hX
    refine x_catch (E := "java/lang/IllegalArgumentException") (name := "java/lang/IllegalArgumentException") hown [] x1 [] hsp (fun z hz => nomatch hz) (by simp [covers, e1, e2]) (by rw [e4]; decide) (by rw [e4]; exact hts _ kw412) (hth.1 _ (by simp [XW]) _) hce hcv hcl ?_
    rw [e3]
    refine lv_astore (lv' := [(5, .ref q), (0, .ref (ad 0 0)), (1, .int v1), (2, .int v2), (3, .int v3), (4, .ref oa)]) hx hb d_Law_way_15 hl (by decide) rfl (fun ls hl => ?_)
    refine lv_iconst (v := 1) hx hb d_Law_way_17 (by decide) ?_
    exact W.iret (v := 1) hx hb hr (fun t ht hW => ⟨⟨1, (u, f), rfl, h, hp_back ht hP⟩, hS.F ht⟩) hS.2.2 d_Law_way_18
abbrev y_Law_look : MethodName := ⟨"CarrierPathsLaw", "look", "(LCarrierPaths;II[J)I"⟩
def q_Law_look (v1 v2 : Int32) (σ : SG) (f : Nat → Int64) (Q : Int32 → SG → (Nat → Int64) → Prop) : Prop :=
  q_Face_look v1 v2 σ (fun r u => Q 0 u (vp_updL f 0 r.toInt64)) (fun E u => (E = "java/lang/IndexOutOfBoundsException" ∧ Q 1 u f))
set_option maxHeartbeats 4000000 in
set_option maxRecDepth 100000 in
theorem t_Law_look (l : Launch) (hst : l.stackTraces = false) (D : va_G) (cI cZ cJ : ClassId) (ad : Nat → Nat → Nat) (inj : Inj (fA ad) 29) (oa : Nat) (hoa : ¬ inA (fA ad) 29 oa) (v1 v2 : Int32) (σ : SG) (f : Nat → Int64) (Q : Int32 → SG → (Nat → Int64) → Prop) (h : q_Law_look v1 v2 σ f Q) : Met l y_Law_look (.codeWith y_Law_look method_11_code 5 (some .int) [(0, 10, 13, 31)] :: TG) { frames := 7, cells := 1, slots := 6, locals := 104 } (va_Pc [.ref (ad 0 0), .int v1, .int v2, .ref oa] (lB D (tysL cI cZ cJ) (W_X2 ad cI cZ σ oa cJ f))) (va_Qi (S := SG × (Nat → Int64)) (fun r u => Q r u.1 u.2) (fun u t => va_P D classes (W_X2 ad cI cZ u.1 oa cJ u.2) t.heap) (A2 ad oa)) 1 6 (A2 ad oa) := by
  refine mt_with (cc := method_11_code) (maxL := 5) (ret := (some .int)) (hh := [(0, 10, 13, 31)]) (by decide) rfl ?_
  intro p e s m args below meth c s₁ B hml htab hv
  obtain ⟨rfl, hP, hK, hth, hnc⟩ := hv
  have hx := B.exec
  have hb := B.bytes
  have hr := B.returns
  have hts : ∀ w ∈ TG, w.before [.ref (ad 0 0), .int v1, .int v2, .ref oa].toArray s = true := fun w hw => atoms_spec (ws := .codeWith y_Law_look method_11_code 5 (some .int) [(0, 10, 13, 31)] :: TG) B.pre w (List.mem_cons_of_mem _ hw)
  have hown : s.vm.findClass "CarrierPathsLaw" = some m.cls := findClass_of_methodNamed B.named
  have hlocks := B.notSynchronized
  have hS : va_S (A2 ad oa) s.heap s.heap [] := va_S.rf
  have hl := lv_entry ([.ref (ad 0 0), .int v1, .int v2, .ref oa]) (n := 5) (Nat.le_of_ble_eq_true rfl)
  rw [lg_entry_eq]
  generalize (lg_sl ([.ref (ad 0 0), .int v1, .int v2, .ref oa]) ++ List.replicate (5 - (lg_sl ([.ref (ad 0 0), .int v1, .int v2, .ref oa])).length) Slot.unset).toArray = ls at hl ⊢
  have hl : lv_has ls 5 [(0, .ref (ad 0 0)), (1, .int v1), (2, .int v2), (3, .ref oa)] := hl
  obtain ⟨x1, hsp, e1, e2, e3, e4⟩ := tab1 htab
  unfold q_Law_look at h
  refine lv_aload_n hx hb d_Law_look_0 rfl (lv_at hl 3 rfl) ?_
  refine lv_iconst (v := 0) hx hb d_Law_look_1 (by decide) ?_
  refine lv_aload_n hx hb d_Law_look_2 rfl (lv_at hl 0 rfl) ?_
  refine lv_iload_n hx hb d_Law_look_3 rfl (lv_at hl 1 rfl) ?_
  refine lv_iload_n hx hb d_Law_look_4 rfl (lv_at hl 2 rfl) ?_
  have hPf : va_P D classes (W_Face ad cI cZ σ) s.heap := hP.sub [0, 1, 2, 3, 4, 5, 6, 7, 8, 9, 10, 11, 12, 13, 14, 15, 16, 17, 18, 19, 20, 21, 22, 23, 24, 25, 26, 27, 28] rfl
  have hKf := hK.sub (tys' := tysA cI cZ) [0, 1] rfl
  refine x_runV (As := [.int v1, .int v2]) (rest := [.int 0, .ref oa]) ⟨hx, hb, hml, hown, hts⟩ (t_Face_look l hst D cI cZ ad inj v1 v2 σ _ _ h) (cwV 2 hts (g_of kw705 kw706 kw707 kw1 kw708) rfl rfl rfl (by decide +kernel) ⟨Nat.le_of_ble_eq_true rfl, Nat.le_of_ble_eq_true rfl⟩) (x_pre hKf hPf hth (va_recv hKf hPf (ci := 6) (q0 := 0) rfl rfl)) rfl rfl hl.1 rfl (lv_room (Nat.le_of_ble_eq_true rfl)) d_Law_look_5 ⟨Nat.le_of_ble_eq_true rfl, Nat.le_of_ble_eq_true rfl⟩ (fun v st0 t L hH ha hq hL => ?_) (fun q E ce st0 t L hH ha hq hce hcv hcl hL => ?_)
  · obtain ⟨⟨r, u, hv, h, hP1⟩, hF⟩ := hq
    cases hv
    have hP := x2_join hoa hH hP hF hP1
    have hS := x2_S hS hH (fun _ h => Or.inl h) hF hL
    generalize t.heap = H at hP hS ⊢
    refine W.eq (g2 := F0 m 8 ls [.int r, .int 0, .ref oa]) rfl ?_
    refine lv_i2l (v := r.toInt64) hx hb d_Law_look_8 rfl ?_
    refine va_last hx hb hK hP (D_X2 inj hoa) hS 29 2 rfl rfl (by unfold vp_in; decide) d_Law_look_9 (fun H locs hP _ hS => ?_)
    have hP := up_X2 hP
    refine lv_goto (tgt := 17) hx hb d_Law_look_10 (by decide) ?_
    refine lv_iconst (v := 0) hx hb d_Law_look_17 (by decide) ?_
    exact W.iret (v := 0) hx hb hr (fun t ht hW => ⟨⟨0, (u, vp_updL f 0 r.toInt64), rfl, h, hp_back ht hP⟩, hS.F ht⟩) hS.2.2 d_Law_look_18
  · obtain ⟨u, hX, hP1, hF⟩ := hq
    have hP := x2_join hoa hH hP hF hP1
    have hS := x2_S hS hH (fun _ h => Or.inl h) hF hL
    generalize t.heap = H at hP hS hce ⊢
    obtain ⟨rfl, h⟩ := hX
    refine x_catch (E := "java/lang/IndexOutOfBoundsException") (name := "java/lang/IndexOutOfBoundsException") hown [] x1 [] hsp (fun z hz => nomatch hz) (by simp [covers, e1, e2]) (by rw [e4]; decide) (by rw [e4]; exact hts _ kw562) (hth.1 _ (by simp [XW]) _) hce hcv hcl ?_
    rw [e3]
    refine lv_astore (lv' := [(4, .ref q), (0, .ref (ad 0 0)), (1, .int v1), (2, .int v2), (3, .ref oa)]) hx hb d_Law_look_13 hl (by decide) rfl (fun ls hl => ?_)
    refine lv_iconst (v := 1) hx hb d_Law_look_15 (by decide) ?_
    exact W.iret (v := 1) hx hb hr (fun t ht hW => ⟨⟨1, (u, f), rfl, h, hp_back ht hP⟩, hS.F ht⟩) hS.2.2 d_Law_look_16
abbrev y_Law_of : MethodName := ⟨"CarrierPathsLaw", "of", "(LCarrierPaths;II[J)I"⟩
def q_Law_of (v1 v2 : Int32) (σ : SG) (f : Nat → Int64) (Q : Int32 → SG → (Nat → Int64) → Prop) : Prop :=
  q_Face_of v1 v2 σ (fun r u => Q 0 u (vp_updL f 0 r.toInt64)) (fun E u => (E = "java/lang/IndexOutOfBoundsException" ∧ Q 1 u f))
set_option maxHeartbeats 4000000 in
set_option maxRecDepth 100000 in
theorem t_Law_of (l : Launch) (hst : l.stackTraces = false) (D : va_G) (cI cZ cJ : ClassId) (ad : Nat → Nat → Nat) (inj : Inj (fA ad) 29) (oa : Nat) (hoa : ¬ inA (fA ad) 29 oa) (v1 v2 : Int32) (σ : SG) (f : Nat → Int64) (Q : Int32 → SG → (Nat → Int64) → Prop) (h : q_Law_of v1 v2 σ f Q) : Met l y_Law_of (.codeWith y_Law_of method_12_code 5 (some .int) [(0, 10, 13, 31)] :: TG) { frames := 7, cells := 1, slots := 6, locals := 104 } (va_Pc [.ref (ad 0 0), .int v1, .int v2, .ref oa] (lB D (tysL cI cZ cJ) (W_X2 ad cI cZ σ oa cJ f))) (va_Qi (S := SG × (Nat → Int64)) (fun r u => Q r u.1 u.2) (fun u t => va_P D classes (W_X2 ad cI cZ u.1 oa cJ u.2) t.heap) (A2 ad oa)) 1 6 (A2 ad oa) := by
  refine mt_with (cc := method_12_code) (maxL := 5) (ret := (some .int)) (hh := [(0, 10, 13, 31)]) (by decide) rfl ?_
  intro p e s m args below meth c s₁ B hml htab hv
  obtain ⟨rfl, hP, hK, hth, hnc⟩ := hv
  have hx := B.exec
  have hb := B.bytes
  have hr := B.returns
  have hts : ∀ w ∈ TG, w.before [.ref (ad 0 0), .int v1, .int v2, .ref oa].toArray s = true := fun w hw => atoms_spec (ws := .codeWith y_Law_of method_12_code 5 (some .int) [(0, 10, 13, 31)] :: TG) B.pre w (List.mem_cons_of_mem _ hw)
  have hown : s.vm.findClass "CarrierPathsLaw" = some m.cls := findClass_of_methodNamed B.named
  have hlocks := B.notSynchronized
  have hS : va_S (A2 ad oa) s.heap s.heap [] := va_S.rf
  have hl := lv_entry ([.ref (ad 0 0), .int v1, .int v2, .ref oa]) (n := 5) (Nat.le_of_ble_eq_true rfl)
  rw [lg_entry_eq]
  generalize (lg_sl ([.ref (ad 0 0), .int v1, .int v2, .ref oa]) ++ List.replicate (5 - (lg_sl ([.ref (ad 0 0), .int v1, .int v2, .ref oa])).length) Slot.unset).toArray = ls at hl ⊢
  have hl : lv_has ls 5 [(0, .ref (ad 0 0)), (1, .int v1), (2, .int v2), (3, .ref oa)] := hl
  obtain ⟨x1, hsp, e1, e2, e3, e4⟩ := tab1 htab
  unfold q_Law_of at h
  refine lv_aload_n hx hb d_Law_of_0 rfl (lv_at hl 3 rfl) ?_
  refine lv_iconst (v := 0) hx hb d_Law_of_1 (by decide) ?_
  refine lv_aload_n hx hb d_Law_of_2 rfl (lv_at hl 0 rfl) ?_
  refine lv_iload_n hx hb d_Law_of_3 rfl (lv_at hl 1 rfl) ?_
  refine lv_iload_n hx hb d_Law_of_4 rfl (lv_at hl 2 rfl) ?_
  have hPf : va_P D classes (W_Face ad cI cZ σ) s.heap := hP.sub [0, 1, 2, 3, 4, 5, 6, 7, 8, 9, 10, 11, 12, 13, 14, 15, 16, 17, 18, 19, 20, 21, 22, 23, 24, 25, 26, 27, 28] rfl
  have hKf := hK.sub (tys' := tysA cI cZ) [0, 1] rfl
  refine x_runV (As := [.int v1, .int v2]) (rest := [.int 0, .ref oa]) ⟨hx, hb, hml, hown, hts⟩ (t_Face_of l hst D cI cZ ad inj v1 v2 σ _ _ h) (cwV 2 hts (g_of kw728 kw729 kw730 kw1 kw731) rfl rfl rfl (by decide +kernel) ⟨Nat.le_of_ble_eq_true rfl, Nat.le_of_ble_eq_true rfl⟩) (x_pre hKf hPf hth (va_recv hKf hPf (ci := 6) (q0 := 0) rfl rfl)) rfl rfl hl.1 rfl (lv_room (Nat.le_of_ble_eq_true rfl)) d_Law_of_5 ⟨Nat.le_of_ble_eq_true rfl, Nat.le_of_ble_eq_true rfl⟩ (fun v st0 t L hH ha hq hL => ?_) (fun q E ce st0 t L hH ha hq hce hcv hcl hL => ?_)
  · obtain ⟨⟨r, u, hv, h, hP1⟩, hF⟩ := hq
    cases hv
    have hP := x2_join hoa hH hP hF hP1
    have hS := x2_S hS hH (fun _ h => Or.inl h) hF hL
    generalize t.heap = H at hP hS ⊢
    refine W.eq (g2 := F0 m 8 ls [.int r, .int 0, .ref oa]) rfl ?_
    refine lv_i2l (v := r.toInt64) hx hb d_Law_of_8 rfl ?_
    refine va_last hx hb hK hP (D_X2 inj hoa) hS 29 2 rfl rfl (by unfold vp_in; decide) d_Law_of_9 (fun H locs hP _ hS => ?_)
    have hP := up_X2 hP
    refine lv_goto (tgt := 17) hx hb d_Law_of_10 (by decide) ?_
    refine lv_iconst (v := 0) hx hb d_Law_of_17 (by decide) ?_
    exact W.iret (v := 0) hx hb hr (fun t ht hW => ⟨⟨0, (u, vp_updL f 0 r.toInt64), rfl, h, hp_back ht hP⟩, hS.F ht⟩) hS.2.2 d_Law_of_18
  · obtain ⟨u, hX, hP1, hF⟩ := hq
    have hP := x2_join hoa hH hP hF hP1
    have hS := x2_S hS hH (fun _ h => Or.inl h) hF hL
    generalize t.heap = H at hP hS hce ⊢
    obtain ⟨rfl, h⟩ := hX
    refine x_catch (E := "java/lang/IndexOutOfBoundsException") (name := "java/lang/IndexOutOfBoundsException") hown [] x1 [] hsp (fun z hz => nomatch hz) (by simp [covers, e1, e2]) (by rw [e4]; decide) (by rw [e4]; exact hts _ kw562) (hth.1 _ (by simp [XW]) _) hce hcv hcl ?_
    rw [e3]
    refine lv_astore (lv' := [(4, .ref q), (0, .ref (ad 0 0)), (1, .int v1), (2, .int v2), (3, .ref oa)]) hx hb d_Law_of_13 hl (by decide) rfl (fun ls hl => ?_)
    refine lv_iconst (v := 1) hx hb d_Law_of_15 (by decide) ?_
    exact W.iret (v := 1) hx hb hr (fun t ht hW => ⟨⟨1, (u, f), rfl, h, hp_back ht hP⟩, hS.F ht⟩) hS.2.2 d_Law_of_16
