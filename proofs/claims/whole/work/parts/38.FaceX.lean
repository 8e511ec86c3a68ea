def q_Face_piece (v1 v2 v3 : Int32) (σ : SG) (Q : (Int32 → SG → Prop)) (X : String → SG → Prop) : Prop :=
  (q_Points_areTwo v1 v2 (σ 1) (fun r1 => ((r1 = 0 → X "java/lang/IllegalArgumentException" σ) ∧ (¬ r1 = 0 → ((v3 < 1 → X "java/lang/IllegalArgumentException" σ) ∧ (¬ v3 < 1 → ((v3 ≤ 100 → (q_Roads_size (σ 2) (fun r2 => ((r2 < 30 → (q_Roads_add v1 v2 v3 (σ 2) (fun r4 u3 => Q r4 (setc σ 2 u3)))) ∧ (¬ r2 < 30 → X "java/lang/IllegalStateException" σ))))) ∧ (¬ v3 ≤ 100 → X "java/lang/IllegalArgumentException" σ))))))))
set_option maxHeartbeats 4000000 in
set_option maxRecDepth 100000 in
theorem t_Face_piece (l : Launch) (hst : l.stackTraces = false) (D : va_G) (cI cZ : ClassId) (ad : Nat → Nat → Nat) (inj : Inj (fA ad) 29) (v1 v2 v3 : Int32) (σ : SG) (Q : (Int32 → SG → Prop)) (X : String → SG → Prop) (h : q_Face_piece v1 v2 v3 σ Q X) : xMet l y_Face_piece (.code y_Face_piece prog_1_method_2_code 4 (some .int) :: TG) { frames := 6, cells := 1, slots := 6, locals := 82 } (va_Pc [.ref (ad 0 0), .int v1, .int v2, .int v3] (xB D (tysA cI cZ) (W_Face ad cI cZ σ))) (va_Qi Q (fun u t => va_P D classes (W_Face ad cI cZ u) t.heap) (inA (fA ad) 29)) (xC D ad cI cZ X) 1 6 (inA (fA ad) 29) := by
  refine x_ofW (cc := prog_1_method_2_code) (maxL := 4) (ret := (some .int)) (by decide) rfl ?_
  intro p e s m args below meth c s₁ B hml hnt hv
  obtain ⟨rfl, hP, hK, hth⟩ := hv
  have hx := B.exec
  have hb := B.bytes
  have hr := B.returns
  have hts : ∀ w ∈ TG, w.before [.ref (ad 0 0), .int v1, .int v2, .int v3].toArray s = true := fun w hw => atoms_spec (ws := .code y_Face_piece prog_1_method_2_code 4 (some .int) :: TG) B.pre w (List.mem_cons_of_mem _ hw)
  have hown : s.vm.findClass "CarrierPaths" = some m.cls := findClass_of_methodNamed B.named
  have hlocks := B.notSynchronized
  have hS : va_S (inA (fA ad) 29) s.heap s.heap [] := va_S.rf
  have hl := lv_entry ([.ref (ad 0 0), .int v1, .int v2, .int v3]) (n := 4) (Nat.le_of_ble_eq_true rfl)
  rw [lg_entry_eq]
  generalize (lg_sl ([.ref (ad 0 0), .int v1, .int v2, .int v3]) ++ List.replicate (4 - (lg_sl ([.ref (ad 0 0), .int v1, .int v2, .int v3])).length) Slot.unset).toArray = ls at hl ⊢
  have hl : lv_has ls 4 [(0, .ref (ad 0 0)), (1, .int v1), (2, .int v2), (3, .int v3)] := hl
  unfold q_Face_piece at h
  refine lv_aload_n hx hb d_Face_piece_0 rfl (lv_at hl 0 rfl) ?_
  refine va_get (D := D) (ci := 6) (v := .ref (ad 1 0)) (C := "CarrierPaths") (T := F_Face) (N := 7) hx hb hts in_Face hown hK hP 0 rfl rfl 0 (by decide) (hts _ kw172) (fun _ h9 => h9) rfl d_Face_piece_1 ?_
  refine lv_iload_n hx hb d_Face_piece_4 rfl (lv_at hl 1 rfl) ?_
  refine lv_iload_n hx hb d_Face_piece_5 rfl (lv_at hl 2 rfl) ?_
  refine vp_callSi (W.runV (As := [.int v1, .int v2]) (rest := []) ⟨hx, hb, hml, hown, hts⟩ (t_Points_areTwo l D cI cZ (ad 1) v1 v2 (σ 1) _ h) (cwV 2 hts (g_of kw418 kw419 kw420 kw3 kw421) rfl rfl rfl (by decide +kernel) ⟨Nat.le_of_ble_eq_true rfl, Nat.le_of_ble_eq_true rfl⟩) (ro_pre hK (pt_Points hP) (va_recv hK (pt_Points hP) (ci := 3) (q0 := 0) rfl rfl)) rfl rfl hl.1 rfl (lv_room (Nat.le_of_ble_eq_true rfl)) d_Face_piece_6 ⟨Nat.le_of_ble_eq_true rfl, Nat.le_of_ble_eq_true rfl⟩) (fun r1 h => ?_)
  refine lv_if_ne (tgt := 22) hx hb d_Face_piece_9 (by decide) (fun hc => ?_) (fun hc => ?_)
  · have h := h.2 hc
    refine lv_iload_n hx hb d_Face_piece_22 rfl (lv_at hl 3 rfl) ?_
    refine lv_iconst (v := 1) hx hb d_Face_piece_23 (by decide) ?_
    refine lv_icmp_lt (tgt := 33) hx hb d_Face_piece_24 (by decide) (fun hc => ?_) (fun hc => ?_)
    · have h := h.1 hc
      obtain ⟨sa, hsa⟩ := hth.2 (77, "no such time") (by decide)
      exact x_throw hx hb hst (names := xN) hown (by decide +kernel) (by decide +kernel) (hts _ kw423) (hts _ kw13) (hts _ kw424) hsa (xo_of xl_a hts kw465 (fun w hw => hth.1 w hw _)) (hl.1.trans hml.symm) d_Face_piece_33 d_Face_piece_36 d_Face_piece_37 d_Face_piece_39 d_Face_piece_42 hnt (by decide) (by decide) (by decide) (by decide) hlocks (fun t ha hz hq => x_thrown h hP hz hq)
    · have h := h.2 hc
      refine lv_iload_n hx hb d_Face_piece_27 rfl (lv_at hl 3 rfl) ?_
      refine lv_bipush (v := 100) hx hb d_Face_piece_28 (by decide) ?_
      refine lv_icmp_le (tgt := 43) hx hb d_Face_piece_30 (by decide) (fun hc => ?_) (fun hc => ?_)
      · have h := h.1 hc
        refine lv_aload_n hx hb d_Face_piece_43 rfl (lv_at hl 0 rfl) ?_
        refine va_get (D := D) (ci := 6) (v := .ref (ad 2 0)) (C := "CarrierPaths") (T := F_Face) (N := 7) hx hb hts in_Face hown hK hP 0 rfl rfl 1 (by decide) (hts _ kw173) (fun _ h9 => h9) rfl d_Face_piece_44 ?_
        refine vp_callSi (W.runV (As := []) (rest := []) ⟨hx, hb, hml, hown, hts⟩ (t_Roads_size l D cI cZ (ad 2) (σ 2) _ h) (cwV 0 hts (g_of kw368 kw369 kw370 kw4 kw371) rfl rfl rfl (by decide +kernel) ⟨Nat.le_of_ble_eq_true rfl, Nat.le_of_ble_eq_true rfl⟩) (ro_pre hK (pt_Roads hP) (va_recv hK (pt_Roads hP) (ci := 5) (q0 := 0) rfl rfl)) rfl rfl hl.1 rfl (lv_room (Nat.le_of_ble_eq_true rfl)) d_Face_piece_47 ⟨Nat.le_of_ble_eq_true rfl, Nat.le_of_ble_eq_true rfl⟩) (fun r2 h => ?_)
        refine lv_bipush (v := 30) hx hb d_Face_piece_50 (by decide) ?_
        refine lv_icmp_lt (tgt := 65) hx hb d_Face_piece_52 (by decide) (fun hc => ?_) (fun hc => ?_)
        · have h := h.1 hc
          refine lv_aload_n hx hb d_Face_piece_65 rfl (lv_at hl 0 rfl) ?_
          refine va_get (D := D) (ci := 6) (v := .ref (ad 2 0)) (C := "CarrierPaths") (T := F_Face) (N := 7) hx hb hts in_Face hown hK hP 0 rfl rfl 1 (by decide) (hts _ kw173) (fun _ h9 => h9) rfl d_Face_piece_66 ?_
          refine lv_iload_n hx hb d_Face_piece_69 rfl (lv_at hl 1 rfl) ?_
          refine lv_iload_n hx hb d_Face_piece_70 rfl (lv_at hl 2 rfl) ?_
          refine lv_iload_n hx hb d_Face_piece_71 rfl (lv_at hl 3 rfl) ?_
          refine va_calli (va_runV (As := [.int v1, .int v2, .int v3]) (rest := []) ⟨hx, hb, hml, hown, hts⟩ (t_Roads_add l D cI cZ (ad 2) (inj_Roads inj) v1 v2 v3 (σ 2) _ h) (cwV 3 hts (g_of kw508 kw509 kw510 kw4 kw511) rfl rfl rfl (by decide +kernel) ⟨Nat.le_of_ble_eq_true rfl, Nat.le_of_ble_eq_true rfl⟩) (ro_pre hK (pt_Roads hP) (va_recv hK (pt_Roads hP) (ci := 5) (q0 := 0) rfl rfl)) rfl rfl hl.1 rfl (lv_room (Nat.le_of_ble_eq_true rfl)) d_Face_piece_72 ⟨Nat.le_of_ble_eq_true rfl, Nat.le_of_ble_eq_true rfl⟩) hS (fun _ _ h => sub_Roads h) (fun _ h => sub_Roads h) (fun r4 u3 t H1 locs ht _ h hP1 _ hk1 hS => ?_)
          have hP1 : va_P D classes (W_Roads (ad 2) cI cZ u3) H1 := hp_fwd ht hP1
          have hP := join_Roads inj hP hP1 hk1
          generalize H1 = H at hP hS ⊢
          exact x_ret (W.widen (k := 1) (n := 6) (Nat.zero_le _) (Nat.zero_le _) (W.iret (v := r4) hx hb hr (fun t ht hW => ⟨⟨r4, (setc σ 2 u3), rfl, h, hp_back ht hP⟩, hS.F ht⟩) hS.2.2 d_Face_piece_75))
        · have h := h.2 hc
          obtain ⟨sa, hsa⟩ := hth.2 (85, "no more pieces") (by decide)
          exact x_throw hx hb hst (names := xN) hown (by decide +kernel) (by decide +kernel) (hts _ kw492) (hts _ kw14) (hts _ kw493) hsa (xo_of xl_s hts kw502 (fun w hw => hth.1 w hw _)) (hl.1.trans hml.symm) d_Face_piece_55 d_Face_piece_58 d_Face_piece_59 d_Face_piece_61 d_Face_piece_64 hnt (by decide) (by decide) (by decide) (by decide) hlocks (fun t ha hz hq => x_thrown h hP hz hq)
      · have h := h.2 hc
        obtain ⟨sa, hsa⟩ := hth.2 (77, "no such time") (by decide)
        exact x_throw hx hb hst (names := xN) hown (by decide +kernel) (by decide +kernel) (hts _ kw423) (hts _ kw13) (hts _ kw424) hsa (xo_of xl_a hts kw465 (fun w hw => hth.1 w hw _)) (hl.1.trans hml.symm) d_Face_piece_33 d_Face_piece_36 d_Face_piece_37 d_Face_piece_39 d_Face_piece_42 hnt (by decide) (by decide) (by decide) (by decide) hlocks (fun t ha hz hq => x_thrown h hP hz hq)
  · have h := h.1 hc
    obtain ⟨sa, hsa⟩ := hth.2 (72, "not two points") (by decide)
    exact x_throw hx hb hst (names := xN) hown (by decide +kernel) (by decide +kernel) (hts _ kw423) (hts _ kw13) (hts _ kw424) hsa (xo_of xl_a hts kw465 (fun w hw => hth.1 w hw _)) (hl.1.trans hml.symm) d_Face_piece_12 d_Face_piece_15 d_Face_piece_16 d_Face_piece_18 d_Face_piece_21 hnt (by decide) (by decide) (by decide) (by decide) hlocks (fun t ha hz hq => x_thrown h hP hz hq)
def q_Face_ring (v1 : Int32) (σ : SG) (Q : (Int32 → SG → Prop)) (X : String → SG → Prop) : Prop :=
  ((v1 = 0 → X "java/lang/IllegalArgumentException" σ) ∧ (¬ v1 = 0 → (q_Points_asBits (σ 1) (fun r1 => (((v1 &&& (r1 ^^^ (-1))) = 0 → (q_Rings_size (σ 3) (fun r2 => ((r2 < 4 → (q_Rings_add v1 (σ 3) (fun r4 u3 => Q r4 (setc σ 3 u3)))) ∧ (¬ r2 < 4 → X "java/lang/IllegalStateException" σ))))) ∧ (¬ (v1 &&& (r1 ^^^ (-1))) = 0 → X "java/lang/IllegalArgumentException" σ))))))
set_option maxHeartbeats 4000000 in
set_option maxRecDepth 100000 in
theorem t_Face_ring (l : Launch) (hst : l.stackTraces = false) (D : va_G) (cI cZ : ClassId) (ad : Nat → Nat → Nat) (inj : Inj (fA ad) 29) (v1 : Int32) (σ : SG) (Q : (Int32 → SG → Prop)) (X : String → SG → Prop) (h : q_Face_ring v1 σ Q X) : xMet l y_Face_ring (.code y_Face_ring prog_1_method_5_code 2 (some .int) :: TG) { frames := 6, cells := 1, slots := 6, locals := 82 } (va_Pc [.ref (ad 0 0), .int v1] (xB D (tysA cI cZ) (W_Face ad cI cZ σ))) (va_Qi Q (fun u t => va_P D classes (W_Face ad cI cZ u) t.heap) (inA (fA ad) 29)) (xC D ad cI cZ X) 1 6 (inA (fA ad) 29) := by
  refine x_ofW (cc := prog_1_method_5_code) (maxL := 2) (ret := (some .int)) (by decide) rfl ?_
  intro p e s m args below meth c s₁ B hml hnt hv
  obtain ⟨rfl, hP, hK, hth⟩ := hv
  have hx := B.exec
  have hb := B.bytes
  have hr := B.returns
  have hts : ∀ w ∈ TG, w.before [.ref (ad 0 0), .int v1].toArray s = true := fun w hw => atoms_spec (ws := .code y_Face_ring prog_1_method_5_code 2 (some .int) :: TG) B.pre w (List.mem_cons_of_mem _ hw)
  have hown : s.vm.findClass "CarrierPaths" = some m.cls := findClass_of_methodNamed B.named
  have hlocks := B.notSynchronized
  have hS : va_S (inA (fA ad) 29) s.heap s.heap [] := va_S.rf
  have hl := lv_entry ([.ref (ad 0 0), .int v1]) (n := 2) (Nat.le_of_ble_eq_true rfl)
  rw [lg_entry_eq]
  generalize (lg_sl ([.ref (ad 0 0), .int v1]) ++ List.replicate (2 - (lg_sl ([.ref (ad 0 0), .int v1])).length) Slot.unset).toArray = ls at hl ⊢
  have hl : lv_has ls 2 [(0, .ref (ad 0 0)), (1, .int v1)] := hl
  unfold q_Face_ring at h
  refine lv_iload_n hx hb d_Face_ring_0 rfl (lv_at hl 1 rfl) ?_
  refine lv_if_eq (tgt := 18) hx hb d_Face_ring_1 (by decide) (fun hc => ?_) (fun hc => ?_)
  · have h := h.1 hc
    obtain ⟨sa, hsa⟩ := hth.2 (114, "not a set of points") (by decide)
    exact x_throw hx hb hst (names := xN) hown (by decide +kernel) (by decide +kernel) (hts _ kw423) (hts _ kw13) (hts _ kw424) hsa (xo_of xl_a hts kw465 (fun w hw => hth.1 w hw _)) (hl.1.trans hml.symm) d_Face_ring_18 d_Face_ring_21 d_Face_ring_22 d_Face_ring_24 d_Face_ring_27 hnt (by decide) (by decide) (by decide) (by decide) hlocks (fun t ha hz hq => x_thrown h hP hz hq)
  · have h := h.2 hc
    refine lv_iload_n hx hb d_Face_ring_4 rfl (lv_at hl 1 rfl) ?_
    refine lv_aload_n hx hb d_Face_ring_5 rfl (lv_at hl 0 rfl) ?_
    refine va_get (D := D) (ci := 6) (v := .ref (ad 1 0)) (C := "CarrierPaths") (T := F_Face) (N := 7) hx hb hts in_Face hown hK hP 0 rfl rfl 0 (by decide) (hts _ kw172) (fun _ h9 => h9) rfl d_Face_ring_6 ?_
    refine vp_callSi (W.runV (As := []) (rest := [.int v1]) ⟨hx, hb, hml, hown, hts⟩ (t_Points_asBits l D cI cZ (ad 1) (σ 1) _ h) (cwV 0 hts (g_of kw519 kw520 kw521 kw3 kw522) rfl rfl rfl (by decide +kernel) ⟨Nat.le_of_ble_eq_true rfl, Nat.le_of_ble_eq_true rfl⟩) (ro_pre hK (pt_Points hP) (va_recv hK (pt_Points hP) (ci := 3) (q0 := 0) rfl rfl)) rfl rfl hl.1 rfl (lv_room (Nat.le_of_ble_eq_true rfl)) d_Face_ring_9 ⟨Nat.le_of_ble_eq_true rfl, Nat.le_of_ble_eq_true rfl⟩) (fun r1 h => ?_)
    refine lv_iconst (v := (-1)) hx hb d_Face_ring_12 (by decide) ?_
    refine lv_ixor hx hb d_Face_ring_13 ?_
    refine lv_iand hx hb d_Face_ring_14 ?_
    refine lv_if_eq (tgt := 28) hx hb d_Face_ring_15 (by decide) (fun hc => ?_) (fun hc => ?_)
    · have h := h.1 hc
      refine lv_aload_n hx hb d_Face_ring_28 rfl (lv_at hl 0 rfl) ?_
      refine va_get (D := D) (ci := 6) (v := .ref (ad 3 0)) (C := "CarrierPaths") (T := F_Face) (N := 7) hx hb hts in_Face hown hK hP 0 rfl rfl 2 (by decide) (hts _ kw174) (fun _ h9 => h9) rfl d_Face_ring_29 ?_
      refine vp_callSi (W.runV (As := []) (rest := []) ⟨hx, hb, hml, hown, hts⟩ (t_Rings_size l D cI cZ (ad 3) (σ 3) _ h) (cwV 0 hts (g_of kw380 kw381 kw382 kw5 kw383) rfl rfl rfl (by decide +kernel) ⟨Nat.le_of_ble_eq_true rfl, Nat.le_of_ble_eq_true rfl⟩) (ro_pre hK (pt_Rings hP) (va_recv hK (pt_Rings hP) (ci := 4) (q0 := 0) rfl rfl)) rfl rfl hl.1 rfl (lv_room (Nat.le_of_ble_eq_true rfl)) d_Face_ring_32 ⟨Nat.le_of_ble_eq_true rfl, Nat.le_of_ble_eq_true rfl⟩) (fun r2 h => ?_)
      refine lv_iconst (v := 4) hx hb d_Face_ring_35 (by decide) ?_
      refine lv_icmp_lt (tgt := 49) hx hb d_Face_ring_36 (by decide) (fun hc => ?_) (fun hc => ?_)
      · have h := h.1 hc
        refine lv_aload_n hx hb d_Face_ring_49 rfl (lv_at hl 0 rfl) ?_
        refine va_get (D := D) (ci := 6) (v := .ref (ad 3 0)) (C := "CarrierPaths") (T := F_Face) (N := 7) hx hb hts in_Face hown hK hP 0 rfl rfl 2 (by decide) (hts _ kw174) (fun _ h9 => h9) rfl d_Face_ring_50 ?_
        refine lv_iload_n hx hb d_Face_ring_53 rfl (lv_at hl 1 rfl) ?_
        refine va_calli (va_runV (As := [.int v1]) (rest := []) ⟨hx, hb, hml, hown, hts⟩ (t_Rings_add l D cI cZ (ad 3) (inj_Rings inj) v1 (σ 3) _ h) (cwV 1 hts (g_of kw525 kw526 kw527 kw5 kw528) rfl rfl rfl (by decide +kernel) ⟨Nat.le_of_ble_eq_true rfl, Nat.le_of_ble_eq_true rfl⟩) (ro_pre hK (pt_Rings hP) (va_recv hK (pt_Rings hP) (ci := 4) (q0 := 0) rfl rfl)) rfl rfl hl.1 rfl (lv_room (Nat.le_of_ble_eq_true rfl)) d_Face_ring_54 ⟨Nat.le_of_ble_eq_true rfl, Nat.le_of_ble_eq_true rfl⟩) hS (fun _ _ h => sub_Rings h) (fun _ h => sub_Rings h) (fun r4 u3 t H1 locs ht _ h hP1 _ hk1 hS => ?_)
        have hP1 : va_P D classes (W_Rings (ad 3) cI cZ u3) H1 := hp_fwd ht hP1
        have hP := join_Rings inj hP hP1 hk1
        generalize H1 = H at hP hS ⊢
        exact x_ret (W.widen (k := 1) (n := 6) (Nat.zero_le _) (Nat.zero_le _) (W.iret (v := r4) hx hb hr (fun t ht hW => ⟨⟨r4, (setc σ 3 u3), rfl, h, hp_back ht hP⟩, hS.F ht⟩) hS.2.2 d_Face_ring_57))
      · have h := h.2 hc
        obtain ⟨sa, hsa⟩ := hth.2 (117, "no more rings") (by decide)
        exact x_throw hx hb hst (names := xN) hown (by decide +kernel) (by decide +kernel) (hts _ kw492) (hts _ kw14) (hts _ kw493) hsa (xo_of xl_s hts kw502 (fun w hw => hth.1 w hw _)) (hl.1.trans hml.symm) d_Face_ring_39 d_Face_ring_42 d_Face_ring_43 d_Face_ring_45 d_Face_ring_48 hnt (by decide) (by decide) (by decide) (by decide) hlocks (fun t ha hz hq => x_thrown h hP hz hq)
    · have h := h.2 hc
      obtain ⟨sa, hsa⟩ := hth.2 (114, "not a set of points") (by decide)
      exact x_throw hx hb hst (names := xN) hown (by decide +kernel) (by decide +kernel) (hts _ kw423) (hts _ kw13) (hts _ kw424) hsa (xo_of xl_a hts kw465 (fun w hw => hth.1 w hw _)) (hl.1.trans hml.symm) d_Face_ring_18 d_Face_ring_21 d_Face_ring_22 d_Face_ring_24 d_Face_ring_27 hnt (by decide) (by decide) (by decide) (by decide) hlocks (fun t ha hz hq => x_thrown h hP hz hq)
def q_Face_carrier (v1 v2 : Int32) (σ : SG) (Q : (Int32 → SG → Prop)) (X : String → SG → Prop) : Prop :=
  (q_Points_has v1 (σ 1) (fun r1 => ((r1 = 0 → X "java/lang/IllegalArgumentException" σ) ∧ (¬ r1 = 0 → ((v2 < 0 → X "java/lang/IllegalArgumentException" σ) ∧ (¬ v2 < 0 → ((v2 ≤ 1000 → (q_Fleet_size (σ 4) (fun r2 => ((r2 < 6 → (q_Face_isFull v1 σ (fun r3 => ((r3 = 0 → (q_Fleet_add v1 v2 (σ 4) (fun r5 u4 => Q r5 (setc σ 4 u4)))) ∧ (¬ r3 = 0 → Q (-1) σ))))) ∧ (¬ r2 < 6 → X "java/lang/IllegalStateException" σ))))) ∧ (¬ v2 ≤ 1000 → X "java/lang/IllegalArgumentException" σ))))))))
set_option maxHeartbeats 4000000 in
set_option maxRecDepth 100000 in
theorem t_Face_carrier (l : Launch) (hst : l.stackTraces = false) (D : va_G) (cI cZ : ClassId) (ad : Nat → Nat → Nat) (inj : Inj (fA ad) 29) (v1 v2 : Int32) (σ : SG) (Q : (Int32 → SG → Prop)) (X : String → SG → Prop) (h : q_Face_carrier v1 v2 σ Q X) : xMet l y_Face_carrier (.code y_Face_carrier prog_1_method_6_code 3 (some .int) :: TG) { frames := 6, cells := 1, slots := 6, locals := 82 } (va_Pc [.ref (ad 0 0), .int v1, .int v2] (xB D (tysA cI cZ) (W_Face ad cI cZ σ))) (va_Qi Q (fun u t => va_P D classes (W_Face ad cI cZ u) t.heap) (inA (fA ad) 29)) (xC D ad cI cZ X) 1 6 (inA (fA ad) 29) := by
  refine x_ofW (cc := prog_1_method_6_code) (maxL := 3) (ret := (some .int)) (by decide) rfl ?_
  intro p e s m args below meth c s₁ B hml hnt hv
  obtain ⟨rfl, hP, hK, hth⟩ := hv
  have hx := B.exec
  have hb := B.bytes
  have hr := B.returns
  have hts : ∀ w ∈ TG, w.before [.ref (ad 0 0), .int v1, .int v2].toArray s = true := fun w hw => atoms_spec (ws := .code y_Face_carrier prog_1_method_6_code 3 (some .int) :: TG) B.pre w (List.mem_cons_of_mem _ hw)
  have hown : s.vm.findClass "CarrierPaths" = some m.cls := findClass_of_methodNamed B.named
  have hlocks := B.notSynchronized
  have hS : va_S (inA (fA ad) 29) s.heap s.heap [] := va_S.rf
  have hl := lv_entry ([.ref (ad 0 0), .int v1, .int v2]) (n := 3) (Nat.le_of_ble_eq_true rfl)
  rw [lg_entry_eq]
  generalize (lg_sl ([.ref (ad 0 0), .int v1, .int v2]) ++ List.replicate (3 - (lg_sl ([.ref (ad 0 0), .int v1, .int v2])).length) Slot.unset).toArray = ls at hl ⊢
  have hl : lv_has ls 3 [(0, .ref (ad 0 0)), (1, .int v1), (2, .int v2)] := hl
  unfold q_Face_carrier at h
  refine lv_aload_n hx hb d_Face_carrier_0 rfl (lv_at hl 0 rfl) ?_
  refine va_get (D := D) (ci := 6) (v := .ref (ad 1 0)) (C := "CarrierPaths") (T := F_Face) (N := 7) hx hb hts in_Face hown hK hP 0 rfl rfl 0 (by decide) (hts _ kw172) (fun _ h9 => h9) rfl d_Face_carrier_1 ?_
  refine lv_iload_n hx hb d_Face_carrier_4 rfl (lv_at hl 1 rfl) ?_
  refine vp_callSi (W.runV (As := [.int v1]) (rest := []) ⟨hx, hb, hml, hown, hts⟩ (t_Points_has l D cI cZ (ad 1) v1 (σ 1) _ h) (cwV 1 hts (g_of kw198 kw199 kw200 kw3 kw201) rfl rfl rfl (by decide +kernel) ⟨Nat.le_of_ble_eq_true rfl, Nat.le_of_ble_eq_true rfl⟩) (ro_pre hK (pt_Points hP) (va_recv hK (pt_Points hP) (ci := 3) (q0 := 0) rfl rfl)) rfl rfl hl.1 rfl (lv_room (Nat.le_of_ble_eq_true rfl)) d_Face_carrier_5 ⟨Nat.le_of_ble_eq_true rfl, Nat.le_of_ble_eq_true rfl⟩) (fun r1 h => ?_)
  refine lv_if_ne (tgt := 21) hx hb d_Face_carrier_8 (by decide) (fun hc => ?_) (fun hc => ?_)
  · have h := h.2 hc
    refine lv_iload_n hx hb d_Face_carrier_21 rfl (lv_at hl 2 rfl) ?_
    refine lv_if_lt (tgt := 32) hx hb d_Face_carrier_22 (by decide) (fun hc => ?_) (fun hc => ?_)
    · have h := h.1 hc
      obtain ⟨sa, hsa⟩ := hth.2 (123, "no such charge") (by decide)
      exact x_throw hx hb hst (names := xN) hown (by decide +kernel) (by decide +kernel) (hts _ kw423) (hts _ kw13) (hts _ kw424) hsa (xo_of xl_a hts kw465 (fun w hw => hth.1 w hw _)) (hl.1.trans hml.symm) d_Face_carrier_32 d_Face_carrier_35 d_Face_carrier_36 d_Face_carrier_38 d_Face_carrier_41 hnt (by decide) (by decide) (by decide) (by decide) hlocks (fun t ha hz hq => x_thrown h hP hz hq)
    · have h := h.2 hc
      refine lv_iload_n hx hb d_Face_carrier_25 rfl (lv_at hl 2 rfl) ?_
      refine lv_sipush (v := 1000) hx hb d_Face_carrier_26 (by decide) ?_
      refine lv_icmp_le (tgt := 42) hx hb d_Face_carrier_29 (by decide) (fun hc => ?_) (fun hc => ?_)
      · have h := h.1 hc
        refine lv_aload_n hx hb d_Face_carrier_42 rfl (lv_at hl 0 rfl) ?_
        refine va_get (D := D) (ci := 6) (v := .ref (ad 4 0)) (C := "CarrierPaths") (T := F_Face) (N := 7) hx hb hts in_Face hown hK hP 0 rfl rfl 3 (by decide) (hts _ kw175) (fun _ h9 => h9) rfl d_Face_carrier_43 ?_
        refine vp_callSi (W.runV (As := []) (rest := []) ⟨hx, hb, hml, hown, hts⟩ (t_Fleet_size l D cI cZ (ad 4) (σ 4) _ h) (cwV 0 hts (g_of kw234 kw235 kw236 kw6 kw237) rfl rfl rfl (by decide +kernel) ⟨Nat.le_of_ble_eq_true rfl, Nat.le_of_ble_eq_true rfl⟩) (ro_pre hK (pt_Fleet hP) (va_recv hK (pt_Fleet hP) (ci := 1) (q0 := 0) rfl rfl)) rfl rfl hl.1 rfl (lv_room (Nat.le_of_ble_eq_true rfl)) d_Face_carrier_46 ⟨Nat.le_of_ble_eq_true rfl, Nat.le_of_ble_eq_true rfl⟩) (fun r2 h => ?_)
        refine lv_bipush (v := 6) hx hb d_Face_carrier_49 (by decide) ?_
        refine lv_icmp_lt (tgt := 64) hx hb d_Face_carrier_51 (by decide) (fun hc => ?_) (fun hc => ?_)
        · have h := h.1 hc
          refine lv_aload_n hx hb d_Face_carrier_64 rfl (lv_at hl 0 rfl) ?_
          refine lv_iload_n hx hb d_Face_carrier_65 rfl (lv_at hl 1 rfl) ?_
          refine vp_callSi (W.runV (As := [.int v1]) (rest := []) ⟨hx, hb, hml, hown, hts⟩ (t_Face_isFull l D cI cZ ad v1 σ _ h) (cwV 1 hts (g_of kw539 kw541 kp16 kw1 kw542) rfl rfl rfl (by decide +kernel) ⟨Nat.le_of_ble_eq_true rfl, Nat.le_of_ble_eq_true rfl⟩) (ro_pre hK hP (va_recv hK hP (ci := 6) (q0 := 0) rfl rfl)) rfl rfl hl.1 rfl (lv_room (Nat.le_of_ble_eq_true rfl)) d_Face_carrier_66 ⟨Nat.le_of_ble_eq_true rfl, Nat.le_of_ble_eq_true rfl⟩) (fun r3 h => ?_)
          refine lv_if_eq (tgt := 76) hx hb d_Face_carrier_69 (by decide) (fun hc => ?_) (fun hc => ?_)
          · have h := h.1 hc
            refine lv_aload_n hx hb d_Face_carrier_76 rfl (lv_at hl 0 rfl) ?_
            refine va_get (D := D) (ci := 6) (v := .ref (ad 4 0)) (C := "CarrierPaths") (T := F_Face) (N := 7) hx hb hts in_Face hown hK hP 0 rfl rfl 3 (by decide) (hts _ kw175) (fun _ h9 => h9) rfl d_Face_carrier_77 ?_
            refine lv_iload_n hx hb d_Face_carrier_80 rfl (lv_at hl 1 rfl) ?_
            refine lv_iload_n hx hb d_Face_carrier_81 rfl (lv_at hl 2 rfl) ?_
            refine va_calli (va_runV (As := [.int v1, .int v2]) (rest := []) ⟨hx, hb, hml, hown, hts⟩ (t_Fleet_add l D cI cZ (ad 4) (inj_Fleet inj) v1 v2 (σ 4) _ h) (cwV 2 hts (g_of kw543 kw544 kw545 kw6 kw546) rfl rfl rfl (by decide +kernel) ⟨Nat.le_of_ble_eq_true rfl, Nat.le_of_ble_eq_true rfl⟩) (ro_pre hK (pt_Fleet hP) (va_recv hK (pt_Fleet hP) (ci := 1) (q0 := 0) rfl rfl)) rfl rfl hl.1 rfl (lv_room (Nat.le_of_ble_eq_true rfl)) d_Face_carrier_82 ⟨Nat.le_of_ble_eq_true rfl, Nat.le_of_ble_eq_true rfl⟩) hS (fun _ _ h => sub_Fleet h) (fun _ h => sub_Fleet h) (fun r5 u4 t H1 locs ht _ h hP1 _ hk1 hS => ?_)
            have hP1 : va_P D classes (W_Fleet (ad 4) cI cZ u4) H1 := hp_fwd ht hP1
            have hP := join_Fleet inj hP hP1 hk1
            generalize H1 = H at hP hS ⊢
            exact x_ret (W.widen (k := 1) (n := 6) (Nat.zero_le _) (Nat.zero_le _) (W.iret (v := r5) hx hb hr (fun t ht hW => ⟨⟨r5, (setc σ 4 u4), rfl, h, hp_back ht hP⟩, hS.F ht⟩) hS.2.2 d_Face_carrier_85))
          · have h := h.2 hc
            refine lv_iconst (v := (-1)) hx hb d_Face_carrier_72 (by decide) ?_
            refine lv_goto (tgt := 85) hx hb d_Face_carrier_73 (by decide) ?_
            exact x_ret (W.widen (k := 1) (n := 6) (Nat.zero_le _) (Nat.zero_le _) (W.iret (v := (-1)) hx hb hr (fun t ht hW => ⟨⟨(-1), σ, rfl, h, hp_back ht hP⟩, hS.F ht⟩) hS.2.2 d_Face_carrier_85))
        · have h := h.2 hc
          obtain ⟨sa, hsa⟩ := hth.2 (126, "no more carriers") (by decide)
          exact x_throw hx hb hst (names := xN) hown (by decide +kernel) (by decide +kernel) (hts _ kw492) (hts _ kw14) (hts _ kw493) hsa (xo_of xl_s hts kw502 (fun w hw => hth.1 w hw _)) (hl.1.trans hml.symm) d_Face_carrier_54 d_Face_carrier_57 d_Face_carrier_58 d_Face_carrier_60 d_Face_carrier_63 hnt (by decide) (by decide) (by decide) (by decide) hlocks (fun t ha hz hq => x_thrown h hP hz hq)
      · have h := h.2 hc
        obtain ⟨sa, hsa⟩ := hth.2 (123, "no such charge") (by decide)
        exact x_throw hx hb hst (names := xN) hown (by decide +kernel) (by decide +kernel) (hts _ kw423) (hts _ kw13) (hts _ kw424) hsa (xo_of xl_a hts kw465 (fun w hw => hth.1 w hw _)) (hl.1.trans hml.symm) d_Face_carrier_32 d_Face_carrier_35 d_Face_carrier_36 d_Face_carrier_38 d_Face_carrier_41 hnt (by decide) (by decide) (by decide) (by decide) hlocks (fun t ha hz hq => x_thrown h hP hz hq)
  · have h := h.1 hc
    obtain ⟨sa, hsa⟩ := hth.2 (121, "no such point") (by decide)
    exact x_throw hx hb hst (names := xN) hown (by decide +kernel) (by decide +kernel) (hts _ kw423) (hts _ kw13) (hts _ kw424) hsa (xo_of xl_a hts kw465 (fun w hw => hth.1 w hw _)) (hl.1.trans hml.symm) d_Face_carrier_11 d_Face_carrier_14 d_Face_carrier_15 d_Face_carrier_17 d_Face_carrier_20 hnt (by decide) (by decide) (by decide) (by decide) hlocks (fun t ha hz hq => x_thrown h hP hz hq)
def q_Face_job (v1 v2 : Int32) (σ : SG) (Q : (Int32 → SG → Prop)) (X : String → SG → Prop) : Prop :=
  (q_Points_areTwo v1 v2 (σ 1) (fun r1 => ((r1 = 0 → X "java/lang/IllegalArgumentException" σ) ∧ (¬ r1 = 0 → (q_Jobs_size (σ 5) (fun r2 => ((r2 < 12 → (q_Jobs_add v1 v2 (σ 5) (fun r4 u3 => Q r4 (setc σ 5 u3)))) ∧ (¬ r2 < 12 → X "java/lang/IllegalStateException" σ))))))))
set_option maxHeartbeats 4000000 in
set_option maxRecDepth 100000 in
theorem t_Face_job (l : Launch) (hst : l.stackTraces = false) (D : va_G) (cI cZ : ClassId) (ad : Nat → Nat → Nat) (inj : Inj (fA ad) 29) (v1 v2 : Int32) (σ : SG) (Q : (Int32 → SG → Prop)) (X : String → SG → Prop) (h : q_Face_job v1 v2 σ Q X) : xMet l y_Face_job (.code y_Face_job prog_1_method_7_code 3 (some .int) :: TG) { frames := 6, cells := 1, slots := 6, locals := 82 } (va_Pc [.ref (ad 0 0), .int v1, .int v2] (xB D (tysA cI cZ) (W_Face ad cI cZ σ))) (va_Qi Q (fun u t => va_P D classes (W_Face ad cI cZ u) t.heap) (inA (fA ad) 29)) (xC D ad cI cZ X) 1 6 (inA (fA ad) 29) := by
  refine x_ofW (cc := prog_1_method_7_code) (maxL := 3) (ret := (some .int)) (by decide) rfl ?_
  intro p e s m args below meth c s₁ B hml hnt hv
  obtain ⟨rfl, hP, hK, hth⟩ := hv
  have hx := B.exec
  have hb := B.bytes
  have hr := B.returns
  have hts : ∀ w ∈ TG, w.before [.ref (ad 0 0), .int v1, .int v2].toArray s = true := fun w hw => atoms_spec (ws := .code y_Face_job prog_1_method_7_code 3 (some .int) :: TG) B.pre w (List.mem_cons_of_mem _ hw)
  have hown : s.vm.findClass "CarrierPaths" = some m.cls := findClass_of_methodNamed B.named
  have hlocks := B.notSynchronized
  have hS : va_S (inA (fA ad) 29) s.heap s.heap [] := va_S.rf
  have hl := lv_entry ([.ref (ad 0 0), .int v1, .int v2]) (n := 3) (Nat.le_of_ble_eq_true rfl)
  rw [lg_entry_eq]
  generalize (lg_sl ([.ref (ad 0 0), .int v1, .int v2]) ++ List.replicate (3 - (lg_sl ([.ref (ad 0 0), .int v1, .int v2])).length) Slot.unset).toArray = ls at hl ⊢
  have hl : lv_has ls 3 [(0, .ref (ad 0 0)), (1, .int v1), (2, .int v2)] := hl
  unfold q_Face_job at h
  refine lv_aload_n hx hb d_Face_job_0 rfl (lv_at hl 0 rfl) ?_
  refine va_get (D := D) (ci := 6) (v := .ref (ad 1 0)) (C := "CarrierPaths") (T := F_Face) (N := 7) hx hb hts in_Face hown hK hP 0 rfl rfl 0 (by decide) (hts _ kw172) (fun _ h9 => h9) rfl d_Face_job_1 ?_
  refine lv_iload_n hx hb d_Face_job_4 rfl (lv_at hl 1 rfl) ?_
  refine lv_iload_n hx hb d_Face_job_5 rfl (lv_at hl 2 rfl) ?_
  refine vp_callSi (W.runV (As := [.int v1, .int v2]) (rest := []) ⟨hx, hb, hml, hown, hts⟩ (t_Points_areTwo l D cI cZ (ad 1) v1 v2 (σ 1) _ h) (cwV 2 hts (g_of kw418 kw419 kw420 kw3 kw421) rfl rfl rfl (by decide +kernel) ⟨Nat.le_of_ble_eq_true rfl, Nat.le_of_ble_eq_true rfl⟩) (ro_pre hK (pt_Points hP) (va_recv hK (pt_Points hP) (ci := 3) (q0 := 0) rfl rfl)) rfl rfl hl.1 rfl (lv_room (Nat.le_of_ble_eq_true rfl)) d_Face_job_6 ⟨Nat.le_of_ble_eq_true rfl, Nat.le_of_ble_eq_true rfl⟩) (fun r1 h => ?_)
  refine lv_if_ne (tgt := 22) hx hb d_Face_job_9 (by decide) (fun hc => ?_) (fun hc => ?_)
  · have h := h.2 hc
    refine lv_aload_n hx hb d_Face_job_22 rfl (lv_at hl 0 rfl) ?_
    refine va_get (D := D) (ci := 6) (v := .ref (ad 5 0)) (C := "CarrierPaths") (T := F_Face) (N := 7) hx hb hts in_Face hown hK hP 0 rfl rfl 4 (by decide) (hts _ kw176) (fun _ h9 => h9) rfl d_Face_job_23 ?_
    refine vp_callSi (W.runV (As := []) (rest := []) ⟨hx, hb, hml, hown, hts⟩ (t_Jobs_size l D cI cZ (ad 5) (σ 5) _ h) (cwV 0 hts (g_of kw230 kw231 kw232 kw7 kw233) rfl rfl rfl (by decide +kernel) ⟨Nat.le_of_ble_eq_true rfl, Nat.le_of_ble_eq_true rfl⟩) (ro_pre hK (pt_Jobs hP) (va_recv hK (pt_Jobs hP) (ci := 2) (q0 := 0) rfl rfl)) rfl rfl hl.1 rfl (lv_room (Nat.le_of_ble_eq_true rfl)) d_Face_job_26 ⟨Nat.le_of_ble_eq_true rfl, Nat.le_of_ble_eq_true rfl⟩) (fun r2 h => ?_)
    refine lv_bipush (v := 12) hx hb d_Face_job_29 (by decide) ?_
    refine lv_icmp_lt (tgt := 44) hx hb d_Face_job_31 (by decide) (fun hc => ?_) (fun hc => ?_)
    · have h := h.1 hc
      refine lv_aload_n hx hb d_Face_job_44 rfl (lv_at hl 0 rfl) ?_
      refine va_get (D := D) (ci := 6) (v := .ref (ad 5 0)) (C := "CarrierPaths") (T := F_Face) (N := 7) hx hb hts in_Face hown hK hP 0 rfl rfl 4 (by decide) (hts _ kw176) (fun _ h9 => h9) rfl d_Face_job_45 ?_
      refine lv_iload_n hx hb d_Face_job_48 rfl (lv_at hl 1 rfl) ?_
      refine lv_iload_n hx hb d_Face_job_49 rfl (lv_at hl 2 rfl) ?_
      refine va_calli (va_runV (As := [.int v1, .int v2]) (rest := []) ⟨hx, hb, hml, hown, hts⟩ (t_Jobs_add l D cI cZ (ad 5) (inj_Jobs inj) v1 v2 (σ 5) _ h) (cwV 2 hts (g_of kw555 kw556 kw557 kw7 kw558) rfl rfl rfl (by decide +kernel) ⟨Nat.le_of_ble_eq_true rfl, Nat.le_of_ble_eq_true rfl⟩) (ro_pre hK (pt_Jobs hP) (va_recv hK (pt_Jobs hP) (ci := 2) (q0 := 0) rfl rfl)) rfl rfl hl.1 rfl (lv_room (Nat.le_of_ble_eq_true rfl)) d_Face_job_50 ⟨Nat.le_of_ble_eq_true rfl, Nat.le_of_ble_eq_true rfl⟩) hS (fun _ _ h => sub_Jobs h) (fun _ h => sub_Jobs h) (fun r4 u3 t H1 locs ht _ h hP1 _ hk1 hS => ?_)
      have hP1 : va_P D classes (W_Jobs (ad 5) cI cZ u3) H1 := hp_fwd ht hP1
      have hP := join_Jobs inj hP hP1 hk1
      generalize H1 = H at hP hS ⊢
      exact x_ret (W.widen (k := 1) (n := 6) (Nat.zero_le _) (Nat.zero_le _) (W.iret (v := r4) hx hb hr (fun t ht hW => ⟨⟨r4, (setc σ 5 u3), rfl, h, hp_back ht hP⟩, hS.F ht⟩) hS.2.2 d_Face_job_53))
    · have h := h.2 hc
      obtain ⟨sa, hsa⟩ := hth.2 (134, "no more jobs") (by decide)
      exact x_throw hx hb hst (names := xN) hown (by decide +kernel) (by decide +kernel) (hts _ kw492) (hts _ kw14) (hts _ kw493) hsa (xo_of xl_s hts kw502 (fun w hw => hth.1 w hw _)) (hl.1.trans hml.symm) d_Face_job_34 d_Face_job_37 d_Face_job_38 d_Face_job_40 d_Face_job_43 hnt (by decide) (by decide) (by decide) (by decide) hlocks (fun t ha hz hq => x_thrown h hP hz hq)
  · have h := h.1 hc
    obtain ⟨sa, hsa⟩ := hth.2 (72, "not two points") (by decide)
    exact x_throw hx hb hst (names := xN) hown (by decide +kernel) (by decide +kernel) (hts _ kw423) (hts _ kw13) (hts _ kw424) hsa (xo_of xl_a hts kw465 (fun w hw => hth.1 w hw _)) (hl.1.trans hml.symm) d_Face_job_12 d_Face_job_15 d_Face_job_16 d_Face_job_18 d_Face_job_21 hnt (by decide) (by decide) (by decide) (by decide) hlocks (fun t ha hz hq => x_thrown h hP hz hq)
def q_Face_step (v1 : Int32) (σ : SG) (Q : (Int32 → SG → Prop)) (X : String → SG → Prop) : Prop :=
  (q_Fleet_has v1 (σ 4) (fun r1 => ((r1 = 0 → X "java/lang/IndexOutOfBoundsException" σ) ∧ (¬ r1 = 0 → (q_Fleet_isOnPiece v1 (σ 4) (fun r2 => ((r2 = 0 → (q_Fleet_jobOf v1 (σ 4) (fun r3 => ((r3 = (-1) → Q 2 σ) ∧ (¬ r3 = (-1) → (q_Fleet_pointOf v1 (σ 4) (fun r4 => (q_Jobs_goalOf r3 (σ 5) (fun r5 => ((r4 = r5 → (q_Jobs_isLoaded r3 (σ 5) (fun r6 => ((r6 = 0 → (q_Face_load r3 σ (fun r8 u7 => Q r8 u7))) ∧ (¬ r6 = 0 → (q_Face_end v1 r3 σ (fun r10 u9 => Q r10 u9))))))) ∧ (¬ r4 = r5 → (q_Face_goOn v1 r3 σ (fun r12 u11 => Q r12 u11))))))))))))) ∧ (¬ r2 = 0 → Q 1 σ))))))))
set_option maxHeartbeats 4000000 in
set_option maxRecDepth 100000 in
theorem t_Face_step (l : Launch) (hst : l.stackTraces = false) (D : va_G) (cI cZ : ClassId) (ad : Nat → Nat → Nat) (inj : Inj (fA ad) 29) (v1 : Int32) (σ : SG) (Q : (Int32 → SG → Prop)) (X : String → SG → Prop) (h : q_Face_step v1 σ Q X) : xMet l y_Face_step (.code y_Face_step prog_1_method_9_code 3 (some .int) :: TG) { frames := 6, cells := 1, slots := 6, locals := 95 } (va_Pc [.ref (ad 0 0), .int v1] (xB D (tysA cI cZ) (W_Face ad cI cZ σ))) (va_Qi Q (fun u t => va_P D classes (W_Face ad cI cZ u) t.heap) (inA (fA ad) 29)) (xC D ad cI cZ X) 1 6 (inA (fA ad) 29) := by
  refine x_ofW (cc := prog_1_method_9_code) (maxL := 3) (ret := (some .int)) (by decide) rfl ?_
  intro p e s m args below meth c s₁ B hml hnt hv
  obtain ⟨rfl, hP, hK, hth⟩ := hv
  have hx := B.exec
  have hb := B.bytes
  have hr := B.returns
  have hts : ∀ w ∈ TG, w.before [.ref (ad 0 0), .int v1].toArray s = true := fun w hw => atoms_spec (ws := .code y_Face_step prog_1_method_9_code 3 (some .int) :: TG) B.pre w (List.mem_cons_of_mem _ hw)
  have hown : s.vm.findClass "CarrierPaths" = some m.cls := findClass_of_methodNamed B.named
  have hlocks := B.notSynchronized
  have hS : va_S (inA (fA ad) 29) s.heap s.heap [] := va_S.rf
  have hl := lv_entry ([.ref (ad 0 0), .int v1]) (n := 3) (Nat.le_of_ble_eq_true rfl)
  rw [lg_entry_eq]
  generalize (lg_sl ([.ref (ad 0 0), .int v1]) ++ List.replicate (3 - (lg_sl ([.ref (ad 0 0), .int v1])).length) Slot.unset).toArray = ls at hl ⊢
  have hl : lv_has ls 3 [(0, .ref (ad 0 0)), (1, .int v1)] := hl
  unfold q_Face_step at h
  refine lv_aload_n hx hb d_Face_step_0 rfl (lv_at hl 0 rfl) ?_
  refine va_get (D := D) (ci := 6) (v := .ref (ad 4 0)) (C := "CarrierPaths") (T := F_Face) (N := 7) hx hb hts in_Face hown hK hP 0 rfl rfl 3 (by decide) (hts _ kw175) (fun _ h9 => h9) rfl d_Face_step_1 ?_
  refine lv_iload_n hx hb d_Face_step_4 rfl (lv_at hl 1 rfl) ?_
  refine vp_callSi (W.runV (As := [.int v1]) (rest := []) ⟨hx, hb, hml, hown, hts⟩ (t_Fleet_has l D cI cZ (ad 4) v1 (σ 4) _ h) (cwV 1 hts (g_of kw567 kw568 kw569 kw6 kw570) rfl rfl rfl (by decide +kernel) ⟨Nat.le_of_ble_eq_true rfl, Nat.le_of_ble_eq_true rfl⟩) (ro_pre hK (pt_Fleet hP) (va_recv hK (pt_Fleet hP) (ci := 1) (q0 := 0) rfl rfl)) rfl rfl hl.1 rfl (lv_room (Nat.le_of_ble_eq_true rfl)) d_Face_step_5 ⟨Nat.le_of_ble_eq_true rfl, Nat.le_of_ble_eq_true rfl⟩) (fun r1 h => ?_)
  refine lv_if_ne (tgt := 21) hx hb d_Face_step_8 (by decide) (fun hc => ?_) (fun hc => ?_)
  · have h := h.2 hc
    refine lv_aload_n hx hb d_Face_step_21 rfl (lv_at hl 0 rfl) ?_
    refine va_get (D := D) (ci := 6) (v := .ref (ad 4 0)) (C := "CarrierPaths") (T := F_Face) (N := 7) hx hb hts in_Face hown hK hP 0 rfl rfl 3 (by decide) (hts _ kw175) (fun _ h9 => h9) rfl d_Face_step_22 ?_
    refine lv_iload_n hx hb d_Face_step_25 rfl (lv_at hl 1 rfl) ?_
    refine vp_callSi (W.runV (As := [.int v1]) (rest := []) ⟨hx, hb, hml, hown, hts⟩ (t_Fleet_isOnPiece l D cI cZ (ad 4) v1 (σ 4) _ h) (cwV 1 hts (g_of kw587 kw267 kw268 kw6 kw269) rfl rfl rfl (by decide +kernel) ⟨Nat.le_of_ble_eq_true rfl, Nat.le_of_ble_eq_true rfl⟩) (ro_pre hK (pt_Fleet hP) (va_recv hK (pt_Fleet hP) (ci := 1) (q0 := 0) rfl rfl)) rfl rfl hl.1 rfl (lv_room (Nat.le_of_ble_eq_true rfl)) d_Face_step_26 ⟨Nat.le_of_ble_eq_true rfl, Nat.le_of_ble_eq_true rfl⟩) (fun r2 h => ?_)
    refine lv_if_eq (tgt := 34) hx hb d_Face_step_29 (by decide) (fun hc => ?_) (fun hc => ?_)
    · have h := h.1 hc
      refine lv_aload_n hx hb d_Face_step_34 rfl (lv_at hl 0 rfl) ?_
      refine va_get (D := D) (ci := 6) (v := .ref (ad 4 0)) (C := "CarrierPaths") (T := F_Face) (N := 7) hx hb hts in_Face hown hK hP 0 rfl rfl 3 (by decide) (hts _ kw175) (fun _ h9 => h9) rfl d_Face_step_35 ?_
      refine lv_iload_n hx hb d_Face_step_38 rfl (lv_at hl 1 rfl) ?_
      refine vp_callSi (W.runV (As := [.int v1]) (rest := []) ⟨hx, hb, hml, hown, hts⟩ (t_Fleet_jobOf l D cI cZ (ad 4) v1 (σ 4) _ h) (cwV 1 hts (g_of kw588 kw589 kw590 kw6 kw591) rfl rfl rfl (by decide +kernel) ⟨Nat.le_of_ble_eq_true rfl, Nat.le_of_ble_eq_true rfl⟩) (ro_pre hK (pt_Fleet hP) (va_recv hK (pt_Fleet hP) (ci := 1) (q0 := 0) rfl rfl)) rfl rfl hl.1 rfl (lv_room (Nat.le_of_ble_eq_true rfl)) d_Face_step_39 ⟨Nat.le_of_ble_eq_true rfl, Nat.le_of_ble_eq_true rfl⟩) (fun r3 h => ?_)
      refine lv_istore_n (lv' := [(2, .int r3), (0, .ref (ad 0 0)), (1, .int v1)]) hx hb d_Face_step_42 rfl hl (by decide) rfl (fun ls hl => ?_)
      refine lv_iload_n hx hb d_Face_step_43 rfl (lv_at hl 0 rfl) ?_
      refine lv_iconst (v := (-1)) hx hb d_Face_step_44 (by decide) ?_
      refine lv_icmp_ne (tgt := 50) hx hb d_Face_step_45 (by decide) (fun hc => ?_) (fun hc => ?_)
      · have h := h.2 hc
        refine lv_aload_n hx hb d_Face_step_50 rfl (lv_at hl 1 rfl) ?_
        refine va_get (D := D) (ci := 6) (v := .ref (ad 4 0)) (C := "CarrierPaths") (T := F_Face) (N := 7) hx hb hts in_Face hown hK hP 0 rfl rfl 3 (by decide) (hts _ kw175) (fun _ h9 => h9) rfl d_Face_step_51 ?_
        refine lv_iload_n hx hb d_Face_step_54 rfl (lv_at hl 2 rfl) ?_
        refine vp_callSi (W.runV (As := [.int v1]) (rest := []) ⟨hx, hb, hml, hown, hts⟩ (t_Fleet_pointOf l D cI cZ (ad 4) v1 (σ 4) _ h) (cwV 1 hts (g_of kw246 kw247 kw248 kw6 kw249) rfl rfl rfl (by decide +kernel) ⟨Nat.le_of_ble_eq_true rfl, Nat.le_of_ble_eq_true rfl⟩) (ro_pre hK (pt_Fleet hP) (va_recv hK (pt_Fleet hP) (ci := 1) (q0 := 0) rfl rfl)) rfl rfl hl.1 rfl (lv_room (Nat.le_of_ble_eq_true rfl)) d_Face_step_55 ⟨Nat.le_of_ble_eq_true rfl, Nat.le_of_ble_eq_true rfl⟩) (fun r4 h => ?_)
        refine lv_aload_n hx hb d_Face_step_58 rfl (lv_at hl 1 rfl) ?_
        refine va_get (D := D) (ci := 6) (v := .ref (ad 5 0)) (C := "CarrierPaths") (T := F_Face) (N := 7) hx hb hts in_Face hown hK hP 0 rfl rfl 4 (by decide) (hts _ kw176) (fun _ h9 => h9) rfl d_Face_step_59 ?_
        refine lv_iload_n hx hb d_Face_step_62 rfl (lv_at hl 0 rfl) ?_
        refine vp_callSi (W.runV (As := [.int r3]) (rest := [.int r4]) ⟨hx, hb, hml, hown, hts⟩ (t_Jobs_goalOf l D cI cZ (ad 5) r3 (σ 5) _ h) (cwV 1 hts (g_of kw592 kw593 kw594 kw7 kw595) rfl rfl rfl (by decide +kernel) ⟨Nat.le_of_ble_eq_true rfl, Nat.le_of_ble_eq_true rfl⟩) (ro_pre hK (pt_Jobs hP) (va_recv hK (pt_Jobs hP) (ci := 2) (q0 := 0) rfl rfl)) rfl rfl hl.1 rfl (lv_room (Nat.le_of_ble_eq_true rfl)) d_Face_step_63 ⟨Nat.le_of_ble_eq_true rfl, Nat.le_of_ble_eq_true rfl⟩) (fun r5 h => ?_)
        refine lv_icmp_eq (tgt := 76) hx hb d_Face_step_66 (by decide) (fun hc => ?_) (fun hc => ?_)
        · have h := h.1 hc
          refine lv_aload_n hx hb d_Face_step_76 rfl (lv_at hl 1 rfl) ?_
          refine va_get (D := D) (ci := 6) (v := .ref (ad 5 0)) (C := "CarrierPaths") (T := F_Face) (N := 7) hx hb hts in_Face hown hK hP 0 rfl rfl 4 (by decide) (hts _ kw176) (fun _ h9 => h9) rfl d_Face_step_77 ?_
          refine lv_iload_n hx hb d_Face_step_80 rfl (lv_at hl 0 rfl) ?_
          refine vp_callSi (W.runV (As := [.int r3]) (rest := []) ⟨hx, hb, hml, hown, hts⟩ (t_Jobs_isLoaded l D cI cZ (ad 5) r3 (σ 5) _ h) (cwV 1 hts (g_of kw640 kw597 kw598 kw7 kw599) rfl rfl rfl (by decide +kernel) ⟨Nat.le_of_ble_eq_true rfl, Nat.le_of_ble_eq_true rfl⟩) (ro_pre hK (pt_Jobs hP) (va_recv hK (pt_Jobs hP) (ci := 2) (q0 := 0) rfl rfl)) rfl rfl hl.1 rfl (lv_room (Nat.le_of_ble_eq_true rfl)) d_Face_step_81 ⟨Nat.le_of_ble_eq_true rfl, Nat.le_of_ble_eq_true rfl⟩) (fun r6 h => ?_)
          refine lv_if_eq (tgt := 96) hx hb d_Face_step_84 (by decide) (fun hc => ?_) (fun hc => ?_)
          · have h := h.1 hc
            refine lv_aload_n hx hb d_Face_step_96 rfl (lv_at hl 1 rfl) ?_
            refine lv_iload_n hx hb d_Face_step_97 rfl (lv_at hl 0 rfl) ?_
            refine va_calli (va_runV (As := [.int r3]) (rest := []) ⟨hx, hb, hml, hown, hts⟩ (t_Face_load l D cI cZ ad inj r3 σ _ h) (cwV 1 hts (g_of kw657 kw659 kp21 kw1 kw660) rfl rfl rfl (by decide +kernel) ⟨Nat.le_of_ble_eq_true rfl, Nat.le_of_ble_eq_true rfl⟩) (ro_pre hK hP (va_recv hK hP (ci := 6) (q0 := 0) rfl rfl)) rfl rfl hl.1 rfl (lv_room (Nat.le_of_ble_eq_true rfl)) d_Face_step_98 ⟨Nat.le_of_ble_eq_true rfl, Nat.le_of_ble_eq_true rfl⟩) hS (fun _ _ h => h) (fun _ h => h) (fun r8 u7 t H1 locs ht _ h hP1 _ hk1 hS => ?_)
            have hP1 : va_P D classes (W_Face ad cI cZ u7) H1 := hp_fwd ht hP1
            clear hk1 ht
            generalize H1 = H at hP1 hS ⊢
            have hP := hP1
            exact x_ret (W.widen (k := 1) (n := 6) (Nat.zero_le _) (Nat.zero_le _) (W.iret (v := r8) hx hb hr (fun t ht hW => ⟨⟨r8, u7, rfl, h, hp_back ht hP⟩, hS.F ht⟩) hS.2.2 d_Face_step_101))
          · have h := h.2 hc
            refine lv_aload_n hx hb d_Face_step_87 rfl (lv_at hl 1 rfl) ?_
            refine lv_iload_n hx hb d_Face_step_88 rfl (lv_at hl 2 rfl) ?_
            refine lv_iload_n hx hb d_Face_step_89 rfl (lv_at hl 0 rfl) ?_
            refine va_calli (va_runV (As := [.int v1, .int r3]) (rest := []) ⟨hx, hb, hml, hown, hts⟩ (t_Face_end l D cI cZ ad inj v1 r3 σ _ h) (cwV 2 hts (g_of kw645 kw647 kp20 kw1 kw648) rfl rfl rfl (by decide +kernel) ⟨Nat.le_of_ble_eq_true rfl, Nat.le_of_ble_eq_true rfl⟩) (ro_pre hK hP (va_recv hK hP (ci := 6) (q0 := 0) rfl rfl)) rfl rfl hl.1 rfl (lv_room (Nat.le_of_ble_eq_true rfl)) d_Face_step_90 ⟨Nat.le_of_ble_eq_true rfl, Nat.le_of_ble_eq_true rfl⟩) hS (fun _ _ h => h) (fun _ h => h) (fun r10 u9 t H1 locs ht _ h hP1 _ hk1 hS => ?_)
            have hP1 : va_P D classes (W_Face ad cI cZ u9) H1 := hp_fwd ht hP1
            clear hk1 ht
            generalize H1 = H at hP1 hS ⊢
            have hP := hP1
            refine lv_goto (tgt := 101) hx hb d_Face_step_93 (by decide) ?_
            exact x_ret (W.widen (k := 1) (n := 6) (Nat.zero_le _) (Nat.zero_le _) (W.iret (v := r10) hx hb hr (fun t ht hW => ⟨⟨r10, u9, rfl, h, hp_back ht hP⟩, hS.F ht⟩) hS.2.2 d_Face_step_101))
        · have h := h.2 hc
          refine lv_aload_n hx hb d_Face_step_69 rfl (lv_at hl 1 rfl) ?_
          refine lv_iload_n hx hb d_Face_step_70 rfl (lv_at hl 2 rfl) ?_
          refine lv_iload_n hx hb d_Face_step_71 rfl (lv_at hl 0 rfl) ?_
          refine va_calli (va_runV (As := [.int v1, .int r3]) (rest := []) ⟨hx, hb, hml, hown, hts⟩ (t_Face_goOn l D cI cZ ad inj v1 r3 σ _ h) (cwV 2 hts (g_of kw600 kw602 kp17 kw1 kw603) rfl rfl rfl (by decide +kernel) ⟨Nat.le_of_ble_eq_true rfl, Nat.le_of_ble_eq_true rfl⟩) (ro_pre hK hP (va_recv hK hP (ci := 6) (q0 := 0) rfl rfl)) rfl rfl hl.1 rfl (lv_room (Nat.le_of_ble_eq_true rfl)) d_Face_step_72 ⟨Nat.le_of_ble_eq_true rfl, Nat.le_of_ble_eq_true rfl⟩) hS (fun _ _ h => h) (fun _ h => h) (fun r12 u11 t H1 locs ht _ h hP1 _ hk1 hS => ?_)
          have hP1 : va_P D classes (W_Face ad cI cZ u11) H1 := hp_fwd ht hP1
          clear hk1 ht
          generalize H1 = H at hP1 hS ⊢
          have hP := hP1
          exact x_ret (W.widen (k := 1) (n := 6) (Nat.zero_le _) (Nat.zero_le _) (W.iret (v := r12) hx hb hr (fun t ht hW => ⟨⟨r12, u11, rfl, h, hp_back ht hP⟩, hS.F ht⟩) hS.2.2 d_Face_step_75))
      · have h := h.1 hc
        refine lv_iconst (v := 2) hx hb d_Face_step_48 (by decide) ?_
        exact x_ret (W.widen (k := 1) (n := 6) (Nat.zero_le _) (Nat.zero_le _) (W.iret (v := 2) hx hb hr (fun t ht hW => ⟨⟨2, σ, rfl, h, hp_back ht hP⟩, hS.F ht⟩) hS.2.2 d_Face_step_49))
    · have h := h.2 hc
      refine lv_iconst (v := 1) hx hb d_Face_step_32 (by decide) ?_
      exact x_ret (W.widen (k := 1) (n := 6) (Nat.zero_le _) (Nat.zero_le _) (W.iret (v := 1) hx hb hr (fun t ht hW => ⟨⟨1, σ, rfl, h, hp_back ht hP⟩, hS.F ht⟩) hS.2.2 d_Face_step_33))
  · have h := h.1 hc
    obtain ⟨sa, hsa⟩ := hth.2 (149, "no such carrier") (by decide)
    exact x_throw hx hb hst (names := xN) hown (by decide +kernel) (by decide +kernel) (hts _ kw571) (hts _ kw15) (hts _ kw572) hsa (xo_of xl_i hts kw581 (fun w hw => hth.1 w hw _)) (hl.1.trans hml.symm) d_Face_step_11 d_Face_step_14 d_Face_step_15 d_Face_step_17 d_Face_step_20 hnt (by decide) (by decide) (by decide) (by decide) hlocks (fun t ha hz hq => x_thrown h hP hz hq)
def q_Face_tick (v1 : Int32) (σ : SG) (Q : (Int32 → SG → Prop)) (X : String → SG → Prop) : Prop :=
  ((v1 < (σ 0 0 6) → X "java/lang/IllegalArgumentException" σ) ∧ (¬ v1 < (σ 0 0 6) → ((v1 ≤ 1000000 → (q_Fleet_arrive v1 ((setc σ 0 (sto (σ 0) 0 6 v1)) 4) (fun r2 u1 => Q r2 (setc (setc σ 0 (sto (σ 0) 0 6 v1)) 4 u1)))) ∧ (¬ v1 ≤ 1000000 → X "java/lang/IllegalArgumentException" σ))))
set_option maxHeartbeats 4000000 in
set_option maxRecDepth 100000 in
theorem t_Face_tick (l : Launch) (hst : l.stackTraces = false) (D : va_G) (cI cZ : ClassId) (ad : Nat → Nat → Nat) (inj : Inj (fA ad) 29) (v1 : Int32) (σ : SG) (Q : (Int32 → SG → Prop)) (X : String → SG → Prop) (h : q_Face_tick v1 σ Q X) : xMet l y_Face_tick (.code y_Face_tick prog_1_method_10_code 2 (some .int) :: TG) { frames := 6, cells := 1, slots := 6, locals := 82 } (va_Pc [.ref (ad 0 0), .int v1] (xB D (tysA cI cZ) (W_Face ad cI cZ σ))) (va_Qi Q (fun u t => va_P D classes (W_Face ad cI cZ u) t.heap) (inA (fA ad) 29)) (xC D ad cI cZ X) 1 6 (inA (fA ad) 29) := by
  refine x_ofW (cc := prog_1_method_10_code) (maxL := 2) (ret := (some .int)) (by decide) rfl ?_
  intro p e s m args below meth c s₁ B hml hnt hv
  obtain ⟨rfl, hP, hK, hth⟩ := hv
  have hx := B.exec
  have hb := B.bytes
  have hr := B.returns
  have hts : ∀ w ∈ TG, w.before [.ref (ad 0 0), .int v1].toArray s = true := fun w hw => atoms_spec (ws := .code y_Face_tick prog_1_method_10_code 2 (some .int) :: TG) B.pre w (List.mem_cons_of_mem _ hw)
  have hown : s.vm.findClass "CarrierPaths" = some m.cls := findClass_of_methodNamed B.named
  have hlocks := B.notSynchronized
  have hS : va_S (inA (fA ad) 29) s.heap s.heap [] := va_S.rf
  have hl := lv_entry ([.ref (ad 0 0), .int v1]) (n := 2) (Nat.le_of_ble_eq_true rfl)
  rw [lg_entry_eq]
  generalize (lg_sl ([.ref (ad 0 0), .int v1]) ++ List.replicate (2 - (lg_sl ([.ref (ad 0 0), .int v1])).length) Slot.unset).toArray = ls at hl ⊢
  have hl : lv_has ls 2 [(0, .ref (ad 0 0)), (1, .int v1)] := hl
  unfold q_Face_tick at h
  refine lv_iload_n hx hb d_Face_tick_0 rfl (lv_at hl 1 rfl) ?_
  refine lv_aload_n hx hb d_Face_tick_1 rfl (lv_at hl 0 rfl) ?_
  refine va_get (D := D) (ci := 6) (v := .int (σ 0 0 6)) (C := "CarrierPaths") (T := F_Face) (N := 7) hx hb hts in_Face hown hK hP 0 rfl rfl 6 (by decide) (hts _ kw178) (fun _ h9 => h9) rfl d_Face_tick_2 ?_
  refine lv_icmp_lt (tgt := 14) hx hb d_Face_tick_5 (by decide) (fun hc => ?_) (fun hc => ?_)
  · have h := h.1 hc
    obtain ⟨sa, hsa⟩ := hth.2 (177, "no such time, or it is over") (by decide)
    exact x_throw hx hb hst (names := xN) hown (by decide +kernel) (by decide +kernel) (hts _ kw423) (hts _ kw13) (hts _ kw424) hsa (xo_of xl_a hts kw465 (fun w hw => hth.1 w hw _)) (hl.1.trans hml.symm) d_Face_tick_14 d_Face_tick_17 d_Face_tick_18 d_Face_tick_20 d_Face_tick_23 hnt (by decide) (by decide) (by decide) (by decide) hlocks (fun t ha hz hq => x_thrown h hP hz hq)
  · have h := h.2 hc
    refine lv_iload_n hx hb d_Face_tick_8 rfl (lv_at hl 1 rfl) ?_
    refine lv_ldc (v := 1000000) hx hb hown (hts _ kw270) d_Face_tick_9 ?_
    refine lv_icmp_le (tgt := 24) hx hb d_Face_tick_11 (by decide) (fun hc => ?_) (fun hc => ?_)
    · have h := h.1 hc
      refine lv_aload_n hx hb d_Face_tick_24 rfl (lv_at hl 0 rfl) ?_
      refine lv_iload_n hx hb d_Face_tick_25 rfl (lv_at hl 1 rfl) ?_
      refine va_put (D := D) (ci := 6) (v := .int v1) (ty := .int) (C := "CarrierPaths") (T := F_Face) (N := 7) hx hb hts in_Face ty_Face ty_Face_ok nm_Face hown hK hP (D_Face inj) hS 0 rfl rfl 6 (by decide) (hts _ kw178) (fun _ h9 => h9) rfl (by decide +kernel) rfl rfl (Nat.le_of_ble_eq_true rfl) d_Face_tick_26 (fun H locs hP _ hS => ?_)
      have hP := up_Face_f6 hP
      refine lv_aload_n hx hb d_Face_tick_29 rfl (lv_at hl 0 rfl) ?_
      refine va_get (D := D) (ci := 6) (v := .ref (ad 4 0)) (C := "CarrierPaths") (T := F_Face) (N := 7) hx hb hts in_Face hown hK hP 0 rfl rfl 3 (by decide) (hts _ kw175) (fun _ h9 => h9) rfl d_Face_tick_30 ?_
      refine lv_iload_n hx hb d_Face_tick_33 rfl (lv_at hl 1 rfl) ?_
      refine va_calli (va_runV (As := [.int v1]) (rest := []) ⟨hx, hb, hml, hown, hts⟩ (t_Fleet_arrive l D cI cZ (ad 4) (inj_Fleet inj) v1 ((setc σ 0 (sto (σ 0) 0 6 v1)) 4) _ h) (cwV 1 hts (g_of kw669 kw670 kw671 kw6 kw672) rfl rfl rfl (by decide +kernel) ⟨Nat.le_of_ble_eq_true rfl, Nat.le_of_ble_eq_true rfl⟩) (ro_pre hK (pt_Fleet hP) (va_recv hK (pt_Fleet hP) (ci := 1) (q0 := 0) rfl rfl)) rfl rfl hl.1 rfl (lv_room (Nat.le_of_ble_eq_true rfl)) d_Face_tick_34 ⟨Nat.le_of_ble_eq_true rfl, Nat.le_of_ble_eq_true rfl⟩) hS (fun _ _ h => sub_Fleet h) (fun _ h => sub_Fleet h) (fun r2 u1 t H1 locs ht _ h hP1 _ hk1 hS => ?_)
      have hP1 : va_P D classes (W_Fleet (ad 4) cI cZ u1) H1 := hp_fwd ht hP1
      have hP := join_Fleet inj hP hP1 hk1
      generalize H1 = H at hP hS ⊢
      exact x_ret (W.widen (k := 1) (n := 6) (Nat.zero_le _) (Nat.zero_le _) (W.iret (v := r2) hx hb hr (fun t ht hW => ⟨⟨r2, (setc (setc σ 0 (sto (σ 0) 0 6 v1)) 4 u1), rfl, h, hp_back ht hP⟩, hS.F ht⟩) hS.2.2 d_Face_tick_37))
    · have h := h.2 hc
      obtain ⟨sa, hsa⟩ := hth.2 (177, "no such time, or it is over") (by decide)
      exact x_throw hx hb hst (names := xN) hown (by decide +kernel) (by decide +kernel) (hts _ kw423) (hts _ kw13) (hts _ kw424) hsa (xo_of xl_a hts kw465 (fun w hw => hth.1 w hw _)) (hl.1.trans hml.symm) d_Face_tick_14 d_Face_tick_17 d_Face_tick_18 d_Face_tick_20 d_Face_tick_23 hnt (by decide) (by decide) (by decide) (by decide) hlocks (fun t ha hz hq => x_thrown h hP hz hq)
def q_Face_charge (v1 : Int32) (σ : SG) (Q : (Int32 → SG → Prop)) (X : String → SG → Prop) : Prop :=
  (q_Fleet_has v1 (σ 4) (fun r1 => ((r1 = 0 → X "java/lang/IndexOutOfBoundsException" σ) ∧ (¬ r1 = 0 → (q_Fleet_isOnPiece v1 (σ 4) (fun r2 => ((r2 = 0 → (q_Fleet_pointOf v1 (σ 4) (fun r3 => (q_Points_hasCharger r3 (σ 1) (fun r4 => ((r4 = 0 → Q 0 σ) ∧ (¬ r4 = 0 → (q_Fleet_chargeUp v1 (σ 4) (fun u5 => Q 1 (setc σ 4 u5)))))))))) ∧ (¬ r2 = 0 → Q 0 σ))))))))
set_option maxHeartbeats 4000000 in
set_option maxRecDepth 100000 in
theorem t_Face_charge (l : Launch) (hst : l.stackTraces = false) (D : va_G) (cI cZ : ClassId) (ad : Nat → Nat → Nat) (inj : Inj (fA ad) 29) (v1 : Int32) (σ : SG) (Q : (Int32 → SG → Prop)) (X : String → SG → Prop) (h : q_Face_charge v1 σ Q X) : xMet l y_Face_charge (.code y_Face_charge prog_1_method_12_code 2 (some .boolean) :: TG) { frames := 6, cells := 1, slots := 6, locals := 82 } (va_Pc [.ref (ad 0 0), .int v1] (xB D (tysA cI cZ) (W_Face ad cI cZ σ))) (va_Qi Q (fun u t => va_P D classes (W_Face ad cI cZ u) t.heap) (inA (fA ad) 29)) (xC D ad cI cZ X) 1 6 (inA (fA ad) 29) := by
  refine x_ofW (cc := prog_1_method_12_code) (maxL := 2) (ret := (some .boolean)) (by decide) rfl ?_
  intro p e s m args below meth c s₁ B hml hnt hv
  obtain ⟨rfl, hP, hK, hth⟩ := hv
  have hx := B.exec
  have hb := B.bytes
  have hr := B.returns
  have hts : ∀ w ∈ TG, w.before [.ref (ad 0 0), .int v1].toArray s = true := fun w hw => atoms_spec (ws := .code y_Face_charge prog_1_method_12_code 2 (some .boolean) :: TG) B.pre w (List.mem_cons_of_mem _ hw)
  have hown : s.vm.findClass "CarrierPaths" = some m.cls := findClass_of_methodNamed B.named
  have hlocks := B.notSynchronized
  have hS : va_S (inA (fA ad) 29) s.heap s.heap [] := va_S.rf
  have hl := lv_entry ([.ref (ad 0 0), .int v1]) (n := 2) (Nat.le_of_ble_eq_true rfl)
  rw [lg_entry_eq]
  generalize (lg_sl ([.ref (ad 0 0), .int v1]) ++ List.replicate (2 - (lg_sl ([.ref (ad 0 0), .int v1])).length) Slot.unset).toArray = ls at hl ⊢
  have hl : lv_has ls 2 [(0, .ref (ad 0 0)), (1, .int v1)] := hl
  unfold q_Face_charge at h
  refine lv_aload_n hx hb d_Face_charge_0 rfl (lv_at hl 0 rfl) ?_
  refine va_get (D := D) (ci := 6) (v := .ref (ad 4 0)) (C := "CarrierPaths") (T := F_Face) (N := 7) hx hb hts in_Face hown hK hP 0 rfl rfl 3 (by decide) (hts _ kw175) (fun _ h9 => h9) rfl d_Face_charge_1 ?_
  refine lv_iload_n hx hb d_Face_charge_4 rfl (lv_at hl 1 rfl) ?_
  refine vp_callSi (W.runV (As := [.int v1]) (rest := []) ⟨hx, hb, hml, hown, hts⟩ (t_Fleet_has l D cI cZ (ad 4) v1 (σ 4) _ h) (cwV 1 hts (g_of kw567 kw568 kw569 kw6 kw570) rfl rfl rfl (by decide +kernel) ⟨Nat.le_of_ble_eq_true rfl, Nat.le_of_ble_eq_true rfl⟩) (ro_pre hK (pt_Fleet hP) (va_recv hK (pt_Fleet hP) (ci := 1) (q0 := 0) rfl rfl)) rfl rfl hl.1 rfl (lv_room (Nat.le_of_ble_eq_true rfl)) d_Face_charge_5 ⟨Nat.le_of_ble_eq_true rfl, Nat.le_of_ble_eq_true rfl⟩) (fun r1 h => ?_)
  refine lv_if_ne (tgt := 21) hx hb d_Face_charge_8 (by decide) (fun hc => ?_) (fun hc => ?_)
  · have h := h.2 hc
    refine lv_aload_n hx hb d_Face_charge_21 rfl (lv_at hl 0 rfl) ?_
    refine va_get (D := D) (ci := 6) (v := .ref (ad 4 0)) (C := "CarrierPaths") (T := F_Face) (N := 7) hx hb hts in_Face hown hK hP 0 rfl rfl 3 (by decide) (hts _ kw175) (fun _ h9 => h9) rfl d_Face_charge_22 ?_
    refine lv_iload_n hx hb d_Face_charge_25 rfl (lv_at hl 1 rfl) ?_
    refine vp_callSi (W.runV (As := [.int v1]) (rest := []) ⟨hx, hb, hml, hown, hts⟩ (t_Fleet_isOnPiece l D cI cZ (ad 4) v1 (σ 4) _ h) (cwV 1 hts (g_of kw587 kw267 kw268 kw6 kw269) rfl rfl rfl (by decide +kernel) ⟨Nat.le_of_ble_eq_true rfl, Nat.le_of_ble_eq_true rfl⟩) (ro_pre hK (pt_Fleet hP) (va_recv hK (pt_Fleet hP) (ci := 1) (q0 := 0) rfl rfl)) rfl rfl hl.1 rfl (lv_room (Nat.le_of_ble_eq_true rfl)) d_Face_charge_26 ⟨Nat.le_of_ble_eq_true rfl, Nat.le_of_ble_eq_true rfl⟩) (fun r2 h => ?_)
    refine lv_if_ne (tgt := 50) hx hb d_Face_charge_29 (by decide) (fun hc => ?_) (fun hc => ?_)
    · have h := h.2 hc
      refine lv_iconst (v := 0) hx hb d_Face_charge_50 (by decide) ?_
      exact x_ret (W.widen (k := 1) (n := 6) (Nat.zero_le _) (Nat.zero_le _) (W.zret (v := 0) hx hb hr (by decide) (fun t ht hW => ⟨⟨0, σ, rfl, h, hp_back ht hP⟩, hS.F ht⟩) hS.2.2 d_Face_charge_51))
    · have h := h.1 hc
      refine lv_aload_n hx hb d_Face_charge_32 rfl (lv_at hl 0 rfl) ?_
      refine va_get (D := D) (ci := 6) (v := .ref (ad 1 0)) (C := "CarrierPaths") (T := F_Face) (N := 7) hx hb hts in_Face hown hK hP 0 rfl rfl 0 (by decide) (hts _ kw172) (fun _ h9 => h9) rfl d_Face_charge_33 ?_
      refine lv_aload_n hx hb d_Face_charge_36 rfl (lv_at hl 0 rfl) ?_
      refine va_get (D := D) (ci := 6) (v := .ref (ad 4 0)) (C := "CarrierPaths") (T := F_Face) (N := 7) hx hb hts in_Face hown hK hP 0 rfl rfl 3 (by decide) (hts _ kw175) (fun _ h9 => h9) rfl d_Face_charge_37 ?_
      refine lv_iload_n hx hb d_Face_charge_40 rfl (lv_at hl 1 rfl) ?_
      refine vp_callSi (W.runV (As := [.int v1]) (rest := [.ref (ad 1 0)]) ⟨hx, hb, hml, hown, hts⟩ (t_Fleet_pointOf l D cI cZ (ad 4) v1 (σ 4) _ h) (cwV 1 hts (g_of kw246 kw247 kw248 kw6 kw249) rfl rfl rfl (by decide +kernel) ⟨Nat.le_of_ble_eq_true rfl, Nat.le_of_ble_eq_true rfl⟩) (ro_pre hK (pt_Fleet hP) (va_recv hK (pt_Fleet hP) (ci := 1) (q0 := 0) rfl rfl)) rfl rfl hl.1 rfl (lv_room (Nat.le_of_ble_eq_true rfl)) d_Face_charge_41 ⟨Nat.le_of_ble_eq_true rfl, Nat.le_of_ble_eq_true rfl⟩) (fun r3 h => ?_)
      refine vp_callSi (W.runV (As := [.int r3]) (rest := []) ⟨hx, hb, hml, hown, hts⟩ (t_Points_hasCharger l D cI cZ (ad 1) r3 (σ 1) _ h) (cwV 1 hts (g_of kw214 kw215 kw216 kw3 kw217) rfl rfl rfl (by decide +kernel) ⟨Nat.le_of_ble_eq_true rfl, Nat.le_of_ble_eq_true rfl⟩) (ro_pre hK (pt_Points hP) (va_recv hK (pt_Points hP) (ci := 3) (q0 := 0) rfl rfl)) rfl rfl hl.1 rfl (lv_room (Nat.le_of_ble_eq_true rfl)) d_Face_charge_44 ⟨Nat.le_of_ble_eq_true rfl, Nat.le_of_ble_eq_true rfl⟩) (fun r4 h => ?_)
      refine lv_if_ne (tgt := 52) hx hb d_Face_charge_47 (by decide) (fun hc => ?_) (fun hc => ?_)
      · have h := h.2 hc
        refine lv_aload_n hx hb d_Face_charge_52 rfl (lv_at hl 0 rfl) ?_
        refine va_get (D := D) (ci := 6) (v := .ref (ad 4 0)) (C := "CarrierPaths") (T := F_Face) (N := 7) hx hb hts in_Face hown hK hP 0 rfl rfl 3 (by decide) (hts _ kw175) (fun _ h9 => h9) rfl d_Face_charge_53 ?_
        refine lv_iload_n hx hb d_Face_charge_56 rfl (lv_at hl 1 rfl) ?_
        refine va_callv (va_runV (As := [.int v1]) (rest := []) ⟨hx, hb, hml, hown, hts⟩ (t_Fleet_chargeUp l D cI cZ (ad 4) (inj_Fleet inj) v1 (σ 4) _ h) (cwV 1 hts (g_of kw680 kw681 kw682 kw6 kw683) rfl rfl rfl (by decide +kernel) ⟨Nat.le_of_ble_eq_true rfl, Nat.le_of_ble_eq_true rfl⟩) (ro_pre hK (pt_Fleet hP) (va_recv hK (pt_Fleet hP) (ci := 1) (q0 := 0) rfl rfl)) rfl rfl hl.1 rfl (lv_room (Nat.le_of_ble_eq_true rfl)) d_Face_charge_57 ⟨Nat.le_of_ble_eq_true rfl, Nat.le_of_ble_eq_true rfl⟩) hS (fun _ _ h => sub_Fleet h) (fun _ h => sub_Fleet h) (fun u5 t H1 locs ht _ h hP1 _ hk1 hS => ?_)
        have hP1 : va_P D classes (W_Fleet (ad 4) cI cZ u5) H1 := hp_fwd ht hP1
        have hP := join_Fleet inj hP hP1 hk1
        generalize H1 = H at hP hS ⊢
        refine lv_iconst (v := 1) hx hb d_Face_charge_60 (by decide) ?_
        exact x_ret (W.widen (k := 1) (n := 6) (Nat.zero_le _) (Nat.zero_le _) (W.zret (v := 1) hx hb hr (by decide) (fun t ht hW => ⟨⟨1, (setc σ 4 u5), rfl, h, hp_back ht hP⟩, hS.F ht⟩) hS.2.2 d_Face_charge_61))
      · have h := h.1 hc
        refine lv_iconst (v := 0) hx hb d_Face_charge_50 (by decide) ?_
        exact x_ret (W.widen (k := 1) (n := 6) (Nat.zero_le _) (Nat.zero_le _) (W.zret (v := 0) hx hb hr (by decide) (fun t ht hW => ⟨⟨0, σ, rfl, h, hp_back ht hP⟩, hS.F ht⟩) hS.2.2 d_Face_charge_51))
  · have h := h.1 hc
    obtain ⟨sa, hsa⟩ := hth.2 (149, "no such carrier") (by decide)
    exact x_throw hx hb hst (names := xN) hown (by decide +kernel) (by decide +kernel) (hts _ kw571) (hts _ kw15) (hts _ kw572) hsa (xo_of xl_i hts kw581 (fun w hw => hth.1 w hw _)) (hl.1.trans hml.symm) d_Face_charge_11 d_Face_charge_14 d_Face_charge_15 d_Face_charge_17 d_Face_charge_20 hnt (by decide) (by decide) (by decide) (by decide) hlocks (fun t ha hz hq => x_thrown h hP hz hq)
def q_Face_way (v1 v2 v3 : Int32) (σ : SG) (Q : (Int32 → SG → Prop)) (X : String → SG → Prop) : Prop :=
  (q_Points_has v1 (σ 1) (fun r1 => ((r1 = 0 → X "java/lang/IllegalArgumentException" σ) ∧ (¬ r1 = 0 → (q_Points_has v2 (σ 1) (fun r2 => ((r2 = 0 → X "java/lang/IllegalArgumentException" σ) ∧ (¬ r2 = 0 → ((v3 = 0 → (q_Roads_hasWay v1 v2 (σ 2) (fun r3 => ((r3 = 0 → Q (-1) σ) ∧ (¬ r3 = 0 → (q_Roads_leastTime v1 v2 (σ 2) (fun r4 => Q r4 σ))))))) ∧ (¬ v3 = 0 → ((v3 = 1 → (q_Roads_firstPiece v1 v2 (σ 2) (fun r5 => Q r5 σ))) ∧ (¬ v3 = 1 → ((v3 = 2 → (q_Roads_hasWay v1 v2 (σ 2) (fun r6 => ((r6 = 0 → Q (-1) σ) ∧ (¬ r6 = 0 → (q_Roads_piecesOnWay v1 v2 (σ 2) (fun r7 => Q r7 σ))))))) ∧ (¬ v3 = 2 → X "java/lang/IllegalArgumentException" σ))))))))))))))
set_option maxHeartbeats 4000000 in
set_option maxRecDepth 100000 in
theorem t_Face_way (l : Launch) (hst : l.stackTraces = false) (D : va_G) (cI cZ : ClassId) (ad : Nat → Nat → Nat) (inj : Inj (fA ad) 29) (v1 v2 v3 : Int32) (σ : SG) (Q : (Int32 → SG → Prop)) (X : String → SG → Prop) (h : q_Face_way v1 v2 v3 σ Q X) : xMet l y_Face_way (.code y_Face_way prog_1_method_13_code 4 (some .int) :: TG) { frames := 6, cells := 1, slots := 6, locals := 82 } (va_Pc [.ref (ad 0 0), .int v1, .int v2, .int v3] (xB D (tysA cI cZ) (W_Face ad cI cZ σ))) (va_Qi Q (fun u t => va_P D classes (W_Face ad cI cZ u) t.heap) (inA (fA ad) 29)) (xC D ad cI cZ X) 1 6 (inA (fA ad) 29) := by
  refine x_ofW (cc := prog_1_method_13_code) (maxL := 4) (ret := (some .int)) (by decide) rfl ?_
  intro p e s m args below meth c s₁ B hml hnt hv
  obtain ⟨rfl, hP, hK, hth⟩ := hv
  have hx := B.exec
  have hb := B.bytes
  have hr := B.returns
  have hts : ∀ w ∈ TG, w.before [.ref (ad 0 0), .int v1, .int v2, .int v3].toArray s = true := fun w hw => atoms_spec (ws := .code y_Face_way prog_1_method_13_code 4 (some .int) :: TG) B.pre w (List.mem_cons_of_mem _ hw)
  have hown : s.vm.findClass "CarrierPaths" = some m.cls := findClass_of_methodNamed B.named
  have hlocks := B.notSynchronized
  have hS : va_S (inA (fA ad) 29) s.heap s.heap [] := va_S.rf
  have hl := lv_entry ([.ref (ad 0 0), .int v1, .int v2, .int v3]) (n := 4) (Nat.le_of_ble_eq_true rfl)
  rw [lg_entry_eq]
  generalize (lg_sl ([.ref (ad 0 0), .int v1, .int v2, .int v3]) ++ List.replicate (4 - (lg_sl ([.ref (ad 0 0), .int v1, .int v2, .int v3])).length) Slot.unset).toArray = ls at hl ⊢
  have hl : lv_has ls 4 [(0, .ref (ad 0 0)), (1, .int v1), (2, .int v2), (3, .int v3)] := hl
  unfold q_Face_way at h
  refine lv_aload_n hx hb d_Face_way_0 rfl (lv_at hl 0 rfl) ?_
  refine va_get (D := D) (ci := 6) (v := .ref (ad 1 0)) (C := "CarrierPaths") (T := F_Face) (N := 7) hx hb hts in_Face hown hK hP 0 rfl rfl 0 (by decide) (hts _ kw172) (fun _ h9 => h9) rfl d_Face_way_1 ?_
  refine lv_iload_n hx hb d_Face_way_4 rfl (lv_at hl 1 rfl) ?_
  refine vp_callSi (W.runV (As := [.int v1]) (rest := []) ⟨hx, hb, hml, hown, hts⟩ (t_Points_has l D cI cZ (ad 1) v1 (σ 1) _ h) (cwV 1 hts (g_of kw198 kw199 kw200 kw3 kw201) rfl rfl rfl (by decide +kernel) ⟨Nat.le_of_ble_eq_true rfl, Nat.le_of_ble_eq_true rfl⟩) (ro_pre hK (pt_Points hP) (va_recv hK (pt_Points hP) (ci := 3) (q0 := 0) rfl rfl)) rfl rfl hl.1 rfl (lv_room (Nat.le_of_ble_eq_true rfl)) d_Face_way_5 ⟨Nat.le_of_ble_eq_true rfl, Nat.le_of_ble_eq_true rfl⟩) (fun r1 h => ?_)
  refine lv_if_eq (tgt := 22) hx hb d_Face_way_8 (by decide) (fun hc => ?_) (fun hc => ?_)
  · have h := h.1 hc
    obtain ⟨sa, hsa⟩ := hth.2 (192, "no such points") (by decide)
    exact x_throw hx hb hst (names := xN) hown (by decide +kernel) (by decide +kernel) (hts _ kw423) (hts _ kw13) (hts _ kw424) hsa (xo_of xl_a hts kw465 (fun w hw => hth.1 w hw _)) (hl.1.trans hml.symm) d_Face_way_22 d_Face_way_25 d_Face_way_26 d_Face_way_28 d_Face_way_31 hnt (by decide) (by decide) (by decide) (by decide) hlocks (fun t ha hz hq => x_thrown h hP hz hq)
  · have h := h.2 hc
    refine lv_aload_n hx hb d_Face_way_11 rfl (lv_at hl 0 rfl) ?_
    refine va_get (D := D) (ci := 6) (v := .ref (ad 1 0)) (C := "CarrierPaths") (T := F_Face) (N := 7) hx hb hts in_Face hown hK hP 0 rfl rfl 0 (by decide) (hts _ kw172) (fun _ h9 => h9) rfl d_Face_way_12 ?_
    refine lv_iload_n hx hb d_Face_way_15 rfl (lv_at hl 2 rfl) ?_
    refine vp_callSi (W.runV (As := [.int v2]) (rest := []) ⟨hx, hb, hml, hown, hts⟩ (t_Points_has l D cI cZ (ad 1) v2 (σ 1) _ h) (cwV 1 hts (g_of kw198 kw199 kw200 kw3 kw201) rfl rfl rfl (by decide +kernel) ⟨Nat.le_of_ble_eq_true rfl, Nat.le_of_ble_eq_true rfl⟩) (ro_pre hK (pt_Points hP) (va_recv hK (pt_Points hP) (ci := 3) (q0 := 0) rfl rfl)) rfl rfl hl.1 rfl (lv_room (Nat.le_of_ble_eq_true rfl)) d_Face_way_16 ⟨Nat.le_of_ble_eq_true rfl, Nat.le_of_ble_eq_true rfl⟩) (fun r2 h => ?_)
    refine lv_if_ne (tgt := 32) hx hb d_Face_way_19 (by decide) (fun hc => ?_) (fun hc => ?_)
    · have h := h.2 hc
      refine lv_iload_n hx hb d_Face_way_32 rfl (lv_at hl 3 rfl) ?_
      by_cases hc0 : v3 = 0
      · have h := h.1 hc0
        refine lv_tableIn (tgt := 60) (off := 27) hx hb d_Face_way_33 (by rw [hc0]; decide) (by rw [hc0]; decide) (by rw [hc0]; decide) (by decide) ?_
        refine lv_aload_n hx hb d_Face_way_60 rfl (lv_at hl 0 rfl) ?_
        refine va_get (D := D) (ci := 6) (v := .ref (ad 2 0)) (C := "CarrierPaths") (T := F_Face) (N := 7) hx hb hts in_Face hown hK hP 0 rfl rfl 1 (by decide) (hts _ kw173) (fun _ h9 => h9) rfl d_Face_way_61 ?_
        refine lv_iload_n hx hb d_Face_way_64 rfl (lv_at hl 1 rfl) ?_
        refine lv_iload_n hx hb d_Face_way_65 rfl (lv_at hl 2 rfl) ?_
        refine vp_callSi (W.runV (As := [.int v1, .int v2]) (rest := []) ⟨hx, hb, hml, hown, hts⟩ (t_Roads_hasWay l D cI cZ (ad 2) v1 v2 (σ 2) _ h) (cwV 2 hts (g_of kw692 kw693 kw694 kw4 kw695) rfl rfl rfl (by decide +kernel) ⟨Nat.le_of_ble_eq_true rfl, Nat.le_of_ble_eq_true rfl⟩) (ro_pre hK (pt_Roads hP) (va_recv hK (pt_Roads hP) (ci := 5) (q0 := 0) rfl rfl)) rfl rfl hl.1 rfl (lv_room (Nat.le_of_ble_eq_true rfl)) d_Face_way_66 ⟨Nat.le_of_ble_eq_true rfl, Nat.le_of_ble_eq_true rfl⟩) (fun r3 h => ?_)
        refine lv_if_eq (tgt := 84) hx hb d_Face_way_69 (by decide) (fun hc => ?_) (fun hc => ?_)
        · have h := h.1 hc
          refine lv_iconst (v := (-1)) hx hb d_Face_way_84 (by decide) ?_
          exact x_ret (W.widen (k := 1) (n := 6) (Nat.zero_le _) (Nat.zero_le _) (W.iret (v := (-1)) hx hb hr (fun t ht hW => ⟨⟨(-1), σ, rfl, h, hp_back ht hP⟩, hS.F ht⟩) hS.2.2 d_Face_way_85))
        · have h := h.2 hc
          refine lv_aload_n hx hb d_Face_way_72 rfl (lv_at hl 0 rfl) ?_
          refine va_get (D := D) (ci := 6) (v := .ref (ad 2 0)) (C := "CarrierPaths") (T := F_Face) (N := 7) hx hb hts in_Face hown hK hP 0 rfl rfl 1 (by decide) (hts _ kw173) (fun _ h9 => h9) rfl d_Face_way_73 ?_
          refine lv_iload_n hx hb d_Face_way_76 rfl (lv_at hl 1 rfl) ?_
          refine lv_iload_n hx hb d_Face_way_77 rfl (lv_at hl 2 rfl) ?_
          refine vp_callSi (W.runV (As := [.int v1, .int v2]) (rest := []) ⟨hx, hb, hml, hown, hts⟩ (t_Roads_leastTime l D cI cZ (ad 2) v1 v2 (σ 2) _ h) (cwV 2 hts (g_of kw254 kw255 kw256 kw4 kw257) rfl rfl rfl (by decide +kernel) ⟨Nat.le_of_ble_eq_true rfl, Nat.le_of_ble_eq_true rfl⟩) (ro_pre hK (pt_Roads hP) (va_recv hK (pt_Roads hP) (ci := 5) (q0 := 0) rfl rfl)) rfl rfl hl.1 rfl (lv_room (Nat.le_of_ble_eq_true rfl)) d_Face_way_78 ⟨Nat.le_of_ble_eq_true rfl, Nat.le_of_ble_eq_true rfl⟩) (fun r4 h => ?_)
          refine lv_goto (tgt := 85) hx hb d_Face_way_81 (by decide) ?_
          exact x_ret (W.widen (k := 1) (n := 6) (Nat.zero_le _) (Nat.zero_le _) (W.iret (v := r4) hx hb hr (fun t ht hW => ⟨⟨r4, σ, rfl, h, hp_back ht hP⟩, hS.F ht⟩) hS.2.2 d_Face_way_85))
      · have h := h.2 hc0
        by_cases hc1 : v3 = 1
        · have h := h.1 hc1
          refine lv_tableIn (tgt := 86) (off := 53) hx hb d_Face_way_33 (by rw [hc1]; decide) (by rw [hc1]; decide) (by rw [hc1]; decide) (by decide) ?_
          refine lv_aload_n hx hb d_Face_way_86 rfl (lv_at hl 0 rfl) ?_
          refine va_get (D := D) (ci := 6) (v := .ref (ad 2 0)) (C := "CarrierPaths") (T := F_Face) (N := 7) hx hb hts in_Face hown hK hP 0 rfl rfl 1 (by decide) (hts _ kw173) (fun _ h9 => h9) rfl d_Face_way_87 ?_
          refine lv_iload_n hx hb d_Face_way_90 rfl (lv_at hl 1 rfl) ?_
          refine lv_iload_n hx hb d_Face_way_91 rfl (lv_at hl 2 rfl) ?_
          refine vp_callSi (W.runV (As := [.int v1, .int v2]) (rest := []) ⟨hx, hb, hml, hown, hts⟩ (t_Roads_firstPiece l D cI cZ (ad 2) v1 v2 (σ 2) _ h) (cwV 2 hts (g_of kw604 kw605 kw606 kw4 kw607) rfl rfl rfl (by decide +kernel) ⟨Nat.le_of_ble_eq_true rfl, Nat.le_of_ble_eq_true rfl⟩) (ro_pre hK (pt_Roads hP) (va_recv hK (pt_Roads hP) (ci := 5) (q0 := 0) rfl rfl)) rfl rfl hl.1 rfl (lv_room (Nat.le_of_ble_eq_true rfl)) d_Face_way_92 ⟨Nat.le_of_ble_eq_true rfl, Nat.le_of_ble_eq_true rfl⟩) (fun r5 h => ?_)
          exact x_ret (W.widen (k := 1) (n := 6) (Nat.zero_le _) (Nat.zero_le _) (W.iret (v := r5) hx hb hr (fun t ht hW => ⟨⟨r5, σ, rfl, h, hp_back ht hP⟩, hS.F ht⟩) hS.2.2 d_Face_way_95))
        · have h := h.2 hc1
          by_cases hc2 : v3 = 2
          · have h := h.1 hc2
            refine lv_tableIn (tgt := 96) (off := 63) hx hb d_Face_way_33 (by rw [hc2]; decide) (by rw [hc2]; decide) (by rw [hc2]; decide) (by decide) ?_
            refine lv_aload_n hx hb d_Face_way_96 rfl (lv_at hl 0 rfl) ?_
            refine va_get (D := D) (ci := 6) (v := .ref (ad 2 0)) (C := "CarrierPaths") (T := F_Face) (N := 7) hx hb hts in_Face hown hK hP 0 rfl rfl 1 (by decide) (hts _ kw173) (fun _ h9 => h9) rfl d_Face_way_97 ?_
            refine lv_iload_n hx hb d_Face_way_100 rfl (lv_at hl 1 rfl) ?_
            refine lv_iload_n hx hb d_Face_way_101 rfl (lv_at hl 2 rfl) ?_
            refine vp_callSi (W.runV (As := [.int v1, .int v2]) (rest := []) ⟨hx, hb, hml, hown, hts⟩ (t_Roads_hasWay l D cI cZ (ad 2) v1 v2 (σ 2) _ h) (cwV 2 hts (g_of kw692 kw693 kw694 kw4 kw695) rfl rfl rfl (by decide +kernel) ⟨Nat.le_of_ble_eq_true rfl, Nat.le_of_ble_eq_true rfl⟩) (ro_pre hK (pt_Roads hP) (va_recv hK (pt_Roads hP) (ci := 5) (q0 := 0) rfl rfl)) rfl rfl hl.1 rfl (lv_room (Nat.le_of_ble_eq_true rfl)) d_Face_way_102 ⟨Nat.le_of_ble_eq_true rfl, Nat.le_of_ble_eq_true rfl⟩) (fun r6 h => ?_)
            refine lv_if_eq (tgt := 120) hx hb d_Face_way_105 (by decide) (fun hc => ?_) (fun hc => ?_)
            · have h := h.1 hc
              refine lv_iconst (v := (-1)) hx hb d_Face_way_120 (by decide) ?_
              exact x_ret (W.widen (k := 1) (n := 6) (Nat.zero_le _) (Nat.zero_le _) (W.iret (v := (-1)) hx hb hr (fun t ht hW => ⟨⟨(-1), σ, rfl, h, hp_back ht hP⟩, hS.F ht⟩) hS.2.2 d_Face_way_121))
            · have h := h.2 hc
              refine lv_aload_n hx hb d_Face_way_108 rfl (lv_at hl 0 rfl) ?_
              refine va_get (D := D) (ci := 6) (v := .ref (ad 2 0)) (C := "CarrierPaths") (T := F_Face) (N := 7) hx hb hts in_Face hown hK hP 0 rfl rfl 1 (by decide) (hts _ kw173) (fun _ h9 => h9) rfl d_Face_way_109 ?_
              refine lv_iload_n hx hb d_Face_way_112 rfl (lv_at hl 1 rfl) ?_
              refine lv_iload_n hx hb d_Face_way_113 rfl (lv_at hl 2 rfl) ?_
              refine vp_callSi (W.runV (As := [.int v1, .int v2]) (rest := []) ⟨hx, hb, hml, hown, hts⟩ (t_Roads_piecesOnWay l D cI cZ (ad 2) v1 v2 (σ 2) _ h) (cwV 2 hts (g_of kw696 kw697 kw698 kw4 kw699) rfl rfl rfl (by decide +kernel) ⟨Nat.le_of_ble_eq_true rfl, Nat.le_of_ble_eq_true rfl⟩) (ro_pre hK (pt_Roads hP) (va_recv hK (pt_Roads hP) (ci := 5) (q0 := 0) rfl rfl)) rfl rfl hl.1 rfl (lv_room (Nat.le_of_ble_eq_true rfl)) d_Face_way_114 ⟨Nat.le_of_ble_eq_true rfl, Nat.le_of_ble_eq_true rfl⟩) (fun r7 h => ?_)
              refine lv_goto (tgt := 121) hx hb d_Face_way_117 (by decide) ?_
              exact x_ret (W.widen (k := 1) (n := 6) (Nat.zero_le _) (Nat.zero_le _) (W.iret (v := r7) hx hb hr (fun t ht hW => ⟨⟨r7, σ, rfl, h, hp_back ht hP⟩, hS.F ht⟩) hS.2.2 d_Face_way_121))
          · have h := h.2 hc2
            refine lv_tableOut (tgt := 122) hx hb d_Face_way_33 (by have e0 := lv_neT hc0 (a := 0) (by decide); have e1 := lv_neT hc1 (a := 1) (by decide); have e2 := lv_neT hc2 (a := 2) (by decide); omega) (by decide) ?_
            obtain ⟨sa, hsa⟩ := hth.2 (206, "no such what") (by decide)
            exact x_throw hx hb hst (names := xN) hown (by decide +kernel) (by decide +kernel) (hts _ kw423) (hts _ kw13) (hts _ kw424) hsa (xo_of xl_a hts kw465 (fun w hw => hth.1 w hw _)) (hl.1.trans hml.symm) d_Face_way_122 d_Face_way_125 d_Face_way_126 d_Face_way_128 d_Face_way_131 hnt (by decide) (by decide) (by decide) (by decide) hlocks (fun t ha hz hq => x_thrown h hP hz hq)
    · have h := h.1 hc
      obtain ⟨sa, hsa⟩ := hth.2 (192, "no such points") (by decide)
      exact x_throw hx hb hst (names := xN) hown (by decide +kernel) (by decide +kernel) (hts _ kw423) (hts _ kw13) (hts _ kw424) hsa (xo_of xl_a hts kw465 (fun w hw => hth.1 w hw _)) (hl.1.trans hml.symm) d_Face_way_22 d_Face_way_25 d_Face_way_26 d_Face_way_28 d_Face_way_31 hnt (by decide) (by decide) (by decide) (by decide) hlocks (fun t ha hz hq => x_thrown h hP hz hq)
def q_Face_look (v1 v2 : Int32) (σ : SG) (Q : (Int32 → SG → Prop)) (X : String → SG → Prop) : Prop :=
  (q_Fleet_has v1 (σ 4) (fun r1 => ((r1 = 0 → X "java/lang/IndexOutOfBoundsException" σ) ∧ (¬ r1 = 0 → ((v2 = 0 → (q_Fleet_pointOf v1 (σ 4) (fun r2 => Q r2 σ))) ∧ (¬ v2 = 0 → ((v2 = 1 → (q_Fleet_pieceOf v1 (σ 4) (fun r3 => Q r3 σ))) ∧ (¬ v2 = 1 → ((v2 = 2 → (q_Fleet_arrivalOf v1 (σ 4) (fun r4 => Q r4 σ))) ∧ (¬ v2 = 2 → ((v2 = 3 → (q_Fleet_jobOf v1 (σ 4) (fun r5 => Q r5 σ))) ∧ (¬ v2 = 3 → ((v2 = 4 → (q_Fleet_chargeOf v1 (σ 4) (fun r6 => Q r6 σ))) ∧ (¬ v2 = 4 → ((v2 = 5 → (q_Fleet_endedBy v1 (σ 4) (fun r7 => Q r7 σ))) ∧ (¬ v2 = 5 → ((v2 = 6 → (q_Fleet_emptyTimeOf v1 (σ 4) (fun r8 => Q r8 σ))) ∧ (¬ v2 = 6 → X "java/lang/IndexOutOfBoundsException" σ))))))))))))))))))
set_option maxHeartbeats 4000000 in
set_option maxRecDepth 100000 in
theorem t_Face_look (l : Launch) (hst : l.stackTraces = false) (D : va_G) (cI cZ : ClassId) (ad : Nat → Nat → Nat) (inj : Inj (fA ad) 29) (v1 v2 : Int32) (σ : SG) (Q : (Int32 → SG → Prop)) (X : String → SG → Prop) (h : q_Face_look v1 v2 σ Q X) : xMet l y_Face_look (.code y_Face_look prog_1_method_14_code 3 (some .int) :: TG) { frames := 6, cells := 1, slots := 6, locals := 82 } (va_Pc [.ref (ad 0 0), .int v1, .int v2] (xB D (tysA cI cZ) (W_Face ad cI cZ σ))) (va_Qi Q (fun u t => va_P D classes (W_Face ad cI cZ u) t.heap) (inA (fA ad) 29)) (xC D ad cI cZ X) 1 6 (inA (fA ad) 29) := by
  refine x_ofW (cc := prog_1_method_14_code) (maxL := 3) (ret := (some .int)) (by decide) rfl ?_
  intro p e s m args below meth c s₁ B hml hnt hv
  obtain ⟨rfl, hP, hK, hth⟩ := hv
  have hx := B.exec
  have hb := B.bytes
  have hr := B.returns
  have hts : ∀ w ∈ TG, w.before [.ref (ad 0 0), .int v1, .int v2].toArray s = true := fun w hw => atoms_spec (ws := .code y_Face_look prog_1_method_14_code 3 (some .int) :: TG) B.pre w (List.mem_cons_of_mem _ hw)
  have hown : s.vm.findClass "CarrierPaths" = some m.cls := findClass_of_methodNamed B.named
  have hlocks := B.notSynchronized
  have hS : va_S (inA (fA ad) 29) s.heap s.heap [] := va_S.rf
  have hl := lv_entry ([.ref (ad 0 0), .int v1, .int v2]) (n := 3) (Nat.le_of_ble_eq_true rfl)
  rw [lg_entry_eq]
  generalize (lg_sl ([.ref (ad 0 0), .int v1, .int v2]) ++ List.replicate (3 - (lg_sl ([.ref (ad 0 0), .int v1, .int v2])).length) Slot.unset).toArray = ls at hl ⊢
  have hl : lv_has ls 3 [(0, .ref (ad 0 0)), (1, .int v1), (2, .int v2)] := hl
  unfold q_Face_look at h
  refine lv_aload_n hx hb d_Face_look_0 rfl (lv_at hl 0 rfl) ?_
  refine va_get (D := D) (ci := 6) (v := .ref (ad 4 0)) (C := "CarrierPaths") (T := F_Face) (N := 7) hx hb hts in_Face hown hK hP 0 rfl rfl 3 (by decide) (hts _ kw175) (fun _ h9 => h9) rfl d_Face_look_1 ?_
  refine lv_iload_n hx hb d_Face_look_4 rfl (lv_at hl 1 rfl) ?_
  refine vp_callSi (W.runV (As := [.int v1]) (rest := []) ⟨hx, hb, hml, hown, hts⟩ (t_Fleet_has l D cI cZ (ad 4) v1 (σ 4) _ h) (cwV 1 hts (g_of kw567 kw568 kw569 kw6 kw570) rfl rfl rfl (by decide +kernel) ⟨Nat.le_of_ble_eq_true rfl, Nat.le_of_ble_eq_true rfl⟩) (ro_pre hK (pt_Fleet hP) (va_recv hK (pt_Fleet hP) (ci := 1) (q0 := 0) rfl rfl)) rfl rfl hl.1 rfl (lv_room (Nat.le_of_ble_eq_true rfl)) d_Face_look_5 ⟨Nat.le_of_ble_eq_true rfl, Nat.le_of_ble_eq_true rfl⟩) (fun r1 h => ?_)
  refine lv_if_ne (tgt := 21) hx hb d_Face_look_8 (by decide) (fun hc => ?_) (fun hc => ?_)
  · have h := h.2 hc
    refine lv_iload_n hx hb d_Face_look_21 rfl (lv_at hl 2 rfl) ?_
    by_cases hc0 : v2 = 0
    · have h := h.1 hc0
      refine lv_tableIn (tgt := 64) (off := 42) hx hb d_Face_look_22 (by rw [hc0]; decide) (by rw [hc0]; decide) (by rw [hc0]; decide) (by decide) ?_
      refine lv_aload_n hx hb d_Face_look_64 rfl (lv_at hl 0 rfl) ?_
      refine va_get (D := D) (ci := 6) (v := .ref (ad 4 0)) (C := "CarrierPaths") (T := F_Face) (N := 7) hx hb hts in_Face hown hK hP 0 rfl rfl 3 (by decide) (hts _ kw175) (fun _ h9 => h9) rfl d_Face_look_65 ?_
      refine lv_iload_n hx hb d_Face_look_68 rfl (lv_at hl 1 rfl) ?_
      refine vp_callSi (W.runV (As := [.int v1]) (rest := []) ⟨hx, hb, hml, hown, hts⟩ (t_Fleet_pointOf l D cI cZ (ad 4) v1 (σ 4) _ h) (cwV 1 hts (g_of kw246 kw247 kw248 kw6 kw249) rfl rfl rfl (by decide +kernel) ⟨Nat.le_of_ble_eq_true rfl, Nat.le_of_ble_eq_true rfl⟩) (ro_pre hK (pt_Fleet hP) (va_recv hK (pt_Fleet hP) (ci := 1) (q0 := 0) rfl rfl)) rfl rfl hl.1 rfl (lv_room (Nat.le_of_ble_eq_true rfl)) d_Face_look_69 ⟨Nat.le_of_ble_eq_true rfl, Nat.le_of_ble_eq_true rfl⟩) (fun r2 h => ?_)
      exact x_ret (W.widen (k := 1) (n := 6) (Nat.zero_le _) (Nat.zero_le _) (W.iret (v := r2) hx hb hr (fun t ht hW => ⟨⟨r2, σ, rfl, h, hp_back ht hP⟩, hS.F ht⟩) hS.2.2 d_Face_look_72))
    · have h := h.2 hc0
      by_cases hc1 : v2 = 1
      · have h := h.1 hc1
        refine lv_tableIn (tgt := 73) (off := 51) hx hb d_Face_look_22 (by rw [hc1]; decide) (by rw [hc1]; decide) (by rw [hc1]; decide) (by decide) ?_
        refine lv_aload_n hx hb d_Face_look_73 rfl (lv_at hl 0 rfl) ?_
        refine va_get (D := D) (ci := 6) (v := .ref (ad 4 0)) (C := "CarrierPaths") (T := F_Face) (N := 7) hx hb hts in_Face hown hK hP 0 rfl rfl 3 (by decide) (hts _ kw175) (fun _ h9 => h9) rfl d_Face_look_74 ?_
        refine lv_iload_n hx hb d_Face_look_77 rfl (lv_at hl 1 rfl) ?_
        refine vp_callSi (W.runV (As := [.int v1]) (rest := []) ⟨hx, hb, hml, hown, hts⟩ (t_Fleet_pieceOf l D cI cZ (ad 4) v1 (σ 4) _ h) (cwV 1 hts (g_of kw709 kw710 kw711 kw6 kw712) rfl rfl rfl (by decide +kernel) ⟨Nat.le_of_ble_eq_true rfl, Nat.le_of_ble_eq_true rfl⟩) (ro_pre hK (pt_Fleet hP) (va_recv hK (pt_Fleet hP) (ci := 1) (q0 := 0) rfl rfl)) rfl rfl hl.1 rfl (lv_room (Nat.le_of_ble_eq_true rfl)) d_Face_look_78 ⟨Nat.le_of_ble_eq_true rfl, Nat.le_of_ble_eq_true rfl⟩) (fun r3 h => ?_)
        exact x_ret (W.widen (k := 1) (n := 6) (Nat.zero_le _) (Nat.zero_le _) (W.iret (v := r3) hx hb hr (fun t ht hW => ⟨⟨r3, σ, rfl, h, hp_back ht hP⟩, hS.F ht⟩) hS.2.2 d_Face_look_81))
      · have h := h.2 hc1
        by_cases hc2 : v2 = 2
        · have h := h.1 hc2
          refine lv_tableIn (tgt := 82) (off := 60) hx hb d_Face_look_22 (by rw [hc2]; decide) (by rw [hc2]; decide) (by rw [hc2]; decide) (by decide) ?_
          refine lv_aload_n hx hb d_Face_look_82 rfl (lv_at hl 0 rfl) ?_
          refine va_get (D := D) (ci := 6) (v := .ref (ad 4 0)) (C := "CarrierPaths") (T := F_Face) (N := 7) hx hb hts in_Face hown hK hP 0 rfl rfl 3 (by decide) (hts _ kw175) (fun _ h9 => h9) rfl d_Face_look_83 ?_
          refine lv_iload_n hx hb d_Face_look_86 rfl (lv_at hl 1 rfl) ?_
          refine vp_callSi (W.runV (As := [.int v1]) (rest := []) ⟨hx, hb, hml, hown, hts⟩ (t_Fleet_arrivalOf l D cI cZ (ad 4) v1 (σ 4) _ h) (cwV 1 hts (g_of kw713 kw714 kw715 kw6 kw716) rfl rfl rfl (by decide +kernel) ⟨Nat.le_of_ble_eq_true rfl, Nat.le_of_ble_eq_true rfl⟩) (ro_pre hK (pt_Fleet hP) (va_recv hK (pt_Fleet hP) (ci := 1) (q0 := 0) rfl rfl)) rfl rfl hl.1 rfl (lv_room (Nat.le_of_ble_eq_true rfl)) d_Face_look_87 ⟨Nat.le_of_ble_eq_true rfl, Nat.le_of_ble_eq_true rfl⟩) (fun r4 h => ?_)
          exact x_ret (W.widen (k := 1) (n := 6) (Nat.zero_le _) (Nat.zero_le _) (W.iret (v := r4) hx hb hr (fun t ht hW => ⟨⟨r4, σ, rfl, h, hp_back ht hP⟩, hS.F ht⟩) hS.2.2 d_Face_look_90))
        · have h := h.2 hc2
          by_cases hc3 : v2 = 3
          · have h := h.1 hc3
            refine lv_tableIn (tgt := 91) (off := 69) hx hb d_Face_look_22 (by rw [hc3]; decide) (by rw [hc3]; decide) (by rw [hc3]; decide) (by decide) ?_
            refine lv_aload_n hx hb d_Face_look_91 rfl (lv_at hl 0 rfl) ?_
            refine va_get (D := D) (ci := 6) (v := .ref (ad 4 0)) (C := "CarrierPaths") (T := F_Face) (N := 7) hx hb hts in_Face hown hK hP 0 rfl rfl 3 (by decide) (hts _ kw175) (fun _ h9 => h9) rfl d_Face_look_92 ?_
            refine lv_iload_n hx hb d_Face_look_95 rfl (lv_at hl 1 rfl) ?_
            refine vp_callSi (W.runV (As := [.int v1]) (rest := []) ⟨hx, hb, hml, hown, hts⟩ (t_Fleet_jobOf l D cI cZ (ad 4) v1 (σ 4) _ h) (cwV 1 hts (g_of kw588 kw589 kw590 kw6 kw591) rfl rfl rfl (by decide +kernel) ⟨Nat.le_of_ble_eq_true rfl, Nat.le_of_ble_eq_true rfl⟩) (ro_pre hK (pt_Fleet hP) (va_recv hK (pt_Fleet hP) (ci := 1) (q0 := 0) rfl rfl)) rfl rfl hl.1 rfl (lv_room (Nat.le_of_ble_eq_true rfl)) d_Face_look_96 ⟨Nat.le_of_ble_eq_true rfl, Nat.le_of_ble_eq_true rfl⟩) (fun r5 h => ?_)
            exact x_ret (W.widen (k := 1) (n := 6) (Nat.zero_le _) (Nat.zero_le _) (W.iret (v := r5) hx hb hr (fun t ht hW => ⟨⟨r5, σ, rfl, h, hp_back ht hP⟩, hS.F ht⟩) hS.2.2 d_Face_look_99))
          · have h := h.2 hc3
            by_cases hc4 : v2 = 4
            · have h := h.1 hc4
              refine lv_tableIn (tgt := 100) (off := 78) hx hb d_Face_look_22 (by rw [hc4]; decide) (by rw [hc4]; decide) (by rw [hc4]; decide) (by decide) ?_
              refine lv_aload_n hx hb d_Face_look_100 rfl (lv_at hl 0 rfl) ?_
              refine va_get (D := D) (ci := 6) (v := .ref (ad 4 0)) (C := "CarrierPaths") (T := F_Face) (N := 7) hx hb hts in_Face hown hK hP 0 rfl rfl 3 (by decide) (hts _ kw175) (fun _ h9 => h9) rfl d_Face_look_101 ?_
              refine lv_iload_n hx hb d_Face_look_104 rfl (lv_at hl 1 rfl) ?_
              refine vp_callSi (W.runV (As := [.int v1]) (rest := []) ⟨hx, hb, hml, hown, hts⟩ (t_Fleet_chargeOf l D cI cZ (ad 4) v1 (σ 4) _ h) (cwV 1 hts (g_of kw628 kw629 kw630 kw6 kw631) rfl rfl rfl (by decide +kernel) ⟨Nat.le_of_ble_eq_true rfl, Nat.le_of_ble_eq_true rfl⟩) (ro_pre hK (pt_Fleet hP) (va_recv hK (pt_Fleet hP) (ci := 1) (q0 := 0) rfl rfl)) rfl rfl hl.1 rfl (lv_room (Nat.le_of_ble_eq_true rfl)) d_Face_look_105 ⟨Nat.le_of_ble_eq_true rfl, Nat.le_of_ble_eq_true rfl⟩) (fun r6 h => ?_)
              exact x_ret (W.widen (k := 1) (n := 6) (Nat.zero_le _) (Nat.zero_le _) (W.iret (v := r6) hx hb hr (fun t ht hW => ⟨⟨r6, σ, rfl, h, hp_back ht hP⟩, hS.F ht⟩) hS.2.2 d_Face_look_108))
            · have h := h.2 hc4
              by_cases hc5 : v2 = 5
              · have h := h.1 hc5
                refine lv_tableIn (tgt := 109) (off := 87) hx hb d_Face_look_22 (by rw [hc5]; decide) (by rw [hc5]; decide) (by rw [hc5]; decide) (by decide) ?_
                refine lv_aload_n hx hb d_Face_look_109 rfl (lv_at hl 0 rfl) ?_
                refine va_get (D := D) (ci := 6) (v := .ref (ad 4 0)) (C := "CarrierPaths") (T := F_Face) (N := 7) hx hb hts in_Face hown hK hP 0 rfl rfl 3 (by decide) (hts _ kw175) (fun _ h9 => h9) rfl d_Face_look_110 ?_
                refine lv_iload_n hx hb d_Face_look_113 rfl (lv_at hl 1 rfl) ?_
                refine vp_callSi (W.runV (As := [.int v1]) (rest := []) ⟨hx, hb, hml, hown, hts⟩ (t_Fleet_endedBy l D cI cZ (ad 4) v1 (σ 4) _ h) (cwV 1 hts (g_of kw717 kw718 kw719 kw6 kw720) rfl rfl rfl (by decide +kernel) ⟨Nat.le_of_ble_eq_true rfl, Nat.le_of_ble_eq_true rfl⟩) (ro_pre hK (pt_Fleet hP) (va_recv hK (pt_Fleet hP) (ci := 1) (q0 := 0) rfl rfl)) rfl rfl hl.1 rfl (lv_room (Nat.le_of_ble_eq_true rfl)) d_Face_look_114 ⟨Nat.le_of_ble_eq_true rfl, Nat.le_of_ble_eq_true rfl⟩) (fun r7 h => ?_)
                exact x_ret (W.widen (k := 1) (n := 6) (Nat.zero_le _) (Nat.zero_le _) (W.iret (v := r7) hx hb hr (fun t ht hW => ⟨⟨r7, σ, rfl, h, hp_back ht hP⟩, hS.F ht⟩) hS.2.2 d_Face_look_117))
              · have h := h.2 hc5
                by_cases hc6 : v2 = 6
                · have h := h.1 hc6
                  refine lv_tableIn (tgt := 118) (off := 96) hx hb d_Face_look_22 (by rw [hc6]; decide) (by rw [hc6]; decide) (by rw [hc6]; decide) (by decide) ?_
                  refine lv_aload_n hx hb d_Face_look_118 rfl (lv_at hl 0 rfl) ?_
                  refine va_get (D := D) (ci := 6) (v := .ref (ad 4 0)) (C := "CarrierPaths") (T := F_Face) (N := 7) hx hb hts in_Face hown hK hP 0 rfl rfl 3 (by decide) (hts _ kw175) (fun _ h9 => h9) rfl d_Face_look_119 ?_
                  refine lv_iload_n hx hb d_Face_look_122 rfl (lv_at hl 1 rfl) ?_
                  refine vp_callSi (W.runV (As := [.int v1]) (rest := []) ⟨hx, hb, hml, hown, hts⟩ (t_Fleet_emptyTimeOf l D cI cZ (ad 4) v1 (σ 4) _ h) (cwV 1 hts (g_of kw721 kw722 kw723 kw6 kw724) rfl rfl rfl (by decide +kernel) ⟨Nat.le_of_ble_eq_true rfl, Nat.le_of_ble_eq_true rfl⟩) (ro_pre hK (pt_Fleet hP) (va_recv hK (pt_Fleet hP) (ci := 1) (q0 := 0) rfl rfl)) rfl rfl hl.1 rfl (lv_room (Nat.le_of_ble_eq_true rfl)) d_Face_look_123 ⟨Nat.le_of_ble_eq_true rfl, Nat.le_of_ble_eq_true rfl⟩) (fun r8 h => ?_)
                  exact x_ret (W.widen (k := 1) (n := 6) (Nat.zero_le _) (Nat.zero_le _) (W.iret (v := r8) hx hb hr (fun t ht hW => ⟨⟨r8, σ, rfl, h, hp_back ht hP⟩, hS.F ht⟩) hS.2.2 d_Face_look_126))
                · have h := h.2 hc6
                  refine lv_tableOut (tgt := 127) hx hb d_Face_look_22 (by have e0 := lv_neT hc0 (a := 0) (by decide); have e1 := lv_neT hc1 (a := 1) (by decide); have e2 := lv_neT hc2 (a := 2) (by decide); have e3 := lv_neT hc3 (a := 3) (by decide); have e4 := lv_neT hc4 (a := 4) (by decide); have e5 := lv_neT hc5 (a := 5) (by decide); have e6 := lv_neT hc6 (a := 6) (by decide); omega) (by decide) ?_
                  obtain ⟨sa, hsa⟩ := hth.2 (206, "no such what") (by decide)
                  exact x_throw hx hb hst (names := xN) hown (by decide +kernel) (by decide +kernel) (hts _ kw571) (hts _ kw15) (hts _ kw572) hsa (xo_of xl_i hts kw581 (fun w hw => hth.1 w hw _)) (hl.1.trans hml.symm) d_Face_look_127 d_Face_look_130 d_Face_look_131 d_Face_look_133 d_Face_look_136 hnt (by decide) (by decide) (by decide) (by decide) hlocks (fun t ha hz hq => x_thrown h hP hz hq)
  · have h := h.1 hc
    obtain ⟨sa, hsa⟩ := hth.2 (149, "no such carrier") (by decide)
    exact x_throw hx hb hst (names := xN) hown (by decide +kernel) (by decide +kernel) (hts _ kw571) (hts _ kw15) (hts _ kw572) hsa (xo_of xl_i hts kw581 (fun w hw => hth.1 w hw _)) (hl.1.trans hml.symm) d_Face_look_11 d_Face_look_14 d_Face_look_15 d_Face_look_17 d_Face_look_20 hnt (by decide) (by decide) (by decide) (by decide) hlocks (fun t ha hz hq => x_thrown h hP hz hq)
def q_Face_of (v1 v2 : Int32) (σ : SG) (Q : (Int32 → SG → Prop)) (X : String → SG → Prop) : Prop :=
  (q_Jobs_has v1 (σ 5) (fun r1 => ((r1 = 0 → X "java/lang/IndexOutOfBoundsException" σ) ∧ (¬ r1 = 0 → ((v2 = 0 → (q_Jobs_fromOf v1 (σ 5) (fun r2 => Q r2 σ))) ∧ (¬ v2 = 0 → ((v2 = 1 → (q_Jobs_toOf v1 (σ 5) (fun r3 => Q r3 σ))) ∧ (¬ v2 = 1 → ((v2 = 2 → (q_Jobs_stateOf v1 (σ 5) (fun r4 => Q r4 σ))) ∧ (¬ v2 = 2 → ((v2 = 3 → (q_Jobs_carrierOf v1 (σ 5) (fun r5 => Q r5 σ))) ∧ (¬ v2 = 3 → X "java/lang/IndexOutOfBoundsException" σ))))))))))))
set_option maxHeartbeats 4000000 in
set_option maxRecDepth 100000 in
theorem t_Face_of (l : Launch) (hst : l.stackTraces = false) (D : va_G) (cI cZ : ClassId) (ad : Nat → Nat → Nat) (inj : Inj (fA ad) 29) (v1 v2 : Int32) (σ : SG) (Q : (Int32 → SG → Prop)) (X : String → SG → Prop) (h : q_Face_of v1 v2 σ Q X) : xMet l y_Face_of (.code y_Face_of prog_1_method_15_code 3 (some .int) :: TG) { frames := 6, cells := 1, slots := 6, locals := 82 } (va_Pc [.ref (ad 0 0), .int v1, .int v2] (xB D (tysA cI cZ) (W_Face ad cI cZ σ))) (va_Qi Q (fun u t => va_P D classes (W_Face ad cI cZ u) t.heap) (inA (fA ad) 29)) (xC D ad cI cZ X) 1 6 (inA (fA ad) 29) := by
  refine x_ofW (cc := prog_1_method_15_code) (maxL := 3) (ret := (some .int)) (by decide) rfl ?_
  intro p e s m args below meth c s₁ B hml hnt hv
  obtain ⟨rfl, hP, hK, hth⟩ := hv
  have hx := B.exec
  have hb := B.bytes
  have hr := B.returns
  have hts : ∀ w ∈ TG, w.before [.ref (ad 0 0), .int v1, .int v2].toArray s = true := fun w hw => atoms_spec (ws := .code y_Face_of prog_1_method_15_code 3 (some .int) :: TG) B.pre w (List.mem_cons_of_mem _ hw)
  have hown : s.vm.findClass "CarrierPaths" = some m.cls := findClass_of_methodNamed B.named
  have hlocks := B.notSynchronized
  have hS : va_S (inA (fA ad) 29) s.heap s.heap [] := va_S.rf
  have hl := lv_entry ([.ref (ad 0 0), .int v1, .int v2]) (n := 3) (Nat.le_of_ble_eq_true rfl)
  rw [lg_entry_eq]
  generalize (lg_sl ([.ref (ad 0 0), .int v1, .int v2]) ++ List.replicate (3 - (lg_sl ([.ref (ad 0 0), .int v1, .int v2])).length) Slot.unset).toArray = ls at hl ⊢
  have hl : lv_has ls 3 [(0, .ref (ad 0 0)), (1, .int v1), (2, .int v2)] := hl
  unfold q_Face_of at h
  refine lv_aload_n hx hb d_Face_of_0 rfl (lv_at hl 0 rfl) ?_
  refine va_get (D := D) (ci := 6) (v := .ref (ad 5 0)) (C := "CarrierPaths") (T := F_Face) (N := 7) hx hb hts in_Face hown hK hP 0 rfl rfl 4 (by decide) (hts _ kw176) (fun _ h9 => h9) rfl d_Face_of_1 ?_
  refine lv_iload_n hx hb d_Face_of_4 rfl (lv_at hl 1 rfl) ?_
  refine vp_callSi (W.runV (As := [.int v1]) (rest := []) ⟨hx, hb, hml, hown, hts⟩ (t_Jobs_has l D cI cZ (ad 5) v1 (σ 5) _ h) (cwV 1 hts (g_of kw732 kw733 kw734 kw7 kw735) rfl rfl rfl (by decide +kernel) ⟨Nat.le_of_ble_eq_true rfl, Nat.le_of_ble_eq_true rfl⟩) (ro_pre hK (pt_Jobs hP) (va_recv hK (pt_Jobs hP) (ci := 2) (q0 := 0) rfl rfl)) rfl rfl hl.1 rfl (lv_room (Nat.le_of_ble_eq_true rfl)) d_Face_of_5 ⟨Nat.le_of_ble_eq_true rfl, Nat.le_of_ble_eq_true rfl⟩) (fun r1 h => ?_)
  refine lv_if_ne (tgt := 21) hx hb d_Face_of_8 (by decide) (fun hc => ?_) (fun hc => ?_)
  · have h := h.2 hc
    refine lv_iload_n hx hb d_Face_of_21 rfl (lv_at hl 2 rfl) ?_
    by_cases hc0 : v2 = 0
    · have h := h.1 hc0
      refine lv_tableIn (tgt := 52) (off := 30) hx hb d_Face_of_22 (by rw [hc0]; decide) (by rw [hc0]; decide) (by rw [hc0]; decide) (by decide) ?_
      refine lv_aload_n hx hb d_Face_of_52 rfl (lv_at hl 0 rfl) ?_
      refine va_get (D := D) (ci := 6) (v := .ref (ad 5 0)) (C := "CarrierPaths") (T := F_Face) (N := 7) hx hb hts in_Face hown hK hP 0 rfl rfl 4 (by decide) (hts _ kw176) (fun _ h9 => h9) rfl d_Face_of_53 ?_
      refine lv_iload_n hx hb d_Face_of_56 rfl (lv_at hl 1 rfl) ?_
      refine vp_callSi (W.runV (As := [.int v1]) (rest := []) ⟨hx, hb, hml, hown, hts⟩ (t_Jobs_fromOf l D cI cZ (ad 5) v1 (σ 5) _ h) (cwV 1 hts (g_of kw250 kw251 kw252 kw7 kw253) rfl rfl rfl (by decide +kernel) ⟨Nat.le_of_ble_eq_true rfl, Nat.le_of_ble_eq_true rfl⟩) (ro_pre hK (pt_Jobs hP) (va_recv hK (pt_Jobs hP) (ci := 2) (q0 := 0) rfl rfl)) rfl rfl hl.1 rfl (lv_room (Nat.le_of_ble_eq_true rfl)) d_Face_of_57 ⟨Nat.le_of_ble_eq_true rfl, Nat.le_of_ble_eq_true rfl⟩) (fun r2 h => ?_)
      exact x_ret (W.widen (k := 1) (n := 6) (Nat.zero_le _) (Nat.zero_le _) (W.iret (v := r2) hx hb hr (fun t ht hW => ⟨⟨r2, σ, rfl, h, hp_back ht hP⟩, hS.F ht⟩) hS.2.2 d_Face_of_60))
    · have h := h.2 hc0
      by_cases hc1 : v2 = 1
      · have h := h.1 hc1
        refine lv_tableIn (tgt := 61) (off := 39) hx hb d_Face_of_22 (by rw [hc1]; decide) (by rw [hc1]; decide) (by rw [hc1]; decide) (by decide) ?_
        refine lv_aload_n hx hb d_Face_of_61 rfl (lv_at hl 0 rfl) ?_
        refine va_get (D := D) (ci := 6) (v := .ref (ad 5 0)) (C := "CarrierPaths") (T := F_Face) (N := 7) hx hb hts in_Face hown hK hP 0 rfl rfl 4 (by decide) (hts _ kw176) (fun _ h9 => h9) rfl d_Face_of_62 ?_
        refine lv_iload_n hx hb d_Face_of_65 rfl (lv_at hl 1 rfl) ?_
        refine vp_callSi (W.runV (As := [.int v1]) (rest := []) ⟨hx, hb, hml, hown, hts⟩ (t_Jobs_toOf l D cI cZ (ad 5) v1 (σ 5) _ h) (cwV 1 hts (g_of kw737 kw738 kw739 kw7 kw740) rfl rfl rfl (by decide +kernel) ⟨Nat.le_of_ble_eq_true rfl, Nat.le_of_ble_eq_true rfl⟩) (ro_pre hK (pt_Jobs hP) (va_recv hK (pt_Jobs hP) (ci := 2) (q0 := 0) rfl rfl)) rfl rfl hl.1 rfl (lv_room (Nat.le_of_ble_eq_true rfl)) d_Face_of_66 ⟨Nat.le_of_ble_eq_true rfl, Nat.le_of_ble_eq_true rfl⟩) (fun r3 h => ?_)
        exact x_ret (W.widen (k := 1) (n := 6) (Nat.zero_le _) (Nat.zero_le _) (W.iret (v := r3) hx hb hr (fun t ht hW => ⟨⟨r3, σ, rfl, h, hp_back ht hP⟩, hS.F ht⟩) hS.2.2 d_Face_of_69))
      · have h := h.2 hc1
        by_cases hc2 : v2 = 2
        · have h := h.1 hc2
          refine lv_tableIn (tgt := 70) (off := 48) hx hb d_Face_of_22 (by rw [hc2]; decide) (by rw [hc2]; decide) (by rw [hc2]; decide) (by decide) ?_
          refine lv_aload_n hx hb d_Face_of_70 rfl (lv_at hl 0 rfl) ?_
          refine va_get (D := D) (ci := 6) (v := .ref (ad 5 0)) (C := "CarrierPaths") (T := F_Face) (N := 7) hx hb hts in_Face hown hK hP 0 rfl rfl 4 (by decide) (hts _ kw176) (fun _ h9 => h9) rfl d_Face_of_71 ?_
          refine lv_iload_n hx hb d_Face_of_74 rfl (lv_at hl 1 rfl) ?_
          refine vp_callSi (W.runV (As := [.int v1]) (rest := []) ⟨hx, hb, hml, hown, hts⟩ (t_Jobs_stateOf l D cI cZ (ad 5) v1 (σ 5) _ h) (cwV 1 hts (g_of kw741 kw742 kw743 kw7 kw744) rfl rfl rfl (by decide +kernel) ⟨Nat.le_of_ble_eq_true rfl, Nat.le_of_ble_eq_true rfl⟩) (ro_pre hK (pt_Jobs hP) (va_recv hK (pt_Jobs hP) (ci := 2) (q0 := 0) rfl rfl)) rfl rfl hl.1 rfl (lv_room (Nat.le_of_ble_eq_true rfl)) d_Face_of_75 ⟨Nat.le_of_ble_eq_true rfl, Nat.le_of_ble_eq_true rfl⟩) (fun r4 h => ?_)
          exact x_ret (W.widen (k := 1) (n := 6) (Nat.zero_le _) (Nat.zero_le _) (W.iret (v := r4) hx hb hr (fun t ht hW => ⟨⟨r4, σ, rfl, h, hp_back ht hP⟩, hS.F ht⟩) hS.2.2 d_Face_of_78))
        · have h := h.2 hc2
          by_cases hc3 : v2 = 3
          · have h := h.1 hc3
            refine lv_tableIn (tgt := 79) (off := 57) hx hb d_Face_of_22 (by rw [hc3]; decide) (by rw [hc3]; decide) (by rw [hc3]; decide) (by decide) ?_
            refine lv_aload_n hx hb d_Face_of_79 rfl (lv_at hl 0 rfl) ?_
            refine va_get (D := D) (ci := 6) (v := .ref (ad 5 0)) (C := "CarrierPaths") (T := F_Face) (N := 7) hx hb hts in_Face hown hK hP 0 rfl rfl 4 (by decide) (hts _ kw176) (fun _ h9 => h9) rfl d_Face_of_80 ?_
            refine lv_iload_n hx hb d_Face_of_83 rfl (lv_at hl 1 rfl) ?_
            refine vp_callSi (W.runV (As := [.int v1]) (rest := []) ⟨hx, hb, hml, hown, hts⟩ (t_Jobs_carrierOf l D cI cZ (ad 5) v1 (σ 5) _ h) (cwV 1 hts (g_of kw745 kw746 kw747 kw7 kw748) rfl rfl rfl (by decide +kernel) ⟨Nat.le_of_ble_eq_true rfl, Nat.le_of_ble_eq_true rfl⟩) (ro_pre hK (pt_Jobs hP) (va_recv hK (pt_Jobs hP) (ci := 2) (q0 := 0) rfl rfl)) rfl rfl hl.1 rfl (lv_room (Nat.le_of_ble_eq_true rfl)) d_Face_of_84 ⟨Nat.le_of_ble_eq_true rfl, Nat.le_of_ble_eq_true rfl⟩) (fun r5 h => ?_)
            exact x_ret (W.widen (k := 1) (n := 6) (Nat.zero_le _) (Nat.zero_le _) (W.iret (v := r5) hx hb hr (fun t ht hW => ⟨⟨r5, σ, rfl, h, hp_back ht hP⟩, hS.F ht⟩) hS.2.2 d_Face_of_87))
          · have h := h.2 hc3
            refine lv_tableOut (tgt := 88) hx hb d_Face_of_22 (by have e0 := lv_neT hc0 (a := 0) (by decide); have e1 := lv_neT hc1 (a := 1) (by decide); have e2 := lv_neT hc2 (a := 2) (by decide); have e3 := lv_neT hc3 (a := 3) (by decide); omega) (by decide) ?_
            obtain ⟨sa, hsa⟩ := hth.2 (206, "no such what") (by decide)
            exact x_throw hx hb hst (names := xN) hown (by decide +kernel) (by decide +kernel) (hts _ kw571) (hts _ kw15) (hts _ kw572) hsa (xo_of xl_i hts kw581 (fun w hw => hth.1 w hw _)) (hl.1.trans hml.symm) d_Face_of_88 d_Face_of_91 d_Face_of_92 d_Face_of_94 d_Face_of_97 hnt (by decide) (by decide) (by decide) (by decide) hlocks (fun t ha hz hq => x_thrown h hP hz hq)
  · have h := h.1 hc
    obtain ⟨sa, hsa⟩ := hth.2 (224, "no such job") (by decide)
    exact x_throw hx hb hst (names := xN) hown (by decide +kernel) (by decide +kernel) (hts _ kw571) (hts _ kw15) (hts _ kw572) hsa (xo_of xl_i hts kw581 (fun w hw => hth.1 w hw _)) (hl.1.trans hml.symm) d_Face_of_11 d_Face_of_14 d_Face_of_15 d_Face_of_17 d_Face_of_20 hnt (by decide) (by decide) (by decide) (by decide) hlocks (fun t ha hz hq => x_thrown h hP hz hq)
