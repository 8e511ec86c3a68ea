def q_Face_places (v1 v2 : Int32) (σ : SG) (Q : (Int32 → SG → Prop)) : Prop :=
  (q_Points_has v1 (σ 1) (fun r1 => ((r1 = 0 → Q 0 σ) ∧ (¬ r1 = 0 → ((v2 < 1 → Q 0 σ) ∧ (¬ v2 < 1 → ((4 < v2 → Q 0 σ) ∧ (¬ 4 < v2 → (q_Fleet_boundFor v1 (σ 4) (fun r2 => ((r2 ≤ v2 → (q_Points_setPlaces v1 v2 (σ 1) (fun u3 => Q 1 (setc σ 1 u3)))) ∧ (¬ r2 ≤ v2 → Q 0 σ))))))))))))
set_option maxHeartbeats 4000000 in
set_option maxRecDepth 100000 in
theorem t_Face_places (l : Launch) (D : va_G) (cI cZ : ClassId) (ad : Nat → Nat → Nat) (inj : Inj (fA ad) 29) (v1 v2 : Int32) (σ : SG) (Q : (Int32 → SG → Prop)) (h : q_Face_places v1 v2 σ Q) : Met l y_Face_places (.code y_Face_places prog_1_method_3_code 3 (some .boolean) :: TG) { frames := 1, cells := 0, slots := 0, locals := 23 } (va_Pc [.ref (ad 0 0), .int v1, .int v2] (roB D (tysA cI cZ) (W_Face ad cI cZ σ))) (va_Qi Q (fun u t => va_P D classes (W_Face ad cI cZ u) t.heap) (inA (fA ad) 29)) 0 0 (inA (fA ad) 29) := by
  refine Met.ofW (cc := prog_1_method_3_code) (maxL := 3) (ret := (some .boolean)) (by decide) rfl ?_
  intro p e s m args below meth c s₁ B hml hv
  obtain ⟨rfl, hP, hK⟩ := hv
  have hx := B.exec
  have hb := B.bytes
  have hr := B.returns
  have hts : ∀ w ∈ TG, w.before [.ref (ad 0 0), .int v1, .int v2].toArray s = true := fun w hw => atoms_spec (ws := .code y_Face_places prog_1_method_3_code 3 (some .boolean) :: TG) B.pre w (List.mem_cons_of_mem _ hw)
  have hown : s.vm.findClass "CarrierPaths" = some m.cls := findClass_of_methodNamed B.named
  have hlocks := B.notSynchronized
  have hS : va_S (inA (fA ad) 29) s.heap s.heap [] := va_S.rf
  have hl := lv_entry ([.ref (ad 0 0), .int v1, .int v2]) (n := 3) (Nat.le_of_ble_eq_true rfl)
  rw [lg_entry_eq]
  generalize (lg_sl ([.ref (ad 0 0), .int v1, .int v2]) ++ List.replicate (3 - (lg_sl ([.ref (ad 0 0), .int v1, .int v2])).length) Slot.unset).toArray = ls at hl ⊢
  have hl : lv_has ls 3 [(0, .ref (ad 0 0)), (1, .int v1), (2, .int v2)] := hl
  unfold q_Face_places at h
  refine lv_aload_n hx hb d_Face_places_0 rfl (lv_at hl 0 rfl) ?_
  refine va_get (D := D) (ci := 6) (v := .ref (ad 1 0)) (C := "CarrierPaths") (T := F_Face) (N := 7) hx hb hts in_Face hown hK hP 0 rfl rfl 0 (by decide) (hts _ kw172) (fun _ h9 => h9) rfl d_Face_places_1 ?_
  refine lv_iload_n hx hb d_Face_places_4 rfl (lv_at hl 1 rfl) ?_
  refine vp_callSi (W.runV (As := [.int v1]) (rest := []) ⟨hx, hb, hml, hown, hts⟩ (t_Points_has l D cI cZ (ad 1) v1 (σ 1) _ h) (cwV 1 hts (g_of kw198 kw199 kw200 kw3 kw201) rfl rfl rfl (by decide +kernel) ⟨Nat.le_of_ble_eq_true rfl, Nat.le_of_ble_eq_true rfl⟩) (ro_pre hK (pt_Points hP) (va_recv hK (pt_Points hP) (ci := 3) (q0 := 0) rfl rfl)) rfl rfl hl.1 rfl (lv_room (Nat.le_of_ble_eq_true rfl)) d_Face_places_5 ⟨Nat.le_of_ble_eq_true rfl, Nat.le_of_ble_eq_true rfl⟩) (fun r1 h => ?_)
  refine lv_if_eq (tgt := 33) hx hb d_Face_places_8 (by decide) (fun hc => ?_) (fun hc => ?_)
  · have h := h.1 hc
    refine lv_iconst (v := 0) hx hb d_Face_places_33 (by decide) ?_
    exact W.zret (v := 0) hx hb hr (by decide) (fun t ht hW => ⟨⟨0, σ, rfl, h, hp_back ht hP⟩, hS.F ht⟩) hS.2.2 d_Face_places_34
  · have h := h.2 hc
    refine lv_iload_n hx hb d_Face_places_11 rfl (lv_at hl 2 rfl) ?_
    refine lv_iconst (v := 1) hx hb d_Face_places_12 (by decide) ?_
    refine lv_icmp_lt (tgt := 33) hx hb d_Face_places_13 (by decide) (fun hc => ?_) (fun hc => ?_)
    · have h := h.1 hc
      refine lv_iconst (v := 0) hx hb d_Face_places_33 (by decide) ?_
      exact W.zret (v := 0) hx hb hr (by decide) (fun t ht hW => ⟨⟨0, σ, rfl, h, hp_back ht hP⟩, hS.F ht⟩) hS.2.2 d_Face_places_34
    · have h := h.2 hc
      refine lv_iload_n hx hb d_Face_places_16 rfl (lv_at hl 2 rfl) ?_
      refine lv_iconst (v := 4) hx hb d_Face_places_17 (by decide) ?_
      refine lv_icmp_gt (tgt := 33) hx hb d_Face_places_18 (by decide) (fun hc => ?_) (fun hc => ?_)
      · have h := h.1 hc
        refine lv_iconst (v := 0) hx hb d_Face_places_33 (by decide) ?_
        exact W.zret (v := 0) hx hb hr (by decide) (fun t ht hW => ⟨⟨0, σ, rfl, h, hp_back ht hP⟩, hS.F ht⟩) hS.2.2 d_Face_places_34
      · have h := h.2 hc
        refine lv_iload_n hx hb d_Face_places_21 rfl (lv_at hl 2 rfl) ?_
        refine lv_aload_n hx hb d_Face_places_22 rfl (lv_at hl 0 rfl) ?_
        refine va_get (D := D) (ci := 6) (v := .ref (ad 4 0)) (C := "CarrierPaths") (T := F_Face) (N := 7) hx hb hts in_Face hown hK hP 0 rfl rfl 3 (by decide) (hts _ kw175) (fun _ h9 => h9) rfl d_Face_places_23 ?_
        refine lv_iload_n hx hb d_Face_places_26 rfl (lv_at hl 1 rfl) ?_
        refine vp_callSi (W.runV (As := [.int v1]) (rest := [.int v2]) ⟨hx, hb, hml, hown, hts⟩ (t_Fleet_boundFor l D cI cZ (ad 4) v1 (σ 4) _ h) (cwV 1 hts (g_of kw202 kw203 kw204 kw6 kw205) rfl rfl rfl (by decide +kernel) ⟨Nat.le_of_ble_eq_true rfl, Nat.le_of_ble_eq_true rfl⟩) (ro_pre hK (pt_Fleet hP) (va_recv hK (pt_Fleet hP) (ci := 1) (q0 := 0) rfl rfl)) rfl rfl hl.1 rfl (lv_room (Nat.le_of_ble_eq_true rfl)) d_Face_places_27 ⟨Nat.le_of_ble_eq_true rfl, Nat.le_of_ble_eq_true rfl⟩) (fun r2 h => ?_)
        refine lv_icmp_ge (tgt := 35) hx hb d_Face_places_30 (by decide) (fun hc => ?_) (fun hc => ?_)
        · have h := h.1 hc
          refine lv_aload_n hx hb d_Face_places_35 rfl (lv_at hl 0 rfl) ?_
          refine va_get (D := D) (ci := 6) (v := .ref (ad 1 0)) (C := "CarrierPaths") (T := F_Face) (N := 7) hx hb hts in_Face hown hK hP 0 rfl rfl 0 (by decide) (hts _ kw172) (fun _ h9 => h9) rfl d_Face_places_36 ?_
          refine lv_iload_n hx hb d_Face_places_39 rfl (lv_at hl 1 rfl) ?_
          refine lv_iload_n hx hb d_Face_places_40 rfl (lv_at hl 2 rfl) ?_
          refine va_callv (va_runV (As := [.int v1, .int v2]) (rest := []) ⟨hx, hb, hml, hown, hts⟩ (t_Points_setPlaces l D cI cZ (ad 1) (inj_Points inj) v1 v2 (σ 1) _ h) (cwV 2 hts (g_of kw206 kw207 kw208 kw3 kw209) rfl rfl rfl (by decide +kernel) ⟨Nat.le_of_ble_eq_true rfl, Nat.le_of_ble_eq_true rfl⟩) (ro_pre hK (pt_Points hP) (va_recv hK (pt_Points hP) (ci := 3) (q0 := 0) rfl rfl)) rfl rfl hl.1 rfl (lv_room (Nat.le_of_ble_eq_true rfl)) d_Face_places_41 ⟨Nat.le_of_ble_eq_true rfl, Nat.le_of_ble_eq_true rfl⟩) hS (fun _ _ h => sub_Points h) (fun _ h => sub_Points h) (fun u3 t H1 locs ht _ h hP1 _ hk1 hS => ?_)
          have hP1 : va_P D classes (W_Points (ad 1) cI cZ u3) H1 := hp_fwd ht hP1
          have hP := join_Points inj hP hP1 hk1
          generalize H1 = H at hP hS ⊢
          refine lv_iconst (v := 1) hx hb d_Face_places_44 (by decide) ?_
          exact W.zret (v := 1) hx hb hr (by decide) (fun t ht hW => ⟨⟨1, (setc σ 1 u3), rfl, h, hp_back ht hP⟩, hS.F ht⟩) hS.2.2 d_Face_places_45
        · have h := h.2 hc
          refine lv_iconst (v := 0) hx hb d_Face_places_33 (by decide) ?_
          exact W.zret (v := 0) hx hb hr (by decide) (fun t ht hW => ⟨⟨0, σ, rfl, h, hp_back ht hP⟩, hS.F ht⟩) hS.2.2 d_Face_places_34
def q_Face_charger (v1 v2 : Int32) (σ : SG) (Q : (Int32 → SG → Prop)) : Prop :=
  (q_Points_has v1 (σ 1) (fun r1 => ((r1 = 0 → Q 0 σ) ∧ (¬ r1 = 0 → (q_Points_hasCharger v1 (σ 1) (fun r2 => ((r2 = v2 → Q 0 σ) ∧ (¬ r2 = v2 → (q_Points_setCharger v1 v2 (σ 1) (fun u3 => Q 1 (setc σ 1 u3)))))))))))
set_option maxHeartbeats 4000000 in
set_option maxRecDepth 100000 in
theorem t_Face_charger (l : Launch) (D : va_G) (cI cZ : ClassId) (ad : Nat → Nat → Nat) (inj : Inj (fA ad) 29) (v1 v2 : Int32) (σ : SG) (Q : (Int32 → SG → Prop)) (h : q_Face_charger v1 v2 σ Q) : Met l y_Face_charger (.code y_Face_charger prog_1_method_4_code 3 (some .boolean) :: TG) { frames := 1, cells := 0, slots := 0, locals := 22 } (va_Pc [.ref (ad 0 0), .int v1, .int v2] (roB D (tysA cI cZ) (W_Face ad cI cZ σ))) (va_Qi Q (fun u t => va_P D classes (W_Face ad cI cZ u) t.heap) (inA (fA ad) 29)) 0 0 (inA (fA ad) 29) := by
  refine Met.ofW (cc := prog_1_method_4_code) (maxL := 3) (ret := (some .boolean)) (by decide) rfl ?_
  intro p e s m args below meth c s₁ B hml hv
  obtain ⟨rfl, hP, hK⟩ := hv
  have hx := B.exec
  have hb := B.bytes
  have hr := B.returns
  have hts : ∀ w ∈ TG, w.before [.ref (ad 0 0), .int v1, .int v2].toArray s = true := fun w hw => atoms_spec (ws := .code y_Face_charger prog_1_method_4_code 3 (some .boolean) :: TG) B.pre w (List.mem_cons_of_mem _ hw)
  have hown : s.vm.findClass "CarrierPaths" = some m.cls := findClass_of_methodNamed B.named
  have hlocks := B.notSynchronized
  have hS : va_S (inA (fA ad) 29) s.heap s.heap [] := va_S.rf
  have hl := lv_entry ([.ref (ad 0 0), .int v1, .int v2]) (n := 3) (Nat.le_of_ble_eq_true rfl)
  rw [lg_entry_eq]
  generalize (lg_sl ([.ref (ad 0 0), .int v1, .int v2]) ++ List.replicate (3 - (lg_sl ([.ref (ad 0 0), .int v1, .int v2])).length) Slot.unset).toArray = ls at hl ⊢
  have hl : lv_has ls 3 [(0, .ref (ad 0 0)), (1, .int v1), (2, .int v2)] := hl
  unfold q_Face_charger at h
  refine lv_aload_n hx hb d_Face_charger_0 rfl (lv_at hl 0 rfl) ?_
  refine va_get (D := D) (ci := 6) (v := .ref (ad 1 0)) (C := "CarrierPaths") (T := F_Face) (N := 7) hx hb hts in_Face hown hK hP 0 rfl rfl 0 (by decide) (hts _ kw172) (fun _ h9 => h9) rfl d_Face_charger_1 ?_
  refine lv_iload_n hx hb d_Face_charger_4 rfl (lv_at hl 1 rfl) ?_
  refine vp_callSi (W.runV (As := [.int v1]) (rest := []) ⟨hx, hb, hml, hown, hts⟩ (t_Points_has l D cI cZ (ad 1) v1 (σ 1) _ h) (cwV 1 hts (g_of kw198 kw199 kw200 kw3 kw201) rfl rfl rfl (by decide +kernel) ⟨Nat.le_of_ble_eq_true rfl, Nat.le_of_ble_eq_true rfl⟩) (ro_pre hK (pt_Points hP) (va_recv hK (pt_Points hP) (ci := 3) (q0 := 0) rfl rfl)) rfl rfl hl.1 rfl (lv_room (Nat.le_of_ble_eq_true rfl)) d_Face_charger_5 ⟨Nat.le_of_ble_eq_true rfl, Nat.le_of_ble_eq_true rfl⟩) (fun r1 h => ?_)
  refine lv_if_eq (tgt := 23) hx hb d_Face_charger_8 (by decide) (fun hc => ?_) (fun hc => ?_)
  · have h := h.1 hc
    refine lv_iconst (v := 0) hx hb d_Face_charger_23 (by decide) ?_
    exact W.zret (v := 0) hx hb hr (by decide) (fun t ht hW => ⟨⟨0, σ, rfl, h, hp_back ht hP⟩, hS.F ht⟩) hS.2.2 d_Face_charger_24
  · have h := h.2 hc
    refine lv_aload_n hx hb d_Face_charger_11 rfl (lv_at hl 0 rfl) ?_
    refine va_get (D := D) (ci := 6) (v := .ref (ad 1 0)) (C := "CarrierPaths") (T := F_Face) (N := 7) hx hb hts in_Face hown hK hP 0 rfl rfl 0 (by decide) (hts _ kw172) (fun _ h9 => h9) rfl d_Face_charger_12 ?_
    refine lv_iload_n hx hb d_Face_charger_15 rfl (lv_at hl 1 rfl) ?_
    refine vp_callSi (W.runV (As := [.int v1]) (rest := []) ⟨hx, hb, hml, hown, hts⟩ (t_Points_hasCharger l D cI cZ (ad 1) v1 (σ 1) _ h) (cwV 1 hts (g_of kw214 kw215 kw216 kw3 kw217) rfl rfl rfl (by decide +kernel) ⟨Nat.le_of_ble_eq_true rfl, Nat.le_of_ble_eq_true rfl⟩) (ro_pre hK (pt_Points hP) (va_recv hK (pt_Points hP) (ci := 3) (q0 := 0) rfl rfl)) rfl rfl hl.1 rfl (lv_room (Nat.le_of_ble_eq_true rfl)) d_Face_charger_16 ⟨Nat.le_of_ble_eq_true rfl, Nat.le_of_ble_eq_true rfl⟩) (fun r2 h => ?_)
    refine lv_iload_n hx hb d_Face_charger_19 rfl (lv_at hl 2 rfl) ?_
    refine lv_icmp_ne (tgt := 25) hx hb d_Face_charger_20 (by decide) (fun hc => ?_) (fun hc => ?_)
    · have h := h.2 hc
      refine lv_aload_n hx hb d_Face_charger_25 rfl (lv_at hl 0 rfl) ?_
      refine va_get (D := D) (ci := 6) (v := .ref (ad 1 0)) (C := "CarrierPaths") (T := F_Face) (N := 7) hx hb hts in_Face hown hK hP 0 rfl rfl 0 (by decide) (hts _ kw172) (fun _ h9 => h9) rfl d_Face_charger_26 ?_
      refine lv_iload_n hx hb d_Face_charger_29 rfl (lv_at hl 1 rfl) ?_
      refine lv_iload_n hx hb d_Face_charger_30 rfl (lv_at hl 2 rfl) ?_
      refine va_callv (va_runV (As := [.int v1, .int v2]) (rest := []) ⟨hx, hb, hml, hown, hts⟩ (t_Points_setCharger l D cI cZ (ad 1) (inj_Points inj) v1 v2 (σ 1) _ h) (cwV 2 hts (g_of kw218 kw219 kw220 kw3 kw221) rfl rfl rfl (by decide +kernel) ⟨Nat.le_of_ble_eq_true rfl, Nat.le_of_ble_eq_true rfl⟩) (ro_pre hK (pt_Points hP) (va_recv hK (pt_Points hP) (ci := 3) (q0 := 0) rfl rfl)) rfl rfl hl.1 rfl (lv_room (Nat.le_of_ble_eq_true rfl)) d_Face_charger_31 ⟨Nat.le_of_ble_eq_true rfl, Nat.le_of_ble_eq_true rfl⟩) hS (fun _ _ h => sub_Points h) (fun _ h => sub_Points h) (fun u3 t H1 locs ht _ h hP1 _ hk1 hS => ?_)
      have hP1 : va_P D classes (W_Points (ad 1) cI cZ u3) H1 := hp_fwd ht hP1
      have hP := join_Points inj hP hP1 hk1
      generalize H1 = H at hP hS ⊢
      refine lv_iconst (v := 1) hx hb d_Face_charger_34 (by decide) ?_
      exact W.zret (v := 1) hx hb hr (by decide) (fun t ht hW => ⟨⟨1, (setc σ 1 u3), rfl, h, hp_back ht hP⟩, hS.F ht⟩) hS.2.2 d_Face_charger_35
    · have h := h.1 hc
      refine lv_iconst (v := 0) hx hb d_Face_charger_23 (by decide) ?_
      exact W.zret (v := 0) hx hb hr (by decide) (fun t ht hW => ⟨⟨0, σ, rfl, h, hp_back ht hP⟩, hS.F ht⟩) hS.2.2 d_Face_charger_24
def q_Face_close (v1 v2 : Int32) (σ : SG) (Q : (Int32 → SG → Prop)) : Prop :=
  (q_Roads_has v1 (σ 2) (fun r1 => ((r1 = 0 → Q 0 σ) ∧ (¬ r1 = 0 → (q_Roads_isClosed v1 (σ 2) (fun r2 => ((r2 = v2 → Q 0 σ) ∧ (¬ r2 = v2 → (q_Roads_setClosed v1 v2 (σ 2) (fun u3 => Q 1 (setc σ 2 u3)))))))))))
set_option maxHeartbeats 4000000 in
set_option maxRecDepth 100000 in
theorem t_Face_close (l : Launch) (D : va_G) (cI cZ : ClassId) (ad : Nat → Nat → Nat) (inj : Inj (fA ad) 29) (v1 v2 : Int32) (σ : SG) (Q : (Int32 → SG → Prop)) (h : q_Face_close v1 v2 σ Q) : Met l y_Face_close (.code y_Face_close prog_1_method_11_code 3 (some .boolean) :: TG) { frames := 4, cells := 0, slots := 0, locals := 89 } (va_Pc [.ref (ad 0 0), .int v1, .int v2] (roB D (tysA cI cZ) (W_Face ad cI cZ σ))) (va_Qi Q (fun u t => va_P D classes (W_Face ad cI cZ u) t.heap) (inA (fA ad) 29)) 0 0 (inA (fA ad) 29) := by
  refine Met.ofW (cc := prog_1_method_11_code) (maxL := 3) (ret := (some .boolean)) (by decide) rfl ?_
  intro p e s m args below meth c s₁ B hml hv
  obtain ⟨rfl, hP, hK⟩ := hv
  have hx := B.exec
  have hb := B.bytes
  have hr := B.returns
  have hts : ∀ w ∈ TG, w.before [.ref (ad 0 0), .int v1, .int v2].toArray s = true := fun w hw => atoms_spec (ws := .code y_Face_close prog_1_method_11_code 3 (some .boolean) :: TG) B.pre w (List.mem_cons_of_mem _ hw)
  have hown : s.vm.findClass "CarrierPaths" = some m.cls := findClass_of_methodNamed B.named
  have hlocks := B.notSynchronized
  have hS : va_S (inA (fA ad) 29) s.heap s.heap [] := va_S.rf
  have hl := lv_entry ([.ref (ad 0 0), .int v1, .int v2]) (n := 3) (Nat.le_of_ble_eq_true rfl)
  rw [lg_entry_eq]
  generalize (lg_sl ([.ref (ad 0 0), .int v1, .int v2]) ++ List.replicate (3 - (lg_sl ([.ref (ad 0 0), .int v1, .int v2])).length) Slot.unset).toArray = ls at hl ⊢
  have hl : lv_has ls 3 [(0, .ref (ad 0 0)), (1, .int v1), (2, .int v2)] := hl
  unfold q_Face_close at h
  refine lv_aload_n hx hb d_Face_close_0 rfl (lv_at hl 0 rfl) ?_
  refine va_get (D := D) (ci := 6) (v := .ref (ad 2 0)) (C := "CarrierPaths") (T := F_Face) (N := 7) hx hb hts in_Face hown hK hP 0 rfl rfl 1 (by decide) (hts _ kw173) (fun _ h9 => h9) rfl d_Face_close_1 ?_
  refine lv_iload_n hx hb d_Face_close_4 rfl (lv_at hl 1 rfl) ?_
  refine vp_callSi (W.runV (As := [.int v1]) (rest := []) ⟨hx, hb, hml, hown, hts⟩ (t_Roads_has l D cI cZ (ad 2) v1 (σ 2) _ h) (cwV 1 hts (g_of kw328 kw329 kw330 kw4 kw331) rfl rfl rfl (by decide +kernel) ⟨Nat.le_of_ble_eq_true rfl, Nat.le_of_ble_eq_true rfl⟩) (ro_pre hK (pt_Roads hP) (va_recv hK (pt_Roads hP) (ci := 5) (q0 := 0) rfl rfl)) rfl rfl hl.1 rfl (lv_room (Nat.le_of_ble_eq_true rfl)) d_Face_close_5 ⟨Nat.le_of_ble_eq_true rfl, Nat.le_of_ble_eq_true rfl⟩) (fun r1 h => ?_)
  refine lv_if_eq (tgt := 23) hx hb d_Face_close_8 (by decide) (fun hc => ?_) (fun hc => ?_)
  · have h := h.1 hc
    refine lv_iconst (v := 0) hx hb d_Face_close_23 (by decide) ?_
    exact W.zret (v := 0) hx hb hr (by decide) (fun t ht hW => ⟨⟨0, σ, rfl, h, hp_back ht hP⟩, hS.F ht⟩) hS.2.2 d_Face_close_24
  · have h := h.2 hc
    refine lv_aload_n hx hb d_Face_close_11 rfl (lv_at hl 0 rfl) ?_
    refine va_get (D := D) (ci := 6) (v := .ref (ad 2 0)) (C := "CarrierPaths") (T := F_Face) (N := 7) hx hb hts in_Face hown hK hP 0 rfl rfl 1 (by decide) (hts _ kw173) (fun _ h9 => h9) rfl d_Face_close_12 ?_
    refine lv_iload_n hx hb d_Face_close_15 rfl (lv_at hl 1 rfl) ?_
    refine vp_callSi (W.runV (As := [.int v1]) (rest := []) ⟨hx, hb, hml, hown, hts⟩ (t_Roads_isClosed l D cI cZ (ad 2) v1 (σ 2) _ h) (cwV 1 hts (g_of kw332 kw333 kw334 kw4 kw335) rfl rfl rfl (by decide +kernel) ⟨Nat.le_of_ble_eq_true rfl, Nat.le_of_ble_eq_true rfl⟩) (ro_pre hK (pt_Roads hP) (va_recv hK (pt_Roads hP) (ci := 5) (q0 := 0) rfl rfl)) rfl rfl hl.1 rfl (lv_room (Nat.le_of_ble_eq_true rfl)) d_Face_close_16 ⟨Nat.le_of_ble_eq_true rfl, Nat.le_of_ble_eq_true rfl⟩) (fun r2 h => ?_)
    refine lv_iload_n hx hb d_Face_close_19 rfl (lv_at hl 2 rfl) ?_
    refine lv_icmp_ne (tgt := 25) hx hb d_Face_close_20 (by decide) (fun hc => ?_) (fun hc => ?_)
    · have h := h.2 hc
      refine lv_aload_n hx hb d_Face_close_25 rfl (lv_at hl 0 rfl) ?_
      refine va_get (D := D) (ci := 6) (v := .ref (ad 2 0)) (C := "CarrierPaths") (T := F_Face) (N := 7) hx hb hts in_Face hown hK hP 0 rfl rfl 1 (by decide) (hts _ kw173) (fun _ h9 => h9) rfl d_Face_close_26 ?_
      refine lv_iload_n hx hb d_Face_close_29 rfl (lv_at hl 1 rfl) ?_
      refine lv_iload_n hx hb d_Face_close_30 rfl (lv_at hl 2 rfl) ?_
      refine va_callv (va_runV (As := [.int v1, .int v2]) (rest := []) ⟨hx, hb, hml, hown, hts⟩ (t_Roads_setClosed l D cI cZ (ad 2) (inj_Roads inj) v1 v2 (σ 2) _ h) (cwV 2 hts (g_of kw336 kw337 kw338 kw4 kw339) rfl rfl rfl (by decide +kernel) ⟨Nat.le_of_ble_eq_true rfl, Nat.le_of_ble_eq_true rfl⟩) (ro_pre hK (pt_Roads hP) (va_recv hK (pt_Roads hP) (ci := 5) (q0 := 0) rfl rfl)) rfl rfl hl.1 rfl (lv_room (Nat.le_of_ble_eq_true rfl)) d_Face_close_31 ⟨Nat.le_of_ble_eq_true rfl, Nat.le_of_ble_eq_true rfl⟩) hS (fun _ _ h => sub_Roads h) (fun _ h => sub_Roads h) (fun u3 t H1 locs ht _ h hP1 _ hk1 hS => ?_)
      have hP1 : va_P D classes (W_Roads (ad 2) cI cZ u3) H1 := hp_fwd ht hP1
      have hP := join_Roads inj hP hP1 hk1
      generalize H1 = H at hP hS ⊢
      refine lv_iconst (v := 1) hx hb d_Face_close_34 (by decide) ?_
      exact W.zret (v := 1) hx hb hr (by decide) (fun t ht hW => ⟨⟨1, (setc σ 2 u3), rfl, h, hp_back ht hP⟩, hS.F ht⟩) hS.2.2 d_Face_close_35
    · have h := h.1 hc
      refine lv_iconst (v := 0) hx hb d_Face_close_23 (by decide) ?_
      exact W.zret (v := 0) hx hb hr (by decide) (fun t ht hW => ⟨⟨0, σ, rfl, h, hp_back ht hP⟩, hS.F ht⟩) hS.2.2 d_Face_close_24
def q_Face_countInAll (v1 : Int32) (σ : SG) (Q : (Int32 → Prop)) : Prop :=
  ((v1 = 0 → (q_Points_size (σ 1) (fun r1 => Q r1))) ∧ (¬ v1 = 0 → ((v1 = 1 → (q_Roads_size (σ 2) (fun r2 => Q r2))) ∧ (¬ v1 = 1 → ((v1 = 2 → (q_Fleet_size (σ 4) (fun r3 => Q r3))) ∧ (¬ v1 = 2 → ((v1 = 3 → (q_Jobs_size (σ 5) (fun r4 => Q r4))) ∧ (¬ v1 = 3 → ((v1 = 4 → Q (σ 0 0 6)) ∧ (¬ v1 = 4 → ((v1 = 5 → (q_Jobs_ended (σ 5) (fun r5 => Q r5))) ∧ (¬ v1 = 5 → ((v1 = 6 → (q_Fleet_onPieces (σ 4) (fun r6 => Q r6))) ∧ (¬ v1 = 6 → ((v1 = 7 → (q_Rings_size (σ 3) (fun r7 => Q r7))) ∧ (¬ v1 = 7 → Q (-1)))))))))))))))))
set_option maxHeartbeats 4000000 in
set_option maxRecDepth 100000 in
theorem t_Face_countInAll (l : Launch) (D : va_G) (cI cZ : ClassId) (ad : Nat → Nat → Nat) (v1 : Int32) (σ : SG) (Q : (Int32 → Prop)) (h : q_Face_countInAll v1 σ Q) : Met l y_Face_countInAll (.code y_Face_countInAll prog_1_method_17_code 2 (some .int) :: TG) { frames := 2, cells := 0, slots := 0, locals := 43 } (va_Pc [.ref (ad 0 0), .int v1] (roB D (tysA cI cZ) (W_Face ad cI cZ σ))) (vp_Si Q) 0 0 (fun _ => False) := by
  refine Met.ofW (cc := prog_1_method_17_code) (maxL := 2) (ret := (some .int)) (by decide) rfl ?_
  intro p e s m args below meth c s₁ B hml hv
  obtain ⟨rfl, hP, hK⟩ := hv
  have hx := B.exec
  have hb := B.bytes
  have hr := B.returns
  have hts : ∀ w ∈ TG, w.before [.ref (ad 0 0), .int v1].toArray s = true := fun w hw => atoms_spec (ws := .code y_Face_countInAll prog_1_method_17_code 2 (some .int) :: TG) B.pre w (List.mem_cons_of_mem _ hw)
  have hown : s.vm.findClass "CarrierPaths" = some m.cls := findClass_of_methodNamed B.named
  have hlocks := B.notSynchronized
  have hl := lv_entry ([.ref (ad 0 0), .int v1]) (n := 2) (Nat.le_of_ble_eq_true rfl)
  rw [lg_entry_eq]
  generalize (lg_sl ([.ref (ad 0 0), .int v1]) ++ List.replicate (2 - (lg_sl ([.ref (ad 0 0), .int v1])).length) Slot.unset).toArray = ls at hl ⊢
  have hl : lv_has ls 2 [(0, .ref (ad 0 0)), (1, .int v1)] := hl
  unfold q_Face_countInAll at h
  refine lv_iload_n hx hb d_Face_countInAll_0 rfl (lv_at hl 1 rfl) ?_
  by_cases hc0 : v1 = 0
  · have h := h.1 hc0
    refine lv_tableIn (tgt := 48) (off := 47) hx hb d_Face_countInAll_1 (by rw [hc0]; decide) (by rw [hc0]; decide) (by rw [hc0]; decide) (by decide) ?_
    refine lv_aload_n hx hb d_Face_countInAll_48 rfl (lv_at hl 0 rfl) ?_
    refine va_get (D := D) (ci := 6) (v := .ref (ad 1 0)) (C := "CarrierPaths") (T := F_Face) (N := 7) hx hb hts in_Face hown hK hP 0 rfl rfl 0 (by decide) (hts _ kw172) (fun _ h9 => h9) rfl d_Face_countInAll_49 ?_
    refine vp_callSi (W.runV (As := []) (rest := []) ⟨hx, hb, hml, hown, hts⟩ (t_Points_size l D cI cZ (ad 1) (σ 1) _ h) (cwV 0 hts (g_of kw364 kw365 kw366 kw3 kw367) rfl rfl rfl (by decide +kernel) ⟨Nat.le_of_ble_eq_true rfl, Nat.le_of_ble_eq_true rfl⟩) (ro_pre hK (pt_Points hP) (va_recv hK (pt_Points hP) (ci := 3) (q0 := 0) rfl rfl)) rfl rfl hl.1 rfl (lv_room (Nat.le_of_ble_eq_true rfl)) d_Face_countInAll_52 ⟨Nat.le_of_ble_eq_true rfl, Nat.le_of_ble_eq_true rfl⟩) (fun r1 h => ?_)
    exact W.iret (v := r1) hx hb hr (fun t ht hW => ⟨r1, rfl, h, ht⟩) (fun q hq => by cases hq) d_Face_countInAll_55
  · have h := h.2 hc0
    by_cases hc1 : v1 = 1
    · have h := h.1 hc1
      refine lv_tableIn (tgt := 56) (off := 55) hx hb d_Face_countInAll_1 (by rw [hc1]; decide) (by rw [hc1]; decide) (by rw [hc1]; decide) (by decide) ?_
      refine lv_aload_n hx hb d_Face_countInAll_56 rfl (lv_at hl 0 rfl) ?_
      refine va_get (D := D) (ci := 6) (v := .ref (ad 2 0)) (C := "CarrierPaths") (T := F_Face) (N := 7) hx hb hts in_Face hown hK hP 0 rfl rfl 1 (by decide) (hts _ kw173) (fun _ h9 => h9) rfl d_Face_countInAll_57 ?_
      refine vp_callSi (W.runV (As := []) (rest := []) ⟨hx, hb, hml, hown, hts⟩ (t_Roads_size l D cI cZ (ad 2) (σ 2) _ h) (cwV 0 hts (g_of kw368 kw369 kw370 kw4 kw371) rfl rfl rfl (by decide +kernel) ⟨Nat.le_of_ble_eq_true rfl, Nat.le_of_ble_eq_true rfl⟩) (ro_pre hK (pt_Roads hP) (va_recv hK (pt_Roads hP) (ci := 5) (q0 := 0) rfl rfl)) rfl rfl hl.1 rfl (lv_room (Nat.le_of_ble_eq_true rfl)) d_Face_countInAll_60 ⟨Nat.le_of_ble_eq_true rfl, Nat.le_of_ble_eq_true rfl⟩) (fun r2 h => ?_)
      exact W.iret (v := r2) hx hb hr (fun t ht hW => ⟨r2, rfl, h, ht⟩) (fun q hq => by cases hq) d_Face_countInAll_63
    · have h := h.2 hc1
      by_cases hc2 : v1 = 2
      · have h := h.1 hc2
        refine lv_tableIn (tgt := 64) (off := 63) hx hb d_Face_countInAll_1 (by rw [hc2]; decide) (by rw [hc2]; decide) (by rw [hc2]; decide) (by decide) ?_
        refine lv_aload_n hx hb d_Face_countInAll_64 rfl (lv_at hl 0 rfl) ?_
        refine va_get (D := D) (ci := 6) (v := .ref (ad 4 0)) (C := "CarrierPaths") (T := F_Face) (N := 7) hx hb hts in_Face hown hK hP 0 rfl rfl 3 (by decide) (hts _ kw175) (fun _ h9 => h9) rfl d_Face_countInAll_65 ?_
        refine vp_callSi (W.runV (As := []) (rest := []) ⟨hx, hb, hml, hown, hts⟩ (t_Fleet_size l D cI cZ (ad 4) (σ 4) _ h) (cwV 0 hts (g_of kw234 kw235 kw236 kw6 kw237) rfl rfl rfl (by decide +kernel) ⟨Nat.le_of_ble_eq_true rfl, Nat.le_of_ble_eq_true rfl⟩) (ro_pre hK (pt_Fleet hP) (va_recv hK (pt_Fleet hP) (ci := 1) (q0 := 0) rfl rfl)) rfl rfl hl.1 rfl (lv_room (Nat.le_of_ble_eq_true rfl)) d_Face_countInAll_68 ⟨Nat.le_of_ble_eq_true rfl, Nat.le_of_ble_eq_true rfl⟩) (fun r3 h => ?_)
        exact W.iret (v := r3) hx hb hr (fun t ht hW => ⟨r3, rfl, h, ht⟩) (fun q hq => by cases hq) d_Face_countInAll_71
      · have h := h.2 hc2
        by_cases hc3 : v1 = 3
        · have h := h.1 hc3
          refine lv_tableIn (tgt := 72) (off := 71) hx hb d_Face_countInAll_1 (by rw [hc3]; decide) (by rw [hc3]; decide) (by rw [hc3]; decide) (by decide) ?_
          refine lv_aload_n hx hb d_Face_countInAll_72 rfl (lv_at hl 0 rfl) ?_
          refine va_get (D := D) (ci := 6) (v := .ref (ad 5 0)) (C := "CarrierPaths") (T := F_Face) (N := 7) hx hb hts in_Face hown hK hP 0 rfl rfl 4 (by decide) (hts _ kw176) (fun _ h9 => h9) rfl d_Face_countInAll_73 ?_
          refine vp_callSi (W.runV (As := []) (rest := []) ⟨hx, hb, hml, hown, hts⟩ (t_Jobs_size l D cI cZ (ad 5) (σ 5) _ h) (cwV 0 hts (g_of kw230 kw231 kw232 kw7 kw233) rfl rfl rfl (by decide +kernel) ⟨Nat.le_of_ble_eq_true rfl, Nat.le_of_ble_eq_true rfl⟩) (ro_pre hK (pt_Jobs hP) (va_recv hK (pt_Jobs hP) (ci := 2) (q0 := 0) rfl rfl)) rfl rfl hl.1 rfl (lv_room (Nat.le_of_ble_eq_true rfl)) d_Face_countInAll_76 ⟨Nat.le_of_ble_eq_true rfl, Nat.le_of_ble_eq_true rfl⟩) (fun r4 h => ?_)
          exact W.iret (v := r4) hx hb hr (fun t ht hW => ⟨r4, rfl, h, ht⟩) (fun q hq => by cases hq) d_Face_countInAll_79
        · have h := h.2 hc3
          by_cases hc4 : v1 = 4
          · have h := h.1 hc4
            refine lv_tableIn (tgt := 80) (off := 79) hx hb d_Face_countInAll_1 (by rw [hc4]; decide) (by rw [hc4]; decide) (by rw [hc4]; decide) (by decide) ?_
            refine lv_aload_n hx hb d_Face_countInAll_80 rfl (lv_at hl 0 rfl) ?_
            refine va_get (D := D) (ci := 6) (v := .int (σ 0 0 6)) (C := "CarrierPaths") (T := F_Face) (N := 7) hx hb hts in_Face hown hK hP 0 rfl rfl 6 (by decide) (hts _ kw178) (fun _ h9 => h9) rfl d_Face_countInAll_81 ?_
            exact W.iret (v := (σ 0 0 6)) hx hb hr (fun t ht hW => ⟨(σ 0 0 6), rfl, h, ht⟩) (fun q hq => by cases hq) d_Face_countInAll_84
          · have h := h.2 hc4
            by_cases hc5 : v1 = 5
            · have h := h.1 hc5
              refine lv_tableIn (tgt := 85) (off := 84) hx hb d_Face_countInAll_1 (by rw [hc5]; decide) (by rw [hc5]; decide) (by rw [hc5]; decide) (by decide) ?_
              refine lv_aload_n hx hb d_Face_countInAll_85 rfl (lv_at hl 0 rfl) ?_
              refine va_get (D := D) (ci := 6) (v := .ref (ad 5 0)) (C := "CarrierPaths") (T := F_Face) (N := 7) hx hb hts in_Face hown hK hP 0 rfl rfl 4 (by decide) (hts _ kw176) (fun _ h9 => h9) rfl d_Face_countInAll_86 ?_
              refine vp_callSi (W.runV (As := []) (rest := []) ⟨hx, hb, hml, hown, hts⟩ (t_Jobs_ended l D cI cZ (ad 5) (σ 5) _ h) (cwV 0 hts (g_of kw372 kw373 kw374 kw7 kw375) rfl rfl rfl (by decide +kernel) ⟨Nat.le_of_ble_eq_true rfl, Nat.le_of_ble_eq_true rfl⟩) (ro_pre hK (pt_Jobs hP) (va_recv hK (pt_Jobs hP) (ci := 2) (q0 := 0) rfl rfl)) rfl rfl hl.1 rfl (lv_room (Nat.le_of_ble_eq_true rfl)) d_Face_countInAll_89 ⟨Nat.le_of_ble_eq_true rfl, Nat.le_of_ble_eq_true rfl⟩) (fun r5 h => ?_)
              exact W.iret (v := r5) hx hb hr (fun t ht hW => ⟨r5, rfl, h, ht⟩) (fun q hq => by cases hq) d_Face_countInAll_92
            · have h := h.2 hc5
              by_cases hc6 : v1 = 6
              · have h := h.1 hc6
                refine lv_tableIn (tgt := 93) (off := 92) hx hb d_Face_countInAll_1 (by rw [hc6]; decide) (by rw [hc6]; decide) (by rw [hc6]; decide) (by decide) ?_
                refine lv_aload_n hx hb d_Face_countInAll_93 rfl (lv_at hl 0 rfl) ?_
                refine va_get (D := D) (ci := 6) (v := .ref (ad 4 0)) (C := "CarrierPaths") (T := F_Face) (N := 7) hx hb hts in_Face hown hK hP 0 rfl rfl 3 (by decide) (hts _ kw175) (fun _ h9 => h9) rfl d_Face_countInAll_94 ?_
                refine vp_callSi (W.runV (As := []) (rest := []) ⟨hx, hb, hml, hown, hts⟩ (t_Fleet_onPieces l D cI cZ (ad 4) (σ 4) _ h) (cwV 0 hts (g_of kw376 kw377 kw378 kw6 kw379) rfl rfl rfl (by decide +kernel) ⟨Nat.le_of_ble_eq_true rfl, Nat.le_of_ble_eq_true rfl⟩) (ro_pre hK (pt_Fleet hP) (va_recv hK (pt_Fleet hP) (ci := 1) (q0 := 0) rfl rfl)) rfl rfl hl.1 rfl (lv_room (Nat.le_of_ble_eq_true rfl)) d_Face_countInAll_97 ⟨Nat.le_of_ble_eq_true rfl, Nat.le_of_ble_eq_true rfl⟩) (fun r6 h => ?_)
                exact W.iret (v := r6) hx hb hr (fun t ht hW => ⟨r6, rfl, h, ht⟩) (fun q hq => by cases hq) d_Face_countInAll_100
              · have h := h.2 hc6
                by_cases hc7 : v1 = 7
                · have h := h.1 hc7
                  refine lv_tableIn (tgt := 101) (off := 100) hx hb d_Face_countInAll_1 (by rw [hc7]; decide) (by rw [hc7]; decide) (by rw [hc7]; decide) (by decide) ?_
                  refine lv_aload_n hx hb d_Face_countInAll_101 rfl (lv_at hl 0 rfl) ?_
                  refine va_get (D := D) (ci := 6) (v := .ref (ad 3 0)) (C := "CarrierPaths") (T := F_Face) (N := 7) hx hb hts in_Face hown hK hP 0 rfl rfl 2 (by decide) (hts _ kw174) (fun _ h9 => h9) rfl d_Face_countInAll_102 ?_
                  refine vp_callSi (W.runV (As := []) (rest := []) ⟨hx, hb, hml, hown, hts⟩ (t_Rings_size l D cI cZ (ad 3) (σ 3) _ h) (cwV 0 hts (g_of kw380 kw381 kw382 kw5 kw383) rfl rfl rfl (by decide +kernel) ⟨Nat.le_of_ble_eq_true rfl, Nat.le_of_ble_eq_true rfl⟩) (ro_pre hK (pt_Rings hP) (va_recv hK (pt_Rings hP) (ci := 4) (q0 := 0) rfl rfl)) rfl rfl hl.1 rfl (lv_room (Nat.le_of_ble_eq_true rfl)) d_Face_countInAll_105 ⟨Nat.le_of_ble_eq_true rfl, Nat.le_of_ble_eq_true rfl⟩) (fun r7 h => ?_)
                  exact W.iret (v := r7) hx hb hr (fun t ht hW => ⟨r7, rfl, h, ht⟩) (fun q hq => by cases hq) d_Face_countInAll_108
                · have h := h.2 hc7
                  refine lv_tableOut (tgt := 109) hx hb d_Face_countInAll_1 (by have e0 := lv_neT hc0 (a := 0) (by decide); have e1 := lv_neT hc1 (a := 1) (by decide); have e2 := lv_neT hc2 (a := 2) (by decide); have e3 := lv_neT hc3 (a := 3) (by decide); have e4 := lv_neT hc4 (a := 4) (by decide); have e5 := lv_neT hc5 (a := 5) (by decide); have e6 := lv_neT hc6 (a := 6) (by decide); have e7 := lv_neT hc7 (a := 7) (by decide); omega) (by decide) ?_
                  refine lv_iconst (v := (-1)) hx hb d_Face_countInAll_109 (by decide) ?_
                  exact W.iret (v := (-1)) hx hb hr (fun t ht hW => ⟨(-1), rfl, h, ht⟩) (fun q hq => by cases hq) d_Face_countInAll_110
def q_Face_asNumber (v0 : Int32) (Q : (Int32 → Prop)) : Prop :=
  ((v0 = 0 → Q 0) ∧ (¬ v0 = 0 → Q 1))
set_option maxHeartbeats 4000000 in
set_option maxRecDepth 100000 in
theorem t_Face_asNumber (l : Launch) (v0 : Int32) (Q : (Int32 → Prop)) (h : q_Face_asNumber v0 Q) : Met l y_Face_asNumber (.code y_Face_asNumber prog_1_method_18_code 1 (some .int) :: TG) { frames := 0, cells := 0, slots := 0, locals := 0 } (va_Pc [.int v0] (fun _ => True)) (vp_Si Q) 0 0 (fun _ => False) := by
  refine Met.ofW (cc := prog_1_method_18_code) (maxL := 1) (ret := (some .int)) (by decide) rfl ?_
  intro p e s m args below meth c s₁ B hml hv
  obtain ⟨rfl, -⟩ := hv
  have hx := B.exec
  have hb := B.bytes
  have hr := B.returns
  have hts : ∀ w ∈ TG, w.before [.int v0].toArray s = true := fun w hw => atoms_spec (ws := .code y_Face_asNumber prog_1_method_18_code 1 (some .int) :: TG) B.pre w (List.mem_cons_of_mem _ hw)
  have hown : s.vm.findClass "CarrierPaths" = some m.cls := findClass_of_methodNamed B.named
  have hlocks := B.notSynchronized
  have hl := lv_entry ([.int v0]) (n := 1) (Nat.le_of_ble_eq_true rfl)
  rw [lg_entry_eq]
  generalize (lg_sl ([.int v0]) ++ List.replicate (1 - (lg_sl ([.int v0])).length) Slot.unset).toArray = ls at hl ⊢
  have hl : lv_has ls 1 [(0, .int v0)] := hl
  unfold q_Face_asNumber at h
  refine lv_iload_n hx hb d_Face_asNumber_0 rfl (lv_at hl 0 rfl) ?_
  refine lv_if_eq (tgt := 8) hx hb d_Face_asNumber_1 (by decide) (fun hc => ?_) (fun hc => ?_)
  · have h := h.1 hc
    refine lv_iconst (v := 0) hx hb d_Face_asNumber_8 (by decide) ?_
    exact W.iret (v := 0) hx hb hr (fun t ht hW => ⟨0, rfl, h, ht⟩) (fun q hq => by cases hq) d_Face_asNumber_9
  · have h := h.2 hc
    refine lv_iconst (v := 1) hx hb d_Face_asNumber_4 (by decide) ?_
    refine lv_goto (tgt := 9) hx hb d_Face_asNumber_5 (by decide) ?_
    exact W.iret (v := 1) hx hb hr (fun t ht hW => ⟨1, rfl, h, ht⟩) (fun q hq => by cases hq) d_Face_asNumber_9
def q_Face_emptyTravel (v1 v2 : Int32) (σ : SG) (Q : (Int32 → Prop)) : Prop :=
  (q_Fleet_pointOf v1 (σ 4) (fun r1 => (q_Jobs_fromOf v2 (σ 5) (fun r2 => (q_Roads_leastTime r1 r2 (σ 2) (fun r3 => Q r3))))))
set_option maxHeartbeats 4000000 in
set_option maxRecDepth 100000 in
theorem t_Face_emptyTravel (l : Launch) (D : va_G) (cI cZ : ClassId) (ad : Nat → Nat → Nat) (v1 v2 : Int32) (σ : SG) (Q : (Int32 → Prop)) (h : q_Face_emptyTravel v1 v2 σ Q) : Met l y_Face_emptyTravel (.code y_Face_emptyTravel prog_1_method_21_code 3 (some .int) :: TG) { frames := 1, cells := 0, slots := 0, locals := 22 } (va_Pc [.ref (ad 0 0), .int v1, .int v2] (roB D (tysA cI cZ) (W_Face ad cI cZ σ))) (vp_Si Q) 0 0 (fun _ => False) := by
  refine Met.ofW (cc := prog_1_method_21_code) (maxL := 3) (ret := (some .int)) (by decide) rfl ?_
  intro p e s m args below meth c s₁ B hml hv
  obtain ⟨rfl, hP, hK⟩ := hv
  have hx := B.exec
  have hb := B.bytes
  have hr := B.returns
  have hts : ∀ w ∈ TG, w.before [.ref (ad 0 0), .int v1, .int v2].toArray s = true := fun w hw => atoms_spec (ws := .code y_Face_emptyTravel prog_1_method_21_code 3 (some .int) :: TG) B.pre w (List.mem_cons_of_mem _ hw)
  have hown : s.vm.findClass "CarrierPaths" = some m.cls := findClass_of_methodNamed B.named
  have hlocks := B.notSynchronized
  have hl := lv_entry ([.ref (ad 0 0), .int v1, .int v2]) (n := 3) (Nat.le_of_ble_eq_true rfl)
  rw [lg_entry_eq]
  generalize (lg_sl ([.ref (ad 0 0), .int v1, .int v2]) ++ List.replicate (3 - (lg_sl ([.ref (ad 0 0), .int v1, .int v2])).length) Slot.unset).toArray = ls at hl ⊢
  have hl : lv_has ls 3 [(0, .ref (ad 0 0)), (1, .int v1), (2, .int v2)] := hl
  unfold q_Face_emptyTravel at h
  refine lv_aload_n hx hb d_Face_emptyTravel_0 rfl (lv_at hl 0 rfl) ?_
  refine va_get (D := D) (ci := 6) (v := .ref (ad 2 0)) (C := "CarrierPaths") (T := F_Face) (N := 7) hx hb hts in_Face hown hK hP 0 rfl rfl 1 (by decide) (hts _ kw173) (fun _ h9 => h9) rfl d_Face_emptyTravel_1 ?_
  refine lv_aload_n hx hb d_Face_emptyTravel_4 rfl (lv_at hl 0 rfl) ?_
  refine va_get (D := D) (ci := 6) (v := .ref (ad 4 0)) (C := "CarrierPaths") (T := F_Face) (N := 7) hx hb hts in_Face hown hK hP 0 rfl rfl 3 (by decide) (hts _ kw175) (fun _ h9 => h9) rfl d_Face_emptyTravel_5 ?_
  refine lv_iload_n hx hb d_Face_emptyTravel_8 rfl (lv_at hl 1 rfl) ?_
  refine vp_callSi (W.runV (As := [.int v1]) (rest := [.ref (ad 2 0)]) ⟨hx, hb, hml, hown, hts⟩ (t_Fleet_pointOf l D cI cZ (ad 4) v1 (σ 4) _ h) (cwV 1 hts (g_of kw246 kw247 kw248 kw6 kw249) rfl rfl rfl (by decide +kernel) ⟨Nat.le_of_ble_eq_true rfl, Nat.le_of_ble_eq_true rfl⟩) (ro_pre hK (pt_Fleet hP) (va_recv hK (pt_Fleet hP) (ci := 1) (q0 := 0) rfl rfl)) rfl rfl hl.1 rfl (lv_room (Nat.le_of_ble_eq_true rfl)) d_Face_emptyTravel_9 ⟨Nat.le_of_ble_eq_true rfl, Nat.le_of_ble_eq_true rfl⟩) (fun r1 h => ?_)
  refine lv_aload_n hx hb d_Face_emptyTravel_12 rfl (lv_at hl 0 rfl) ?_
  refine va_get (D := D) (ci := 6) (v := .ref (ad 5 0)) (C := "CarrierPaths") (T := F_Face) (N := 7) hx hb hts in_Face hown hK hP 0 rfl rfl 4 (by decide) (hts _ kw176) (fun _ h9 => h9) rfl d_Face_emptyTravel_13 ?_
  refine lv_iload_n hx hb d_Face_emptyTravel_16 rfl (lv_at hl 2 rfl) ?_
  refine vp_callSi (W.runV (As := [.int v2]) (rest := [.int r1, .ref (ad 2 0)]) ⟨hx, hb, hml, hown, hts⟩ (t_Jobs_fromOf l D cI cZ (ad 5) v2 (σ 5) _ h) (cwV 1 hts (g_of kw250 kw251 kw252 kw7 kw253) rfl rfl rfl (by decide +kernel) ⟨Nat.le_of_ble_eq_true rfl, Nat.le_of_ble_eq_true rfl⟩) (ro_pre hK (pt_Jobs hP) (va_recv hK (pt_Jobs hP) (ci := 2) (q0 := 0) rfl rfl)) rfl rfl hl.1 rfl (lv_room (Nat.le_of_ble_eq_true rfl)) d_Face_emptyTravel_17 ⟨Nat.le_of_ble_eq_true rfl, Nat.le_of_ble_eq_true rfl⟩) (fun r2 h => ?_)
  refine vp_callSi (W.runV (As := [.int r1, .int r2]) (rest := []) ⟨hx, hb, hml, hown, hts⟩ (t_Roads_leastTime l D cI cZ (ad 2) r1 r2 (σ 2) _ h) (cwV 2 hts (g_of kw254 kw255 kw256 kw4 kw257) rfl rfl rfl (by decide +kernel) ⟨Nat.le_of_ble_eq_true rfl, Nat.le_of_ble_eq_true rfl⟩) (ro_pre hK (pt_Roads hP) (va_recv hK (pt_Roads hP) (ci := 5) (q0 := 0) rfl rfl)) rfl rfl hl.1 rfl (lv_room (Nat.le_of_ble_eq_true rfl)) d_Face_emptyTravel_20 ⟨Nat.le_of_ble_eq_true rfl, Nat.le_of_ble_eq_true rfl⟩) (fun r3 h => ?_)
  exact W.iret (v := r3) hx hb hr (fun t ht hW => ⟨r3, rfl, h, ht⟩) (fun q hq => by cases hq) d_Face_emptyTravel_23
def q_Face_offerJobs_b0 (J : Nat → Int32 → Int32 → Int32 → SG → Prop) (Q : (SG → Prop)) (v1 v2 v3 : Int32) (σ : SG) : Prop :=
  (q_Jobs_size (σ 5) (fun r1 => (q_Fleet_size (σ 4) (fun r2 => (q_Choice_begin r1 r2 (σ 6) (fun u3 => J 1 0 0 0 (setc σ 6 u3)))))))
def q_Face_offerJobs_b1 (J : Nat → Int32 → Int32 → Int32 → SG → Prop) (Q : (SG → Prop)) (v1 v2 v3 : Int32) (σ : SG) : Prop :=
  (q_Jobs_size (σ 5) (fun r4 => ((r4 ≤ v1 → Q σ) ∧ (¬ r4 ≤ v1 → J 2 v1 0 0 σ))))
def q_Face_offerJobs_b2 (J : Nat → Int32 → Int32 → Int32 → SG → Prop) (Q : (SG → Prop)) (v1 v2 v3 : Int32) (σ : SG) : Prop :=
  (q_Fleet_size (σ 4) (fun r5 => ((r5 ≤ v2 → J 1 (v1 + 1) 0 0 σ) ∧ (¬ r5 ≤ v2 → (q_Face_emptyTravel v2 v1 σ (fun r6 => (q_Jobs_isWaiting v1 (σ 5) (fun r7 => ((r7 = 0 → J 2 v1 (v2 + 1) 0 σ) ∧ (¬ r7 = 0 → (q_Fleet_isIdle v2 (σ 4) (fun r8 => ((r8 = 0 → J 2 v1 (v2 + 1) 0 σ) ∧ (¬ r8 = 0 → ((1000000 ≤ r6 → J 2 v1 (v2 + 1) 0 σ) ∧ (¬ 1000000 ≤ r6 → (q_Choice_offer v1 v2 r6 (σ 6) (fun u9 => J 2 v1 (v2 + 1) 0 (setc σ 6 u9)))))))))))))))))))
def q_Face_offerJobs_j (Q : (SG → Prop)) : Nat → Nat → Int32 → Int32 → Int32 → SG → Prop
  | 0, _, _, _, _, _ => False
  | n + 1, 0, v1, v2, v3, σ => q_Face_offerJobs_b0 (q_Face_offerJobs_j Q n) Q v1 v2 v3 σ
  | n + 1, 1, v1, v2, v3, σ => q_Face_offerJobs_b1 (q_Face_offerJobs_j Q n) Q v1 v2 v3 σ
  | n + 1, 2, v1, v2, v3, σ => q_Face_offerJobs_b2 (q_Face_offerJobs_j Q n) Q v1 v2 v3 σ
  | _ + 1, _ + 3, _, _, _, _ => False
def q_Face_offerJobs (σ : SG) (Q : (SG → Prop)) : Prop := q_Face_offerJobs_j Q 4000 0 0 0 0 σ
def lc_Face_offerJobs (ad : Nat → Nat → Nat) (b : Nat) (v1 v2 v3 : Int32) : List (Nat × Value) := match b with
  | 0 => [(0, .ref (ad 0 0))]
  | 1 => [(0, .ref (ad 0 0)), (1, .int v1)]
  | 2 => [(0, .ref (ad 0 0)), (1, .int v1), (2, .int v2)]
  | _ => []
def pc_Face_offerJobs (b : Nat) : Nat := match b with
  | 0 => 0
  | 1 => 23
  | 2 => 36
  | _ => 0
set_option maxHeartbeats 4000000 in
set_option maxRecDepth 100000 in
theorem t_Face_offerJobs (l : Launch) (D : va_G) (cI cZ : ClassId) (ad : Nat → Nat → Nat) (inj : Inj (fA ad) 29) (σ : SG) (Q : (SG → Prop)) (h : q_Face_offerJobs σ Q) : Met l y_Face_offerJobs (.code y_Face_offerJobs prog_1_method_19_code 4 none :: TG) { frames := 2, cells := 0, slots := 0, locals := 44 } (va_Pc [.ref (ad 0 0)] (roB D (tysA cI cZ) (W_Face ad cI cZ σ))) (va_Qv Q (fun u t => va_P D classes (W_Face ad cI cZ u) t.heap) (inA (fA ad) 29)) 0 0 (inA (fA ad) 29) := by
  refine Met.ofW (cc := prog_1_method_19_code) (maxL := 4) (ret := none) (by decide) rfl ?_
  intro p e s m args below meth c s₁ B hml hv
  obtain ⟨rfl, hP, hK⟩ := hv
  have hx := B.exec
  have hb := B.bytes
  have hr := B.returns
  have hts : ∀ w ∈ TG, w.before [.ref (ad 0 0)].toArray s = true := fun w hw => atoms_spec (ws := .code y_Face_offerJobs prog_1_method_19_code 4 none :: TG) B.pre w (List.mem_cons_of_mem _ hw)
  have hown : s.vm.findClass "CarrierPaths" = some m.cls := findClass_of_methodNamed B.named
  have hlocks := B.notSynchronized
  have hS : va_S (inA (fA ad) 29) s.heap s.heap [] := va_S.rf
  have hl := lv_entry ([.ref (ad 0 0)]) (n := 4) (Nat.le_of_ble_eq_true rfl)
  rw [lg_entry_eq]
  generalize (lg_sl ([.ref (ad 0 0)]) ++ List.replicate (4 - (lg_sl ([.ref (ad 0 0)])).length) Slot.unset).toArray = ls at hl ⊢
  generalize ([.ref (ad 0 0)] : List Value).toArray = args at hts ⊢
  have key : ∀ (n b : Nat) (v1 v2 v3 : Int32) (σ : SG), q_Face_offerJobs_j Q n b v1 v2 v3 σ → ∀ (H : Heap) (locs : List Loc) (ls : Array Slot), va_P D classes (W_Face ad cI cZ σ) H → va_S (inA (fA ad) 29) s.heap H locs → lv_has ls 4 (lc_Face_offerJobs ad b v1 v2 v3) → W p l e (headSpec (.code y_Face_offerJobs prog_1_method_19_code 4 none :: TG) { frames := 2, cells := 0, slots := 0, locals := 44 }).room s m args below meth c H locs 0 0 (MQ below (va_Qv Q (fun u t => va_P D classes (W_Face ad cI cZ u) t.heap) (inA (fA ad) 29)) args s 0 0 (inA (fA ad) 29)) (F0 m (pc_Face_offerJobs b) ls []) := by
    clear h hl hP hS
    intro n
    induction n with
    | zero => intro b _ _ _ _ h; exact False.elim h
    | succ n ih =>
      intro b v1 v2 v3 σ h H locs ls hP hS hl
      match b, h, hl with
      | 0, h, hl =>
        have h : q_Face_offerJobs_b0 (q_Face_offerJobs_j Q n) Q v1 v2 v3 σ := h
        have hl : lv_has ls 4 [(0, .ref (ad 0 0))] := hl
        refine W.eq (g2 := F0 m 0 ls []) rfl ?_
        unfold q_Face_offerJobs_b0 at h
        refine lv_aload_n hx hb d_Face_offerJobs_0 rfl (lv_at hl 0 rfl) ?_
        refine va_get (D := D) (ci := 6) (v := .ref (ad 6 0)) (C := "CarrierPaths") (T := F_Face) (N := 7) hx hb hts in_Face hown hK hP 0 rfl rfl 5 (by decide) (hts _ kw177) (fun _ h9 => h9) rfl d_Face_offerJobs_1 ?_
        refine lv_aload_n hx hb d_Face_offerJobs_4 rfl (lv_at hl 0 rfl) ?_
        refine va_get (D := D) (ci := 6) (v := .ref (ad 5 0)) (C := "CarrierPaths") (T := F_Face) (N := 7) hx hb hts in_Face hown hK hP 0 rfl rfl 4 (by decide) (hts _ kw176) (fun _ h9 => h9) rfl d_Face_offerJobs_5 ?_
        refine vp_callSi (W.runV (As := []) (rest := [.ref (ad 6 0)]) ⟨hx, hb, hml, hown, hts⟩ (t_Jobs_size l D cI cZ (ad 5) (σ 5) _ h) (cwV 0 hts (g_of kw230 kw231 kw232 kw7 kw233) rfl rfl rfl (by decide +kernel) ⟨Nat.le_of_ble_eq_true rfl, Nat.le_of_ble_eq_true rfl⟩) (ro_pre hK (pt_Jobs hP) (va_recv hK (pt_Jobs hP) (ci := 2) (q0 := 0) rfl rfl)) rfl rfl hl.1 rfl (lv_room (Nat.le_of_ble_eq_true rfl)) d_Face_offerJobs_8 ⟨Nat.le_of_ble_eq_true rfl, Nat.le_of_ble_eq_true rfl⟩) (fun r1 h => ?_)
        refine lv_aload_n hx hb d_Face_offerJobs_11 rfl (lv_at hl 0 rfl) ?_
        refine va_get (D := D) (ci := 6) (v := .ref (ad 4 0)) (C := "CarrierPaths") (T := F_Face) (N := 7) hx hb hts in_Face hown hK hP 0 rfl rfl 3 (by decide) (hts _ kw175) (fun _ h9 => h9) rfl d_Face_offerJobs_12 ?_
        refine vp_callSi (W.runV (As := []) (rest := [.int r1, .ref (ad 6 0)]) ⟨hx, hb, hml, hown, hts⟩ (t_Fleet_size l D cI cZ (ad 4) (σ 4) _ h) (cwV 0 hts (g_of kw234 kw235 kw236 kw6 kw237) rfl rfl rfl (by decide +kernel) ⟨Nat.le_of_ble_eq_true rfl, Nat.le_of_ble_eq_true rfl⟩) (ro_pre hK (pt_Fleet hP) (va_recv hK (pt_Fleet hP) (ci := 1) (q0 := 0) rfl rfl)) rfl rfl hl.1 rfl (lv_room (Nat.le_of_ble_eq_true rfl)) d_Face_offerJobs_15 ⟨Nat.le_of_ble_eq_true rfl, Nat.le_of_ble_eq_true rfl⟩) (fun r2 h => ?_)
        refine va_callv (va_runV (As := [.int r1, .int r2]) (rest := []) ⟨hx, hb, hml, hown, hts⟩ (t_Choice_begin l D cI cZ (ad 6) (inj_Choice inj) r1 r2 (σ 6) _ h) (cwV 2 hts (g_of kw238 kw239 kw240 kw8 kw241) rfl rfl rfl (by decide +kernel) ⟨Nat.le_of_ble_eq_true rfl, Nat.le_of_ble_eq_true rfl⟩) (ro_pre hK (pt_Choice hP) (va_recv hK (pt_Choice hP) (ci := 0) (q0 := 0) rfl rfl)) rfl rfl hl.1 rfl (lv_room (Nat.le_of_ble_eq_true rfl)) d_Face_offerJobs_18 ⟨Nat.le_of_ble_eq_true rfl, Nat.le_of_ble_eq_true rfl⟩) hS (fun _ _ h => sub_Choice h) (fun _ h => sub_Choice h) (fun u3 t H1 locs ht _ h hP1 _ hk1 hS => ?_)
        have hP1 : va_P D classes (W_Choice (ad 6) cI cZ u3) H1 := hp_fwd ht hP1
        have hP := join_Choice inj hP hP1 hk1
        generalize H1 = H at hP hS ⊢
        refine lv_iconst (v := 0) hx hb d_Face_offerJobs_21 (by decide) ?_
        refine lv_istore_n (lv' := [(1, .int 0), (0, .ref (ad 0 0))]) hx hb d_Face_offerJobs_22 rfl hl (by decide) rfl (fun ls hl => ?_)
        exact ih 1 0 0 0 (setc σ 6 u3) h _ _ _ hP hS (lv_sub hl [1, 0] rfl)
      | 1, h, hl =>
        have h : q_Face_offerJobs_b1 (q_Face_offerJobs_j Q n) Q v1 v2 v3 σ := h
        have hl : lv_has ls 4 [(0, .ref (ad 0 0)), (1, .int v1)] := hl
        refine W.eq (g2 := F0 m 23 ls []) rfl ?_
        unfold q_Face_offerJobs_b1 at h
        refine lv_iload_n hx hb d_Face_offerJobs_23 rfl (lv_at hl 1 rfl) ?_
        refine lv_aload_n hx hb d_Face_offerJobs_24 rfl (lv_at hl 0 rfl) ?_
        refine va_get (D := D) (ci := 6) (v := .ref (ad 5 0)) (C := "CarrierPaths") (T := F_Face) (N := 7) hx hb hts in_Face hown hK hP 0 rfl rfl 4 (by decide) (hts _ kw176) (fun _ h9 => h9) rfl d_Face_offerJobs_25 ?_
        refine vp_callSi (W.runV (As := []) (rest := [.int v1]) ⟨hx, hb, hml, hown, hts⟩ (t_Jobs_size l D cI cZ (ad 5) (σ 5) _ h) (cwV 0 hts (g_of kw230 kw231 kw232 kw7 kw233) rfl rfl rfl (by decide +kernel) ⟨Nat.le_of_ble_eq_true rfl, Nat.le_of_ble_eq_true rfl⟩) (ro_pre hK (pt_Jobs hP) (va_recv hK (pt_Jobs hP) (ci := 2) (q0 := 0) rfl rfl)) rfl rfl hl.1 rfl (lv_room (Nat.le_of_ble_eq_true rfl)) d_Face_offerJobs_28 ⟨Nat.le_of_ble_eq_true rfl, Nat.le_of_ble_eq_true rfl⟩) (fun r4 h => ?_)
        refine lv_icmp_ge (tgt := 104) hx hb d_Face_offerJobs_31 (by decide) (fun hc => ?_) (fun hc => ?_)
        · have h := h.1 hc
          exact W.vret hx hb hr (fun t ht hW => ⟨⟨σ, rfl, h, hp_back ht hP⟩, hS.F ht⟩) hS.2.2 d_Face_offerJobs_104
        · have h := h.2 hc
          refine lv_iconst (v := 0) hx hb d_Face_offerJobs_34 (by decide) ?_
          refine lv_istore_n (lv' := [(2, .int 0), (0, .ref (ad 0 0)), (1, .int v1)]) hx hb d_Face_offerJobs_35 rfl hl (by decide) rfl (fun ls hl => ?_)
          exact ih 2 v1 0 0 σ h _ _ _ hP hS (lv_sub hl [1, 2, 0] rfl)
      | 2, h, hl =>
        have h : q_Face_offerJobs_b2 (q_Face_offerJobs_j Q n) Q v1 v2 v3 σ := h
        have hl : lv_has ls 4 [(0, .ref (ad 0 0)), (1, .int v1), (2, .int v2)] := hl
        refine W.eq (g2 := F0 m 36 ls []) rfl ?_
        unfold q_Face_offerJobs_b2 at h
        refine lv_iload_n hx hb d_Face_offerJobs_36 rfl (lv_at hl 2 rfl) ?_
        refine lv_aload_n hx hb d_Face_offerJobs_37 rfl (lv_at hl 0 rfl) ?_
        refine va_get (D := D) (ci := 6) (v := .ref (ad 4 0)) (C := "CarrierPaths") (T := F_Face) (N := 7) hx hb hts in_Face hown hK hP 0 rfl rfl 3 (by decide) (hts _ kw175) (fun _ h9 => h9) rfl d_Face_offerJobs_38 ?_
        refine vp_callSi (W.runV (As := []) (rest := [.int v2]) ⟨hx, hb, hml, hown, hts⟩ (t_Fleet_size l D cI cZ (ad 4) (σ 4) _ h) (cwV 0 hts (g_of kw234 kw235 kw236 kw6 kw237) rfl rfl rfl (by decide +kernel) ⟨Nat.le_of_ble_eq_true rfl, Nat.le_of_ble_eq_true rfl⟩) (ro_pre hK (pt_Fleet hP) (va_recv hK (pt_Fleet hP) (ci := 1) (q0 := 0) rfl rfl)) rfl rfl hl.1 rfl (lv_room (Nat.le_of_ble_eq_true rfl)) d_Face_offerJobs_41 ⟨Nat.le_of_ble_eq_true rfl, Nat.le_of_ble_eq_true rfl⟩) (fun r5 h => ?_)
        refine lv_icmp_ge (tgt := 98) hx hb d_Face_offerJobs_44 (by decide) (fun hc => ?_) (fun hc => ?_)
        · have h := h.1 hc
          refine lv_iinc (v := (v1 + 1)) (lv' := [(1, .int (v1 + 1)), (0, .ref (ad 0 0)), (2, .int v2)]) hx hb d_Face_offerJobs_98 hl (k := 1) rfl rfl (by decide) rfl (fun ls hl => ?_)
          refine lv_goto (tgt := 23) hx hb d_Face_offerJobs_101 (by decide) ?_
          exact ih 1 (v1 + 1) 0 0 σ h _ _ _ hP hS (lv_sub hl [1, 0] rfl)
        · have h := h.2 hc
          refine lv_aload_n hx hb d_Face_offerJobs_47 rfl (lv_at hl 0 rfl) ?_
          refine lv_iload_n hx hb d_Face_offerJobs_48 rfl (lv_at hl 2 rfl) ?_
          refine lv_iload_n hx hb d_Face_offerJobs_49 rfl (lv_at hl 1 rfl) ?_
          refine vp_callSi (W.runV (As := [.int v2, .int v1]) (rest := []) ⟨hx, hb, hml, hown, hts⟩ (t_Face_emptyTravel l D cI cZ ad v2 v1 σ _ h) (cwV 2 hts (g_of kw242 kw244 kp2 kw1 kw245) rfl rfl rfl (by decide +kernel) ⟨Nat.le_of_ble_eq_true rfl, Nat.le_of_ble_eq_true rfl⟩) (ro_pre hK hP (va_recv hK hP (ci := 6) (q0 := 0) rfl rfl)) rfl rfl hl.1 rfl (lv_room (Nat.le_of_ble_eq_true rfl)) d_Face_offerJobs_50 ⟨Nat.le_of_ble_eq_true rfl, Nat.le_of_ble_eq_true rfl⟩) (fun r6 h => ?_)
          refine lv_istore_n (lv' := [(3, .int r6), (0, .ref (ad 0 0)), (1, .int v1), (2, .int v2)]) hx hb d_Face_offerJobs_53 rfl hl (by decide) rfl (fun ls hl => ?_)
          refine lv_aload_n hx hb d_Face_offerJobs_54 rfl (lv_at hl 1 rfl) ?_
          refine va_get (D := D) (ci := 6) (v := .ref (ad 5 0)) (C := "CarrierPaths") (T := F_Face) (N := 7) hx hb hts in_Face hown hK hP 0 rfl rfl 4 (by decide) (hts _ kw176) (fun _ h9 => h9) rfl d_Face_offerJobs_55 ?_
          refine lv_iload_n hx hb d_Face_offerJobs_58 rfl (lv_at hl 2 rfl) ?_
          refine vp_callSi (W.runV (As := [.int v1]) (rest := []) ⟨hx, hb, hml, hown, hts⟩ (t_Jobs_isWaiting l D cI cZ (ad 5) v1 (σ 5) _ h) (cwV 1 hts (g_of kw258 kw259 kw260 kw7 kw261) rfl rfl rfl (by decide +kernel) ⟨Nat.le_of_ble_eq_true rfl, Nat.le_of_ble_eq_true rfl⟩) (ro_pre hK (pt_Jobs hP) (va_recv hK (pt_Jobs hP) (ci := 2) (q0 := 0) rfl rfl)) rfl rfl hl.1 rfl (lv_room (Nat.le_of_ble_eq_true rfl)) d_Face_offerJobs_59 ⟨Nat.le_of_ble_eq_true rfl, Nat.le_of_ble_eq_true rfl⟩) (fun r7 h => ?_)
          refine lv_if_eq (tgt := 92) hx hb d_Face_offerJobs_62 (by decide) (fun hc => ?_) (fun hc => ?_)
          · have h := h.1 hc
            refine lv_iinc (v := (v2 + 1)) (lv' := [(2, .int (v2 + 1)), (3, .int r6), (0, .ref (ad 0 0)), (1, .int v1)]) hx hb d_Face_offerJobs_92 hl (k := 3) rfl rfl (by decide) rfl (fun ls hl => ?_)
            refine lv_goto (tgt := 36) hx hb d_Face_offerJobs_95 (by decide) ?_
            exact ih 2 v1 (v2 + 1) 0 σ h _ _ _ hP hS (lv_sub hl [2, 3, 0] rfl)
          · have h := h.2 hc
            refine lv_aload_n hx hb d_Face_offerJobs_65 rfl (lv_at hl 1 rfl) ?_
            refine va_get (D := D) (ci := 6) (v := .ref (ad 4 0)) (C := "CarrierPaths") (T := F_Face) (N := 7) hx hb hts in_Face hown hK hP 0 rfl rfl 3 (by decide) (hts _ kw175) (fun _ h9 => h9) rfl d_Face_offerJobs_66 ?_
            refine lv_iload_n hx hb d_Face_offerJobs_69 rfl (lv_at hl 3 rfl) ?_
            refine vp_callSi (W.runV (As := [.int v2]) (rest := []) ⟨hx, hb, hml, hown, hts⟩ (t_Fleet_isIdle l D cI cZ (ad 4) v2 (σ 4) _ h) (cwV 1 hts (g_of kw262 kw263 kw264 kw6 kw265) rfl rfl rfl (by decide +kernel) ⟨Nat.le_of_ble_eq_true rfl, Nat.le_of_ble_eq_true rfl⟩) (ro_pre hK (pt_Fleet hP) (va_recv hK (pt_Fleet hP) (ci := 1) (q0 := 0) rfl rfl)) rfl rfl hl.1 rfl (lv_room (Nat.le_of_ble_eq_true rfl)) d_Face_offerJobs_70 ⟨Nat.le_of_ble_eq_true rfl, Nat.le_of_ble_eq_true rfl⟩) (fun r8 h => ?_)
            refine lv_if_eq (tgt := 92) hx hb d_Face_offerJobs_73 (by decide) (fun hc => ?_) (fun hc => ?_)
            · have h := h.1 hc
              refine lv_iinc (v := (v2 + 1)) (lv' := [(2, .int (v2 + 1)), (3, .int r6), (0, .ref (ad 0 0)), (1, .int v1)]) hx hb d_Face_offerJobs_92 hl (k := 3) rfl rfl (by decide) rfl (fun ls hl => ?_)
              refine lv_goto (tgt := 36) hx hb d_Face_offerJobs_95 (by decide) ?_
              exact ih 2 v1 (v2 + 1) 0 σ h _ _ _ hP hS (lv_sub hl [2, 3, 0] rfl)
            · have h := h.2 hc
              refine lv_iload_n hx hb d_Face_offerJobs_76 rfl (lv_at hl 0 rfl) ?_
              refine lv_ldc (v := 1000000) hx hb hown (hts _ kw270) d_Face_offerJobs_77 ?_
              refine lv_icmp_ge (tgt := 92) hx hb d_Face_offerJobs_79 (by decide) (fun hc => ?_) (fun hc => ?_)
              · have h := h.1 hc
                refine lv_iinc (v := (v2 + 1)) (lv' := [(2, .int (v2 + 1)), (3, .int r6), (0, .ref (ad 0 0)), (1, .int v1)]) hx hb d_Face_offerJobs_92 hl (k := 3) rfl rfl (by decide) rfl (fun ls hl => ?_)
                refine lv_goto (tgt := 36) hx hb d_Face_offerJobs_95 (by decide) ?_
                exact ih 2 v1 (v2 + 1) 0 σ h _ _ _ hP hS (lv_sub hl [2, 3, 0] rfl)
              · have h := h.2 hc
                refine lv_aload_n hx hb d_Face_offerJobs_82 rfl (lv_at hl 1 rfl) ?_
                refine va_get (D := D) (ci := 6) (v := .ref (ad 6 0)) (C := "CarrierPaths") (T := F_Face) (N := 7) hx hb hts in_Face hown hK hP 0 rfl rfl 5 (by decide) (hts _ kw177) (fun _ h9 => h9) rfl d_Face_offerJobs_83 ?_
                refine lv_iload_n hx hb d_Face_offerJobs_86 rfl (lv_at hl 2 rfl) ?_
                refine lv_iload_n hx hb d_Face_offerJobs_87 rfl (lv_at hl 3 rfl) ?_
                refine lv_iload_n hx hb d_Face_offerJobs_88 rfl (lv_at hl 0 rfl) ?_
                refine va_callv (va_runV (As := [.int v1, .int v2, .int r6]) (rest := []) ⟨hx, hb, hml, hown, hts⟩ (t_Choice_offer l D cI cZ (ad 6) (inj_Choice inj) v1 v2 r6 (σ 6) _ h) (cwV 3 hts (g_of kw271 kw272 kw273 kw8 kw274) rfl rfl rfl (by decide +kernel) ⟨Nat.le_of_ble_eq_true rfl, Nat.le_of_ble_eq_true rfl⟩) (ro_pre hK (pt_Choice hP) (va_recv hK (pt_Choice hP) (ci := 0) (q0 := 0) rfl rfl)) rfl rfl hl.1 rfl (lv_room (Nat.le_of_ble_eq_true rfl)) d_Face_offerJobs_89 ⟨Nat.le_of_ble_eq_true rfl, Nat.le_of_ble_eq_true rfl⟩) hS (fun _ _ h => sub_Choice h) (fun _ h => sub_Choice h) (fun u9 t H1 locs ht _ h hP1 _ hk1 hS => ?_)
                have hP1 : va_P D classes (W_Choice (ad 6) cI cZ u9) H1 := hp_fwd ht hP1
                have hP := join_Choice inj hP hP1 hk1
                generalize H1 = H at hP hS ⊢
                refine lv_iinc (v := (v2 + 1)) (lv' := [(2, .int (v2 + 1)), (3, .int r6), (0, .ref (ad 0 0)), (1, .int v1)]) hx hb d_Face_offerJobs_92 hl (k := 3) rfl rfl (by decide) rfl (fun ls hl => ?_)
                refine lv_goto (tgt := 36) hx hb d_Face_offerJobs_95 (by decide) ?_
                exact ih 2 v1 (v2 + 1) 0 (setc σ 6 u9) h _ _ _ hP hS (lv_sub hl [2, 3, 0] rfl)
      | _ + 3, h, _ => exact False.elim h
  exact key 4000 0 0 0 0 σ h s.heap [] ls hP hS hl
def q_Face_giveOut_b0 (J : Nat → Int32 → Int32 → Int32 → Int32 → SG → Prop) (Q : (Int32 → SG → Prop)) (v1 v2 v3 v4 : Int32) (σ : SG) : Prop :=
  J 1 0 0 0 0 σ
def q_Face_giveOut_b1 (J : Nat → Int32 → Int32 → Int32 → Int32 → SG → Prop) (Q : (Int32 → SG → Prop)) (v1 v2 v3 v4 : Int32) (σ : SG) : Prop :=
  (q_Jobs_size (σ 5) (fun r1 => ((r1 ≤ v3 → ((v2 = 0 → Q (-1) σ) ∧ (¬ v2 = 0 → Q v1 σ))) ∧ (¬ r1 ≤ v3 → (q_Choice_carrierFor v3 (σ 6) (fun r2 => ((r2 = (-1) → J 1 v1 v2 (v3 + 1) 0 σ) ∧ (¬ r2 = (-1) → (q_Jobs_give v3 r2 (σ 5) (fun u3 => (q_Fleet_takeJob r2 v3 ((setc σ 5 u3) 4) (fun u4 => (q_Face_emptyTravel r2 v3 (setc (setc σ 5 u3) 4 u4) (fun r5 => J 1 (v1 + r5) (v2 + 1) (v3 + 1) 0 (setc (setc σ 5 u3) 4 u4)))))))))))))))
def q_Face_giveOut_j (Q : (Int32 → SG → Prop)) : Nat → Nat → Int32 → Int32 → Int32 → Int32 → SG → Prop
  | 0, _, _, _, _, _, _ => False
  | n + 1, 0, v1, v2, v3, v4, σ => q_Face_giveOut_b0 (q_Face_giveOut_j Q n) Q v1 v2 v3 v4 σ
  | n + 1, 1, v1, v2, v3, v4, σ => q_Face_giveOut_b1 (q_Face_giveOut_j Q n) Q v1 v2 v3 v4 σ
  | _ + 1, _ + 2, _, _, _, _, _ => False
def q_Face_giveOut (σ : SG) (Q : (Int32 → SG → Prop)) : Prop := q_Face_giveOut_j Q 4000 0 0 0 0 0 σ
def lc_Face_giveOut (ad : Nat → Nat → Nat) (b : Nat) (v1 v2 v3 v4 : Int32) : List (Nat × Value) := match b with
  | 0 => [(0, .ref (ad 0 0))]
  | 1 => [(0, .ref (ad 0 0)), (1, .int v1), (2, .int v2), (3, .int v3)]
  | _ => []
def pc_Face_giveOut (b : Nat) : Nat := match b with
  | 0 => 0
  | 1 => 6
  | _ => 0
set_option maxHeartbeats 4000000 in
set_option maxRecDepth 100000 in
theorem t_Face_giveOut (l : Launch) (D : va_G) (cI cZ : ClassId) (ad : Nat → Nat → Nat) (inj : Inj (fA ad) 29) (σ : SG) (Q : (Int32 → SG → Prop)) (h : q_Face_giveOut σ Q) : Met l y_Face_giveOut (.code y_Face_giveOut prog_1_method_20_code 5 (some .int) :: TG) { frames := 2, cells := 0, slots := 0, locals := 44 } (va_Pc [.ref (ad 0 0)] (roB D (tysA cI cZ) (W_Face ad cI cZ σ))) (va_Qi Q (fun u t => va_P D classes (W_Face ad cI cZ u) t.heap) (inA (fA ad) 29)) 0 0 (inA (fA ad) 29) := by
  refine Met.ofW (cc := prog_1_method_20_code) (maxL := 5) (ret := (some .int)) (by decide) rfl ?_
  intro p e s m args below meth c s₁ B hml hv
  obtain ⟨rfl, hP, hK⟩ := hv
  have hx := B.exec
  have hb := B.bytes
  have hr := B.returns
  have hts : ∀ w ∈ TG, w.before [.ref (ad 0 0)].toArray s = true := fun w hw => atoms_spec (ws := .code y_Face_giveOut prog_1_method_20_code 5 (some .int) :: TG) B.pre w (List.mem_cons_of_mem _ hw)
  have hown : s.vm.findClass "CarrierPaths" = some m.cls := findClass_of_methodNamed B.named
  have hlocks := B.notSynchronized
  have hS : va_S (inA (fA ad) 29) s.heap s.heap [] := va_S.rf
  have hl := lv_entry ([.ref (ad 0 0)]) (n := 5) (Nat.le_of_ble_eq_true rfl)
  rw [lg_entry_eq]
  generalize (lg_sl ([.ref (ad 0 0)]) ++ List.replicate (5 - (lg_sl ([.ref (ad 0 0)])).length) Slot.unset).toArray = ls at hl ⊢
  generalize ([.ref (ad 0 0)] : List Value).toArray = args at hts ⊢
  have key : ∀ (n b : Nat) (v1 v2 v3 v4 : Int32) (σ : SG), q_Face_giveOut_j Q n b v1 v2 v3 v4 σ → ∀ (H : Heap) (locs : List Loc) (ls : Array Slot), va_P D classes (W_Face ad cI cZ σ) H → va_S (inA (fA ad) 29) s.heap H locs → lv_has ls 5 (lc_Face_giveOut ad b v1 v2 v3 v4) → W p l e (headSpec (.code y_Face_giveOut prog_1_method_20_code 5 (some .int) :: TG) { frames := 2, cells := 0, slots := 0, locals := 44 }).room s m args below meth c H locs 0 0 (MQ below (va_Qi Q (fun u t => va_P D classes (W_Face ad cI cZ u) t.heap) (inA (fA ad) 29)) args s 0 0 (inA (fA ad) 29)) (F0 m (pc_Face_giveOut b) ls []) := by
    clear h hl hP hS
    intro n
    induction n with
    | zero => intro b _ _ _ _ _ h; exact False.elim h
    | succ n ih =>
      intro b v1 v2 v3 v4 σ h H locs ls hP hS hl
      match b, h, hl with
      | 0, h, hl =>
        have h : q_Face_giveOut_b0 (q_Face_giveOut_j Q n) Q v1 v2 v3 v4 σ := h
        have hl : lv_has ls 5 [(0, .ref (ad 0 0))] := hl
        refine W.eq (g2 := F0 m 0 ls []) rfl ?_
        unfold q_Face_giveOut_b0 at h
        refine lv_iconst (v := 0) hx hb d_Face_giveOut_0 (by decide) ?_
        refine lv_istore_n (lv' := [(1, .int 0), (0, .ref (ad 0 0))]) hx hb d_Face_giveOut_1 rfl hl (by decide) rfl (fun ls hl => ?_)
        refine lv_iconst (v := 0) hx hb d_Face_giveOut_2 (by decide) ?_
        refine lv_istore_n (lv' := [(2, .int 0), (1, .int 0), (0, .ref (ad 0 0))]) hx hb d_Face_giveOut_3 rfl hl (by decide) rfl (fun ls hl => ?_)
        refine lv_iconst (v := 0) hx hb d_Face_giveOut_4 (by decide) ?_
        refine lv_istore_n (lv' := [(3, .int 0), (2, .int 0), (1, .int 0), (0, .ref (ad 0 0))]) hx hb d_Face_giveOut_5 rfl hl (by decide) rfl (fun ls hl => ?_)
        exact ih 1 0 0 0 0 σ h _ _ _ hP hS (lv_sub hl [3, 2, 1, 0] rfl)
      | 1, h, hl =>
        have h : q_Face_giveOut_b1 (q_Face_giveOut_j Q n) Q v1 v2 v3 v4 σ := h
        have hl : lv_has ls 5 [(0, .ref (ad 0 0)), (1, .int v1), (2, .int v2), (3, .int v3)] := hl
        refine W.eq (g2 := F0 m 6 ls []) rfl ?_
        unfold q_Face_giveOut_b1 at h
        refine lv_iload_n hx hb d_Face_giveOut_6 rfl (lv_at hl 3 rfl) ?_
        refine lv_aload_n hx hb d_Face_giveOut_7 rfl (lv_at hl 0 rfl) ?_
        refine va_get (D := D) (ci := 6) (v := .ref (ad 5 0)) (C := "CarrierPaths") (T := F_Face) (N := 7) hx hb hts in_Face hown hK hP 0 rfl rfl 4 (by decide) (hts _ kw176) (fun _ h9 => h9) rfl d_Face_giveOut_8 ?_
        refine vp_callSi (W.runV (As := []) (rest := [.int v3]) ⟨hx, hb, hml, hown, hts⟩ (t_Jobs_size l D cI cZ (ad 5) (σ 5) _ h) (cwV 0 hts (g_of kw230 kw231 kw232 kw7 kw233) rfl rfl rfl (by decide +kernel) ⟨Nat.le_of_ble_eq_true rfl, Nat.le_of_ble_eq_true rfl⟩) (ro_pre hK (pt_Jobs hP) (va_recv hK (pt_Jobs hP) (ci := 2) (q0 := 0) rfl rfl)) rfl rfl hl.1 rfl (lv_room (Nat.le_of_ble_eq_true rfl)) d_Face_giveOut_11 ⟨Nat.le_of_ble_eq_true rfl, Nat.le_of_ble_eq_true rfl⟩) (fun r1 h => ?_)
        refine lv_icmp_ge (tgt := 72) hx hb d_Face_giveOut_14 (by decide) (fun hc => ?_) (fun hc => ?_)
        · have h := h.1 hc
          refine lv_iload_n hx hb d_Face_giveOut_72 rfl (lv_at hl 2 rfl) ?_
          refine lv_if_ne (tgt := 80) hx hb d_Face_giveOut_73 (by decide) (fun hc => ?_) (fun hc => ?_)
          · have h := h.2 hc
            refine lv_iload_n hx hb d_Face_giveOut_80 rfl (lv_at hl 1 rfl) ?_
            exact W.iret (v := v1) hx hb hr (fun t ht hW => ⟨⟨v1, σ, rfl, h, hp_back ht hP⟩, hS.F ht⟩) hS.2.2 d_Face_giveOut_81
          · have h := h.1 hc
            refine lv_iconst (v := (-1)) hx hb d_Face_giveOut_76 (by decide) ?_
            refine lv_goto (tgt := 81) hx hb d_Face_giveOut_77 (by decide) ?_
            exact W.iret (v := (-1)) hx hb hr (fun t ht hW => ⟨⟨(-1), σ, rfl, h, hp_back ht hP⟩, hS.F ht⟩) hS.2.2 d_Face_giveOut_81
        · have h := h.2 hc
          refine lv_aload_n hx hb d_Face_giveOut_17 rfl (lv_at hl 0 rfl) ?_
          refine va_get (D := D) (ci := 6) (v := .ref (ad 6 0)) (C := "CarrierPaths") (T := F_Face) (N := 7) hx hb hts in_Face hown hK hP 0 rfl rfl 5 (by decide) (hts _ kw177) (fun _ h9 => h9) rfl d_Face_giveOut_18 ?_
          refine lv_iload_n hx hb d_Face_giveOut_21 rfl (lv_at hl 3 rfl) ?_
          refine vp_callSi (W.runV (As := [.int v3]) (rest := []) ⟨hx, hb, hml, hown, hts⟩ (t_Choice_carrierFor l D cI cZ (ad 6) v3 (σ 6) _ h) (cwV 1 hts (g_of kw312 kw313 kw314 kw8 kw315) rfl rfl rfl (by decide +kernel) ⟨Nat.le_of_ble_eq_true rfl, Nat.le_of_ble_eq_true rfl⟩) (ro_pre hK (pt_Choice hP) (va_recv hK (pt_Choice hP) (ci := 0) (q0 := 0) rfl rfl)) rfl rfl hl.1 rfl (lv_room (Nat.le_of_ble_eq_true rfl)) d_Face_giveOut_22 ⟨Nat.le_of_ble_eq_true rfl, Nat.le_of_ble_eq_true rfl⟩) (fun r2 h => ?_)
          refine lv_istore (lv' := [(4, .int r2), (0, .ref (ad 0 0)), (1, .int v1), (2, .int v2), (3, .int v3)]) hx hb d_Face_giveOut_25 hl (by decide) rfl (fun ls hl => ?_)
          refine lv_iload hx hb d_Face_giveOut_27 (lv_at hl 0 rfl) ?_
          refine lv_iconst (v := (-1)) hx hb d_Face_giveOut_29 (by decide) ?_
          refine lv_icmp_eq (tgt := 66) hx hb d_Face_giveOut_30 (by decide) (fun hc => ?_) (fun hc => ?_)
          · have h := h.1 hc
            refine lv_iinc (v := (v3 + 1)) (lv' := [(3, .int (v3 + 1)), (4, .int r2), (0, .ref (ad 0 0)), (1, .int v1), (2, .int v2)]) hx hb d_Face_giveOut_66 hl (k := 4) rfl rfl (by decide) rfl (fun ls hl => ?_)
            refine lv_goto (tgt := 6) hx hb d_Face_giveOut_69 (by decide) ?_
            exact ih 1 v1 v2 (v3 + 1) 0 σ h _ _ _ hP hS (lv_sub hl [2, 3, 4, 0] rfl)
          · have h := h.2 hc
            refine lv_aload_n hx hb d_Face_giveOut_33 rfl (lv_at hl 1 rfl) ?_
            refine va_get (D := D) (ci := 6) (v := .ref (ad 5 0)) (C := "CarrierPaths") (T := F_Face) (N := 7) hx hb hts in_Face hown hK hP 0 rfl rfl 4 (by decide) (hts _ kw176) (fun _ h9 => h9) rfl d_Face_giveOut_34 ?_
            refine lv_iload_n hx hb d_Face_giveOut_37 rfl (lv_at hl 4 rfl) ?_
            refine lv_iload hx hb d_Face_giveOut_38 (lv_at hl 0 rfl) ?_
            refine va_callv (va_runV (As := [.int v3, .int r2]) (rest := []) ⟨hx, hb, hml, hown, hts⟩ (t_Jobs_give l D cI cZ (ad 5) (inj_Jobs inj) v3 r2 (σ 5) _ h) (cwV 2 hts (g_of kw316 kw317 kw318 kw7 kw319) rfl rfl rfl (by decide +kernel) ⟨Nat.le_of_ble_eq_true rfl, Nat.le_of_ble_eq_true rfl⟩) (ro_pre hK (pt_Jobs hP) (va_recv hK (pt_Jobs hP) (ci := 2) (q0 := 0) rfl rfl)) rfl rfl hl.1 rfl (lv_room (Nat.le_of_ble_eq_true rfl)) d_Face_giveOut_40 ⟨Nat.le_of_ble_eq_true rfl, Nat.le_of_ble_eq_true rfl⟩) hS (fun _ _ h => sub_Jobs h) (fun _ h => sub_Jobs h) (fun u3 t H1 locs ht _ h hP1 _ hk1 hS => ?_)
            have hP1 : va_P D classes (W_Jobs (ad 5) cI cZ u3) H1 := hp_fwd ht hP1
            have hP := join_Jobs inj hP hP1 hk1
            generalize H1 = H at hP hS ⊢
            refine lv_aload_n hx hb d_Face_giveOut_43 rfl (lv_at hl 1 rfl) ?_
            refine va_get (D := D) (ci := 6) (v := .ref (ad 4 0)) (C := "CarrierPaths") (T := F_Face) (N := 7) hx hb hts in_Face hown hK hP 0 rfl rfl 3 (by decide) (hts _ kw175) (fun _ h9 => h9) rfl d_Face_giveOut_44 ?_
            refine lv_iload hx hb d_Face_giveOut_47 (lv_at hl 0 rfl) ?_
            refine lv_iload_n hx hb d_Face_giveOut_49 rfl (lv_at hl 4 rfl) ?_
            refine va_callv (va_runV (As := [.int r2, .int v3]) (rest := []) ⟨hx, hb, hml, hown, hts⟩ (t_Fleet_takeJob l D cI cZ (ad 4) (inj_Fleet inj) r2 v3 ((setc σ 5 u3) 4) _ h) (cwV 2 hts (g_of kw320 kw321 kw322 kw6 kw323) rfl rfl rfl (by decide +kernel) ⟨Nat.le_of_ble_eq_true rfl, Nat.le_of_ble_eq_true rfl⟩) (ro_pre hK (pt_Fleet hP) (va_recv hK (pt_Fleet hP) (ci := 1) (q0 := 0) rfl rfl)) rfl rfl hl.1 rfl (lv_room (Nat.le_of_ble_eq_true rfl)) d_Face_giveOut_50 ⟨Nat.le_of_ble_eq_true rfl, Nat.le_of_ble_eq_true rfl⟩) hS (fun _ _ h => sub_Fleet h) (fun _ h => sub_Fleet h) (fun u4 t H1 locs ht _ h hP1 _ hk1 hS => ?_)
            have hP1 : va_P D classes (W_Fleet (ad 4) cI cZ u4) H1 := hp_fwd ht hP1
            have hP := join_Fleet inj hP hP1 hk1
            generalize H1 = H at hP hS ⊢
            refine lv_iload_n hx hb d_Face_giveOut_53 rfl (lv_at hl 2 rfl) ?_
            refine lv_aload_n hx hb d_Face_giveOut_54 rfl (lv_at hl 1 rfl) ?_
            refine lv_iload hx hb d_Face_giveOut_55 (lv_at hl 0 rfl) ?_
            refine lv_iload_n hx hb d_Face_giveOut_57 rfl (lv_at hl 4 rfl) ?_
            refine vp_callSi (W.runV (As := [.int r2, .int v3]) (rest := [.int v1]) ⟨hx, hb, hml, hown, hts⟩ (t_Face_emptyTravel l D cI cZ ad r2 v3 (setc (setc σ 5 u3) 4 u4) _ h) (cwV 2 hts (g_of kw242 kw244 kp2 kw1 kw245) rfl rfl rfl (by decide +kernel) ⟨Nat.le_of_ble_eq_true rfl, Nat.le_of_ble_eq_true rfl⟩) (ro_pre hK hP (va_recv hK hP (ci := 6) (q0 := 0) rfl rfl)) rfl rfl hl.1 rfl (lv_room (Nat.le_of_ble_eq_true rfl)) d_Face_giveOut_58 ⟨Nat.le_of_ble_eq_true rfl, Nat.le_of_ble_eq_true rfl⟩) (fun r5 h => ?_)
            refine lv_iadd hx hb d_Face_giveOut_61 ?_
            refine lv_istore_n (lv' := [(1, .int (v1 + r5)), (4, .int r2), (0, .ref (ad 0 0)), (2, .int v2), (3, .int v3)]) hx hb d_Face_giveOut_62 rfl hl (by decide) rfl (fun ls hl => ?_)
            refine lv_iinc (v := (v2 + 1)) (lv' := [(2, .int (v2 + 1)), (1, .int (v1 + r5)), (4, .int r2), (0, .ref (ad 0 0)), (3, .int v3)]) hx hb d_Face_giveOut_63 hl (k := 3) rfl rfl (by decide) rfl (fun ls hl => ?_)
            refine lv_iinc (v := (v3 + 1)) (lv' := [(3, .int (v3 + 1)), (2, .int (v2 + 1)), (1, .int (v1 + r5)), (4, .int r2), (0, .ref (ad 0 0))]) hx hb d_Face_giveOut_66 hl (k := 4) rfl rfl (by decide) rfl (fun ls hl => ?_)
            refine lv_goto (tgt := 6) hx hb d_Face_giveOut_69 (by decide) ?_
            exact ih 1 (v1 + r5) (v2 + 1) (v3 + 1) 0 (setc (setc σ 5 u3) 4 u4) h _ _ _ hP hS (lv_sub hl [4, 2, 1, 0] rfl)
      | _ + 2, h, _ => exact False.elim h
  exact key 4000 0 0 0 0 0 σ h s.heap [] ls hP hS hl
def q_Face_assign (σ : SG) (Q : (Int32 → SG → Prop)) : Prop :=
  (q_Face_offerJobs σ (fun u1 => (q_Choice_settle (u1 6) (fun u2 => (q_Face_giveOut (setc u1 6 u2) (fun r4 u3 => Q r4 u3))))))
set_option maxHeartbeats 4000000 in
set_option maxRecDepth 100000 in
theorem t_Face_assign (l : Launch) (D : va_G) (cI cZ : ClassId) (ad : Nat → Nat → Nat) (inj : Inj (fA ad) 29) (σ : SG) (Q : (Int32 → SG → Prop)) (h : q_Face_assign σ Q) : Met l y_Face_assign (.code y_Face_assign prog_1_method_8_code 1 (some .int) :: TG) { frames := 5, cells := 0, slots := 0, locals := 114 } (va_Pc [.ref (ad 0 0)] (roB D (tysA cI cZ) (W_Face ad cI cZ σ))) (va_Qi Q (fun u t => va_P D classes (W_Face ad cI cZ u) t.heap) (inA (fA ad) 29)) 0 0 (inA (fA ad) 29) := by
  refine Met.ofW (cc := prog_1_method_8_code) (maxL := 1) (ret := (some .int)) (by decide) rfl ?_
  intro p e s m args below meth c s₁ B hml hv
  obtain ⟨rfl, hP, hK⟩ := hv
  have hx := B.exec
  have hb := B.bytes
  have hr := B.returns
  have hts : ∀ w ∈ TG, w.before [.ref (ad 0 0)].toArray s = true := fun w hw => atoms_spec (ws := .code y_Face_assign prog_1_method_8_code 1 (some .int) :: TG) B.pre w (List.mem_cons_of_mem _ hw)
  have hown : s.vm.findClass "CarrierPaths" = some m.cls := findClass_of_methodNamed B.named
  have hlocks := B.notSynchronized
  have hS : va_S (inA (fA ad) 29) s.heap s.heap [] := va_S.rf
  have hl := lv_entry ([.ref (ad 0 0)]) (n := 1) (Nat.le_of_ble_eq_true rfl)
  rw [lg_entry_eq]
  generalize (lg_sl ([.ref (ad 0 0)]) ++ List.replicate (1 - (lg_sl ([.ref (ad 0 0)])).length) Slot.unset).toArray = ls at hl ⊢
  have hl : lv_has ls 1 [(0, .ref (ad 0 0))] := hl
  unfold q_Face_assign at h
  refine lv_aload_n hx hb d_Face_assign_0 rfl (lv_at hl 0 rfl) ?_
  refine va_callv (va_runV (As := []) (rest := []) ⟨hx, hb, hml, hown, hts⟩ (t_Face_offerJobs l D cI cZ ad inj σ _ h) (cwV 0 hts (g_of kw226 kw228 kp1 kw1 kw229) rfl rfl rfl (by decide +kernel) ⟨Nat.le_of_ble_eq_true rfl, Nat.le_of_ble_eq_true rfl⟩) (ro_pre hK hP (va_recv hK hP (ci := 6) (q0 := 0) rfl rfl)) rfl rfl hl.1 rfl (lv_room (Nat.le_of_ble_eq_true rfl)) d_Face_assign_1 ⟨Nat.le_of_ble_eq_true rfl, Nat.le_of_ble_eq_true rfl⟩) hS (fun _ _ h => h) (fun _ h => h) (fun u1 t H1 locs ht _ h hP1 _ hk1 hS => ?_)
  have hP1 : va_P D classes (W_Face ad cI cZ u1) H1 := hp_fwd ht hP1
  clear hk1 ht
  generalize H1 = H at hP1 hS ⊢
  have hP := hP1
  refine lv_aload_n hx hb d_Face_assign_4 rfl (lv_at hl 0 rfl) ?_
  refine va_get (D := D) (ci := 6) (v := .ref (ad 6 0)) (C := "CarrierPaths") (T := F_Face) (N := 7) hx hb hts in_Face hown hK hP 0 rfl rfl 5 (by decide) (hts _ kw177) (fun _ h9 => h9) rfl d_Face_assign_5 ?_
  refine va_callv (va_runV (As := []) (rest := []) ⟨hx, hb, hml, hown, hts⟩ (t_Choice_settle l D cI cZ (ad 6) (inj_Choice inj) (u1 6) _ h) (cwV 0 hts (g_of kw275 kw276 kw277 kw8 kw278) rfl rfl rfl (by decide +kernel) ⟨Nat.le_of_ble_eq_true rfl, Nat.le_of_ble_eq_true rfl⟩) (ro_pre hK (pt_Choice hP) (va_recv hK (pt_Choice hP) (ci := 0) (q0 := 0) rfl rfl)) rfl rfl hl.1 rfl (lv_room (Nat.le_of_ble_eq_true rfl)) d_Face_assign_8 ⟨Nat.le_of_ble_eq_true rfl, Nat.le_of_ble_eq_true rfl⟩) hS (fun _ _ h => sub_Choice h) (fun _ h => sub_Choice h) (fun u2 t H1 locs ht _ h hP1 _ hk1 hS => ?_)
  have hP1 : va_P D classes (W_Choice (ad 6) cI cZ u2) H1 := hp_fwd ht hP1
  have hP := join_Choice inj hP hP1 hk1
  generalize H1 = H at hP hS ⊢
  refine lv_aload_n hx hb d_Face_assign_11 rfl (lv_at hl 0 rfl) ?_
  refine va_calli (va_runV (As := []) (rest := []) ⟨hx, hb, hml, hown, hts⟩ (t_Face_giveOut l D cI cZ ad inj (setc u1 6 u2) _ h) (cwV 0 hts (g_of kw308 kw310 kp10 kw1 kw311) rfl rfl rfl (by decide +kernel) ⟨Nat.le_of_ble_eq_true rfl, Nat.le_of_ble_eq_true rfl⟩) (ro_pre hK hP (va_recv hK hP (ci := 6) (q0 := 0) rfl rfl)) rfl rfl hl.1 rfl (lv_room (Nat.le_of_ble_eq_true rfl)) d_Face_assign_12 ⟨Nat.le_of_ble_eq_true rfl, Nat.le_of_ble_eq_true rfl⟩) hS (fun _ _ h => h) (fun _ h => h) (fun r4 u3 t H1 locs ht _ h hP1 _ hk1 hS => ?_)
  have hP1 : va_P D classes (W_Face ad cI cZ u3) H1 := hp_fwd ht hP1
  clear hk1 ht
  generalize H1 = H at hP1 hS ⊢
  have hP := hP1
  exact W.iret (v := r4) hx hb hr (fun t ht hW => ⟨⟨r4, u3, rfl, h, hp_back ht hP⟩, hS.F ht⟩) hS.2.2 d_Face_assign_15
def q_Face_load (v1 : Int32) (σ : SG) (Q : (Int32 → SG → Prop)) : Prop :=
  (q_Jobs_setState v1 2 (σ 5) (fun u1 => Q 3 (setc σ 5 u1)))
set_option maxHeartbeats 4000000 in
set_option maxRecDepth 100000 in
theorem t_Face_load (l : Launch) (D : va_G) (cI cZ : ClassId) (ad : Nat → Nat → Nat) (inj : Inj (fA ad) 29) (v1 : Int32) (σ : SG) (Q : (Int32 → SG → Prop)) (h : q_Face_load v1 σ Q) : Met l y_Face_load (.code y_Face_load prog_1_method_22_code 2 (some .int) :: TG) { frames := 1, cells := 0, slots := 0, locals := 22 } (va_Pc [.ref (ad 0 0), .int v1] (roB D (tysA cI cZ) (W_Face ad cI cZ σ))) (va_Qi Q (fun u t => va_P D classes (W_Face ad cI cZ u) t.heap) (inA (fA ad) 29)) 0 0 (inA (fA ad) 29) := by
  refine Met.ofW (cc := prog_1_method_22_code) (maxL := 2) (ret := (some .int)) (by decide) rfl ?_
  intro p e s m args below meth c s₁ B hml hv
  obtain ⟨rfl, hP, hK⟩ := hv
  have hx := B.exec
  have hb := B.bytes
  have hr := B.returns
  have hts : ∀ w ∈ TG, w.before [.ref (ad 0 0), .int v1].toArray s = true := fun w hw => atoms_spec (ws := .code y_Face_load prog_1_method_22_code 2 (some .int) :: TG) B.pre w (List.mem_cons_of_mem _ hw)
  have hown : s.vm.findClass "CarrierPaths" = some m.cls := findClass_of_methodNamed B.named
  have hlocks := B.notSynchronized
  have hS : va_S (inA (fA ad) 29) s.heap s.heap [] := va_S.rf
  have hl := lv_entry ([.ref (ad 0 0), .int v1]) (n := 2) (Nat.le_of_ble_eq_true rfl)
  rw [lg_entry_eq]
  generalize (lg_sl ([.ref (ad 0 0), .int v1]) ++ List.replicate (2 - (lg_sl ([.ref (ad 0 0), .int v1])).length) Slot.unset).toArray = ls at hl ⊢
  have hl : lv_has ls 2 [(0, .ref (ad 0 0)), (1, .int v1)] := hl
  unfold q_Face_load at h
  refine lv_aload_n hx hb d_Face_load_0 rfl (lv_at hl 0 rfl) ?_
  refine va_get (D := D) (ci := 6) (v := .ref (ad 5 0)) (C := "CarrierPaths") (T := F_Face) (N := 7) hx hb hts in_Face hown hK hP 0 rfl rfl 4 (by decide) (hts _ kw176) (fun _ h9 => h9) rfl d_Face_load_1 ?_
  refine lv_iload_n hx hb d_Face_load_4 rfl (lv_at hl 1 rfl) ?_
  refine lv_iconst (v := 2) hx hb d_Face_load_5 (by decide) ?_
  refine va_callv (va_runV (As := [.int v1, .int 2]) (rest := []) ⟨hx, hb, hml, hown, hts⟩ (t_Jobs_setState l D cI cZ (ad 5) (inj_Jobs inj) v1 2 (σ 5) _ h) (cwV 2 hts (g_of kw649 kw650 kw651 kw7 kw652) rfl rfl rfl (by decide +kernel) ⟨Nat.le_of_ble_eq_true rfl, Nat.le_of_ble_eq_true rfl⟩) (ro_pre hK (pt_Jobs hP) (va_recv hK (pt_Jobs hP) (ci := 2) (q0 := 0) rfl rfl)) rfl rfl hl.1 rfl (lv_room (Nat.le_of_ble_eq_true rfl)) d_Face_load_6 ⟨Nat.le_of_ble_eq_true rfl, Nat.le_of_ble_eq_true rfl⟩) hS (fun _ _ h => sub_Jobs h) (fun _ h => sub_Jobs h) (fun u1 t H1 locs ht _ h hP1 _ hk1 hS => ?_)
  have hP1 : va_P D classes (W_Jobs (ad 5) cI cZ u1) H1 := hp_fwd ht hP1
  have hP := join_Jobs inj hP hP1 hk1
  generalize H1 = H at hP hS ⊢
  refine lv_iconst (v := 3) hx hb d_Face_load_9 (by decide) ?_
  exact W.iret (v := 3) hx hb hr (fun t ht hW => ⟨⟨3, (setc σ 5 u1), rfl, h, hp_back ht hP⟩, hS.F ht⟩) hS.2.2 d_Face_load_10
def q_Face_end (v1 v2 : Int32) (σ : SG) (Q : (Int32 → SG → Prop)) : Prop :=
  (q_Jobs_setState v2 3 (σ 5) (fun u1 => (q_Fleet_endJob v1 ((setc σ 5 u1) 4) (fun u2 => Q 4 (setc (setc σ 5 u1) 4 u2)))))
set_option maxHeartbeats 4000000 in
set_option maxRecDepth 100000 in
theorem t_Face_end (l : Launch) (D : va_G) (cI cZ : ClassId) (ad : Nat → Nat → Nat) (inj : Inj (fA ad) 29) (v1 v2 : Int32) (σ : SG) (Q : (Int32 → SG → Prop)) (h : q_Face_end v1 v2 σ Q) : Met l y_Face_end (.code y_Face_end prog_1_method_23_code 3 (some .int) :: TG) { frames := 1, cells := 0, slots := 0, locals := 22 } (va_Pc [.ref (ad 0 0), .int v1, .int v2] (roB D (tysA cI cZ) (W_Face ad cI cZ σ))) (va_Qi Q (fun u t => va_P D classes (W_Face ad cI cZ u) t.heap) (inA (fA ad) 29)) 0 0 (inA (fA ad) 29) := by
  refine Met.ofW (cc := prog_1_method_23_code) (maxL := 3) (ret := (some .int)) (by decide) rfl ?_
  intro p e s m args below meth c s₁ B hml hv
  obtain ⟨rfl, hP, hK⟩ := hv
  have hx := B.exec
  have hb := B.bytes
  have hr := B.returns
  have hts : ∀ w ∈ TG, w.before [.ref (ad 0 0), .int v1, .int v2].toArray s = true := fun w hw => atoms_spec (ws := .code y_Face_end prog_1_method_23_code 3 (some .int) :: TG) B.pre w (List.mem_cons_of_mem _ hw)
  have hown : s.vm.findClass "CarrierPaths" = some m.cls := findClass_of_methodNamed B.named
  have hlocks := B.notSynchronized
  have hS : va_S (inA (fA ad) 29) s.heap s.heap [] := va_S.rf
  have hl := lv_entry ([.ref (ad 0 0), .int v1, .int v2]) (n := 3) (Nat.le_of_ble_eq_true rfl)
  rw [lg_entry_eq]
  generalize (lg_sl ([.ref (ad 0 0), .int v1, .int v2]) ++ List.replicate (3 - (lg_sl ([.ref (ad 0 0), .int v1, .int v2])).length) Slot.unset).toArray = ls at hl ⊢
  have hl : lv_has ls 3 [(0, .ref (ad 0 0)), (1, .int v1), (2, .int v2)] := hl
  unfold q_Face_end at h
  refine lv_aload_n hx hb d_Face_end_0 rfl (lv_at hl 0 rfl) ?_
  refine va_get (D := D) (ci := 6) (v := .ref (ad 5 0)) (C := "CarrierPaths") (T := F_Face) (N := 7) hx hb hts in_Face hown hK hP 0 rfl rfl 4 (by decide) (hts _ kw176) (fun _ h9 => h9) rfl d_Face_end_1 ?_
  refine lv_iload_n hx hb d_Face_end_4 rfl (lv_at hl 2 rfl) ?_
  refine lv_iconst (v := 3) hx hb d_Face_end_5 (by decide) ?_
  refine va_callv (va_runV (As := [.int v2, .int 3]) (rest := []) ⟨hx, hb, hml, hown, hts⟩ (t_Jobs_setState l D cI cZ (ad 5) (inj_Jobs inj) v2 3 (σ 5) _ h) (cwV 2 hts (g_of kw649 kw650 kw651 kw7 kw652) rfl rfl rfl (by decide +kernel) ⟨Nat.le_of_ble_eq_true rfl, Nat.le_of_ble_eq_true rfl⟩) (ro_pre hK (pt_Jobs hP) (va_recv hK (pt_Jobs hP) (ci := 2) (q0 := 0) rfl rfl)) rfl rfl hl.1 rfl (lv_room (Nat.le_of_ble_eq_true rfl)) d_Face_end_6 ⟨Nat.le_of_ble_eq_true rfl, Nat.le_of_ble_eq_true rfl⟩) hS (fun _ _ h => sub_Jobs h) (fun _ h => sub_Jobs h) (fun u1 t H1 locs ht _ h hP1 _ hk1 hS => ?_)
  have hP1 : va_P D classes (W_Jobs (ad 5) cI cZ u1) H1 := hp_fwd ht hP1
  have hP := join_Jobs inj hP hP1 hk1
  generalize H1 = H at hP hS ⊢
  refine lv_aload_n hx hb d_Face_end_9 rfl (lv_at hl 0 rfl) ?_
  refine va_get (D := D) (ci := 6) (v := .ref (ad 4 0)) (C := "CarrierPaths") (T := F_Face) (N := 7) hx hb hts in_Face hown hK hP 0 rfl rfl 3 (by decide) (hts _ kw175) (fun _ h9 => h9) rfl d_Face_end_10 ?_
  refine lv_iload_n hx hb d_Face_end_13 rfl (lv_at hl 1 rfl) ?_
  refine va_callv (va_runV (As := [.int v1]) (rest := []) ⟨hx, hb, hml, hown, hts⟩ (t_Fleet_endJob l D cI cZ (ad 4) (inj_Fleet inj) v1 ((setc σ 5 u1) 4) _ h) (cwV 1 hts (g_of kw653 kw654 kw655 kw6 kw656) rfl rfl rfl (by decide +kernel) ⟨Nat.le_of_ble_eq_true rfl, Nat.le_of_ble_eq_true rfl⟩) (ro_pre hK (pt_Fleet hP) (va_recv hK (pt_Fleet hP) (ci := 1) (q0 := 0) rfl rfl)) rfl rfl hl.1 rfl (lv_room (Nat.le_of_ble_eq_true rfl)) d_Face_end_14 ⟨Nat.le_of_ble_eq_true rfl, Nat.le_of_ble_eq_true rfl⟩) hS (fun _ _ h => sub_Fleet h) (fun _ h => sub_Fleet h) (fun u2 t H1 locs ht _ h hP1 _ hk1 hS => ?_)
  have hP1 : va_P D classes (W_Fleet (ad 4) cI cZ u2) H1 := hp_fwd ht hP1
  have hP := join_Fleet inj hP hP1 hk1
  generalize H1 = H at hP hS ⊢
  refine lv_iconst (v := 4) hx hb d_Face_end_17 (by decide) ?_
  exact W.iret (v := 4) hx hb hr (fun t ht hW => ⟨⟨4, (setc (setc σ 5 u1) 4 u2), rfl, h, hp_back ht hP⟩, hS.F ht⟩) hS.2.2 d_Face_end_18
def q_Face_isFull (v1 : Int32) (σ : SG) (Q : (Int32 → Prop)) : Prop :=
  (q_Fleet_boundFor v1 (σ 4) (fun r1 => (q_Points_placesOf v1 (σ 1) (fun r2 => ((r1 < r2 → Q 0) ∧ (¬ r1 < r2 → Q 1))))))
set_option maxHeartbeats 4000000 in
set_option maxRecDepth 100000 in
theorem t_Face_isFull (l : Launch) (D : va_G) (cI cZ : ClassId) (ad : Nat → Nat → Nat) (v1 : Int32) (σ : SG) (Q : (Int32 → Prop)) (h : q_Face_isFull v1 σ Q) : Met l y_Face_isFull (.code y_Face_isFull prog_1_method_25_code 2 (some .boolean) :: TG) { frames := 1, cells := 0, slots := 0, locals := 23 } (va_Pc [.ref (ad 0 0), .int v1] (roB D (tysA cI cZ) (W_Face ad cI cZ σ))) (vp_Si Q) 0 0 (fun _ => False) := by
  refine Met.ofW (cc := prog_1_method_25_code) (maxL := 2) (ret := (some .boolean)) (by decide) rfl ?_
  intro p e s m args below meth c s₁ B hml hv
  obtain ⟨rfl, hP, hK⟩ := hv
  have hx := B.exec
  have hb := B.bytes
  have hr := B.returns
  have hts : ∀ w ∈ TG, w.before [.ref (ad 0 0), .int v1].toArray s = true := fun w hw => atoms_spec (ws := .code y_Face_isFull prog_1_method_25_code 2 (some .boolean) :: TG) B.pre w (List.mem_cons_of_mem _ hw)
  have hown : s.vm.findClass "CarrierPaths" = some m.cls := findClass_of_methodNamed B.named
  have hlocks := B.notSynchronized
  have hl := lv_entry ([.ref (ad 0 0), .int v1]) (n := 2) (Nat.le_of_ble_eq_true rfl)
  rw [lg_entry_eq]
  generalize (lg_sl ([.ref (ad 0 0), .int v1]) ++ List.replicate (2 - (lg_sl ([.ref (ad 0 0), .int v1])).length) Slot.unset).toArray = ls at hl ⊢
  have hl : lv_has ls 2 [(0, .ref (ad 0 0)), (1, .int v1)] := hl
  unfold q_Face_isFull at h
  refine lv_aload_n hx hb d_Face_isFull_0 rfl (lv_at hl 0 rfl) ?_
  refine va_get (D := D) (ci := 6) (v := .ref (ad 4 0)) (C := "CarrierPaths") (T := F_Face) (N := 7) hx hb hts in_Face hown hK hP 0 rfl rfl 3 (by decide) (hts _ kw175) (fun _ h9 => h9) rfl d_Face_isFull_1 ?_
  refine lv_iload_n hx hb d_Face_isFull_4 rfl (lv_at hl 1 rfl) ?_
  refine vp_callSi (W.runV (As := [.int v1]) (rest := []) ⟨hx, hb, hml, hown, hts⟩ (t_Fleet_boundFor l D cI cZ (ad 4) v1 (σ 4) _ h) (cwV 1 hts (g_of kw202 kw203 kw204 kw6 kw205) rfl rfl rfl (by decide +kernel) ⟨Nat.le_of_ble_eq_true rfl, Nat.le_of_ble_eq_true rfl⟩) (ro_pre hK (pt_Fleet hP) (va_recv hK (pt_Fleet hP) (ci := 1) (q0 := 0) rfl rfl)) rfl rfl hl.1 rfl (lv_room (Nat.le_of_ble_eq_true rfl)) d_Face_isFull_5 ⟨Nat.le_of_ble_eq_true rfl, Nat.le_of_ble_eq_true rfl⟩) (fun r1 h => ?_)
  refine lv_aload_n hx hb d_Face_isFull_8 rfl (lv_at hl 0 rfl) ?_
  refine va_get (D := D) (ci := 6) (v := .ref (ad 1 0)) (C := "CarrierPaths") (T := F_Face) (N := 7) hx hb hts in_Face hown hK hP 0 rfl rfl 0 (by decide) (hts _ kw172) (fun _ h9 => h9) rfl d_Face_isFull_9 ?_
  refine lv_iload_n hx hb d_Face_isFull_12 rfl (lv_at hl 1 rfl) ?_
  refine vp_callSi (W.runV (As := [.int v1]) (rest := [.int r1]) ⟨hx, hb, hml, hown, hts⟩ (t_Points_placesOf l D cI cZ (ad 1) v1 (σ 1) _ h) (cwV 1 hts (g_of kw399 kw400 kw401 kw3 kw402) rfl rfl rfl (by decide +kernel) ⟨Nat.le_of_ble_eq_true rfl, Nat.le_of_ble_eq_true rfl⟩) (ro_pre hK (pt_Points hP) (va_recv hK (pt_Points hP) (ci := 3) (q0 := 0) rfl rfl)) rfl rfl hl.1 rfl (lv_room (Nat.le_of_ble_eq_true rfl)) d_Face_isFull_13 ⟨Nat.le_of_ble_eq_true rfl, Nat.le_of_ble_eq_true rfl⟩) (fun r2 h => ?_)
  refine lv_icmp_lt (tgt := 23) hx hb d_Face_isFull_16 (by decide) (fun hc => ?_) (fun hc => ?_)
  · have h := h.1 hc
    refine lv_iconst (v := 0) hx hb d_Face_isFull_23 (by decide) ?_
    exact W.zret (v := 0) hx hb hr (by decide) (fun t ht hW => ⟨0, rfl, h, ht⟩) (fun q hq => by cases hq) d_Face_isFull_24
  · have h := h.2 hc
    refine lv_iconst (v := 1) hx hb d_Face_isFull_19 (by decide) ?_
    refine lv_goto (tgt := 24) hx hb d_Face_isFull_20 (by decide) ?_
    exact W.zret (v := 1) hx hb hr (by decide) (fun t ht hW => ⟨1, rfl, h, ht⟩) (fun q hq => by cases hq) d_Face_isFull_24
def q_Face_isIn (v0 v1 : Int32) (Q : (Int32 → Prop)) : Prop :=
  (((v0 &&& ((1 : Int32) <<< (v1 &&& 31))) = 0 → Q 0) ∧ (¬ (v0 &&& ((1 : Int32) <<< (v1 &&& 31))) = 0 → Q 1))
set_option maxHeartbeats 4000000 in
set_option maxRecDepth 100000 in
theorem t_Face_isIn (l : Launch) (v0 v1 : Int32) (Q : (Int32 → Prop)) (h : q_Face_isIn v0 v1 Q) : Met l y_Face_isIn (.code y_Face_isIn prog_1_method_27_code 2 (some .boolean) :: TG) { frames := 0, cells := 0, slots := 0, locals := 0 } (va_Pc [.int v0, .int v1] (fun _ => True)) (vp_Si Q) 0 0 (fun _ => False) := by
  refine Met.ofW (cc := prog_1_method_27_code) (maxL := 2) (ret := (some .boolean)) (by decide) rfl ?_
  intro p e s m args below meth c s₁ B hml hv
  obtain ⟨rfl, -⟩ := hv
  have hx := B.exec
  have hb := B.bytes
  have hr := B.returns
  have hts : ∀ w ∈ TG, w.before [.int v0, .int v1].toArray s = true := fun w hw => atoms_spec (ws := .code y_Face_isIn prog_1_method_27_code 2 (some .boolean) :: TG) B.pre w (List.mem_cons_of_mem _ hw)
  have hown : s.vm.findClass "CarrierPaths" = some m.cls := findClass_of_methodNamed B.named
  have hlocks := B.notSynchronized
  have hl := lv_entry ([.int v0, .int v1]) (n := 2) (Nat.le_of_ble_eq_true rfl)
  rw [lg_entry_eq]
  generalize (lg_sl ([.int v0, .int v1]) ++ List.replicate (2 - (lg_sl ([.int v0, .int v1])).length) Slot.unset).toArray = ls at hl ⊢
  have hl : lv_has ls 2 [(0, .int v0), (1, .int v1)] := hl
  unfold q_Face_isIn at h
  refine lv_iload_n hx hb d_Face_isIn_0 rfl (lv_at hl 0 rfl) ?_
  refine lv_iconst (v := 1) hx hb d_Face_isIn_1 (by decide) ?_
  refine lv_iload_n hx hb d_Face_isIn_2 rfl (lv_at hl 1 rfl) ?_
  refine lv_ishl hx hb d_Face_isIn_3 ?_
  refine lv_iand hx hb d_Face_isIn_4 ?_
  refine lv_if_eq (tgt := 12) hx hb d_Face_isIn_5 (by decide) (fun hc => ?_) (fun hc => ?_)
  · have h := h.1 hc
    refine lv_iconst (v := 0) hx hb d_Face_isIn_12 (by decide) ?_
    exact W.zret (v := 0) hx hb hr (by decide) (fun t ht hW => ⟨0, rfl, h, ht⟩) (fun q hq => by cases hq) d_Face_isIn_13
  · have h := h.2 hc
    refine lv_iconst (v := 1) hx hb d_Face_isIn_8 (by decide) ?_
    refine lv_goto (tgt := 13) hx hb d_Face_isIn_9 (by decide) ?_
    exact W.zret (v := 1) hx hb hr (by decide) (fun t ht hW => ⟨1, rfl, h, ht⟩) (fun q hq => by cases hq) d_Face_isIn_13
def q_Face_freePlaces_b0 (J : Nat → Int32 → Int32 → Int32 → Prop) (Q : (Int32 → Prop)) (v1 v2 v3 : Int32) (σ : SG) : Prop :=
  J 1 v1 0 0
def q_Face_freePlaces_b1 (J : Nat → Int32 → Int32 → Int32 → Prop) (Q : (Int32 → Prop)) (v1 v2 v3 : Int32) (σ : SG) : Prop :=
  (q_Points_size (σ 1) (fun r1 => ((r1 ≤ v3 → Q v2) ∧ (¬ r1 ≤ v3 → (q_Face_isIn v1 v3 (fun r2 => ((r2 = 0 → J 1 v1 v2 (v3 + 1)) ∧ (¬ r2 = 0 → (q_Points_placesOf v3 (σ 1) (fun r3 => (q_Fleet_boundFor v3 (σ 4) (fun r4 => J 1 v1 (v2 + (r3 - r4)) (v3 + 1)))))))))))))
def q_Face_freePlaces_j (Q : (Int32 → Prop)) (σ : SG) : Nat → Nat → Int32 → Int32 → Int32 → Prop
  | 0, _, _, _, _ => False
  | n + 1, 0, v1, v2, v3 => q_Face_freePlaces_b0 (q_Face_freePlaces_j Q σ n) Q v1 v2 v3 σ
  | n + 1, 1, v1, v2, v3 => q_Face_freePlaces_b1 (q_Face_freePlaces_j Q σ n) Q v1 v2 v3 σ
  | _ + 1, _ + 2, _, _, _ => False
def q_Face_freePlaces (v1 : Int32) (σ : SG) (Q : (Int32 → Prop)) : Prop := q_Face_freePlaces_j Q σ 4000 0 v1 0 0
def lc_Face_freePlaces (ad : Nat → Nat → Nat) (b : Nat) (v1 v2 v3 : Int32) : List (Nat × Value) := match b with
  | 0 => [(0, .ref (ad 0 0)), (1, .int v1)]
  | 1 => [(0, .ref (ad 0 0)), (1, .int v1), (2, .int v2), (3, .int v3)]
  | _ => []
def pc_Face_freePlaces (b : Nat) : Nat := match b with
  | 0 => 0
  | 1 => 4
  | _ => 0
set_option maxHeartbeats 4000000 in
set_option maxRecDepth 100000 in
theorem t_Face_freePlaces (l : Launch) (D : va_G) (cI cZ : ClassId) (ad : Nat → Nat → Nat) (v1 : Int32) (σ : SG) (Q : (Int32 → Prop)) (h : q_Face_freePlaces v1 σ Q) : Met l y_Face_freePlaces (.code y_Face_freePlaces prog_1_method_26_code 4 (some .int) :: TG) { frames := 1, cells := 0, slots := 0, locals := 23 } (va_Pc [.ref (ad 0 0), .int v1] (roB D (tysA cI cZ) (W_Face ad cI cZ σ))) (vp_Si Q) 0 0 (fun _ => False) := by
  refine Met.ofW (cc := prog_1_method_26_code) (maxL := 4) (ret := (some .int)) (by decide) rfl ?_
  intro p e s m args below meth c s₁ B hml hv
  obtain ⟨rfl, hP, hK⟩ := hv
  have hx := B.exec
  have hb := B.bytes
  have hr := B.returns
  have hts : ∀ w ∈ TG, w.before [.ref (ad 0 0), .int v1].toArray s = true := fun w hw => atoms_spec (ws := .code y_Face_freePlaces prog_1_method_26_code 4 (some .int) :: TG) B.pre w (List.mem_cons_of_mem _ hw)
  have hown : s.vm.findClass "CarrierPaths" = some m.cls := findClass_of_methodNamed B.named
  have hlocks := B.notSynchronized
  have hl := lv_entry ([.ref (ad 0 0), .int v1]) (n := 4) (Nat.le_of_ble_eq_true rfl)
  rw [lg_entry_eq]
  generalize (lg_sl ([.ref (ad 0 0), .int v1]) ++ List.replicate (4 - (lg_sl ([.ref (ad 0 0), .int v1])).length) Slot.unset).toArray = ls at hl ⊢
  generalize ([.ref (ad 0 0), .int v1] : List Value).toArray = args at hts ⊢
  have key : ∀ (n b : Nat) (v1 v2 v3 : Int32), q_Face_freePlaces_j Q σ n b v1 v2 v3 → ∀ ls : Array Slot, lv_has ls 4 (lc_Face_freePlaces ad b v1 v2 v3) → W p l e (headSpec (.code y_Face_freePlaces prog_1_method_26_code 4 (some .int) :: TG) { frames := 1, cells := 0, slots := 0, locals := 23 }).room s m args below meth c s.heap [] 0 0 (MQ below (vp_Si Q) args s 0 0 (fun _ => False)) (F0 m (pc_Face_freePlaces b) ls []) := by
    clear h hl
    intro n
    induction n with
    | zero => intro b _ _ _ h; exact False.elim h
    | succ n ih =>
      intro b v1 v2 v3 h ls hl
      match b, h, hl with
      | 0, h, hl =>
        have h : q_Face_freePlaces_b0 (q_Face_freePlaces_j Q σ n) Q v1 v2 v3 σ := h
        have hl : lv_has ls 4 [(0, .ref (ad 0 0)), (1, .int v1)] := hl
        refine W.eq (g2 := F0 m 0 ls []) rfl ?_
        unfold q_Face_freePlaces_b0 at h
        refine lv_iconst (v := 0) hx hb d_Face_freePlaces_0 (by decide) ?_
        refine lv_istore_n (lv' := [(2, .int 0), (0, .ref (ad 0 0)), (1, .int v1)]) hx hb d_Face_freePlaces_1 rfl hl (by decide) rfl (fun ls hl => ?_)
        refine lv_iconst (v := 0) hx hb d_Face_freePlaces_2 (by decide) ?_
        refine lv_istore_n (lv' := [(3, .int 0), (2, .int 0), (0, .ref (ad 0 0)), (1, .int v1)]) hx hb d_Face_freePlaces_3 rfl hl (by decide) rfl (fun ls hl => ?_)
        exact ih 1 v1 0 0 h _ (lv_sub hl [2, 3, 1, 0] rfl)
      | 1, h, hl =>
        have h : q_Face_freePlaces_b1 (q_Face_freePlaces_j Q σ n) Q v1 v2 v3 σ := h
        have hl : lv_has ls 4 [(0, .ref (ad 0 0)), (1, .int v1), (2, .int v2), (3, .int v3)] := hl
        refine W.eq (g2 := F0 m 4 ls []) rfl ?_
        unfold q_Face_freePlaces_b1 at h
        refine lv_iload_n hx hb d_Face_freePlaces_4 rfl (lv_at hl 3 rfl) ?_
        refine lv_aload_n hx hb d_Face_freePlaces_5 rfl (lv_at hl 0 rfl) ?_
        refine va_get (D := D) (ci := 6) (v := .ref (ad 1 0)) (C := "CarrierPaths") (T := F_Face) (N := 7) hx hb hts in_Face hown hK hP 0 rfl rfl 0 (by decide) (hts _ kw172) (fun _ h9 => h9) rfl d_Face_freePlaces_6 ?_
        refine vp_callSi (W.runV (As := []) (rest := [.int v3]) ⟨hx, hb, hml, hown, hts⟩ (t_Points_size l D cI cZ (ad 1) (σ 1) _ h) (cwV 0 hts (g_of kw364 kw365 kw366 kw3 kw367) rfl rfl rfl (by decide +kernel) ⟨Nat.le_of_ble_eq_true rfl, Nat.le_of_ble_eq_true rfl⟩) (ro_pre hK (pt_Points hP) (va_recv hK (pt_Points hP) (ci := 3) (q0 := 0) rfl rfl)) rfl rfl hl.1 rfl (lv_room (Nat.le_of_ble_eq_true rfl)) d_Face_freePlaces_9 ⟨Nat.le_of_ble_eq_true rfl, Nat.le_of_ble_eq_true rfl⟩) (fun r1 h => ?_)
        refine lv_icmp_ge (tgt := 49) hx hb d_Face_freePlaces_12 (by decide) (fun hc => ?_) (fun hc => ?_)
        · have h := h.1 hc
          refine lv_iload_n hx hb d_Face_freePlaces_49 rfl (lv_at hl 2 rfl) ?_
          exact W.iret (v := v2) hx hb hr (fun t ht hW => ⟨v2, rfl, h, ht⟩) (fun q hq => by cases hq) d_Face_freePlaces_50
        · have h := h.2 hc
          refine lv_iload_n hx hb d_Face_freePlaces_15 rfl (lv_at hl 1 rfl) ?_
          refine lv_iload_n hx hb d_Face_freePlaces_16 rfl (lv_at hl 3 rfl) ?_
          refine vp_callSi (W.runS (As := [.int v1, .int v3]) (rest := []) ⟨hx, hb, hml, hown, hts⟩ (t_Face_isIn l v1 v3 _ h) (va_cwS 2 hts (gS_of kw396 kw397 kw1 kw398) rfl rfl rfl (by decide +kernel) ⟨Nat.le_of_ble_eq_true rfl, Nat.le_of_ble_eq_true rfl⟩) st_pre rfl rfl hl.1 rfl (lv_room (Nat.le_of_ble_eq_true rfl)) d_Face_freePlaces_17 ⟨Nat.le_of_ble_eq_true rfl, Nat.le_of_ble_eq_true rfl⟩) (fun r2 h => ?_)
          refine lv_if_eq (tgt := 43) hx hb d_Face_freePlaces_20 (by decide) (fun hc => ?_) (fun hc => ?_)
          · have h := h.1 hc
            refine lv_iinc (v := (v3 + 1)) (lv' := [(3, .int (v3 + 1)), (0, .ref (ad 0 0)), (1, .int v1), (2, .int v2)]) hx hb d_Face_freePlaces_43 hl (k := 3) rfl rfl (by decide) rfl (fun ls hl => ?_)
            refine lv_goto (tgt := 4) hx hb d_Face_freePlaces_46 (by decide) ?_
            exact ih 1 v1 v2 (v3 + 1) h _ (lv_sub hl [1, 2, 3, 0] rfl)
          · have h := h.2 hc
            refine lv_iload_n hx hb d_Face_freePlaces_23 rfl (lv_at hl 2 rfl) ?_
            refine lv_aload_n hx hb d_Face_freePlaces_24 rfl (lv_at hl 0 rfl) ?_
            refine va_get (D := D) (ci := 6) (v := .ref (ad 1 0)) (C := "CarrierPaths") (T := F_Face) (N := 7) hx hb hts in_Face hown hK hP 0 rfl rfl 0 (by decide) (hts _ kw172) (fun _ h9 => h9) rfl d_Face_freePlaces_25 ?_
            refine lv_iload_n hx hb d_Face_freePlaces_28 rfl (lv_at hl 3 rfl) ?_
            refine vp_callSi (W.runV (As := [.int v3]) (rest := [.int v2]) ⟨hx, hb, hml, hown, hts⟩ (t_Points_placesOf l D cI cZ (ad 1) v3 (σ 1) _ h) (cwV 1 hts (g_of kw399 kw400 kw401 kw3 kw402) rfl rfl rfl (by decide +kernel) ⟨Nat.le_of_ble_eq_true rfl, Nat.le_of_ble_eq_true rfl⟩) (ro_pre hK (pt_Points hP) (va_recv hK (pt_Points hP) (ci := 3) (q0 := 0) rfl rfl)) rfl rfl hl.1 rfl (lv_room (Nat.le_of_ble_eq_true rfl)) d_Face_freePlaces_29 ⟨Nat.le_of_ble_eq_true rfl, Nat.le_of_ble_eq_true rfl⟩) (fun r3 h => ?_)
            refine lv_aload_n hx hb d_Face_freePlaces_32 rfl (lv_at hl 0 rfl) ?_
            refine va_get (D := D) (ci := 6) (v := .ref (ad 4 0)) (C := "CarrierPaths") (T := F_Face) (N := 7) hx hb hts in_Face hown hK hP 0 rfl rfl 3 (by decide) (hts _ kw175) (fun _ h9 => h9) rfl d_Face_freePlaces_33 ?_
            refine lv_iload_n hx hb d_Face_freePlaces_36 rfl (lv_at hl 3 rfl) ?_
            refine vp_callSi (W.runV (As := [.int v3]) (rest := [.int r3, .int v2]) ⟨hx, hb, hml, hown, hts⟩ (t_Fleet_boundFor l D cI cZ (ad 4) v3 (σ 4) _ h) (cwV 1 hts (g_of kw202 kw203 kw204 kw6 kw205) rfl rfl rfl (by decide +kernel) ⟨Nat.le_of_ble_eq_true rfl, Nat.le_of_ble_eq_true rfl⟩) (ro_pre hK (pt_Fleet hP) (va_recv hK (pt_Fleet hP) (ci := 1) (q0 := 0) rfl rfl)) rfl rfl hl.1 rfl (lv_room (Nat.le_of_ble_eq_true rfl)) d_Face_freePlaces_37 ⟨Nat.le_of_ble_eq_true rfl, Nat.le_of_ble_eq_true rfl⟩) (fun r4 h => ?_)
            refine lv_isub hx hb d_Face_freePlaces_40 ?_
            refine lv_iadd hx hb d_Face_freePlaces_41 ?_
            refine lv_istore_n (lv' := [(2, .int (v2 + (r3 - r4))), (0, .ref (ad 0 0)), (1, .int v1), (3, .int v3)]) hx hb d_Face_freePlaces_42 rfl hl (by decide) rfl (fun ls hl => ?_)
            refine lv_iinc (v := (v3 + 1)) (lv' := [(3, .int (v3 + 1)), (2, .int (v2 + (r3 - r4))), (0, .ref (ad 0 0)), (1, .int v1)]) hx hb d_Face_freePlaces_43 hl (k := 3) rfl rfl (by decide) rfl (fun ls hl => ?_)
            refine lv_goto (tgt := 4) hx hb d_Face_freePlaces_46 (by decide) ?_
            exact ih 1 v1 (v2 + (r3 - r4)) (v3 + 1) h _ (lv_sub hl [2, 3, 1, 0] rfl)
      | _ + 2, h, _ => exact False.elim h
  exact key 4000 0 v1 0 0 h ls hl
def q_Face_count (v1 : Int32) (σ : SG) (Q : (Int32 → Prop)) : Prop :=
  (q_Math_floorMod v1 10 (fun r1 => (q_Math_floorDiv v1 10 (fun r2 => ((r2 = 0 → (q_Face_countInAll r1 σ (fun r3 => Q r3))) ∧ (¬ r2 = 0 → ((r2 = 1 → (q_Rings_has r1 (σ 3) (fun r4 => ((r4 = 0 → Q (-1)) ∧ (¬ r4 = 0 → (q_Rings_bitsOf r1 (σ 3) (fun r5 => (q_Face_freePlaces r5 σ (fun r6 => Q r6))))))))) ∧ (¬ r2 = 1 → ((r2 = 2 → (q_Points_has r1 (σ 1) (fun r7 => ((r7 = 0 → Q (-1)) ∧ (¬ r7 = 0 → (q_Points_placesOf r1 (σ 1) (fun r8 => Q r8))))))) ∧ (¬ r2 = 2 → ((r2 = 3 → (q_Points_has r1 (σ 1) (fun r9 => ((r9 = 0 → Q (-1)) ∧ (¬ r9 = 0 → (q_Fleet_boundFor r1 (σ 4) (fun r10 => Q r10))))))) ∧ (¬ r2 = 3 → ((r2 = 4 → (q_Points_has r1 (σ 1) (fun r11 => ((r11 = 0 → Q (-1)) ∧ (¬ r11 = 0 → (q_Points_hasCharger r1 (σ 1) (fun r12 => (q_Face_asNumber r12 (fun r13 => Q r13))))))))) ∧ (¬ r2 = 4 → Q (-1)))))))))))))))
set_option maxHeartbeats 4000000 in
set_option maxRecDepth 100000 in
theorem t_Face_count (l : Launch) (D : va_G) (cI cZ : ClassId) (ad : Nat → Nat → Nat) (v1 : Int32) (σ : SG) (Q : (Int32 → Prop)) (h : q_Face_count v1 σ Q) : Met l y_Face_count (.code y_Face_count prog_1_method_16_code 3 (some .int) :: TG) { frames := 3, cells := 0, slots := 0, locals := 64 } (va_Pc [.ref (ad 0 0), .int v1] (roB D (tysA cI cZ) (W_Face ad cI cZ σ))) (vp_Si Q) 0 0 (fun _ => False) := by
  refine Met.ofW (cc := prog_1_method_16_code) (maxL := 3) (ret := (some .int)) (by decide) rfl ?_
  intro p e s m args below meth c s₁ B hml hv
  obtain ⟨rfl, hP, hK⟩ := hv
  have hx := B.exec
  have hb := B.bytes
  have hr := B.returns
  have hts : ∀ w ∈ TG, w.before [.ref (ad 0 0), .int v1].toArray s = true := fun w hw => atoms_spec (ws := .code y_Face_count prog_1_method_16_code 3 (some .int) :: TG) B.pre w (List.mem_cons_of_mem _ hw)
  have hown : s.vm.findClass "CarrierPaths" = some m.cls := findClass_of_methodNamed B.named
  have hlocks := B.notSynchronized
  have hl := lv_entry ([.ref (ad 0 0), .int v1]) (n := 3) (Nat.le_of_ble_eq_true rfl)
  rw [lg_entry_eq]
  generalize (lg_sl ([.ref (ad 0 0), .int v1]) ++ List.replicate (3 - (lg_sl ([.ref (ad 0 0), .int v1])).length) Slot.unset).toArray = ls at hl ⊢
  have hl : lv_has ls 3 [(0, .ref (ad 0 0)), (1, .int v1)] := hl
  unfold q_Face_count at h
  refine lv_iload_n hx hb d_Face_count_0 rfl (lv_at hl 1 rfl) ?_
  refine lv_bipush (v := 10) hx hb d_Face_count_1 (by decide) ?_
  refine vp_callSi (W.runS (As := [.int v1, .int 10]) (rest := []) ⟨hx, hb, hml, hown, hts⟩ (t_Math_floorMod l v1 10 _ h) (va_cwS 2 hts (gS_of kw354 kw355 kw2 kw356) rfl rfl rfl (by decide +kernel) ⟨Nat.le_of_ble_eq_true rfl, Nat.le_of_ble_eq_true rfl⟩) st_pre rfl rfl hl.1 rfl (lv_room (Nat.le_of_ble_eq_true rfl)) d_Face_count_3 ⟨Nat.le_of_ble_eq_true rfl, Nat.le_of_ble_eq_true rfl⟩) (fun r1 h => ?_)
  refine lv_istore_n (lv' := [(2, .int r1), (0, .ref (ad 0 0)), (1, .int v1)]) hx hb d_Face_count_6 rfl hl (by decide) rfl (fun ls hl => ?_)
  refine lv_iload_n hx hb d_Face_count_7 rfl (lv_at hl 2 rfl) ?_
  refine lv_bipush (v := 10) hx hb d_Face_count_8 (by decide) ?_
  refine vp_callSi (W.runS (As := [.int v1, .int 10]) (rest := []) ⟨hx, hb, hml, hown, hts⟩ (t_Math_floorDiv l v1 10 _ h) (va_cwS 2 hts (gS_of kw357 kw358 kw2 kw359) rfl rfl rfl (by decide +kernel) ⟨Nat.le_of_ble_eq_true rfl, Nat.le_of_ble_eq_true rfl⟩) st_pre rfl rfl hl.1 rfl (lv_room (Nat.le_of_ble_eq_true rfl)) d_Face_count_10 ⟨Nat.le_of_ble_eq_true rfl, Nat.le_of_ble_eq_true rfl⟩) (fun r2 h => ?_)
  by_cases hc0 : r2 = 0
  · have h := h.1 hc0
    refine lv_tableIn (tgt := 48) (off := 35) hx hb d_Face_count_13 (by rw [hc0]; decide) (by rw [hc0]; decide) (by rw [hc0]; decide) (by decide) ?_
    refine lv_aload_n hx hb d_Face_count_48 rfl (lv_at hl 1 rfl) ?_
    refine lv_iload_n hx hb d_Face_count_49 rfl (lv_at hl 0 rfl) ?_
    refine vp_callSi (W.runV (As := [.int r1]) (rest := []) ⟨hx, hb, hml, hown, hts⟩ (t_Face_countInAll l D cI cZ ad r1 σ _ h) (cwV 1 hts (g_of kw360 kw362 kp13 kw1 kw363) rfl rfl rfl (by decide +kernel) ⟨Nat.le_of_ble_eq_true rfl, Nat.le_of_ble_eq_true rfl⟩) (ro_pre hK hP (va_recv hK hP (ci := 6) (q0 := 0) rfl rfl)) rfl rfl hl.1 rfl (lv_room (Nat.le_of_ble_eq_true rfl)) d_Face_count_50 ⟨Nat.le_of_ble_eq_true rfl, Nat.le_of_ble_eq_true rfl⟩) (fun r3 h => ?_)
    exact W.iret (v := r3) hx hb hr (fun t ht hW => ⟨r3, rfl, h, ht⟩) (fun q hq => by cases hq) d_Face_count_53
  · have h := h.2 hc0
    by_cases hc1 : r2 = 1
    · have h := h.1 hc1
      refine lv_tableIn (tgt := 54) (off := 41) hx hb d_Face_count_13 (by rw [hc1]; decide) (by rw [hc1]; decide) (by rw [hc1]; decide) (by decide) ?_
      refine lv_aload_n hx hb d_Face_count_54 rfl (lv_at hl 1 rfl) ?_
      refine va_get (D := D) (ci := 6) (v := .ref (ad 3 0)) (C := "CarrierPaths") (T := F_Face) (N := 7) hx hb hts in_Face hown hK hP 0 rfl rfl 2 (by decide) (hts _ kw174) (fun _ h9 => h9) rfl d_Face_count_55 ?_
      refine lv_iload_n hx hb d_Face_count_58 rfl (lv_at hl 0 rfl) ?_
      refine vp_callSi (W.runV (As := [.int r1]) (rest := []) ⟨hx, hb, hml, hown, hts⟩ (t_Rings_has l D cI cZ (ad 3) r1 (σ 3) _ h) (cwV 1 hts (g_of kw384 kw385 kw386 kw5 kw387) rfl rfl rfl (by decide +kernel) ⟨Nat.le_of_ble_eq_true rfl, Nat.le_of_ble_eq_true rfl⟩) (ro_pre hK (pt_Rings hP) (va_recv hK (pt_Rings hP) (ci := 4) (q0 := 0) rfl rfl)) rfl rfl hl.1 rfl (lv_room (Nat.le_of_ble_eq_true rfl)) d_Face_count_59 ⟨Nat.le_of_ble_eq_true rfl, Nat.le_of_ble_eq_true rfl⟩) (fun r4 h => ?_)
      refine lv_if_eq (tgt := 80) hx hb d_Face_count_62 (by decide) (fun hc => ?_) (fun hc => ?_)
      · have h := h.1 hc
        refine lv_iconst (v := (-1)) hx hb d_Face_count_80 (by decide) ?_
        exact W.iret (v := (-1)) hx hb hr (fun t ht hW => ⟨(-1), rfl, h, ht⟩) (fun q hq => by cases hq) d_Face_count_81
      · have h := h.2 hc
        refine lv_aload_n hx hb d_Face_count_65 rfl (lv_at hl 1 rfl) ?_
        refine lv_aload_n hx hb d_Face_count_66 rfl (lv_at hl 1 rfl) ?_
        refine va_get (D := D) (ci := 6) (v := .ref (ad 3 0)) (C := "CarrierPaths") (T := F_Face) (N := 7) hx hb hts in_Face hown hK hP 0 rfl rfl 2 (by decide) (hts _ kw174) (fun _ h9 => h9) rfl d_Face_count_67 ?_
        refine lv_iload_n hx hb d_Face_count_70 rfl (lv_at hl 0 rfl) ?_
        refine vp_callSi (W.runV (As := [.int r1]) (rest := [.ref (ad 0 0)]) ⟨hx, hb, hml, hown, hts⟩ (t_Rings_bitsOf l D cI cZ (ad 3) r1 (σ 3) _ h) (cwV 1 hts (g_of kw388 kw389 kw390 kw5 kw391) rfl rfl rfl (by decide +kernel) ⟨Nat.le_of_ble_eq_true rfl, Nat.le_of_ble_eq_true rfl⟩) (ro_pre hK (pt_Rings hP) (va_recv hK (pt_Rings hP) (ci := 4) (q0 := 0) rfl rfl)) rfl rfl hl.1 rfl (lv_room (Nat.le_of_ble_eq_true rfl)) d_Face_count_71 ⟨Nat.le_of_ble_eq_true rfl, Nat.le_of_ble_eq_true rfl⟩) (fun r5 h => ?_)
        refine vp_callSi (W.runV (As := [.int r5]) (rest := []) ⟨hx, hb, hml, hown, hts⟩ (t_Face_freePlaces l D cI cZ ad r5 σ _ h) (cwV 1 hts (g_of kw392 kw394 kp14 kw1 kw395) rfl rfl rfl (by decide +kernel) ⟨Nat.le_of_ble_eq_true rfl, Nat.le_of_ble_eq_true rfl⟩) (ro_pre hK hP (va_recv hK hP (ci := 6) (q0 := 0) rfl rfl)) rfl rfl hl.1 rfl (lv_room (Nat.le_of_ble_eq_true rfl)) d_Face_count_74 ⟨Nat.le_of_ble_eq_true rfl, Nat.le_of_ble_eq_true rfl⟩) (fun r6 h => ?_)
        refine lv_goto (tgt := 81) hx hb d_Face_count_77 (by decide) ?_
        exact W.iret (v := r6) hx hb hr (fun t ht hW => ⟨r6, rfl, h, ht⟩) (fun q hq => by cases hq) d_Face_count_81
    · have h := h.2 hc1
      by_cases hc2 : r2 = 2
      · have h := h.1 hc2
        refine lv_tableIn (tgt := 82) (off := 69) hx hb d_Face_count_13 (by rw [hc2]; decide) (by rw [hc2]; decide) (by rw [hc2]; decide) (by decide) ?_
        refine lv_aload_n hx hb d_Face_count_82 rfl (lv_at hl 1 rfl) ?_
        refine va_get (D := D) (ci := 6) (v := .ref (ad 1 0)) (C := "CarrierPaths") (T := F_Face) (N := 7) hx hb hts in_Face hown hK hP 0 rfl rfl 0 (by decide) (hts _ kw172) (fun _ h9 => h9) rfl d_Face_count_83 ?_
        refine lv_iload_n hx hb d_Face_count_86 rfl (lv_at hl 0 rfl) ?_
        refine vp_callSi (W.runV (As := [.int r1]) (rest := []) ⟨hx, hb, hml, hown, hts⟩ (t_Points_has l D cI cZ (ad 1) r1 (σ 1) _ h) (cwV 1 hts (g_of kw198 kw199 kw200 kw3 kw201) rfl rfl rfl (by decide +kernel) ⟨Nat.le_of_ble_eq_true rfl, Nat.le_of_ble_eq_true rfl⟩) (ro_pre hK (pt_Points hP) (va_recv hK (pt_Points hP) (ci := 3) (q0 := 0) rfl rfl)) rfl rfl hl.1 rfl (lv_room (Nat.le_of_ble_eq_true rfl)) d_Face_count_87 ⟨Nat.le_of_ble_eq_true rfl, Nat.le_of_ble_eq_true rfl⟩) (fun r7 h => ?_)
        refine lv_if_eq (tgt := 104) hx hb d_Face_count_90 (by decide) (fun hc => ?_) (fun hc => ?_)
        · have h := h.1 hc
          refine lv_iconst (v := (-1)) hx hb d_Face_count_104 (by decide) ?_
          exact W.iret (v := (-1)) hx hb hr (fun t ht hW => ⟨(-1), rfl, h, ht⟩) (fun q hq => by cases hq) d_Face_count_105
        · have h := h.2 hc
          refine lv_aload_n hx hb d_Face_count_93 rfl (lv_at hl 1 rfl) ?_
          refine va_get (D := D) (ci := 6) (v := .ref (ad 1 0)) (C := "CarrierPaths") (T := F_Face) (N := 7) hx hb hts in_Face hown hK hP 0 rfl rfl 0 (by decide) (hts _ kw172) (fun _ h9 => h9) rfl d_Face_count_94 ?_
          refine lv_iload_n hx hb d_Face_count_97 rfl (lv_at hl 0 rfl) ?_
          refine vp_callSi (W.runV (As := [.int r1]) (rest := []) ⟨hx, hb, hml, hown, hts⟩ (t_Points_placesOf l D cI cZ (ad 1) r1 (σ 1) _ h) (cwV 1 hts (g_of kw399 kw400 kw401 kw3 kw402) rfl rfl rfl (by decide +kernel) ⟨Nat.le_of_ble_eq_true rfl, Nat.le_of_ble_eq_true rfl⟩) (ro_pre hK (pt_Points hP) (va_recv hK (pt_Points hP) (ci := 3) (q0 := 0) rfl rfl)) rfl rfl hl.1 rfl (lv_room (Nat.le_of_ble_eq_true rfl)) d_Face_count_98 ⟨Nat.le_of_ble_eq_true rfl, Nat.le_of_ble_eq_true rfl⟩) (fun r8 h => ?_)
          refine lv_goto (tgt := 105) hx hb d_Face_count_101 (by decide) ?_
          exact W.iret (v := r8) hx hb hr (fun t ht hW => ⟨r8, rfl, h, ht⟩) (fun q hq => by cases hq) d_Face_count_105
      · have h := h.2 hc2
        by_cases hc3 : r2 = 3
        · have h := h.1 hc3
          refine lv_tableIn (tgt := 106) (off := 93) hx hb d_Face_count_13 (by rw [hc3]; decide) (by rw [hc3]; decide) (by rw [hc3]; decide) (by decide) ?_
          refine lv_aload_n hx hb d_Face_count_106 rfl (lv_at hl 1 rfl) ?_
          refine va_get (D := D) (ci := 6) (v := .ref (ad 1 0)) (C := "CarrierPaths") (T := F_Face) (N := 7) hx hb hts in_Face hown hK hP 0 rfl rfl 0 (by decide) (hts _ kw172) (fun _ h9 => h9) rfl d_Face_count_107 ?_
          refine lv_iload_n hx hb d_Face_count_110 rfl (lv_at hl 0 rfl) ?_
          refine vp_callSi (W.runV (As := [.int r1]) (rest := []) ⟨hx, hb, hml, hown, hts⟩ (t_Points_has l D cI cZ (ad 1) r1 (σ 1) _ h) (cwV 1 hts (g_of kw198 kw199 kw200 kw3 kw201) rfl rfl rfl (by decide +kernel) ⟨Nat.le_of_ble_eq_true rfl, Nat.le_of_ble_eq_true rfl⟩) (ro_pre hK (pt_Points hP) (va_recv hK (pt_Points hP) (ci := 3) (q0 := 0) rfl rfl)) rfl rfl hl.1 rfl (lv_room (Nat.le_of_ble_eq_true rfl)) d_Face_count_111 ⟨Nat.le_of_ble_eq_true rfl, Nat.le_of_ble_eq_true rfl⟩) (fun r9 h => ?_)
          refine lv_if_eq (tgt := 128) hx hb d_Face_count_114 (by decide) (fun hc => ?_) (fun hc => ?_)
          · have h := h.1 hc
            refine lv_iconst (v := (-1)) hx hb d_Face_count_128 (by decide) ?_
            exact W.iret (v := (-1)) hx hb hr (fun t ht hW => ⟨(-1), rfl, h, ht⟩) (fun q hq => by cases hq) d_Face_count_129
          · have h := h.2 hc
            refine lv_aload_n hx hb d_Face_count_117 rfl (lv_at hl 1 rfl) ?_
            refine va_get (D := D) (ci := 6) (v := .ref (ad 4 0)) (C := "CarrierPaths") (T := F_Face) (N := 7) hx hb hts in_Face hown hK hP 0 rfl rfl 3 (by decide) (hts _ kw175) (fun _ h9 => h9) rfl d_Face_count_118 ?_
            refine lv_iload_n hx hb d_Face_count_121 rfl (lv_at hl 0 rfl) ?_
            refine vp_callSi (W.runV (As := [.int r1]) (rest := []) ⟨hx, hb, hml, hown, hts⟩ (t_Fleet_boundFor l D cI cZ (ad 4) r1 (σ 4) _ h) (cwV 1 hts (g_of kw202 kw203 kw204 kw6 kw205) rfl rfl rfl (by decide +kernel) ⟨Nat.le_of_ble_eq_true rfl, Nat.le_of_ble_eq_true rfl⟩) (ro_pre hK (pt_Fleet hP) (va_recv hK (pt_Fleet hP) (ci := 1) (q0 := 0) rfl rfl)) rfl rfl hl.1 rfl (lv_room (Nat.le_of_ble_eq_true rfl)) d_Face_count_122 ⟨Nat.le_of_ble_eq_true rfl, Nat.le_of_ble_eq_true rfl⟩) (fun r10 h => ?_)
            refine lv_goto (tgt := 129) hx hb d_Face_count_125 (by decide) ?_
            exact W.iret (v := r10) hx hb hr (fun t ht hW => ⟨r10, rfl, h, ht⟩) (fun q hq => by cases hq) d_Face_count_129
        · have h := h.2 hc3
          by_cases hc4 : r2 = 4
          · have h := h.1 hc4
            refine lv_tableIn (tgt := 130) (off := 117) hx hb d_Face_count_13 (by rw [hc4]; decide) (by rw [hc4]; decide) (by rw [hc4]; decide) (by decide) ?_
            refine lv_aload_n hx hb d_Face_count_130 rfl (lv_at hl 1 rfl) ?_
            refine va_get (D := D) (ci := 6) (v := .ref (ad 1 0)) (C := "CarrierPaths") (T := F_Face) (N := 7) hx hb hts in_Face hown hK hP 0 rfl rfl 0 (by decide) (hts _ kw172) (fun _ h9 => h9) rfl d_Face_count_131 ?_
            refine lv_iload_n hx hb d_Face_count_134 rfl (lv_at hl 0 rfl) ?_
            refine vp_callSi (W.runV (As := [.int r1]) (rest := []) ⟨hx, hb, hml, hown, hts⟩ (t_Points_has l D cI cZ (ad 1) r1 (σ 1) _ h) (cwV 1 hts (g_of kw198 kw199 kw200 kw3 kw201) rfl rfl rfl (by decide +kernel) ⟨Nat.le_of_ble_eq_true rfl, Nat.le_of_ble_eq_true rfl⟩) (ro_pre hK (pt_Points hP) (va_recv hK (pt_Points hP) (ci := 3) (q0 := 0) rfl rfl)) rfl rfl hl.1 rfl (lv_room (Nat.le_of_ble_eq_true rfl)) d_Face_count_135 ⟨Nat.le_of_ble_eq_true rfl, Nat.le_of_ble_eq_true rfl⟩) (fun r11 h => ?_)
            refine lv_if_eq (tgt := 155) hx hb d_Face_count_138 (by decide) (fun hc => ?_) (fun hc => ?_)
            · have h := h.1 hc
              refine lv_iconst (v := (-1)) hx hb d_Face_count_155 (by decide) ?_
              exact W.iret (v := (-1)) hx hb hr (fun t ht hW => ⟨(-1), rfl, h, ht⟩) (fun q hq => by cases hq) d_Face_count_156
            · have h := h.2 hc
              refine lv_aload_n hx hb d_Face_count_141 rfl (lv_at hl 1 rfl) ?_
              refine va_get (D := D) (ci := 6) (v := .ref (ad 1 0)) (C := "CarrierPaths") (T := F_Face) (N := 7) hx hb hts in_Face hown hK hP 0 rfl rfl 0 (by decide) (hts _ kw172) (fun _ h9 => h9) rfl d_Face_count_142 ?_
              refine lv_iload_n hx hb d_Face_count_145 rfl (lv_at hl 0 rfl) ?_
              refine vp_callSi (W.runV (As := [.int r1]) (rest := []) ⟨hx, hb, hml, hown, hts⟩ (t_Points_hasCharger l D cI cZ (ad 1) r1 (σ 1) _ h) (cwV 1 hts (g_of kw214 kw215 kw216 kw3 kw217) rfl rfl rfl (by decide +kernel) ⟨Nat.le_of_ble_eq_true rfl, Nat.le_of_ble_eq_true rfl⟩) (ro_pre hK (pt_Points hP) (va_recv hK (pt_Points hP) (ci := 3) (q0 := 0) rfl rfl)) rfl rfl hl.1 rfl (lv_room (Nat.le_of_ble_eq_true rfl)) d_Face_count_146 ⟨Nat.le_of_ble_eq_true rfl, Nat.le_of_ble_eq_true rfl⟩) (fun r12 h => ?_)
              refine vp_callSi (W.runS (As := [.int r12]) (rest := []) ⟨hx, hb, hml, hown, hts⟩ (t_Face_asNumber l r12 _ h) (va_cwS 1 hts (gS_of kw403 kw404 kw1 kw405) rfl rfl rfl (by decide +kernel) ⟨Nat.le_of_ble_eq_true rfl, Nat.le_of_ble_eq_true rfl⟩) st_pre rfl rfl hl.1 rfl (lv_room (Nat.le_of_ble_eq_true rfl)) d_Face_count_149 ⟨Nat.le_of_ble_eq_true rfl, Nat.le_of_ble_eq_true rfl⟩) (fun r13 h => ?_)
              refine lv_goto (tgt := 156) hx hb d_Face_count_152 (by decide) ?_
              exact W.iret (v := r13) hx hb hr (fun t ht hW => ⟨r13, rfl, h, ht⟩) (fun q hq => by cases hq) d_Face_count_156
          · have h := h.2 hc4
            refine lv_tableOut (tgt := 157) hx hb d_Face_count_13 (by have e0 := lv_neT hc0 (a := 0) (by decide); have e1 := lv_neT hc1 (a := 1) (by decide); have e2 := lv_neT hc2 (a := 2) (by decide); have e3 := lv_neT hc3 (a := 3) (by decide); have e4 := lv_neT hc4 (a := 4) (by decide); omega) (by decide) ?_
            refine lv_iconst (v := (-1)) hx hb d_Face_count_157 (by decide) ?_
            exact W.iret (v := (-1)) hx hb hr (fun t ht hW => ⟨(-1), rfl, h, ht⟩) (fun q hq => by cases hq) d_Face_count_158
def q_Face_fillsRing_b0 (J : Nat → Int32 → Int32 → Int32 → Int32 → Prop) (Q : (Int32 → Prop)) (v1 v2 v3 v4 : Int32) (σ : SG) : Prop :=
  J 1 v1 v2 0 0
def q_Face_fillsRing_b1 (J : Nat → Int32 → Int32 → Int32 → Int32 → Prop) (Q : (Int32 → Prop)) (v1 v2 v3 v4 : Int32) (σ : SG) : Prop :=
  (q_Rings_size (σ 3) (fun r1 => ((r1 ≤ v3 → Q 0) ∧ (¬ r1 ≤ v3 → (q_Rings_bitsOf v3 (σ 3) (fun r2 => (q_Face_isIn r2 v2 (fun r3 => ((r3 = 0 → J 1 v1 v2 (v3 + 1) 0) ∧ (¬ r3 = 0 → (q_Face_isIn r2 v1 (fun r4 => ((r4 = 0 → (q_Face_freePlaces r2 σ (fun r5 => ((1 < r5 → J 1 v1 v2 (v3 + 1) 0) ∧ (¬ 1 < r5 → Q 1))))) ∧ (¬ r4 = 0 → J 1 v1 v2 (v3 + 1) 0))))))))))))))
def q_Face_fillsRing_j (Q : (Int32 → Prop)) (σ : SG) : Nat → Nat → Int32 → Int32 → Int32 → Int32 → Prop
  | 0, _, _, _, _, _ => False
  | n + 1, 0, v1, v2, v3, v4 => q_Face_fillsRing_b0 (q_Face_fillsRing_j Q σ n) Q v1 v2 v3 v4 σ
  | n + 1, 1, v1, v2, v3, v4 => q_Face_fillsRing_b1 (q_Face_fillsRing_j Q σ n) Q v1 v2 v3 v4 σ
  | _ + 1, _ + 2, _, _, _, _ => False
def q_Face_fillsRing (v1 v2 : Int32) (σ : SG) (Q : (Int32 → Prop)) : Prop := q_Face_fillsRing_j Q σ 4000 0 v1 v2 0 0
def lc_Face_fillsRing (ad : Nat → Nat → Nat) (b : Nat) (v1 v2 v3 v4 : Int32) : List (Nat × Value) := match b with
  | 0 => [(0, .ref (ad 0 0)), (1, .int v1), (2, .int v2)]
  | 1 => [(0, .ref (ad 0 0)), (1, .int v1), (2, .int v2), (3, .int v3)]
  | _ => []
def pc_Face_fillsRing (b : Nat) : Nat := match b with
  | 0 => 0
  | 1 => 2
  | _ => 0
set_option maxHeartbeats 4000000 in
set_option maxRecDepth 100000 in
theorem t_Face_fillsRing (l : Launch) (D : va_G) (cI cZ : ClassId) (ad : Nat → Nat → Nat) (v1 v2 : Int32) (σ : SG) (Q : (Int32 → Prop)) (h : q_Face_fillsRing v1 v2 σ Q) : Met l y_Face_fillsRing (.code y_Face_fillsRing prog_1_method_28_code 5 (some .boolean) :: TG) { frames := 2, cells := 0, slots := 0, locals := 46 } (va_Pc [.ref (ad 0 0), .int v1, .int v2] (roB D (tysA cI cZ) (W_Face ad cI cZ σ))) (vp_Si Q) 0 0 (fun _ => False) := by
  refine Met.ofW (cc := prog_1_method_28_code) (maxL := 5) (ret := (some .boolean)) (by decide) rfl ?_
  intro p e s m args below meth c s₁ B hml hv
  obtain ⟨rfl, hP, hK⟩ := hv
  have hx := B.exec
  have hb := B.bytes
  have hr := B.returns
  have hts : ∀ w ∈ TG, w.before [.ref (ad 0 0), .int v1, .int v2].toArray s = true := fun w hw => atoms_spec (ws := .code y_Face_fillsRing prog_1_method_28_code 5 (some .boolean) :: TG) B.pre w (List.mem_cons_of_mem _ hw)
  have hown : s.vm.findClass "CarrierPaths" = some m.cls := findClass_of_methodNamed B.named
  have hlocks := B.notSynchronized
  have hl := lv_entry ([.ref (ad 0 0), .int v1, .int v2]) (n := 5) (Nat.le_of_ble_eq_true rfl)
  rw [lg_entry_eq]
  generalize (lg_sl ([.ref (ad 0 0), .int v1, .int v2]) ++ List.replicate (5 - (lg_sl ([.ref (ad 0 0), .int v1, .int v2])).length) Slot.unset).toArray = ls at hl ⊢
  generalize ([.ref (ad 0 0), .int v1, .int v2] : List Value).toArray = args at hts ⊢
  have key : ∀ (n b : Nat) (v1 v2 v3 v4 : Int32), q_Face_fillsRing_j Q σ n b v1 v2 v3 v4 → ∀ ls : Array Slot, lv_has ls 5 (lc_Face_fillsRing ad b v1 v2 v3 v4) → W p l e (headSpec (.code y_Face_fillsRing prog_1_method_28_code 5 (some .boolean) :: TG) { frames := 2, cells := 0, slots := 0, locals := 46 }).room s m args below meth c s.heap [] 0 0 (MQ below (vp_Si Q) args s 0 0 (fun _ => False)) (F0 m (pc_Face_fillsRing b) ls []) := by
    clear h hl
    intro n
    induction n with
    | zero => intro b _ _ _ _ h; exact False.elim h
    | succ n ih =>
      intro b v1 v2 v3 v4 h ls hl
      match b, h, hl with
      | 0, h, hl =>
        have h : q_Face_fillsRing_b0 (q_Face_fillsRing_j Q σ n) Q v1 v2 v3 v4 σ := h
        have hl : lv_has ls 5 [(0, .ref (ad 0 0)), (1, .int v1), (2, .int v2)] := hl
        refine W.eq (g2 := F0 m 0 ls []) rfl ?_
        unfold q_Face_fillsRing_b0 at h
        refine lv_iconst (v := 0) hx hb d_Face_fillsRing_0 (by decide) ?_
        refine lv_istore_n (lv' := [(3, .int 0), (0, .ref (ad 0 0)), (1, .int v1), (2, .int v2)]) hx hb d_Face_fillsRing_1 rfl hl (by decide) rfl (fun ls hl => ?_)
        exact ih 1 v1 v2 0 0 h _ (lv_sub hl [1, 2, 3, 0] rfl)
      | 1, h, hl =>
        have h : q_Face_fillsRing_b1 (q_Face_fillsRing_j Q σ n) Q v1 v2 v3 v4 σ := h
        have hl : lv_has ls 5 [(0, .ref (ad 0 0)), (1, .int v1), (2, .int v2), (3, .int v3)] := hl
        refine W.eq (g2 := F0 m 2 ls []) rfl ?_
        unfold q_Face_fillsRing_b1 at h
        refine lv_iload_n hx hb d_Face_fillsRing_2 rfl (lv_at hl 3 rfl) ?_
        refine lv_aload_n hx hb d_Face_fillsRing_3 rfl (lv_at hl 0 rfl) ?_
        refine va_get (D := D) (ci := 6) (v := .ref (ad 3 0)) (C := "CarrierPaths") (T := F_Face) (N := 7) hx hb hts in_Face hown hK hP 0 rfl rfl 2 (by decide) (hts _ kw174) (fun _ h9 => h9) rfl d_Face_fillsRing_4 ?_
        refine vp_callSi (W.runV (As := []) (rest := [.int v3]) ⟨hx, hb, hml, hown, hts⟩ (t_Rings_size l D cI cZ (ad 3) (σ 3) _ h) (cwV 0 hts (g_of kw380 kw381 kw382 kw5 kw383) rfl rfl rfl (by decide +kernel) ⟨Nat.le_of_ble_eq_true rfl, Nat.le_of_ble_eq_true rfl⟩) (ro_pre hK (pt_Rings hP) (va_recv hK (pt_Rings hP) (ci := 4) (q0 := 0) rfl rfl)) rfl rfl hl.1 rfl (lv_room (Nat.le_of_ble_eq_true rfl)) d_Face_fillsRing_7 ⟨Nat.le_of_ble_eq_true rfl, Nat.le_of_ble_eq_true rfl⟩) (fun r1 h => ?_)
        refine lv_icmp_ge (tgt := 59) hx hb d_Face_fillsRing_10 (by decide) (fun hc => ?_) (fun hc => ?_)
        · have h := h.1 hc
          refine lv_iconst (v := 0) hx hb d_Face_fillsRing_59 (by decide) ?_
          exact W.zret (v := 0) hx hb hr (by decide) (fun t ht hW => ⟨0, rfl, h, ht⟩) (fun q hq => by cases hq) d_Face_fillsRing_60
        · have h := h.2 hc
          refine lv_aload_n hx hb d_Face_fillsRing_13 rfl (lv_at hl 0 rfl) ?_
          refine va_get (D := D) (ci := 6) (v := .ref (ad 3 0)) (C := "CarrierPaths") (T := F_Face) (N := 7) hx hb hts in_Face hown hK hP 0 rfl rfl 2 (by decide) (hts _ kw174) (fun _ h9 => h9) rfl d_Face_fillsRing_14 ?_
          refine lv_iload_n hx hb d_Face_fillsRing_17 rfl (lv_at hl 3 rfl) ?_
          refine vp_callSi (W.runV (As := [.int v3]) (rest := []) ⟨hx, hb, hml, hown, hts⟩ (t_Rings_bitsOf l D cI cZ (ad 3) v3 (σ 3) _ h) (cwV 1 hts (g_of kw388 kw389 kw390 kw5 kw391) rfl rfl rfl (by decide +kernel) ⟨Nat.le_of_ble_eq_true rfl, Nat.le_of_ble_eq_true rfl⟩) (ro_pre hK (pt_Rings hP) (va_recv hK (pt_Rings hP) (ci := 4) (q0 := 0) rfl rfl)) rfl rfl hl.1 rfl (lv_room (Nat.le_of_ble_eq_true rfl)) d_Face_fillsRing_18 ⟨Nat.le_of_ble_eq_true rfl, Nat.le_of_ble_eq_true rfl⟩) (fun r2 h => ?_)
          refine lv_istore (lv' := [(4, .int r2), (0, .ref (ad 0 0)), (1, .int v1), (2, .int v2), (3, .int v3)]) hx hb d_Face_fillsRing_21 hl (by decide) rfl (fun ls hl => ?_)
          refine lv_iload hx hb d_Face_fillsRing_23 (lv_at hl 0 rfl) ?_
          refine lv_iload_n hx hb d_Face_fillsRing_25 rfl (lv_at hl 3 rfl) ?_
          refine vp_callSi (W.runS (As := [.int r2, .int v2]) (rest := []) ⟨hx, hb, hml, hown, hts⟩ (t_Face_isIn l r2 v2 _ h) (va_cwS 2 hts (gS_of kw396 kw397 kw1 kw398) rfl rfl rfl (by decide +kernel) ⟨Nat.le_of_ble_eq_true rfl, Nat.le_of_ble_eq_true rfl⟩) st_pre rfl rfl hl.1 rfl (lv_room (Nat.le_of_ble_eq_true rfl)) d_Face_fillsRing_26 ⟨Nat.le_of_ble_eq_true rfl, Nat.le_of_ble_eq_true rfl⟩) (fun r3 h => ?_)
          refine lv_if_eq (tgt := 53) hx hb d_Face_fillsRing_29 (by decide) (fun hc => ?_) (fun hc => ?_)
          · have h := h.1 hc
            refine lv_iinc (v := (v3 + 1)) (lv' := [(3, .int (v3 + 1)), (4, .int r2), (0, .ref (ad 0 0)), (1, .int v1), (2, .int v2)]) hx hb d_Face_fillsRing_53 hl (k := 4) rfl rfl (by decide) rfl (fun ls hl => ?_)
            refine lv_goto (tgt := 2) hx hb d_Face_fillsRing_56 (by decide) ?_
            exact ih 1 v1 v2 (v3 + 1) 0 h _ (lv_sub hl [2, 3, 4, 0] rfl)
          · have h := h.2 hc
            refine lv_iload hx hb d_Face_fillsRing_32 (lv_at hl 0 rfl) ?_
            refine lv_iload_n hx hb d_Face_fillsRing_34 rfl (lv_at hl 2 rfl) ?_
            refine vp_callSi (W.runS (As := [.int r2, .int v1]) (rest := []) ⟨hx, hb, hml, hown, hts⟩ (t_Face_isIn l r2 v1 _ h) (va_cwS 2 hts (gS_of kw396 kw397 kw1 kw398) rfl rfl rfl (by decide +kernel) ⟨Nat.le_of_ble_eq_true rfl, Nat.le_of_ble_eq_true rfl⟩) st_pre rfl rfl hl.1 rfl (lv_room (Nat.le_of_ble_eq_true rfl)) d_Face_fillsRing_35 ⟨Nat.le_of_ble_eq_true rfl, Nat.le_of_ble_eq_true rfl⟩) (fun r4 h => ?_)
            refine lv_if_ne (tgt := 53) hx hb d_Face_fillsRing_38 (by decide) (fun hc => ?_) (fun hc => ?_)
            · have h := h.2 hc
              refine lv_iinc (v := (v3 + 1)) (lv' := [(3, .int (v3 + 1)), (4, .int r2), (0, .ref (ad 0 0)), (1, .int v1), (2, .int v2)]) hx hb d_Face_fillsRing_53 hl (k := 4) rfl rfl (by decide) rfl (fun ls hl => ?_)
              refine lv_goto (tgt := 2) hx hb d_Face_fillsRing_56 (by decide) ?_
              exact ih 1 v1 v2 (v3 + 1) 0 h _ (lv_sub hl [2, 3, 4, 0] rfl)
            · have h := h.1 hc
              refine lv_aload_n hx hb d_Face_fillsRing_41 rfl (lv_at hl 1 rfl) ?_
              refine lv_iload hx hb d_Face_fillsRing_42 (lv_at hl 0 rfl) ?_
              refine vp_callSi (W.runV (As := [.int r2]) (rest := []) ⟨hx, hb, hml, hown, hts⟩ (t_Face_freePlaces l D cI cZ ad r2 σ _ h) (cwV 1 hts (g_of kw392 kw394 kp14 kw1 kw395) rfl rfl rfl (by decide +kernel) ⟨Nat.le_of_ble_eq_true rfl, Nat.le_of_ble_eq_true rfl⟩) (ro_pre hK hP (va_recv hK hP (ci := 6) (q0 := 0) rfl rfl)) rfl rfl hl.1 rfl (lv_room (Nat.le_of_ble_eq_true rfl)) d_Face_fillsRing_44 ⟨Nat.le_of_ble_eq_true rfl, Nat.le_of_ble_eq_true rfl⟩) (fun r5 h => ?_)
              refine lv_iconst (v := 1) hx hb d_Face_fillsRing_47 (by decide) ?_
              refine lv_icmp_gt (tgt := 53) hx hb d_Face_fillsRing_48 (by decide) (fun hc => ?_) (fun hc => ?_)
              · have h := h.1 hc
                refine lv_iinc (v := (v3 + 1)) (lv' := [(3, .int (v3 + 1)), (4, .int r2), (0, .ref (ad 0 0)), (1, .int v1), (2, .int v2)]) hx hb d_Face_fillsRing_53 hl (k := 4) rfl rfl (by decide) rfl (fun ls hl => ?_)
                refine lv_goto (tgt := 2) hx hb d_Face_fillsRing_56 (by decide) ?_
                exact ih 1 v1 v2 (v3 + 1) 0 h _ (lv_sub hl [2, 3, 4, 0] rfl)
              · have h := h.2 hc
                refine lv_iconst (v := 1) hx hb d_Face_fillsRing_51 (by decide) ?_
                exact W.zret (v := 1) hx hb hr (by decide) (fun t ht hW => ⟨1, rfl, h, ht⟩) (fun q hq => by cases hq) d_Face_fillsRing_52
      | _ + 2, h, _ => exact False.elim h
  exact key 4000 0 v1 v2 0 0 h ls hl
def q_Face_timeToCharger_b0 (J : Nat → Int32 → Int32 → Int32 → Prop) (Q : (Int32 → Prop)) (v1 v2 v3 : Int32) (σ : SG) : Prop :=
  J 1 v1 1000000 0
def q_Face_timeToCharger_b1 (J : Nat → Int32 → Int32 → Int32 → Prop) (Q : (Int32 → Prop)) (v1 v2 v3 : Int32) (σ : SG) : Prop :=
  (q_Points_size (σ 1) (fun r1 => ((r1 ≤ v3 → Q v2) ∧ (¬ r1 ≤ v3 → (q_Points_hasCharger v3 (σ 1) (fun r2 => ((r2 = 0 → J 1 v1 v2 (v3 + 1)) ∧ (¬ r2 = 0 → (q_Roads_leastTime v1 v3 (σ 2) (fun r3 => J 1 v1 (if r3 < v2 then r3 else v2) (v3 + 1)))))))))))
def q_Face_timeToCharger_j (Q : (Int32 → Prop)) (σ : SG) : Nat → Nat → Int32 → Int32 → Int32 → Prop
  | 0, _, _, _, _ => False
  | n + 1, 0, v1, v2, v3 => q_Face_timeToCharger_b0 (q_Face_timeToCharger_j Q σ n) Q v1 v2 v3 σ
  | n + 1, 1, v1, v2, v3 => q_Face_timeToCharger_b1 (q_Face_timeToCharger_j Q σ n) Q v1 v2 v3 σ
  | _ + 1, _ + 2, _, _, _ => False
def q_Face_timeToCharger (v1 : Int32) (σ : SG) (Q : (Int32 → Prop)) : Prop := q_Face_timeToCharger_j Q σ 4000 0 v1 0 0
def lc_Face_timeToCharger (ad : Nat → Nat → Nat) (b : Nat) (v1 v2 v3 : Int32) : List (Nat × Value) := match b with
  | 0 => [(0, .ref (ad 0 0)), (1, .int v1)]
  | 1 => [(0, .ref (ad 0 0)), (1, .int v1), (2, .int v2), (3, .int v3)]
  | _ => []
def pc_Face_timeToCharger (b : Nat) : Nat := match b with
  | 0 => 0
  | 1 => 5
  | _ => 0
set_option maxHeartbeats 4000000 in
set_option maxRecDepth 100000 in
theorem t_Face_timeToCharger (l : Launch) (D : va_G) (cI cZ : ClassId) (ad : Nat → Nat → Nat) (v1 : Int32) (σ : SG) (Q : (Int32 → Prop)) (h : q_Face_timeToCharger v1 σ Q) : Met l y_Face_timeToCharger (.code y_Face_timeToCharger prog_1_method_29_code 4 (some .int) :: TG) { frames := 1, cells := 0, slots := 0, locals := 22 } (va_Pc [.ref (ad 0 0), .int v1] (roB D (tysA cI cZ) (W_Face ad cI cZ σ))) (vp_Si Q) 0 0 (fun _ => False) := by
  refine Met.ofW (cc := prog_1_method_29_code) (maxL := 4) (ret := (some .int)) (by decide) rfl ?_
  intro p e s m args below meth c s₁ B hml hv
  obtain ⟨rfl, hP, hK⟩ := hv
  have hx := B.exec
  have hb := B.bytes
  have hr := B.returns
  have hts : ∀ w ∈ TG, w.before [.ref (ad 0 0), .int v1].toArray s = true := fun w hw => atoms_spec (ws := .code y_Face_timeToCharger prog_1_method_29_code 4 (some .int) :: TG) B.pre w (List.mem_cons_of_mem _ hw)
  have hown : s.vm.findClass "CarrierPaths" = some m.cls := findClass_of_methodNamed B.named
  have hlocks := B.notSynchronized
  have hl := lv_entry ([.ref (ad 0 0), .int v1]) (n := 4) (Nat.le_of_ble_eq_true rfl)
  rw [lg_entry_eq]
  generalize (lg_sl ([.ref (ad 0 0), .int v1]) ++ List.replicate (4 - (lg_sl ([.ref (ad 0 0), .int v1])).length) Slot.unset).toArray = ls at hl ⊢
  generalize ([.ref (ad 0 0), .int v1] : List Value).toArray = args at hts ⊢
  have key : ∀ (n b : Nat) (v1 v2 v3 : Int32), q_Face_timeToCharger_j Q σ n b v1 v2 v3 → ∀ ls : Array Slot, lv_has ls 4 (lc_Face_timeToCharger ad b v1 v2 v3) → W p l e (headSpec (.code y_Face_timeToCharger prog_1_method_29_code 4 (some .int) :: TG) { frames := 1, cells := 0, slots := 0, locals := 22 }).room s m args below meth c s.heap [] 0 0 (MQ below (vp_Si Q) args s 0 0 (fun _ => False)) (F0 m (pc_Face_timeToCharger b) ls []) := by
    clear h hl
    intro n
    induction n with
    | zero => intro b _ _ _ h; exact False.elim h
    | succ n ih =>
      intro b v1 v2 v3 h ls hl
      match b, h, hl with
      | 0, h, hl =>
        have h : q_Face_timeToCharger_b0 (q_Face_timeToCharger_j Q σ n) Q v1 v2 v3 σ := h
        have hl : lv_has ls 4 [(0, .ref (ad 0 0)), (1, .int v1)] := hl
        refine W.eq (g2 := F0 m 0 ls []) rfl ?_
        unfold q_Face_timeToCharger_b0 at h
        refine lv_ldc (v := 1000000) hx hb hown (hts _ kw270) d_Face_timeToCharger_0 ?_
        refine lv_istore_n (lv' := [(2, .int 1000000), (0, .ref (ad 0 0)), (1, .int v1)]) hx hb d_Face_timeToCharger_2 rfl hl (by decide) rfl (fun ls hl => ?_)
        refine lv_iconst (v := 0) hx hb d_Face_timeToCharger_3 (by decide) ?_
        refine lv_istore_n (lv' := [(3, .int 0), (2, .int 1000000), (0, .ref (ad 0 0)), (1, .int v1)]) hx hb d_Face_timeToCharger_4 rfl hl (by decide) rfl (fun ls hl => ?_)
        exact ih 1 v1 1000000 0 h _ (lv_sub hl [2, 3, 1, 0] rfl)
      | 1, h, hl =>
        have h : q_Face_timeToCharger_b1 (q_Face_timeToCharger_j Q σ n) Q v1 v2 v3 σ := h
        have hl : lv_has ls 4 [(0, .ref (ad 0 0)), (1, .int v1), (2, .int v2), (3, .int v3)] := hl
        refine W.eq (g2 := F0 m 5 ls []) rfl ?_
        unfold q_Face_timeToCharger_b1 at h
        refine lv_iload_n hx hb d_Face_timeToCharger_5 rfl (lv_at hl 3 rfl) ?_
        refine lv_aload_n hx hb d_Face_timeToCharger_6 rfl (lv_at hl 0 rfl) ?_
        refine va_get (D := D) (ci := 6) (v := .ref (ad 1 0)) (C := "CarrierPaths") (T := F_Face) (N := 7) hx hb hts in_Face hown hK hP 0 rfl rfl 0 (by decide) (hts _ kw172) (fun _ h9 => h9) rfl d_Face_timeToCharger_7 ?_
        refine vp_callSi (W.runV (As := []) (rest := [.int v3]) ⟨hx, hb, hml, hown, hts⟩ (t_Points_size l D cI cZ (ad 1) (σ 1) _ h) (cwV 0 hts (g_of kw364 kw365 kw366 kw3 kw367) rfl rfl rfl (by decide +kernel) ⟨Nat.le_of_ble_eq_true rfl, Nat.le_of_ble_eq_true rfl⟩) (ro_pre hK (pt_Points hP) (va_recv hK (pt_Points hP) (ci := 3) (q0 := 0) rfl rfl)) rfl rfl hl.1 rfl (lv_room (Nat.le_of_ble_eq_true rfl)) d_Face_timeToCharger_10 ⟨Nat.le_of_ble_eq_true rfl, Nat.le_of_ble_eq_true rfl⟩) (fun r1 h => ?_)
        refine lv_icmp_ge (tgt := 47) hx hb d_Face_timeToCharger_13 (by decide) (fun hc => ?_) (fun hc => ?_)
        · have h := h.1 hc
          refine lv_iload_n hx hb d_Face_timeToCharger_47 rfl (lv_at hl 2 rfl) ?_
          exact W.iret (v := v2) hx hb hr (fun t ht hW => ⟨v2, rfl, h, ht⟩) (fun q hq => by cases hq) d_Face_timeToCharger_48
        · have h := h.2 hc
          refine lv_aload_n hx hb d_Face_timeToCharger_16 rfl (lv_at hl 0 rfl) ?_
          refine va_get (D := D) (ci := 6) (v := .ref (ad 1 0)) (C := "CarrierPaths") (T := F_Face) (N := 7) hx hb hts in_Face hown hK hP 0 rfl rfl 0 (by decide) (hts _ kw172) (fun _ h9 => h9) rfl d_Face_timeToCharger_17 ?_
          refine lv_iload_n hx hb d_Face_timeToCharger_20 rfl (lv_at hl 3 rfl) ?_
          refine vp_callSi (W.runV (As := [.int v3]) (rest := []) ⟨hx, hb, hml, hown, hts⟩ (t_Points_hasCharger l D cI cZ (ad 1) v3 (σ 1) _ h) (cwV 1 hts (g_of kw214 kw215 kw216 kw3 kw217) rfl rfl rfl (by decide +kernel) ⟨Nat.le_of_ble_eq_true rfl, Nat.le_of_ble_eq_true rfl⟩) (ro_pre hK (pt_Points hP) (va_recv hK (pt_Points hP) (ci := 3) (q0 := 0) rfl rfl)) rfl rfl hl.1 rfl (lv_room (Nat.le_of_ble_eq_true rfl)) d_Face_timeToCharger_21 ⟨Nat.le_of_ble_eq_true rfl, Nat.le_of_ble_eq_true rfl⟩) (fun r2 h => ?_)
          refine lv_if_eq (tgt := 41) hx hb d_Face_timeToCharger_24 (by decide) (fun hc => ?_) (fun hc => ?_)
          · have h := h.1 hc
            refine lv_iinc (v := (v3 + 1)) (lv' := [(3, .int (v3 + 1)), (0, .ref (ad 0 0)), (1, .int v1), (2, .int v2)]) hx hb d_Face_timeToCharger_41 hl (k := 3) rfl rfl (by decide) rfl (fun ls hl => ?_)
            refine lv_goto (tgt := 5) hx hb d_Face_timeToCharger_44 (by decide) ?_
            exact ih 1 v1 v2 (v3 + 1) h _ (lv_sub hl [1, 2, 3, 0] rfl)
          · have h := h.2 hc
            refine lv_iload_n hx hb d_Face_timeToCharger_27 rfl (lv_at hl 2 rfl) ?_
            refine lv_aload_n hx hb d_Face_timeToCharger_28 rfl (lv_at hl 0 rfl) ?_
            refine va_get (D := D) (ci := 6) (v := .ref (ad 2 0)) (C := "CarrierPaths") (T := F_Face) (N := 7) hx hb hts in_Face hown hK hP 0 rfl rfl 1 (by decide) (hts _ kw173) (fun _ h9 => h9) rfl d_Face_timeToCharger_29 ?_
            refine lv_iload_n hx hb d_Face_timeToCharger_32 rfl (lv_at hl 1 rfl) ?_
            refine lv_iload_n hx hb d_Face_timeToCharger_33 rfl (lv_at hl 3 rfl) ?_
            refine vp_callSi (W.runV (As := [.int v1, .int v3]) (rest := [.int v2]) ⟨hx, hb, hml, hown, hts⟩ (t_Roads_leastTime l D cI cZ (ad 2) v1 v3 (σ 2) _ h) (cwV 2 hts (g_of kw254 kw255 kw256 kw4 kw257) rfl rfl rfl (by decide +kernel) ⟨Nat.le_of_ble_eq_true rfl, Nat.le_of_ble_eq_true rfl⟩) (ro_pre hK (pt_Roads hP) (va_recv hK (pt_Roads hP) (ci := 5) (q0 := 0) rfl rfl)) rfl rfl hl.1 rfl (lv_room (Nat.le_of_ble_eq_true rfl)) d_Face_timeToCharger_34 ⟨Nat.le_of_ble_eq_true rfl, Nat.le_of_ble_eq_true rfl⟩) (fun r3 h => ?_)
            refine va_mmin hx hb (hml.trans hl.1.symm) hown (hts _ kw24) (hts _ kw25) (hts _ kw2) (hts _ kw26) (Nat.le_of_ble_eq_true rfl) (Nat.le_of_ble_eq_true rfl) (Nat.zero_le _) (Nat.zero_le _) d_Face_timeToCharger_37 ?_
            refine lv_istore_n (lv' := [(2, .int (if r3 < v2 then r3 else v2)), (0, .ref (ad 0 0)), (1, .int v1), (3, .int v3)]) hx hb d_Face_timeToCharger_40 rfl hl (by decide) rfl (fun ls hl => ?_)
            refine lv_iinc (v := (v3 + 1)) (lv' := [(3, .int (v3 + 1)), (2, .int (if r3 < v2 then r3 else v2)), (0, .ref (ad 0 0)), (1, .int v1)]) hx hb d_Face_timeToCharger_41 hl (k := 3) rfl rfl (by decide) rfl (fun ls hl => ?_)
            refine lv_goto (tgt := 5) hx hb d_Face_timeToCharger_44 (by decide) ?_
            exact ih 1 v1 (if r3 < v2 then r3 else v2) (v3 + 1) h _ (lv_sub hl [2, 3, 1, 0] rfl)
      | _ + 2, h, _ => exact False.elim h
  exact key 4000 0 v1 0 0 h ls hl
def q_Face_goOn_b0 (J : Nat → Int32 → Int32 → Int32 → Int32 → Int32 → SG → Prop) (Q : (Int32 → SG → Prop)) (v1 v2 v3 v4 v5 : Int32) (σ : SG) : Prop :=
  (q_Fleet_pointOf v1 (σ 4) (fun r1 => (q_Jobs_goalOf v2 (σ 5) (fun r2 => (q_Roads_firstPiece r1 r2 (σ 2) (fun r3 => ((r3 = (-1) → Q 5 σ) ∧ (¬ r3 = (-1) → (q_Roads_endOf r3 (σ 2) (fun r4 => (q_Fleet_isTaken r3 (σ 4) (fun r5 => ((r5 = 0 → (q_Face_isFull r4 σ (fun r6 => ((r6 = 0 → (q_Roads_beginningOf r3 (σ 2) (fun r7 => (q_Face_fillsRing r7 r4 σ (fun r8 => ((r8 = 0 → (q_Roads_timeOf r3 (σ 2) (fun r9 => (q_Fleet_chargeOf v1 (σ 4) (fun r10 => (q_Face_timeToCharger r4 σ (fun r11 => (((r9 + r11) ≤ r10 → (q_Fleet_enter v1 r3 r4 r9 (σ 0 0 6) (σ 4) (fun u12 => (q_Jobs_isLoaded v2 ((setc σ 4 u12) 5) (fun r13 => ((r13 = 0 → J 1 v1 v2 r3 r4 r9 (setc σ 4 u12)) ∧ (¬ r13 = 0 → J 2 v1 v2 r3 r4 r9 (setc σ 4 u12)))))))) ∧ (¬ (r9 + r11) ≤ r10 → Q 9 σ))))))))) ∧ (¬ r8 = 0 → Q 8 σ))))))) ∧ (¬ r6 = 0 → Q 7 σ))))) ∧ (¬ r5 = 0 → Q 6 σ))))))))))))))
def q_Face_goOn_b1 (J : Nat → Int32 → Int32 → Int32 → Int32 → Int32 → SG → Prop) (Q : (Int32 → SG → Prop)) (v1 v2 v3 v4 v5 : Int32) (σ : SG) : Prop :=
  (q_Fleet_addEmptyTime v1 v5 (σ 4) (fun u14 => J 2 v1 v2 v3 v4 v5 (setc σ 4 u14)))
def q_Face_goOn_b2 (J : Nat → Int32 → Int32 → Int32 → Int32 → Int32 → SG → Prop) (Q : (Int32 → SG → Prop)) (v1 v2 v3 v4 v5 : Int32) (σ : SG) : Prop :=
  Q 10 σ
def q_Face_goOn_j (Q : (Int32 → SG → Prop)) : Nat → Nat → Int32 → Int32 → Int32 → Int32 → Int32 → SG → Prop
  | 0, _, _, _, _, _, _, _ => False
  | n + 1, 0, v1, v2, v3, v4, v5, σ => q_Face_goOn_b0 (q_Face_goOn_j Q n) Q v1 v2 v3 v4 v5 σ
  | n + 1, 1, v1, v2, v3, v4, v5, σ => q_Face_goOn_b1 (q_Face_goOn_j Q n) Q v1 v2 v3 v4 v5 σ
  | n + 1, 2, v1, v2, v3, v4, v5, σ => q_Face_goOn_b2 (q_Face_goOn_j Q n) Q v1 v2 v3 v4 v5 σ
  | _ + 1, _ + 3, _, _, _, _, _, _ => False
def q_Face_goOn (v1 v2 : Int32) (σ : SG) (Q : (Int32 → SG → Prop)) : Prop := q_Face_goOn_j Q 4000 0 v1 v2 0 0 0 σ
def lc_Face_goOn (ad : Nat → Nat → Nat) (b : Nat) (v1 v2 v3 v4 v5 : Int32) : List (Nat × Value) := match b with
  | 0 => [(0, .ref (ad 0 0)), (1, .int v1), (2, .int v2)]
  | 1 => [(0, .ref (ad 0 0)), (1, .int v1), (2, .int v2), (3, .int v3), (4, .int v4), (5, .int v5)]
  | 2 => [(0, .ref (ad 0 0)), (1, .int v1), (2, .int v2), (3, .int v3), (4, .int v4), (5, .int v5)]
  | _ => []
def pc_Face_goOn (b : Nat) : Nat := match b with
  | 0 => 0
  | 1 => 148
  | 2 => 158
  | _ => 0
set_option maxHeartbeats 4000000 in
set_option maxRecDepth 100000 in
theorem t_Face_goOn (l : Launch) (D : va_G) (cI cZ : ClassId) (ad : Nat → Nat → Nat) (inj : Inj (fA ad) 29) (v1 v2 : Int32) (σ : SG) (Q : (Int32 → SG → Prop)) (h : q_Face_goOn v1 v2 σ Q) : Met l y_Face_goOn (.code y_Face_goOn prog_1_method_24_code 6 (some .int) :: TG) { frames := 3, cells := 0, slots := 0, locals := 70 } (va_Pc [.ref (ad 0 0), .int v1, .int v2] (roB D (tysA cI cZ) (W_Face ad cI cZ σ))) (va_Qi Q (fun u t => va_P D classes (W_Face ad cI cZ u) t.heap) (inA (fA ad) 29)) 0 0 (inA (fA ad) 29) := by
  refine Met.ofW (cc := prog_1_method_24_code) (maxL := 6) (ret := (some .int)) (by decide) rfl ?_
  intro p e s m args below meth c s₁ B hml hv
  obtain ⟨rfl, hP, hK⟩ := hv
  have hx := B.exec
  have hb := B.bytes
  have hr := B.returns
  have hts : ∀ w ∈ TG, w.before [.ref (ad 0 0), .int v1, .int v2].toArray s = true := fun w hw => atoms_spec (ws := .code y_Face_goOn prog_1_method_24_code 6 (some .int) :: TG) B.pre w (List.mem_cons_of_mem _ hw)
  have hown : s.vm.findClass "CarrierPaths" = some m.cls := findClass_of_methodNamed B.named
  have hlocks := B.notSynchronized
  have hS : va_S (inA (fA ad) 29) s.heap s.heap [] := va_S.rf
  have hl := lv_entry ([.ref (ad 0 0), .int v1, .int v2]) (n := 6) (Nat.le_of_ble_eq_true rfl)
  rw [lg_entry_eq]
  generalize (lg_sl ([.ref (ad 0 0), .int v1, .int v2]) ++ List.replicate (6 - (lg_sl ([.ref (ad 0 0), .int v1, .int v2])).length) Slot.unset).toArray = ls at hl ⊢
  generalize ([.ref (ad 0 0), .int v1, .int v2] : List Value).toArray = args at hts ⊢
  have key : ∀ (n b : Nat) (v1 v2 v3 v4 v5 : Int32) (σ : SG), q_Face_goOn_j Q n b v1 v2 v3 v4 v5 σ → ∀ (H : Heap) (locs : List Loc) (ls : Array Slot), va_P D classes (W_Face ad cI cZ σ) H → va_S (inA (fA ad) 29) s.heap H locs → lv_has ls 6 (lc_Face_goOn ad b v1 v2 v3 v4 v5) → W p l e (headSpec (.code y_Face_goOn prog_1_method_24_code 6 (some .int) :: TG) { frames := 3, cells := 0, slots := 0, locals := 70 }).room s m args below meth c H locs 0 0 (MQ below (va_Qi Q (fun u t => va_P D classes (W_Face ad cI cZ u) t.heap) (inA (fA ad) 29)) args s 0 0 (inA (fA ad) 29)) (F0 m (pc_Face_goOn b) ls []) := by
    clear h hl hP hS
    intro n
    induction n with
    | zero => intro b _ _ _ _ _ _ h; exact False.elim h
    | succ n ih =>
      intro b v1 v2 v3 v4 v5 σ h H locs ls hP hS hl
      match b, h, hl with
      | 0, h, hl =>
        have h : q_Face_goOn_b0 (q_Face_goOn_j Q n) Q v1 v2 v3 v4 v5 σ := h
        have hl : lv_has ls 6 [(0, .ref (ad 0 0)), (1, .int v1), (2, .int v2)] := hl
        refine W.eq (g2 := F0 m 0 ls []) rfl ?_
        unfold q_Face_goOn_b0 at h
        refine lv_aload_n hx hb d_Face_goOn_0 rfl (lv_at hl 0 rfl) ?_
        refine va_get (D := D) (ci := 6) (v := .ref (ad 2 0)) (C := "CarrierPaths") (T := F_Face) (N := 7) hx hb hts in_Face hown hK hP 0 rfl rfl 1 (by decide) (hts _ kw173) (fun _ h9 => h9) rfl d_Face_goOn_1 ?_
        refine lv_aload_n hx hb d_Face_goOn_4 rfl (lv_at hl 0 rfl) ?_
        refine va_get (D := D) (ci := 6) (v := .ref (ad 4 0)) (C := "CarrierPaths") (T := F_Face) (N := 7) hx hb hts in_Face hown hK hP 0 rfl rfl 3 (by decide) (hts _ kw175) (fun _ h9 => h9) rfl d_Face_goOn_5 ?_
        refine lv_iload_n hx hb d_Face_goOn_8 rfl (lv_at hl 1 rfl) ?_
        refine vp_callSi (W.runV (As := [.int v1]) (rest := [.ref (ad 2 0)]) ⟨hx, hb, hml, hown, hts⟩ (t_Fleet_pointOf l D cI cZ (ad 4) v1 (σ 4) _ h) (cwV 1 hts (g_of kw246 kw247 kw248 kw6 kw249) rfl rfl rfl (by decide +kernel) ⟨Nat.le_of_ble_eq_true rfl, Nat.le_of_ble_eq_true rfl⟩) (ro_pre hK (pt_Fleet hP) (va_recv hK (pt_Fleet hP) (ci := 1) (q0 := 0) rfl rfl)) rfl rfl hl.1 rfl (lv_room (Nat.le_of_ble_eq_true rfl)) d_Face_goOn_9 ⟨Nat.le_of_ble_eq_true rfl, Nat.le_of_ble_eq_true rfl⟩) (fun r1 h => ?_)
        refine lv_aload_n hx hb d_Face_goOn_12 rfl (lv_at hl 0 rfl) ?_
        refine va_get (D := D) (ci := 6) (v := .ref (ad 5 0)) (C := "CarrierPaths") (T := F_Face) (N := 7) hx hb hts in_Face hown hK hP 0 rfl rfl 4 (by decide) (hts _ kw176) (fun _ h9 => h9) rfl d_Face_goOn_13 ?_
        refine lv_iload_n hx hb d_Face_goOn_16 rfl (lv_at hl 2 rfl) ?_
        refine vp_callSi (W.runV (As := [.int v2]) (rest := [.int r1, .ref (ad 2 0)]) ⟨hx, hb, hml, hown, hts⟩ (t_Jobs_goalOf l D cI cZ (ad 5) v2 (σ 5) _ h) (cwV 1 hts (g_of kw592 kw593 kw594 kw7 kw595) rfl rfl rfl (by decide +kernel) ⟨Nat.le_of_ble_eq_true rfl, Nat.le_of_ble_eq_true rfl⟩) (ro_pre hK (pt_Jobs hP) (va_recv hK (pt_Jobs hP) (ci := 2) (q0 := 0) rfl rfl)) rfl rfl hl.1 rfl (lv_room (Nat.le_of_ble_eq_true rfl)) d_Face_goOn_17 ⟨Nat.le_of_ble_eq_true rfl, Nat.le_of_ble_eq_true rfl⟩) (fun r2 h => ?_)
        refine vp_callSi (W.runV (As := [.int r1, .int r2]) (rest := []) ⟨hx, hb, hml, hown, hts⟩ (t_Roads_firstPiece l D cI cZ (ad 2) r1 r2 (σ 2) _ h) (cwV 2 hts (g_of kw604 kw605 kw606 kw4 kw607) rfl rfl rfl (by decide +kernel) ⟨Nat.le_of_ble_eq_true rfl, Nat.le_of_ble_eq_true rfl⟩) (ro_pre hK (pt_Roads hP) (va_recv hK (pt_Roads hP) (ci := 5) (q0 := 0) rfl rfl)) rfl rfl hl.1 rfl (lv_room (Nat.le_of_ble_eq_true rfl)) d_Face_goOn_20 ⟨Nat.le_of_ble_eq_true rfl, Nat.le_of_ble_eq_true rfl⟩) (fun r3 h => ?_)
        refine lv_istore_n (lv' := [(3, .int r3), (0, .ref (ad 0 0)), (1, .int v1), (2, .int v2)]) hx hb d_Face_goOn_23 rfl hl (by decide) rfl (fun ls hl => ?_)
        refine lv_iload_n hx hb d_Face_goOn_24 rfl (lv_at hl 0 rfl) ?_
        refine lv_iconst (v := (-1)) hx hb d_Face_goOn_25 (by decide) ?_
        refine lv_icmp_ne (tgt := 31) hx hb d_Face_goOn_26 (by decide) (fun hc => ?_) (fun hc => ?_)
        · have h := h.2 hc
          refine lv_aload_n hx hb d_Face_goOn_31 rfl (lv_at hl 1 rfl) ?_
          refine va_get (D := D) (ci := 6) (v := .ref (ad 2 0)) (C := "CarrierPaths") (T := F_Face) (N := 7) hx hb hts in_Face hown hK hP 0 rfl rfl 1 (by decide) (hts _ kw173) (fun _ h9 => h9) rfl d_Face_goOn_32 ?_
          refine lv_iload_n hx hb d_Face_goOn_35 rfl (lv_at hl 0 rfl) ?_
          refine vp_callSi (W.runV (As := [.int r3]) (rest := []) ⟨hx, hb, hml, hown, hts⟩ (t_Roads_endOf l D cI cZ (ad 2) r3 (σ 2) _ h) (cwV 1 hts (g_of kw608 kw609 kw610 kw4 kw611) rfl rfl rfl (by decide +kernel) ⟨Nat.le_of_ble_eq_true rfl, Nat.le_of_ble_eq_true rfl⟩) (ro_pre hK (pt_Roads hP) (va_recv hK (pt_Roads hP) (ci := 5) (q0 := 0) rfl rfl)) rfl rfl hl.1 rfl (lv_room (Nat.le_of_ble_eq_true rfl)) d_Face_goOn_36 ⟨Nat.le_of_ble_eq_true rfl, Nat.le_of_ble_eq_true rfl⟩) (fun r4 h => ?_)
          refine lv_istore (lv' := [(4, .int r4), (3, .int r3), (0, .ref (ad 0 0)), (1, .int v1), (2, .int v2)]) hx hb d_Face_goOn_39 hl (by decide) rfl (fun ls hl => ?_)
          refine lv_aload_n hx hb d_Face_goOn_41 rfl (lv_at hl 2 rfl) ?_
          refine va_get (D := D) (ci := 6) (v := .ref (ad 4 0)) (C := "CarrierPaths") (T := F_Face) (N := 7) hx hb hts in_Face hown hK hP 0 rfl rfl 3 (by decide) (hts _ kw175) (fun _ h9 => h9) rfl d_Face_goOn_42 ?_
          refine lv_iload_n hx hb d_Face_goOn_45 rfl (lv_at hl 1 rfl) ?_
          refine vp_callSi (W.runV (As := [.int r3]) (rest := []) ⟨hx, hb, hml, hown, hts⟩ (t_Fleet_isTaken l D cI cZ (ad 4) r3 (σ 4) _ h) (cwV 1 hts (g_of kw612 kw613 kw614 kw6 kw615) rfl rfl rfl (by decide +kernel) ⟨Nat.le_of_ble_eq_true rfl, Nat.le_of_ble_eq_true rfl⟩) (ro_pre hK (pt_Fleet hP) (va_recv hK (pt_Fleet hP) (ci := 1) (q0 := 0) rfl rfl)) rfl rfl hl.1 rfl (lv_room (Nat.le_of_ble_eq_true rfl)) d_Face_goOn_46 ⟨Nat.le_of_ble_eq_true rfl, Nat.le_of_ble_eq_true rfl⟩) (fun r5 h => ?_)
          refine lv_if_eq (tgt := 55) hx hb d_Face_goOn_49 (by decide) (fun hc => ?_) (fun hc => ?_)
          · have h := h.1 hc
            refine lv_aload_n hx hb d_Face_goOn_55 rfl (lv_at hl 2 rfl) ?_
            refine lv_iload hx hb d_Face_goOn_56 (lv_at hl 0 rfl) ?_
            refine vp_callSi (W.runV (As := [.int r4]) (rest := []) ⟨hx, hb, hml, hown, hts⟩ (t_Face_isFull l D cI cZ ad r4 σ _ h) (cwV 1 hts (g_of kw539 kw541 kp16 kw1 kw542) rfl rfl rfl (by decide +kernel) ⟨Nat.le_of_ble_eq_true rfl, Nat.le_of_ble_eq_true rfl⟩) (ro_pre hK hP (va_recv hK hP (ci := 6) (q0 := 0) rfl rfl)) rfl rfl hl.1 rfl (lv_room (Nat.le_of_ble_eq_true rfl)) d_Face_goOn_58 ⟨Nat.le_of_ble_eq_true rfl, Nat.le_of_ble_eq_true rfl⟩) (fun r6 h => ?_)
            refine lv_if_eq (tgt := 67) hx hb d_Face_goOn_61 (by decide) (fun hc => ?_) (fun hc => ?_)
            · have h := h.1 hc
              refine lv_aload_n hx hb d_Face_goOn_67 rfl (lv_at hl 2 rfl) ?_
              refine lv_aload_n hx hb d_Face_goOn_68 rfl (lv_at hl 2 rfl) ?_
              refine va_get (D := D) (ci := 6) (v := .ref (ad 2 0)) (C := "CarrierPaths") (T := F_Face) (N := 7) hx hb hts in_Face hown hK hP 0 rfl rfl 1 (by decide) (hts _ kw173) (fun _ h9 => h9) rfl d_Face_goOn_69 ?_
              refine lv_iload_n hx hb d_Face_goOn_72 rfl (lv_at hl 1 rfl) ?_
              refine vp_callSi (W.runV (As := [.int r3]) (rest := [.ref (ad 0 0)]) ⟨hx, hb, hml, hown, hts⟩ (t_Roads_beginningOf l D cI cZ (ad 2) r3 (σ 2) _ h) (cwV 1 hts (g_of kw616 kw617 kw618 kw4 kw619) rfl rfl rfl (by decide +kernel) ⟨Nat.le_of_ble_eq_true rfl, Nat.le_of_ble_eq_true rfl⟩) (ro_pre hK (pt_Roads hP) (va_recv hK (pt_Roads hP) (ci := 5) (q0 := 0) rfl rfl)) rfl rfl hl.1 rfl (lv_room (Nat.le_of_ble_eq_true rfl)) d_Face_goOn_73 ⟨Nat.le_of_ble_eq_true rfl, Nat.le_of_ble_eq_true rfl⟩) (fun r7 h => ?_)
              refine lv_iload hx hb d_Face_goOn_76 (lv_at hl 0 rfl) ?_
              refine vp_callSi (W.runV (As := [.int r7, .int r4]) (rest := []) ⟨hx, hb, hml, hown, hts⟩ (t_Face_fillsRing l D cI cZ ad r7 r4 σ _ h) (cwV 2 hts (g_of kw620 kw622 kp18 kw1 kw623) rfl rfl rfl (by decide +kernel) ⟨Nat.le_of_ble_eq_true rfl, Nat.le_of_ble_eq_true rfl⟩) (ro_pre hK hP (va_recv hK hP (ci := 6) (q0 := 0) rfl rfl)) rfl rfl hl.1 rfl (lv_room (Nat.le_of_ble_eq_true rfl)) d_Face_goOn_78 ⟨Nat.le_of_ble_eq_true rfl, Nat.le_of_ble_eq_true rfl⟩) (fun r8 h => ?_)
              refine lv_if_eq (tgt := 87) hx hb d_Face_goOn_81 (by decide) (fun hc => ?_) (fun hc => ?_)
              · have h := h.1 hc
                refine lv_aload_n hx hb d_Face_goOn_87 rfl (lv_at hl 2 rfl) ?_
                refine va_get (D := D) (ci := 6) (v := .ref (ad 2 0)) (C := "CarrierPaths") (T := F_Face) (N := 7) hx hb hts in_Face hown hK hP 0 rfl rfl 1 (by decide) (hts _ kw173) (fun _ h9 => h9) rfl d_Face_goOn_88 ?_
                refine lv_iload_n hx hb d_Face_goOn_91 rfl (lv_at hl 1 rfl) ?_
                refine vp_callSi (W.runV (As := [.int r3]) (rest := []) ⟨hx, hb, hml, hown, hts⟩ (t_Roads_timeOf l D cI cZ (ad 2) r3 (σ 2) _ h) (cwV 1 hts (g_of kw624 kw625 kw626 kw4 kw627) rfl rfl rfl (by decide +kernel) ⟨Nat.le_of_ble_eq_true rfl, Nat.le_of_ble_eq_true rfl⟩) (ro_pre hK (pt_Roads hP) (va_recv hK (pt_Roads hP) (ci := 5) (q0 := 0) rfl rfl)) rfl rfl hl.1 rfl (lv_room (Nat.le_of_ble_eq_true rfl)) d_Face_goOn_92 ⟨Nat.le_of_ble_eq_true rfl, Nat.le_of_ble_eq_true rfl⟩) (fun r9 h => ?_)
                refine lv_istore (lv' := [(5, .int r9), (4, .int r4), (3, .int r3), (0, .ref (ad 0 0)), (1, .int v1), (2, .int v2)]) hx hb d_Face_goOn_95 hl (by decide) rfl (fun ls hl => ?_)
                refine lv_aload_n hx hb d_Face_goOn_97 rfl (lv_at hl 3 rfl) ?_
                refine va_get (D := D) (ci := 6) (v := .ref (ad 4 0)) (C := "CarrierPaths") (T := F_Face) (N := 7) hx hb hts in_Face hown hK hP 0 rfl rfl 3 (by decide) (hts _ kw175) (fun _ h9 => h9) rfl d_Face_goOn_98 ?_
                refine lv_iload_n hx hb d_Face_goOn_101 rfl (lv_at hl 4 rfl) ?_
                refine vp_callSi (W.runV (As := [.int v1]) (rest := []) ⟨hx, hb, hml, hown, hts⟩ (t_Fleet_chargeOf l D cI cZ (ad 4) v1 (σ 4) _ h) (cwV 1 hts (g_of kw628 kw629 kw630 kw6 kw631) rfl rfl rfl (by decide +kernel) ⟨Nat.le_of_ble_eq_true rfl, Nat.le_of_ble_eq_true rfl⟩) (ro_pre hK (pt_Fleet hP) (va_recv hK (pt_Fleet hP) (ci := 1) (q0 := 0) rfl rfl)) rfl rfl hl.1 rfl (lv_room (Nat.le_of_ble_eq_true rfl)) d_Face_goOn_102 ⟨Nat.le_of_ble_eq_true rfl, Nat.le_of_ble_eq_true rfl⟩) (fun r10 h => ?_)
                refine lv_iload hx hb d_Face_goOn_105 (lv_at hl 0 rfl) ?_
                refine lv_aload_n hx hb d_Face_goOn_107 rfl (lv_at hl 3 rfl) ?_
                refine lv_iload hx hb d_Face_goOn_108 (lv_at hl 1 rfl) ?_
                refine vp_callSi (W.runV (As := [.int r4]) (rest := [.int r9, .int r10]) ⟨hx, hb, hml, hown, hts⟩ (t_Face_timeToCharger l D cI cZ ad r4 σ _ h) (cwV 1 hts (g_of kw632 kw634 kp19 kw1 kw635) rfl rfl rfl (by decide +kernel) ⟨Nat.le_of_ble_eq_true rfl, Nat.le_of_ble_eq_true rfl⟩) (ro_pre hK hP (va_recv hK hP (ci := 6) (q0 := 0) rfl rfl)) rfl rfl hl.1 rfl (lv_room (Nat.le_of_ble_eq_true rfl)) d_Face_goOn_110 ⟨Nat.le_of_ble_eq_true rfl, Nat.le_of_ble_eq_true rfl⟩) (fun r11 h => ?_)
                refine lv_iadd hx hb d_Face_goOn_113 ?_
                refine lv_icmp_ge (tgt := 120) hx hb d_Face_goOn_114 (by decide) (fun hc => ?_) (fun hc => ?_)
                · have h := h.1 hc
                  refine lv_aload_n hx hb d_Face_goOn_120 rfl (lv_at hl 3 rfl) ?_
                  refine va_get (D := D) (ci := 6) (v := .ref (ad 4 0)) (C := "CarrierPaths") (T := F_Face) (N := 7) hx hb hts in_Face hown hK hP 0 rfl rfl 3 (by decide) (hts _ kw175) (fun _ h9 => h9) rfl d_Face_goOn_121 ?_
                  refine lv_iload_n hx hb d_Face_goOn_124 rfl (lv_at hl 4 rfl) ?_
                  refine lv_iload_n hx hb d_Face_goOn_125 rfl (lv_at hl 2 rfl) ?_
                  refine lv_iload hx hb d_Face_goOn_126 (lv_at hl 1 rfl) ?_
                  refine lv_iload hx hb d_Face_goOn_128 (lv_at hl 0 rfl) ?_
                  refine lv_aload_n hx hb d_Face_goOn_130 rfl (lv_at hl 3 rfl) ?_
                  refine va_get (D := D) (ci := 6) (v := .int (σ 0 0 6)) (C := "CarrierPaths") (T := F_Face) (N := 7) hx hb hts in_Face hown hK hP 0 rfl rfl 6 (by decide) (hts _ kw178) (fun _ h9 => h9) rfl d_Face_goOn_131 ?_
                  refine va_callv (va_runV (As := [.int v1, .int r3, .int r4, .int r9, .int (σ 0 0 6)]) (rest := []) ⟨hx, hb, hml, hown, hts⟩ (t_Fleet_enter l D cI cZ (ad 4) (inj_Fleet inj) v1 r3 r4 r9 (σ 0 0 6) (σ 4) _ h) (cwV 5 hts (g_of kw636 kw637 kw638 kw6 kw639) rfl rfl rfl (by decide +kernel) ⟨Nat.le_of_ble_eq_true rfl, Nat.le_of_ble_eq_true rfl⟩) (ro_pre hK (pt_Fleet hP) (va_recv hK (pt_Fleet hP) (ci := 1) (q0 := 0) rfl rfl)) rfl rfl hl.1 rfl (lv_room (Nat.le_of_ble_eq_true rfl)) d_Face_goOn_134 ⟨Nat.le_of_ble_eq_true rfl, Nat.le_of_ble_eq_true rfl⟩) hS (fun _ _ h => sub_Fleet h) (fun _ h => sub_Fleet h) (fun u12 t H1 locs ht _ h hP1 _ hk1 hS => ?_)
                  have hP1 : va_P D classes (W_Fleet (ad 4) cI cZ u12) H1 := hp_fwd ht hP1
                  have hP := join_Fleet inj hP hP1 hk1
                  generalize H1 = H at hP hS ⊢
                  refine lv_aload_n hx hb d_Face_goOn_137 rfl (lv_at hl 3 rfl) ?_
                  refine va_get (D := D) (ci := 6) (v := .ref (ad 5 0)) (C := "CarrierPaths") (T := F_Face) (N := 7) hx hb hts in_Face hown hK hP 0 rfl rfl 4 (by decide) (hts _ kw176) (fun _ h9 => h9) rfl d_Face_goOn_138 ?_
                  refine lv_iload_n hx hb d_Face_goOn_141 rfl (lv_at hl 5 rfl) ?_
                  refine vp_callSi (W.runV (As := [.int v2]) (rest := []) ⟨hx, hb, hml, hown, hts⟩ (t_Jobs_isLoaded l D cI cZ (ad 5) v2 ((setc σ 4 u12) 5) _ h) (cwV 1 hts (g_of kw640 kw597 kw598 kw7 kw599) rfl rfl rfl (by decide +kernel) ⟨Nat.le_of_ble_eq_true rfl, Nat.le_of_ble_eq_true rfl⟩) (ro_pre hK (pt_Jobs hP) (va_recv hK (pt_Jobs hP) (ci := 2) (q0 := 0) rfl rfl)) rfl rfl hl.1 rfl (lv_room (Nat.le_of_ble_eq_true rfl)) d_Face_goOn_142 ⟨Nat.le_of_ble_eq_true rfl, Nat.le_of_ble_eq_true rfl⟩) (fun r13 h => ?_)
                  refine lv_if_ne (tgt := 158) hx hb d_Face_goOn_145 (by decide) (fun hc => ?_) (fun hc => ?_)
                  · have h := h.2 hc
                    exact ih 2 v1 v2 r3 r4 r9 (setc σ 4 u12) h _ _ _ hP hS (lv_sub hl [3, 4, 5, 2, 1, 0] rfl)
                  · have h := h.1 hc
                    exact ih 1 v1 v2 r3 r4 r9 (setc σ 4 u12) h _ _ _ hP hS (lv_sub hl [3, 4, 5, 2, 1, 0] rfl)
                · have h := h.2 hc
                  refine lv_bipush (v := 9) hx hb d_Face_goOn_117 (by decide) ?_
                  exact W.iret (v := 9) hx hb hr (fun t ht hW => ⟨⟨9, σ, rfl, h, hp_back ht hP⟩, hS.F ht⟩) hS.2.2 d_Face_goOn_119
              · have h := h.2 hc
                refine lv_bipush (v := 8) hx hb d_Face_goOn_84 (by decide) ?_
                exact W.iret (v := 8) hx hb hr (fun t ht hW => ⟨⟨8, σ, rfl, h, hp_back ht hP⟩, hS.F ht⟩) hS.2.2 d_Face_goOn_86
            · have h := h.2 hc
              refine lv_bipush (v := 7) hx hb d_Face_goOn_64 (by decide) ?_
              exact W.iret (v := 7) hx hb hr (fun t ht hW => ⟨⟨7, σ, rfl, h, hp_back ht hP⟩, hS.F ht⟩) hS.2.2 d_Face_goOn_66
          · have h := h.2 hc
            refine lv_bipush (v := 6) hx hb d_Face_goOn_52 (by decide) ?_
            exact W.iret (v := 6) hx hb hr (fun t ht hW => ⟨⟨6, σ, rfl, h, hp_back ht hP⟩, hS.F ht⟩) hS.2.2 d_Face_goOn_54
        · have h := h.1 hc
          refine lv_iconst (v := 5) hx hb d_Face_goOn_29 (by decide) ?_
          exact W.iret (v := 5) hx hb hr (fun t ht hW => ⟨⟨5, σ, rfl, h, hp_back ht hP⟩, hS.F ht⟩) hS.2.2 d_Face_goOn_30
      | 1, h, hl =>
        have h : q_Face_goOn_b1 (q_Face_goOn_j Q n) Q v1 v2 v3 v4 v5 σ := h
        have hl : lv_has ls 6 [(0, .ref (ad 0 0)), (1, .int v1), (2, .int v2), (3, .int v3), (4, .int v4), (5, .int v5)] := hl
        refine W.eq (g2 := F0 m 148 ls []) rfl ?_
        unfold q_Face_goOn_b1 at h
        refine lv_aload_n hx hb d_Face_goOn_148 rfl (lv_at hl 0 rfl) ?_
        refine va_get (D := D) (ci := 6) (v := .ref (ad 4 0)) (C := "CarrierPaths") (T := F_Face) (N := 7) hx hb hts in_Face hown hK hP 0 rfl rfl 3 (by decide) (hts _ kw175) (fun _ h9 => h9) rfl d_Face_goOn_149 ?_
        refine lv_iload_n hx hb d_Face_goOn_152 rfl (lv_at hl 1 rfl) ?_
        refine lv_iload hx hb d_Face_goOn_153 (lv_at hl 5 rfl) ?_
        refine va_callv (va_runV (As := [.int v1, .int v5]) (rest := []) ⟨hx, hb, hml, hown, hts⟩ (t_Fleet_addEmptyTime l D cI cZ (ad 4) (inj_Fleet inj) v1 v5 (σ 4) _ h) (cwV 2 hts (g_of kw641 kw642 kw643 kw6 kw644) rfl rfl rfl (by decide +kernel) ⟨Nat.le_of_ble_eq_true rfl, Nat.le_of_ble_eq_true rfl⟩) (ro_pre hK (pt_Fleet hP) (va_recv hK (pt_Fleet hP) (ci := 1) (q0 := 0) rfl rfl)) rfl rfl hl.1 rfl (lv_room (Nat.le_of_ble_eq_true rfl)) d_Face_goOn_155 ⟨Nat.le_of_ble_eq_true rfl, Nat.le_of_ble_eq_true rfl⟩) hS (fun _ _ h => sub_Fleet h) (fun _ h => sub_Fleet h) (fun u14 t H1 locs ht _ h hP1 _ hk1 hS => ?_)
        have hP1 : va_P D classes (W_Fleet (ad 4) cI cZ u14) H1 := hp_fwd ht hP1
        have hP := join_Fleet inj hP hP1 hk1
        generalize H1 = H at hP hS ⊢
        exact ih 2 v1 v2 v3 v4 v5 (setc σ 4 u14) h _ _ _ hP hS (lv_sub hl [0, 1, 2, 3, 4, 5] rfl)
      | 2, h, hl =>
        have h : q_Face_goOn_b2 (q_Face_goOn_j Q n) Q v1 v2 v3 v4 v5 σ := h
        have hl : lv_has ls 6 [(0, .ref (ad 0 0)), (1, .int v1), (2, .int v2), (3, .int v3), (4, .int v4), (5, .int v5)] := hl
        refine W.eq (g2 := F0 m 158 ls []) rfl ?_
        unfold q_Face_goOn_b2 at h
        refine lv_bipush (v := 10) hx hb d_Face_goOn_158 (by decide) ?_
        exact W.iret (v := 10) hx hb hr (fun t ht hW => ⟨⟨10, σ, rfl, h, hp_back ht hP⟩, hS.F ht⟩) hS.2.2 d_Face_goOn_160
      | _ + 3, h, _ => exact False.elim h
  exact key 4000 0 v1 v2 0 0 0 σ h s.heap [] ls hP hS hl
