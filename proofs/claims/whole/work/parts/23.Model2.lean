def q_Model_worth (v1 v2 : Int32) (σ : Sg) (Q : (Int32 → Sg → Prop)) : Prop :=
  (vp_in v1 12 ∧ (((σ 17 v1.toNatClampNeg) = 0 → (vp_in v2 6 ∧ (((σ 11 v2.toNatClampNeg) = (-1) → (vp_in v2 6 ∧ (((σ 9 v2.toNatClampNeg) = (-1) → (vp_in v2 6 ∧ (vp_in v1 12 ∧ (q_Model_timeTo (σ 8 v2.toNatClampNeg) (σ 15 v1.toNatClampNeg) σ (fun r2 u1 => ((r2 = 1000000000 → Q (-1) u1) ∧ (¬ r2 = 1000000000 → Q ((100000 : Int32) - r2) u1))))))) ∧ (¬ (σ 9 v2.toNatClampNeg) = (-1) → Q (-1) σ)))) ∧ (¬ (σ 11 v2.toNatClampNeg) = (-1) → Q (-1) σ)))) ∧ (¬ (σ 17 v1.toNatClampNeg) = 0 → Q (-1) σ)))
set_option maxHeartbeats 4000000 in
set_option maxRecDepth 100000 in
theorem t_Model_worth (l : Launch) (D : va_G) (cI cZ : ClassId) (ad : Nat → Nat) (inj : Inj ad 21) (v1 v2 : Int32) (σ : Sg) (Q : (Int32 → Sg → Prop)) (h : q_Model_worth v1 v2 σ Q) : Met l y_Model_worth (.code y_Model_worth prog_9_method_20_code 4 (some .int) :: TG) { frames := 2, cells := 0, slots := 0, locals := 45 } (va_Pc [.ref (ad 0), .int v1, .int v2] (roB D (tysA cI cZ) (W_Model ad cI cZ σ))) (va_Qi Q (fun u t => va_P D classes (W_Model ad cI cZ u) t.heap) (inA ad 21)) 0 0 (inA ad 21) := by
  refine Met.ofW (cc := prog_9_method_20_code) (maxL := 4) (ret := (some .int)) (by decide) rfl ?_
  intro p e s m args below meth c s₁ B hml hv
  obtain ⟨rfl, hP, hK⟩ := hv
  have hx := B.exec
  have hb := B.bytes
  have hr := B.returns
  have hts : ∀ w ∈ TG, w.before [.ref (ad 0), .int v1, .int v2].toArray s = true := fun w hw => atoms_spec (ws := .code y_Model_worth prog_9_method_20_code 4 (some .int) :: TG) B.pre w (List.mem_cons_of_mem _ hw)
  have hown : s.vm.findClass "CarrierPathsModel" = some m.cls := findClass_of_methodNamed B.named
  have hlocks := B.notSynchronized
  have hS : va_S (inA ad 21) s.heap s.heap [] := va_S.rf
  have hl := lv_entry ([.ref (ad 0), .int v1, .int v2]) (n := 4) (Nat.le_of_ble_eq_true rfl)
  rw [lg_entry_eq]
  generalize (lg_sl ([.ref (ad 0), .int v1, .int v2]) ++ List.replicate (4 - (lg_sl ([.ref (ad 0), .int v1, .int v2])).length) Slot.unset).toArray = ls at hl ⊢
  have hl : lv_has ls 4 [(0, .ref (ad 0)), (1, .int v1), (2, .int v2)] := hl
  unfold q_Model_worth at h
  refine lv_aload_n hx hb d_Model_worth_0 rfl (lv_at hl 0 rfl) ?_
  refine va_get (D := D) (ci := 7) (v := .ref (ad 17)) (C := "CarrierPathsModel") (T := F_Model) (N := 27) hx hb hts in_Model hown hK hP 0 rfl rfl 22 (by decide) (hts _ kw777) (fun _ h9 => h9) rfl d_Model_worth_1 ?_
  refine lv_iload_n hx hb d_Model_worth_4 rfl (lv_at hl 1 rfl) ?_
  obtain ⟨hi, h⟩ := h
  refine va_iald hx hb hK hP 17 0 rfl rfl hi d_Model_worth_5 ?_
  refine lv_if_ne (tgt := 29) hx hb d_Model_worth_6 (by decide) (fun hc => ?_) (fun hc => ?_)
  · have h := h.2 hc
    refine lv_iconst (v := (-1)) hx hb d_Model_worth_29 (by decide) ?_
    exact W.iret (v := (-1)) hx hb hr (fun t ht hW => ⟨⟨(-1), σ, rfl, h, hp_back ht hP⟩, hS.F ht⟩) hS.2.2 d_Model_worth_30
  · have h := h.1 hc
    refine lv_aload_n hx hb d_Model_worth_9 rfl (lv_at hl 0 rfl) ?_
    refine va_get (D := D) (ci := 7) (v := .ref (ad 11)) (C := "CarrierPathsModel") (T := F_Model) (N := 27) hx hb hts in_Model hown hK hP 0 rfl rfl 15 (by decide) (hts _ kw770) (fun _ h9 => h9) rfl d_Model_worth_10 ?_
    refine lv_iload_n hx hb d_Model_worth_13 rfl (lv_at hl 2 rfl) ?_
    obtain ⟨hi, h⟩ := h
    refine va_iald hx hb hK hP 11 0 rfl rfl hi d_Model_worth_14 ?_
    refine lv_iconst (v := (-1)) hx hb d_Model_worth_15 (by decide) ?_
    refine lv_icmp_ne (tgt := 29) hx hb d_Model_worth_16 (by decide) (fun hc => ?_) (fun hc => ?_)
    · have h := h.2 hc
      refine lv_iconst (v := (-1)) hx hb d_Model_worth_29 (by decide) ?_
      exact W.iret (v := (-1)) hx hb hr (fun t ht hW => ⟨⟨(-1), σ, rfl, h, hp_back ht hP⟩, hS.F ht⟩) hS.2.2 d_Model_worth_30
    · have h := h.1 hc
      refine lv_aload_n hx hb d_Model_worth_19 rfl (lv_at hl 0 rfl) ?_
      refine va_get (D := D) (ci := 7) (v := .ref (ad 9)) (C := "CarrierPathsModel") (T := F_Model) (N := 27) hx hb hts in_Model hown hK hP 0 rfl rfl 13 (by decide) (hts _ kw768) (fun _ h9 => h9) rfl d_Model_worth_20 ?_
      refine lv_iload_n hx hb d_Model_worth_23 rfl (lv_at hl 2 rfl) ?_
      obtain ⟨hi, h⟩ := h
      refine va_iald hx hb hK hP 9 0 rfl rfl hi d_Model_worth_24 ?_
      refine lv_iconst (v := (-1)) hx hb d_Model_worth_25 (by decide) ?_
      refine lv_icmp_eq (tgt := 31) hx hb d_Model_worth_26 (by decide) (fun hc => ?_) (fun hc => ?_)
      · have h := h.1 hc
        refine lv_aload_n hx hb d_Model_worth_31 rfl (lv_at hl 0 rfl) ?_
        refine lv_aload_n hx hb d_Model_worth_32 rfl (lv_at hl 0 rfl) ?_
        refine va_get (D := D) (ci := 7) (v := .ref (ad 8)) (C := "CarrierPathsModel") (T := F_Model) (N := 27) hx hb hts in_Model hown hK hP 0 rfl rfl 12 (by decide) (hts _ kw767) (fun _ h9 => h9) rfl d_Model_worth_33 ?_
        refine lv_iload_n hx hb d_Model_worth_36 rfl (lv_at hl 2 rfl) ?_
        obtain ⟨hi, h⟩ := h
        refine va_iald hx hb hK hP 8 0 rfl rfl hi d_Model_worth_37 ?_
        refine lv_aload_n hx hb d_Model_worth_38 rfl (lv_at hl 0 rfl) ?_
        refine va_get (D := D) (ci := 7) (v := .ref (ad 15)) (C := "CarrierPathsModel") (T := F_Model) (N := 27) hx hb hts in_Model hown hK hP 0 rfl rfl 20 (by decide) (hts _ kw775) (fun _ h9 => h9) rfl d_Model_worth_39 ?_
        refine lv_iload_n hx hb d_Model_worth_42 rfl (lv_at hl 1 rfl) ?_
        obtain ⟨hi, h⟩ := h
        refine va_iald hx hb hK hP 15 0 rfl rfl hi d_Model_worth_43 ?_
        refine va_calli (va_runV (As := [.int (σ 8 v2.toNatClampNeg), .int (σ 15 v1.toNatClampNeg)]) (rest := []) ⟨hx, hb, hml, hown, hts⟩ (t_Model_timeTo l D cI cZ ad inj (σ 8 v2.toNatClampNeg) (σ 15 v1.toNatClampNeg) σ _ h) (cwV 2 hts (g_of kw905 kw907 kp29 kw9 kw908) rfl rfl rfl (by decide +kernel) ⟨Nat.le_of_ble_eq_true rfl, Nat.le_of_ble_eq_true rfl⟩) (ro_pre hK hP (va_recv hK hP (ci := 7) (q0 := 0) rfl rfl)) rfl rfl hl.1 rfl (lv_room (Nat.le_of_ble_eq_true rfl)) d_Model_worth_44 ⟨Nat.le_of_ble_eq_true rfl, Nat.le_of_ble_eq_true rfl⟩) hS (fun _ _ h => h) (fun _ h => h) (fun r2 u1 t H1 locs ht _ h hP1 _ hk1 hS => ?_)
        have hP1 : va_P D classes (W_Model ad cI cZ u1) H1 := hp_fwd ht hP1
        clear hk1 ht
        generalize H1 = H at hP1 hS ⊢
        have hP := hP1
        refine lv_istore_n (lv' := [(3, .int r2), (0, .ref (ad 0)), (1, .int v1), (2, .int v2)]) hx hb d_Model_worth_47 rfl hl (by decide) rfl (fun ls hl => ?_)
        refine lv_iload_n hx hb d_Model_worth_48 rfl (lv_at hl 0 rfl) ?_
        refine lv_ldc (v := 1000000000) hx hb hown (hts _ kw860) d_Model_worth_49 ?_
        refine lv_icmp_ne (tgt := 58) hx hb d_Model_worth_51 (by decide) (fun hc => ?_) (fun hc => ?_)
        · have h := h.2 hc
          refine lv_ldc (v := 100000) hx hb hown (hts _ kw909) d_Model_worth_58 ?_
          refine lv_iload_n hx hb d_Model_worth_60 rfl (lv_at hl 0 rfl) ?_
          refine lv_isub hx hb d_Model_worth_61 ?_
          exact W.iret (v := ((100000 : Int32) - r2)) hx hb hr (fun t ht hW => ⟨⟨((100000 : Int32) - r2), u1, rfl, h, hp_back ht hP⟩, hS.F ht⟩) hS.2.2 d_Model_worth_62
        · have h := h.1 hc
          refine lv_iconst (v := (-1)) hx hb d_Model_worth_54 (by decide) ?_
          refine lv_goto (tgt := 62) hx hb d_Model_worth_55 (by decide) ?_
          exact W.iret (v := (-1)) hx hb hr (fun t ht hW => ⟨⟨(-1), u1, rfl, h, hp_back ht hP⟩, hS.F ht⟩) hS.2.2 d_Model_worth_62
      · have h := h.2 hc
        refine lv_iconst (v := (-1)) hx hb d_Model_worth_29 (by decide) ?_
        exact W.iret (v := (-1)) hx hb hr (fun t ht hW => ⟨⟨(-1), σ, rfl, h, hp_back ht hP⟩, hS.F ht⟩) hS.2.2 d_Model_worth_30
def q_Model_isBarred_b0 (J : Nat → Int32 → Int32 → Int32 → Prop) (Q : (Int32 → Prop)) (v1 v2 v3 : Int32) (σ : Sg) : Prop :=
  J 1 v1 0 0
def q_Model_isBarred_b1 (J : Nat → Int32 → Int32 → Int32 → Prop) (Q : (Int32 → Prop)) (v1 v2 v3 : Int32) (σ : Sg) : Prop :=
  (((σ 0 9) ≤ v3 → (narrow .boolean (.int v2) = .int v2 ∧ Q v2)) ∧ (¬ (σ 0 9) ≤ v3 → ((v2 = 0 → (vp_in v3 4 ∧ (vp_in v1 30 ∧ (((((σ 7 v3.toNatClampNeg) >>> ((σ 4 v1.toNatClampNeg) &&& 31)) &&& 1) = 1 → (vp_in v3 4 ∧ (vp_in v1 30 ∧ (((((σ 7 v3.toNatClampNeg) >>> ((σ 3 v1.toNatClampNeg) &&& 31)) &&& 1) = 0 → (q_Model_freeIn v3 σ (fun r1 => ((1 < r1 → J 1 v1 0 (v3 + 1)) ∧ (¬ 1 < r1 → J 1 v1 1 (v3 + 1)))))) ∧ (¬ (((σ 7 v3.toNatClampNeg) >>> ((σ 3 v1.toNatClampNeg) &&& 31)) &&& 1) = 0 → J 1 v1 0 (v3 + 1)))))) ∧ (¬ (((σ 7 v3.toNatClampNeg) >>> ((σ 4 v1.toNatClampNeg) &&& 31)) &&& 1) = 1 → J 1 v1 0 (v3 + 1)))))) ∧ (¬ v2 = 0 → J 1 v1 1 (v3 + 1)))))
def q_Model_isBarred_j (Q : (Int32 → Prop)) (σ : Sg) : Nat → Nat → Int32 → Int32 → Int32 → Prop
  | 0, _, _, _, _ => False
  | n + 1, 0, v1, v2, v3 => q_Model_isBarred_b0 (q_Model_isBarred_j Q σ n) Q v1 v2 v3 σ
  | n + 1, 1, v1, v2, v3 => q_Model_isBarred_b1 (q_Model_isBarred_j Q σ n) Q v1 v2 v3 σ
  | _ + 1, _ + 2, _, _, _ => False
def q_Model_isBarred (v1 : Int32) (σ : Sg) (Q : (Int32 → Prop)) : Prop := q_Model_isBarred_j Q σ 4000 0 v1 0 0
def lc_Model_isBarred (ad : Nat → Nat) (b : Nat) (v1 v2 v3 : Int32) : List (Nat × Value) := match b with
  | 0 => [(0, .ref (ad 0)), (1, .int v1)]
  | 1 => [(0, .ref (ad 0)), (1, .int v1), (2, .int v2), (3, .int v3)]
  | _ => []
def pc_Model_isBarred (b : Nat) : Nat := match b with
  | 0 => 0
  | 1 => 4
  | _ => 0
set_option maxHeartbeats 4000000 in
set_option maxRecDepth 100000 in
theorem t_Model_isBarred (l : Launch) (D : va_G) (cI cZ : ClassId) (ad : Nat → Nat) (v1 : Int32) (σ : Sg) (Q : (Int32 → Prop)) (h : q_Model_isBarred v1 σ Q) : Met l y_Model_isBarred (.code y_Model_isBarred prog_9_method_23_code 4 (some .boolean) :: TG) { frames := 2, cells := 0, slots := 0, locals := 46 } (va_Pc [.ref (ad 0), .int v1] (roB D (tysA cI cZ) (W_Model ad cI cZ σ))) (vp_Si Q) 0 0 (fun _ => False) := by
  refine Met.ofW (cc := prog_9_method_23_code) (maxL := 4) (ret := (some .boolean)) (by decide) rfl ?_
  intro p e s m args below meth c s₁ B hml hv
  obtain ⟨rfl, hP, hK⟩ := hv
  have hx := B.exec
  have hb := B.bytes
  have hr := B.returns
  have hts : ∀ w ∈ TG, w.before [.ref (ad 0), .int v1].toArray s = true := fun w hw => atoms_spec (ws := .code y_Model_isBarred prog_9_method_23_code 4 (some .boolean) :: TG) B.pre w (List.mem_cons_of_mem _ hw)
  have hown : s.vm.findClass "CarrierPathsModel" = some m.cls := findClass_of_methodNamed B.named
  have hlocks := B.notSynchronized
  have hl := lv_entry ([.ref (ad 0), .int v1]) (n := 4) (Nat.le_of_ble_eq_true rfl)
  rw [lg_entry_eq]
  generalize (lg_sl ([.ref (ad 0), .int v1]) ++ List.replicate (4 - (lg_sl ([.ref (ad 0), .int v1])).length) Slot.unset).toArray = ls at hl ⊢
  generalize ([.ref (ad 0), .int v1] : List Value).toArray = args at hts ⊢
  have key : ∀ (n b : Nat) (v1 v2 v3 : Int32), q_Model_isBarred_j Q σ n b v1 v2 v3 → ∀ ls : Array Slot, lv_has ls 4 (lc_Model_isBarred ad b v1 v2 v3) → W p l e (headSpec (.code y_Model_isBarred prog_9_method_23_code 4 (some .boolean) :: TG) { frames := 2, cells := 0, slots := 0, locals := 46 }).room s m args below meth c s.heap [] 0 0 (MQ below (vp_Si Q) args s 0 0 (fun _ => False)) (F0 m (pc_Model_isBarred b) ls []) := by
    clear h hl
    intro n
    induction n with
    | zero => intro b _ _ _ h; exact False.elim h
    | succ n ih =>
      intro b v1 v2 v3 h ls hl
      match b, h, hl with
      | 0, h, hl =>
        have h : q_Model_isBarred_b0 (q_Model_isBarred_j Q σ n) Q v1 v2 v3 σ := h
        have hl : lv_has ls 4 [(0, .ref (ad 0)), (1, .int v1)] := hl
        refine W.eq (g2 := F0 m 0 ls []) rfl ?_
        unfold q_Model_isBarred_b0 at h
        refine lv_iconst (v := 0) hx hb d_Model_isBarred_0 (by decide) ?_
        refine lv_istore_n (lv' := [(2, .int 0), (0, .ref (ad 0)), (1, .int v1)]) hx hb d_Model_isBarred_1 rfl hl (by decide) rfl (fun ls hl => ?_)
        refine lv_iconst (v := 0) hx hb d_Model_isBarred_2 (by decide) ?_
        refine lv_istore_n (lv' := [(3, .int 0), (2, .int 0), (0, .ref (ad 0)), (1, .int v1)]) hx hb d_Model_isBarred_3 rfl hl (by decide) rfl (fun ls hl => ?_)
        exact ih 1 v1 0 0 h _ (lv_sub hl [2, 3, 1, 0] rfl)
      | 1, h, hl =>
        have h : q_Model_isBarred_b1 (q_Model_isBarred_j Q σ n) Q v1 v2 v3 σ := h
        have hl : lv_has ls 4 [(0, .ref (ad 0)), (1, .int v1), (2, .int v2), (3, .int v3)] := hl
        refine W.eq (g2 := F0 m 4 ls []) rfl ?_
        unfold q_Model_isBarred_b1 at h
        refine lv_iload_n hx hb d_Model_isBarred_4 rfl (lv_at hl 3 rfl) ?_
        refine lv_aload_n hx hb d_Model_isBarred_5 rfl (lv_at hl 0 rfl) ?_
        refine va_get (D := D) (ci := 7) (v := .int (σ 0 9)) (C := "CarrierPathsModel") (T := F_Model) (N := 27) hx hb hts in_Model hown hK hP 0 rfl rfl 9 (by decide) (hts _ kw764) (fun _ h9 => h9) rfl d_Model_isBarred_6 ?_
        refine lv_icmp_ge (tgt := 74) hx hb d_Model_isBarred_9 (by decide) (fun hc => ?_) (fun hc => ?_)
        · have h := h.1 hc
          refine lv_iload_n hx hb d_Model_isBarred_74 rfl (lv_at hl 2 rfl) ?_
          obtain ⟨hn, h⟩ := h
          exact W.zret (v := v2) hx hb hr hn (fun t ht hW => ⟨v2, rfl, h, ht⟩) (fun q hq => by cases hq) d_Model_isBarred_75
        · have h := h.2 hc
          refine lv_iload_n hx hb d_Model_isBarred_12 rfl (lv_at hl 2 rfl) ?_
          refine lv_if_ne (tgt := 62) hx hb d_Model_isBarred_13 (by decide) (fun hc => ?_) (fun hc => ?_)
          · have h := h.2 hc
            refine lv_iconst (v := 1) hx hb d_Model_isBarred_62 (by decide) ?_
            refine lv_goto (tgt := 67) hx hb d_Model_isBarred_63 (by decide) ?_
            refine lv_istore_n (lv' := [(2, .int 1), (0, .ref (ad 0)), (1, .int v1), (3, .int v3)]) hx hb d_Model_isBarred_67 rfl hl (by decide) rfl (fun ls hl => ?_)
            refine lv_iinc (v := (v3 + 1)) (lv' := [(3, .int (v3 + 1)), (2, .int 1), (0, .ref (ad 0)), (1, .int v1)]) hx hb d_Model_isBarred_68 hl (k := 3) rfl rfl (by decide) rfl (fun ls hl => ?_)
            refine lv_goto (tgt := 4) hx hb d_Model_isBarred_71 (by decide) ?_
            exact ih 1 v1 1 (v3 + 1) h _ (lv_sub hl [2, 3, 1, 0] rfl)
          · have h := h.1 hc
            refine lv_aload_n hx hb d_Model_isBarred_16 rfl (lv_at hl 0 rfl) ?_
            refine va_get (D := D) (ci := 7) (v := .ref (ad 7)) (C := "CarrierPathsModel") (T := F_Model) (N := 27) hx hb hts in_Model hown hK hP 0 rfl rfl 10 (by decide) (hts _ kw765) (fun _ h9 => h9) rfl d_Model_isBarred_17 ?_
            refine lv_iload_n hx hb d_Model_isBarred_20 rfl (lv_at hl 3 rfl) ?_
            obtain ⟨hi, h⟩ := h
            refine va_iald hx hb hK hP 7 0 rfl rfl hi d_Model_isBarred_21 ?_
            refine lv_aload_n hx hb d_Model_isBarred_22 rfl (lv_at hl 0 rfl) ?_
            refine va_get (D := D) (ci := 7) (v := .ref (ad 4)) (C := "CarrierPathsModel") (T := F_Model) (N := 27) hx hb hts in_Model hown hK hP 0 rfl rfl 6 (by decide) (hts _ kw761) (fun _ h9 => h9) rfl d_Model_isBarred_23 ?_
            refine lv_iload_n hx hb d_Model_isBarred_26 rfl (lv_at hl 1 rfl) ?_
            obtain ⟨hi, h⟩ := h
            refine va_iald hx hb hK hP 4 0 rfl rfl hi d_Model_isBarred_27 ?_
            refine lv_ishr hx hb d_Model_isBarred_28 ?_
            refine lv_iconst (v := 1) hx hb d_Model_isBarred_29 (by decide) ?_
            refine lv_iand hx hb d_Model_isBarred_30 ?_
            refine lv_iconst (v := 1) hx hb d_Model_isBarred_31 (by decide) ?_
            refine lv_icmp_ne (tgt := 66) hx hb d_Model_isBarred_32 (by decide) (fun hc => ?_) (fun hc => ?_)
            · have h := h.2 hc
              refine lv_iconst (v := 0) hx hb d_Model_isBarred_66 (by decide) ?_
              refine lv_istore_n (lv' := [(2, .int 0), (0, .ref (ad 0)), (1, .int v1), (3, .int v3)]) hx hb d_Model_isBarred_67 rfl hl (by decide) rfl (fun ls hl => ?_)
              refine lv_iinc (v := (v3 + 1)) (lv' := [(3, .int (v3 + 1)), (2, .int 0), (0, .ref (ad 0)), (1, .int v1)]) hx hb d_Model_isBarred_68 hl (k := 3) rfl rfl (by decide) rfl (fun ls hl => ?_)
              refine lv_goto (tgt := 4) hx hb d_Model_isBarred_71 (by decide) ?_
              exact ih 1 v1 0 (v3 + 1) h _ (lv_sub hl [2, 3, 1, 0] rfl)
            · have h := h.1 hc
              refine lv_aload_n hx hb d_Model_isBarred_35 rfl (lv_at hl 0 rfl) ?_
              refine va_get (D := D) (ci := 7) (v := .ref (ad 7)) (C := "CarrierPathsModel") (T := F_Model) (N := 27) hx hb hts in_Model hown hK hP 0 rfl rfl 10 (by decide) (hts _ kw765) (fun _ h9 => h9) rfl d_Model_isBarred_36 ?_
              refine lv_iload_n hx hb d_Model_isBarred_39 rfl (lv_at hl 3 rfl) ?_
              obtain ⟨hi, h⟩ := h
              refine va_iald hx hb hK hP 7 0 rfl rfl hi d_Model_isBarred_40 ?_
              refine lv_aload_n hx hb d_Model_isBarred_41 rfl (lv_at hl 0 rfl) ?_
              refine va_get (D := D) (ci := 7) (v := .ref (ad 3)) (C := "CarrierPathsModel") (T := F_Model) (N := 27) hx hb hts in_Model hown hK hP 0 rfl rfl 5 (by decide) (hts _ kw760) (fun _ h9 => h9) rfl d_Model_isBarred_42 ?_
              refine lv_iload_n hx hb d_Model_isBarred_45 rfl (lv_at hl 1 rfl) ?_
              obtain ⟨hi, h⟩ := h
              refine va_iald hx hb hK hP 3 0 rfl rfl hi d_Model_isBarred_46 ?_
              refine lv_ishr hx hb d_Model_isBarred_47 ?_
              refine lv_iconst (v := 1) hx hb d_Model_isBarred_48 (by decide) ?_
              refine lv_iand hx hb d_Model_isBarred_49 ?_
              refine lv_if_ne (tgt := 66) hx hb d_Model_isBarred_50 (by decide) (fun hc => ?_) (fun hc => ?_)
              · have h := h.2 hc
                refine lv_iconst (v := 0) hx hb d_Model_isBarred_66 (by decide) ?_
                refine lv_istore_n (lv' := [(2, .int 0), (0, .ref (ad 0)), (1, .int v1), (3, .int v3)]) hx hb d_Model_isBarred_67 rfl hl (by decide) rfl (fun ls hl => ?_)
                refine lv_iinc (v := (v3 + 1)) (lv' := [(3, .int (v3 + 1)), (2, .int 0), (0, .ref (ad 0)), (1, .int v1)]) hx hb d_Model_isBarred_68 hl (k := 3) rfl rfl (by decide) rfl (fun ls hl => ?_)
                refine lv_goto (tgt := 4) hx hb d_Model_isBarred_71 (by decide) ?_
                exact ih 1 v1 0 (v3 + 1) h _ (lv_sub hl [2, 3, 1, 0] rfl)
              · have h := h.1 hc
                refine lv_aload_n hx hb d_Model_isBarred_53 rfl (lv_at hl 0 rfl) ?_
                refine lv_iload_n hx hb d_Model_isBarred_54 rfl (lv_at hl 3 rfl) ?_
                refine vp_callSi (W.runV (As := [.int v3]) (rest := []) ⟨hx, hb, hml, hown, hts⟩ (t_Model_freeIn l D cI cZ ad v3 σ _ h) (cwV 1 hts (g_of kw930 kw932 kp34 kw9 kw933) rfl rfl rfl (by decide +kernel) ⟨Nat.le_of_ble_eq_true rfl, Nat.le_of_ble_eq_true rfl⟩) (ro_pre hK hP (va_recv hK hP (ci := 7) (q0 := 0) rfl rfl)) rfl rfl hl.1 rfl (lv_room (Nat.le_of_ble_eq_true rfl)) d_Model_isBarred_55 ⟨Nat.le_of_ble_eq_true rfl, Nat.le_of_ble_eq_true rfl⟩) (fun r1 h => ?_)
                refine lv_iconst (v := 1) hx hb d_Model_isBarred_58 (by decide) ?_
                refine lv_icmp_gt (tgt := 66) hx hb d_Model_isBarred_59 (by decide) (fun hc => ?_) (fun hc => ?_)
                · have h := h.1 hc
                  refine lv_iconst (v := 0) hx hb d_Model_isBarred_66 (by decide) ?_
                  refine lv_istore_n (lv' := [(2, .int 0), (0, .ref (ad 0)), (1, .int v1), (3, .int v3)]) hx hb d_Model_isBarred_67 rfl hl (by decide) rfl (fun ls hl => ?_)
                  refine lv_iinc (v := (v3 + 1)) (lv' := [(3, .int (v3 + 1)), (2, .int 0), (0, .ref (ad 0)), (1, .int v1)]) hx hb d_Model_isBarred_68 hl (k := 3) rfl rfl (by decide) rfl (fun ls hl => ?_)
                  refine lv_goto (tgt := 4) hx hb d_Model_isBarred_71 (by decide) ?_
                  exact ih 1 v1 0 (v3 + 1) h _ (lv_sub hl [2, 3, 1, 0] rfl)
                · have h := h.2 hc
                  refine lv_iconst (v := 1) hx hb d_Model_isBarred_62 (by decide) ?_
                  refine lv_goto (tgt := 67) hx hb d_Model_isBarred_63 (by decide) ?_
                  refine lv_istore_n (lv' := [(2, .int 1), (0, .ref (ad 0)), (1, .int v1), (3, .int v3)]) hx hb d_Model_isBarred_67 rfl hl (by decide) rfl (fun ls hl => ?_)
                  refine lv_iinc (v := (v3 + 1)) (lv' := [(3, .int (v3 + 1)), (2, .int 1), (0, .ref (ad 0)), (1, .int v1)]) hx hb d_Model_isBarred_68 hl (k := 3) rfl rfl (by decide) rfl (fun ls hl => ?_)
                  refine lv_goto (tgt := 4) hx hb d_Model_isBarred_71 (by decide) ?_
                  exact ih 1 v1 1 (v3 + 1) h _ (lv_sub hl [2, 3, 1, 0] rfl)
      | _ + 2, h, _ => exact False.elim h
  exact key 4000 0 v1 0 0 h ls hl
def q_Model_isTaken_b0 (J : Nat → Int32 → Int32 → Int32 → Prop) (Q : (Int32 → Prop)) (v1 v2 v3 : Int32) (σ : Sg) : Prop :=
  J 1 v1 0 0
def q_Model_isTaken_b1 (J : Nat → Int32 → Int32 → Int32 → Prop) (Q : (Int32 → Prop)) (v1 v2 v3 : Int32) (σ : Sg) : Prop :=
  (((σ 0 11) ≤ v3 → (narrow .boolean (.int v2) = .int v2 ∧ Q v2)) ∧ (¬ (σ 0 11) ≤ v3 → ((v2 = 0 → (vp_in v3 6 ∧ (((σ 9 v3.toNatClampNeg) = v1 → J 1 v1 1 (v3 + 1)) ∧ (¬ (σ 9 v3.toNatClampNeg) = v1 → J 1 v1 0 (v3 + 1))))) ∧ (¬ v2 = 0 → J 1 v1 1 (v3 + 1)))))
def q_Model_isTaken_j (Q : (Int32 → Prop)) (σ : Sg) : Nat → Nat → Int32 → Int32 → Int32 → Prop
  | 0, _, _, _, _ => False
  | n + 1, 0, v1, v2, v3 => q_Model_isTaken_b0 (q_Model_isTaken_j Q σ n) Q v1 v2 v3 σ
  | n + 1, 1, v1, v2, v3 => q_Model_isTaken_b1 (q_Model_isTaken_j Q σ n) Q v1 v2 v3 σ
  | _ + 1, _ + 2, _, _, _ => False
def q_Model_isTaken (v1 : Int32) (σ : Sg) (Q : (Int32 → Prop)) : Prop := q_Model_isTaken_j Q σ 4000 0 v1 0 0
def lc_Model_isTaken (ad : Nat → Nat) (b : Nat) (v1 v2 v3 : Int32) : List (Nat × Value) := match b with
  | 0 => [(0, .ref (ad 0)), (1, .int v1)]
  | 1 => [(0, .ref (ad 0)), (1, .int v1), (2, .int v2), (3, .int v3)]
  | _ => []
def pc_Model_isTaken (b : Nat) : Nat := match b with
  | 0 => 0
  | 1 => 4
  | _ => 0
set_option maxHeartbeats 4000000 in
set_option maxRecDepth 100000 in
theorem t_Model_isTaken (l : Launch) (D : va_G) (cI cZ : ClassId) (ad : Nat → Nat) (v1 : Int32) (σ : Sg) (Q : (Int32 → Prop)) (h : q_Model_isTaken v1 σ Q) : Met l y_Model_isTaken (.code y_Model_isTaken prog_9_method_24_code 4 (some .boolean) :: TG) { frames := 0, cells := 0, slots := 0, locals := 0 } (va_Pc [.ref (ad 0), .int v1] (roB D (tysA cI cZ) (W_Model ad cI cZ σ))) (vp_Si Q) 0 0 (fun _ => False) := by
  refine Met.ofW (cc := prog_9_method_24_code) (maxL := 4) (ret := (some .boolean)) (by decide) rfl ?_
  intro p e s m args below meth c s₁ B hml hv
  obtain ⟨rfl, hP, hK⟩ := hv
  have hx := B.exec
  have hb := B.bytes
  have hr := B.returns
  have hts : ∀ w ∈ TG, w.before [.ref (ad 0), .int v1].toArray s = true := fun w hw => atoms_spec (ws := .code y_Model_isTaken prog_9_method_24_code 4 (some .boolean) :: TG) B.pre w (List.mem_cons_of_mem _ hw)
  have hown : s.vm.findClass "CarrierPathsModel" = some m.cls := findClass_of_methodNamed B.named
  have hlocks := B.notSynchronized
  have hl := lv_entry ([.ref (ad 0), .int v1]) (n := 4) (Nat.le_of_ble_eq_true rfl)
  rw [lg_entry_eq]
  generalize (lg_sl ([.ref (ad 0), .int v1]) ++ List.replicate (4 - (lg_sl ([.ref (ad 0), .int v1])).length) Slot.unset).toArray = ls at hl ⊢
  generalize ([.ref (ad 0), .int v1] : List Value).toArray = args at hts ⊢
  have key : ∀ (n b : Nat) (v1 v2 v3 : Int32), q_Model_isTaken_j Q σ n b v1 v2 v3 → ∀ ls : Array Slot, lv_has ls 4 (lc_Model_isTaken ad b v1 v2 v3) → W p l e (headSpec (.code y_Model_isTaken prog_9_method_24_code 4 (some .boolean) :: TG) { frames := 0, cells := 0, slots := 0, locals := 0 }).room s m args below meth c s.heap [] 0 0 (MQ below (vp_Si Q) args s 0 0 (fun _ => False)) (F0 m (pc_Model_isTaken b) ls []) := by
    clear h hl
    intro n
    induction n with
    | zero => intro b _ _ _ h; exact False.elim h
    | succ n ih =>
      intro b v1 v2 v3 h ls hl
      match b, h, hl with
      | 0, h, hl =>
        have h : q_Model_isTaken_b0 (q_Model_isTaken_j Q σ n) Q v1 v2 v3 σ := h
        have hl : lv_has ls 4 [(0, .ref (ad 0)), (1, .int v1)] := hl
        refine W.eq (g2 := F0 m 0 ls []) rfl ?_
        unfold q_Model_isTaken_b0 at h
        refine lv_iconst (v := 0) hx hb d_Model_isTaken_0 (by decide) ?_
        refine lv_istore_n (lv' := [(2, .int 0), (0, .ref (ad 0)), (1, .int v1)]) hx hb d_Model_isTaken_1 rfl hl (by decide) rfl (fun ls hl => ?_)
        refine lv_iconst (v := 0) hx hb d_Model_isTaken_2 (by decide) ?_
        refine lv_istore_n (lv' := [(3, .int 0), (2, .int 0), (0, .ref (ad 0)), (1, .int v1)]) hx hb d_Model_isTaken_3 rfl hl (by decide) rfl (fun ls hl => ?_)
        exact ih 1 v1 0 0 h _ (lv_sub hl [2, 3, 1, 0] rfl)
      | 1, h, hl =>
        have h : q_Model_isTaken_b1 (q_Model_isTaken_j Q σ n) Q v1 v2 v3 σ := h
        have hl : lv_has ls 4 [(0, .ref (ad 0)), (1, .int v1), (2, .int v2), (3, .int v3)] := hl
        refine W.eq (g2 := F0 m 4 ls []) rfl ?_
        unfold q_Model_isTaken_b1 at h
        refine lv_iload_n hx hb d_Model_isTaken_4 rfl (lv_at hl 3 rfl) ?_
        refine lv_aload_n hx hb d_Model_isTaken_5 rfl (lv_at hl 0 rfl) ?_
        refine va_get (D := D) (ci := 7) (v := .int (σ 0 11)) (C := "CarrierPathsModel") (T := F_Model) (N := 27) hx hb hts in_Model hown hK hP 0 rfl rfl 11 (by decide) (hts _ kw766) (fun _ h9 => h9) rfl d_Model_isTaken_6 ?_
        refine lv_icmp_ge (tgt := 38) hx hb d_Model_isTaken_9 (by decide) (fun hc => ?_) (fun hc => ?_)
        · have h := h.1 hc
          refine lv_iload_n hx hb d_Model_isTaken_38 rfl (lv_at hl 2 rfl) ?_
          obtain ⟨hn, h⟩ := h
          exact W.zret (v := v2) hx hb hr hn (fun t ht hW => ⟨v2, rfl, h, ht⟩) (fun q hq => by cases hq) d_Model_isTaken_39
        · have h := h.2 hc
          refine lv_iload_n hx hb d_Model_isTaken_12 rfl (lv_at hl 2 rfl) ?_
          refine lv_if_ne (tgt := 26) hx hb d_Model_isTaken_13 (by decide) (fun hc => ?_) (fun hc => ?_)
          · have h := h.2 hc
            refine lv_iconst (v := 1) hx hb d_Model_isTaken_26 (by decide) ?_
            refine lv_goto (tgt := 31) hx hb d_Model_isTaken_27 (by decide) ?_
            refine lv_istore_n (lv' := [(2, .int 1), (0, .ref (ad 0)), (1, .int v1), (3, .int v3)]) hx hb d_Model_isTaken_31 rfl hl (by decide) rfl (fun ls hl => ?_)
            refine lv_iinc (v := (v3 + 1)) (lv' := [(3, .int (v3 + 1)), (2, .int 1), (0, .ref (ad 0)), (1, .int v1)]) hx hb d_Model_isTaken_32 hl (k := 3) rfl rfl (by decide) rfl (fun ls hl => ?_)
            refine lv_goto (tgt := 4) hx hb d_Model_isTaken_35 (by decide) ?_
            exact ih 1 v1 1 (v3 + 1) h _ (lv_sub hl [2, 3, 1, 0] rfl)
          · have h := h.1 hc
            refine lv_aload_n hx hb d_Model_isTaken_16 rfl (lv_at hl 0 rfl) ?_
            refine va_get (D := D) (ci := 7) (v := .ref (ad 9)) (C := "CarrierPathsModel") (T := F_Model) (N := 27) hx hb hts in_Model hown hK hP 0 rfl rfl 13 (by decide) (hts _ kw768) (fun _ h9 => h9) rfl d_Model_isTaken_17 ?_
            refine lv_iload_n hx hb d_Model_isTaken_20 rfl (lv_at hl 3 rfl) ?_
            obtain ⟨hi, h⟩ := h
            refine va_iald hx hb hK hP 9 0 rfl rfl hi d_Model_isTaken_21 ?_
            refine lv_iload_n hx hb d_Model_isTaken_22 rfl (lv_at hl 1 rfl) ?_
            refine lv_icmp_ne (tgt := 30) hx hb d_Model_isTaken_23 (by decide) (fun hc => ?_) (fun hc => ?_)
            · have h := h.2 hc
              refine lv_iconst (v := 0) hx hb d_Model_isTaken_30 (by decide) ?_
              refine lv_istore_n (lv' := [(2, .int 0), (0, .ref (ad 0)), (1, .int v1), (3, .int v3)]) hx hb d_Model_isTaken_31 rfl hl (by decide) rfl (fun ls hl => ?_)
              refine lv_iinc (v := (v3 + 1)) (lv' := [(3, .int (v3 + 1)), (2, .int 0), (0, .ref (ad 0)), (1, .int v1)]) hx hb d_Model_isTaken_32 hl (k := 3) rfl rfl (by decide) rfl (fun ls hl => ?_)
              refine lv_goto (tgt := 4) hx hb d_Model_isTaken_35 (by decide) ?_
              exact ih 1 v1 0 (v3 + 1) h _ (lv_sub hl [2, 3, 1, 0] rfl)
            · have h := h.1 hc
              refine lv_iconst (v := 1) hx hb d_Model_isTaken_26 (by decide) ?_
              refine lv_goto (tgt := 31) hx hb d_Model_isTaken_27 (by decide) ?_
              refine lv_istore_n (lv' := [(2, .int 1), (0, .ref (ad 0)), (1, .int v1), (3, .int v3)]) hx hb d_Model_isTaken_31 rfl hl (by decide) rfl (fun ls hl => ?_)
              refine lv_iinc (v := (v3 + 1)) (lv' := [(3, .int (v3 + 1)), (2, .int 1), (0, .ref (ad 0)), (1, .int v1)]) hx hb d_Model_isTaken_32 hl (k := 3) rfl rfl (by decide) rfl (fun ls hl => ?_)
              refine lv_goto (tgt := 4) hx hb d_Model_isTaken_35 (by decide) ?_
              exact ih 1 v1 1 (v3 + 1) h _ (lv_sub hl [2, 3, 1, 0] rfl)
      | _ + 2, h, _ => exact False.elim h
  exact key 4000 0 v1 0 0 h ls hl
def q_Model_tick_b0 (J : Nat → Int32 → Int32 → Int32 → Sg → Prop) (Q : (Int32 → Sg → Prop)) (v1 v2 v3 : Int32) (σ : Sg) : Prop :=
  (q_Model_in v1 (σ 0 24) 1000000 (fun r1 => ((r1 = 0 → (q_Model_fails 1 σ (fun r3 u2 => Q r3 u2))) ∧ (¬ r1 = 0 → J 1 v1 0 0 (sto (sto σ 0 0 0) 0 24 v1)))))
def q_Model_tick_b1 (J : Nat → Int32 → Int32 → Int32 → Sg → Prop) (Q : (Int32 → Sg → Prop)) (v1 v2 v3 : Int32) (σ : Sg) : Prop :=
  (((σ 0 11) ≤ v3 → Q v2 σ) ∧ (¬ (σ 0 11) ≤ v3 → (vp_in v3 6 ∧ (((σ 9 v3.toNatClampNeg) = (-1) → J 1 v1 v2 (v3 + 1) σ) ∧ (¬ (σ 9 v3.toNatClampNeg) = (-1) → (vp_in v3 6 ∧ (((σ 0 24) < (σ 10 v3.toNatClampNeg) → J 1 v1 v2 (v3 + 1) σ) ∧ (¬ (σ 0 24) < (σ 10 v3.toNatClampNeg) → (vp_in v3 6 ∧ J 1 v1 (v2 + 1) (v3 + 1) (sto σ 9 v3.toNatClampNeg (-1)))))))))))
def q_Model_tick_j (Q : (Int32 → Sg → Prop)) : Nat → Nat → Int32 → Int32 → Int32 → Sg → Prop
  | 0, _, _, _, _, _ => False
  | n + 1, 0, v1, v2, v3, σ => q_Model_tick_b0 (q_Model_tick_j Q n) Q v1 v2 v3 σ
  | n + 1, 1, v1, v2, v3, σ => q_Model_tick_b1 (q_Model_tick_j Q n) Q v1 v2 v3 σ
  | _ + 1, _ + 2, _, _, _, _ => False
def q_Model_tick (v1 : Int32) (σ : Sg) (Q : (Int32 → Sg → Prop)) : Prop := q_Model_tick_j Q 4000 0 v1 0 0 σ
def lc_Model_tick (ad : Nat → Nat) (b : Nat) (v1 v2 v3 : Int32) : List (Nat × Value) := match b with
  | 0 => [(0, .ref (ad 0)), (1, .int v1)]
  | 1 => [(0, .ref (ad 0)), (1, .int v1), (2, .int v2), (3, .int v3)]
  | _ => []
def pc_Model_tick (b : Nat) : Nat := match b with
  | 0 => 0
  | 1 => 33
  | _ => 0
set_option maxHeartbeats 4000000 in
set_option maxRecDepth 100000 in
theorem t_Model_tick (l : Launch) (D : va_G) (cI cZ : ClassId) (ad : Nat → Nat) (inj : Inj ad 21) (v1 : Int32) (σ : Sg) (Q : (Int32 → Sg → Prop)) (h : q_Model_tick v1 σ Q) : Met l y_Model_tick (.code y_Model_tick prog_9_method_27_code 4 (some .int) :: TG) { frames := 1, cells := 0, slots := 0, locals := 22 } (va_Pc [.ref (ad 0), .int v1] (roB D (tysA cI cZ) (W_Model ad cI cZ σ))) (va_Qi Q (fun u t => va_P D classes (W_Model ad cI cZ u) t.heap) (inA ad 21)) 0 0 (inA ad 21) := by
  refine Met.ofW (cc := prog_9_method_27_code) (maxL := 4) (ret := (some .int)) (by decide) rfl ?_
  intro p e s m args below meth c s₁ B hml hv
  obtain ⟨rfl, hP, hK⟩ := hv
  have hx := B.exec
  have hb := B.bytes
  have hr := B.returns
  have hts : ∀ w ∈ TG, w.before [.ref (ad 0), .int v1].toArray s = true := fun w hw => atoms_spec (ws := .code y_Model_tick prog_9_method_27_code 4 (some .int) :: TG) B.pre w (List.mem_cons_of_mem _ hw)
  have hown : s.vm.findClass "CarrierPathsModel" = some m.cls := findClass_of_methodNamed B.named
  have hlocks := B.notSynchronized
  have hS : va_S (inA ad 21) s.heap s.heap [] := va_S.rf
  have hl := lv_entry ([.ref (ad 0), .int v1]) (n := 4) (Nat.le_of_ble_eq_true rfl)
  rw [lg_entry_eq]
  generalize (lg_sl ([.ref (ad 0), .int v1]) ++ List.replicate (4 - (lg_sl ([.ref (ad 0), .int v1])).length) Slot.unset).toArray = ls at hl ⊢
  generalize ([.ref (ad 0), .int v1] : List Value).toArray = args at hts ⊢
  have key : ∀ (n b : Nat) (v1 v2 v3 : Int32) (σ : Sg), q_Model_tick_j Q n b v1 v2 v3 σ → ∀ (H : Heap) (locs : List Loc) (ls : Array Slot), va_P D classes (W_Model ad cI cZ σ) H → va_S (inA ad 21) s.heap H locs → lv_has ls 4 (lc_Model_tick ad b v1 v2 v3) → W p l e (headSpec (.code y_Model_tick prog_9_method_27_code 4 (some .int) :: TG) { frames := 1, cells := 0, slots := 0, locals := 22 }).room s m args below meth c H locs 0 0 (MQ below (va_Qi Q (fun u t => va_P D classes (W_Model ad cI cZ u) t.heap) (inA ad 21)) args s 0 0 (inA ad 21)) (F0 m (pc_Model_tick b) ls []) := by
    clear h hl hP hS
    intro n
    induction n with
    | zero => intro b _ _ _ _ h; exact False.elim h
    | succ n ih =>
      intro b v1 v2 v3 σ h H locs ls hP hS hl
      match b, h, hl with
      | 0, h, hl =>
        have h : q_Model_tick_b0 (q_Model_tick_j Q n) Q v1 v2 v3 σ := h
        have hl : lv_has ls 4 [(0, .ref (ad 0)), (1, .int v1)] := hl
        refine W.eq (g2 := F0 m 0 ls []) rfl ?_
        unfold q_Model_tick_b0 at h
        refine lv_iload_n hx hb d_Model_tick_0 rfl (lv_at hl 1 rfl) ?_
        refine lv_aload_n hx hb d_Model_tick_1 rfl (lv_at hl 0 rfl) ?_
        refine va_get (D := D) (ci := 7) (v := .int (σ 0 24)) (C := "CarrierPathsModel") (T := F_Model) (N := 27) hx hb hts in_Model hown hK hP 0 rfl rfl 24 (by decide) (hts _ kw779) (fun _ h9 => h9) rfl d_Model_tick_2 ?_
        refine lv_ldc (v := 1000000) hx hb hown (hts _ kw942) d_Model_tick_5 ?_
        refine vp_callSi (W.runS (As := [.int v1, .int (σ 0 24), .int 1000000]) (rest := []) ⟨hx, hb, hml, hown, hts⟩ (t_Model_in l v1 (σ 0 24) 1000000 _ h) (va_cwS 3 hts (gS_of kw849 kw850 kw9 kw851) rfl rfl rfl (by decide +kernel) ⟨Nat.le_of_ble_eq_true rfl, Nat.le_of_ble_eq_true rfl⟩) st_pre rfl rfl hl.1 rfl (lv_room (Nat.le_of_ble_eq_true rfl)) d_Model_tick_7 ⟨Nat.le_of_ble_eq_true rfl, Nat.le_of_ble_eq_true rfl⟩) (fun r1 h => ?_)
        refine lv_if_ne (tgt := 19) hx hb d_Model_tick_10 (by decide) (fun hc => ?_) (fun hc => ?_)
        · have h := h.2 hc
          refine lv_aload_n hx hb d_Model_tick_19 rfl (lv_at hl 0 rfl) ?_
          refine lv_iconst (v := 0) hx hb d_Model_tick_20 (by decide) ?_
          refine va_put (D := D) (ci := 7) (v := .int 0) (ty := .int) (C := "CarrierPathsModel") (T := F_Model) (N := 27) hx hb hts in_Model ty_Model ty_Model_ok nm_Model hown hK hP (D_Model inj) hS 0 rfl rfl 0 (by decide) (hts _ kw755) (fun _ h9 => h9) rfl (by decide +kernel) rfl rfl (Nat.le_of_ble_eq_true rfl) d_Model_tick_21 (fun H locs hP _ hS => ?_)
          have hP := up_Model_f0 hP
          refine lv_aload_n hx hb d_Model_tick_24 rfl (lv_at hl 0 rfl) ?_
          refine lv_iload_n hx hb d_Model_tick_25 rfl (lv_at hl 1 rfl) ?_
          refine va_put (D := D) (ci := 7) (v := .int v1) (ty := .int) (C := "CarrierPathsModel") (T := F_Model) (N := 27) hx hb hts in_Model ty_Model ty_Model_ok nm_Model hown hK hP (D_Model inj) hS 0 rfl rfl 24 (by decide) (hts _ kw779) (fun _ h9 => h9) rfl (by decide +kernel) rfl rfl (Nat.le_of_ble_eq_true rfl) d_Model_tick_26 (fun H locs hP _ hS => ?_)
          have hP := up_Model_f24 hP
          refine lv_iconst (v := 0) hx hb d_Model_tick_29 (by decide) ?_
          refine lv_istore_n (lv' := [(2, .int 0), (0, .ref (ad 0)), (1, .int v1)]) hx hb d_Model_tick_30 rfl hl (by decide) rfl (fun ls hl => ?_)
          refine lv_iconst (v := 0) hx hb d_Model_tick_31 (by decide) ?_
          refine lv_istore_n (lv' := [(3, .int 0), (2, .int 0), (0, .ref (ad 0)), (1, .int v1)]) hx hb d_Model_tick_32 rfl hl (by decide) rfl (fun ls hl => ?_)
          exact ih 1 v1 0 0 (sto (sto σ 0 0 0) 0 24 v1) h _ _ _ hP hS (lv_sub hl [2, 3, 1, 0] rfl)
        · have h := h.1 hc
          refine lv_aload_n hx hb d_Model_tick_13 rfl (lv_at hl 0 rfl) ?_
          refine lv_iconst (v := 1) hx hb d_Model_tick_14 (by decide) ?_
          refine va_calli (va_runV (As := [.int 1]) (rest := []) ⟨hx, hb, hml, hown, hts⟩ (t_Model_fails l D cI cZ ad inj 1 σ _ h) (cwV 1 hts (g_of kw852 kw854 kp23 kw9 kw855) rfl rfl rfl (by decide +kernel) ⟨Nat.le_of_ble_eq_true rfl, Nat.le_of_ble_eq_true rfl⟩) (ro_pre hK hP (va_recv hK hP (ci := 7) (q0 := 0) rfl rfl)) rfl rfl hl.1 rfl (lv_room (Nat.le_of_ble_eq_true rfl)) d_Model_tick_15 ⟨Nat.le_of_ble_eq_true rfl, Nat.le_of_ble_eq_true rfl⟩) hS (fun _ _ h => h) (fun _ h => h) (fun r3 u2 t H1 locs ht _ h hP1 _ hk1 hS => ?_)
          have hP1 : va_P D classes (W_Model ad cI cZ u2) H1 := hp_fwd ht hP1
          clear hk1 ht
          generalize H1 = H at hP1 hS ⊢
          have hP := hP1
          exact W.iret (v := r3) hx hb hr (fun t ht hW => ⟨⟨r3, u2, rfl, h, hp_back ht hP⟩, hS.F ht⟩) hS.2.2 d_Model_tick_18
      | 1, h, hl =>
        have h : q_Model_tick_b1 (q_Model_tick_j Q n) Q v1 v2 v3 σ := h
        have hl : lv_has ls 4 [(0, .ref (ad 0)), (1, .int v1), (2, .int v2), (3, .int v3)] := hl
        refine W.eq (g2 := F0 m 33 ls []) rfl ?_
        unfold q_Model_tick_b1 at h
        refine lv_iload_n hx hb d_Model_tick_33 rfl (lv_at hl 3 rfl) ?_
        refine lv_aload_n hx hb d_Model_tick_34 rfl (lv_at hl 0 rfl) ?_
        refine va_get (D := D) (ci := 7) (v := .int (σ 0 11)) (C := "CarrierPathsModel") (T := F_Model) (N := 27) hx hb hts in_Model hown hK hP 0 rfl rfl 11 (by decide) (hts _ kw766) (fun _ h9 => h9) rfl d_Model_tick_35 ?_
        refine lv_icmp_ge (tgt := 80) hx hb d_Model_tick_38 (by decide) (fun hc => ?_) (fun hc => ?_)
        · have h := h.1 hc
          refine lv_iload_n hx hb d_Model_tick_80 rfl (lv_at hl 2 rfl) ?_
          exact W.iret (v := v2) hx hb hr (fun t ht hW => ⟨⟨v2, σ, rfl, h, hp_back ht hP⟩, hS.F ht⟩) hS.2.2 d_Model_tick_81
        · have h := h.2 hc
          refine lv_aload_n hx hb d_Model_tick_41 rfl (lv_at hl 0 rfl) ?_
          refine va_get (D := D) (ci := 7) (v := .ref (ad 9)) (C := "CarrierPathsModel") (T := F_Model) (N := 27) hx hb hts in_Model hown hK hP 0 rfl rfl 13 (by decide) (hts _ kw768) (fun _ h9 => h9) rfl d_Model_tick_42 ?_
          refine lv_iload_n hx hb d_Model_tick_45 rfl (lv_at hl 3 rfl) ?_
          obtain ⟨hi, h⟩ := h
          refine va_iald hx hb hK hP 9 0 rfl rfl hi d_Model_tick_46 ?_
          refine lv_iconst (v := (-1)) hx hb d_Model_tick_47 (by decide) ?_
          refine lv_icmp_eq (tgt := 74) hx hb d_Model_tick_48 (by decide) (fun hc => ?_) (fun hc => ?_)
          · have h := h.1 hc
            refine lv_iinc (v := (v3 + 1)) (lv' := [(3, .int (v3 + 1)), (0, .ref (ad 0)), (1, .int v1), (2, .int v2)]) hx hb d_Model_tick_74 hl (k := 3) rfl rfl (by decide) rfl (fun ls hl => ?_)
            refine lv_goto (tgt := 33) hx hb d_Model_tick_77 (by decide) ?_
            exact ih 1 v1 v2 (v3 + 1) σ h _ _ _ hP hS (lv_sub hl [1, 2, 3, 0] rfl)
          · have h := h.2 hc
            refine lv_aload_n hx hb d_Model_tick_51 rfl (lv_at hl 0 rfl) ?_
            refine va_get (D := D) (ci := 7) (v := .ref (ad 10)) (C := "CarrierPathsModel") (T := F_Model) (N := 27) hx hb hts in_Model hown hK hP 0 rfl rfl 14 (by decide) (hts _ kw769) (fun _ h9 => h9) rfl d_Model_tick_52 ?_
            refine lv_iload_n hx hb d_Model_tick_55 rfl (lv_at hl 3 rfl) ?_
            obtain ⟨hi, h⟩ := h
            refine va_iald hx hb hK hP 10 0 rfl rfl hi d_Model_tick_56 ?_
            refine lv_aload_n hx hb d_Model_tick_57 rfl (lv_at hl 0 rfl) ?_
            refine va_get (D := D) (ci := 7) (v := .int (σ 0 24)) (C := "CarrierPathsModel") (T := F_Model) (N := 27) hx hb hts in_Model hown hK hP 0 rfl rfl 24 (by decide) (hts _ kw779) (fun _ h9 => h9) rfl d_Model_tick_58 ?_
            refine lv_icmp_gt (tgt := 74) hx hb d_Model_tick_61 (by decide) (fun hc => ?_) (fun hc => ?_)
            · have h := h.1 hc
              refine lv_iinc (v := (v3 + 1)) (lv' := [(3, .int (v3 + 1)), (0, .ref (ad 0)), (1, .int v1), (2, .int v2)]) hx hb d_Model_tick_74 hl (k := 3) rfl rfl (by decide) rfl (fun ls hl => ?_)
              refine lv_goto (tgt := 33) hx hb d_Model_tick_77 (by decide) ?_
              exact ih 1 v1 v2 (v3 + 1) σ h _ _ _ hP hS (lv_sub hl [1, 2, 3, 0] rfl)
            · have h := h.2 hc
              refine lv_aload_n hx hb d_Model_tick_64 rfl (lv_at hl 0 rfl) ?_
              refine va_get (D := D) (ci := 7) (v := .ref (ad 9)) (C := "CarrierPathsModel") (T := F_Model) (N := 27) hx hb hts in_Model hown hK hP 0 rfl rfl 13 (by decide) (hts _ kw768) (fun _ h9 => h9) rfl d_Model_tick_65 ?_
              refine lv_iload_n hx hb d_Model_tick_68 rfl (lv_at hl 3 rfl) ?_
              refine lv_iconst (v := (-1)) hx hb d_Model_tick_69 (by decide) ?_
              obtain ⟨hi, h⟩ := h
              refine va_iast hx hb hK hP (D_Model inj) hS 9 0 rfl rfl hi d_Model_tick_70 (fun H locs hP _ hS => ?_)
              have hP := up_Model_9 hP
              refine lv_iinc (v := (v2 + 1)) (lv' := [(2, .int (v2 + 1)), (0, .ref (ad 0)), (1, .int v1), (3, .int v3)]) hx hb d_Model_tick_71 hl (k := 2) rfl rfl (by decide) rfl (fun ls hl => ?_)
              refine lv_iinc (v := (v3 + 1)) (lv' := [(3, .int (v3 + 1)), (2, .int (v2 + 1)), (0, .ref (ad 0)), (1, .int v1)]) hx hb d_Model_tick_74 hl (k := 3) rfl rfl (by decide) rfl (fun ls hl => ?_)
              refine lv_goto (tgt := 33) hx hb d_Model_tick_77 (by decide) ?_
              exact ih 1 v1 (v2 + 1) (v3 + 1) (sto σ 9 v3.toNatClampNeg (-1)) h _ _ _ hP hS (lv_sub hl [2, 3, 1, 0] rfl)
      | _ + 2, h, _ => exact False.elim h
  exact key 4000 0 v1 0 0 σ h s.heap [] ls hP hS hl
def q_Model_close (v1 v2 : Int32) (σ : Sg) (Q : (Int32 → Sg → Prop)) : Prop :=
  ((v1 < 0 → Q 0 (sto σ 0 0 0)) ∧ (¬ v1 < 0 → ((((sto σ 0 0 0) 0 4) ≤ v1 → Q 0 (sto σ 0 0 0)) ∧ (¬ ((sto σ 0 0 0) 0 4) ≤ v1 → (vp_in v1 30 ∧ ((((sto σ 0 0 0) 6 v1.toNatClampNeg) = v2 → Q 0 (sto σ 0 0 0)) ∧ (¬ ((sto σ 0 0 0) 6 v1.toNatClampNeg) = v2 → (vp_in v1 30 ∧ Q 1 (sto (sto σ 0 0 0) 6 v1.toNatClampNeg (vp_nar .boolean v2))))))))))
set_option maxHeartbeats 4000000 in
set_option maxRecDepth 100000 in
theorem t_Model_close (l : Launch) (D : va_G) (cI cZ : ClassId) (ad : Nat → Nat) (inj : Inj ad 21) (v1 v2 : Int32) (σ : Sg) (Q : (Int32 → Sg → Prop)) (h : q_Model_close v1 v2 σ Q) : Met l y_Model_close (.code y_Model_close prog_9_method_28_code 3 (some .boolean) :: TG) { frames := 0, cells := 0, slots := 0, locals := 0 } (va_Pc [.ref (ad 0), .int v1, .int v2] (roB D (tysA cI cZ) (W_Model ad cI cZ σ))) (va_Qi Q (fun u t => va_P D classes (W_Model ad cI cZ u) t.heap) (inA ad 21)) 0 0 (inA ad 21) := by
  refine Met.ofW (cc := prog_9_method_28_code) (maxL := 3) (ret := (some .boolean)) (by decide) rfl ?_
  intro p e s m args below meth c s₁ B hml hv
  obtain ⟨rfl, hP, hK⟩ := hv
  have hx := B.exec
  have hb := B.bytes
  have hr := B.returns
  have hts : ∀ w ∈ TG, w.before [.ref (ad 0), .int v1, .int v2].toArray s = true := fun w hw => atoms_spec (ws := .code y_Model_close prog_9_method_28_code 3 (some .boolean) :: TG) B.pre w (List.mem_cons_of_mem _ hw)
  have hown : s.vm.findClass "CarrierPathsModel" = some m.cls := findClass_of_methodNamed B.named
  have hlocks := B.notSynchronized
  have hS : va_S (inA ad 21) s.heap s.heap [] := va_S.rf
  have hl := lv_entry ([.ref (ad 0), .int v1, .int v2]) (n := 3) (Nat.le_of_ble_eq_true rfl)
  rw [lg_entry_eq]
  generalize (lg_sl ([.ref (ad 0), .int v1, .int v2]) ++ List.replicate (3 - (lg_sl ([.ref (ad 0), .int v1, .int v2])).length) Slot.unset).toArray = ls at hl ⊢
  have hl : lv_has ls 3 [(0, .ref (ad 0)), (1, .int v1), (2, .int v2)] := hl
  unfold q_Model_close at h
  refine lv_aload_n hx hb d_Model_close_0 rfl (lv_at hl 0 rfl) ?_
  refine lv_iconst (v := 0) hx hb d_Model_close_1 (by decide) ?_
  refine va_put (D := D) (ci := 7) (v := .int 0) (ty := .int) (C := "CarrierPathsModel") (T := F_Model) (N := 27) hx hb hts in_Model ty_Model ty_Model_ok nm_Model hown hK hP (D_Model inj) hS 0 rfl rfl 0 (by decide) (hts _ kw755) (fun _ h9 => h9) rfl (by decide +kernel) rfl rfl (Nat.le_of_ble_eq_true rfl) d_Model_close_2 (fun H locs hP _ hS => ?_)
  have hP := up_Model_f0 hP
  refine lv_iload_n hx hb d_Model_close_5 rfl (lv_at hl 1 rfl) ?_
  refine lv_if_lt (tgt := 27) hx hb d_Model_close_6 (by decide) (fun hc => ?_) (fun hc => ?_)
  · have h := h.1 hc
    refine lv_iconst (v := 0) hx hb d_Model_close_27 (by decide) ?_
    exact W.zret (v := 0) hx hb hr (by decide) (fun t ht hW => ⟨⟨0, (sto σ 0 0 0), rfl, h, hp_back ht hP⟩, hS.F ht⟩) hS.2.2 d_Model_close_28
  · have h := h.2 hc
    refine lv_iload_n hx hb d_Model_close_9 rfl (lv_at hl 1 rfl) ?_
    refine lv_aload_n hx hb d_Model_close_10 rfl (lv_at hl 0 rfl) ?_
    refine va_get (D := D) (ci := 7) (v := .int ((sto σ 0 0 0) 0 4)) (C := "CarrierPathsModel") (T := F_Model) (N := 27) hx hb hts in_Model hown hK hP 0 rfl rfl 4 (by decide) (hts _ kw759) (fun _ h9 => h9) rfl d_Model_close_11 ?_
    refine lv_icmp_ge (tgt := 27) hx hb d_Model_close_14 (by decide) (fun hc => ?_) (fun hc => ?_)
    · have h := h.1 hc
      refine lv_iconst (v := 0) hx hb d_Model_close_27 (by decide) ?_
      exact W.zret (v := 0) hx hb hr (by decide) (fun t ht hW => ⟨⟨0, (sto σ 0 0 0), rfl, h, hp_back ht hP⟩, hS.F ht⟩) hS.2.2 d_Model_close_28
    · have h := h.2 hc
      refine lv_aload_n hx hb d_Model_close_17 rfl (lv_at hl 0 rfl) ?_
      refine va_get (D := D) (ci := 7) (v := .ref (ad 6)) (C := "CarrierPathsModel") (T := F_Model) (N := 27) hx hb hts in_Model hown hK hP 0 rfl rfl 8 (by decide) (hts _ kw763) (fun _ h9 => h9) rfl d_Model_close_18 ?_
      refine lv_iload_n hx hb d_Model_close_21 rfl (lv_at hl 1 rfl) ?_
      obtain ⟨hi, h⟩ := h
      refine va_zald hx hb hK hP 6 1 rfl rfl hi d_Model_close_22 ?_
      refine lv_iload_n hx hb d_Model_close_23 rfl (lv_at hl 2 rfl) ?_
      refine lv_icmp_ne (tgt := 29) hx hb d_Model_close_24 (by decide) (fun hc => ?_) (fun hc => ?_)
      · have h := h.2 hc
        refine lv_aload_n hx hb d_Model_close_29 rfl (lv_at hl 0 rfl) ?_
        refine va_get (D := D) (ci := 7) (v := .ref (ad 6)) (C := "CarrierPathsModel") (T := F_Model) (N := 27) hx hb hts in_Model hown hK hP 0 rfl rfl 8 (by decide) (hts _ kw763) (fun _ h9 => h9) rfl d_Model_close_30 ?_
        refine lv_iload_n hx hb d_Model_close_33 rfl (lv_at hl 1 rfl) ?_
        refine lv_iload_n hx hb d_Model_close_34 rfl (lv_at hl 2 rfl) ?_
        obtain ⟨hi, h⟩ := h
        refine va_zast hx hb hK hP (D_Model inj) hS 6 1 rfl rfl hi d_Model_close_35 (fun H locs hP _ hS => ?_)
        have hP := up_Model_6 hP
        refine lv_iconst (v := 1) hx hb d_Model_close_36 (by decide) ?_
        exact W.zret (v := 1) hx hb hr (by decide) (fun t ht hW => ⟨⟨1, (sto (sto σ 0 0 0) 6 v1.toNatClampNeg (vp_nar .boolean v2)), rfl, h, hp_back ht hP⟩, hS.F ht⟩) hS.2.2 d_Model_close_37
      · have h := h.1 hc
        refine lv_iconst (v := 0) hx hb d_Model_close_27 (by decide) ?_
        exact W.zret (v := 0) hx hb hr (by decide) (fun t ht hW => ⟨⟨0, (sto σ 0 0 0), rfl, h, hp_back ht hP⟩, hS.F ht⟩) hS.2.2 d_Model_close_28
def q_Model_charge (v1 : Int32) (σ : Sg) (Q : (Int32 → Sg → Prop)) : Prop :=
  (q_Model_isCarrier v1 σ (fun r1 => ((r1 = 0 → ((0 < ((sto σ 0 0 1) 0 0) → Q 0 (sto σ 0 0 1)) ∧ (¬ 0 < ((sto σ 0 0 1) 0 0) → (vp_in v1 6 ∧ ((((sto σ 0 0 1) 9 v1.toNatClampNeg) = (-1) → (vp_in v1 6 ∧ (vp_in ((sto σ 0 0 1) 8 v1.toNatClampNeg) 10 ∧ ((((sto σ 0 0 1) 2 ((sto σ 0 0 1) 8 v1.toNatClampNeg).toNatClampNeg) = 0 → Q 0 (sto σ 0 0 1)) ∧ (¬ ((sto σ 0 0 1) 2 ((sto σ 0 0 1) 8 v1.toNatClampNeg).toNatClampNeg) = 0 → (vp_in v1 6 ∧ Q 1 (sto (sto σ 0 0 1) 12 v1.toNatClampNeg 1000))))))) ∧ (¬ ((sto σ 0 0 1) 9 v1.toNatClampNeg) = (-1) → Q 0 (sto σ 0 0 1))))))) ∧ (¬ r1 = 0 → ((0 < ((sto σ 0 0 0) 0 0) → Q 0 (sto σ 0 0 0)) ∧ (¬ 0 < ((sto σ 0 0 0) 0 0) → (vp_in v1 6 ∧ ((((sto σ 0 0 0) 9 v1.toNatClampNeg) = (-1) → (vp_in v1 6 ∧ (vp_in ((sto σ 0 0 0) 8 v1.toNatClampNeg) 10 ∧ ((((sto σ 0 0 0) 2 ((sto σ 0 0 0) 8 v1.toNatClampNeg).toNatClampNeg) = 0 → Q 0 (sto σ 0 0 0)) ∧ (¬ ((sto σ 0 0 0) 2 ((sto σ 0 0 0) 8 v1.toNatClampNeg).toNatClampNeg) = 0 → (vp_in v1 6 ∧ Q 1 (sto (sto σ 0 0 0) 12 v1.toNatClampNeg 1000))))))) ∧ (¬ ((sto σ 0 0 0) 9 v1.toNatClampNeg) = (-1) → Q 0 (sto σ 0 0 0))))))))))
set_option maxHeartbeats 4000000 in
set_option maxRecDepth 100000 in
theorem t_Model_charge (l : Launch) (D : va_G) (cI cZ : ClassId) (ad : Nat → Nat) (inj : Inj ad 21) (v1 : Int32) (σ : Sg) (Q : (Int32 → Sg → Prop)) (h : q_Model_charge v1 σ Q) : Met l y_Model_charge (.code y_Model_charge prog_9_method_29_code 2 (some .boolean) :: TG) { frames := 1, cells := 0, slots := 0, locals := 21 } (va_Pc [.ref (ad 0), .int v1] (roB D (tysA cI cZ) (W_Model ad cI cZ σ))) (va_Qi Q (fun u t => va_P D classes (W_Model ad cI cZ u) t.heap) (inA ad 21)) 0 0 (inA ad 21) := by
  refine Met.ofW (cc := prog_9_method_29_code) (maxL := 2) (ret := (some .boolean)) (by decide) rfl ?_
  intro p e s m args below meth c s₁ B hml hv
  obtain ⟨rfl, hP, hK⟩ := hv
  have hx := B.exec
  have hb := B.bytes
  have hr := B.returns
  have hts : ∀ w ∈ TG, w.before [.ref (ad 0), .int v1].toArray s = true := fun w hw => atoms_spec (ws := .code y_Model_charge prog_9_method_29_code 2 (some .boolean) :: TG) B.pre w (List.mem_cons_of_mem _ hw)
  have hown : s.vm.findClass "CarrierPathsModel" = some m.cls := findClass_of_methodNamed B.named
  have hlocks := B.notSynchronized
  have hS : va_S (inA ad 21) s.heap s.heap [] := va_S.rf
  have hl := lv_entry ([.ref (ad 0), .int v1]) (n := 2) (Nat.le_of_ble_eq_true rfl)
  rw [lg_entry_eq]
  generalize (lg_sl ([.ref (ad 0), .int v1]) ++ List.replicate (2 - (lg_sl ([.ref (ad 0), .int v1])).length) Slot.unset).toArray = ls at hl ⊢
  have hl : lv_has ls 2 [(0, .ref (ad 0)), (1, .int v1)] := hl
  unfold q_Model_charge at h
  refine lv_aload_n hx hb d_Model_charge_0 rfl (lv_at hl 0 rfl) ?_
  refine lv_aload_n hx hb d_Model_charge_1 rfl (lv_at hl 0 rfl) ?_
  refine lv_iload_n hx hb d_Model_charge_2 rfl (lv_at hl 1 rfl) ?_
  refine vp_callSi (W.runV (As := [.int v1]) (rest := [.ref (ad 0)]) ⟨hx, hb, hml, hown, hts⟩ (t_Model_isCarrier l D cI cZ ad v1 σ _ h) (cwV 1 hts (g_of kw914 kw916 kp30 kw9 kw917) rfl rfl rfl (by decide +kernel) ⟨Nat.le_of_ble_eq_true rfl, Nat.le_of_ble_eq_true rfl⟩) (ro_pre hK hP (va_recv hK hP (ci := 7) (q0 := 0) rfl rfl)) rfl rfl hl.1 rfl (lv_room (Nat.le_of_ble_eq_true rfl)) d_Model_charge_3 ⟨Nat.le_of_ble_eq_true rfl, Nat.le_of_ble_eq_true rfl⟩) (fun r1 h => ?_)
  refine lv_if_eq (tgt := 13) hx hb d_Model_charge_6 (by decide) (fun hc => ?_) (fun hc => ?_)
  · have h := h.1 hc
    refine lv_iconst (v := 1) hx hb d_Model_charge_13 (by decide) ?_
    refine va_put (D := D) (ci := 7) (v := .int 1) (ty := .int) (C := "CarrierPathsModel") (T := F_Model) (N := 27) hx hb hts in_Model ty_Model ty_Model_ok nm_Model hown hK hP (D_Model inj) hS 0 rfl rfl 0 (by decide) (hts _ kw755) (fun _ h9 => h9) rfl (by decide +kernel) rfl rfl (Nat.le_of_ble_eq_true rfl) d_Model_charge_14 (fun H locs hP _ hS => ?_)
    have hP := up_Model_f0 hP
    refine lv_aload_n hx hb d_Model_charge_17 rfl (lv_at hl 0 rfl) ?_
    refine va_get (D := D) (ci := 7) (v := .int ((sto σ 0 0 1) 0 0)) (C := "CarrierPathsModel") (T := F_Model) (N := 27) hx hb hts in_Model hown hK hP 0 rfl rfl 0 (by decide) (hts _ kw755) (fun _ h9 => h9) rfl d_Model_charge_18 ?_
    refine lv_if_gt (tgt := 48) hx hb d_Model_charge_21 (by decide) (fun hc => ?_) (fun hc => ?_)
    · have h := h.1 hc
      refine lv_iconst (v := 0) hx hb d_Model_charge_48 (by decide) ?_
      exact W.zret (v := 0) hx hb hr (by decide) (fun t ht hW => ⟨⟨0, (sto σ 0 0 1), rfl, h, hp_back ht hP⟩, hS.F ht⟩) hS.2.2 d_Model_charge_49
    · have h := h.2 hc
      refine lv_aload_n hx hb d_Model_charge_24 rfl (lv_at hl 0 rfl) ?_
      refine va_get (D := D) (ci := 7) (v := .ref (ad 9)) (C := "CarrierPathsModel") (T := F_Model) (N := 27) hx hb hts in_Model hown hK hP 0 rfl rfl 13 (by decide) (hts _ kw768) (fun _ h9 => h9) rfl d_Model_charge_25 ?_
      refine lv_iload_n hx hb d_Model_charge_28 rfl (lv_at hl 1 rfl) ?_
      obtain ⟨hi, h⟩ := h
      refine va_iald hx hb hK hP 9 0 rfl rfl hi d_Model_charge_29 ?_
      refine lv_iconst (v := (-1)) hx hb d_Model_charge_30 (by decide) ?_
      refine lv_icmp_ne (tgt := 48) hx hb d_Model_charge_31 (by decide) (fun hc => ?_) (fun hc => ?_)
      · have h := h.2 hc
        refine lv_iconst (v := 0) hx hb d_Model_charge_48 (by decide) ?_
        exact W.zret (v := 0) hx hb hr (by decide) (fun t ht hW => ⟨⟨0, (sto σ 0 0 1), rfl, h, hp_back ht hP⟩, hS.F ht⟩) hS.2.2 d_Model_charge_49
      · have h := h.1 hc
        refine lv_aload_n hx hb d_Model_charge_34 rfl (lv_at hl 0 rfl) ?_
        refine va_get (D := D) (ci := 7) (v := .ref (ad 2)) (C := "CarrierPathsModel") (T := F_Model) (N := 27) hx hb hts in_Model hown hK hP 0 rfl rfl 3 (by decide) (hts _ kw758) (fun _ h9 => h9) rfl d_Model_charge_35 ?_
        refine lv_aload_n hx hb d_Model_charge_38 rfl (lv_at hl 0 rfl) ?_
        refine va_get (D := D) (ci := 7) (v := .ref (ad 8)) (C := "CarrierPathsModel") (T := F_Model) (N := 27) hx hb hts in_Model hown hK hP 0 rfl rfl 12 (by decide) (hts _ kw767) (fun _ h9 => h9) rfl d_Model_charge_39 ?_
        refine lv_iload_n hx hb d_Model_charge_42 rfl (lv_at hl 1 rfl) ?_
        obtain ⟨hi, h⟩ := h
        refine va_iald hx hb hK hP 8 0 rfl rfl hi d_Model_charge_43 ?_
        obtain ⟨hi, h⟩ := h
        refine va_zald hx hb hK hP 2 1 rfl rfl hi d_Model_charge_44 ?_
        refine lv_if_ne (tgt := 50) hx hb d_Model_charge_45 (by decide) (fun hc => ?_) (fun hc => ?_)
        · have h := h.2 hc
          refine lv_aload_n hx hb d_Model_charge_50 rfl (lv_at hl 0 rfl) ?_
          refine va_get (D := D) (ci := 7) (v := .ref (ad 12)) (C := "CarrierPathsModel") (T := F_Model) (N := 27) hx hb hts in_Model hown hK hP 0 rfl rfl 16 (by decide) (hts _ kw771) (fun _ h9 => h9) rfl d_Model_charge_51 ?_
          refine lv_iload_n hx hb d_Model_charge_54 rfl (lv_at hl 1 rfl) ?_
          refine lv_sipush (v := 1000) hx hb d_Model_charge_55 (by decide) ?_
          obtain ⟨hi, h⟩ := h
          refine va_iast hx hb hK hP (D_Model inj) hS 12 0 rfl rfl hi d_Model_charge_58 (fun H locs hP _ hS => ?_)
          have hP := up_Model_12 hP
          refine lv_iconst (v := 1) hx hb d_Model_charge_59 (by decide) ?_
          exact W.zret (v := 1) hx hb hr (by decide) (fun t ht hW => ⟨⟨1, (sto (sto σ 0 0 1) 12 v1.toNatClampNeg 1000), rfl, h, hp_back ht hP⟩, hS.F ht⟩) hS.2.2 d_Model_charge_60
        · have h := h.1 hc
          refine lv_iconst (v := 0) hx hb d_Model_charge_48 (by decide) ?_
          exact W.zret (v := 0) hx hb hr (by decide) (fun t ht hW => ⟨⟨0, (sto σ 0 0 1), rfl, h, hp_back ht hP⟩, hS.F ht⟩) hS.2.2 d_Model_charge_49
  · have h := h.2 hc
    refine lv_iconst (v := 0) hx hb d_Model_charge_9 (by decide) ?_
    refine lv_goto (tgt := 14) hx hb d_Model_charge_10 (by decide) ?_
    refine va_put (D := D) (ci := 7) (v := .int 0) (ty := .int) (C := "CarrierPathsModel") (T := F_Model) (N := 27) hx hb hts in_Model ty_Model ty_Model_ok nm_Model hown hK hP (D_Model inj) hS 0 rfl rfl 0 (by decide) (hts _ kw755) (fun _ h9 => h9) rfl (by decide +kernel) rfl rfl (Nat.le_of_ble_eq_true rfl) d_Model_charge_14 (fun H locs hP _ hS => ?_)
    have hP := up_Model_f0 hP
    refine lv_aload_n hx hb d_Model_charge_17 rfl (lv_at hl 0 rfl) ?_
    refine va_get (D := D) (ci := 7) (v := .int ((sto σ 0 0 0) 0 0)) (C := "CarrierPathsModel") (T := F_Model) (N := 27) hx hb hts in_Model hown hK hP 0 rfl rfl 0 (by decide) (hts _ kw755) (fun _ h9 => h9) rfl d_Model_charge_18 ?_
    refine lv_if_gt (tgt := 48) hx hb d_Model_charge_21 (by decide) (fun hc => ?_) (fun hc => ?_)
    · have h := h.1 hc
      refine lv_iconst (v := 0) hx hb d_Model_charge_48 (by decide) ?_
      exact W.zret (v := 0) hx hb hr (by decide) (fun t ht hW => ⟨⟨0, (sto σ 0 0 0), rfl, h, hp_back ht hP⟩, hS.F ht⟩) hS.2.2 d_Model_charge_49
    · have h := h.2 hc
      refine lv_aload_n hx hb d_Model_charge_24 rfl (lv_at hl 0 rfl) ?_
      refine va_get (D := D) (ci := 7) (v := .ref (ad 9)) (C := "CarrierPathsModel") (T := F_Model) (N := 27) hx hb hts in_Model hown hK hP 0 rfl rfl 13 (by decide) (hts _ kw768) (fun _ h9 => h9) rfl d_Model_charge_25 ?_
      refine lv_iload_n hx hb d_Model_charge_28 rfl (lv_at hl 1 rfl) ?_
      obtain ⟨hi, h⟩ := h
      refine va_iald hx hb hK hP 9 0 rfl rfl hi d_Model_charge_29 ?_
      refine lv_iconst (v := (-1)) hx hb d_Model_charge_30 (by decide) ?_
      refine lv_icmp_ne (tgt := 48) hx hb d_Model_charge_31 (by decide) (fun hc => ?_) (fun hc => ?_)
      · have h := h.2 hc
        refine lv_iconst (v := 0) hx hb d_Model_charge_48 (by decide) ?_
        exact W.zret (v := 0) hx hb hr (by decide) (fun t ht hW => ⟨⟨0, (sto σ 0 0 0), rfl, h, hp_back ht hP⟩, hS.F ht⟩) hS.2.2 d_Model_charge_49
      · have h := h.1 hc
        refine lv_aload_n hx hb d_Model_charge_34 rfl (lv_at hl 0 rfl) ?_
        refine va_get (D := D) (ci := 7) (v := .ref (ad 2)) (C := "CarrierPathsModel") (T := F_Model) (N := 27) hx hb hts in_Model hown hK hP 0 rfl rfl 3 (by decide) (hts _ kw758) (fun _ h9 => h9) rfl d_Model_charge_35 ?_
        refine lv_aload_n hx hb d_Model_charge_38 rfl (lv_at hl 0 rfl) ?_
        refine va_get (D := D) (ci := 7) (v := .ref (ad 8)) (C := "CarrierPathsModel") (T := F_Model) (N := 27) hx hb hts in_Model hown hK hP 0 rfl rfl 12 (by decide) (hts _ kw767) (fun _ h9 => h9) rfl d_Model_charge_39 ?_
        refine lv_iload_n hx hb d_Model_charge_42 rfl (lv_at hl 1 rfl) ?_
        obtain ⟨hi, h⟩ := h
        refine va_iald hx hb hK hP 8 0 rfl rfl hi d_Model_charge_43 ?_
        obtain ⟨hi, h⟩ := h
        refine va_zald hx hb hK hP 2 1 rfl rfl hi d_Model_charge_44 ?_
        refine lv_if_ne (tgt := 50) hx hb d_Model_charge_45 (by decide) (fun hc => ?_) (fun hc => ?_)
        · have h := h.2 hc
          refine lv_aload_n hx hb d_Model_charge_50 rfl (lv_at hl 0 rfl) ?_
          refine va_get (D := D) (ci := 7) (v := .ref (ad 12)) (C := "CarrierPathsModel") (T := F_Model) (N := 27) hx hb hts in_Model hown hK hP 0 rfl rfl 16 (by decide) (hts _ kw771) (fun _ h9 => h9) rfl d_Model_charge_51 ?_
          refine lv_iload_n hx hb d_Model_charge_54 rfl (lv_at hl 1 rfl) ?_
          refine lv_sipush (v := 1000) hx hb d_Model_charge_55 (by decide) ?_
          obtain ⟨hi, h⟩ := h
          refine va_iast hx hb hK hP (D_Model inj) hS 12 0 rfl rfl hi d_Model_charge_58 (fun H locs hP _ hS => ?_)
          have hP := up_Model_12 hP
          refine lv_iconst (v := 1) hx hb d_Model_charge_59 (by decide) ?_
          exact W.zret (v := 1) hx hb hr (by decide) (fun t ht hW => ⟨⟨1, (sto (sto σ 0 0 0) 12 v1.toNatClampNeg 1000), rfl, h, hp_back ht hP⟩, hS.F ht⟩) hS.2.2 d_Model_charge_60
        · have h := h.1 hc
          refine lv_iconst (v := 0) hx hb d_Model_charge_48 (by decide) ?_
          exact W.zret (v := 0) hx hb hr (by decide) (fun t ht hW => ⟨⟨0, (sto σ 0 0 0), rfl, h, hp_back ht hP⟩, hS.F ht⟩) hS.2.2 d_Model_charge_49
def q_Model_look_b0 (J : Nat → Int32 → Int32 → Sg → Prop) (Q : (Int32 → Sg → Prop)) (v1 v2 : Int32) (σ : Sg) : Prop :=
  (q_Model_isCarrier v1 σ (fun r1 => ((r1 = 0 → J 1 v1 v2 σ) ∧ (¬ r1 = 0 → (q_Model_in v2 0 6 (fun r2 => ((r2 = 0 → J 1 v1 v2 σ) ∧ (¬ r2 = 0 → ((v2 = 0 → (vp_in v1 6 ∧ Q ((sto σ 0 0 0) 8 v1.toNatClampNeg) (sto σ 0 0 0))) ∧ (¬ v2 = 0 → ((v2 = 1 → (vp_in v1 6 ∧ Q ((sto σ 0 0 0) 9 v1.toNatClampNeg) (sto σ 0 0 0))) ∧ (¬ v2 = 1 → ((v2 = 2 → (vp_in v1 6 ∧ ((((sto σ 0 0 0) 9 v1.toNatClampNeg) = (-1) → Q (-1) (sto σ 0 0 0)) ∧ (¬ ((sto σ 0 0 0) 9 v1.toNatClampNeg) = (-1) → (vp_in v1 6 ∧ Q ((sto σ 0 0 0) 10 v1.toNatClampNeg) (sto σ 0 0 0)))))) ∧ (¬ v2 = 2 → ((v2 = 3 → (vp_in v1 6 ∧ Q ((sto σ 0 0 0) 11 v1.toNatClampNeg) (sto σ 0 0 0))) ∧ (¬ v2 = 3 → ((v2 = 4 → (vp_in v1 6 ∧ Q ((sto σ 0 0 0) 12 v1.toNatClampNeg) (sto σ 0 0 0))) ∧ (¬ v2 = 4 → ((v2 = 5 → (vp_in v1 6 ∧ Q ((sto σ 0 0 0) 13 v1.toNatClampNeg) (sto σ 0 0 0))) ∧ (¬ v2 = 5 → (vp_in v1 6 ∧ Q ((sto σ 0 0 0) 14 v1.toNatClampNeg) (sto σ 0 0 0))))))))))))))))))))))
def q_Model_look_b1 (J : Nat → Int32 → Int32 → Sg → Prop) (Q : (Int32 → Sg → Prop)) (v1 v2 : Int32) (σ : Sg) : Prop :=
  (q_Model_fails 1 σ (fun r4 u3 => Q r4 u3))
def q_Model_look_j (Q : (Int32 → Sg → Prop)) : Nat → Nat → Int32 → Int32 → Sg → Prop
  | 0, _, _, _, _ => False
  | n + 1, 0, v1, v2, σ => q_Model_look_b0 (q_Model_look_j Q n) Q v1 v2 σ
  | n + 1, 1, v1, v2, σ => q_Model_look_b1 (q_Model_look_j Q n) Q v1 v2 σ
  | _ + 1, _ + 2, _, _, _ => False
def q_Model_look (v1 v2 : Int32) (σ : Sg) (Q : (Int32 → Sg → Prop)) : Prop := q_Model_look_j Q 4000 0 v1 v2 σ
def lc_Model_look (ad : Nat → Nat) (b : Nat) (v1 v2 : Int32) : List (Nat × Value) := match b with
  | 0 => [(0, .ref (ad 0)), (1, .int v1), (2, .int v2)]
  | 1 => [(0, .ref (ad 0)), (1, .int v1), (2, .int v2)]
  | _ => []
def pc_Model_look (b : Nat) : Nat := match b with
  | 0 => 0
  | 1 => 18
  | _ => 0
set_option maxHeartbeats 4000000 in
set_option maxRecDepth 100000 in
theorem t_Model_look (l : Launch) (D : va_G) (cI cZ : ClassId) (ad : Nat → Nat) (inj : Inj ad 21) (v1 v2 : Int32) (σ : Sg) (Q : (Int32 → Sg → Prop)) (h : q_Model_look v1 v2 σ Q) : Met l y_Model_look (.code y_Model_look prog_9_method_30_code 3 (some .int) :: TG) { frames := 1, cells := 0, slots := 0, locals := 22 } (va_Pc [.ref (ad 0), .int v1, .int v2] (roB D (tysA cI cZ) (W_Model ad cI cZ σ))) (va_Qi Q (fun u t => va_P D classes (W_Model ad cI cZ u) t.heap) (inA ad 21)) 0 0 (inA ad 21) := by
  refine Met.ofW (cc := prog_9_method_30_code) (maxL := 3) (ret := (some .int)) (by decide) rfl ?_
  intro p e s m args below meth c s₁ B hml hv
  obtain ⟨rfl, hP, hK⟩ := hv
  have hx := B.exec
  have hb := B.bytes
  have hr := B.returns
  have hts : ∀ w ∈ TG, w.before [.ref (ad 0), .int v1, .int v2].toArray s = true := fun w hw => atoms_spec (ws := .code y_Model_look prog_9_method_30_code 3 (some .int) :: TG) B.pre w (List.mem_cons_of_mem _ hw)
  have hown : s.vm.findClass "CarrierPathsModel" = some m.cls := findClass_of_methodNamed B.named
  have hlocks := B.notSynchronized
  have hS : va_S (inA ad 21) s.heap s.heap [] := va_S.rf
  have hl := lv_entry ([.ref (ad 0), .int v1, .int v2]) (n := 3) (Nat.le_of_ble_eq_true rfl)
  rw [lg_entry_eq]
  generalize (lg_sl ([.ref (ad 0), .int v1, .int v2]) ++ List.replicate (3 - (lg_sl ([.ref (ad 0), .int v1, .int v2])).length) Slot.unset).toArray = ls at hl ⊢
  generalize ([.ref (ad 0), .int v1, .int v2] : List Value).toArray = args at hts ⊢
  have key : ∀ (n b : Nat) (v1 v2 : Int32) (σ : Sg), q_Model_look_j Q n b v1 v2 σ → ∀ (H : Heap) (locs : List Loc) (ls : Array Slot), va_P D classes (W_Model ad cI cZ σ) H → va_S (inA ad 21) s.heap H locs → lv_has ls 3 (lc_Model_look ad b v1 v2) → W p l e (headSpec (.code y_Model_look prog_9_method_30_code 3 (some .int) :: TG) { frames := 1, cells := 0, slots := 0, locals := 22 }).room s m args below meth c H locs 0 0 (MQ below (va_Qi Q (fun u t => va_P D classes (W_Model ad cI cZ u) t.heap) (inA ad 21)) args s 0 0 (inA ad 21)) (F0 m (pc_Model_look b) ls []) := by
    clear h hl hP hS
    intro n
    induction n with
    | zero => intro b _ _ _ h; exact False.elim h
    | succ n ih =>
      intro b v1 v2 σ h H locs ls hP hS hl
      match b, h, hl with
      | 0, h, hl =>
        have h : q_Model_look_b0 (q_Model_look_j Q n) Q v1 v2 σ := h
        have hl : lv_has ls 3 [(0, .ref (ad 0)), (1, .int v1), (2, .int v2)] := hl
        refine W.eq (g2 := F0 m 0 ls []) rfl ?_
        unfold q_Model_look_b0 at h
        refine lv_aload_n hx hb d_Model_look_0 rfl (lv_at hl 0 rfl) ?_
        refine lv_iload_n hx hb d_Model_look_1 rfl (lv_at hl 1 rfl) ?_
        refine vp_callSi (W.runV (As := [.int v1]) (rest := []) ⟨hx, hb, hml, hown, hts⟩ (t_Model_isCarrier l D cI cZ ad v1 σ _ h) (cwV 1 hts (g_of kw914 kw916 kp30 kw9 kw917) rfl rfl rfl (by decide +kernel) ⟨Nat.le_of_ble_eq_true rfl, Nat.le_of_ble_eq_true rfl⟩) (ro_pre hK hP (va_recv hK hP (ci := 7) (q0 := 0) rfl rfl)) rfl rfl hl.1 rfl (lv_room (Nat.le_of_ble_eq_true rfl)) d_Model_look_2 ⟨Nat.le_of_ble_eq_true rfl, Nat.le_of_ble_eq_true rfl⟩) (fun r1 h => ?_)
        refine lv_if_eq (tgt := 18) hx hb d_Model_look_5 (by decide) (fun hc => ?_) (fun hc => ?_)
        · have h := h.1 hc
          exact ih 1 v1 v2 σ h _ _ _ hP hS (lv_sub hl [0, 1, 2] rfl)
        · have h := h.2 hc
          refine lv_iload_n hx hb d_Model_look_8 rfl (lv_at hl 2 rfl) ?_
          refine lv_iconst (v := 0) hx hb d_Model_look_9 (by decide) ?_
          refine lv_bipush (v := 6) hx hb d_Model_look_10 (by decide) ?_
          refine vp_callSi (W.runS (As := [.int v2, .int 0, .int 6]) (rest := []) ⟨hx, hb, hml, hown, hts⟩ (t_Model_in l v2 0 6 _ h) (va_cwS 3 hts (gS_of kw849 kw850 kw9 kw851) rfl rfl rfl (by decide +kernel) ⟨Nat.le_of_ble_eq_true rfl, Nat.le_of_ble_eq_true rfl⟩) st_pre rfl rfl hl.1 rfl (lv_room (Nat.le_of_ble_eq_true rfl)) d_Model_look_12 ⟨Nat.le_of_ble_eq_true rfl, Nat.le_of_ble_eq_true rfl⟩) (fun r2 h => ?_)
          refine lv_if_ne (tgt := 24) hx hb d_Model_look_15 (by decide) (fun hc => ?_) (fun hc => ?_)
          · have h := h.2 hc
            refine lv_aload_n hx hb d_Model_look_24 rfl (lv_at hl 0 rfl) ?_
            refine lv_iconst (v := 0) hx hb d_Model_look_25 (by decide) ?_
            refine va_put (D := D) (ci := 7) (v := .int 0) (ty := .int) (C := "CarrierPathsModel") (T := F_Model) (N := 27) hx hb hts in_Model ty_Model ty_Model_ok nm_Model hown hK hP (D_Model inj) hS 0 rfl rfl 0 (by decide) (hts _ kw755) (fun _ h9 => h9) rfl (by decide +kernel) rfl rfl (Nat.le_of_ble_eq_true rfl) d_Model_look_26 (fun H locs hP _ hS => ?_)
            have hP := up_Model_f0 hP
            refine lv_iload_n hx hb d_Model_look_29 rfl (lv_at hl 2 rfl) ?_
            by_cases hc0 : v2 = 0
            · have h := h.1 hc0
              refine lv_tableIn (tgt := 68) (off := 38) hx hb d_Model_look_30 (by rw [hc0]; decide) (by rw [hc0]; decide) (by rw [hc0]; decide) (by decide) ?_
              refine lv_aload_n hx hb d_Model_look_68 rfl (lv_at hl 0 rfl) ?_
              refine va_get (D := D) (ci := 7) (v := .ref (ad 8)) (C := "CarrierPathsModel") (T := F_Model) (N := 27) hx hb hts in_Model hown hK hP 0 rfl rfl 12 (by decide) (hts _ kw767) (fun _ h9 => h9) rfl d_Model_look_69 ?_
              refine lv_iload_n hx hb d_Model_look_72 rfl (lv_at hl 1 rfl) ?_
              obtain ⟨hi, h⟩ := h
              refine va_iald hx hb hK hP 8 0 rfl rfl hi d_Model_look_73 ?_
              exact W.iret (v := ((sto σ 0 0 0) 8 v1.toNatClampNeg)) hx hb hr (fun t ht hW => ⟨⟨((sto σ 0 0 0) 8 v1.toNatClampNeg), (sto σ 0 0 0), rfl, h, hp_back ht hP⟩, hS.F ht⟩) hS.2.2 d_Model_look_74
            · have h := h.2 hc0
              by_cases hc1 : v2 = 1
              · have h := h.1 hc1
                refine lv_tableIn (tgt := 75) (off := 45) hx hb d_Model_look_30 (by rw [hc1]; decide) (by rw [hc1]; decide) (by rw [hc1]; decide) (by decide) ?_
                refine lv_aload_n hx hb d_Model_look_75 rfl (lv_at hl 0 rfl) ?_
                refine va_get (D := D) (ci := 7) (v := .ref (ad 9)) (C := "CarrierPathsModel") (T := F_Model) (N := 27) hx hb hts in_Model hown hK hP 0 rfl rfl 13 (by decide) (hts _ kw768) (fun _ h9 => h9) rfl d_Model_look_76 ?_
                refine lv_iload_n hx hb d_Model_look_79 rfl (lv_at hl 1 rfl) ?_
                obtain ⟨hi, h⟩ := h
                refine va_iald hx hb hK hP 9 0 rfl rfl hi d_Model_look_80 ?_
                exact W.iret (v := ((sto σ 0 0 0) 9 v1.toNatClampNeg)) hx hb hr (fun t ht hW => ⟨⟨((sto σ 0 0 0) 9 v1.toNatClampNeg), (sto σ 0 0 0), rfl, h, hp_back ht hP⟩, hS.F ht⟩) hS.2.2 d_Model_look_81
              · have h := h.2 hc1
                by_cases hc2 : v2 = 2
                · have h := h.1 hc2
                  refine lv_tableIn (tgt := 82) (off := 52) hx hb d_Model_look_30 (by rw [hc2]; decide) (by rw [hc2]; decide) (by rw [hc2]; decide) (by decide) ?_
                  refine lv_aload_n hx hb d_Model_look_82 rfl (lv_at hl 0 rfl) ?_
                  refine va_get (D := D) (ci := 7) (v := .ref (ad 9)) (C := "CarrierPathsModel") (T := F_Model) (N := 27) hx hb hts in_Model hown hK hP 0 rfl rfl 13 (by decide) (hts _ kw768) (fun _ h9 => h9) rfl d_Model_look_83 ?_
                  refine lv_iload_n hx hb d_Model_look_86 rfl (lv_at hl 1 rfl) ?_
                  obtain ⟨hi, h⟩ := h
                  refine va_iald hx hb hK hP 9 0 rfl rfl hi d_Model_look_87 ?_
                  refine lv_iconst (v := (-1)) hx hb d_Model_look_88 (by decide) ?_
                  refine lv_icmp_ne (tgt := 96) hx hb d_Model_look_89 (by decide) (fun hc => ?_) (fun hc => ?_)
                  · have h := h.2 hc
                    refine lv_aload_n hx hb d_Model_look_96 rfl (lv_at hl 0 rfl) ?_
                    refine va_get (D := D) (ci := 7) (v := .ref (ad 10)) (C := "CarrierPathsModel") (T := F_Model) (N := 27) hx hb hts in_Model hown hK hP 0 rfl rfl 14 (by decide) (hts _ kw769) (fun _ h9 => h9) rfl d_Model_look_97 ?_
                    refine lv_iload_n hx hb d_Model_look_100 rfl (lv_at hl 1 rfl) ?_
                    obtain ⟨hi, h⟩ := h
                    refine va_iald hx hb hK hP 10 0 rfl rfl hi d_Model_look_101 ?_
                    exact W.iret (v := ((sto σ 0 0 0) 10 v1.toNatClampNeg)) hx hb hr (fun t ht hW => ⟨⟨((sto σ 0 0 0) 10 v1.toNatClampNeg), (sto σ 0 0 0), rfl, h, hp_back ht hP⟩, hS.F ht⟩) hS.2.2 d_Model_look_102
                  · have h := h.1 hc
                    refine lv_iconst (v := (-1)) hx hb d_Model_look_92 (by decide) ?_
                    refine lv_goto (tgt := 102) hx hb d_Model_look_93 (by decide) ?_
                    exact W.iret (v := (-1)) hx hb hr (fun t ht hW => ⟨⟨(-1), (sto σ 0 0 0), rfl, h, hp_back ht hP⟩, hS.F ht⟩) hS.2.2 d_Model_look_102
                · have h := h.2 hc2
                  by_cases hc3 : v2 = 3
                  · have h := h.1 hc3
                    refine lv_tableIn (tgt := 103) (off := 73) hx hb d_Model_look_30 (by rw [hc3]; decide) (by rw [hc3]; decide) (by rw [hc3]; decide) (by decide) ?_
                    refine lv_aload_n hx hb d_Model_look_103 rfl (lv_at hl 0 rfl) ?_
                    refine va_get (D := D) (ci := 7) (v := .ref (ad 11)) (C := "CarrierPathsModel") (T := F_Model) (N := 27) hx hb hts in_Model hown hK hP 0 rfl rfl 15 (by decide) (hts _ kw770) (fun _ h9 => h9) rfl d_Model_look_104 ?_
                    refine lv_iload_n hx hb d_Model_look_107 rfl (lv_at hl 1 rfl) ?_
                    obtain ⟨hi, h⟩ := h
                    refine va_iald hx hb hK hP 11 0 rfl rfl hi d_Model_look_108 ?_
                    exact W.iret (v := ((sto σ 0 0 0) 11 v1.toNatClampNeg)) hx hb hr (fun t ht hW => ⟨⟨((sto σ 0 0 0) 11 v1.toNatClampNeg), (sto σ 0 0 0), rfl, h, hp_back ht hP⟩, hS.F ht⟩) hS.2.2 d_Model_look_109
                  · have h := h.2 hc3
                    by_cases hc4 : v2 = 4
                    · have h := h.1 hc4
                      refine lv_tableIn (tgt := 110) (off := 80) hx hb d_Model_look_30 (by rw [hc4]; decide) (by rw [hc4]; decide) (by rw [hc4]; decide) (by decide) ?_
                      refine lv_aload_n hx hb d_Model_look_110 rfl (lv_at hl 0 rfl) ?_
                      refine va_get (D := D) (ci := 7) (v := .ref (ad 12)) (C := "CarrierPathsModel") (T := F_Model) (N := 27) hx hb hts in_Model hown hK hP 0 rfl rfl 16 (by decide) (hts _ kw771) (fun _ h9 => h9) rfl d_Model_look_111 ?_
                      refine lv_iload_n hx hb d_Model_look_114 rfl (lv_at hl 1 rfl) ?_
                      obtain ⟨hi, h⟩ := h
                      refine va_iald hx hb hK hP 12 0 rfl rfl hi d_Model_look_115 ?_
                      exact W.iret (v := ((sto σ 0 0 0) 12 v1.toNatClampNeg)) hx hb hr (fun t ht hW => ⟨⟨((sto σ 0 0 0) 12 v1.toNatClampNeg), (sto σ 0 0 0), rfl, h, hp_back ht hP⟩, hS.F ht⟩) hS.2.2 d_Model_look_116
                    · have h := h.2 hc4
                      by_cases hc5 : v2 = 5
                      · have h := h.1 hc5
                        refine lv_tableIn (tgt := 117) (off := 87) hx hb d_Model_look_30 (by rw [hc5]; decide) (by rw [hc5]; decide) (by rw [hc5]; decide) (by decide) ?_
                        refine lv_aload_n hx hb d_Model_look_117 rfl (lv_at hl 0 rfl) ?_
                        refine va_get (D := D) (ci := 7) (v := .ref (ad 13)) (C := "CarrierPathsModel") (T := F_Model) (N := 27) hx hb hts in_Model hown hK hP 0 rfl rfl 17 (by decide) (hts _ kw772) (fun _ h9 => h9) rfl d_Model_look_118 ?_
                        refine lv_iload_n hx hb d_Model_look_121 rfl (lv_at hl 1 rfl) ?_
                        obtain ⟨hi, h⟩ := h
                        refine va_iald hx hb hK hP 13 0 rfl rfl hi d_Model_look_122 ?_
                        exact W.iret (v := ((sto σ 0 0 0) 13 v1.toNatClampNeg)) hx hb hr (fun t ht hW => ⟨⟨((sto σ 0 0 0) 13 v1.toNatClampNeg), (sto σ 0 0 0), rfl, h, hp_back ht hP⟩, hS.F ht⟩) hS.2.2 d_Model_look_123
                      · have h := h.2 hc5
                        refine lv_tableOut (tgt := 124) hx hb d_Model_look_30 (by have e0 := lv_neT hc0 (a := 0) (by decide); have e1 := lv_neT hc1 (a := 1) (by decide); have e2 := lv_neT hc2 (a := 2) (by decide); have e3 := lv_neT hc3 (a := 3) (by decide); have e4 := lv_neT hc4 (a := 4) (by decide); have e5 := lv_neT hc5 (a := 5) (by decide); omega) (by decide) ?_
                        refine lv_aload_n hx hb d_Model_look_124 rfl (lv_at hl 0 rfl) ?_
                        refine va_get (D := D) (ci := 7) (v := .ref (ad 14)) (C := "CarrierPathsModel") (T := F_Model) (N := 27) hx hb hts in_Model hown hK hP 0 rfl rfl 18 (by decide) (hts _ kw773) (fun _ h9 => h9) rfl d_Model_look_125 ?_
                        refine lv_iload_n hx hb d_Model_look_128 rfl (lv_at hl 1 rfl) ?_
                        obtain ⟨hi, h⟩ := h
                        refine va_iald hx hb hK hP 14 0 rfl rfl hi d_Model_look_129 ?_
                        exact W.iret (v := ((sto σ 0 0 0) 14 v1.toNatClampNeg)) hx hb hr (fun t ht hW => ⟨⟨((sto σ 0 0 0) 14 v1.toNatClampNeg), (sto σ 0 0 0), rfl, h, hp_back ht hP⟩, hS.F ht⟩) hS.2.2 d_Model_look_130
          · have h := h.1 hc
            exact ih 1 v1 v2 σ h _ _ _ hP hS (lv_sub hl [0, 1, 2] rfl)
      | 1, h, hl =>
        have h : q_Model_look_b1 (q_Model_look_j Q n) Q v1 v2 σ := h
        have hl : lv_has ls 3 [(0, .ref (ad 0)), (1, .int v1), (2, .int v2)] := hl
        refine W.eq (g2 := F0 m 18 ls []) rfl ?_
        unfold q_Model_look_b1 at h
        refine lv_aload_n hx hb d_Model_look_18 rfl (lv_at hl 0 rfl) ?_
        refine lv_iconst (v := 1) hx hb d_Model_look_19 (by decide) ?_
        refine va_calli (va_runV (As := [.int 1]) (rest := []) ⟨hx, hb, hml, hown, hts⟩ (t_Model_fails l D cI cZ ad inj 1 σ _ h) (cwV 1 hts (g_of kw852 kw854 kp23 kw9 kw855) rfl rfl rfl (by decide +kernel) ⟨Nat.le_of_ble_eq_true rfl, Nat.le_of_ble_eq_true rfl⟩) (ro_pre hK hP (va_recv hK hP (ci := 7) (q0 := 0) rfl rfl)) rfl rfl hl.1 rfl (lv_room (Nat.le_of_ble_eq_true rfl)) d_Model_look_20 ⟨Nat.le_of_ble_eq_true rfl, Nat.le_of_ble_eq_true rfl⟩) hS (fun _ _ h => h) (fun _ h => h) (fun r4 u3 t H1 locs ht _ h hP1 _ hk1 hS => ?_)
        have hP1 : va_P D classes (W_Model ad cI cZ u3) H1 := hp_fwd ht hP1
        clear hk1 ht
        generalize H1 = H at hP1 hS ⊢
        have hP := hP1
        exact W.iret (v := r4) hx hb hr (fun t ht hW => ⟨⟨r4, u3, rfl, h, hp_back ht hP⟩, hS.F ht⟩) hS.2.2 d_Model_look_23
      | _ + 2, h, _ => exact False.elim h
  exact key 4000 0 v1 v2 σ h s.heap [] ls hP hS hl
def q_Model_of_b0 (J : Nat → Int32 → Int32 → Sg → Prop) (Q : (Int32 → Sg → Prop)) (v1 v2 : Int32) (σ : Sg) : Prop :=
  ((v1 < 0 → J 1 v1 v2 σ) ∧ (¬ v1 < 0 → (((σ 0 19) ≤ v1 → J 1 v1 v2 σ) ∧ (¬ (σ 0 19) ≤ v1 → (q_Model_in v2 0 3 (fun r1 => ((r1 = 0 → J 1 v1 v2 σ) ∧ (¬ r1 = 0 → ((v2 = 0 → (vp_in v1 12 ∧ Q ((sto σ 0 0 0) 15 v1.toNatClampNeg) (sto σ 0 0 0))) ∧ (¬ v2 = 0 → ((v2 = 1 → (vp_in v1 12 ∧ Q ((sto σ 0 0 0) 16 v1.toNatClampNeg) (sto σ 0 0 0))) ∧ (¬ v2 = 1 → ((v2 = 2 → (vp_in v1 12 ∧ Q ((sto σ 0 0 0) 17 v1.toNatClampNeg) (sto σ 0 0 0))) ∧ (¬ v2 = 2 → (vp_in v1 12 ∧ Q ((sto σ 0 0 0) 18 v1.toNatClampNeg) (sto σ 0 0 0))))))))))))))))
def q_Model_of_b1 (J : Nat → Int32 → Int32 → Sg → Prop) (Q : (Int32 → Sg → Prop)) (v1 v2 : Int32) (σ : Sg) : Prop :=
  (q_Model_fails 1 σ (fun r3 u2 => Q r3 u2))
def q_Model_of_j (Q : (Int32 → Sg → Prop)) : Nat → Nat → Int32 → Int32 → Sg → Prop
  | 0, _, _, _, _ => False
  | n + 1, 0, v1, v2, σ => q_Model_of_b0 (q_Model_of_j Q n) Q v1 v2 σ
  | n + 1, 1, v1, v2, σ => q_Model_of_b1 (q_Model_of_j Q n) Q v1 v2 σ
  | _ + 1, _ + 2, _, _, _ => False
def q_Model_of (v1 v2 : Int32) (σ : Sg) (Q : (Int32 → Sg → Prop)) : Prop := q_Model_of_j Q 4000 0 v1 v2 σ
def lc_Model_of (ad : Nat → Nat) (b : Nat) (v1 v2 : Int32) : List (Nat × Value) := match b with
  | 0 => [(0, .ref (ad 0)), (1, .int v1), (2, .int v2)]
  | 1 => [(0, .ref (ad 0)), (1, .int v1), (2, .int v2)]
  | _ => []
def pc_Model_of (b : Nat) : Nat := match b with
  | 0 => 0
  | 1 => 21
  | _ => 0
set_option maxHeartbeats 4000000 in
set_option maxRecDepth 100000 in
theorem t_Model_of (l : Launch) (D : va_G) (cI cZ : ClassId) (ad : Nat → Nat) (inj : Inj ad 21) (v1 v2 : Int32) (σ : Sg) (Q : (Int32 → Sg → Prop)) (h : q_Model_of v1 v2 σ Q) : Met l y_Model_of (.code y_Model_of prog_9_method_31_code 3 (some .int) :: TG) { frames := 1, cells := 0, slots := 0, locals := 22 } (va_Pc [.ref (ad 0), .int v1, .int v2] (roB D (tysA cI cZ) (W_Model ad cI cZ σ))) (va_Qi Q (fun u t => va_P D classes (W_Model ad cI cZ u) t.heap) (inA ad 21)) 0 0 (inA ad 21) := by
  refine Met.ofW (cc := prog_9_method_31_code) (maxL := 3) (ret := (some .int)) (by decide) rfl ?_
  intro p e s m args below meth c s₁ B hml hv
  obtain ⟨rfl, hP, hK⟩ := hv
  have hx := B.exec
  have hb := B.bytes
  have hr := B.returns
  have hts : ∀ w ∈ TG, w.before [.ref (ad 0), .int v1, .int v2].toArray s = true := fun w hw => atoms_spec (ws := .code y_Model_of prog_9_method_31_code 3 (some .int) :: TG) B.pre w (List.mem_cons_of_mem _ hw)
  have hown : s.vm.findClass "CarrierPathsModel" = some m.cls := findClass_of_methodNamed B.named
  have hlocks := B.notSynchronized
  have hS : va_S (inA ad 21) s.heap s.heap [] := va_S.rf
  have hl := lv_entry ([.ref (ad 0), .int v1, .int v2]) (n := 3) (Nat.le_of_ble_eq_true rfl)
  rw [lg_entry_eq]
  generalize (lg_sl ([.ref (ad 0), .int v1, .int v2]) ++ List.replicate (3 - (lg_sl ([.ref (ad 0), .int v1, .int v2])).length) Slot.unset).toArray = ls at hl ⊢
  generalize ([.ref (ad 0), .int v1, .int v2] : List Value).toArray = args at hts ⊢
  have key : ∀ (n b : Nat) (v1 v2 : Int32) (σ : Sg), q_Model_of_j Q n b v1 v2 σ → ∀ (H : Heap) (locs : List Loc) (ls : Array Slot), va_P D classes (W_Model ad cI cZ σ) H → va_S (inA ad 21) s.heap H locs → lv_has ls 3 (lc_Model_of ad b v1 v2) → W p l e (headSpec (.code y_Model_of prog_9_method_31_code 3 (some .int) :: TG) { frames := 1, cells := 0, slots := 0, locals := 22 }).room s m args below meth c H locs 0 0 (MQ below (va_Qi Q (fun u t => va_P D classes (W_Model ad cI cZ u) t.heap) (inA ad 21)) args s 0 0 (inA ad 21)) (F0 m (pc_Model_of b) ls []) := by
    clear h hl hP hS
    intro n
    induction n with
    | zero => intro b _ _ _ h; exact False.elim h
    | succ n ih =>
      intro b v1 v2 σ h H locs ls hP hS hl
      match b, h, hl with
      | 0, h, hl =>
        have h : q_Model_of_b0 (q_Model_of_j Q n) Q v1 v2 σ := h
        have hl : lv_has ls 3 [(0, .ref (ad 0)), (1, .int v1), (2, .int v2)] := hl
        refine W.eq (g2 := F0 m 0 ls []) rfl ?_
        unfold q_Model_of_b0 at h
        refine lv_iload_n hx hb d_Model_of_0 rfl (lv_at hl 1 rfl) ?_
        refine lv_if_lt (tgt := 21) hx hb d_Model_of_1 (by decide) (fun hc => ?_) (fun hc => ?_)
        · have h := h.1 hc
          exact ih 1 v1 v2 σ h _ _ _ hP hS (lv_sub hl [0, 1, 2] rfl)
        · have h := h.2 hc
          refine lv_iload_n hx hb d_Model_of_4 rfl (lv_at hl 1 rfl) ?_
          refine lv_aload_n hx hb d_Model_of_5 rfl (lv_at hl 0 rfl) ?_
          refine va_get (D := D) (ci := 7) (v := .int (σ 0 19)) (C := "CarrierPathsModel") (T := F_Model) (N := 27) hx hb hts in_Model hown hK hP 0 rfl rfl 19 (by decide) (hts _ kw774) (fun _ h9 => h9) rfl d_Model_of_6 ?_
          refine lv_icmp_ge (tgt := 21) hx hb d_Model_of_9 (by decide) (fun hc => ?_) (fun hc => ?_)
          · have h := h.1 hc
            exact ih 1 v1 v2 σ h _ _ _ hP hS (lv_sub hl [0, 1, 2] rfl)
          · have h := h.2 hc
            refine lv_iload_n hx hb d_Model_of_12 rfl (lv_at hl 2 rfl) ?_
            refine lv_iconst (v := 0) hx hb d_Model_of_13 (by decide) ?_
            refine lv_iconst (v := 3) hx hb d_Model_of_14 (by decide) ?_
            refine vp_callSi (W.runS (As := [.int v2, .int 0, .int 3]) (rest := []) ⟨hx, hb, hml, hown, hts⟩ (t_Model_in l v2 0 3 _ h) (va_cwS 3 hts (gS_of kw849 kw850 kw9 kw851) rfl rfl rfl (by decide +kernel) ⟨Nat.le_of_ble_eq_true rfl, Nat.le_of_ble_eq_true rfl⟩) st_pre rfl rfl hl.1 rfl (lv_room (Nat.le_of_ble_eq_true rfl)) d_Model_of_15 ⟨Nat.le_of_ble_eq_true rfl, Nat.le_of_ble_eq_true rfl⟩) (fun r1 h => ?_)
            refine lv_if_ne (tgt := 27) hx hb d_Model_of_18 (by decide) (fun hc => ?_) (fun hc => ?_)
            · have h := h.2 hc
              refine lv_aload_n hx hb d_Model_of_27 rfl (lv_at hl 0 rfl) ?_
              refine lv_iconst (v := 0) hx hb d_Model_of_28 (by decide) ?_
              refine va_put (D := D) (ci := 7) (v := .int 0) (ty := .int) (C := "CarrierPathsModel") (T := F_Model) (N := 27) hx hb hts in_Model ty_Model ty_Model_ok nm_Model hown hK hP (D_Model inj) hS 0 rfl rfl 0 (by decide) (hts _ kw755) (fun _ h9 => h9) rfl (by decide +kernel) rfl rfl (Nat.le_of_ble_eq_true rfl) d_Model_of_29 (fun H locs hP _ hS => ?_)
              have hP := up_Model_f0 hP
              refine lv_iload_n hx hb d_Model_of_32 rfl (lv_at hl 2 rfl) ?_
              refine lv_if_ne (tgt := 45) hx hb d_Model_of_33 (by decide) (fun hc => ?_) (fun hc => ?_)
              · have h := h.2 hc
                refine lv_iload_n hx hb d_Model_of_45 rfl (lv_at hl 2 rfl) ?_
                refine lv_iconst (v := 1) hx hb d_Model_of_46 (by decide) ?_
                refine lv_icmp_ne (tgt := 59) hx hb d_Model_of_47 (by decide) (fun hc => ?_) (fun hc => ?_)
                · have h := h.2 hc
                  refine lv_iload_n hx hb d_Model_of_59 rfl (lv_at hl 2 rfl) ?_
                  refine lv_iconst (v := 2) hx hb d_Model_of_60 (by decide) ?_
                  refine lv_icmp_ne (tgt := 73) hx hb d_Model_of_61 (by decide) (fun hc => ?_) (fun hc => ?_)
                  · have h := h.2 hc
                    refine lv_aload_n hx hb d_Model_of_73 rfl (lv_at hl 0 rfl) ?_
                    refine va_get (D := D) (ci := 7) (v := .ref (ad 18)) (C := "CarrierPathsModel") (T := F_Model) (N := 27) hx hb hts in_Model hown hK hP 0 rfl rfl 23 (by decide) (hts _ kw778) (fun _ h9 => h9) rfl d_Model_of_74 ?_
                    refine lv_iload_n hx hb d_Model_of_77 rfl (lv_at hl 1 rfl) ?_
                    obtain ⟨hi, h⟩ := h
                    refine va_iald hx hb hK hP 18 0 rfl rfl hi d_Model_of_78 ?_
                    exact W.iret (v := ((sto σ 0 0 0) 18 v1.toNatClampNeg)) hx hb hr (fun t ht hW => ⟨⟨((sto σ 0 0 0) 18 v1.toNatClampNeg), (sto σ 0 0 0), rfl, h, hp_back ht hP⟩, hS.F ht⟩) hS.2.2 d_Model_of_79
                  · have h := h.1 hc
                    refine lv_aload_n hx hb d_Model_of_64 rfl (lv_at hl 0 rfl) ?_
                    refine va_get (D := D) (ci := 7) (v := .ref (ad 17)) (C := "CarrierPathsModel") (T := F_Model) (N := 27) hx hb hts in_Model hown hK hP 0 rfl rfl 22 (by decide) (hts _ kw777) (fun _ h9 => h9) rfl d_Model_of_65 ?_
                    refine lv_iload_n hx hb d_Model_of_68 rfl (lv_at hl 1 rfl) ?_
                    obtain ⟨hi, h⟩ := h
                    refine va_iald hx hb hK hP 17 0 rfl rfl hi d_Model_of_69 ?_
                    refine lv_goto (tgt := 79) hx hb d_Model_of_70 (by decide) ?_
                    exact W.iret (v := ((sto σ 0 0 0) 17 v1.toNatClampNeg)) hx hb hr (fun t ht hW => ⟨⟨((sto σ 0 0 0) 17 v1.toNatClampNeg), (sto σ 0 0 0), rfl, h, hp_back ht hP⟩, hS.F ht⟩) hS.2.2 d_Model_of_79
                · have h := h.1 hc
                  refine lv_aload_n hx hb d_Model_of_50 rfl (lv_at hl 0 rfl) ?_
                  refine va_get (D := D) (ci := 7) (v := .ref (ad 16)) (C := "CarrierPathsModel") (T := F_Model) (N := 27) hx hb hts in_Model hown hK hP 0 rfl rfl 21 (by decide) (hts _ kw776) (fun _ h9 => h9) rfl d_Model_of_51 ?_
                  refine lv_iload_n hx hb d_Model_of_54 rfl (lv_at hl 1 rfl) ?_
                  obtain ⟨hi, h⟩ := h
                  refine va_iald hx hb hK hP 16 0 rfl rfl hi d_Model_of_55 ?_
                  refine lv_goto (tgt := 79) hx hb d_Model_of_56 (by decide) ?_
                  exact W.iret (v := ((sto σ 0 0 0) 16 v1.toNatClampNeg)) hx hb hr (fun t ht hW => ⟨⟨((sto σ 0 0 0) 16 v1.toNatClampNeg), (sto σ 0 0 0), rfl, h, hp_back ht hP⟩, hS.F ht⟩) hS.2.2 d_Model_of_79
              · have h := h.1 hc
                refine lv_aload_n hx hb d_Model_of_36 rfl (lv_at hl 0 rfl) ?_
                refine va_get (D := D) (ci := 7) (v := .ref (ad 15)) (C := "CarrierPathsModel") (T := F_Model) (N := 27) hx hb hts in_Model hown hK hP 0 rfl rfl 20 (by decide) (hts _ kw775) (fun _ h9 => h9) rfl d_Model_of_37 ?_
                refine lv_iload_n hx hb d_Model_of_40 rfl (lv_at hl 1 rfl) ?_
                obtain ⟨hi, h⟩ := h
                refine va_iald hx hb hK hP 15 0 rfl rfl hi d_Model_of_41 ?_
                refine lv_goto (tgt := 79) hx hb d_Model_of_42 (by decide) ?_
                exact W.iret (v := ((sto σ 0 0 0) 15 v1.toNatClampNeg)) hx hb hr (fun t ht hW => ⟨⟨((sto σ 0 0 0) 15 v1.toNatClampNeg), (sto σ 0 0 0), rfl, h, hp_back ht hP⟩, hS.F ht⟩) hS.2.2 d_Model_of_79
            · have h := h.1 hc
              exact ih 1 v1 v2 σ h _ _ _ hP hS (lv_sub hl [0, 1, 2] rfl)
      | 1, h, hl =>
        have h : q_Model_of_b1 (q_Model_of_j Q n) Q v1 v2 σ := h
        have hl : lv_has ls 3 [(0, .ref (ad 0)), (1, .int v1), (2, .int v2)] := hl
        refine W.eq (g2 := F0 m 21 ls []) rfl ?_
        unfold q_Model_of_b1 at h
        refine lv_aload_n hx hb d_Model_of_21 rfl (lv_at hl 0 rfl) ?_
        refine lv_iconst (v := 1) hx hb d_Model_of_22 (by decide) ?_
        refine va_calli (va_runV (As := [.int 1]) (rest := []) ⟨hx, hb, hml, hown, hts⟩ (t_Model_fails l D cI cZ ad inj 1 σ _ h) (cwV 1 hts (g_of kw852 kw854 kp23 kw9 kw855) rfl rfl rfl (by decide +kernel) ⟨Nat.le_of_ble_eq_true rfl, Nat.le_of_ble_eq_true rfl⟩) (ro_pre hK hP (va_recv hK hP (ci := 7) (q0 := 0) rfl rfl)) rfl rfl hl.1 rfl (lv_room (Nat.le_of_ble_eq_true rfl)) d_Model_of_23 ⟨Nat.le_of_ble_eq_true rfl, Nat.le_of_ble_eq_true rfl⟩) hS (fun _ _ h => h) (fun _ h => h) (fun r3 u2 t H1 locs ht _ h hP1 _ hk1 hS => ?_)
        have hP1 : va_P D classes (W_Model ad cI cZ u2) H1 := hp_fwd ht hP1
        clear hk1 ht
        generalize H1 = H at hP1 hS ⊢
        have hP := hP1
        exact W.iret (v := r3) hx hb hr (fun t ht hW => ⟨⟨r3, u2, rfl, h, hp_back ht hP⟩, hS.F ht⟩) hS.2.2 d_Model_of_26
      | _ + 2, h, _ => exact False.elim h
  exact key 4000 0 v1 v2 σ h s.heap [] ls hP hS hl
def q_Model_ofPoint (v1 : Int32) (σ : Sg) (Q : (Int32 → Prop)) : Prop :=
  (q_Model_isPoint (v1 - v1 / 10 * 10) σ (fun r1 => ((r1 = 0 → Q (-1)) ∧ (¬ r1 = 0 → ((30 ≤ v1 → ((40 ≤ v1 → (vp_in (v1 - v1 / 10 * 10) 10 ∧ (((σ 2 (v1 - v1 / 10 * 10).toNatClampNeg) = 0 → Q 0) ∧ (¬ (σ 2 (v1 - v1 / 10 * 10).toNatClampNeg) = 0 → Q 1)))) ∧ (¬ 40 ≤ v1 → (q_Model_standing (v1 - v1 / 10 * 10) σ (fun r2 => Q r2))))) ∧ (¬ 30 ≤ v1 → (vp_in (v1 - v1 / 10 * 10) 10 ∧ Q (σ 1 (v1 - v1 / 10 * 10).toNatClampNeg))))))))
set_option maxHeartbeats 4000000 in
set_option maxRecDepth 100000 in
theorem t_Model_ofPoint (l : Launch) (D : va_G) (cI cZ : ClassId) (ad : Nat → Nat) (v1 : Int32) (σ : Sg) (Q : (Int32 → Prop)) (h : q_Model_ofPoint v1 σ Q) : Met l y_Model_ofPoint (.code y_Model_ofPoint prog_9_method_32_code 3 (some .int) :: TG) { frames := 1, cells := 0, slots := 0, locals := 23 } (va_Pc [.ref (ad 0), .int v1] (roB D (tysA cI cZ) (W_Model ad cI cZ σ))) (vp_Si Q) 0 0 (fun _ => False) := by
  refine Met.ofW (cc := prog_9_method_32_code) (maxL := 3) (ret := (some .int)) (by decide) rfl ?_
  intro p e s m args below meth c s₁ B hml hv
  obtain ⟨rfl, hP, hK⟩ := hv
  have hx := B.exec
  have hb := B.bytes
  have hr := B.returns
  have hts : ∀ w ∈ TG, w.before [.ref (ad 0), .int v1].toArray s = true := fun w hw => atoms_spec (ws := .code y_Model_ofPoint prog_9_method_32_code 3 (some .int) :: TG) B.pre w (List.mem_cons_of_mem _ hw)
  have hown : s.vm.findClass "CarrierPathsModel" = some m.cls := findClass_of_methodNamed B.named
  have hlocks := B.notSynchronized
  have hl := lv_entry ([.ref (ad 0), .int v1]) (n := 3) (Nat.le_of_ble_eq_true rfl)
  rw [lg_entry_eq]
  generalize (lg_sl ([.ref (ad 0), .int v1]) ++ List.replicate (3 - (lg_sl ([.ref (ad 0), .int v1])).length) Slot.unset).toArray = ls at hl ⊢
  have hl : lv_has ls 3 [(0, .ref (ad 0)), (1, .int v1)] := hl
  unfold q_Model_ofPoint at h
  refine lv_iload_n hx hb d_Model_ofPoint_0 rfl (lv_at hl 1 rfl) ?_
  refine lv_bipush (v := 10) hx hb d_Model_ofPoint_1 (by decide) ?_
  refine lv_irem hx hb d_Model_ofPoint_3 (by decide) ?_
  refine lv_istore_n (lv' := [(2, .int (v1 - v1 / 10 * 10)), (0, .ref (ad 0)), (1, .int v1)]) hx hb d_Model_ofPoint_4 rfl hl (by decide) rfl (fun ls hl => ?_)
  refine lv_aload_n hx hb d_Model_ofPoint_5 rfl (lv_at hl 1 rfl) ?_
  refine lv_iload_n hx hb d_Model_ofPoint_6 rfl (lv_at hl 0 rfl) ?_
  refine vp_callSi (W.runV (As := [.int (v1 - v1 / 10 * 10)]) (rest := []) ⟨hx, hb, hml, hown, hts⟩ (t_Model_isPoint l D cI cZ ad (v1 - v1 / 10 * 10) σ _ h) (cwV 1 hts (g_of kw845 kw847 kp22 kw9 kw848) rfl rfl rfl (by decide +kernel) ⟨Nat.le_of_ble_eq_true rfl, Nat.le_of_ble_eq_true rfl⟩) (ro_pre hK hP (va_recv hK hP (ci := 7) (q0 := 0) rfl rfl)) rfl rfl hl.1 rfl (lv_room (Nat.le_of_ble_eq_true rfl)) d_Model_ofPoint_7 ⟨Nat.le_of_ble_eq_true rfl, Nat.le_of_ble_eq_true rfl⟩) (fun r1 h => ?_)
  refine lv_if_ne (tgt := 17) hx hb d_Model_ofPoint_10 (by decide) (fun hc => ?_) (fun hc => ?_)
  · have h := h.2 hc
    refine lv_iload_n hx hb d_Model_ofPoint_17 rfl (lv_at hl 2 rfl) ?_
    refine lv_bipush (v := 30) hx hb d_Model_ofPoint_18 (by decide) ?_
    refine lv_icmp_ge (tgt := 32) hx hb d_Model_ofPoint_20 (by decide) (fun hc => ?_) (fun hc => ?_)
    · have h := h.1 hc
      refine lv_iload_n hx hb d_Model_ofPoint_32 rfl (lv_at hl 2 rfl) ?_
      refine lv_bipush (v := 40) hx hb d_Model_ofPoint_33 (by decide) ?_
      refine lv_icmp_ge (tgt := 46) hx hb d_Model_ofPoint_35 (by decide) (fun hc => ?_) (fun hc => ?_)
      · have h := h.1 hc
        refine lv_aload_n hx hb d_Model_ofPoint_46 rfl (lv_at hl 1 rfl) ?_
        refine va_get (D := D) (ci := 7) (v := .ref (ad 2)) (C := "CarrierPathsModel") (T := F_Model) (N := 27) hx hb hts in_Model hown hK hP 0 rfl rfl 3 (by decide) (hts _ kw758) (fun _ h9 => h9) rfl d_Model_ofPoint_47 ?_
        refine lv_iload_n hx hb d_Model_ofPoint_50 rfl (lv_at hl 0 rfl) ?_
        obtain ⟨hi, h⟩ := h
        refine va_zald hx hb hK hP 2 1 rfl rfl hi d_Model_ofPoint_51 ?_
        refine lv_if_eq (tgt := 59) hx hb d_Model_ofPoint_52 (by decide) (fun hc => ?_) (fun hc => ?_)
        · have h := h.1 hc
          refine lv_iconst (v := 0) hx hb d_Model_ofPoint_59 (by decide) ?_
          exact W.iret (v := 0) hx hb hr (fun t ht hW => ⟨0, rfl, h, ht⟩) (fun q hq => by cases hq) d_Model_ofPoint_60
        · have h := h.2 hc
          refine lv_iconst (v := 1) hx hb d_Model_ofPoint_55 (by decide) ?_
          refine lv_goto (tgt := 60) hx hb d_Model_ofPoint_56 (by decide) ?_
          exact W.iret (v := 1) hx hb hr (fun t ht hW => ⟨1, rfl, h, ht⟩) (fun q hq => by cases hq) d_Model_ofPoint_60
      · have h := h.2 hc
        refine lv_aload_n hx hb d_Model_ofPoint_38 rfl (lv_at hl 1 rfl) ?_
        refine lv_iload_n hx hb d_Model_ofPoint_39 rfl (lv_at hl 0 rfl) ?_
        refine vp_callSi (W.runV (As := [.int (v1 - v1 / 10 * 10)]) (rest := []) ⟨hx, hb, hml, hown, hts⟩ (t_Model_standing l D cI cZ ad (v1 - v1 / 10 * 10) σ _ h) (cwV 1 hts (g_of kw873 kw875 kp26 kw9 kw876) rfl rfl rfl (by decide +kernel) ⟨Nat.le_of_ble_eq_true rfl, Nat.le_of_ble_eq_true rfl⟩) (ro_pre hK hP (va_recv hK hP (ci := 7) (q0 := 0) rfl rfl)) rfl rfl hl.1 rfl (lv_room (Nat.le_of_ble_eq_true rfl)) d_Model_ofPoint_40 ⟨Nat.le_of_ble_eq_true rfl, Nat.le_of_ble_eq_true rfl⟩) (fun r2 h => ?_)
        refine lv_goto (tgt := 60) hx hb d_Model_ofPoint_43 (by decide) ?_
        exact W.iret (v := r2) hx hb hr (fun t ht hW => ⟨r2, rfl, h, ht⟩) (fun q hq => by cases hq) d_Model_ofPoint_60
    · have h := h.2 hc
      refine lv_aload_n hx hb d_Model_ofPoint_23 rfl (lv_at hl 1 rfl) ?_
      refine va_get (D := D) (ci := 7) (v := .ref (ad 1)) (C := "CarrierPathsModel") (T := F_Model) (N := 27) hx hb hts in_Model hown hK hP 0 rfl rfl 2 (by decide) (hts _ kw757) (fun _ h9 => h9) rfl d_Model_ofPoint_24 ?_
      refine lv_iload_n hx hb d_Model_ofPoint_27 rfl (lv_at hl 0 rfl) ?_
      obtain ⟨hi, h⟩ := h
      refine va_iald hx hb hK hP 1 0 rfl rfl hi d_Model_ofPoint_28 ?_
      refine lv_goto (tgt := 60) hx hb d_Model_ofPoint_29 (by decide) ?_
      exact W.iret (v := (σ 1 (v1 - v1 / 10 * 10).toNatClampNeg)) hx hb hr (fun t ht hW => ⟨(σ 1 (v1 - v1 / 10 * 10).toNatClampNeg), rfl, h, ht⟩) (fun q hq => by cases hq) d_Model_ofPoint_60
  · have h := h.1 hc
    refine lv_iconst (v := (-1)) hx hb d_Model_ofPoint_13 (by decide) ?_
    refine lv_goto (tgt := 60) hx hb d_Model_ofPoint_14 (by decide) ?_
    exact W.iret (v := (-1)) hx hb hr (fun t ht hW => ⟨(-1), rfl, h, ht⟩) (fun q hq => by cases hq) d_Model_ofPoint_60
def q_Model_count_b0 (J : Nat → Int32 → Int32 → Int32 → Int32 → Sg → Prop) (Q : (Int32 → Sg → Prop)) (v1 v2 v3 v4 : Int32) (σ : Sg) : Prop :=
  ((v1 < 20 → ((v1 < 10 → J 1 v1 0 0 0 (sto σ 0 0 0)) ∧ (¬ v1 < 10 → ((((sto σ 0 0 0) 0 9) ≤ (v1 - 10) → Q (-1) (sto σ 0 0 0)) ∧ (¬ ((sto σ 0 0 0) 0 9) ≤ (v1 - 10) → (q_Model_freeIn (v1 - 10) (sto σ 0 0 0) (fun r1 => Q r1 (sto σ 0 0 0)))))))) ∧ (¬ v1 < 20 → ((50 ≤ v1 → Q (-1) (sto σ 0 0 0)) ∧ (¬ 50 ≤ v1 → (q_Model_ofPoint v1 (sto σ 0 0 0) (fun r2 => Q r2 (sto σ 0 0 0)))))))
def q_Model_count_b1 (J : Nat → Int32 → Int32 → Int32 → Int32 → Sg → Prop) (Q : (Int32 → Sg → Prop)) (v1 v2 v3 v4 : Int32) (σ : Sg) : Prop :=
  (((σ 0 11) ≤ v4 → ((v1 = 0 → Q (σ 0 1) σ) ∧ (¬ v1 = 0 → ((v1 = 1 → Q (σ 0 4) σ) ∧ (¬ v1 = 1 → ((v1 = 2 → Q (σ 0 11) σ) ∧ (¬ v1 = 2 → ((v1 = 3 → Q (σ 0 19) σ) ∧ (¬ v1 = 3 → ((v1 = 4 → Q (σ 0 24) σ) ∧ (¬ v1 = 4 → ((v1 = 5 → Q v3 σ) ∧ (¬ v1 = 5 → ((v1 = 6 → Q v2 σ) ∧ (¬ v1 = 6 → ((v1 = 7 → Q (σ 0 9) σ) ∧ (¬ v1 = 7 → Q (-1) σ))))))))))))))))) ∧ (¬ (σ 0 11) ≤ v4 → (vp_in v4 6 ∧ (((σ 9 v4.toNatClampNeg) = (-1) → (vp_in v4 6 ∧ J 1 v1 (v2 + 0) (v3 + (σ 13 v4.toNatClampNeg)) (v4 + 1) σ)) ∧ (¬ (σ 9 v4.toNatClampNeg) = (-1) → (vp_in v4 6 ∧ J 1 v1 (v2 + 1) (v3 + (σ 13 v4.toNatClampNeg)) (v4 + 1) σ))))))
def q_Model_count_j (Q : (Int32 → Sg → Prop)) : Nat → Nat → Int32 → Int32 → Int32 → Int32 → Sg → Prop
  | 0, _, _, _, _, _, _ => False
  | n + 1, 0, v1, v2, v3, v4, σ => q_Model_count_b0 (q_Model_count_j Q n) Q v1 v2 v3 v4 σ
  | n + 1, 1, v1, v2, v3, v4, σ => q_Model_count_b1 (q_Model_count_j Q n) Q v1 v2 v3 v4 σ
  | _ + 1, _ + 2, _, _, _, _, _ => False
def q_Model_count (v1 : Int32) (σ : Sg) (Q : (Int32 → Sg → Prop)) : Prop := q_Model_count_j Q 4000 0 v1 0 0 0 σ
def lc_Model_count (ad : Nat → Nat) (b : Nat) (v1 v2 v3 v4 : Int32) : List (Nat × Value) := match b with
  | 0 => [(0, .ref (ad 0)), (1, .int v1)]
  | 1 => [(0, .ref (ad 0)), (1, .int v1), (2, .int v2), (3, .int v3), (4, .int v4)]
  | _ => []
def pc_Model_count (b : Nat) : Nat := match b with
  | 0 => 0
  | 1 => 64
  | _ => 0
set_option maxHeartbeats 4000000 in
set_option maxRecDepth 100000 in
theorem t_Model_count (l : Launch) (D : va_G) (cI cZ : ClassId) (ad : Nat → Nat) (inj : Inj ad 21) (v1 : Int32) (σ : Sg) (Q : (Int32 → Sg → Prop)) (h : q_Model_count v1 σ Q) : Met l y_Model_count (.code y_Model_count prog_9_method_33_code 5 (some .int) :: TG) { frames := 2, cells := 0, slots := 0, locals := 46 } (va_Pc [.ref (ad 0), .int v1] (roB D (tysA cI cZ) (W_Model ad cI cZ σ))) (va_Qi Q (fun u t => va_P D classes (W_Model ad cI cZ u) t.heap) (inA ad 21)) 0 0 (inA ad 21) := by
  refine Met.ofW (cc := prog_9_method_33_code) (maxL := 5) (ret := (some .int)) (by decide) rfl ?_
  intro p e s m args below meth c s₁ B hml hv
  obtain ⟨rfl, hP, hK⟩ := hv
  have hx := B.exec
  have hb := B.bytes
  have hr := B.returns
  have hts : ∀ w ∈ TG, w.before [.ref (ad 0), .int v1].toArray s = true := fun w hw => atoms_spec (ws := .code y_Model_count prog_9_method_33_code 5 (some .int) :: TG) B.pre w (List.mem_cons_of_mem _ hw)
  have hown : s.vm.findClass "CarrierPathsModel" = some m.cls := findClass_of_methodNamed B.named
  have hlocks := B.notSynchronized
  have hS : va_S (inA ad 21) s.heap s.heap [] := va_S.rf
  have hl := lv_entry ([.ref (ad 0), .int v1]) (n := 5) (Nat.le_of_ble_eq_true rfl)
  rw [lg_entry_eq]
  generalize (lg_sl ([.ref (ad 0), .int v1]) ++ List.replicate (5 - (lg_sl ([.ref (ad 0), .int v1])).length) Slot.unset).toArray = ls at hl ⊢
  generalize ([.ref (ad 0), .int v1] : List Value).toArray = args at hts ⊢
  have key : ∀ (n b : Nat) (v1 v2 v3 v4 : Int32) (σ : Sg), q_Model_count_j Q n b v1 v2 v3 v4 σ → ∀ (H : Heap) (locs : List Loc) (ls : Array Slot), va_P D classes (W_Model ad cI cZ σ) H → va_S (inA ad 21) s.heap H locs → lv_has ls 5 (lc_Model_count ad b v1 v2 v3 v4) → W p l e (headSpec (.code y_Model_count prog_9_method_33_code 5 (some .int) :: TG) { frames := 2, cells := 0, slots := 0, locals := 46 }).room s m args below meth c H locs 0 0 (MQ below (va_Qi Q (fun u t => va_P D classes (W_Model ad cI cZ u) t.heap) (inA ad 21)) args s 0 0 (inA ad 21)) (F0 m (pc_Model_count b) ls []) := by
    clear h hl hP hS
    intro n
    induction n with
    | zero => intro b _ _ _ _ _ h; exact False.elim h
    | succ n ih =>
      intro b v1 v2 v3 v4 σ h H locs ls hP hS hl
      match b, h, hl with
      | 0, h, hl =>
        have h : q_Model_count_b0 (q_Model_count_j Q n) Q v1 v2 v3 v4 σ := h
        have hl : lv_has ls 5 [(0, .ref (ad 0)), (1, .int v1)] := hl
        refine W.eq (g2 := F0 m 0 ls []) rfl ?_
        unfold q_Model_count_b0 at h
        refine lv_aload_n hx hb d_Model_count_0 rfl (lv_at hl 0 rfl) ?_
        refine lv_iconst (v := 0) hx hb d_Model_count_1 (by decide) ?_
        refine va_put (D := D) (ci := 7) (v := .int 0) (ty := .int) (C := "CarrierPathsModel") (T := F_Model) (N := 27) hx hb hts in_Model ty_Model ty_Model_ok nm_Model hown hK hP (D_Model inj) hS 0 rfl rfl 0 (by decide) (hts _ kw755) (fun _ h9 => h9) rfl (by decide +kernel) rfl rfl (Nat.le_of_ble_eq_true rfl) d_Model_count_2 (fun H locs hP _ hS => ?_)
        have hP := up_Model_f0 hP
        refine lv_iload_n hx hb d_Model_count_5 rfl (lv_at hl 1 rfl) ?_
        refine lv_bipush (v := 20) hx hb d_Model_count_6 (by decide) ?_
        refine lv_icmp_lt (tgt := 27) hx hb d_Model_count_8 (by decide) (fun hc => ?_) (fun hc => ?_)
        · have h := h.1 hc
          refine lv_iload_n hx hb d_Model_count_27 rfl (lv_at hl 1 rfl) ?_
          refine lv_bipush (v := 10) hx hb d_Model_count_28 (by decide) ?_
          refine lv_icmp_lt (tgt := 57) hx hb d_Model_count_30 (by decide) (fun hc => ?_) (fun hc => ?_)
          · have h := h.1 hc
            refine lv_iconst (v := 0) hx hb d_Model_count_57 (by decide) ?_
            refine lv_istore_n (lv' := [(2, .int 0), (0, .ref (ad 0)), (1, .int v1)]) hx hb d_Model_count_58 rfl hl (by decide) rfl (fun ls hl => ?_)
            refine lv_iconst (v := 0) hx hb d_Model_count_59 (by decide) ?_
            refine lv_istore_n (lv' := [(3, .int 0), (2, .int 0), (0, .ref (ad 0)), (1, .int v1)]) hx hb d_Model_count_60 rfl hl (by decide) rfl (fun ls hl => ?_)
            refine lv_iconst (v := 0) hx hb d_Model_count_61 (by decide) ?_
            refine lv_istore (lv' := [(4, .int 0), (3, .int 0), (2, .int 0), (0, .ref (ad 0)), (1, .int v1)]) hx hb d_Model_count_62 hl (by decide) rfl (fun ls hl => ?_)
            exact ih 1 v1 0 0 0 (sto σ 0 0 0) h _ _ _ hP hS (lv_sub hl [3, 4, 2, 1, 0] rfl)
          · have h := h.2 hc
            refine lv_iload_n hx hb d_Model_count_33 rfl (lv_at hl 1 rfl) ?_
            refine lv_bipush (v := 10) hx hb d_Model_count_34 (by decide) ?_
            refine lv_isub hx hb d_Model_count_36 ?_
            refine lv_aload_n hx hb d_Model_count_37 rfl (lv_at hl 0 rfl) ?_
            refine va_get (D := D) (ci := 7) (v := .int ((sto σ 0 0 0) 0 9)) (C := "CarrierPathsModel") (T := F_Model) (N := 27) hx hb hts in_Model hown hK hP 0 rfl rfl 9 (by decide) (hts _ kw764) (fun _ h9 => h9) rfl d_Model_count_38 ?_
            refine lv_icmp_ge (tgt := 55) hx hb d_Model_count_41 (by decide) (fun hc => ?_) (fun hc => ?_)
            · have h := h.1 hc
              refine lv_iconst (v := (-1)) hx hb d_Model_count_55 (by decide) ?_
              exact W.iret (v := (-1)) hx hb hr (fun t ht hW => ⟨⟨(-1), (sto σ 0 0 0), rfl, h, hp_back ht hP⟩, hS.F ht⟩) hS.2.2 d_Model_count_56
            · have h := h.2 hc
              refine lv_aload_n hx hb d_Model_count_44 rfl (lv_at hl 0 rfl) ?_
              refine lv_iload_n hx hb d_Model_count_45 rfl (lv_at hl 1 rfl) ?_
              refine lv_bipush (v := 10) hx hb d_Model_count_46 (by decide) ?_
              refine lv_isub hx hb d_Model_count_48 ?_
              refine vp_callSi (W.runV (As := [.int (v1 - 10)]) (rest := []) ⟨hx, hb, hml, hown, hts⟩ (t_Model_freeIn l D cI cZ ad (v1 - 10) (sto σ 0 0 0) _ h) (cwV 1 hts (g_of kw930 kw932 kp34 kw9 kw933) rfl rfl rfl (by decide +kernel) ⟨Nat.le_of_ble_eq_true rfl, Nat.le_of_ble_eq_true rfl⟩) (ro_pre hK hP (va_recv hK hP (ci := 7) (q0 := 0) rfl rfl)) rfl rfl hl.1 rfl (lv_room (Nat.le_of_ble_eq_true rfl)) d_Model_count_49 ⟨Nat.le_of_ble_eq_true rfl, Nat.le_of_ble_eq_true rfl⟩) (fun r1 h => ?_)
              refine lv_goto (tgt := 56) hx hb d_Model_count_52 (by decide) ?_
              exact W.iret (v := r1) hx hb hr (fun t ht hW => ⟨⟨r1, (sto σ 0 0 0), rfl, h, hp_back ht hP⟩, hS.F ht⟩) hS.2.2 d_Model_count_56
        · have h := h.2 hc
          refine lv_iload_n hx hb d_Model_count_11 rfl (lv_at hl 1 rfl) ?_
          refine lv_bipush (v := 50) hx hb d_Model_count_12 (by decide) ?_
          refine lv_icmp_ge (tgt := 25) hx hb d_Model_count_14 (by decide) (fun hc => ?_) (fun hc => ?_)
          · have h := h.1 hc
            refine lv_iconst (v := (-1)) hx hb d_Model_count_25 (by decide) ?_
            exact W.iret (v := (-1)) hx hb hr (fun t ht hW => ⟨⟨(-1), (sto σ 0 0 0), rfl, h, hp_back ht hP⟩, hS.F ht⟩) hS.2.2 d_Model_count_26
          · have h := h.2 hc
            refine lv_aload_n hx hb d_Model_count_17 rfl (lv_at hl 0 rfl) ?_
            refine lv_iload_n hx hb d_Model_count_18 rfl (lv_at hl 1 rfl) ?_
            refine vp_callSi (W.runV (As := [.int v1]) (rest := []) ⟨hx, hb, hml, hown, hts⟩ (t_Model_ofPoint l D cI cZ ad v1 (sto σ 0 0 0) _ h) (cwV 1 hts (g_of kw963 kw965 kp36 kw9 kw966) rfl rfl rfl (by decide +kernel) ⟨Nat.le_of_ble_eq_true rfl, Nat.le_of_ble_eq_true rfl⟩) (ro_pre hK hP (va_recv hK hP (ci := 7) (q0 := 0) rfl rfl)) rfl rfl hl.1 rfl (lv_room (Nat.le_of_ble_eq_true rfl)) d_Model_count_19 ⟨Nat.le_of_ble_eq_true rfl, Nat.le_of_ble_eq_true rfl⟩) (fun r2 h => ?_)
            refine lv_goto (tgt := 26) hx hb d_Model_count_22 (by decide) ?_
            exact W.iret (v := r2) hx hb hr (fun t ht hW => ⟨⟨r2, (sto σ 0 0 0), rfl, h, hp_back ht hP⟩, hS.F ht⟩) hS.2.2 d_Model_count_26
      | 1, h, hl =>
        have h : q_Model_count_b1 (q_Model_count_j Q n) Q v1 v2 v3 v4 σ := h
        have hl : lv_has ls 5 [(0, .ref (ad 0)), (1, .int v1), (2, .int v2), (3, .int v3), (4, .int v4)] := hl
        refine W.eq (g2 := F0 m 64 ls []) rfl ?_
        unfold q_Model_count_b1 at h
        refine lv_iload hx hb d_Model_count_64 (lv_at hl 4 rfl) ?_
        refine lv_aload_n hx hb d_Model_count_66 rfl (lv_at hl 0 rfl) ?_
        refine va_get (D := D) (ci := 7) (v := .int (σ 0 11)) (C := "CarrierPathsModel") (T := F_Model) (N := 27) hx hb hts in_Model hown hK hP 0 rfl rfl 11 (by decide) (hts _ kw766) (fun _ h9 => h9) rfl d_Model_count_67 ?_
        refine lv_icmp_ge (tgt := 108) hx hb d_Model_count_70 (by decide) (fun hc => ?_) (fun hc => ?_)
        · have h := h.1 hc
          refine lv_iload_n hx hb d_Model_count_108 rfl (lv_at hl 1 rfl) ?_
          by_cases hc0 : v1 = 0
          · have h := h.1 hc0
            refine lv_tableIn (tgt := 156) (off := 47) hx hb d_Model_count_109 (by rw [hc0]; decide) (by rw [hc0]; decide) (by rw [hc0]; decide) (by decide) ?_
            refine lv_aload_n hx hb d_Model_count_156 rfl (lv_at hl 0 rfl) ?_
            refine va_get (D := D) (ci := 7) (v := .int (σ 0 1)) (C := "CarrierPathsModel") (T := F_Model) (N := 27) hx hb hts in_Model hown hK hP 0 rfl rfl 1 (by decide) (hts _ kw756) (fun _ h9 => h9) rfl d_Model_count_157 ?_
            exact W.iret (v := (σ 0 1)) hx hb hr (fun t ht hW => ⟨⟨(σ 0 1), σ, rfl, h, hp_back ht hP⟩, hS.F ht⟩) hS.2.2 d_Model_count_160
          · have h := h.2 hc0
            by_cases hc1 : v1 = 1
            · have h := h.1 hc1
              refine lv_tableIn (tgt := 161) (off := 52) hx hb d_Model_count_109 (by rw [hc1]; decide) (by rw [hc1]; decide) (by rw [hc1]; decide) (by decide) ?_
              refine lv_aload_n hx hb d_Model_count_161 rfl (lv_at hl 0 rfl) ?_
              refine va_get (D := D) (ci := 7) (v := .int (σ 0 4)) (C := "CarrierPathsModel") (T := F_Model) (N := 27) hx hb hts in_Model hown hK hP 0 rfl rfl 4 (by decide) (hts _ kw759) (fun _ h9 => h9) rfl d_Model_count_162 ?_
              exact W.iret (v := (σ 0 4)) hx hb hr (fun t ht hW => ⟨⟨(σ 0 4), σ, rfl, h, hp_back ht hP⟩, hS.F ht⟩) hS.2.2 d_Model_count_165
            · have h := h.2 hc1
              by_cases hc2 : v1 = 2
              · have h := h.1 hc2
                refine lv_tableIn (tgt := 166) (off := 57) hx hb d_Model_count_109 (by rw [hc2]; decide) (by rw [hc2]; decide) (by rw [hc2]; decide) (by decide) ?_
                refine lv_aload_n hx hb d_Model_count_166 rfl (lv_at hl 0 rfl) ?_
                refine va_get (D := D) (ci := 7) (v := .int (σ 0 11)) (C := "CarrierPathsModel") (T := F_Model) (N := 27) hx hb hts in_Model hown hK hP 0 rfl rfl 11 (by decide) (hts _ kw766) (fun _ h9 => h9) rfl d_Model_count_167 ?_
                exact W.iret (v := (σ 0 11)) hx hb hr (fun t ht hW => ⟨⟨(σ 0 11), σ, rfl, h, hp_back ht hP⟩, hS.F ht⟩) hS.2.2 d_Model_count_170
              · have h := h.2 hc2
                by_cases hc3 : v1 = 3
                · have h := h.1 hc3
                  refine lv_tableIn (tgt := 171) (off := 62) hx hb d_Model_count_109 (by rw [hc3]; decide) (by rw [hc3]; decide) (by rw [hc3]; decide) (by decide) ?_
                  refine lv_aload_n hx hb d_Model_count_171 rfl (lv_at hl 0 rfl) ?_
                  refine va_get (D := D) (ci := 7) (v := .int (σ 0 19)) (C := "CarrierPathsModel") (T := F_Model) (N := 27) hx hb hts in_Model hown hK hP 0 rfl rfl 19 (by decide) (hts _ kw774) (fun _ h9 => h9) rfl d_Model_count_172 ?_
                  exact W.iret (v := (σ 0 19)) hx hb hr (fun t ht hW => ⟨⟨(σ 0 19), σ, rfl, h, hp_back ht hP⟩, hS.F ht⟩) hS.2.2 d_Model_count_175
                · have h := h.2 hc3
                  by_cases hc4 : v1 = 4
                  · have h := h.1 hc4
                    refine lv_tableIn (tgt := 176) (off := 67) hx hb d_Model_count_109 (by rw [hc4]; decide) (by rw [hc4]; decide) (by rw [hc4]; decide) (by decide) ?_
                    refine lv_aload_n hx hb d_Model_count_176 rfl (lv_at hl 0 rfl) ?_
                    refine va_get (D := D) (ci := 7) (v := .int (σ 0 24)) (C := "CarrierPathsModel") (T := F_Model) (N := 27) hx hb hts in_Model hown hK hP 0 rfl rfl 24 (by decide) (hts _ kw779) (fun _ h9 => h9) rfl d_Model_count_177 ?_
                    exact W.iret (v := (σ 0 24)) hx hb hr (fun t ht hW => ⟨⟨(σ 0 24), σ, rfl, h, hp_back ht hP⟩, hS.F ht⟩) hS.2.2 d_Model_count_180
                  · have h := h.2 hc4
                    by_cases hc5 : v1 = 5
                    · have h := h.1 hc5
                      refine lv_tableIn (tgt := 181) (off := 72) hx hb d_Model_count_109 (by rw [hc5]; decide) (by rw [hc5]; decide) (by rw [hc5]; decide) (by decide) ?_
                      refine lv_iload_n hx hb d_Model_count_181 rfl (lv_at hl 3 rfl) ?_
                      exact W.iret (v := v3) hx hb hr (fun t ht hW => ⟨⟨v3, σ, rfl, h, hp_back ht hP⟩, hS.F ht⟩) hS.2.2 d_Model_count_182
                    · have h := h.2 hc5
                      by_cases hc6 : v1 = 6
                      · have h := h.1 hc6
                        refine lv_tableIn (tgt := 183) (off := 74) hx hb d_Model_count_109 (by rw [hc6]; decide) (by rw [hc6]; decide) (by rw [hc6]; decide) (by decide) ?_
                        refine lv_iload_n hx hb d_Model_count_183 rfl (lv_at hl 2 rfl) ?_
                        exact W.iret (v := v2) hx hb hr (fun t ht hW => ⟨⟨v2, σ, rfl, h, hp_back ht hP⟩, hS.F ht⟩) hS.2.2 d_Model_count_184
                      · have h := h.2 hc6
                        by_cases hc7 : v1 = 7
                        · have h := h.1 hc7
                          refine lv_tableIn (tgt := 185) (off := 76) hx hb d_Model_count_109 (by rw [hc7]; decide) (by rw [hc7]; decide) (by rw [hc7]; decide) (by decide) ?_
                          refine lv_aload_n hx hb d_Model_count_185 rfl (lv_at hl 0 rfl) ?_
                          refine va_get (D := D) (ci := 7) (v := .int (σ 0 9)) (C := "CarrierPathsModel") (T := F_Model) (N := 27) hx hb hts in_Model hown hK hP 0 rfl rfl 9 (by decide) (hts _ kw764) (fun _ h9 => h9) rfl d_Model_count_186 ?_
                          exact W.iret (v := (σ 0 9)) hx hb hr (fun t ht hW => ⟨⟨(σ 0 9), σ, rfl, h, hp_back ht hP⟩, hS.F ht⟩) hS.2.2 d_Model_count_189
                        · have h := h.2 hc7
                          refine lv_tableOut (tgt := 190) hx hb d_Model_count_109 (by have e0 := lv_neT hc0 (a := 0) (by decide); have e1 := lv_neT hc1 (a := 1) (by decide); have e2 := lv_neT hc2 (a := 2) (by decide); have e3 := lv_neT hc3 (a := 3) (by decide); have e4 := lv_neT hc4 (a := 4) (by decide); have e5 := lv_neT hc5 (a := 5) (by decide); have e6 := lv_neT hc6 (a := 6) (by decide); have e7 := lv_neT hc7 (a := 7) (by decide); omega) (by decide) ?_
                          refine lv_iconst (v := (-1)) hx hb d_Model_count_190 (by decide) ?_
                          exact W.iret (v := (-1)) hx hb hr (fun t ht hW => ⟨⟨(-1), σ, rfl, h, hp_back ht hP⟩, hS.F ht⟩) hS.2.2 d_Model_count_191
        · have h := h.2 hc
          refine lv_iload_n hx hb d_Model_count_73 rfl (lv_at hl 2 rfl) ?_
          refine lv_aload_n hx hb d_Model_count_74 rfl (lv_at hl 0 rfl) ?_
          refine va_get (D := D) (ci := 7) (v := .ref (ad 9)) (C := "CarrierPathsModel") (T := F_Model) (N := 27) hx hb hts in_Model hown hK hP 0 rfl rfl 13 (by decide) (hts _ kw768) (fun _ h9 => h9) rfl d_Model_count_75 ?_
          refine lv_iload hx hb d_Model_count_78 (lv_at hl 4 rfl) ?_
          obtain ⟨hi, h⟩ := h
          refine va_iald hx hb hK hP 9 0 rfl rfl hi d_Model_count_80 ?_
          refine lv_iconst (v := (-1)) hx hb d_Model_count_81 (by decide) ?_
          refine lv_icmp_eq (tgt := 89) hx hb d_Model_count_82 (by decide) (fun hc => ?_) (fun hc => ?_)
          · have h := h.1 hc
            refine lv_iconst (v := 0) hx hb d_Model_count_89 (by decide) ?_
            refine lv_iadd hx hb d_Model_count_90 ?_
            refine lv_istore_n (lv' := [(2, .int (v2 + 0)), (0, .ref (ad 0)), (1, .int v1), (3, .int v3), (4, .int v4)]) hx hb d_Model_count_91 rfl hl (by decide) rfl (fun ls hl => ?_)
            refine lv_iload_n hx hb d_Model_count_92 rfl (lv_at hl 3 rfl) ?_
            refine lv_aload_n hx hb d_Model_count_93 rfl (lv_at hl 1 rfl) ?_
            refine va_get (D := D) (ci := 7) (v := .ref (ad 13)) (C := "CarrierPathsModel") (T := F_Model) (N := 27) hx hb hts in_Model hown hK hP 0 rfl rfl 17 (by decide) (hts _ kw772) (fun _ h9 => h9) rfl d_Model_count_94 ?_
            refine lv_iload hx hb d_Model_count_97 (lv_at hl 4 rfl) ?_
            obtain ⟨hi, h⟩ := h
            refine va_iald hx hb hK hP 13 0 rfl rfl hi d_Model_count_99 ?_
            refine lv_iadd hx hb d_Model_count_100 ?_
            refine lv_istore_n (lv' := [(3, .int (v3 + (σ 13 v4.toNatClampNeg))), (2, .int (v2 + 0)), (0, .ref (ad 0)), (1, .int v1), (4, .int v4)]) hx hb d_Model_count_101 rfl hl (by decide) rfl (fun ls hl => ?_)
            refine lv_iinc (v := (v4 + 1)) (lv' := [(4, .int (v4 + 1)), (3, .int (v3 + (σ 13 v4.toNatClampNeg))), (2, .int (v2 + 0)), (0, .ref (ad 0)), (1, .int v1)]) hx hb d_Model_count_102 hl (k := 4) rfl rfl (by decide) rfl (fun ls hl => ?_)
            refine lv_goto (tgt := 64) hx hb d_Model_count_105 (by decide) ?_
            exact ih 1 v1 (v2 + 0) (v3 + (σ 13 v4.toNatClampNeg)) (v4 + 1) σ h _ _ _ hP hS (lv_sub hl [3, 4, 2, 1, 0] rfl)
          · have h := h.2 hc
            refine lv_iconst (v := 1) hx hb d_Model_count_85 (by decide) ?_
            refine lv_goto (tgt := 90) hx hb d_Model_count_86 (by decide) ?_
            refine lv_iadd hx hb d_Model_count_90 ?_
            refine lv_istore_n (lv' := [(2, .int (v2 + 1)), (0, .ref (ad 0)), (1, .int v1), (3, .int v3), (4, .int v4)]) hx hb d_Model_count_91 rfl hl (by decide) rfl (fun ls hl => ?_)
            refine lv_iload_n hx hb d_Model_count_92 rfl (lv_at hl 3 rfl) ?_
            refine lv_aload_n hx hb d_Model_count_93 rfl (lv_at hl 1 rfl) ?_
            refine va_get (D := D) (ci := 7) (v := .ref (ad 13)) (C := "CarrierPathsModel") (T := F_Model) (N := 27) hx hb hts in_Model hown hK hP 0 rfl rfl 17 (by decide) (hts _ kw772) (fun _ h9 => h9) rfl d_Model_count_94 ?_
            refine lv_iload hx hb d_Model_count_97 (lv_at hl 4 rfl) ?_
            obtain ⟨hi, h⟩ := h
            refine va_iald hx hb hK hP 13 0 rfl rfl hi d_Model_count_99 ?_
            refine lv_iadd hx hb d_Model_count_100 ?_
            refine lv_istore_n (lv' := [(3, .int (v3 + (σ 13 v4.toNatClampNeg))), (2, .int (v2 + 1)), (0, .ref (ad 0)), (1, .int v1), (4, .int v4)]) hx hb d_Model_count_101 rfl hl (by decide) rfl (fun ls hl => ?_)
            refine lv_iinc (v := (v4 + 1)) (lv' := [(4, .int (v4 + 1)), (3, .int (v3 + (σ 13 v4.toNatClampNeg))), (2, .int (v2 + 1)), (0, .ref (ad 0)), (1, .int v1)]) hx hb d_Model_count_102 hl (k := 4) rfl rfl (by decide) rfl (fun ls hl => ?_)
            refine lv_goto (tgt := 64) hx hb d_Model_count_105 (by decide) ?_
            exact ih 1 v1 (v2 + 1) (v3 + (σ 13 v4.toNatClampNeg)) (v4 + 1) σ h _ _ _ hP hS (lv_sub hl [3, 4, 2, 1, 0] rfl)
      | _ + 2, h, _ => exact False.elim h
  exact key 4000 0 v1 0 0 0 σ h s.heap [] ls hP hS hl
