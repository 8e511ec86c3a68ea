def q_Model_toCharger_b0 (J : Nat → Int32 → Int32 → Int32 → Int32 → Sg → Prop) (Q : (Int32 → Sg → Prop)) (v1 v2 v3 v4 : Int32) (σ : Sg) : Prop :=
  J 1 v1 1000000000 0 0 σ
def q_Model_toCharger_b1 (J : Nat → Int32 → Int32 → Int32 → Int32 → Sg → Prop) (Q : (Int32 → Sg → Prop)) (v1 v2 v3 v4 : Int32) (σ : Sg) : Prop :=
  (((σ 0 1) ≤ v3 → Q v2 σ) ∧ (¬ (σ 0 1) ≤ v3 → (vp_in v3 10 ∧ (((σ 2 v3.toNatClampNeg) = 0 → ((v2 ≤ (1000000000 : Int32) → J 1 v1 v2 (v3 + 1) 0 σ) ∧ (¬ v2 ≤ (1000000000 : Int32) → J 1 v1 1000000000 (v3 + 1) 0 σ))) ∧ (¬ (σ 2 v3.toNatClampNeg) = 0 → (q_Model_timeTo v1 v3 σ (fun r2 u1 => ((v2 ≤ r2 → J 1 v1 v2 (v3 + 1) 0 u1) ∧ (¬ v2 ≤ r2 → J 1 v1 r2 (v3 + 1) 0 u1)))))))))
def q_Model_toCharger_j (Q : (Int32 → Sg → Prop)) : Nat → Nat → Int32 → Int32 → Int32 → Int32 → Sg → Prop
  | 0, _, _, _, _, _, _ => False
  | n + 1, 0, v1, v2, v3, v4, σ => q_Model_toCharger_b0 (q_Model_toCharger_j Q n) Q v1 v2 v3 v4 σ
  | n + 1, 1, v1, v2, v3, v4, σ => q_Model_toCharger_b1 (q_Model_toCharger_j Q n) Q v1 v2 v3 v4 σ
  | _ + 1, _ + 2, _, _, _, _, _ => False
def q_Model_toCharger (v1 : Int32) (σ : Sg) (Q : (Int32 → Sg → Prop)) : Prop := q_Model_toCharger_j Q 4000 0 v1 0 0 0 σ
def lc_Model_toCharger (ad : Nat → Nat) (b : Nat) (v1 v2 v3 v4 : Int32) : List (Nat × Value) := match b with
  | 0 => [(0, .ref (ad 0)), (1, .int v1)]
  | 1 => [(0, .ref (ad 0)), (1, .int v1), (2, .int v2), (3, .int v3)]
  | _ => []
def pc_Model_toCharger (b : Nat) : Nat := match b with
  | 0 => 0
  | 1 => 5
  | _ => 0
set_option maxHeartbeats 4000000 in
set_option maxRecDepth 100000 in
theorem t_Model_toCharger (l : Launch) (D : va_G) (cI cZ : ClassId) (ad : Nat → Nat) (inj : Inj ad 21) (v1 : Int32) (σ : Sg) (Q : (Int32 → Sg → Prop)) (h : q_Model_toCharger v1 σ Q) : Met l y_Model_toCharger (.code y_Model_toCharger prog_9_method_11_code 5 (some .int) :: TG) { frames := 2, cells := 0, slots := 0, locals := 45 } (va_Pc [.ref (ad 0), .int v1] (roB D (tysA cI cZ) (W_Model ad cI cZ σ))) (va_Qi Q (fun u t => va_P D classes (W_Model ad cI cZ u) t.heap) (inA ad 21)) 0 0 (inA ad 21) := by
  refine Met.ofW (cc := prog_9_method_11_code) (maxL := 5) (ret := (some .int)) (by decide) rfl ?_
  intro p e s m args below meth c s₁ B hml hv
  obtain ⟨rfl, hP, hK⟩ := hv
  have hx := B.exec
  have hb := B.bytes
  have hr := B.returns
  have hts : ∀ w ∈ TG, w.before [.ref (ad 0), .int v1].toArray s = true := fun w hw => atoms_spec (ws := .code y_Model_toCharger prog_9_method_11_code 5 (some .int) :: TG) B.pre w (List.mem_cons_of_mem _ hw)
  have hown : s.vm.findClass "CarrierPathsModel" = some m.cls := findClass_of_methodNamed B.named
  have hlocks := B.notSynchronized
  have hS : va_S (inA ad 21) s.heap s.heap [] := va_S.rf
  have hl := lv_entry ([.ref (ad 0), .int v1]) (n := 5) (Nat.le_of_ble_eq_true rfl)
  rw [lg_entry_eq]
  generalize (lg_sl ([.ref (ad 0), .int v1]) ++ List.replicate (5 - (lg_sl ([.ref (ad 0), .int v1])).length) Slot.unset).toArray = ls at hl ⊢
  generalize ([.ref (ad 0), .int v1] : List Value).toArray = args at hts ⊢
  have key : ∀ (n b : Nat) (v1 v2 v3 v4 : Int32) (σ : Sg), q_Model_toCharger_j Q n b v1 v2 v3 v4 σ → ∀ (H : Heap) (locs : List Loc) (ls : Array Slot), va_P D classes (W_Model ad cI cZ σ) H → va_S (inA ad 21) s.heap H locs → lv_has ls 5 (lc_Model_toCharger ad b v1 v2 v3 v4) → W p l e (headSpec (.code y_Model_toCharger prog_9_method_11_code 5 (some .int) :: TG) { frames := 2, cells := 0, slots := 0, locals := 45 }).room s m args below meth c H locs 0 0 (MQ below (va_Qi Q (fun u t => va_P D classes (W_Model ad cI cZ u) t.heap) (inA ad 21)) args s 0 0 (inA ad 21)) (F0 m (pc_Model_toCharger b) ls []) := by
    clear h hl hP hS
    intro n
    induction n with
    | zero => intro b _ _ _ _ _ h; exact False.elim h
    | succ n ih =>
      intro b v1 v2 v3 v4 σ h H locs ls hP hS hl
      match b, h, hl with
      | 0, h, hl =>
        have h : q_Model_toCharger_b0 (q_Model_toCharger_j Q n) Q v1 v2 v3 v4 σ := h
        have hl : lv_has ls 5 [(0, .ref (ad 0)), (1, .int v1)] := hl
        refine W.eq (g2 := F0 m 0 ls []) rfl ?_
        unfold q_Model_toCharger_b0 at h
        refine lv_ldc (v := 1000000000) hx hb hown (hts _ kw860) d_Model_toCharger_0 ?_
        refine lv_istore_n (lv' := [(2, .int 1000000000), (0, .ref (ad 0)), (1, .int v1)]) hx hb d_Model_toCharger_2 rfl hl (by decide) rfl (fun ls hl => ?_)
        refine lv_iconst (v := 0) hx hb d_Model_toCharger_3 (by decide) ?_
        refine lv_istore_n (lv' := [(3, .int 0), (2, .int 1000000000), (0, .ref (ad 0)), (1, .int v1)]) hx hb d_Model_toCharger_4 rfl hl (by decide) rfl (fun ls hl => ?_)
        exact ih 1 v1 1000000000 0 0 σ h _ _ _ hP hS (lv_sub hl [2, 3, 1, 0] rfl)
      | 1, h, hl =>
        have h : q_Model_toCharger_b1 (q_Model_toCharger_j Q n) Q v1 v2 v3 v4 σ := h
        have hl : lv_has ls 5 [(0, .ref (ad 0)), (1, .int v1), (2, .int v2), (3, .int v3)] := hl
        refine W.eq (g2 := F0 m 5 ls []) rfl ?_
        unfold q_Model_toCharger_b1 at h
        refine lv_iload_n hx hb d_Model_toCharger_5 rfl (lv_at hl 3 rfl) ?_
        refine lv_aload_n hx hb d_Model_toCharger_6 rfl (lv_at hl 0 rfl) ?_
        refine va_get (D := D) (ci := 7) (v := .int (σ 0 1)) (C := "CarrierPathsModel") (T := F_Model) (N := 27) hx hb hts in_Model hown hK hP 0 rfl rfl 1 (by decide) (hts _ kw756) (fun _ h9 => h9) rfl d_Model_toCharger_7 ?_
        refine lv_icmp_ge (tgt := 54) hx hb d_Model_toCharger_10 (by decide) (fun hc => ?_) (fun hc => ?_)
        · have h := h.1 hc
          refine lv_iload_n hx hb d_Model_toCharger_54 rfl (lv_at hl 2 rfl) ?_
          exact W.iret (v := v2) hx hb hr (fun t ht hW => ⟨⟨v2, σ, rfl, h, hp_back ht hP⟩, hS.F ht⟩) hS.2.2 d_Model_toCharger_55
        · have h := h.2 hc
          refine lv_aload_n hx hb d_Model_toCharger_13 rfl (lv_at hl 0 rfl) ?_
          refine va_get (D := D) (ci := 7) (v := .ref (ad 2)) (C := "CarrierPathsModel") (T := F_Model) (N := 27) hx hb hts in_Model hown hK hP 0 rfl rfl 3 (by decide) (hts _ kw758) (fun _ h9 => h9) rfl d_Model_toCharger_14 ?_
          refine lv_iload_n hx hb d_Model_toCharger_17 rfl (lv_at hl 3 rfl) ?_
          obtain ⟨hi, h⟩ := h
          refine va_zald hx hb hK hP 2 1 rfl rfl hi d_Model_toCharger_18 ?_
          refine lv_if_eq (tgt := 31) hx hb d_Model_toCharger_19 (by decide) (fun hc => ?_) (fun hc => ?_)
          · have h := h.1 hc
            refine lv_ldc (v := 1000000000) hx hb hown (hts _ kw860) d_Model_toCharger_31 ?_
            refine lv_istore (lv' := [(4, .int 1000000000), (0, .ref (ad 0)), (1, .int v1), (2, .int v2), (3, .int v3)]) hx hb d_Model_toCharger_33 hl (by decide) rfl (fun ls hl => ?_)
            refine lv_iload hx hb d_Model_toCharger_35 (lv_at hl 0 rfl) ?_
            refine lv_iload_n hx hb d_Model_toCharger_37 rfl (lv_at hl 3 rfl) ?_
            refine lv_icmp_ge (tgt := 46) hx hb d_Model_toCharger_38 (by decide) (fun hc => ?_) (fun hc => ?_)
            · have h := h.1 hc
              refine lv_iload_n hx hb d_Model_toCharger_46 rfl (lv_at hl 3 rfl) ?_
              refine lv_istore_n (lv' := [(2, .int v2), (4, .int 1000000000), (0, .ref (ad 0)), (1, .int v1), (3, .int v3)]) hx hb d_Model_toCharger_47 rfl hl (by decide) rfl (fun ls hl => ?_)
              refine lv_iinc (v := (v3 + 1)) (lv' := [(3, .int (v3 + 1)), (2, .int v2), (4, .int 1000000000), (0, .ref (ad 0)), (1, .int v1)]) hx hb d_Model_toCharger_48 hl (k := 4) rfl rfl (by decide) rfl (fun ls hl => ?_)
              refine lv_goto (tgt := 5) hx hb d_Model_toCharger_51 (by decide) ?_
              exact ih 1 v1 v2 (v3 + 1) 0 σ h _ _ _ hP hS (lv_sub hl [3, 4, 1, 0] rfl)
            · have h := h.2 hc
              refine lv_iload hx hb d_Model_toCharger_41 (lv_at hl 0 rfl) ?_
              refine lv_goto (tgt := 47) hx hb d_Model_toCharger_43 (by decide) ?_
              refine lv_istore_n (lv' := [(2, .int 1000000000), (4, .int 1000000000), (0, .ref (ad 0)), (1, .int v1), (3, .int v3)]) hx hb d_Model_toCharger_47 rfl hl (by decide) rfl (fun ls hl => ?_)
              refine lv_iinc (v := (v3 + 1)) (lv' := [(3, .int (v3 + 1)), (2, .int 1000000000), (4, .int 1000000000), (0, .ref (ad 0)), (1, .int v1)]) hx hb d_Model_toCharger_48 hl (k := 4) rfl rfl (by decide) rfl (fun ls hl => ?_)
              refine lv_goto (tgt := 5) hx hb d_Model_toCharger_51 (by decide) ?_
              exact ih 1 v1 1000000000 (v3 + 1) 0 σ h _ _ _ hP hS (lv_sub hl [3, 4, 1, 0] rfl)
          · have h := h.2 hc
            refine lv_aload_n hx hb d_Model_toCharger_22 rfl (lv_at hl 0 rfl) ?_
            refine lv_iload_n hx hb d_Model_toCharger_23 rfl (lv_at hl 1 rfl) ?_
            refine lv_iload_n hx hb d_Model_toCharger_24 rfl (lv_at hl 3 rfl) ?_
            refine va_calli (va_runV (As := [.int v1, .int v3]) (rest := []) ⟨hx, hb, hml, hown, hts⟩ (t_Model_timeTo l D cI cZ ad inj v1 v3 σ _ h) (cwV 2 hts (g_of kw905 kw907 kp29 kw9 kw908) rfl rfl rfl (by decide +kernel) ⟨Nat.le_of_ble_eq_true rfl, Nat.le_of_ble_eq_true rfl⟩) (ro_pre hK hP (va_recv hK hP (ci := 7) (q0 := 0) rfl rfl)) rfl rfl hl.1 rfl (lv_room (Nat.le_of_ble_eq_true rfl)) d_Model_toCharger_25 ⟨Nat.le_of_ble_eq_true rfl, Nat.le_of_ble_eq_true rfl⟩) hS (fun _ _ h => h) (fun _ h => h) (fun r2 u1 t H1 locs ht _ h hP1 _ hk1 hS => ?_)
            have hP1 : va_P D classes (W_Model ad cI cZ u1) H1 := hp_fwd ht hP1
            clear hk1 ht
            generalize H1 = H at hP1 hS ⊢
            have hP := hP1
            refine lv_goto (tgt := 33) hx hb d_Model_toCharger_28 (by decide) ?_
            refine lv_istore (lv' := [(4, .int r2), (0, .ref (ad 0)), (1, .int v1), (2, .int v2), (3, .int v3)]) hx hb d_Model_toCharger_33 hl (by decide) rfl (fun ls hl => ?_)
            refine lv_iload hx hb d_Model_toCharger_35 (lv_at hl 0 rfl) ?_
            refine lv_iload_n hx hb d_Model_toCharger_37 rfl (lv_at hl 3 rfl) ?_
            refine lv_icmp_ge (tgt := 46) hx hb d_Model_toCharger_38 (by decide) (fun hc => ?_) (fun hc => ?_)
            · have h := h.1 hc
              refine lv_iload_n hx hb d_Model_toCharger_46 rfl (lv_at hl 3 rfl) ?_
              refine lv_istore_n (lv' := [(2, .int v2), (4, .int r2), (0, .ref (ad 0)), (1, .int v1), (3, .int v3)]) hx hb d_Model_toCharger_47 rfl hl (by decide) rfl (fun ls hl => ?_)
              refine lv_iinc (v := (v3 + 1)) (lv' := [(3, .int (v3 + 1)), (2, .int v2), (4, .int r2), (0, .ref (ad 0)), (1, .int v1)]) hx hb d_Model_toCharger_48 hl (k := 4) rfl rfl (by decide) rfl (fun ls hl => ?_)
              refine lv_goto (tgt := 5) hx hb d_Model_toCharger_51 (by decide) ?_
              exact ih 1 v1 v2 (v3 + 1) 0 u1 h _ _ _ hP hS (lv_sub hl [3, 4, 1, 0] rfl)
            · have h := h.2 hc
              refine lv_iload hx hb d_Model_toCharger_41 (lv_at hl 0 rfl) ?_
              refine lv_goto (tgt := 47) hx hb d_Model_toCharger_43 (by decide) ?_
              refine lv_istore_n (lv' := [(2, .int r2), (4, .int r2), (0, .ref (ad 0)), (1, .int v1), (3, .int v3)]) hx hb d_Model_toCharger_47 rfl hl (by decide) rfl (fun ls hl => ?_)
              refine lv_iinc (v := (v3 + 1)) (lv' := [(3, .int (v3 + 1)), (2, .int r2), (4, .int r2), (0, .ref (ad 0)), (1, .int v1)]) hx hb d_Model_toCharger_48 hl (k := 4) rfl rfl (by decide) rfl (fun ls hl => ?_)
              refine lv_goto (tgt := 5) hx hb d_Model_toCharger_51 (by decide) ?_
              exact ih 1 v1 r2 (v3 + 1) 0 u1 h _ _ _ hP hS (lv_sub hl [3, 4, 1, 0] rfl)
      | _ + 2, h, _ => exact False.elim h
  exact key 4000 0 v1 0 0 0 σ h s.heap [] ls hP hS hl
def q_Model_standing_b0 (J : Nat → Int32 → Int32 → Int32 → Prop) (Q : (Int32 → Prop)) (v1 v2 v3 : Int32) (σ : Sg) : Prop :=
  J 1 v1 0 0
def q_Model_standing_b1 (J : Nat → Int32 → Int32 → Int32 → Prop) (Q : (Int32 → Prop)) (v1 v2 v3 : Int32) (σ : Sg) : Prop :=
  (((σ 0 11) ≤ v3 → Q v2) ∧ (¬ (σ 0 11) ≤ v3 → (vp_in v3 6 ∧ (((σ 8 v3.toNatClampNeg) = v1 → J 1 v1 (v2 + 1) (v3 + 1)) ∧ (¬ (σ 8 v3.toNatClampNeg) = v1 → J 1 v1 (v2 + 0) (v3 + 1))))))
def q_Model_standing_j (Q : (Int32 → Prop)) (σ : Sg) : Nat → Nat → Int32 → Int32 → Int32 → Prop
  | 0, _, _, _, _ => False
  | n + 1, 0, v1, v2, v3 => q_Model_standing_b0 (q_Model_standing_j Q σ n) Q v1 v2 v3 σ
  | n + 1, 1, v1, v2, v3 => q_Model_standing_b1 (q_Model_standing_j Q σ n) Q v1 v2 v3 σ
  | _ + 1, _ + 2, _, _, _ => False
def q_Model_standing (v1 : Int32) (σ : Sg) (Q : (Int32 → Prop)) : Prop := q_Model_standing_j Q σ 4000 0 v1 0 0
def lc_Model_standing (ad : Nat → Nat) (b : Nat) (v1 v2 v3 : Int32) : List (Nat × Value) := match b with
  | 0 => [(0, .ref (ad 0)), (1, .int v1)]
  | 1 => [(0, .ref (ad 0)), (1, .int v1), (2, .int v2), (3, .int v3)]
  | _ => []
def pc_Model_standing (b : Nat) : Nat := match b with
  | 0 => 0
  | 1 => 4
  | _ => 0
set_option maxHeartbeats 4000000 in
set_option maxRecDepth 100000 in
theorem t_Model_standing (l : Launch) (D : va_G) (cI cZ : ClassId) (ad : Nat → Nat) (v1 : Int32) (σ : Sg) (Q : (Int32 → Prop)) (h : q_Model_standing v1 σ Q) : Met l y_Model_standing (.code y_Model_standing prog_9_method_12_code 4 (some .int) :: TG) { frames := 0, cells := 0, slots := 0, locals := 0 } (va_Pc [.ref (ad 0), .int v1] (roB D (tysA cI cZ) (W_Model ad cI cZ σ))) (vp_Si Q) 0 0 (fun _ => False) := by
  refine Met.ofW (cc := prog_9_method_12_code) (maxL := 4) (ret := (some .int)) (by decide) rfl ?_
  intro p e s m args below meth c s₁ B hml hv
  obtain ⟨rfl, hP, hK⟩ := hv
  have hx := B.exec
  have hb := B.bytes
  have hr := B.returns
  have hts : ∀ w ∈ TG, w.before [.ref (ad 0), .int v1].toArray s = true := fun w hw => atoms_spec (ws := .code y_Model_standing prog_9_method_12_code 4 (some .int) :: TG) B.pre w (List.mem_cons_of_mem _ hw)
  have hown : s.vm.findClass "CarrierPathsModel" = some m.cls := findClass_of_methodNamed B.named
  have hlocks := B.notSynchronized
  have hl := lv_entry ([.ref (ad 0), .int v1]) (n := 4) (Nat.le_of_ble_eq_true rfl)
  rw [lg_entry_eq]
  generalize (lg_sl ([.ref (ad 0), .int v1]) ++ List.replicate (4 - (lg_sl ([.ref (ad 0), .int v1])).length) Slot.unset).toArray = ls at hl ⊢
  generalize ([.ref (ad 0), .int v1] : List Value).toArray = args at hts ⊢
  have key : ∀ (n b : Nat) (v1 v2 v3 : Int32), q_Model_standing_j Q σ n b v1 v2 v3 → ∀ ls : Array Slot, lv_has ls 4 (lc_Model_standing ad b v1 v2 v3) → W p l e (headSpec (.code y_Model_standing prog_9_method_12_code 4 (some .int) :: TG) { frames := 0, cells := 0, slots := 0, locals := 0 }).room s m args below meth c s.heap [] 0 0 (MQ below (vp_Si Q) args s 0 0 (fun _ => False)) (F0 m (pc_Model_standing b) ls []) := by
    clear h hl
    intro n
    induction n with
    | zero => intro b _ _ _ h; exact False.elim h
    | succ n ih =>
      intro b v1 v2 v3 h ls hl
      match b, h, hl with
      | 0, h, hl =>
        have h : q_Model_standing_b0 (q_Model_standing_j Q σ n) Q v1 v2 v3 σ := h
        have hl : lv_has ls 4 [(0, .ref (ad 0)), (1, .int v1)] := hl
        refine W.eq (g2 := F0 m 0 ls []) rfl ?_
        unfold q_Model_standing_b0 at h
        refine lv_iconst (v := 0) hx hb d_Model_standing_0 (by decide) ?_
        refine lv_istore_n (lv' := [(2, .int 0), (0, .ref (ad 0)), (1, .int v1)]) hx hb d_Model_standing_1 rfl hl (by decide) rfl (fun ls hl => ?_)
        refine lv_iconst (v := 0) hx hb d_Model_standing_2 (by decide) ?_
        refine lv_istore_n (lv' := [(3, .int 0), (2, .int 0), (0, .ref (ad 0)), (1, .int v1)]) hx hb d_Model_standing_3 rfl hl (by decide) rfl (fun ls hl => ?_)
        exact ih 1 v1 0 0 h _ (lv_sub hl [2, 3, 1, 0] rfl)
      | 1, h, hl =>
        have h : q_Model_standing_b1 (q_Model_standing_j Q σ n) Q v1 v2 v3 σ := h
        have hl : lv_has ls 4 [(0, .ref (ad 0)), (1, .int v1), (2, .int v2), (3, .int v3)] := hl
        refine W.eq (g2 := F0 m 4 ls []) rfl ?_
        unfold q_Model_standing_b1 at h
        refine lv_iload_n hx hb d_Model_standing_4 rfl (lv_at hl 3 rfl) ?_
        refine lv_aload_n hx hb d_Model_standing_5 rfl (lv_at hl 0 rfl) ?_
        refine va_get (D := D) (ci := 7) (v := .int (σ 0 11)) (C := "CarrierPathsModel") (T := F_Model) (N := 27) hx hb hts in_Model hown hK hP 0 rfl rfl 11 (by decide) (hts _ kw766) (fun _ h9 => h9) rfl d_Model_standing_6 ?_
        refine lv_icmp_ge (tgt := 36) hx hb d_Model_standing_9 (by decide) (fun hc => ?_) (fun hc => ?_)
        · have h := h.1 hc
          refine lv_iload_n hx hb d_Model_standing_36 rfl (lv_at hl 2 rfl) ?_
          exact W.iret (v := v2) hx hb hr (fun t ht hW => ⟨v2, rfl, h, ht⟩) (fun q hq => by cases hq) d_Model_standing_37
        · have h := h.2 hc
          refine lv_iload_n hx hb d_Model_standing_12 rfl (lv_at hl 2 rfl) ?_
          refine lv_aload_n hx hb d_Model_standing_13 rfl (lv_at hl 0 rfl) ?_
          refine va_get (D := D) (ci := 7) (v := .ref (ad 8)) (C := "CarrierPathsModel") (T := F_Model) (N := 27) hx hb hts in_Model hown hK hP 0 rfl rfl 12 (by decide) (hts _ kw767) (fun _ h9 => h9) rfl d_Model_standing_14 ?_
          refine lv_iload_n hx hb d_Model_standing_17 rfl (lv_at hl 3 rfl) ?_
          obtain ⟨hi, h⟩ := h
          refine va_iald hx hb hK hP 8 0 rfl rfl hi d_Model_standing_18 ?_
          refine lv_iload_n hx hb d_Model_standing_19 rfl (lv_at hl 1 rfl) ?_
          refine lv_icmp_ne (tgt := 27) hx hb d_Model_standing_20 (by decide) (fun hc => ?_) (fun hc => ?_)
          · have h := h.2 hc
            refine lv_iconst (v := 0) hx hb d_Model_standing_27 (by decide) ?_
            refine lv_iadd hx hb d_Model_standing_28 ?_
            refine lv_istore_n (lv' := [(2, .int (v2 + 0)), (0, .ref (ad 0)), (1, .int v1), (3, .int v3)]) hx hb d_Model_standing_29 rfl hl (by decide) rfl (fun ls hl => ?_)
            refine lv_iinc (v := (v3 + 1)) (lv' := [(3, .int (v3 + 1)), (2, .int (v2 + 0)), (0, .ref (ad 0)), (1, .int v1)]) hx hb d_Model_standing_30 hl (k := 3) rfl rfl (by decide) rfl (fun ls hl => ?_)
            refine lv_goto (tgt := 4) hx hb d_Model_standing_33 (by decide) ?_
            exact ih 1 v1 (v2 + 0) (v3 + 1) h _ (lv_sub hl [2, 3, 1, 0] rfl)
          · have h := h.1 hc
            refine lv_iconst (v := 1) hx hb d_Model_standing_23 (by decide) ?_
            refine lv_goto (tgt := 28) hx hb d_Model_standing_24 (by decide) ?_
            refine lv_iadd hx hb d_Model_standing_28 ?_
            refine lv_istore_n (lv' := [(2, .int (v2 + 1)), (0, .ref (ad 0)), (1, .int v1), (3, .int v3)]) hx hb d_Model_standing_29 rfl hl (by decide) rfl (fun ls hl => ?_)
            refine lv_iinc (v := (v3 + 1)) (lv' := [(3, .int (v3 + 1)), (2, .int (v2 + 1)), (0, .ref (ad 0)), (1, .int v1)]) hx hb d_Model_standing_30 hl (k := 3) rfl rfl (by decide) rfl (fun ls hl => ?_)
            refine lv_goto (tgt := 4) hx hb d_Model_standing_33 (by decide) ?_
            exact ih 1 v1 (v2 + 1) (v3 + 1) h _ (lv_sub hl [2, 3, 1, 0] rfl)
      | _ + 2, h, _ => exact False.elim h
  exact key 4000 0 v1 0 0 h ls hl
def q_Model_freeIn_b0 (J : Nat → Int32 → Int32 → Int32 → Prop) (Q : (Int32 → Prop)) (v1 v2 v3 : Int32) (σ : Sg) : Prop :=
  J 1 v1 0 0
def q_Model_freeIn_b1 (J : Nat → Int32 → Int32 → Int32 → Prop) (Q : (Int32 → Prop)) (v1 v2 v3 : Int32) (σ : Sg) : Prop :=
  (((σ 0 1) ≤ v3 → Q v2) ∧ (¬ (σ 0 1) ≤ v3 → (vp_in v1 4 ∧ (((((σ 7 v1.toNatClampNeg) >>> (v3 &&& 31)) &&& 1) = 1 → (vp_in v3 10 ∧ (q_Model_standing v3 σ (fun r1 => J 1 v1 (v2 + ((σ 1 v3.toNatClampNeg) - r1)) (v3 + 1))))) ∧ (¬ (((σ 7 v1.toNatClampNeg) >>> (v3 &&& 31)) &&& 1) = 1 → J 1 v1 (v2 + 0) (v3 + 1))))))
def q_Model_freeIn_j (Q : (Int32 → Prop)) (σ : Sg) : Nat → Nat → Int32 → Int32 → Int32 → Prop
  | 0, _, _, _, _ => False
  | n + 1, 0, v1, v2, v3 => q_Model_freeIn_b0 (q_Model_freeIn_j Q σ n) Q v1 v2 v3 σ
  | n + 1, 1, v1, v2, v3 => q_Model_freeIn_b1 (q_Model_freeIn_j Q σ n) Q v1 v2 v3 σ
  | _ + 1, _ + 2, _, _, _ => False
def q_Model_freeIn (v1 : Int32) (σ : Sg) (Q : (Int32 → Prop)) : Prop := q_Model_freeIn_j Q σ 4000 0 v1 0 0
def lc_Model_freeIn (ad : Nat → Nat) (b : Nat) (v1 v2 v3 : Int32) : List (Nat × Value) := match b with
  | 0 => [(0, .ref (ad 0)), (1, .int v1)]
  | 1 => [(0, .ref (ad 0)), (1, .int v1), (2, .int v2), (3, .int v3)]
  | _ => []
def pc_Model_freeIn (b : Nat) : Nat := match b with
  | 0 => 0
  | 1 => 4
  | _ => 0
set_option maxHeartbeats 4000000 in
set_option maxRecDepth 100000 in
theorem t_Model_freeIn (l : Launch) (D : va_G) (cI cZ : ClassId) (ad : Nat → Nat) (v1 : Int32) (σ : Sg) (Q : (Int32 → Prop)) (h : q_Model_freeIn v1 σ Q) : Met l y_Model_freeIn (.code y_Model_freeIn prog_9_method_13_code 4 (some .int) :: TG) { frames := 1, cells := 0, slots := 0, locals := 23 } (va_Pc [.ref (ad 0), .int v1] (roB D (tysA cI cZ) (W_Model ad cI cZ σ))) (vp_Si Q) 0 0 (fun _ => False) := by
  refine Met.ofW (cc := prog_9_method_13_code) (maxL := 4) (ret := (some .int)) (by decide) rfl ?_
  intro p e s m args below meth c s₁ B hml hv
  obtain ⟨rfl, hP, hK⟩ := hv
  have hx := B.exec
  have hb := B.bytes
  have hr := B.returns
  have hts : ∀ w ∈ TG, w.before [.ref (ad 0), .int v1].toArray s = true := fun w hw => atoms_spec (ws := .code y_Model_freeIn prog_9_method_13_code 4 (some .int) :: TG) B.pre w (List.mem_cons_of_mem _ hw)
  have hown : s.vm.findClass "CarrierPathsModel" = some m.cls := findClass_of_methodNamed B.named
  have hlocks := B.notSynchronized
  have hl := lv_entry ([.ref (ad 0), .int v1]) (n := 4) (Nat.le_of_ble_eq_true rfl)
  rw [lg_entry_eq]
  generalize (lg_sl ([.ref (ad 0), .int v1]) ++ List.replicate (4 - (lg_sl ([.ref (ad 0), .int v1])).length) Slot.unset).toArray = ls at hl ⊢
  generalize ([.ref (ad 0), .int v1] : List Value).toArray = args at hts ⊢
  have key : ∀ (n b : Nat) (v1 v2 v3 : Int32), q_Model_freeIn_j Q σ n b v1 v2 v3 → ∀ ls : Array Slot, lv_has ls 4 (lc_Model_freeIn ad b v1 v2 v3) → W p l e (headSpec (.code y_Model_freeIn prog_9_method_13_code 4 (some .int) :: TG) { frames := 1, cells := 0, slots := 0, locals := 23 }).room s m args below meth c s.heap [] 0 0 (MQ below (vp_Si Q) args s 0 0 (fun _ => False)) (F0 m (pc_Model_freeIn b) ls []) := by
    clear h hl
    intro n
    induction n with
    | zero => intro b _ _ _ h; exact False.elim h
    | succ n ih =>
      intro b v1 v2 v3 h ls hl
      match b, h, hl with
      | 0, h, hl =>
        have h : q_Model_freeIn_b0 (q_Model_freeIn_j Q σ n) Q v1 v2 v3 σ := h
        have hl : lv_has ls 4 [(0, .ref (ad 0)), (1, .int v1)] := hl
        refine W.eq (g2 := F0 m 0 ls []) rfl ?_
        unfold q_Model_freeIn_b0 at h
        refine lv_iconst (v := 0) hx hb d_Model_freeIn_0 (by decide) ?_
        refine lv_istore_n (lv' := [(2, .int 0), (0, .ref (ad 0)), (1, .int v1)]) hx hb d_Model_freeIn_1 rfl hl (by decide) rfl (fun ls hl => ?_)
        refine lv_iconst (v := 0) hx hb d_Model_freeIn_2 (by decide) ?_
        refine lv_istore_n (lv' := [(3, .int 0), (2, .int 0), (0, .ref (ad 0)), (1, .int v1)]) hx hb d_Model_freeIn_3 rfl hl (by decide) rfl (fun ls hl => ?_)
        exact ih 1 v1 0 0 h _ (lv_sub hl [2, 3, 1, 0] rfl)
      | 1, h, hl =>
        have h : q_Model_freeIn_b1 (q_Model_freeIn_j Q σ n) Q v1 v2 v3 σ := h
        have hl : lv_has ls 4 [(0, .ref (ad 0)), (1, .int v1), (2, .int v2), (3, .int v3)] := hl
        refine W.eq (g2 := F0 m 4 ls []) rfl ?_
        unfold q_Model_freeIn_b1 at h
        refine lv_iload_n hx hb d_Model_freeIn_4 rfl (lv_at hl 3 rfl) ?_
        refine lv_aload_n hx hb d_Model_freeIn_5 rfl (lv_at hl 0 rfl) ?_
        refine va_get (D := D) (ci := 7) (v := .int (σ 0 1)) (C := "CarrierPathsModel") (T := F_Model) (N := 27) hx hb hts in_Model hown hK hP 0 rfl rfl 1 (by decide) (hts _ kw756) (fun _ h9 => h9) rfl d_Model_freeIn_6 ?_
        refine lv_icmp_ge (tgt := 51) hx hb d_Model_freeIn_9 (by decide) (fun hc => ?_) (fun hc => ?_)
        · have h := h.1 hc
          refine lv_iload_n hx hb d_Model_freeIn_51 rfl (lv_at hl 2 rfl) ?_
          exact W.iret (v := v2) hx hb hr (fun t ht hW => ⟨v2, rfl, h, ht⟩) (fun q hq => by cases hq) d_Model_freeIn_52
        · have h := h.2 hc
          refine lv_iload_n hx hb d_Model_freeIn_12 rfl (lv_at hl 2 rfl) ?_
          refine lv_aload_n hx hb d_Model_freeIn_13 rfl (lv_at hl 0 rfl) ?_
          refine va_get (D := D) (ci := 7) (v := .ref (ad 7)) (C := "CarrierPathsModel") (T := F_Model) (N := 27) hx hb hts in_Model hown hK hP 0 rfl rfl 10 (by decide) (hts _ kw765) (fun _ h9 => h9) rfl d_Model_freeIn_14 ?_
          refine lv_iload_n hx hb d_Model_freeIn_17 rfl (lv_at hl 1 rfl) ?_
          obtain ⟨hi, h⟩ := h
          refine va_iald hx hb hK hP 7 0 rfl rfl hi d_Model_freeIn_18 ?_
          refine lv_iload_n hx hb d_Model_freeIn_19 rfl (lv_at hl 3 rfl) ?_
          refine lv_ishr hx hb d_Model_freeIn_20 ?_
          refine lv_iconst (v := 1) hx hb d_Model_freeIn_21 (by decide) ?_
          refine lv_iand hx hb d_Model_freeIn_22 ?_
          refine lv_iconst (v := 1) hx hb d_Model_freeIn_23 (by decide) ?_
          refine lv_icmp_ne (tgt := 42) hx hb d_Model_freeIn_24 (by decide) (fun hc => ?_) (fun hc => ?_)
          · have h := h.2 hc
            refine lv_iconst (v := 0) hx hb d_Model_freeIn_42 (by decide) ?_
            refine lv_iadd hx hb d_Model_freeIn_43 ?_
            refine lv_istore_n (lv' := [(2, .int (v2 + 0)), (0, .ref (ad 0)), (1, .int v1), (3, .int v3)]) hx hb d_Model_freeIn_44 rfl hl (by decide) rfl (fun ls hl => ?_)
            refine lv_iinc (v := (v3 + 1)) (lv' := [(3, .int (v3 + 1)), (2, .int (v2 + 0)), (0, .ref (ad 0)), (1, .int v1)]) hx hb d_Model_freeIn_45 hl (k := 3) rfl rfl (by decide) rfl (fun ls hl => ?_)
            refine lv_goto (tgt := 4) hx hb d_Model_freeIn_48 (by decide) ?_
            exact ih 1 v1 (v2 + 0) (v3 + 1) h _ (lv_sub hl [2, 3, 1, 0] rfl)
          · have h := h.1 hc
            refine lv_aload_n hx hb d_Model_freeIn_27 rfl (lv_at hl 0 rfl) ?_
            refine va_get (D := D) (ci := 7) (v := .ref (ad 1)) (C := "CarrierPathsModel") (T := F_Model) (N := 27) hx hb hts in_Model hown hK hP 0 rfl rfl 2 (by decide) (hts _ kw757) (fun _ h9 => h9) rfl d_Model_freeIn_28 ?_
            refine lv_iload_n hx hb d_Model_freeIn_31 rfl (lv_at hl 3 rfl) ?_
            obtain ⟨hi, h⟩ := h
            refine va_iald hx hb hK hP 1 0 rfl rfl hi d_Model_freeIn_32 ?_
            refine lv_aload_n hx hb d_Model_freeIn_33 rfl (lv_at hl 0 rfl) ?_
            refine lv_iload_n hx hb d_Model_freeIn_34 rfl (lv_at hl 3 rfl) ?_
            refine vp_callSi (W.runV (As := [.int v3]) (rest := [.int (σ 1 v3.toNatClampNeg), .int v2]) ⟨hx, hb, hml, hown, hts⟩ (t_Model_standing l D cI cZ ad v3 σ _ h) (cwV 1 hts (g_of kw873 kw875 kp26 kw9 kw876) rfl rfl rfl (by decide +kernel) ⟨Nat.le_of_ble_eq_true rfl, Nat.le_of_ble_eq_true rfl⟩) (ro_pre hK hP (va_recv hK hP (ci := 7) (q0 := 0) rfl rfl)) rfl rfl hl.1 rfl (lv_room (Nat.le_of_ble_eq_true rfl)) d_Model_freeIn_35 ⟨Nat.le_of_ble_eq_true rfl, Nat.le_of_ble_eq_true rfl⟩) (fun r1 h => ?_)
            refine lv_isub hx hb d_Model_freeIn_38 ?_
            refine lv_goto (tgt := 43) hx hb d_Model_freeIn_39 (by decide) ?_
            refine lv_iadd hx hb d_Model_freeIn_43 ?_
            refine lv_istore_n (lv' := [(2, .int (v2 + ((σ 1 v3.toNatClampNeg) - r1))), (0, .ref (ad 0)), (1, .int v1), (3, .int v3)]) hx hb d_Model_freeIn_44 rfl hl (by decide) rfl (fun ls hl => ?_)
            refine lv_iinc (v := (v3 + 1)) (lv' := [(3, .int (v3 + 1)), (2, .int (v2 + ((σ 1 v3.toNatClampNeg) - r1))), (0, .ref (ad 0)), (1, .int v1)]) hx hb d_Model_freeIn_45 hl (k := 3) rfl rfl (by decide) rfl (fun ls hl => ?_)
            refine lv_goto (tgt := 4) hx hb d_Model_freeIn_48 (by decide) ?_
            exact ih 1 v1 (v2 + ((σ 1 v3.toNatClampNeg) - r1)) (v3 + 1) h _ (lv_sub hl [2, 3, 1, 0] rfl)
      | _ + 2, h, _ => exact False.elim h
  exact key 4000 0 v1 0 0 h ls hl
def q_Model_piece_b0 (J : Nat → Int32 → Int32 → Int32 → Sg → Prop) (Q : (Int32 → Sg → Prop)) (v1 v2 v3 : Int32) (σ : Sg) : Prop :=
  (q_Model_isPoint v1 σ (fun r1 => ((r1 = 0 → J 1 v1 v2 v3 σ) ∧ (¬ r1 = 0 → (q_Model_isPoint v2 σ (fun r2 => ((r2 = 0 → J 1 v1 v2 v3 σ) ∧ (¬ r2 = 0 → ((v1 = v2 → J 1 v1 v2 v3 σ) ∧ (¬ v1 = v2 → (q_Model_in v3 1 100 (fun r3 => ((r3 = 0 → J 1 v1 v2 v3 σ) ∧ (¬ r3 = 0 → (((σ 0 4) = 30 → (q_Model_fails 2 σ (fun r5 u4 => Q r5 u4))) ∧ (¬ (σ 0 4) = 30 → (vp_in ((sto σ 0 0 0) 0 4) 30 ∧ (vp_in ((sto (sto σ 0 0 0) 3 ((sto σ 0 0 0) 0 4).toNatClampNeg v1) 0 4) 30 ∧ (vp_in ((sto (sto (sto σ 0 0 0) 3 ((sto σ 0 0 0) 0 4).toNatClampNeg v1) 4 ((sto (sto σ 0 0 0) 3 ((sto σ 0 0 0) 0 4).toNatClampNeg v1) 0 4).toNatClampNeg v2) 0 4) 30 ∧ Q (((sto (sto (sto (sto (sto σ 0 0 0) 3 ((sto σ 0 0 0) 0 4).toNatClampNeg v1) 4 ((sto (sto σ 0 0 0) 3 ((sto σ 0 0 0) 0 4).toNatClampNeg v1) 0 4).toNatClampNeg v2) 5 ((sto (sto (sto σ 0 0 0) 3 ((sto σ 0 0 0) 0 4).toNatClampNeg v1) 4 ((sto (sto σ 0 0 0) 3 ((sto σ 0 0 0) 0 4).toNatClampNeg v1) 0 4).toNatClampNeg v2) 0 4).toNatClampNeg v3) 0 4 (((sto (sto (sto (sto σ 0 0 0) 3 ((sto σ 0 0 0) 0 4).toNatClampNeg v1) 4 ((sto (sto σ 0 0 0) 3 ((sto σ 0 0 0) 0 4).toNatClampNeg v1) 0 4).toNatClampNeg v2) 5 ((sto (sto (sto σ 0 0 0) 3 ((sto σ 0 0 0) 0 4).toNatClampNeg v1) 4 ((sto (sto σ 0 0 0) 3 ((sto σ 0 0 0) 0 4).toNatClampNeg v1) 0 4).toNatClampNeg v2) 0 4).toNatClampNeg v3) 0 4) + 1)) 0 4) - 1) (sto (sto (sto (sto (sto σ 0 0 0) 3 ((sto σ 0 0 0) 0 4).toNatClampNeg v1) 4 ((sto (sto σ 0 0 0) 3 ((sto σ 0 0 0) 0 4).toNatClampNeg v1) 0 4).toNatClampNeg v2) 5 ((sto (sto (sto σ 0 0 0) 3 ((sto σ 0 0 0) 0 4).toNatClampNeg v1) 4 ((sto (sto σ 0 0 0) 3 ((sto σ 0 0 0) 0 4).toNatClampNeg v1) 0 4).toNatClampNeg v2) 0 4).toNatClampNeg v3) 0 4 (((sto (sto (sto (sto σ 0 0 0) 3 ((sto σ 0 0 0) 0 4).toNatClampNeg v1) 4 ((sto (sto σ 0 0 0) 3 ((sto σ 0 0 0) 0 4).toNatClampNeg v1) 0 4).toNatClampNeg v2) 5 ((sto (sto (sto σ 0 0 0) 3 ((sto σ 0 0 0) 0 4).toNatClampNeg v1) 4 ((sto (sto σ 0 0 0) 3 ((sto σ 0 0 0) 0 4).toNatClampNeg v1) 0 4).toNatClampNeg v2) 0 4).toNatClampNeg v3) 0 4) + 1)))))))))))))))))))))
def q_Model_piece_b1 (J : Nat → Int32 → Int32 → Int32 → Sg → Prop) (Q : (Int32 → Sg → Prop)) (v1 v2 v3 : Int32) (σ : Sg) : Prop :=
  (q_Model_fails 1 σ (fun r7 u6 => Q r7 u6))
def q_Model_piece_j (Q : (Int32 → Sg → Prop)) : Nat → Nat → Int32 → Int32 → Int32 → Sg → Prop
  | 0, _, _, _, _, _ => False
  | n + 1, 0, v1, v2, v3, σ => q_Model_piece_b0 (q_Model_piece_j Q n) Q v1 v2 v3 σ
  | n + 1, 1, v1, v2, v3, σ => q_Model_piece_b1 (q_Model_piece_j Q n) Q v1 v2 v3 σ
  | _ + 1, _ + 2, _, _, _, _ => False
def q_Model_piece (v1 v2 v3 : Int32) (σ : Sg) (Q : (Int32 → Sg → Prop)) : Prop := q_Model_piece_j Q 4000 0 v1 v2 v3 σ
def lc_Model_piece (ad : Nat → Nat) (b : Nat) (v1 v2 v3 : Int32) : List (Nat × Value) := match b with
  | 0 => [(0, .ref (ad 0)), (1, .int v1), (2, .int v2), (3, .int v3)]
  | 1 => [(0, .ref (ad 0)), (1, .int v1), (2, .int v2), (3, .int v3)]
  | _ => []
def pc_Model_piece (b : Nat) : Nat := match b with
  | 0 => 0
  | 1 => 31
  | _ => 0
set_option maxHeartbeats 4000000 in
set_option maxRecDepth 100000 in
theorem t_Model_piece (l : Launch) (D : va_G) (cI cZ : ClassId) (ad : Nat → Nat) (inj : Inj ad 21) (v1 v2 v3 : Int32) (σ : Sg) (Q : (Int32 → Sg → Prop)) (h : q_Model_piece v1 v2 v3 σ Q) : Met l y_Model_piece (.code y_Model_piece prog_9_method_14_code 4 (some .int) :: TG) { frames := 1, cells := 0, slots := 0, locals := 22 } (va_Pc [.ref (ad 0), .int v1, .int v2, .int v3] (roB D (tysA cI cZ) (W_Model ad cI cZ σ))) (va_Qi Q (fun u t => va_P D classes (W_Model ad cI cZ u) t.heap) (inA ad 21)) 0 0 (inA ad 21) := by
  refine Met.ofW (cc := prog_9_method_14_code) (maxL := 4) (ret := (some .int)) (by decide) rfl ?_
  intro p e s m args below meth c s₁ B hml hv
  obtain ⟨rfl, hP, hK⟩ := hv
  have hx := B.exec
  have hb := B.bytes
  have hr := B.returns
  have hts : ∀ w ∈ TG, w.before [.ref (ad 0), .int v1, .int v2, .int v3].toArray s = true := fun w hw => atoms_spec (ws := .code y_Model_piece prog_9_method_14_code 4 (some .int) :: TG) B.pre w (List.mem_cons_of_mem _ hw)
  have hown : s.vm.findClass "CarrierPathsModel" = some m.cls := findClass_of_methodNamed B.named
  have hlocks := B.notSynchronized
  have hS : va_S (inA ad 21) s.heap s.heap [] := va_S.rf
  have hl := lv_entry ([.ref (ad 0), .int v1, .int v2, .int v3]) (n := 4) (Nat.le_of_ble_eq_true rfl)
  rw [lg_entry_eq]
  generalize (lg_sl ([.ref (ad 0), .int v1, .int v2, .int v3]) ++ List.replicate (4 - (lg_sl ([.ref (ad 0), .int v1, .int v2, .int v3])).length) Slot.unset).toArray = ls at hl ⊢
  generalize ([.ref (ad 0), .int v1, .int v2, .int v3] : List Value).toArray = args at hts ⊢
  have key : ∀ (n b : Nat) (v1 v2 v3 : Int32) (σ : Sg), q_Model_piece_j Q n b v1 v2 v3 σ → ∀ (H : Heap) (locs : List Loc) (ls : Array Slot), va_P D classes (W_Model ad cI cZ σ) H → va_S (inA ad 21) s.heap H locs → lv_has ls 4 (lc_Model_piece ad b v1 v2 v3) → W p l e (headSpec (.code y_Model_piece prog_9_method_14_code 4 (some .int) :: TG) { frames := 1, cells := 0, slots := 0, locals := 22 }).room s m args below meth c H locs 0 0 (MQ below (va_Qi Q (fun u t => va_P D classes (W_Model ad cI cZ u) t.heap) (inA ad 21)) args s 0 0 (inA ad 21)) (F0 m (pc_Model_piece b) ls []) := by
    clear h hl hP hS
    intro n
    induction n with
    | zero => intro b _ _ _ _ h; exact False.elim h
    | succ n ih =>
      intro b v1 v2 v3 σ h H locs ls hP hS hl
      match b, h, hl with
      | 0, h, hl =>
        have h : q_Model_piece_b0 (q_Model_piece_j Q n) Q v1 v2 v3 σ := h
        have hl : lv_has ls 4 [(0, .ref (ad 0)), (1, .int v1), (2, .int v2), (3, .int v3)] := hl
        refine W.eq (g2 := F0 m 0 ls []) rfl ?_
        unfold q_Model_piece_b0 at h
        refine lv_aload_n hx hb d_Model_piece_0 rfl (lv_at hl 0 rfl) ?_
        refine lv_iload_n hx hb d_Model_piece_1 rfl (lv_at hl 1 rfl) ?_
        refine vp_callSi (W.runV (As := [.int v1]) (rest := []) ⟨hx, hb, hml, hown, hts⟩ (t_Model_isPoint l D cI cZ ad v1 σ _ h) (cwV 1 hts (g_of kw845 kw847 kp22 kw9 kw848) rfl rfl rfl (by decide +kernel) ⟨Nat.le_of_ble_eq_true rfl, Nat.le_of_ble_eq_true rfl⟩) (ro_pre hK hP (va_recv hK hP (ci := 7) (q0 := 0) rfl rfl)) rfl rfl hl.1 rfl (lv_room (Nat.le_of_ble_eq_true rfl)) d_Model_piece_2 ⟨Nat.le_of_ble_eq_true rfl, Nat.le_of_ble_eq_true rfl⟩) (fun r1 h => ?_)
        refine lv_if_eq (tgt := 31) hx hb d_Model_piece_5 (by decide) (fun hc => ?_) (fun hc => ?_)
        · have h := h.1 hc
          exact ih 1 v1 v2 v3 σ h _ _ _ hP hS (lv_sub hl [0, 1, 2, 3] rfl)
        · have h := h.2 hc
          refine lv_aload_n hx hb d_Model_piece_8 rfl (lv_at hl 0 rfl) ?_
          refine lv_iload_n hx hb d_Model_piece_9 rfl (lv_at hl 2 rfl) ?_
          refine vp_callSi (W.runV (As := [.int v2]) (rest := []) ⟨hx, hb, hml, hown, hts⟩ (t_Model_isPoint l D cI cZ ad v2 σ _ h) (cwV 1 hts (g_of kw845 kw847 kp22 kw9 kw848) rfl rfl rfl (by decide +kernel) ⟨Nat.le_of_ble_eq_true rfl, Nat.le_of_ble_eq_true rfl⟩) (ro_pre hK hP (va_recv hK hP (ci := 7) (q0 := 0) rfl rfl)) rfl rfl hl.1 rfl (lv_room (Nat.le_of_ble_eq_true rfl)) d_Model_piece_10 ⟨Nat.le_of_ble_eq_true rfl, Nat.le_of_ble_eq_true rfl⟩) (fun r2 h => ?_)
          refine lv_if_eq (tgt := 31) hx hb d_Model_piece_13 (by decide) (fun hc => ?_) (fun hc => ?_)
          · have h := h.1 hc
            exact ih 1 v1 v2 v3 σ h _ _ _ hP hS (lv_sub hl [0, 1, 2, 3] rfl)
          · have h := h.2 hc
            refine lv_iload_n hx hb d_Model_piece_16 rfl (lv_at hl 1 rfl) ?_
            refine lv_iload_n hx hb d_Model_piece_17 rfl (lv_at hl 2 rfl) ?_
            refine lv_icmp_eq (tgt := 31) hx hb d_Model_piece_18 (by decide) (fun hc => ?_) (fun hc => ?_)
            · have h := h.1 hc
              exact ih 1 v1 v2 v3 σ h _ _ _ hP hS (lv_sub hl [0, 1, 2, 3] rfl)
            · have h := h.2 hc
              refine lv_iload_n hx hb d_Model_piece_21 rfl (lv_at hl 3 rfl) ?_
              refine lv_iconst (v := 1) hx hb d_Model_piece_22 (by decide) ?_
              refine lv_bipush (v := 100) hx hb d_Model_piece_23 (by decide) ?_
              refine vp_callSi (W.runS (As := [.int v3, .int 1, .int 100]) (rest := []) ⟨hx, hb, hml, hown, hts⟩ (t_Model_in l v3 1 100 _ h) (va_cwS 3 hts (gS_of kw849 kw850 kw9 kw851) rfl rfl rfl (by decide +kernel) ⟨Nat.le_of_ble_eq_true rfl, Nat.le_of_ble_eq_true rfl⟩) st_pre rfl rfl hl.1 rfl (lv_room (Nat.le_of_ble_eq_true rfl)) d_Model_piece_25 ⟨Nat.le_of_ble_eq_true rfl, Nat.le_of_ble_eq_true rfl⟩) (fun r3 h => ?_)
              refine lv_if_ne (tgt := 37) hx hb d_Model_piece_28 (by decide) (fun hc => ?_) (fun hc => ?_)
              · have h := h.2 hc
                refine lv_aload_n hx hb d_Model_piece_37 rfl (lv_at hl 0 rfl) ?_
                refine va_get (D := D) (ci := 7) (v := .int (σ 0 4)) (C := "CarrierPathsModel") (T := F_Model) (N := 27) hx hb hts in_Model hown hK hP 0 rfl rfl 4 (by decide) (hts _ kw759) (fun _ h9 => h9) rfl d_Model_piece_38 ?_
                refine lv_bipush (v := 30) hx hb d_Model_piece_41 (by decide) ?_
                refine lv_icmp_ne (tgt := 52) hx hb d_Model_piece_43 (by decide) (fun hc => ?_) (fun hc => ?_)
                · have h := h.2 hc
                  refine lv_aload_n hx hb d_Model_piece_52 rfl (lv_at hl 0 rfl) ?_
                  refine lv_iconst (v := 0) hx hb d_Model_piece_53 (by decide) ?_
                  refine va_put (D := D) (ci := 7) (v := .int 0) (ty := .int) (C := "CarrierPathsModel") (T := F_Model) (N := 27) hx hb hts in_Model ty_Model ty_Model_ok nm_Model hown hK hP (D_Model inj) hS 0 rfl rfl 0 (by decide) (hts _ kw755) (fun _ h9 => h9) rfl (by decide +kernel) rfl rfl (Nat.le_of_ble_eq_true rfl) d_Model_piece_54 (fun H locs hP _ hS => ?_)
                  have hP := up_Model_f0 hP
                  refine lv_aload_n hx hb d_Model_piece_57 rfl (lv_at hl 0 rfl) ?_
                  refine va_get (D := D) (ci := 7) (v := .ref (ad 3)) (C := "CarrierPathsModel") (T := F_Model) (N := 27) hx hb hts in_Model hown hK hP 0 rfl rfl 5 (by decide) (hts _ kw760) (fun _ h9 => h9) rfl d_Model_piece_58 ?_
                  refine lv_aload_n hx hb d_Model_piece_61 rfl (lv_at hl 0 rfl) ?_
                  refine va_get (D := D) (ci := 7) (v := .int ((sto σ 0 0 0) 0 4)) (C := "CarrierPathsModel") (T := F_Model) (N := 27) hx hb hts in_Model hown hK hP 0 rfl rfl 4 (by decide) (hts _ kw759) (fun _ h9 => h9) rfl d_Model_piece_62 ?_
                  refine lv_iload_n hx hb d_Model_piece_65 rfl (lv_at hl 1 rfl) ?_
                  obtain ⟨hi, h⟩ := h
                  refine va_iast hx hb hK hP (D_Model inj) hS 3 0 rfl rfl hi d_Model_piece_66 (fun H locs hP _ hS => ?_)
                  have hP := up_Model_3 hP
                  refine lv_aload_n hx hb d_Model_piece_67 rfl (lv_at hl 0 rfl) ?_
                  refine va_get (D := D) (ci := 7) (v := .ref (ad 4)) (C := "CarrierPathsModel") (T := F_Model) (N := 27) hx hb hts in_Model hown hK hP 0 rfl rfl 6 (by decide) (hts _ kw761) (fun _ h9 => h9) rfl d_Model_piece_68 ?_
                  refine lv_aload_n hx hb d_Model_piece_71 rfl (lv_at hl 0 rfl) ?_
                  refine va_get (D := D) (ci := 7) (v := .int ((sto (sto σ 0 0 0) 3 ((sto σ 0 0 0) 0 4).toNatClampNeg v1) 0 4)) (C := "CarrierPathsModel") (T := F_Model) (N := 27) hx hb hts in_Model hown hK hP 0 rfl rfl 4 (by decide) (hts _ kw759) (fun _ h9 => h9) rfl d_Model_piece_72 ?_
                  refine lv_iload_n hx hb d_Model_piece_75 rfl (lv_at hl 2 rfl) ?_
                  obtain ⟨hi, h⟩ := h
                  refine va_iast hx hb hK hP (D_Model inj) hS 4 0 rfl rfl hi d_Model_piece_76 (fun H locs hP _ hS => ?_)
                  have hP := up_Model_4 hP
                  refine lv_aload_n hx hb d_Model_piece_77 rfl (lv_at hl 0 rfl) ?_
                  refine va_get (D := D) (ci := 7) (v := .ref (ad 5)) (C := "CarrierPathsModel") (T := F_Model) (N := 27) hx hb hts in_Model hown hK hP 0 rfl rfl 7 (by decide) (hts _ kw762) (fun _ h9 => h9) rfl d_Model_piece_78 ?_
                  refine lv_aload_n hx hb d_Model_piece_81 rfl (lv_at hl 0 rfl) ?_
                  refine va_get (D := D) (ci := 7) (v := .int ((sto (sto (sto σ 0 0 0) 3 ((sto σ 0 0 0) 0 4).toNatClampNeg v1) 4 ((sto (sto σ 0 0 0) 3 ((sto σ 0 0 0) 0 4).toNatClampNeg v1) 0 4).toNatClampNeg v2) 0 4)) (C := "CarrierPathsModel") (T := F_Model) (N := 27) hx hb hts in_Model hown hK hP 0 rfl rfl 4 (by decide) (hts _ kw759) (fun _ h9 => h9) rfl d_Model_piece_82 ?_
                  refine lv_iload_n hx hb d_Model_piece_85 rfl (lv_at hl 3 rfl) ?_
                  obtain ⟨hi, h⟩ := h
                  refine va_iast hx hb hK hP (D_Model inj) hS 5 0 rfl rfl hi d_Model_piece_86 (fun H locs hP _ hS => ?_)
                  have hP := up_Model_5 hP
                  refine lv_aload_n hx hb d_Model_piece_87 rfl (lv_at hl 0 rfl) ?_
                  refine lv_dup hx hb d_Model_piece_88 rfl ?_
                  refine va_get (D := D) (ci := 7) (v := .int ((sto (sto (sto (sto σ 0 0 0) 3 ((sto σ 0 0 0) 0 4).toNatClampNeg v1) 4 ((sto (sto σ 0 0 0) 3 ((sto σ 0 0 0) 0 4).toNatClampNeg v1) 0 4).toNatClampNeg v2) 5 ((sto (sto (sto σ 0 0 0) 3 ((sto σ 0 0 0) 0 4).toNatClampNeg v1) 4 ((sto (sto σ 0 0 0) 3 ((sto σ 0 0 0) 0 4).toNatClampNeg v1) 0 4).toNatClampNeg v2) 0 4).toNatClampNeg v3) 0 4)) (C := "CarrierPathsModel") (T := F_Model) (N := 27) hx hb hts in_Model hown hK hP 0 rfl rfl 4 (by decide) (hts _ kw759) (fun _ h9 => h9) rfl d_Model_piece_89 ?_
                  refine lv_iconst (v := 1) hx hb d_Model_piece_92 (by decide) ?_
                  refine lv_iadd hx hb d_Model_piece_93 ?_
                  refine va_put (D := D) (ci := 7) (v := .int (((sto (sto (sto (sto σ 0 0 0) 3 ((sto σ 0 0 0) 0 4).toNatClampNeg v1) 4 ((sto (sto σ 0 0 0) 3 ((sto σ 0 0 0) 0 4).toNatClampNeg v1) 0 4).toNatClampNeg v2) 5 ((sto (sto (sto σ 0 0 0) 3 ((sto σ 0 0 0) 0 4).toNatClampNeg v1) 4 ((sto (sto σ 0 0 0) 3 ((sto σ 0 0 0) 0 4).toNatClampNeg v1) 0 4).toNatClampNeg v2) 0 4).toNatClampNeg v3) 0 4) + 1)) (ty := .int) (C := "CarrierPathsModel") (T := F_Model) (N := 27) hx hb hts in_Model ty_Model ty_Model_ok nm_Model hown hK hP (D_Model inj) hS 0 rfl rfl 4 (by decide) (hts _ kw759) (fun _ h9 => h9) rfl (by decide +kernel) rfl rfl (Nat.le_of_ble_eq_true rfl) d_Model_piece_94 (fun H locs hP _ hS => ?_)
                  have hP := up_Model_f4 hP
                  refine lv_aload_n hx hb d_Model_piece_97 rfl (lv_at hl 0 rfl) ?_
                  refine va_get (D := D) (ci := 7) (v := .int ((sto (sto (sto (sto (sto σ 0 0 0) 3 ((sto σ 0 0 0) 0 4).toNatClampNeg v1) 4 ((sto (sto σ 0 0 0) 3 ((sto σ 0 0 0) 0 4).toNatClampNeg v1) 0 4).toNatClampNeg v2) 5 ((sto (sto (sto σ 0 0 0) 3 ((sto σ 0 0 0) 0 4).toNatClampNeg v1) 4 ((sto (sto σ 0 0 0) 3 ((sto σ 0 0 0) 0 4).toNatClampNeg v1) 0 4).toNatClampNeg v2) 0 4).toNatClampNeg v3) 0 4 (((sto (sto (sto (sto σ 0 0 0) 3 ((sto σ 0 0 0) 0 4).toNatClampNeg v1) 4 ((sto (sto σ 0 0 0) 3 ((sto σ 0 0 0) 0 4).toNatClampNeg v1) 0 4).toNatClampNeg v2) 5 ((sto (sto (sto σ 0 0 0) 3 ((sto σ 0 0 0) 0 4).toNatClampNeg v1) 4 ((sto (sto σ 0 0 0) 3 ((sto σ 0 0 0) 0 4).toNatClampNeg v1) 0 4).toNatClampNeg v2) 0 4).toNatClampNeg v3) 0 4) + 1)) 0 4)) (C := "CarrierPathsModel") (T := F_Model) (N := 27) hx hb hts in_Model hown hK hP 0 rfl rfl 4 (by decide) (hts _ kw759) (fun _ h9 => h9) rfl d_Model_piece_98 ?_
                  refine lv_iconst (v := 1) hx hb d_Model_piece_101 (by decide) ?_
                  refine lv_isub hx hb d_Model_piece_102 ?_
                  exact W.iret (v := (((sto (sto (sto (sto (sto σ 0 0 0) 3 ((sto σ 0 0 0) 0 4).toNatClampNeg v1) 4 ((sto (sto σ 0 0 0) 3 ((sto σ 0 0 0) 0 4).toNatClampNeg v1) 0 4).toNatClampNeg v2) 5 ((sto (sto (sto σ 0 0 0) 3 ((sto σ 0 0 0) 0 4).toNatClampNeg v1) 4 ((sto (sto σ 0 0 0) 3 ((sto σ 0 0 0) 0 4).toNatClampNeg v1) 0 4).toNatClampNeg v2) 0 4).toNatClampNeg v3) 0 4 (((sto (sto (sto (sto σ 0 0 0) 3 ((sto σ 0 0 0) 0 4).toNatClampNeg v1) 4 ((sto (sto σ 0 0 0) 3 ((sto σ 0 0 0) 0 4).toNatClampNeg v1) 0 4).toNatClampNeg v2) 5 ((sto (sto (sto σ 0 0 0) 3 ((sto σ 0 0 0) 0 4).toNatClampNeg v1) 4 ((sto (sto σ 0 0 0) 3 ((sto σ 0 0 0) 0 4).toNatClampNeg v1) 0 4).toNatClampNeg v2) 0 4).toNatClampNeg v3) 0 4) + 1)) 0 4) - 1)) hx hb hr (fun t ht hW => ⟨⟨(((sto (sto (sto (sto (sto σ 0 0 0) 3 ((sto σ 0 0 0) 0 4).toNatClampNeg v1) 4 ((sto (sto σ 0 0 0) 3 ((sto σ 0 0 0) 0 4).toNatClampNeg v1) 0 4).toNatClampNeg v2) 5 ((sto (sto (sto σ 0 0 0) 3 ((sto σ 0 0 0) 0 4).toNatClampNeg v1) 4 ((sto (sto σ 0 0 0) 3 ((sto σ 0 0 0) 0 4).toNatClampNeg v1) 0 4).toNatClampNeg v2) 0 4).toNatClampNeg v3) 0 4 (((sto (sto (sto (sto σ 0 0 0) 3 ((sto σ 0 0 0) 0 4).toNatClampNeg v1) 4 ((sto (sto σ 0 0 0) 3 ((sto σ 0 0 0) 0 4).toNatClampNeg v1) 0 4).toNatClampNeg v2) 5 ((sto (sto (sto σ 0 0 0) 3 ((sto σ 0 0 0) 0 4).toNatClampNeg v1) 4 ((sto (sto σ 0 0 0) 3 ((sto σ 0 0 0) 0 4).toNatClampNeg v1) 0 4).toNatClampNeg v2) 0 4).toNatClampNeg v3) 0 4) + 1)) 0 4) - 1), (sto (sto (sto (sto (sto σ 0 0 0) 3 ((sto σ 0 0 0) 0 4).toNatClampNeg v1) 4 ((sto (sto σ 0 0 0) 3 ((sto σ 0 0 0) 0 4).toNatClampNeg v1) 0 4).toNatClampNeg v2) 5 ((sto (sto (sto σ 0 0 0) 3 ((sto σ 0 0 0) 0 4).toNatClampNeg v1) 4 ((sto (sto σ 0 0 0) 3 ((sto σ 0 0 0) 0 4).toNatClampNeg v1) 0 4).toNatClampNeg v2) 0 4).toNatClampNeg v3) 0 4 (((sto (sto (sto (sto σ 0 0 0) 3 ((sto σ 0 0 0) 0 4).toNatClampNeg v1) 4 ((sto (sto σ 0 0 0) 3 ((sto σ 0 0 0) 0 4).toNatClampNeg v1) 0 4).toNatClampNeg v2) 5 ((sto (sto (sto σ 0 0 0) 3 ((sto σ 0 0 0) 0 4).toNatClampNeg v1) 4 ((sto (sto σ 0 0 0) 3 ((sto σ 0 0 0) 0 4).toNatClampNeg v1) 0 4).toNatClampNeg v2) 0 4).toNatClampNeg v3) 0 4) + 1)), rfl, h, hp_back ht hP⟩, hS.F ht⟩) hS.2.2 d_Model_piece_103
                · have h := h.1 hc
                  refine lv_aload_n hx hb d_Model_piece_46 rfl (lv_at hl 0 rfl) ?_
                  refine lv_iconst (v := 2) hx hb d_Model_piece_47 (by decide) ?_
                  refine va_calli (va_runV (As := [.int 2]) (rest := []) ⟨hx, hb, hml, hown, hts⟩ (t_Model_fails l D cI cZ ad inj 2 σ _ h) (cwV 1 hts (g_of kw852 kw854 kp23 kw9 kw855) rfl rfl rfl (by decide +kernel) ⟨Nat.le_of_ble_eq_true rfl, Nat.le_of_ble_eq_true rfl⟩) (ro_pre hK hP (va_recv hK hP (ci := 7) (q0 := 0) rfl rfl)) rfl rfl hl.1 rfl (lv_room (Nat.le_of_ble_eq_true rfl)) d_Model_piece_48 ⟨Nat.le_of_ble_eq_true rfl, Nat.le_of_ble_eq_true rfl⟩) hS (fun _ _ h => h) (fun _ h => h) (fun r5 u4 t H1 locs ht _ h hP1 _ hk1 hS => ?_)
                  have hP1 : va_P D classes (W_Model ad cI cZ u4) H1 := hp_fwd ht hP1
                  clear hk1 ht
                  generalize H1 = H at hP1 hS ⊢
                  have hP := hP1
                  exact W.iret (v := r5) hx hb hr (fun t ht hW => ⟨⟨r5, u4, rfl, h, hp_back ht hP⟩, hS.F ht⟩) hS.2.2 d_Model_piece_51
              · have h := h.1 hc
                exact ih 1 v1 v2 v3 σ h _ _ _ hP hS (lv_sub hl [0, 1, 2, 3] rfl)
      | 1, h, hl =>
        have h : q_Model_piece_b1 (q_Model_piece_j Q n) Q v1 v2 v3 σ := h
        have hl : lv_has ls 4 [(0, .ref (ad 0)), (1, .int v1), (2, .int v2), (3, .int v3)] := hl
        refine W.eq (g2 := F0 m 31 ls []) rfl ?_
        unfold q_Model_piece_b1 at h
        refine lv_aload_n hx hb d_Model_piece_31 rfl (lv_at hl 0 rfl) ?_
        refine lv_iconst (v := 1) hx hb d_Model_piece_32 (by decide) ?_
        refine va_calli (va_runV (As := [.int 1]) (rest := []) ⟨hx, hb, hml, hown, hts⟩ (t_Model_fails l D cI cZ ad inj 1 σ _ h) (cwV 1 hts (g_of kw852 kw854 kp23 kw9 kw855) rfl rfl rfl (by decide +kernel) ⟨Nat.le_of_ble_eq_true rfl, Nat.le_of_ble_eq_true rfl⟩) (ro_pre hK hP (va_recv hK hP (ci := 7) (q0 := 0) rfl rfl)) rfl rfl hl.1 rfl (lv_room (Nat.le_of_ble_eq_true rfl)) d_Model_piece_33 ⟨Nat.le_of_ble_eq_true rfl, Nat.le_of_ble_eq_true rfl⟩) hS (fun _ _ h => h) (fun _ h => h) (fun r7 u6 t H1 locs ht _ h hP1 _ hk1 hS => ?_)
        have hP1 : va_P D classes (W_Model ad cI cZ u6) H1 := hp_fwd ht hP1
        clear hk1 ht
        generalize H1 = H at hP1 hS ⊢
        have hP := hP1
        exact W.iret (v := r7) hx hb hr (fun t ht hW => ⟨⟨r7, u6, rfl, h, hp_back ht hP⟩, hS.F ht⟩) hS.2.2 d_Model_piece_36
      | _ + 2, h, _ => exact False.elim h
  exact key 4000 0 v1 v2 v3 σ h s.heap [] ls hP hS hl
def q_Model_places (v1 v2 : Int32) (σ : Sg) (Q : (Int32 → Sg → Prop)) : Prop :=
  (q_Model_isPoint v1 (sto σ 0 0 0) (fun r1 => ((r1 = 0 → Q 0 (sto σ 0 0 0)) ∧ (¬ r1 = 0 → (q_Model_in v2 1 4 (fun r2 => ((r2 = 0 → Q 0 (sto σ 0 0 0)) ∧ (¬ r2 = 0 → (q_Model_standing v1 (sto σ 0 0 0) (fun r3 => ((r3 ≤ v2 → (vp_in v1 10 ∧ Q 1 (sto (sto σ 0 0 0) 1 v1.toNatClampNeg v2))) ∧ (¬ r3 ≤ v2 → Q 0 (sto σ 0 0 0)))))))))))))
set_option maxHeartbeats 4000000 in
set_option maxRecDepth 100000 in
theorem t_Model_places (l : Launch) (D : va_G) (cI cZ : ClassId) (ad : Nat → Nat) (inj : Inj ad 21) (v1 v2 : Int32) (σ : Sg) (Q : (Int32 → Sg → Prop)) (h : q_Model_places v1 v2 σ Q) : Met l y_Model_places (.code y_Model_places prog_9_method_15_code 3 (some .boolean) :: TG) { frames := 1, cells := 0, slots := 0, locals := 23 } (va_Pc [.ref (ad 0), .int v1, .int v2] (roB D (tysA cI cZ) (W_Model ad cI cZ σ))) (va_Qi Q (fun u t => va_P D classes (W_Model ad cI cZ u) t.heap) (inA ad 21)) 0 0 (inA ad 21) := by
  refine Met.ofW (cc := prog_9_method_15_code) (maxL := 3) (ret := (some .boolean)) (by decide) rfl ?_
  intro p e s m args below meth c s₁ B hml hv
  obtain ⟨rfl, hP, hK⟩ := hv
  have hx := B.exec
  have hb := B.bytes
  have hr := B.returns
  have hts : ∀ w ∈ TG, w.before [.ref (ad 0), .int v1, .int v2].toArray s = true := fun w hw => atoms_spec (ws := .code y_Model_places prog_9_method_15_code 3 (some .boolean) :: TG) B.pre w (List.mem_cons_of_mem _ hw)
  have hown : s.vm.findClass "CarrierPathsModel" = some m.cls := findClass_of_methodNamed B.named
  have hlocks := B.notSynchronized
  have hS : va_S (inA ad 21) s.heap s.heap [] := va_S.rf
  have hl := lv_entry ([.ref (ad 0), .int v1, .int v2]) (n := 3) (Nat.le_of_ble_eq_true rfl)
  rw [lg_entry_eq]
  generalize (lg_sl ([.ref (ad 0), .int v1, .int v2]) ++ List.replicate (3 - (lg_sl ([.ref (ad 0), .int v1, .int v2])).length) Slot.unset).toArray = ls at hl ⊢
  have hl : lv_has ls 3 [(0, .ref (ad 0)), (1, .int v1), (2, .int v2)] := hl
  unfold q_Model_places at h
  refine lv_aload_n hx hb d_Model_places_0 rfl (lv_at hl 0 rfl) ?_
  refine lv_iconst (v := 0) hx hb d_Model_places_1 (by decide) ?_
  refine va_put (D := D) (ci := 7) (v := .int 0) (ty := .int) (C := "CarrierPathsModel") (T := F_Model) (N := 27) hx hb hts in_Model ty_Model ty_Model_ok nm_Model hown hK hP (D_Model inj) hS 0 rfl rfl 0 (by decide) (hts _ kw755) (fun _ h9 => h9) rfl (by decide +kernel) rfl rfl (Nat.le_of_ble_eq_true rfl) d_Model_places_2 (fun H locs hP _ hS => ?_)
  have hP := up_Model_f0 hP
  refine lv_aload_n hx hb d_Model_places_5 rfl (lv_at hl 0 rfl) ?_
  refine lv_iload_n hx hb d_Model_places_6 rfl (lv_at hl 1 rfl) ?_
  refine vp_callSi (W.runV (As := [.int v1]) (rest := []) ⟨hx, hb, hml, hown, hts⟩ (t_Model_isPoint l D cI cZ ad v1 (sto σ 0 0 0) _ h) (cwV 1 hts (g_of kw845 kw847 kp22 kw9 kw848) rfl rfl rfl (by decide +kernel) ⟨Nat.le_of_ble_eq_true rfl, Nat.le_of_ble_eq_true rfl⟩) (ro_pre hK hP (va_recv hK hP (ci := 7) (q0 := 0) rfl rfl)) rfl rfl hl.1 rfl (lv_room (Nat.le_of_ble_eq_true rfl)) d_Model_places_7 ⟨Nat.le_of_ble_eq_true rfl, Nat.le_of_ble_eq_true rfl⟩) (fun r1 h => ?_)
  refine lv_if_eq (tgt := 31) hx hb d_Model_places_10 (by decide) (fun hc => ?_) (fun hc => ?_)
  · have h := h.1 hc
    refine lv_iconst (v := 0) hx hb d_Model_places_31 (by decide) ?_
    exact W.zret (v := 0) hx hb hr (by decide) (fun t ht hW => ⟨⟨0, (sto σ 0 0 0), rfl, h, hp_back ht hP⟩, hS.F ht⟩) hS.2.2 d_Model_places_32
  · have h := h.2 hc
    refine lv_iload_n hx hb d_Model_places_13 rfl (lv_at hl 2 rfl) ?_
    refine lv_iconst (v := 1) hx hb d_Model_places_14 (by decide) ?_
    refine lv_iconst (v := 4) hx hb d_Model_places_15 (by decide) ?_
    refine vp_callSi (W.runS (As := [.int v2, .int 1, .int 4]) (rest := []) ⟨hx, hb, hml, hown, hts⟩ (t_Model_in l v2 1 4 _ h) (va_cwS 3 hts (gS_of kw849 kw850 kw9 kw851) rfl rfl rfl (by decide +kernel) ⟨Nat.le_of_ble_eq_true rfl, Nat.le_of_ble_eq_true rfl⟩) st_pre rfl rfl hl.1 rfl (lv_room (Nat.le_of_ble_eq_true rfl)) d_Model_places_16 ⟨Nat.le_of_ble_eq_true rfl, Nat.le_of_ble_eq_true rfl⟩) (fun r2 h => ?_)
    refine lv_if_eq (tgt := 31) hx hb d_Model_places_19 (by decide) (fun hc => ?_) (fun hc => ?_)
    · have h := h.1 hc
      refine lv_iconst (v := 0) hx hb d_Model_places_31 (by decide) ?_
      exact W.zret (v := 0) hx hb hr (by decide) (fun t ht hW => ⟨⟨0, (sto σ 0 0 0), rfl, h, hp_back ht hP⟩, hS.F ht⟩) hS.2.2 d_Model_places_32
    · have h := h.2 hc
      refine lv_iload_n hx hb d_Model_places_22 rfl (lv_at hl 2 rfl) ?_
      refine lv_aload_n hx hb d_Model_places_23 rfl (lv_at hl 0 rfl) ?_
      refine lv_iload_n hx hb d_Model_places_24 rfl (lv_at hl 1 rfl) ?_
      refine vp_callSi (W.runV (As := [.int v1]) (rest := [.int v2]) ⟨hx, hb, hml, hown, hts⟩ (t_Model_standing l D cI cZ ad v1 (sto σ 0 0 0) _ h) (cwV 1 hts (g_of kw873 kw875 kp26 kw9 kw876) rfl rfl rfl (by decide +kernel) ⟨Nat.le_of_ble_eq_true rfl, Nat.le_of_ble_eq_true rfl⟩) (ro_pre hK hP (va_recv hK hP (ci := 7) (q0 := 0) rfl rfl)) rfl rfl hl.1 rfl (lv_room (Nat.le_of_ble_eq_true rfl)) d_Model_places_25 ⟨Nat.le_of_ble_eq_true rfl, Nat.le_of_ble_eq_true rfl⟩) (fun r3 h => ?_)
      refine lv_icmp_ge (tgt := 33) hx hb d_Model_places_28 (by decide) (fun hc => ?_) (fun hc => ?_)
      · have h := h.1 hc
        refine lv_aload_n hx hb d_Model_places_33 rfl (lv_at hl 0 rfl) ?_
        refine va_get (D := D) (ci := 7) (v := .ref (ad 1)) (C := "CarrierPathsModel") (T := F_Model) (N := 27) hx hb hts in_Model hown hK hP 0 rfl rfl 2 (by decide) (hts _ kw757) (fun _ h9 => h9) rfl d_Model_places_34 ?_
        refine lv_iload_n hx hb d_Model_places_37 rfl (lv_at hl 1 rfl) ?_
        refine lv_iload_n hx hb d_Model_places_38 rfl (lv_at hl 2 rfl) ?_
        obtain ⟨hi, h⟩ := h
        refine va_iast hx hb hK hP (D_Model inj) hS 1 0 rfl rfl hi d_Model_places_39 (fun H locs hP _ hS => ?_)
        have hP := up_Model_1 hP
        refine lv_iconst (v := 1) hx hb d_Model_places_40 (by decide) ?_
        exact W.zret (v := 1) hx hb hr (by decide) (fun t ht hW => ⟨⟨1, (sto (sto σ 0 0 0) 1 v1.toNatClampNeg v2), rfl, h, hp_back ht hP⟩, hS.F ht⟩) hS.2.2 d_Model_places_41
      · have h := h.2 hc
        refine lv_iconst (v := 0) hx hb d_Model_places_31 (by decide) ?_
        exact W.zret (v := 0) hx hb hr (by decide) (fun t ht hW => ⟨⟨0, (sto σ 0 0 0), rfl, h, hp_back ht hP⟩, hS.F ht⟩) hS.2.2 d_Model_places_32
def q_Model_charger (v1 v2 : Int32) (σ : Sg) (Q : (Int32 → Sg → Prop)) : Prop :=
  (q_Model_isPoint v1 (sto σ 0 0 0) (fun r1 => ((r1 = 0 → Q 0 (sto σ 0 0 0)) ∧ (¬ r1 = 0 → (vp_in v1 10 ∧ ((((sto σ 0 0 0) 2 v1.toNatClampNeg) = v2 → Q 0 (sto σ 0 0 0)) ∧ (¬ ((sto σ 0 0 0) 2 v1.toNatClampNeg) = v2 → (vp_in v1 10 ∧ Q 1 (sto (sto σ 0 0 0) 2 v1.toNatClampNeg (vp_nar .boolean v2))))))))))
set_option maxHeartbeats 4000000 in
set_option maxRecDepth 100000 in
theorem t_Model_charger (l : Launch) (D : va_G) (cI cZ : ClassId) (ad : Nat → Nat) (inj : Inj ad 21) (v1 v2 : Int32) (σ : Sg) (Q : (Int32 → Sg → Prop)) (h : q_Model_charger v1 v2 σ Q) : Met l y_Model_charger (.code y_Model_charger prog_9_method_16_code 3 (some .boolean) :: TG) { frames := 1, cells := 0, slots := 0, locals := 21 } (va_Pc [.ref (ad 0), .int v1, .int v2] (roB D (tysA cI cZ) (W_Model ad cI cZ σ))) (va_Qi Q (fun u t => va_P D classes (W_Model ad cI cZ u) t.heap) (inA ad 21)) 0 0 (inA ad 21) := by
  refine Met.ofW (cc := prog_9_method_16_code) (maxL := 3) (ret := (some .boolean)) (by decide) rfl ?_
  intro p e s m args below meth c s₁ B hml hv
  obtain ⟨rfl, hP, hK⟩ := hv
  have hx := B.exec
  have hb := B.bytes
  have hr := B.returns
  have hts : ∀ w ∈ TG, w.before [.ref (ad 0), .int v1, .int v2].toArray s = true := fun w hw => atoms_spec (ws := .code y_Model_charger prog_9_method_16_code 3 (some .boolean) :: TG) B.pre w (List.mem_cons_of_mem _ hw)
  have hown : s.vm.findClass "CarrierPathsModel" = some m.cls := findClass_of_methodNamed B.named
  have hlocks := B.notSynchronized
  have hS : va_S (inA ad 21) s.heap s.heap [] := va_S.rf
  have hl := lv_entry ([.ref (ad 0), .int v1, .int v2]) (n := 3) (Nat.le_of_ble_eq_true rfl)
  rw [lg_entry_eq]
  generalize (lg_sl ([.ref (ad 0), .int v1, .int v2]) ++ List.replicate (3 - (lg_sl ([.ref (ad 0), .int v1, .int v2])).length) Slot.unset).toArray = ls at hl ⊢
  have hl : lv_has ls 3 [(0, .ref (ad 0)), (1, .int v1), (2, .int v2)] := hl
  unfold q_Model_charger at h
  refine lv_aload_n hx hb d_Model_charger_0 rfl (lv_at hl 0 rfl) ?_
  refine lv_iconst (v := 0) hx hb d_Model_charger_1 (by decide) ?_
  refine va_put (D := D) (ci := 7) (v := .int 0) (ty := .int) (C := "CarrierPathsModel") (T := F_Model) (N := 27) hx hb hts in_Model ty_Model ty_Model_ok nm_Model hown hK hP (D_Model inj) hS 0 rfl rfl 0 (by decide) (hts _ kw755) (fun _ h9 => h9) rfl (by decide +kernel) rfl rfl (Nat.le_of_ble_eq_true rfl) d_Model_charger_2 (fun H locs hP _ hS => ?_)
  have hP := up_Model_f0 hP
  refine lv_aload_n hx hb d_Model_charger_5 rfl (lv_at hl 0 rfl) ?_
  refine lv_iload_n hx hb d_Model_charger_6 rfl (lv_at hl 1 rfl) ?_
  refine vp_callSi (W.runV (As := [.int v1]) (rest := []) ⟨hx, hb, hml, hown, hts⟩ (t_Model_isPoint l D cI cZ ad v1 (sto σ 0 0 0) _ h) (cwV 1 hts (g_of kw845 kw847 kp22 kw9 kw848) rfl rfl rfl (by decide +kernel) ⟨Nat.le_of_ble_eq_true rfl, Nat.le_of_ble_eq_true rfl⟩) (ro_pre hK hP (va_recv hK hP (ci := 7) (q0 := 0) rfl rfl)) rfl rfl hl.1 rfl (lv_room (Nat.le_of_ble_eq_true rfl)) d_Model_charger_7 ⟨Nat.le_of_ble_eq_true rfl, Nat.le_of_ble_eq_true rfl⟩) (fun r1 h => ?_)
  refine lv_if_eq (tgt := 23) hx hb d_Model_charger_10 (by decide) (fun hc => ?_) (fun hc => ?_)
  · have h := h.1 hc
    refine lv_iconst (v := 0) hx hb d_Model_charger_23 (by decide) ?_
    exact W.zret (v := 0) hx hb hr (by decide) (fun t ht hW => ⟨⟨0, (sto σ 0 0 0), rfl, h, hp_back ht hP⟩, hS.F ht⟩) hS.2.2 d_Model_charger_24
  · have h := h.2 hc
    refine lv_aload_n hx hb d_Model_charger_13 rfl (lv_at hl 0 rfl) ?_
    refine va_get (D := D) (ci := 7) (v := .ref (ad 2)) (C := "CarrierPathsModel") (T := F_Model) (N := 27) hx hb hts in_Model hown hK hP 0 rfl rfl 3 (by decide) (hts _ kw758) (fun _ h9 => h9) rfl d_Model_charger_14 ?_
    refine lv_iload_n hx hb d_Model_charger_17 rfl (lv_at hl 1 rfl) ?_
    obtain ⟨hi, h⟩ := h
    refine va_zald hx hb hK hP 2 1 rfl rfl hi d_Model_charger_18 ?_
    refine lv_iload_n hx hb d_Model_charger_19 rfl (lv_at hl 2 rfl) ?_
    refine lv_icmp_ne (tgt := 25) hx hb d_Model_charger_20 (by decide) (fun hc => ?_) (fun hc => ?_)
    · have h := h.2 hc
      refine lv_aload_n hx hb d_Model_charger_25 rfl (lv_at hl 0 rfl) ?_
      refine va_get (D := D) (ci := 7) (v := .ref (ad 2)) (C := "CarrierPathsModel") (T := F_Model) (N := 27) hx hb hts in_Model hown hK hP 0 rfl rfl 3 (by decide) (hts _ kw758) (fun _ h9 => h9) rfl d_Model_charger_26 ?_
      refine lv_iload_n hx hb d_Model_charger_29 rfl (lv_at hl 1 rfl) ?_
      refine lv_iload_n hx hb d_Model_charger_30 rfl (lv_at hl 2 rfl) ?_
      obtain ⟨hi, h⟩ := h
      refine va_zast hx hb hK hP (D_Model inj) hS 2 1 rfl rfl hi d_Model_charger_31 (fun H locs hP _ hS => ?_)
      have hP := up_Model_2 hP
      refine lv_iconst (v := 1) hx hb d_Model_charger_32 (by decide) ?_
      exact W.zret (v := 1) hx hb hr (by decide) (fun t ht hW => ⟨⟨1, (sto (sto σ 0 0 0) 2 v1.toNatClampNeg (vp_nar .boolean v2)), rfl, h, hp_back ht hP⟩, hS.F ht⟩) hS.2.2 d_Model_charger_33
    · have h := h.1 hc
      refine lv_iconst (v := 0) hx hb d_Model_charger_23 (by decide) ?_
      exact W.zret (v := 0) hx hb hr (by decide) (fun t ht hW => ⟨⟨0, (sto σ 0 0 0), rfl, h, hp_back ht hP⟩, hS.F ht⟩) hS.2.2 d_Model_charger_24
def q_Model_ring_b0 (J : Nat → Int32 → Sg → Prop) (Q : (Int32 → Sg → Prop)) (v1 : Int32) (σ : Sg) : Prop :=
  ((v1 < 1 → J 1 v1 σ) ∧ (¬ v1 < 1 → ((v1 < ((1 : Int32) <<< ((σ 0 1) &&& 31)) → (((σ 0 9) = 4 → (q_Model_fails 2 σ (fun r2 u1 => Q r2 u1))) ∧ (¬ (σ 0 9) = 4 → (vp_in ((sto σ 0 0 0) 0 9) 4 ∧ Q ((sto (sto (sto σ 0 0 0) 7 ((sto σ 0 0 0) 0 9).toNatClampNeg v1) 0 9 (((sto (sto σ 0 0 0) 7 ((sto σ 0 0 0) 0 9).toNatClampNeg v1) 0 9) + 1)) 0 9) (sto (sto (sto σ 0 0 0) 7 ((sto σ 0 0 0) 0 9).toNatClampNeg v1) 0 9 (((sto (sto σ 0 0 0) 7 ((sto σ 0 0 0) 0 9).toNatClampNeg v1) 0 9) + 1)))))) ∧ (¬ v1 < ((1 : Int32) <<< ((σ 0 1) &&& 31)) → J 1 v1 σ))))
def q_Model_ring_b1 (J : Nat → Int32 → Sg → Prop) (Q : (Int32 → Sg → Prop)) (v1 : Int32) (σ : Sg) : Prop :=
  (q_Model_fails 1 σ (fun r4 u3 => Q r4 u3))
def q_Model_ring_j (Q : (Int32 → Sg → Prop)) : Nat → Nat → Int32 → Sg → Prop
  | 0, _, _, _ => False
  | n + 1, 0, v1, σ => q_Model_ring_b0 (q_Model_ring_j Q n) Q v1 σ
  | n + 1, 1, v1, σ => q_Model_ring_b1 (q_Model_ring_j Q n) Q v1 σ
  | _ + 1, _ + 2, _, _ => False
def q_Model_ring (v1 : Int32) (σ : Sg) (Q : (Int32 → Sg → Prop)) : Prop := q_Model_ring_j Q 4000 0 v1 σ
def lc_Model_ring (ad : Nat → Nat) (b : Nat) (v1 : Int32) : List (Nat × Value) := match b with
  | 0 => [(0, .ref (ad 0)), (1, .int v1)]
  | 1 => [(0, .ref (ad 0)), (1, .int v1)]
  | _ => []
def pc_Model_ring (b : Nat) : Nat := match b with
  | 0 => 0
  | 1 => 15
  | _ => 0
set_option maxHeartbeats 4000000 in
set_option maxRecDepth 100000 in
theorem t_Model_ring (l : Launch) (D : va_G) (cI cZ : ClassId) (ad : Nat → Nat) (inj : Inj ad 21) (v1 : Int32) (σ : Sg) (Q : (Int32 → Sg → Prop)) (h : q_Model_ring v1 σ Q) : Met l y_Model_ring (.code y_Model_ring prog_9_method_17_code 2 (some .int) :: TG) { frames := 1, cells := 0, slots := 0, locals := 21 } (va_Pc [.ref (ad 0), .int v1] (roB D (tysA cI cZ) (W_Model ad cI cZ σ))) (va_Qi Q (fun u t => va_P D classes (W_Model ad cI cZ u) t.heap) (inA ad 21)) 0 0 (inA ad 21) := by
  refine Met.ofW (cc := prog_9_method_17_code) (maxL := 2) (ret := (some .int)) (by decide) rfl ?_
  intro p e s m args below meth c s₁ B hml hv
  obtain ⟨rfl, hP, hK⟩ := hv
  have hx := B.exec
  have hb := B.bytes
  have hr := B.returns
  have hts : ∀ w ∈ TG, w.before [.ref (ad 0), .int v1].toArray s = true := fun w hw => atoms_spec (ws := .code y_Model_ring prog_9_method_17_code 2 (some .int) :: TG) B.pre w (List.mem_cons_of_mem _ hw)
  have hown : s.vm.findClass "CarrierPathsModel" = some m.cls := findClass_of_methodNamed B.named
  have hlocks := B.notSynchronized
  have hS : va_S (inA ad 21) s.heap s.heap [] := va_S.rf
  have hl := lv_entry ([.ref (ad 0), .int v1]) (n := 2) (Nat.le_of_ble_eq_true rfl)
  rw [lg_entry_eq]
  generalize (lg_sl ([.ref (ad 0), .int v1]) ++ List.replicate (2 - (lg_sl ([.ref (ad 0), .int v1])).length) Slot.unset).toArray = ls at hl ⊢
  generalize ([.ref (ad 0), .int v1] : List Value).toArray = args at hts ⊢
  have key : ∀ (n b : Nat) (v1 : Int32) (σ : Sg), q_Model_ring_j Q n b v1 σ → ∀ (H : Heap) (locs : List Loc) (ls : Array Slot), va_P D classes (W_Model ad cI cZ σ) H → va_S (inA ad 21) s.heap H locs → lv_has ls 2 (lc_Model_ring ad b v1) → W p l e (headSpec (.code y_Model_ring prog_9_method_17_code 2 (some .int) :: TG) { frames := 1, cells := 0, slots := 0, locals := 21 }).room s m args below meth c H locs 0 0 (MQ below (va_Qi Q (fun u t => va_P D classes (W_Model ad cI cZ u) t.heap) (inA ad 21)) args s 0 0 (inA ad 21)) (F0 m (pc_Model_ring b) ls []) := by
    clear h hl hP hS
    intro n
    induction n with
    | zero => intro b _ _ h; exact False.elim h
    | succ n ih =>
      intro b v1 σ h H locs ls hP hS hl
      match b, h, hl with
      | 0, h, hl =>
        have h : q_Model_ring_b0 (q_Model_ring_j Q n) Q v1 σ := h
        have hl : lv_has ls 2 [(0, .ref (ad 0)), (1, .int v1)] := hl
        refine W.eq (g2 := F0 m 0 ls []) rfl ?_
        unfold q_Model_ring_b0 at h
        refine lv_iload_n hx hb d_Model_ring_0 rfl (lv_at hl 1 rfl) ?_
        refine lv_iconst (v := 1) hx hb d_Model_ring_1 (by decide) ?_
        refine lv_icmp_lt (tgt := 15) hx hb d_Model_ring_2 (by decide) (fun hc => ?_) (fun hc => ?_)
        · have h := h.1 hc
          exact ih 1 v1 σ h _ _ _ hP hS (lv_sub hl [0, 1] rfl)
        · have h := h.2 hc
          refine lv_iload_n hx hb d_Model_ring_5 rfl (lv_at hl 1 rfl) ?_
          refine lv_iconst (v := 1) hx hb d_Model_ring_6 (by decide) ?_
          refine lv_aload_n hx hb d_Model_ring_7 rfl (lv_at hl 0 rfl) ?_
          refine va_get (D := D) (ci := 7) (v := .int (σ 0 1)) (C := "CarrierPathsModel") (T := F_Model) (N := 27) hx hb hts in_Model hown hK hP 0 rfl rfl 1 (by decide) (hts _ kw756) (fun _ h9 => h9) rfl d_Model_ring_8 ?_
          refine lv_ishl hx hb d_Model_ring_11 ?_
          refine lv_icmp_lt (tgt := 21) hx hb d_Model_ring_12 (by decide) (fun hc => ?_) (fun hc => ?_)
          · have h := h.1 hc
            refine lv_aload_n hx hb d_Model_ring_21 rfl (lv_at hl 0 rfl) ?_
            refine va_get (D := D) (ci := 7) (v := .int (σ 0 9)) (C := "CarrierPathsModel") (T := F_Model) (N := 27) hx hb hts in_Model hown hK hP 0 rfl rfl 9 (by decide) (hts _ kw764) (fun _ h9 => h9) rfl d_Model_ring_22 ?_
            refine lv_iconst (v := 4) hx hb d_Model_ring_25 (by decide) ?_
            refine lv_icmp_ne (tgt := 35) hx hb d_Model_ring_26 (by decide) (fun hc => ?_) (fun hc => ?_)
            · have h := h.2 hc
              refine lv_aload_n hx hb d_Model_ring_35 rfl (lv_at hl 0 rfl) ?_
              refine lv_iconst (v := 0) hx hb d_Model_ring_36 (by decide) ?_
              refine va_put (D := D) (ci := 7) (v := .int 0) (ty := .int) (C := "CarrierPathsModel") (T := F_Model) (N := 27) hx hb hts in_Model ty_Model ty_Model_ok nm_Model hown hK hP (D_Model inj) hS 0 rfl rfl 0 (by decide) (hts _ kw755) (fun _ h9 => h9) rfl (by decide +kernel) rfl rfl (Nat.le_of_ble_eq_true rfl) d_Model_ring_37 (fun H locs hP _ hS => ?_)
              have hP := up_Model_f0 hP
              refine lv_aload_n hx hb d_Model_ring_40 rfl (lv_at hl 0 rfl) ?_
              refine va_get (D := D) (ci := 7) (v := .ref (ad 7)) (C := "CarrierPathsModel") (T := F_Model) (N := 27) hx hb hts in_Model hown hK hP 0 rfl rfl 10 (by decide) (hts _ kw765) (fun _ h9 => h9) rfl d_Model_ring_41 ?_
              refine lv_aload_n hx hb d_Model_ring_44 rfl (lv_at hl 0 rfl) ?_
              refine va_get (D := D) (ci := 7) (v := .int ((sto σ 0 0 0) 0 9)) (C := "CarrierPathsModel") (T := F_Model) (N := 27) hx hb hts in_Model hown hK hP 0 rfl rfl 9 (by decide) (hts _ kw764) (fun _ h9 => h9) rfl d_Model_ring_45 ?_
              refine lv_iload_n hx hb d_Model_ring_48 rfl (lv_at hl 1 rfl) ?_
              obtain ⟨hi, h⟩ := h
              refine va_iast hx hb hK hP (D_Model inj) hS 7 0 rfl rfl hi d_Model_ring_49 (fun H locs hP _ hS => ?_)
              have hP := up_Model_7 hP
              refine lv_aload_n hx hb d_Model_ring_50 rfl (lv_at hl 0 rfl) ?_
              refine lv_dup hx hb d_Model_ring_51 rfl ?_
              refine va_get (D := D) (ci := 7) (v := .int ((sto (sto σ 0 0 0) 7 ((sto σ 0 0 0) 0 9).toNatClampNeg v1) 0 9)) (C := "CarrierPathsModel") (T := F_Model) (N := 27) hx hb hts in_Model hown hK hP 0 rfl rfl 9 (by decide) (hts _ kw764) (fun _ h9 => h9) rfl d_Model_ring_52 ?_
              refine lv_iconst (v := 1) hx hb d_Model_ring_55 (by decide) ?_
              refine lv_iadd hx hb d_Model_ring_56 ?_
              refine va_put (D := D) (ci := 7) (v := .int (((sto (sto σ 0 0 0) 7 ((sto σ 0 0 0) 0 9).toNatClampNeg v1) 0 9) + 1)) (ty := .int) (C := "CarrierPathsModel") (T := F_Model) (N := 27) hx hb hts in_Model ty_Model ty_Model_ok nm_Model hown hK hP (D_Model inj) hS 0 rfl rfl 9 (by decide) (hts _ kw764) (fun _ h9 => h9) rfl (by decide +kernel) rfl rfl (Nat.le_of_ble_eq_true rfl) d_Model_ring_57 (fun H locs hP _ hS => ?_)
              have hP := up_Model_f9 hP
              refine lv_aload_n hx hb d_Model_ring_60 rfl (lv_at hl 0 rfl) ?_
              refine va_get (D := D) (ci := 7) (v := .int ((sto (sto (sto σ 0 0 0) 7 ((sto σ 0 0 0) 0 9).toNatClampNeg v1) 0 9 (((sto (sto σ 0 0 0) 7 ((sto σ 0 0 0) 0 9).toNatClampNeg v1) 0 9) + 1)) 0 9)) (C := "CarrierPathsModel") (T := F_Model) (N := 27) hx hb hts in_Model hown hK hP 0 rfl rfl 9 (by decide) (hts _ kw764) (fun _ h9 => h9) rfl d_Model_ring_61 ?_
              exact W.iret (v := ((sto (sto (sto σ 0 0 0) 7 ((sto σ 0 0 0) 0 9).toNatClampNeg v1) 0 9 (((sto (sto σ 0 0 0) 7 ((sto σ 0 0 0) 0 9).toNatClampNeg v1) 0 9) + 1)) 0 9)) hx hb hr (fun t ht hW => ⟨⟨((sto (sto (sto σ 0 0 0) 7 ((sto σ 0 0 0) 0 9).toNatClampNeg v1) 0 9 (((sto (sto σ 0 0 0) 7 ((sto σ 0 0 0) 0 9).toNatClampNeg v1) 0 9) + 1)) 0 9), (sto (sto (sto σ 0 0 0) 7 ((sto σ 0 0 0) 0 9).toNatClampNeg v1) 0 9 (((sto (sto σ 0 0 0) 7 ((sto σ 0 0 0) 0 9).toNatClampNeg v1) 0 9) + 1)), rfl, h, hp_back ht hP⟩, hS.F ht⟩) hS.2.2 d_Model_ring_64
            · have h := h.1 hc
              refine lv_aload_n hx hb d_Model_ring_29 rfl (lv_at hl 0 rfl) ?_
              refine lv_iconst (v := 2) hx hb d_Model_ring_30 (by decide) ?_
              refine va_calli (va_runV (As := [.int 2]) (rest := []) ⟨hx, hb, hml, hown, hts⟩ (t_Model_fails l D cI cZ ad inj 2 σ _ h) (cwV 1 hts (g_of kw852 kw854 kp23 kw9 kw855) rfl rfl rfl (by decide +kernel) ⟨Nat.le_of_ble_eq_true rfl, Nat.le_of_ble_eq_true rfl⟩) (ro_pre hK hP (va_recv hK hP (ci := 7) (q0 := 0) rfl rfl)) rfl rfl hl.1 rfl (lv_room (Nat.le_of_ble_eq_true rfl)) d_Model_ring_31 ⟨Nat.le_of_ble_eq_true rfl, Nat.le_of_ble_eq_true rfl⟩) hS (fun _ _ h => h) (fun _ h => h) (fun r2 u1 t H1 locs ht _ h hP1 _ hk1 hS => ?_)
              have hP1 : va_P D classes (W_Model ad cI cZ u1) H1 := hp_fwd ht hP1
              clear hk1 ht
              generalize H1 = H at hP1 hS ⊢
              have hP := hP1
              exact W.iret (v := r2) hx hb hr (fun t ht hW => ⟨⟨r2, u1, rfl, h, hp_back ht hP⟩, hS.F ht⟩) hS.2.2 d_Model_ring_34
          · have h := h.2 hc
            exact ih 1 v1 σ h _ _ _ hP hS (lv_sub hl [0, 1] rfl)
      | 1, h, hl =>
        have h : q_Model_ring_b1 (q_Model_ring_j Q n) Q v1 σ := h
        have hl : lv_has ls 2 [(0, .ref (ad 0)), (1, .int v1)] := hl
        refine W.eq (g2 := F0 m 15 ls []) rfl ?_
        unfold q_Model_ring_b1 at h
        refine lv_aload_n hx hb d_Model_ring_15 rfl (lv_at hl 0 rfl) ?_
        refine lv_iconst (v := 1) hx hb d_Model_ring_16 (by decide) ?_
        refine va_calli (va_runV (As := [.int 1]) (rest := []) ⟨hx, hb, hml, hown, hts⟩ (t_Model_fails l D cI cZ ad inj 1 σ _ h) (cwV 1 hts (g_of kw852 kw854 kp23 kw9 kw855) rfl rfl rfl (by decide +kernel) ⟨Nat.le_of_ble_eq_true rfl, Nat.le_of_ble_eq_true rfl⟩) (ro_pre hK hP (va_recv hK hP (ci := 7) (q0 := 0) rfl rfl)) rfl rfl hl.1 rfl (lv_room (Nat.le_of_ble_eq_true rfl)) d_Model_ring_17 ⟨Nat.le_of_ble_eq_true rfl, Nat.le_of_ble_eq_true rfl⟩) hS (fun _ _ h => h) (fun _ h => h) (fun r4 u3 t H1 locs ht _ h hP1 _ hk1 hS => ?_)
        have hP1 : va_P D classes (W_Model ad cI cZ u3) H1 := hp_fwd ht hP1
        clear hk1 ht
        generalize H1 = H at hP1 hS ⊢
        have hP := hP1
        exact W.iret (v := r4) hx hb hr (fun t ht hW => ⟨⟨r4, u3, rfl, h, hp_back ht hP⟩, hS.F ht⟩) hS.2.2 d_Model_ring_20
      | _ + 2, h, _ => exact False.elim h
  exact key 4000 0 v1 σ h s.heap [] ls hP hS hl
def q_Model_carrier_b0 (J : Nat → Int32 → Int32 → Sg → Prop) (Q : (Int32 → Sg → Prop)) (v1 v2 : Int32) (σ : Sg) : Prop :=
  (q_Model_isPoint v1 σ (fun r1 => ((r1 = 0 → J 1 v1 v2 σ) ∧ (¬ r1 = 0 → (q_Model_in v2 0 1000 (fun r2 => ((r2 = 0 → J 1 v1 v2 σ) ∧ (¬ r2 = 0 → (((σ 0 11) = 6 → (q_Model_fails 2 σ (fun r5 u4 => Q r5 u4))) ∧ (¬ (σ 0 11) = 6 → (q_Model_standing v1 (sto σ 0 0 0) (fun r3 => (vp_in v1 10 ∧ ((r3 < ((sto σ 0 0 0) 1 v1.toNatClampNeg) → (vp_in ((sto σ 0 0 0) 0 11) 6 ∧ (vp_in ((sto (sto σ 0 0 0) 8 ((sto σ 0 0 0) 0 11).toNatClampNeg v1) 0 11) 6 ∧ (vp_in ((sto (sto (sto σ 0 0 0) 8 ((sto σ 0 0 0) 0 11).toNatClampNeg v1) 9 ((sto (sto σ 0 0 0) 8 ((sto σ 0 0 0) 0 11).toNatClampNeg v1) 0 11).toNatClampNeg (-1)) 0 11) 6 ∧ (vp_in ((sto (sto (sto (sto σ 0 0 0) 8 ((sto σ 0 0 0) 0 11).toNatClampNeg v1) 9 ((sto (sto σ 0 0 0) 8 ((sto σ 0 0 0) 0 11).toNatClampNeg v1) 0 11).toNatClampNeg (-1)) 11 ((sto (sto (sto σ 0 0 0) 8 ((sto σ 0 0 0) 0 11).toNatClampNeg v1) 9 ((sto (sto σ 0 0 0) 8 ((sto σ 0 0 0) 0 11).toNatClampNeg v1) 0 11).toNatClampNeg (-1)) 0 11).toNatClampNeg (-1)) 0 11) 6 ∧ Q (((sto (sto (sto (sto (sto (sto σ 0 0 0) 8 ((sto σ 0 0 0) 0 11).toNatClampNeg v1) 9 ((sto (sto σ 0 0 0) 8 ((sto σ 0 0 0) 0 11).toNatClampNeg v1) 0 11).toNatClampNeg (-1)) 11 ((sto (sto (sto σ 0 0 0) 8 ((sto σ 0 0 0) 0 11).toNatClampNeg v1) 9 ((sto (sto σ 0 0 0) 8 ((sto σ 0 0 0) 0 11).toNatClampNeg v1) 0 11).toNatClampNeg (-1)) 0 11).toNatClampNeg (-1)) 12 ((sto (sto (sto (sto σ 0 0 0) 8 ((sto σ 0 0 0) 0 11).toNatClampNeg v1) 9 ((sto (sto σ 0 0 0) 8 ((sto σ 0 0 0) 0 11).toNatClampNeg v1) 0 11).toNatClampNeg (-1)) 11 ((sto (sto (sto σ 0 0 0) 8 ((sto σ 0 0 0) 0 11).toNatClampNeg v1) 9 ((sto (sto σ 0 0 0) 8 ((sto σ 0 0 0) 0 11).toNatClampNeg v1) 0 11).toNatClampNeg (-1)) 0 11).toNatClampNeg (-1)) 0 11).toNatClampNeg v2) 0 11 (((sto (sto (sto (sto (sto σ 0 0 0) 8 ((sto σ 0 0 0) 0 11).toNatClampNeg v1) 9 ((sto (sto σ 0 0 0) 8 ((sto σ 0 0 0) 0 11).toNatClampNeg v1) 0 11).toNatClampNeg (-1)) 11 ((sto (sto (sto σ 0 0 0) 8 ((sto σ 0 0 0) 0 11).toNatClampNeg v1) 9 ((sto (sto σ 0 0 0) 8 ((sto σ 0 0 0) 0 11).toNatClampNeg v1) 0 11).toNatClampNeg (-1)) 0 11).toNatClampNeg (-1)) 12 ((sto (sto (sto (sto σ 0 0 0) 8 ((sto σ 0 0 0) 0 11).toNatClampNeg v1) 9 ((sto (sto σ 0 0 0) 8 ((sto σ 0 0 0) 0 11).toNatClampNeg v1) 0 11).toNatClampNeg (-1)) 11 ((sto (sto (sto σ 0 0 0) 8 ((sto σ 0 0 0) 0 11).toNatClampNeg v1) 9 ((sto (sto σ 0 0 0) 8 ((sto σ 0 0 0) 0 11).toNatClampNeg v1) 0 11).toNatClampNeg (-1)) 0 11).toNatClampNeg (-1)) 0 11).toNatClampNeg v2) 0 11) + 1)) 0 11) - 1) (sto (sto (sto (sto (sto (sto σ 0 0 0) 8 ((sto σ 0 0 0) 0 11).toNatClampNeg v1) 9 ((sto (sto σ 0 0 0) 8 ((sto σ 0 0 0) 0 11).toNatClampNeg v1) 0 11).toNatClampNeg (-1)) 11 ((sto (sto (sto σ 0 0 0) 8 ((sto σ 0 0 0) 0 11).toNatClampNeg v1) 9 ((sto (sto σ 0 0 0) 8 ((sto σ 0 0 0) 0 11).toNatClampNeg v1) 0 11).toNatClampNeg (-1)) 0 11).toNatClampNeg (-1)) 12 ((sto (sto (sto (sto σ 0 0 0) 8 ((sto σ 0 0 0) 0 11).toNatClampNeg v1) 9 ((sto (sto σ 0 0 0) 8 ((sto σ 0 0 0) 0 11).toNatClampNeg v1) 0 11).toNatClampNeg (-1)) 11 ((sto (sto (sto σ 0 0 0) 8 ((sto σ 0 0 0) 0 11).toNatClampNeg v1) 9 ((sto (sto σ 0 0 0) 8 ((sto σ 0 0 0) 0 11).toNatClampNeg v1) 0 11).toNatClampNeg (-1)) 0 11).toNatClampNeg (-1)) 0 11).toNatClampNeg v2) 0 11 (((sto (sto (sto (sto (sto σ 0 0 0) 8 ((sto σ 0 0 0) 0 11).toNatClampNeg v1) 9 ((sto (sto σ 0 0 0) 8 ((sto σ 0 0 0) 0 11).toNatClampNeg v1) 0 11).toNatClampNeg (-1)) 11 ((sto (sto (sto σ 0 0 0) 8 ((sto σ 0 0 0) 0 11).toNatClampNeg v1) 9 ((sto (sto σ 0 0 0) 8 ((sto σ 0 0 0) 0 11).toNatClampNeg v1) 0 11).toNatClampNeg (-1)) 0 11).toNatClampNeg (-1)) 12 ((sto (sto (sto (sto σ 0 0 0) 8 ((sto σ 0 0 0) 0 11).toNatClampNeg v1) 9 ((sto (sto σ 0 0 0) 8 ((sto σ 0 0 0) 0 11).toNatClampNeg v1) 0 11).toNatClampNeg (-1)) 11 ((sto (sto (sto σ 0 0 0) 8 ((sto σ 0 0 0) 0 11).toNatClampNeg v1) 9 ((sto (sto σ 0 0 0) 8 ((sto σ 0 0 0) 0 11).toNatClampNeg v1) 0 11).toNatClampNeg (-1)) 0 11).toNatClampNeg (-1)) 0 11).toNatClampNeg v2) 0 11) + 1))))))) ∧ (¬ r3 < ((sto σ 0 0 0) 1 v1.toNatClampNeg) → Q (-1) (sto σ 0 0 0))))))))))))))))
def q_Model_carrier_b1 (J : Nat → Int32 → Int32 → Sg → Prop) (Q : (Int32 → Sg → Prop)) (v1 v2 : Int32) (σ : Sg) : Prop :=
  (q_Model_fails 1 σ (fun r7 u6 => Q r7 u6))
def q_Model_carrier_j (Q : (Int32 → Sg → Prop)) : Nat → Nat → Int32 → Int32 → Sg → Prop
  | 0, _, _, _, _ => False
  | n + 1, 0, v1, v2, σ => q_Model_carrier_b0 (q_Model_carrier_j Q n) Q v1 v2 σ
  | n + 1, 1, v1, v2, σ => q_Model_carrier_b1 (q_Model_carrier_j Q n) Q v1 v2 σ
  | _ + 1, _ + 2, _, _, _ => False
def q_Model_carrier (v1 v2 : Int32) (σ : Sg) (Q : (Int32 → Sg → Prop)) : Prop := q_Model_carrier_j Q 4000 0 v1 v2 σ
def lc_Model_carrier (ad : Nat → Nat) (b : Nat) (v1 v2 : Int32) : List (Nat × Value) := match b with
  | 0 => [(0, .ref (ad 0)), (1, .int v1), (2, .int v2)]
  | 1 => [(0, .ref (ad 0)), (1, .int v1), (2, .int v2)]
  | _ => []
def pc_Model_carrier (b : Nat) : Nat := match b with
  | 0 => 0
  | 1 => 19
  | _ => 0
set_option maxHeartbeats 4000000 in
set_option maxRecDepth 100000 in
theorem t_Model_carrier (l : Launch) (D : va_G) (cI cZ : ClassId) (ad : Nat → Nat) (inj : Inj ad 21) (v1 v2 : Int32) (σ : Sg) (Q : (Int32 → Sg → Prop)) (h : q_Model_carrier v1 v2 σ Q) : Met l y_Model_carrier (.code y_Model_carrier prog_9_method_18_code 3 (some .int) :: TG) { frames := 1, cells := 0, slots := 0, locals := 23 } (va_Pc [.ref (ad 0), .int v1, .int v2] (roB D (tysA cI cZ) (W_Model ad cI cZ σ))) (va_Qi Q (fun u t => va_P D classes (W_Model ad cI cZ u) t.heap) (inA ad 21)) 0 0 (inA ad 21) := by
  refine Met.ofW (cc := prog_9_method_18_code) (maxL := 3) (ret := (some .int)) (by decide) rfl ?_
  intro p e s m args below meth c s₁ B hml hv
  obtain ⟨rfl, hP, hK⟩ := hv
  have hx := B.exec
  have hb := B.bytes
  have hr := B.returns
  have hts : ∀ w ∈ TG, w.before [.ref (ad 0), .int v1, .int v2].toArray s = true := fun w hw => atoms_spec (ws := .code y_Model_carrier prog_9_method_18_code 3 (some .int) :: TG) B.pre w (List.mem_cons_of_mem _ hw)
  have hown : s.vm.findClass "CarrierPathsModel" = some m.cls := findClass_of_methodNamed B.named
  have hlocks := B.notSynchronized
  have hS : va_S (inA ad 21) s.heap s.heap [] := va_S.rf
  have hl := lv_entry ([.ref (ad 0), .int v1, .int v2]) (n := 3) (Nat.le_of_ble_eq_true rfl)
  rw [lg_entry_eq]
  generalize (lg_sl ([.ref (ad 0), .int v1, .int v2]) ++ List.replicate (3 - (lg_sl ([.ref (ad 0), .int v1, .int v2])).length) Slot.unset).toArray = ls at hl ⊢
  generalize ([.ref (ad 0), .int v1, .int v2] : List Value).toArray = args at hts ⊢
  have key : ∀ (n b : Nat) (v1 v2 : Int32) (σ : Sg), q_Model_carrier_j Q n b v1 v2 σ → ∀ (H : Heap) (locs : List Loc) (ls : Array Slot), va_P D classes (W_Model ad cI cZ σ) H → va_S (inA ad 21) s.heap H locs → lv_has ls 3 (lc_Model_carrier ad b v1 v2) → W p l e (headSpec (.code y_Model_carrier prog_9_method_18_code 3 (some .int) :: TG) { frames := 1, cells := 0, slots := 0, locals := 23 }).room s m args below meth c H locs 0 0 (MQ below (va_Qi Q (fun u t => va_P D classes (W_Model ad cI cZ u) t.heap) (inA ad 21)) args s 0 0 (inA ad 21)) (F0 m (pc_Model_carrier b) ls []) := by
    clear h hl hP hS
    intro n
    induction n with
    | zero => intro b _ _ _ h; exact False.elim h
    | succ n ih =>
      intro b v1 v2 σ h H locs ls hP hS hl
      match b, h, hl with
      | 0, h, hl =>
        have h : q_Model_carrier_b0 (q_Model_carrier_j Q n) Q v1 v2 σ := h
        have hl : lv_has ls 3 [(0, .ref (ad 0)), (1, .int v1), (2, .int v2)] := hl
        refine W.eq (g2 := F0 m 0 ls []) rfl ?_
        unfold q_Model_carrier_b0 at h
        refine lv_aload_n hx hb d_Model_carrier_0 rfl (lv_at hl 0 rfl) ?_
        refine lv_iload_n hx hb d_Model_carrier_1 rfl (lv_at hl 1 rfl) ?_
        refine vp_callSi (W.runV (As := [.int v1]) (rest := []) ⟨hx, hb, hml, hown, hts⟩ (t_Model_isPoint l D cI cZ ad v1 σ _ h) (cwV 1 hts (g_of kw845 kw847 kp22 kw9 kw848) rfl rfl rfl (by decide +kernel) ⟨Nat.le_of_ble_eq_true rfl, Nat.le_of_ble_eq_true rfl⟩) (ro_pre hK hP (va_recv hK hP (ci := 7) (q0 := 0) rfl rfl)) rfl rfl hl.1 rfl (lv_room (Nat.le_of_ble_eq_true rfl)) d_Model_carrier_2 ⟨Nat.le_of_ble_eq_true rfl, Nat.le_of_ble_eq_true rfl⟩) (fun r1 h => ?_)
        refine lv_if_eq (tgt := 19) hx hb d_Model_carrier_5 (by decide) (fun hc => ?_) (fun hc => ?_)
        · have h := h.1 hc
          exact ih 1 v1 v2 σ h _ _ _ hP hS (lv_sub hl [0, 1, 2] rfl)
        · have h := h.2 hc
          refine lv_iload_n hx hb d_Model_carrier_8 rfl (lv_at hl 2 rfl) ?_
          refine lv_iconst (v := 0) hx hb d_Model_carrier_9 (by decide) ?_
          refine lv_sipush (v := 1000) hx hb d_Model_carrier_10 (by decide) ?_
          refine vp_callSi (W.runS (As := [.int v2, .int 0, .int 1000]) (rest := []) ⟨hx, hb, hml, hown, hts⟩ (t_Model_in l v2 0 1000 _ h) (va_cwS 3 hts (gS_of kw849 kw850 kw9 kw851) rfl rfl rfl (by decide +kernel) ⟨Nat.le_of_ble_eq_true rfl, Nat.le_of_ble_eq_true rfl⟩) st_pre rfl rfl hl.1 rfl (lv_room (Nat.le_of_ble_eq_true rfl)) d_Model_carrier_13 ⟨Nat.le_of_ble_eq_true rfl, Nat.le_of_ble_eq_true rfl⟩) (fun r2 h => ?_)
          refine lv_if_ne (tgt := 25) hx hb d_Model_carrier_16 (by decide) (fun hc => ?_) (fun hc => ?_)
          · have h := h.2 hc
            refine lv_aload_n hx hb d_Model_carrier_25 rfl (lv_at hl 0 rfl) ?_
            refine va_get (D := D) (ci := 7) (v := .int (σ 0 11)) (C := "CarrierPathsModel") (T := F_Model) (N := 27) hx hb hts in_Model hown hK hP 0 rfl rfl 11 (by decide) (hts _ kw766) (fun _ h9 => h9) rfl d_Model_carrier_26 ?_
            refine lv_bipush (v := 6) hx hb d_Model_carrier_29 (by decide) ?_
            refine lv_icmp_ne (tgt := 40) hx hb d_Model_carrier_31 (by decide) (fun hc => ?_) (fun hc => ?_)
            · have h := h.2 hc
              refine lv_aload_n hx hb d_Model_carrier_40 rfl (lv_at hl 0 rfl) ?_
              refine lv_iconst (v := 0) hx hb d_Model_carrier_41 (by decide) ?_
              refine va_put (D := D) (ci := 7) (v := .int 0) (ty := .int) (C := "CarrierPathsModel") (T := F_Model) (N := 27) hx hb hts in_Model ty_Model ty_Model_ok nm_Model hown hK hP (D_Model inj) hS 0 rfl rfl 0 (by decide) (hts _ kw755) (fun _ h9 => h9) rfl (by decide +kernel) rfl rfl (Nat.le_of_ble_eq_true rfl) d_Model_carrier_42 (fun H locs hP _ hS => ?_)
              have hP := up_Model_f0 hP
              refine lv_aload_n hx hb d_Model_carrier_45 rfl (lv_at hl 0 rfl) ?_
              refine lv_iload_n hx hb d_Model_carrier_46 rfl (lv_at hl 1 rfl) ?_
              refine vp_callSi (W.runV (As := [.int v1]) (rest := []) ⟨hx, hb, hml, hown, hts⟩ (t_Model_standing l D cI cZ ad v1 (sto σ 0 0 0) _ h) (cwV 1 hts (g_of kw873 kw875 kp26 kw9 kw876) rfl rfl rfl (by decide +kernel) ⟨Nat.le_of_ble_eq_true rfl, Nat.le_of_ble_eq_true rfl⟩) (ro_pre hK hP (va_recv hK hP (ci := 7) (q0 := 0) rfl rfl)) rfl rfl hl.1 rfl (lv_room (Nat.le_of_ble_eq_true rfl)) d_Model_carrier_47 ⟨Nat.le_of_ble_eq_true rfl, Nat.le_of_ble_eq_true rfl⟩) (fun r3 h => ?_)
              refine lv_aload_n hx hb d_Model_carrier_50 rfl (lv_at hl 0 rfl) ?_
              refine va_get (D := D) (ci := 7) (v := .ref (ad 1)) (C := "CarrierPathsModel") (T := F_Model) (N := 27) hx hb hts in_Model hown hK hP 0 rfl rfl 2 (by decide) (hts _ kw757) (fun _ h9 => h9) rfl d_Model_carrier_51 ?_
              refine lv_iload_n hx hb d_Model_carrier_54 rfl (lv_at hl 1 rfl) ?_
              obtain ⟨hi, h⟩ := h
              refine va_iald hx hb hK hP 1 0 rfl rfl hi d_Model_carrier_55 ?_
              refine lv_icmp_lt (tgt := 61) hx hb d_Model_carrier_56 (by decide) (fun hc => ?_) (fun hc => ?_)
              · have h := h.1 hc
                refine lv_aload_n hx hb d_Model_carrier_61 rfl (lv_at hl 0 rfl) ?_
                refine va_get (D := D) (ci := 7) (v := .ref (ad 8)) (C := "CarrierPathsModel") (T := F_Model) (N := 27) hx hb hts in_Model hown hK hP 0 rfl rfl 12 (by decide) (hts _ kw767) (fun _ h9 => h9) rfl d_Model_carrier_62 ?_
                refine lv_aload_n hx hb d_Model_carrier_65 rfl (lv_at hl 0 rfl) ?_
                refine va_get (D := D) (ci := 7) (v := .int ((sto σ 0 0 0) 0 11)) (C := "CarrierPathsModel") (T := F_Model) (N := 27) hx hb hts in_Model hown hK hP 0 rfl rfl 11 (by decide) (hts _ kw766) (fun _ h9 => h9) rfl d_Model_carrier_66 ?_
                refine lv_iload_n hx hb d_Model_carrier_69 rfl (lv_at hl 1 rfl) ?_
                obtain ⟨hi, h⟩ := h
                refine va_iast hx hb hK hP (D_Model inj) hS 8 0 rfl rfl hi d_Model_carrier_70 (fun H locs hP _ hS => ?_)
                have hP := up_Model_8 hP
                refine lv_aload_n hx hb d_Model_carrier_71 rfl (lv_at hl 0 rfl) ?_
                refine va_get (D := D) (ci := 7) (v := .ref (ad 9)) (C := "CarrierPathsModel") (T := F_Model) (N := 27) hx hb hts in_Model hown hK hP 0 rfl rfl 13 (by decide) (hts _ kw768) (fun _ h9 => h9) rfl d_Model_carrier_72 ?_
                refine lv_aload_n hx hb d_Model_carrier_75 rfl (lv_at hl 0 rfl) ?_
                refine va_get (D := D) (ci := 7) (v := .int ((sto (sto σ 0 0 0) 8 ((sto σ 0 0 0) 0 11).toNatClampNeg v1) 0 11)) (C := "CarrierPathsModel") (T := F_Model) (N := 27) hx hb hts in_Model hown hK hP 0 rfl rfl 11 (by decide) (hts _ kw766) (fun _ h9 => h9) rfl d_Model_carrier_76 ?_
                refine lv_iconst (v := (-1)) hx hb d_Model_carrier_79 (by decide) ?_
                obtain ⟨hi, h⟩ := h
                refine va_iast hx hb hK hP (D_Model inj) hS 9 0 rfl rfl hi d_Model_carrier_80 (fun H locs hP _ hS => ?_)
                have hP := up_Model_9 hP
                refine lv_aload_n hx hb d_Model_carrier_81 rfl (lv_at hl 0 rfl) ?_
                refine va_get (D := D) (ci := 7) (v := .ref (ad 11)) (C := "CarrierPathsModel") (T := F_Model) (N := 27) hx hb hts in_Model hown hK hP 0 rfl rfl 15 (by decide) (hts _ kw770) (fun _ h9 => h9) rfl d_Model_carrier_82 ?_
                refine lv_aload_n hx hb d_Model_carrier_85 rfl (lv_at hl 0 rfl) ?_
                refine va_get (D := D) (ci := 7) (v := .int ((sto (sto (sto σ 0 0 0) 8 ((sto σ 0 0 0) 0 11).toNatClampNeg v1) 9 ((sto (sto σ 0 0 0) 8 ((sto σ 0 0 0) 0 11).toNatClampNeg v1) 0 11).toNatClampNeg (-1)) 0 11)) (C := "CarrierPathsModel") (T := F_Model) (N := 27) hx hb hts in_Model hown hK hP 0 rfl rfl 11 (by decide) (hts _ kw766) (fun _ h9 => h9) rfl d_Model_carrier_86 ?_
                refine lv_iconst (v := (-1)) hx hb d_Model_carrier_89 (by decide) ?_
                obtain ⟨hi, h⟩ := h
                refine va_iast hx hb hK hP (D_Model inj) hS 11 0 rfl rfl hi d_Model_carrier_90 (fun H locs hP _ hS => ?_)
                have hP := up_Model_11 hP
                refine lv_aload_n hx hb d_Model_carrier_91 rfl (lv_at hl 0 rfl) ?_
                refine va_get (D := D) (ci := 7) (v := .ref (ad 12)) (C := "CarrierPathsModel") (T := F_Model) (N := 27) hx hb hts in_Model hown hK hP 0 rfl rfl 16 (by decide) (hts _ kw771) (fun _ h9 => h9) rfl d_Model_carrier_92 ?_
                refine lv_aload_n hx hb d_Model_carrier_95 rfl (lv_at hl 0 rfl) ?_
                refine va_get (D := D) (ci := 7) (v := .int ((sto (sto (sto (sto σ 0 0 0) 8 ((sto σ 0 0 0) 0 11).toNatClampNeg v1) 9 ((sto (sto σ 0 0 0) 8 ((sto σ 0 0 0) 0 11).toNatClampNeg v1) 0 11).toNatClampNeg (-1)) 11 ((sto (sto (sto σ 0 0 0) 8 ((sto σ 0 0 0) 0 11).toNatClampNeg v1) 9 ((sto (sto σ 0 0 0) 8 ((sto σ 0 0 0) 0 11).toNatClampNeg v1) 0 11).toNatClampNeg (-1)) 0 11).toNatClampNeg (-1)) 0 11)) (C := "CarrierPathsModel") (T := F_Model) (N := 27) hx hb hts in_Model hown hK hP 0 rfl rfl 11 (by decide) (hts _ kw766) (fun _ h9 => h9) rfl d_Model_carrier_96 ?_
                refine lv_iload_n hx hb d_Model_carrier_99 rfl (lv_at hl 2 rfl) ?_
                obtain ⟨hi, h⟩ := h
                refine va_iast hx hb hK hP (D_Model inj) hS 12 0 rfl rfl hi d_Model_carrier_100 (fun H locs hP _ hS => ?_)
                have hP := up_Model_12 hP
                refine lv_aload_n hx hb d_Model_carrier_101 rfl (lv_at hl 0 rfl) ?_
                refine lv_dup hx hb d_Model_carrier_102 rfl ?_
                refine va_get (D := D) (ci := 7) (v := .int ((sto (sto (sto (sto (sto σ 0 0 0) 8 ((sto σ 0 0 0) 0 11).toNatClampNeg v1) 9 ((sto (sto σ 0 0 0) 8 ((sto σ 0 0 0) 0 11).toNatClampNeg v1) 0 11).toNatClampNeg (-1)) 11 ((sto (sto (sto σ 0 0 0) 8 ((sto σ 0 0 0) 0 11).toNatClampNeg v1) 9 ((sto (sto σ 0 0 0) 8 ((sto σ 0 0 0) 0 11).toNatClampNeg v1) 0 11).toNatClampNeg (-1)) 0 11).toNatClampNeg (-1)) 12 ((sto (sto (sto (sto σ 0 0 0) 8 ((sto σ 0 0 0) 0 11).toNatClampNeg v1) 9 ((sto (sto σ 0 0 0) 8 ((sto σ 0 0 0) 0 11).toNatClampNeg v1) 0 11).toNatClampNeg (-1)) 11 ((sto (sto (sto σ 0 0 0) 8 ((sto σ 0 0 0) 0 11).toNatClampNeg v1) 9 ((sto (sto σ 0 0 0) 8 ((sto σ 0 0 0) 0 11).toNatClampNeg v1) 0 11).toNatClampNeg (-1)) 0 11).toNatClampNeg (-1)) 0 11).toNatClampNeg v2) 0 11)) (C := "CarrierPathsModel") (T := F_Model) (N := 27) hx hb hts in_Model hown hK hP 0 rfl rfl 11 (by decide) (hts _ kw766) (fun _ h9 => h9) rfl d_Model_carrier_103 ?_
                refine lv_iconst (v := 1) hx hb d_Model_carrier_106 (by decide) ?_
                refine lv_iadd hx hb d_Model_carrier_107 ?_
                refine va_put (D := D) (ci := 7) (v := .int (((sto (sto (sto (sto (sto σ 0 0 0) 8 ((sto σ 0 0 0) 0 11).toNatClampNeg v1) 9 ((sto (sto σ 0 0 0) 8 ((sto σ 0 0 0) 0 11).toNatClampNeg v1) 0 11).toNatClampNeg (-1)) 11 ((sto (sto (sto σ 0 0 0) 8 ((sto σ 0 0 0) 0 11).toNatClampNeg v1) 9 ((sto (sto σ 0 0 0) 8 ((sto σ 0 0 0) 0 11).toNatClampNeg v1) 0 11).toNatClampNeg (-1)) 0 11).toNatClampNeg (-1)) 12 ((sto (sto (sto (sto σ 0 0 0) 8 ((sto σ 0 0 0) 0 11).toNatClampNeg v1) 9 ((sto (sto σ 0 0 0) 8 ((sto σ 0 0 0) 0 11).toNatClampNeg v1) 0 11).toNatClampNeg (-1)) 11 ((sto (sto (sto σ 0 0 0) 8 ((sto σ 0 0 0) 0 11).toNatClampNeg v1) 9 ((sto (sto σ 0 0 0) 8 ((sto σ 0 0 0) 0 11).toNatClampNeg v1) 0 11).toNatClampNeg (-1)) 0 11).toNatClampNeg (-1)) 0 11).toNatClampNeg v2) 0 11) + 1)) (ty := .int) (C := "CarrierPathsModel") (T := F_Model) (N := 27) hx hb hts in_Model ty_Model ty_Model_ok nm_Model hown hK hP (D_Model inj) hS 0 rfl rfl 11 (by decide) (hts _ kw766) (fun _ h9 => h9) rfl (by decide +kernel) rfl rfl (Nat.le_of_ble_eq_true rfl) d_Model_carrier_108 (fun H locs hP _ hS => ?_)
                have hP := up_Model_f11 hP
                refine lv_aload_n hx hb d_Model_carrier_111 rfl (lv_at hl 0 rfl) ?_
                refine va_get (D := D) (ci := 7) (v := .int ((sto (sto (sto (sto (sto (sto σ 0 0 0) 8 ((sto σ 0 0 0) 0 11).toNatClampNeg v1) 9 ((sto (sto σ 0 0 0) 8 ((sto σ 0 0 0) 0 11).toNatClampNeg v1) 0 11).toNatClampNeg (-1)) 11 ((sto (sto (sto σ 0 0 0) 8 ((sto σ 0 0 0) 0 11).toNatClampNeg v1) 9 ((sto (sto σ 0 0 0) 8 ((sto σ 0 0 0) 0 11).toNatClampNeg v1) 0 11).toNatClampNeg (-1)) 0 11).toNatClampNeg (-1)) 12 ((sto (sto (sto (sto σ 0 0 0) 8 ((sto σ 0 0 0) 0 11).toNatClampNeg v1) 9 ((sto (sto σ 0 0 0) 8 ((sto σ 0 0 0) 0 11).toNatClampNeg v1) 0 11).toNatClampNeg (-1)) 11 ((sto (sto (sto σ 0 0 0) 8 ((sto σ 0 0 0) 0 11).toNatClampNeg v1) 9 ((sto (sto σ 0 0 0) 8 ((sto σ 0 0 0) 0 11).toNatClampNeg v1) 0 11).toNatClampNeg (-1)) 0 11).toNatClampNeg (-1)) 0 11).toNatClampNeg v2) 0 11 (((sto (sto (sto (sto (sto σ 0 0 0) 8 ((sto σ 0 0 0) 0 11).toNatClampNeg v1) 9 ((sto (sto σ 0 0 0) 8 ((sto σ 0 0 0) 0 11).toNatClampNeg v1) 0 11).toNatClampNeg (-1)) 11 ((sto (sto (sto σ 0 0 0) 8 ((sto σ 0 0 0) 0 11).toNatClampNeg v1) 9 ((sto (sto σ 0 0 0) 8 ((sto σ 0 0 0) 0 11).toNatClampNeg v1) 0 11).toNatClampNeg (-1)) 0 11).toNatClampNeg (-1)) 12 ((sto (sto (sto (sto σ 0 0 0) 8 ((sto σ 0 0 0) 0 11).toNatClampNeg v1) 9 ((sto (sto σ 0 0 0) 8 ((sto σ 0 0 0) 0 11).toNatClampNeg v1) 0 11).toNatClampNeg (-1)) 11 ((sto (sto (sto σ 0 0 0) 8 ((sto σ 0 0 0) 0 11).toNatClampNeg v1) 9 ((sto (sto σ 0 0 0) 8 ((sto σ 0 0 0) 0 11).toNatClampNeg v1) 0 11).toNatClampNeg (-1)) 0 11).toNatClampNeg (-1)) 0 11).toNatClampNeg v2) 0 11) + 1)) 0 11)) (C := "CarrierPathsModel") (T := F_Model) (N := 27) hx hb hts in_Model hown hK hP 0 rfl rfl 11 (by decide) (hts _ kw766) (fun _ h9 => h9) rfl d_Model_carrier_112 ?_
                refine lv_iconst (v := 1) hx hb d_Model_carrier_115 (by decide) ?_
                refine lv_isub hx hb d_Model_carrier_116 ?_
                exact W.iret (v := (((sto (sto (sto (sto (sto (sto σ 0 0 0) 8 ((sto σ 0 0 0) 0 11).toNatClampNeg v1) 9 ((sto (sto σ 0 0 0) 8 ((sto σ 0 0 0) 0 11).toNatClampNeg v1) 0 11).toNatClampNeg (-1)) 11 ((sto (sto (sto σ 0 0 0) 8 ((sto σ 0 0 0) 0 11).toNatClampNeg v1) 9 ((sto (sto σ 0 0 0) 8 ((sto σ 0 0 0) 0 11).toNatClampNeg v1) 0 11).toNatClampNeg (-1)) 0 11).toNatClampNeg (-1)) 12 ((sto (sto (sto (sto σ 0 0 0) 8 ((sto σ 0 0 0) 0 11).toNatClampNeg v1) 9 ((sto (sto σ 0 0 0) 8 ((sto σ 0 0 0) 0 11).toNatClampNeg v1) 0 11).toNatClampNeg (-1)) 11 ((sto (sto (sto σ 0 0 0) 8 ((sto σ 0 0 0) 0 11).toNatClampNeg v1) 9 ((sto (sto σ 0 0 0) 8 ((sto σ 0 0 0) 0 11).toNatClampNeg v1) 0 11).toNatClampNeg (-1)) 0 11).toNatClampNeg (-1)) 0 11).toNatClampNeg v2) 0 11 (((sto (sto (sto (sto (sto σ 0 0 0) 8 ((sto σ 0 0 0) 0 11).toNatClampNeg v1) 9 ((sto (sto σ 0 0 0) 8 ((sto σ 0 0 0) 0 11).toNatClampNeg v1) 0 11).toNatClampNeg (-1)) 11 ((sto (sto (sto σ 0 0 0) 8 ((sto σ 0 0 0) 0 11).toNatClampNeg v1) 9 ((sto (sto σ 0 0 0) 8 ((sto σ 0 0 0) 0 11).toNatClampNeg v1) 0 11).toNatClampNeg (-1)) 0 11).toNatClampNeg (-1)) 12 ((sto (sto (sto (sto σ 0 0 0) 8 ((sto σ 0 0 0) 0 11).toNatClampNeg v1) 9 ((sto (sto σ 0 0 0) 8 ((sto σ 0 0 0) 0 11).toNatClampNeg v1) 0 11).toNatClampNeg (-1)) 11 ((sto (sto (sto σ 0 0 0) 8 ((sto σ 0 0 0) 0 11).toNatClampNeg v1) 9 ((sto (sto σ 0 0 0) 8 ((sto σ 0 0 0) 0 11).toNatClampNeg v1) 0 11).toNatClampNeg (-1)) 0 11).toNatClampNeg (-1)) 0 11).toNatClampNeg v2) 0 11) + 1)) 0 11) - 1)) hx hb hr (fun t ht hW => ⟨⟨(((sto (sto (sto (sto (sto (sto σ 0 0 0) 8 ((sto σ 0 0 0) 0 11).toNatClampNeg v1) 9 ((sto (sto σ 0 0 0) 8 ((sto σ 0 0 0) 0 11).toNatClampNeg v1) 0 11).toNatClampNeg (-1)) 11 ((sto (sto (sto σ 0 0 0) 8 ((sto σ 0 0 0) 0 11).toNatClampNeg v1) 9 ((sto (sto σ 0 0 0) 8 ((sto σ 0 0 0) 0 11).toNatClampNeg v1) 0 11).toNatClampNeg (-1)) 0 11).toNatClampNeg (-1)) 12 ((sto (sto (sto (sto σ 0 0 0) 8 ((sto σ 0 0 0) 0 11).toNatClampNeg v1) 9 ((sto (sto σ 0 0 0) 8 ((sto σ 0 0 0) 0 11).toNatClampNeg v1) 0 11).toNatClampNeg (-1)) 11 ((sto (sto (sto σ 0 0 0) 8 ((sto σ 0 0 0) 0 11).toNatClampNeg v1) 9 ((sto (sto σ 0 0 0) 8 ((sto σ 0 0 0) 0 11).toNatClampNeg v1) 0 11).toNatClampNeg (-1)) 0 11).toNatClampNeg (-1)) 0 11).toNatClampNeg v2) 0 11 (((sto (sto (sto (sto (sto σ 0 0 0) 8 ((sto σ 0 0 0) 0 11).toNatClampNeg v1) 9 ((sto (sto σ 0 0 0) 8 ((sto σ 0 0 0) 0 11).toNatClampNeg v1) 0 11).toNatClampNeg (-1)) 11 ((sto (sto (sto σ 0 0 0) 8 ((sto σ 0 0 0) 0 11).toNatClampNeg v1) 9 ((sto (sto σ 0 0 0) 8 ((sto σ 0 0 0) 0 11).toNatClampNeg v1) 0 11).toNatClampNeg (-1)) 0 11).toNatClampNeg (-1)) 12 ((sto (sto (sto (sto σ 0 0 0) 8 ((sto σ 0 0 0) 0 11).toNatClampNeg v1) 9 ((sto (sto σ 0 0 0) 8 ((sto σ 0 0 0) 0 11).toNatClampNeg v1) 0 11).toNatClampNeg (-1)) 11 ((sto (sto (sto σ 0 0 0) 8 ((sto σ 0 0 0) 0 11).toNatClampNeg v1) 9 ((sto (sto σ 0 0 0) 8 ((sto σ 0 0 0) 0 11).toNatClampNeg v1) 0 11).toNatClampNeg (-1)) 0 11).toNatClampNeg (-1)) 0 11).toNatClampNeg v2) 0 11) + 1)) 0 11) - 1), (sto (sto (sto (sto (sto (sto σ 0 0 0) 8 ((sto σ 0 0 0) 0 11).toNatClampNeg v1) 9 ((sto (sto σ 0 0 0) 8 ((sto σ 0 0 0) 0 11).toNatClampNeg v1) 0 11).toNatClampNeg (-1)) 11 ((sto (sto (sto σ 0 0 0) 8 ((sto σ 0 0 0) 0 11).toNatClampNeg v1) 9 ((sto (sto σ 0 0 0) 8 ((sto σ 0 0 0) 0 11).toNatClampNeg v1) 0 11).toNatClampNeg (-1)) 0 11).toNatClampNeg (-1)) 12 ((sto (sto (sto (sto σ 0 0 0) 8 ((sto σ 0 0 0) 0 11).toNatClampNeg v1) 9 ((sto (sto σ 0 0 0) 8 ((sto σ 0 0 0) 0 11).toNatClampNeg v1) 0 11).toNatClampNeg (-1)) 11 ((sto (sto (sto σ 0 0 0) 8 ((sto σ 0 0 0) 0 11).toNatClampNeg v1) 9 ((sto (sto σ 0 0 0) 8 ((sto σ 0 0 0) 0 11).toNatClampNeg v1) 0 11).toNatClampNeg (-1)) 0 11).toNatClampNeg (-1)) 0 11).toNatClampNeg v2) 0 11 (((sto (sto (sto (sto (sto σ 0 0 0) 8 ((sto σ 0 0 0) 0 11).toNatClampNeg v1) 9 ((sto (sto σ 0 0 0) 8 ((sto σ 0 0 0) 0 11).toNatClampNeg v1) 0 11).toNatClampNeg (-1)) 11 ((sto (sto (sto σ 0 0 0) 8 ((sto σ 0 0 0) 0 11).toNatClampNeg v1) 9 ((sto (sto σ 0 0 0) 8 ((sto σ 0 0 0) 0 11).toNatClampNeg v1) 0 11).toNatClampNeg (-1)) 0 11).toNatClampNeg (-1)) 12 ((sto (sto (sto (sto σ 0 0 0) 8 ((sto σ 0 0 0) 0 11).toNatClampNeg v1) 9 ((sto (sto σ 0 0 0) 8 ((sto σ 0 0 0) 0 11).toNatClampNeg v1) 0 11).toNatClampNeg (-1)) 11 ((sto (sto (sto σ 0 0 0) 8 ((sto σ 0 0 0) 0 11).toNatClampNeg v1) 9 ((sto (sto σ 0 0 0) 8 ((sto σ 0 0 0) 0 11).toNatClampNeg v1) 0 11).toNatClampNeg (-1)) 0 11).toNatClampNeg (-1)) 0 11).toNatClampNeg v2) 0 11) + 1)), rfl, h, hp_back ht hP⟩, hS.F ht⟩) hS.2.2 d_Model_carrier_117
              · have h := h.2 hc
                refine lv_iconst (v := (-1)) hx hb d_Model_carrier_59 (by decide) ?_
                exact W.iret (v := (-1)) hx hb hr (fun t ht hW => ⟨⟨(-1), (sto σ 0 0 0), rfl, h, hp_back ht hP⟩, hS.F ht⟩) hS.2.2 d_Model_carrier_60
            · have h := h.1 hc
              refine lv_aload_n hx hb d_Model_carrier_34 rfl (lv_at hl 0 rfl) ?_
              refine lv_iconst (v := 2) hx hb d_Model_carrier_35 (by decide) ?_
              refine va_calli (va_runV (As := [.int 2]) (rest := []) ⟨hx, hb, hml, hown, hts⟩ (t_Model_fails l D cI cZ ad inj 2 σ _ h) (cwV 1 hts (g_of kw852 kw854 kp23 kw9 kw855) rfl rfl rfl (by decide +kernel) ⟨Nat.le_of_ble_eq_true rfl, Nat.le_of_ble_eq_true rfl⟩) (ro_pre hK hP (va_recv hK hP (ci := 7) (q0 := 0) rfl rfl)) rfl rfl hl.1 rfl (lv_room (Nat.le_of_ble_eq_true rfl)) d_Model_carrier_36 ⟨Nat.le_of_ble_eq_true rfl, Nat.le_of_ble_eq_true rfl⟩) hS (fun _ _ h => h) (fun _ h => h) (fun r5 u4 t H1 locs ht _ h hP1 _ hk1 hS => ?_)
              have hP1 : va_P D classes (W_Model ad cI cZ u4) H1 := hp_fwd ht hP1
              clear hk1 ht
              generalize H1 = H at hP1 hS ⊢
              have hP := hP1
              exact W.iret (v := r5) hx hb hr (fun t ht hW => ⟨⟨r5, u4, rfl, h, hp_back ht hP⟩, hS.F ht⟩) hS.2.2 d_Model_carrier_39
          · have h := h.1 hc
            exact ih 1 v1 v2 σ h _ _ _ hP hS (lv_sub hl [0, 1, 2] rfl)
      | 1, h, hl =>
        have h : q_Model_carrier_b1 (q_Model_carrier_j Q n) Q v1 v2 σ := h
        have hl : lv_has ls 3 [(0, .ref (ad 0)), (1, .int v1), (2, .int v2)] := hl
        refine W.eq (g2 := F0 m 19 ls []) rfl ?_
        unfold q_Model_carrier_b1 at h
        refine lv_aload_n hx hb d_Model_carrier_19 rfl (lv_at hl 0 rfl) ?_
        refine lv_iconst (v := 1) hx hb d_Model_carrier_20 (by decide) ?_
        refine va_calli (va_runV (As := [.int 1]) (rest := []) ⟨hx, hb, hml, hown, hts⟩ (t_Model_fails l D cI cZ ad inj 1 σ _ h) (cwV 1 hts (g_of kw852 kw854 kp23 kw9 kw855) rfl rfl rfl (by decide +kernel) ⟨Nat.le_of_ble_eq_true rfl, Nat.le_of_ble_eq_true rfl⟩) (ro_pre hK hP (va_recv hK hP (ci := 7) (q0 := 0) rfl rfl)) rfl rfl hl.1 rfl (lv_room (Nat.le_of_ble_eq_true rfl)) d_Model_carrier_21 ⟨Nat.le_of_ble_eq_true rfl, Nat.le_of_ble_eq_true rfl⟩) hS (fun _ _ h => h) (fun _ h => h) (fun r7 u6 t H1 locs ht _ h hP1 _ hk1 hS => ?_)
        have hP1 : va_P D classes (W_Model ad cI cZ u6) H1 := hp_fwd ht hP1
        clear hk1 ht
        generalize H1 = H at hP1 hS ⊢
        have hP := hP1
        exact W.iret (v := r7) hx hb hr (fun t ht hW => ⟨⟨r7, u6, rfl, h, hp_back ht hP⟩, hS.F ht⟩) hS.2.2 d_Model_carrier_24
      | _ + 2, h, _ => exact False.elim h
  exact key 4000 0 v1 v2 σ h s.heap [] ls hP hS hl
def q_Model_job_b0 (J : Nat → Int32 → Int32 → Sg → Prop) (Q : (Int32 → Sg → Prop)) (v1 v2 : Int32) (σ : Sg) : Prop :=
  (q_Model_isPoint v1 σ (fun r1 => ((r1 = 0 → J 1 v1 v2 σ) ∧ (¬ r1 = 0 → (q_Model_isPoint v2 σ (fun r2 => ((r2 = 0 → J 1 v1 v2 σ) ∧ (¬ r2 = 0 → ((v1 = v2 → J 1 v1 v2 σ) ∧ (¬ v1 = v2 → (((σ 0 19) = 12 → (q_Model_fails 2 σ (fun r4 u3 => Q r4 u3))) ∧ (¬ (σ 0 19) = 12 → (vp_in ((sto σ 0 0 0) 0 19) 12 ∧ (vp_in ((sto (sto σ 0 0 0) 15 ((sto σ 0 0 0) 0 19).toNatClampNeg v1) 0 19) 12 ∧ (vp_in ((sto (sto (sto σ 0 0 0) 15 ((sto σ 0 0 0) 0 19).toNatClampNeg v1) 16 ((sto (sto σ 0 0 0) 15 ((sto σ 0 0 0) 0 19).toNatClampNeg v1) 0 19).toNatClampNeg v2) 0 19) 12 ∧ Q (((sto (sto (sto (sto (sto σ 0 0 0) 15 ((sto σ 0 0 0) 0 19).toNatClampNeg v1) 16 ((sto (sto σ 0 0 0) 15 ((sto σ 0 0 0) 0 19).toNatClampNeg v1) 0 19).toNatClampNeg v2) 18 ((sto (sto (sto σ 0 0 0) 15 ((sto σ 0 0 0) 0 19).toNatClampNeg v1) 16 ((sto (sto σ 0 0 0) 15 ((sto σ 0 0 0) 0 19).toNatClampNeg v1) 0 19).toNatClampNeg v2) 0 19).toNatClampNeg (-1)) 0 19 (((sto (sto (sto (sto σ 0 0 0) 15 ((sto σ 0 0 0) 0 19).toNatClampNeg v1) 16 ((sto (sto σ 0 0 0) 15 ((sto σ 0 0 0) 0 19).toNatClampNeg v1) 0 19).toNatClampNeg v2) 18 ((sto (sto (sto σ 0 0 0) 15 ((sto σ 0 0 0) 0 19).toNatClampNeg v1) 16 ((sto (sto σ 0 0 0) 15 ((sto σ 0 0 0) 0 19).toNatClampNeg v1) 0 19).toNatClampNeg v2) 0 19).toNatClampNeg (-1)) 0 19) + 1)) 0 19) - 1) (sto (sto (sto (sto (sto σ 0 0 0) 15 ((sto σ 0 0 0) 0 19).toNatClampNeg v1) 16 ((sto (sto σ 0 0 0) 15 ((sto σ 0 0 0) 0 19).toNatClampNeg v1) 0 19).toNatClampNeg v2) 18 ((sto (sto (sto σ 0 0 0) 15 ((sto σ 0 0 0) 0 19).toNatClampNeg v1) 16 ((sto (sto σ 0 0 0) 15 ((sto σ 0 0 0) 0 19).toNatClampNeg v1) 0 19).toNatClampNeg v2) 0 19).toNatClampNeg (-1)) 0 19 (((sto (sto (sto (sto σ 0 0 0) 15 ((sto σ 0 0 0) 0 19).toNatClampNeg v1) 16 ((sto (sto σ 0 0 0) 15 ((sto σ 0 0 0) 0 19).toNatClampNeg v1) 0 19).toNatClampNeg v2) 18 ((sto (sto (sto σ 0 0 0) 15 ((sto σ 0 0 0) 0 19).toNatClampNeg v1) 16 ((sto (sto σ 0 0 0) 15 ((sto σ 0 0 0) 0 19).toNatClampNeg v1) 0 19).toNatClampNeg v2) 0 19).toNatClampNeg (-1)) 0 19) + 1)))))))))))))))))
def q_Model_job_b1 (J : Nat → Int32 → Int32 → Sg → Prop) (Q : (Int32 → Sg → Prop)) (v1 v2 : Int32) (σ : Sg) : Prop :=
  (q_Model_fails 1 σ (fun r6 u5 => Q r6 u5))
def q_Model_job_j (Q : (Int32 → Sg → Prop)) : Nat → Nat → Int32 → Int32 → Sg → Prop
  | 0, _, _, _, _ => False
  | n + 1, 0, v1, v2, σ => q_Model_job_b0 (q_Model_job_j Q n) Q v1 v2 σ
  | n + 1, 1, v1, v2, σ => q_Model_job_b1 (q_Model_job_j Q n) Q v1 v2 σ
  | _ + 1, _ + 2, _, _, _ => False
def q_Model_job (v1 v2 : Int32) (σ : Sg) (Q : (Int32 → Sg → Prop)) : Prop := q_Model_job_j Q 4000 0 v1 v2 σ
def lc_Model_job (ad : Nat → Nat) (b : Nat) (v1 v2 : Int32) : List (Nat × Value) := match b with
  | 0 => [(0, .ref (ad 0)), (1, .int v1), (2, .int v2)]
  | 1 => [(0, .ref (ad 0)), (1, .int v1), (2, .int v2)]
  | _ => []
def pc_Model_job (b : Nat) : Nat := match b with
  | 0 => 0
  | 1 => 21
  | _ => 0
set_option maxHeartbeats 4000000 in
set_option maxRecDepth 100000 in
theorem t_Model_job (l : Launch) (D : va_G) (cI cZ : ClassId) (ad : Nat → Nat) (inj : Inj ad 21) (v1 v2 : Int32) (σ : Sg) (Q : (Int32 → Sg → Prop)) (h : q_Model_job v1 v2 σ Q) : Met l y_Model_job (.code y_Model_job prog_9_method_19_code 3 (some .int) :: TG) { frames := 1, cells := 0, slots := 0, locals := 21 } (va_Pc [.ref (ad 0), .int v1, .int v2] (roB D (tysA cI cZ) (W_Model ad cI cZ σ))) (va_Qi Q (fun u t => va_P D classes (W_Model ad cI cZ u) t.heap) (inA ad 21)) 0 0 (inA ad 21) := by
  refine Met.ofW (cc := prog_9_method_19_code) (maxL := 3) (ret := (some .int)) (by decide) rfl ?_
  intro p e s m args below meth c s₁ B hml hv
  obtain ⟨rfl, hP, hK⟩ := hv
  have hx := B.exec
  have hb := B.bytes
  have hr := B.returns
  have hts : ∀ w ∈ TG, w.before [.ref (ad 0), .int v1, .int v2].toArray s = true := fun w hw => atoms_spec (ws := .code y_Model_job prog_9_method_19_code 3 (some .int) :: TG) B.pre w (List.mem_cons_of_mem _ hw)
  have hown : s.vm.findClass "CarrierPathsModel" = some m.cls := findClass_of_methodNamed B.named
  have hlocks := B.notSynchronized
  have hS : va_S (inA ad 21) s.heap s.heap [] := va_S.rf
  have hl := lv_entry ([.ref (ad 0), .int v1, .int v2]) (n := 3) (Nat.le_of_ble_eq_true rfl)
  rw [lg_entry_eq]
  generalize (lg_sl ([.ref (ad 0), .int v1, .int v2]) ++ List.replicate (3 - (lg_sl ([.ref (ad 0), .int v1, .int v2])).length) Slot.unset).toArray = ls at hl ⊢
  generalize ([.ref (ad 0), .int v1, .int v2] : List Value).toArray = args at hts ⊢
  have key : ∀ (n b : Nat) (v1 v2 : Int32) (σ : Sg), q_Model_job_j Q n b v1 v2 σ → ∀ (H : Heap) (locs : List Loc) (ls : Array Slot), va_P D classes (W_Model ad cI cZ σ) H → va_S (inA ad 21) s.heap H locs → lv_has ls 3 (lc_Model_job ad b v1 v2) → W p l e (headSpec (.code y_Model_job prog_9_method_19_code 3 (some .int) :: TG) { frames := 1, cells := 0, slots := 0, locals := 21 }).room s m args below meth c H locs 0 0 (MQ below (va_Qi Q (fun u t => va_P D classes (W_Model ad cI cZ u) t.heap) (inA ad 21)) args s 0 0 (inA ad 21)) (F0 m (pc_Model_job b) ls []) := by
    clear h hl hP hS
    intro n
    induction n with
    | zero => intro b _ _ _ h; exact False.elim h
    | succ n ih =>
      intro b v1 v2 σ h H locs ls hP hS hl
      match b, h, hl with
      | 0, h, hl =>
        have h : q_Model_job_b0 (q_Model_job_j Q n) Q v1 v2 σ := h
        have hl : lv_has ls 3 [(0, .ref (ad 0)), (1, .int v1), (2, .int v2)] := hl
        refine W.eq (g2 := F0 m 0 ls []) rfl ?_
        unfold q_Model_job_b0 at h
        refine lv_aload_n hx hb d_Model_job_0 rfl (lv_at hl 0 rfl) ?_
        refine lv_iload_n hx hb d_Model_job_1 rfl (lv_at hl 1 rfl) ?_
        refine vp_callSi (W.runV (As := [.int v1]) (rest := []) ⟨hx, hb, hml, hown, hts⟩ (t_Model_isPoint l D cI cZ ad v1 σ _ h) (cwV 1 hts (g_of kw845 kw847 kp22 kw9 kw848) rfl rfl rfl (by decide +kernel) ⟨Nat.le_of_ble_eq_true rfl, Nat.le_of_ble_eq_true rfl⟩) (ro_pre hK hP (va_recv hK hP (ci := 7) (q0 := 0) rfl rfl)) rfl rfl hl.1 rfl (lv_room (Nat.le_of_ble_eq_true rfl)) d_Model_job_2 ⟨Nat.le_of_ble_eq_true rfl, Nat.le_of_ble_eq_true rfl⟩) (fun r1 h => ?_)
        refine lv_if_eq (tgt := 21) hx hb d_Model_job_5 (by decide) (fun hc => ?_) (fun hc => ?_)
        · have h := h.1 hc
          exact ih 1 v1 v2 σ h _ _ _ hP hS (lv_sub hl [0, 1, 2] rfl)
        · have h := h.2 hc
          refine lv_aload_n hx hb d_Model_job_8 rfl (lv_at hl 0 rfl) ?_
          refine lv_iload_n hx hb d_Model_job_9 rfl (lv_at hl 2 rfl) ?_
          refine vp_callSi (W.runV (As := [.int v2]) (rest := []) ⟨hx, hb, hml, hown, hts⟩ (t_Model_isPoint l D cI cZ ad v2 σ _ h) (cwV 1 hts (g_of kw845 kw847 kp22 kw9 kw848) rfl rfl rfl (by decide +kernel) ⟨Nat.le_of_ble_eq_true rfl, Nat.le_of_ble_eq_true rfl⟩) (ro_pre hK hP (va_recv hK hP (ci := 7) (q0 := 0) rfl rfl)) rfl rfl hl.1 rfl (lv_room (Nat.le_of_ble_eq_true rfl)) d_Model_job_10 ⟨Nat.le_of_ble_eq_true rfl, Nat.le_of_ble_eq_true rfl⟩) (fun r2 h => ?_)
          refine lv_if_eq (tgt := 21) hx hb d_Model_job_13 (by decide) (fun hc => ?_) (fun hc => ?_)
          · have h := h.1 hc
            exact ih 1 v1 v2 σ h _ _ _ hP hS (lv_sub hl [0, 1, 2] rfl)
          · have h := h.2 hc
            refine lv_iload_n hx hb d_Model_job_16 rfl (lv_at hl 1 rfl) ?_
            refine lv_iload_n hx hb d_Model_job_17 rfl (lv_at hl 2 rfl) ?_
            refine lv_icmp_ne (tgt := 27) hx hb d_Model_job_18 (by decide) (fun hc => ?_) (fun hc => ?_)
            · have h := h.2 hc
              refine lv_aload_n hx hb d_Model_job_27 rfl (lv_at hl 0 rfl) ?_
              refine va_get (D := D) (ci := 7) (v := .int (σ 0 19)) (C := "CarrierPathsModel") (T := F_Model) (N := 27) hx hb hts in_Model hown hK hP 0 rfl rfl 19 (by decide) (hts _ kw774) (fun _ h9 => h9) rfl d_Model_job_28 ?_
              refine lv_bipush (v := 12) hx hb d_Model_job_31 (by decide) ?_
              refine lv_icmp_ne (tgt := 42) hx hb d_Model_job_33 (by decide) (fun hc => ?_) (fun hc => ?_)
              · have h := h.2 hc
                refine lv_aload_n hx hb d_Model_job_42 rfl (lv_at hl 0 rfl) ?_
                refine lv_iconst (v := 0) hx hb d_Model_job_43 (by decide) ?_
                refine va_put (D := D) (ci := 7) (v := .int 0) (ty := .int) (C := "CarrierPathsModel") (T := F_Model) (N := 27) hx hb hts in_Model ty_Model ty_Model_ok nm_Model hown hK hP (D_Model inj) hS 0 rfl rfl 0 (by decide) (hts _ kw755) (fun _ h9 => h9) rfl (by decide +kernel) rfl rfl (Nat.le_of_ble_eq_true rfl) d_Model_job_44 (fun H locs hP _ hS => ?_)
                have hP := up_Model_f0 hP
                refine lv_aload_n hx hb d_Model_job_47 rfl (lv_at hl 0 rfl) ?_
                refine va_get (D := D) (ci := 7) (v := .ref (ad 15)) (C := "CarrierPathsModel") (T := F_Model) (N := 27) hx hb hts in_Model hown hK hP 0 rfl rfl 20 (by decide) (hts _ kw775) (fun _ h9 => h9) rfl d_Model_job_48 ?_
                refine lv_aload_n hx hb d_Model_job_51 rfl (lv_at hl 0 rfl) ?_
                refine va_get (D := D) (ci := 7) (v := .int ((sto σ 0 0 0) 0 19)) (C := "CarrierPathsModel") (T := F_Model) (N := 27) hx hb hts in_Model hown hK hP 0 rfl rfl 19 (by decide) (hts _ kw774) (fun _ h9 => h9) rfl d_Model_job_52 ?_
                refine lv_iload_n hx hb d_Model_job_55 rfl (lv_at hl 1 rfl) ?_
                obtain ⟨hi, h⟩ := h
                refine va_iast hx hb hK hP (D_Model inj) hS 15 0 rfl rfl hi d_Model_job_56 (fun H locs hP _ hS => ?_)
                have hP := up_Model_15 hP
                refine lv_aload_n hx hb d_Model_job_57 rfl (lv_at hl 0 rfl) ?_
                refine va_get (D := D) (ci := 7) (v := .ref (ad 16)) (C := "CarrierPathsModel") (T := F_Model) (N := 27) hx hb hts in_Model hown hK hP 0 rfl rfl 21 (by decide) (hts _ kw776) (fun _ h9 => h9) rfl d_Model_job_58 ?_
                refine lv_aload_n hx hb d_Model_job_61 rfl (lv_at hl 0 rfl) ?_
                refine va_get (D := D) (ci := 7) (v := .int ((sto (sto σ 0 0 0) 15 ((sto σ 0 0 0) 0 19).toNatClampNeg v1) 0 19)) (C := "CarrierPathsModel") (T := F_Model) (N := 27) hx hb hts in_Model hown hK hP 0 rfl rfl 19 (by decide) (hts _ kw774) (fun _ h9 => h9) rfl d_Model_job_62 ?_
                refine lv_iload_n hx hb d_Model_job_65 rfl (lv_at hl 2 rfl) ?_
                obtain ⟨hi, h⟩ := h
                refine va_iast hx hb hK hP (D_Model inj) hS 16 0 rfl rfl hi d_Model_job_66 (fun H locs hP _ hS => ?_)
                have hP := up_Model_16 hP
                refine lv_aload_n hx hb d_Model_job_67 rfl (lv_at hl 0 rfl) ?_
                refine va_get (D := D) (ci := 7) (v := .ref (ad 18)) (C := "CarrierPathsModel") (T := F_Model) (N := 27) hx hb hts in_Model hown hK hP 0 rfl rfl 23 (by decide) (hts _ kw778) (fun _ h9 => h9) rfl d_Model_job_68 ?_
                refine lv_aload_n hx hb d_Model_job_71 rfl (lv_at hl 0 rfl) ?_
                refine va_get (D := D) (ci := 7) (v := .int ((sto (sto (sto σ 0 0 0) 15 ((sto σ 0 0 0) 0 19).toNatClampNeg v1) 16 ((sto (sto σ 0 0 0) 15 ((sto σ 0 0 0) 0 19).toNatClampNeg v1) 0 19).toNatClampNeg v2) 0 19)) (C := "CarrierPathsModel") (T := F_Model) (N := 27) hx hb hts in_Model hown hK hP 0 rfl rfl 19 (by decide) (hts _ kw774) (fun _ h9 => h9) rfl d_Model_job_72 ?_
                refine lv_iconst (v := (-1)) hx hb d_Model_job_75 (by decide) ?_
                obtain ⟨hi, h⟩ := h
                refine va_iast hx hb hK hP (D_Model inj) hS 18 0 rfl rfl hi d_Model_job_76 (fun H locs hP _ hS => ?_)
                have hP := up_Model_18 hP
                refine lv_aload_n hx hb d_Model_job_77 rfl (lv_at hl 0 rfl) ?_
                refine lv_dup hx hb d_Model_job_78 rfl ?_
                refine va_get (D := D) (ci := 7) (v := .int ((sto (sto (sto (sto σ 0 0 0) 15 ((sto σ 0 0 0) 0 19).toNatClampNeg v1) 16 ((sto (sto σ 0 0 0) 15 ((sto σ 0 0 0) 0 19).toNatClampNeg v1) 0 19).toNatClampNeg v2) 18 ((sto (sto (sto σ 0 0 0) 15 ((sto σ 0 0 0) 0 19).toNatClampNeg v1) 16 ((sto (sto σ 0 0 0) 15 ((sto σ 0 0 0) 0 19).toNatClampNeg v1) 0 19).toNatClampNeg v2) 0 19).toNatClampNeg (-1)) 0 19)) (C := "CarrierPathsModel") (T := F_Model) (N := 27) hx hb hts in_Model hown hK hP 0 rfl rfl 19 (by decide) (hts _ kw774) (fun _ h9 => h9) rfl d_Model_job_79 ?_
                refine lv_iconst (v := 1) hx hb d_Model_job_82 (by decide) ?_
                refine lv_iadd hx hb d_Model_job_83 ?_
                refine va_put (D := D) (ci := 7) (v := .int (((sto (sto (sto (sto σ 0 0 0) 15 ((sto σ 0 0 0) 0 19).toNatClampNeg v1) 16 ((sto (sto σ 0 0 0) 15 ((sto σ 0 0 0) 0 19).toNatClampNeg v1) 0 19).toNatClampNeg v2) 18 ((sto (sto (sto σ 0 0 0) 15 ((sto σ 0 0 0) 0 19).toNatClampNeg v1) 16 ((sto (sto σ 0 0 0) 15 ((sto σ 0 0 0) 0 19).toNatClampNeg v1) 0 19).toNatClampNeg v2) 0 19).toNatClampNeg (-1)) 0 19) + 1)) (ty := .int) (C := "CarrierPathsModel") (T := F_Model) (N := 27) hx hb hts in_Model ty_Model ty_Model_ok nm_Model hown hK hP (D_Model inj) hS 0 rfl rfl 19 (by decide) (hts _ kw774) (fun _ h9 => h9) rfl (by decide +kernel) rfl rfl (Nat.le_of_ble_eq_true rfl) d_Model_job_84 (fun H locs hP _ hS => ?_)
                have hP := up_Model_f19 hP
                refine lv_aload_n hx hb d_Model_job_87 rfl (lv_at hl 0 rfl) ?_
                refine va_get (D := D) (ci := 7) (v := .int ((sto (sto (sto (sto (sto σ 0 0 0) 15 ((sto σ 0 0 0) 0 19).toNatClampNeg v1) 16 ((sto (sto σ 0 0 0) 15 ((sto σ 0 0 0) 0 19).toNatClampNeg v1) 0 19).toNatClampNeg v2) 18 ((sto (sto (sto σ 0 0 0) 15 ((sto σ 0 0 0) 0 19).toNatClampNeg v1) 16 ((sto (sto σ 0 0 0) 15 ((sto σ 0 0 0) 0 19).toNatClampNeg v1) 0 19).toNatClampNeg v2) 0 19).toNatClampNeg (-1)) 0 19 (((sto (sto (sto (sto σ 0 0 0) 15 ((sto σ 0 0 0) 0 19).toNatClampNeg v1) 16 ((sto (sto σ 0 0 0) 15 ((sto σ 0 0 0) 0 19).toNatClampNeg v1) 0 19).toNatClampNeg v2) 18 ((sto (sto (sto σ 0 0 0) 15 ((sto σ 0 0 0) 0 19).toNatClampNeg v1) 16 ((sto (sto σ 0 0 0) 15 ((sto σ 0 0 0) 0 19).toNatClampNeg v1) 0 19).toNatClampNeg v2) 0 19).toNatClampNeg (-1)) 0 19) + 1)) 0 19)) (C := "CarrierPathsModel") (T := F_Model) (N := 27) hx hb hts in_Model hown hK hP 0 rfl rfl 19 (by decide) (hts _ kw774) (fun _ h9 => h9) rfl d_Model_job_88 ?_
                refine lv_iconst (v := 1) hx hb d_Model_job_91 (by decide) ?_
                refine lv_isub hx hb d_Model_job_92 ?_
                exact W.iret (v := (((sto (sto (sto (sto (sto σ 0 0 0) 15 ((sto σ 0 0 0) 0 19).toNatClampNeg v1) 16 ((sto (sto σ 0 0 0) 15 ((sto σ 0 0 0) 0 19).toNatClampNeg v1) 0 19).toNatClampNeg v2) 18 ((sto (sto (sto σ 0 0 0) 15 ((sto σ 0 0 0) 0 19).toNatClampNeg v1) 16 ((sto (sto σ 0 0 0) 15 ((sto σ 0 0 0) 0 19).toNatClampNeg v1) 0 19).toNatClampNeg v2) 0 19).toNatClampNeg (-1)) 0 19 (((sto (sto (sto (sto σ 0 0 0) 15 ((sto σ 0 0 0) 0 19).toNatClampNeg v1) 16 ((sto (sto σ 0 0 0) 15 ((sto σ 0 0 0) 0 19).toNatClampNeg v1) 0 19).toNatClampNeg v2) 18 ((sto (sto (sto σ 0 0 0) 15 ((sto σ 0 0 0) 0 19).toNatClampNeg v1) 16 ((sto (sto σ 0 0 0) 15 ((sto σ 0 0 0) 0 19).toNatClampNeg v1) 0 19).toNatClampNeg v2) 0 19).toNatClampNeg (-1)) 0 19) + 1)) 0 19) - 1)) hx hb hr (fun t ht hW => ⟨⟨(((sto (sto (sto (sto (sto σ 0 0 0) 15 ((sto σ 0 0 0) 0 19).toNatClampNeg v1) 16 ((sto (sto σ 0 0 0) 15 ((sto σ 0 0 0) 0 19).toNatClampNeg v1) 0 19).toNatClampNeg v2) 18 ((sto (sto (sto σ 0 0 0) 15 ((sto σ 0 0 0) 0 19).toNatClampNeg v1) 16 ((sto (sto σ 0 0 0) 15 ((sto σ 0 0 0) 0 19).toNatClampNeg v1) 0 19).toNatClampNeg v2) 0 19).toNatClampNeg (-1)) 0 19 (((sto (sto (sto (sto σ 0 0 0) 15 ((sto σ 0 0 0) 0 19).toNatClampNeg v1) 16 ((sto (sto σ 0 0 0) 15 ((sto σ 0 0 0) 0 19).toNatClampNeg v1) 0 19).toNatClampNeg v2) 18 ((sto (sto (sto σ 0 0 0) 15 ((sto σ 0 0 0) 0 19).toNatClampNeg v1) 16 ((sto (sto σ 0 0 0) 15 ((sto σ 0 0 0) 0 19).toNatClampNeg v1) 0 19).toNatClampNeg v2) 0 19).toNatClampNeg (-1)) 0 19) + 1)) 0 19) - 1), (sto (sto (sto (sto (sto σ 0 0 0) 15 ((sto σ 0 0 0) 0 19).toNatClampNeg v1) 16 ((sto (sto σ 0 0 0) 15 ((sto σ 0 0 0) 0 19).toNatClampNeg v1) 0 19).toNatClampNeg v2) 18 ((sto (sto (sto σ 0 0 0) 15 ((sto σ 0 0 0) 0 19).toNatClampNeg v1) 16 ((sto (sto σ 0 0 0) 15 ((sto σ 0 0 0) 0 19).toNatClampNeg v1) 0 19).toNatClampNeg v2) 0 19).toNatClampNeg (-1)) 0 19 (((sto (sto (sto (sto σ 0 0 0) 15 ((sto σ 0 0 0) 0 19).toNatClampNeg v1) 16 ((sto (sto σ 0 0 0) 15 ((sto σ 0 0 0) 0 19).toNatClampNeg v1) 0 19).toNatClampNeg v2) 18 ((sto (sto (sto σ 0 0 0) 15 ((sto σ 0 0 0) 0 19).toNatClampNeg v1) 16 ((sto (sto σ 0 0 0) 15 ((sto σ 0 0 0) 0 19).toNatClampNeg v1) 0 19).toNatClampNeg v2) 0 19).toNatClampNeg (-1)) 0 19) + 1)), rfl, h, hp_back ht hP⟩, hS.F ht⟩) hS.2.2 d_Model_job_93
              · have h := h.1 hc
                refine lv_aload_n hx hb d_Model_job_36 rfl (lv_at hl 0 rfl) ?_
                refine lv_iconst (v := 2) hx hb d_Model_job_37 (by decide) ?_
                refine va_calli (va_runV (As := [.int 2]) (rest := []) ⟨hx, hb, hml, hown, hts⟩ (t_Model_fails l D cI cZ ad inj 2 σ _ h) (cwV 1 hts (g_of kw852 kw854 kp23 kw9 kw855) rfl rfl rfl (by decide +kernel) ⟨Nat.le_of_ble_eq_true rfl, Nat.le_of_ble_eq_true rfl⟩) (ro_pre hK hP (va_recv hK hP (ci := 7) (q0 := 0) rfl rfl)) rfl rfl hl.1 rfl (lv_room (Nat.le_of_ble_eq_true rfl)) d_Model_job_38 ⟨Nat.le_of_ble_eq_true rfl, Nat.le_of_ble_eq_true rfl⟩) hS (fun _ _ h => h) (fun _ h => h) (fun r4 u3 t H1 locs ht _ h hP1 _ hk1 hS => ?_)
                have hP1 : va_P D classes (W_Model ad cI cZ u3) H1 := hp_fwd ht hP1
                clear hk1 ht
                generalize H1 = H at hP1 hS ⊢
                have hP := hP1
                exact W.iret (v := r4) hx hb hr (fun t ht hW => ⟨⟨r4, u3, rfl, h, hp_back ht hP⟩, hS.F ht⟩) hS.2.2 d_Model_job_41
            · have h := h.1 hc
              exact ih 1 v1 v2 σ h _ _ _ hP hS (lv_sub hl [0, 1, 2] rfl)
      | 1, h, hl =>
        have h : q_Model_job_b1 (q_Model_job_j Q n) Q v1 v2 σ := h
        have hl : lv_has ls 3 [(0, .ref (ad 0)), (1, .int v1), (2, .int v2)] := hl
        refine W.eq (g2 := F0 m 21 ls []) rfl ?_
        unfold q_Model_job_b1 at h
        refine lv_aload_n hx hb d_Model_job_21 rfl (lv_at hl 0 rfl) ?_
        refine lv_iconst (v := 1) hx hb d_Model_job_22 (by decide) ?_
        refine va_calli (va_runV (As := [.int 1]) (rest := []) ⟨hx, hb, hml, hown, hts⟩ (t_Model_fails l D cI cZ ad inj 1 σ _ h) (cwV 1 hts (g_of kw852 kw854 kp23 kw9 kw855) rfl rfl rfl (by decide +kernel) ⟨Nat.le_of_ble_eq_true rfl, Nat.le_of_ble_eq_true rfl⟩) (ro_pre hK hP (va_recv hK hP (ci := 7) (q0 := 0) rfl rfl)) rfl rfl hl.1 rfl (lv_room (Nat.le_of_ble_eq_true rfl)) d_Model_job_23 ⟨Nat.le_of_ble_eq_true rfl, Nat.le_of_ble_eq_true rfl⟩) hS (fun _ _ h => h) (fun _ h => h) (fun r6 u5 t H1 locs ht _ h hP1 _ hk1 hS => ?_)
        have hP1 : va_P D classes (W_Model ad cI cZ u5) H1 := hp_fwd ht hP1
        clear hk1 ht
        generalize H1 = H at hP1 hS ⊢
        have hP := hP1
        exact W.iret (v := r6) hx hb hr (fun t ht hW => ⟨⟨r6, u5, rfl, h, hp_back ht hP⟩, hS.F ht⟩) hS.2.2 d_Model_job_26
      | _ + 2, h, _ => exact False.elim h
  exact key 4000 0 v1 v2 σ h s.heap [] ls hP hS hl
