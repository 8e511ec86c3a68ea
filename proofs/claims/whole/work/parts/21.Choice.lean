def W_Choice (ad : Nat → Nat) (cI cZ : ClassId) (σ : Sg) : va_W :=
  [(ad 0, .inr (0, [.ref (ad 1), .ref (ad 2), .ref (ad 3), .int (σ 0 3), .int (σ 0 4), .int (σ 0 5)])),
   (ad 1, .inl (cI, 72, .inl (σ 1))),
   (ad 2, .inl (cI, 832, .inl (σ 2))),
   (ad 3, .inl (cI, 12, .inl (σ 3)))]
theorem D_Choice {ad : Nat → Nat} {cI cZ : ClassId} {σ : Sg} (inj : Inj ad 4) : va_D (inA ad 4) (W_Choice ad cI cZ σ) := D_of inj rfl
theorem up_Choice_f3 {D : va_G} {ad : Nat → Nat} {cI cZ : ClassId} {σ : Sg} {H : Heap} {v : Int32} (h : va_P D classes ((W_Choice ad cI cZ σ).set 0 (ad 0, .inr (0, ([.ref (ad 1), .ref (ad 2), .ref (ad 3), .int (σ 0 3), .int (σ 0 4), .int (σ 0 5)] : List Value).set 3 (.int v)))) H) : va_P D classes (W_Choice ad cI cZ (sto σ 0 3 v)) H := h
theorem up_Choice_f4 {D : va_G} {ad : Nat → Nat} {cI cZ : ClassId} {σ : Sg} {H : Heap} {v : Int32} (h : va_P D classes ((W_Choice ad cI cZ σ).set 0 (ad 0, .inr (0, ([.ref (ad 1), .ref (ad 2), .ref (ad 3), .int (σ 0 3), .int (σ 0 4), .int (σ 0 5)] : List Value).set 4 (.int v)))) H) : va_P D classes (W_Choice ad cI cZ (sto σ 0 4 v)) H := h
theorem up_Choice_f5 {D : va_G} {ad : Nat → Nat} {cI cZ : ClassId} {σ : Sg} {H : Heap} {v : Int32} (h : va_P D classes ((W_Choice ad cI cZ σ).set 0 (ad 0, .inr (0, ([.ref (ad 1), .ref (ad 2), .ref (ad 3), .int (σ 0 3), .int (σ 0 4), .int (σ 0 5)] : List Value).set 5 (.int v)))) H) : va_P D classes (W_Choice ad cI cZ (sto σ 0 5 v)) H := h
theorem up_Choice_1 {D : va_G} {ad : Nat → Nat} {cI cZ : ClassId} {σ : Sg} {H : Heap} {i : Nat} {v : Int32} (h : va_P D classes ((W_Choice ad cI cZ σ).set 1 (ad 1, .inl (cI, 72, .inl (upd (σ 1) i v)))) H) : va_P D classes (W_Choice ad cI cZ (sto σ 1 i v)) H := h
theorem up_Choice_2 {D : va_G} {ad : Nat → Nat} {cI cZ : ClassId} {σ : Sg} {H : Heap} {i : Nat} {v : Int32} (h : va_P D classes ((W_Choice ad cI cZ σ).set 2 (ad 2, .inl (cI, 832, .inl (upd (σ 2) i v)))) H) : va_P D classes (W_Choice ad cI cZ (sto σ 2 i v)) H := h
theorem up_Choice_3 {D : va_G} {ad : Nat → Nat} {cI cZ : ClassId} {σ : Sg} {H : Heap} {i : Nat} {v : Int32} (h : va_P D classes ((W_Choice ad cI cZ σ).set 3 (ad 3, .inl (cI, 12, .inl (upd (σ 3) i v)))) H) : va_P D classes (W_Choice ad cI cZ (sto σ 3 i v)) H := h
def q_Choice_begin_b0 (J : Nat → Int32 → Int32 → Int32 → Sg → Prop) (Q : (Sg → Prop)) (v1 v2 v3 : Int32) (σ : Sg) : Prop :=
  J 1 v1 v2 0 (sto (sto (sto σ 0 3 v1) 0 4 v2) 0 5 0)
def q_Choice_begin_b1 (J : Nat → Int32 → Int32 → Int32 → Sg → Prop) (Q : (Sg → Prop)) (v1 v2 v3 : Int32) (σ : Sg) : Prop :=
  ((72 ≤ v3 → Q σ) ∧ (¬ 72 ≤ v3 → (vp_in v3 72 ∧ J 1 v1 v2 (v3 + 1) (sto σ 1 v3.toNatClampNeg 0))))
def q_Choice_begin_j (Q : (Sg → Prop)) : Nat → Nat → Int32 → Int32 → Int32 → Sg → Prop
  | 0, _, _, _, _, _ => False
  | n + 1, 0, v1, v2, v3, σ => q_Choice_begin_b0 (q_Choice_begin_j Q n) Q v1 v2 v3 σ
  | n + 1, 1, v1, v2, v3, σ => q_Choice_begin_b1 (q_Choice_begin_j Q n) Q v1 v2 v3 σ
  | _ + 1, _ + 2, _, _, _, _ => False
def q_Choice_begin (v1 v2 : Int32) (σ : Sg) (Q : (Sg → Prop)) : Prop := q_Choice_begin_j Q 4000 0 v1 v2 0 σ
def lc_Choice_begin (ad : Nat → Nat) (b : Nat) (v1 v2 v3 : Int32) : List (Nat × Value) := match b with
  | 0 => [(0, .ref (ad 0)), (1, .int v1), (2, .int v2)]
  | 1 => [(0, .ref (ad 0)), (1, .int v1), (2, .int v2), (3, .int v3)]
  | _ => []
def pc_Choice_begin (b : Nat) : Nat := match b with
  | 0 => 0
  | 1 => 17
  | _ => 0
set_option maxHeartbeats 4000000 in
set_option maxRecDepth 100000 in
theorem t_Choice_begin (l : Launch) (D : va_G) (cI cZ : ClassId) (ad : Nat → Nat) (inj : Inj ad 4) (v1 v2 : Int32) (σ : Sg) (Q : (Sg → Prop)) (h : q_Choice_begin v1 v2 σ Q) : Met l y_Choice_begin (.code y_Choice_begin prog_2_method_2_code 4 none :: TG) { frames := 0, cells := 0, slots := 0, locals := 0 } (va_Pc [.ref (ad 0), .int v1, .int v2] (roB D (tysA cI cZ) (W_Choice ad cI cZ σ))) (va_Qv Q (fun u t => va_P D classes (W_Choice ad cI cZ u) t.heap) (inA ad 4)) 0 0 (inA ad 4) := by
  refine Met.ofW (cc := prog_2_method_2_code) (maxL := 4) (ret := none) (by decide) rfl ?_
  intro p e s m args below meth c s₁ B hml hv
  obtain ⟨rfl, hP, hK⟩ := hv
  have hx := B.exec
  have hb := B.bytes
  have hr := B.returns
  have hts : ∀ w ∈ TG, w.before [.ref (ad 0), .int v1, .int v2].toArray s = true := fun w hw => atoms_spec (ws := .code y_Choice_begin prog_2_method_2_code 4 none :: TG) B.pre w (List.mem_cons_of_mem _ hw)
  have hown : s.vm.findClass "CarrierPaths$Choice" = some m.cls := findClass_of_methodNamed B.named
  have hlocks := B.notSynchronized
  have hS : va_S (inA ad 4) s.heap s.heap [] := va_S.rf
  have hl := lv_entry ([.ref (ad 0), .int v1, .int v2]) (n := 4) (Nat.le_of_ble_eq_true rfl)
  rw [lg_entry_eq]
  generalize (lg_sl ([.ref (ad 0), .int v1, .int v2]) ++ List.replicate (4 - (lg_sl ([.ref (ad 0), .int v1, .int v2])).length) Slot.unset).toArray = ls at hl ⊢
  generalize ([.ref (ad 0), .int v1, .int v2] : List Value).toArray = args at hts ⊢
  have key : ∀ (n b : Nat) (v1 v2 v3 : Int32) (σ : Sg), q_Choice_begin_j Q n b v1 v2 v3 σ → ∀ (H : Heap) (locs : List Loc) (ls : Array Slot), va_P D classes (W_Choice ad cI cZ σ) H → va_S (inA ad 4) s.heap H locs → lv_has ls 4 (lc_Choice_begin ad b v1 v2 v3) → W p l e (headSpec (.code y_Choice_begin prog_2_method_2_code 4 none :: TG) { frames := 0, cells := 0, slots := 0, locals := 0 }).room s m args below meth c H locs 0 0 (MQ below (va_Qv Q (fun u t => va_P D classes (W_Choice ad cI cZ u) t.heap) (inA ad 4)) args s 0 0 (inA ad 4)) (F0 m (pc_Choice_begin b) ls []) := by
    clear h hl hP hS
    intro n
    induction n with
    | zero => intro b _ _ _ _ h; exact False.elim h
    | succ n ih =>
      intro b v1 v2 v3 σ h H locs ls hP hS hl
      match b, h, hl with
      | 0, h, hl =>
        have h : q_Choice_begin_b0 (q_Choice_begin_j Q n) Q v1 v2 v3 σ := h
        have hl : lv_has ls 4 [(0, .ref (ad 0)), (1, .int v1), (2, .int v2)] := hl
        refine W.eq (g2 := F0 m 0 ls []) rfl ?_
        unfold q_Choice_begin_b0 at h
        refine lv_aload_n hx hb d_Choice_begin_0 rfl (lv_at hl 0 rfl) ?_
        refine lv_iload_n hx hb d_Choice_begin_1 rfl (lv_at hl 1 rfl) ?_
        refine va_put (D := D) (ci := 0) (v := .int v1) (ty := .int) (C := "CarrierPaths$Choice") (T := F_Choice) (N := 6) hx hb hts in_Choice ty_Choice ty_Choice_ok nm_Choice hown hK hP (D_Choice inj) hS 0 rfl rfl 3 (by decide) (hts _ kw156) (fun _ h9 => h9) rfl (by decide +kernel) rfl rfl (Nat.le_of_ble_eq_true rfl) d_Choice_begin_2 (fun H locs hP _ hS => ?_)
        have hP := up_Choice_f3 hP
        refine lv_aload_n hx hb d_Choice_begin_5 rfl (lv_at hl 0 rfl) ?_
        refine lv_iload_n hx hb d_Choice_begin_6 rfl (lv_at hl 2 rfl) ?_
        refine va_put (D := D) (ci := 0) (v := .int v2) (ty := .int) (C := "CarrierPaths$Choice") (T := F_Choice) (N := 6) hx hb hts in_Choice ty_Choice ty_Choice_ok nm_Choice hown hK hP (D_Choice inj) hS 0 rfl rfl 4 (by decide) (hts _ kw157) (fun _ h9 => h9) rfl (by decide +kernel) rfl rfl (Nat.le_of_ble_eq_true rfl) d_Choice_begin_7 (fun H locs hP _ hS => ?_)
        have hP := up_Choice_f4 hP
        refine lv_aload_n hx hb d_Choice_begin_10 rfl (lv_at hl 0 rfl) ?_
        refine lv_iconst (v := 0) hx hb d_Choice_begin_11 (by decide) ?_
        refine va_put (D := D) (ci := 0) (v := .int 0) (ty := .int) (C := "CarrierPaths$Choice") (T := F_Choice) (N := 6) hx hb hts in_Choice ty_Choice ty_Choice_ok nm_Choice hown hK hP (D_Choice inj) hS 0 rfl rfl 5 (by decide) (hts _ kw158) (fun _ h9 => h9) rfl (by decide +kernel) rfl rfl (Nat.le_of_ble_eq_true rfl) d_Choice_begin_12 (fun H locs hP _ hS => ?_)
        have hP := up_Choice_f5 hP
        refine lv_iconst (v := 0) hx hb d_Choice_begin_15 (by decide) ?_
        refine lv_istore_n (lv' := [(3, .int 0), (0, .ref (ad 0)), (1, .int v1), (2, .int v2)]) hx hb d_Choice_begin_16 rfl hl (by decide) rfl (fun ls hl => ?_)
        exact ih 1 v1 v2 0 (sto (sto (sto σ 0 3 v1) 0 4 v2) 0 5 0) h _ _ _ hP hS (lv_sub hl [1, 2, 3, 0] rfl)
      | 1, h, hl =>
        have h : q_Choice_begin_b1 (q_Choice_begin_j Q n) Q v1 v2 v3 σ := h
        have hl : lv_has ls 4 [(0, .ref (ad 0)), (1, .int v1), (2, .int v2), (3, .int v3)] := hl
        refine W.eq (g2 := F0 m 17 ls []) rfl ?_
        unfold q_Choice_begin_b1 at h
        refine lv_iload_n hx hb d_Choice_begin_17 rfl (lv_at hl 3 rfl) ?_
        refine lv_aload_n hx hb d_Choice_begin_18 rfl (lv_at hl 0 rfl) ?_
        refine va_get (D := D) (ci := 0) (v := .ref (ad 1)) (C := "CarrierPaths$Choice") (T := F_Choice) (N := 6) hx hb hts in_Choice hown hK hP 0 rfl rfl 0 (by decide) (hts _ kw153) (fun _ h9 => h9) rfl d_Choice_begin_19 ?_
        refine va_alen hx hb hK hP 1 0 rfl rfl (v := 72) rfl d_Choice_begin_22 ?_
        refine lv_icmp_ge (tgt := 39) hx hb d_Choice_begin_23 (by decide) (fun hc => ?_) (fun hc => ?_)
        · have h := h.1 hc
          exact W.vret hx hb hr (fun t ht hW => ⟨⟨σ, rfl, h, hp_back ht hP⟩, hS.F ht⟩) hS.2.2 d_Choice_begin_39
        · have h := h.2 hc
          refine lv_aload_n hx hb d_Choice_begin_26 rfl (lv_at hl 0 rfl) ?_
          refine va_get (D := D) (ci := 0) (v := .ref (ad 1)) (C := "CarrierPaths$Choice") (T := F_Choice) (N := 6) hx hb hts in_Choice hown hK hP 0 rfl rfl 0 (by decide) (hts _ kw153) (fun _ h9 => h9) rfl d_Choice_begin_27 ?_
          refine lv_iload_n hx hb d_Choice_begin_30 rfl (lv_at hl 3 rfl) ?_
          refine lv_iconst (v := 0) hx hb d_Choice_begin_31 (by decide) ?_
          obtain ⟨hi, h⟩ := h
          refine va_iast hx hb hK hP (D_Choice inj) hS 1 0 rfl rfl hi d_Choice_begin_32 (fun H locs hP _ hS => ?_)
          have hP := up_Choice_1 hP
          refine lv_iinc (v := (v3 + 1)) (lv' := [(3, .int (v3 + 1)), (0, .ref (ad 0)), (1, .int v1), (2, .int v2)]) hx hb d_Choice_begin_33 hl (k := 3) rfl rfl (by decide) rfl (fun ls hl => ?_)
          refine lv_goto (tgt := 17) hx hb d_Choice_begin_36 (by decide) ?_
          exact ih 1 v1 v2 (v3 + 1) (sto σ 1 v3.toNatClampNeg 0) h _ _ _ hP hS (lv_sub hl [1, 2, 3, 0] rfl)
      | _ + 2, h, _ => exact False.elim h
  exact key 4000 0 v1 v2 0 σ h s.heap [] ls hP hS hl
def q_Choice_offer (v1 v2 v3 : Int32) (σ : Sg) (Q : (Sg → Prop)) : Prop :=
  (vp_in ((v1 * 6) + v2) 72 ∧ Q (sto (sto σ 1 ((v1 * 6) + v2).toNatClampNeg ((6000 : Int32) - v3)) 0 5 (((sto σ 1 ((v1 * 6) + v2).toNatClampNeg ((6000 : Int32) - v3)) 0 5) ||| ((1 : Int32) <<< (v2 &&& 31)))))
set_option maxHeartbeats 4000000 in
set_option maxRecDepth 100000 in
theorem t_Choice_offer (l : Launch) (D : va_G) (cI cZ : ClassId) (ad : Nat → Nat) (inj : Inj ad 4) (v1 v2 v3 : Int32) (σ : Sg) (Q : (Sg → Prop)) (h : q_Choice_offer v1 v2 v3 σ Q) : Met l y_Choice_offer (.code y_Choice_offer prog_2_method_3_code 4 none :: TG) { frames := 0, cells := 0, slots := 0, locals := 0 } (va_Pc [.ref (ad 0), .int v1, .int v2, .int v3] (roB D (tysA cI cZ) (W_Choice ad cI cZ σ))) (va_Qv Q (fun u t => va_P D classes (W_Choice ad cI cZ u) t.heap) (inA ad 4)) 0 0 (inA ad 4) := by
  refine Met.ofW (cc := prog_2_method_3_code) (maxL := 4) (ret := none) (by decide) rfl ?_
  intro p e s m args below meth c s₁ B hml hv
  obtain ⟨rfl, hP, hK⟩ := hv
  have hx := B.exec
  have hb := B.bytes
  have hr := B.returns
  have hts : ∀ w ∈ TG, w.before [.ref (ad 0), .int v1, .int v2, .int v3].toArray s = true := fun w hw => atoms_spec (ws := .code y_Choice_offer prog_2_method_3_code 4 none :: TG) B.pre w (List.mem_cons_of_mem _ hw)
  have hown : s.vm.findClass "CarrierPaths$Choice" = some m.cls := findClass_of_methodNamed B.named
  have hlocks := B.notSynchronized
  have hS : va_S (inA ad 4) s.heap s.heap [] := va_S.rf
  have hl := lv_entry ([.ref (ad 0), .int v1, .int v2, .int v3]) (n := 4) (Nat.le_of_ble_eq_true rfl)
  rw [lg_entry_eq]
  generalize (lg_sl ([.ref (ad 0), .int v1, .int v2, .int v3]) ++ List.replicate (4 - (lg_sl ([.ref (ad 0), .int v1, .int v2, .int v3])).length) Slot.unset).toArray = ls at hl ⊢
  have hl : lv_has ls 4 [(0, .ref (ad 0)), (1, .int v1), (2, .int v2), (3, .int v3)] := hl
  unfold q_Choice_offer at h
  refine lv_aload_n hx hb d_Choice_offer_0 rfl (lv_at hl 0 rfl) ?_
  refine va_get (D := D) (ci := 0) (v := .ref (ad 1)) (C := "CarrierPaths$Choice") (T := F_Choice) (N := 6) hx hb hts in_Choice hown hK hP 0 rfl rfl 0 (by decide) (hts _ kw153) (fun _ h9 => h9) rfl d_Choice_offer_1 ?_
  refine lv_iload_n hx hb d_Choice_offer_4 rfl (lv_at hl 1 rfl) ?_
  refine lv_bipush (v := 6) hx hb d_Choice_offer_5 (by decide) ?_
  refine lv_imul hx hb d_Choice_offer_7 ?_
  refine lv_iload_n hx hb d_Choice_offer_8 rfl (lv_at hl 2 rfl) ?_
  refine lv_iadd hx hb d_Choice_offer_9 ?_
  refine lv_sipush (v := 6000) hx hb d_Choice_offer_10 (by decide) ?_
  refine lv_iload_n hx hb d_Choice_offer_13 rfl (lv_at hl 3 rfl) ?_
  refine lv_isub hx hb d_Choice_offer_14 ?_
  obtain ⟨hi, h⟩ := h
  refine va_iast hx hb hK hP (D_Choice inj) hS 1 0 rfl rfl hi d_Choice_offer_15 (fun H locs hP _ hS => ?_)
  have hP := up_Choice_1 hP
  refine lv_aload_n hx hb d_Choice_offer_16 rfl (lv_at hl 0 rfl) ?_
  refine lv_dup hx hb d_Choice_offer_17 rfl ?_
  refine va_get (D := D) (ci := 0) (v := .int ((sto σ 1 ((v1 * 6) + v2).toNatClampNeg ((6000 : Int32) - v3)) 0 5)) (C := "CarrierPaths$Choice") (T := F_Choice) (N := 6) hx hb hts in_Choice hown hK hP 0 rfl rfl 5 (by decide) (hts _ kw158) (fun _ h9 => h9) rfl d_Choice_offer_18 ?_
  refine lv_iconst (v := 1) hx hb d_Choice_offer_21 (by decide) ?_
  refine lv_iload_n hx hb d_Choice_offer_22 rfl (lv_at hl 2 rfl) ?_
  refine lv_ishl hx hb d_Choice_offer_23 ?_
  refine lv_ior hx hb d_Choice_offer_24 ?_
  refine va_put (D := D) (ci := 0) (v := .int (((sto σ 1 ((v1 * 6) + v2).toNatClampNeg ((6000 : Int32) - v3)) 0 5) ||| ((1 : Int32) <<< (v2 &&& 31)))) (ty := .int) (C := "CarrierPaths$Choice") (T := F_Choice) (N := 6) hx hb hts in_Choice ty_Choice ty_Choice_ok nm_Choice hown hK hP (D_Choice inj) hS 0 rfl rfl 5 (by decide) (hts _ kw158) (fun _ h9 => h9) rfl (by decide +kernel) rfl rfl (Nat.le_of_ble_eq_true rfl) d_Choice_offer_25 (fun H locs hP _ hS => ?_)
  have hP := up_Choice_f5 hP
  exact W.vret hx hb hr (fun t ht hW => ⟨⟨(sto (sto σ 1 ((v1 * 6) + v2).toNatClampNeg ((6000 : Int32) - v3)) 0 5 (((sto σ 1 ((v1 * 6) + v2).toNatClampNeg ((6000 : Int32) - v3)) 0 5) ||| ((1 : Int32) <<< (v2 &&& 31)))), rfl, h, hp_back ht hP⟩, hS.F ht⟩) hS.2.2 d_Choice_offer_28
def q_Choice_carrierFor (v1 : Int32) (σ : Sg) (Q : (Int32 → Prop)) : Prop :=
  (vp_in v1 12 ∧ Q (σ 3 v1.toNatClampNeg))
set_option maxHeartbeats 4000000 in
set_option maxRecDepth 100000 in
theorem t_Choice_carrierFor (l : Launch) (D : va_G) (cI cZ : ClassId) (ad : Nat → Nat) (v1 : Int32) (σ : Sg) (Q : (Int32 → Prop)) (h : q_Choice_carrierFor v1 σ Q) : Met l y_Choice_carrierFor (.code y_Choice_carrierFor prog_2_method_5_code 2 (some .int) :: TG) { frames := 0, cells := 0, slots := 0, locals := 0 } (va_Pc [.ref (ad 0), .int v1] (roB D (tysA cI cZ) (W_Choice ad cI cZ σ))) (vp_Si Q) 0 0 (fun _ => False) := by
  refine Met.ofW (cc := prog_2_method_5_code) (maxL := 2) (ret := (some .int)) (by decide) rfl ?_
  intro p e s m args below meth c s₁ B hml hv
  obtain ⟨rfl, hP, hK⟩ := hv
  have hx := B.exec
  have hb := B.bytes
  have hr := B.returns
  have hts : ∀ w ∈ TG, w.before [.ref (ad 0), .int v1].toArray s = true := fun w hw => atoms_spec (ws := .code y_Choice_carrierFor prog_2_method_5_code 2 (some .int) :: TG) B.pre w (List.mem_cons_of_mem _ hw)
  have hown : s.vm.findClass "CarrierPaths$Choice" = some m.cls := findClass_of_methodNamed B.named
  have hlocks := B.notSynchronized
  have hl := lv_entry ([.ref (ad 0), .int v1]) (n := 2) (Nat.le_of_ble_eq_true rfl)
  rw [lg_entry_eq]
  generalize (lg_sl ([.ref (ad 0), .int v1]) ++ List.replicate (2 - (lg_sl ([.ref (ad 0), .int v1])).length) Slot.unset).toArray = ls at hl ⊢
  have hl : lv_has ls 2 [(0, .ref (ad 0)), (1, .int v1)] := hl
  unfold q_Choice_carrierFor at h
  refine lv_aload_n hx hb d_Choice_carrierFor_0 rfl (lv_at hl 0 rfl) ?_
  refine va_get (D := D) (ci := 0) (v := .ref (ad 3)) (C := "CarrierPaths$Choice") (T := F_Choice) (N := 6) hx hb hts in_Choice hown hK hP 0 rfl rfl 2 (by decide) (hts _ kw155) (fun _ h9 => h9) rfl d_Choice_carrierFor_1 ?_
  refine lv_iload_n hx hb d_Choice_carrierFor_4 rfl (lv_at hl 1 rfl) ?_
  obtain ⟨hi, h⟩ := h
  refine va_iald hx hb hK hP 3 0 rfl rfl hi d_Choice_carrierFor_5 ?_
  exact W.iret (v := (σ 3 v1.toNatClampNeg)) hx hb hr (fun t ht hW => ⟨(σ 3 v1.toNatClampNeg), rfl, h, ht⟩) (fun q hq => by cases hq) d_Choice_carrierFor_6
def q_Choice_worthOf (v1 v2 : Int32) (σ : Sg) (Q : (Int32 → Prop)) : Prop :=
  (vp_in ((v1 * 6) + v2) 72 ∧ Q (σ 1 ((v1 * 6) + v2).toNatClampNeg))
set_option maxHeartbeats 4000000 in
set_option maxRecDepth 100000 in
theorem t_Choice_worthOf (l : Launch) (D : va_G) (cI cZ : ClassId) (ad : Nat → Nat) (v1 v2 : Int32) (σ : Sg) (Q : (Int32 → Prop)) (h : q_Choice_worthOf v1 v2 σ Q) : Met l y_Choice_worthOf (.code y_Choice_worthOf prog_2_method_11_code 3 (some .int) :: TG) { frames := 0, cells := 0, slots := 0, locals := 0 } (va_Pc [.ref (ad 0), .int v1, .int v2] (roB D (tysA cI cZ) (W_Choice ad cI cZ σ))) (vp_Si Q) 0 0 (fun _ => False) := by
  refine Met.ofW (cc := prog_2_method_11_code) (maxL := 3) (ret := (some .int)) (by decide) rfl ?_
  intro p e s m args below meth c s₁ B hml hv
  obtain ⟨rfl, hP, hK⟩ := hv
  have hx := B.exec
  have hb := B.bytes
  have hr := B.returns
  have hts : ∀ w ∈ TG, w.before [.ref (ad 0), .int v1, .int v2].toArray s = true := fun w hw => atoms_spec (ws := .code y_Choice_worthOf prog_2_method_11_code 3 (some .int) :: TG) B.pre w (List.mem_cons_of_mem _ hw)
  have hown : s.vm.findClass "CarrierPaths$Choice" = some m.cls := findClass_of_methodNamed B.named
  have hlocks := B.notSynchronized
  have hl := lv_entry ([.ref (ad 0), .int v1, .int v2]) (n := 3) (Nat.le_of_ble_eq_true rfl)
  rw [lg_entry_eq]
  generalize (lg_sl ([.ref (ad 0), .int v1, .int v2]) ++ List.replicate (3 - (lg_sl ([.ref (ad 0), .int v1, .int v2])).length) Slot.unset).toArray = ls at hl ⊢
  have hl : lv_has ls 3 [(0, .ref (ad 0)), (1, .int v1), (2, .int v2)] := hl
  unfold q_Choice_worthOf at h
  refine lv_aload_n hx hb d_Choice_worthOf_0 rfl (lv_at hl 0 rfl) ?_
  refine va_get (D := D) (ci := 0) (v := .ref (ad 1)) (C := "CarrierPaths$Choice") (T := F_Choice) (N := 6) hx hb hts in_Choice hown hK hP 0 rfl rfl 0 (by decide) (hts _ kw153) (fun _ h9 => h9) rfl d_Choice_worthOf_1 ?_
  refine lv_iload_n hx hb d_Choice_worthOf_4 rfl (lv_at hl 1 rfl) ?_
  refine lv_bipush (v := 6) hx hb d_Choice_worthOf_5 (by decide) ?_
  refine lv_imul hx hb d_Choice_worthOf_7 ?_
  refine lv_iload_n hx hb d_Choice_worthOf_8 rfl (lv_at hl 2 rfl) ?_
  refine lv_iadd hx hb d_Choice_worthOf_9 ?_
  obtain ⟨hi, h⟩ := h
  refine va_iald hx hb hK hP 1 0 rfl rfl hi d_Choice_worthOf_10 ?_
  exact W.iret (v := (σ 1 ((v1 * 6) + v2).toNatClampNeg)) hx hb hr (fun t ht hW => ⟨(σ 1 ((v1 * 6) + v2).toNatClampNeg), rfl, h, ht⟩) (fun q hq => by cases hq) d_Choice_worthOf_11
def q_Choice_canTake (v1 v2 v3 : Int32) (σ : Sg) (Q : (Int32 → Prop)) : Prop :=
  (q_Choice_worthOf v1 v2 σ (fun r1 => ((r1 ≤ 0 → Q 0) ∧ (¬ r1 ≤ 0 → (((v3 &&& ((1 : Int32) <<< (v2 &&& 31))) = 0 → Q 1) ∧ (¬ (v3 &&& ((1 : Int32) <<< (v2 &&& 31))) = 0 → Q 0))))))
set_option maxHeartbeats 4000000 in
set_option maxRecDepth 100000 in
theorem t_Choice_canTake (l : Launch) (D : va_G) (cI cZ : ClassId) (ad : Nat → Nat) (v1 v2 v3 : Int32) (σ : Sg) (Q : (Int32 → Prop)) (h : q_Choice_canTake v1 v2 v3 σ Q) : Met l y_Choice_canTake (.code y_Choice_canTake prog_2_method_9_code 4 (some .boolean) :: TG) { frames := 1, cells := 0, slots := 0, locals := 22 } (va_Pc [.ref (ad 0), .int v1, .int v2, .int v3] (roB D (tysA cI cZ) (W_Choice ad cI cZ σ))) (vp_Si Q) 0 0 (fun _ => False) := by
  refine Met.ofW (cc := prog_2_method_9_code) (maxL := 4) (ret := (some .boolean)) (by decide) rfl ?_
  intro p e s m args below meth c s₁ B hml hv
  obtain ⟨rfl, hP, hK⟩ := hv
  have hx := B.exec
  have hb := B.bytes
  have hr := B.returns
  have hts : ∀ w ∈ TG, w.before [.ref (ad 0), .int v1, .int v2, .int v3].toArray s = true := fun w hw => atoms_spec (ws := .code y_Choice_canTake prog_2_method_9_code 4 (some .boolean) :: TG) B.pre w (List.mem_cons_of_mem _ hw)
  have hown : s.vm.findClass "CarrierPaths$Choice" = some m.cls := findClass_of_methodNamed B.named
  have hlocks := B.notSynchronized
  have hl := lv_entry ([.ref (ad 0), .int v1, .int v2, .int v3]) (n := 4) (Nat.le_of_ble_eq_true rfl)
  rw [lg_entry_eq]
  generalize (lg_sl ([.ref (ad 0), .int v1, .int v2, .int v3]) ++ List.replicate (4 - (lg_sl ([.ref (ad 0), .int v1, .int v2, .int v3])).length) Slot.unset).toArray = ls at hl ⊢
  have hl : lv_has ls 4 [(0, .ref (ad 0)), (1, .int v1), (2, .int v2), (3, .int v3)] := hl
  unfold q_Choice_canTake at h
  refine lv_aload_n hx hb d_Choice_canTake_0 rfl (lv_at hl 0 rfl) ?_
  refine lv_iload_n hx hb d_Choice_canTake_1 rfl (lv_at hl 1 rfl) ?_
  refine lv_iload_n hx hb d_Choice_canTake_2 rfl (lv_at hl 2 rfl) ?_
  refine vp_callSi (W.runV (As := [.int v1, .int v2]) (rest := []) ⟨hx, hb, hml, hown, hts⟩ (t_Choice_worthOf l D cI cZ ad v1 v2 σ _ h) (cwV 2 hts (g_of kw295 kw297 kp7 kw8 kw298) rfl rfl rfl (by decide +kernel) ⟨Nat.le_of_ble_eq_true rfl, Nat.le_of_ble_eq_true rfl⟩) (ro_pre hK hP (va_recv hK hP (ci := 0) (q0 := 0) rfl rfl)) rfl rfl hl.1 rfl (lv_room (Nat.le_of_ble_eq_true rfl)) d_Choice_canTake_3 ⟨Nat.le_of_ble_eq_true rfl, Nat.le_of_ble_eq_true rfl⟩) (fun r1 h => ?_)
  refine lv_if_le (tgt := 21) hx hb d_Choice_canTake_6 (by decide) (fun hc => ?_) (fun hc => ?_)
  · have h := h.1 hc
    refine lv_iconst (v := 0) hx hb d_Choice_canTake_21 (by decide) ?_
    exact W.zret (v := 0) hx hb hr (by decide) (fun t ht hW => ⟨0, rfl, h, ht⟩) (fun q hq => by cases hq) d_Choice_canTake_22
  · have h := h.2 hc
    refine lv_iload_n hx hb d_Choice_canTake_9 rfl (lv_at hl 3 rfl) ?_
    refine lv_iconst (v := 1) hx hb d_Choice_canTake_10 (by decide) ?_
    refine lv_iload_n hx hb d_Choice_canTake_11 rfl (lv_at hl 2 rfl) ?_
    refine lv_ishl hx hb d_Choice_canTake_12 ?_
    refine lv_iand hx hb d_Choice_canTake_13 ?_
    refine lv_if_ne (tgt := 21) hx hb d_Choice_canTake_14 (by decide) (fun hc => ?_) (fun hc => ?_)
    · have h := h.2 hc
      refine lv_iconst (v := 0) hx hb d_Choice_canTake_21 (by decide) ?_
      exact W.zret (v := 0) hx hb hr (by decide) (fun t ht hW => ⟨0, rfl, h, ht⟩) (fun q hq => by cases hq) d_Choice_canTake_22
    · have h := h.1 hc
      refine lv_iconst (v := 1) hx hb d_Choice_canTake_17 (by decide) ?_
      refine lv_goto (tgt := 22) hx hb d_Choice_canTake_18 (by decide) ?_
      exact W.zret (v := 1) hx hb hr (by decide) (fun t ht hW => ⟨1, rfl, h, ht⟩) (fun q hq => by cases hq) d_Choice_canTake_22
def q_Choice_bestFrom (v1 v2 : Int32) (σ : Sg) (Q : (Int32 → Prop)) : Prop :=
  (vp_in ((v1 <<< (6 &&& 31)) + v2) 832 ∧ Q (σ 2 ((v1 <<< (6 &&& 31)) + v2).toNatClampNeg))
set_option maxHeartbeats 4000000 in
set_option maxRecDepth 100000 in
theorem t_Choice_bestFrom (l : Launch) (D : va_G) (cI cZ : ClassId) (ad : Nat → Nat) (v1 v2 : Int32) (σ : Sg) (Q : (Int32 → Prop)) (h : q_Choice_bestFrom v1 v2 σ Q) : Met l y_Choice_bestFrom (.code y_Choice_bestFrom prog_2_method_12_code 3 (some .int) :: TG) { frames := 0, cells := 0, slots := 0, locals := 0 } (va_Pc [.ref (ad 0), .int v1, .int v2] (roB D (tysA cI cZ) (W_Choice ad cI cZ σ))) (vp_Si Q) 0 0 (fun _ => False) := by
  refine Met.ofW (cc := prog_2_method_12_code) (maxL := 3) (ret := (some .int)) (by decide) rfl ?_
  intro p e s m args below meth c s₁ B hml hv
  obtain ⟨rfl, hP, hK⟩ := hv
  have hx := B.exec
  have hb := B.bytes
  have hr := B.returns
  have hts : ∀ w ∈ TG, w.before [.ref (ad 0), .int v1, .int v2].toArray s = true := fun w hw => atoms_spec (ws := .code y_Choice_bestFrom prog_2_method_12_code 3 (some .int) :: TG) B.pre w (List.mem_cons_of_mem _ hw)
  have hown : s.vm.findClass "CarrierPaths$Choice" = some m.cls := findClass_of_methodNamed B.named
  have hlocks := B.notSynchronized
  have hl := lv_entry ([.ref (ad 0), .int v1, .int v2]) (n := 3) (Nat.le_of_ble_eq_true rfl)
  rw [lg_entry_eq]
  generalize (lg_sl ([.ref (ad 0), .int v1, .int v2]) ++ List.replicate (3 - (lg_sl ([.ref (ad 0), .int v1, .int v2])).length) Slot.unset).toArray = ls at hl ⊢
  have hl : lv_has ls 3 [(0, .ref (ad 0)), (1, .int v1), (2, .int v2)] := hl
  unfold q_Choice_bestFrom at h
  refine lv_aload_n hx hb d_Choice_bestFrom_0 rfl (lv_at hl 0 rfl) ?_
  refine va_get (D := D) (ci := 0) (v := .ref (ad 2)) (C := "CarrierPaths$Choice") (T := F_Choice) (N := 6) hx hb hts in_Choice hown hK hP 0 rfl rfl 1 (by decide) (hts _ kw154) (fun _ h9 => h9) rfl d_Choice_bestFrom_1 ?_
  refine lv_iload_n hx hb d_Choice_bestFrom_4 rfl (lv_at hl 1 rfl) ?_
  refine lv_bipush (v := 6) hx hb d_Choice_bestFrom_5 (by decide) ?_
  refine lv_ishl hx hb d_Choice_bestFrom_7 ?_
  refine lv_iload_n hx hb d_Choice_bestFrom_8 rfl (lv_at hl 2 rfl) ?_
  refine lv_iadd hx hb d_Choice_bestFrom_9 ?_
  obtain ⟨hi, h⟩ := h
  refine va_iald hx hb hK hP 2 0 rfl rfl hi d_Choice_bestFrom_10 ?_
  exact W.iret (v := (σ 2 ((v1 <<< (6 &&& 31)) + v2).toNatClampNeg)) hx hb hr (fun t ht hW => ⟨(σ 2 ((v1 <<< (6 &&& 31)) + v2).toNatClampNeg), rfl, h, ht⟩) (fun q hq => by cases hq) d_Choice_bestFrom_11
def q_Choice_worthWith (v1 v2 v3 : Int32) (σ : Sg) (Q : (Int32 → Prop)) : Prop :=
  (q_Choice_worthOf v1 v2 σ (fun r1 => (q_Choice_bestFrom (v1 + 1) (v3 ||| ((1 : Int32) <<< (v2 &&& 31))) σ (fun r2 => Q (r1 + r2)))))
set_option maxHeartbeats 4000000 in
set_option maxRecDepth 100000 in
theorem t_Choice_worthWith (l : Launch) (D : va_G) (cI cZ : ClassId) (ad : Nat → Nat) (v1 v2 v3 : Int32) (σ : Sg) (Q : (Int32 → Prop)) (h : q_Choice_worthWith v1 v2 v3 σ Q) : Met l y_Choice_worthWith (.code y_Choice_worthWith prog_2_method_10_code 4 (some .int) :: TG) { frames := 1, cells := 0, slots := 0, locals := 22 } (va_Pc [.ref (ad 0), .int v1, .int v2, .int v3] (roB D (tysA cI cZ) (W_Choice ad cI cZ σ))) (vp_Si Q) 0 0 (fun _ => False) := by
  refine Met.ofW (cc := prog_2_method_10_code) (maxL := 4) (ret := (some .int)) (by decide) rfl ?_
  intro p e s m args below meth c s₁ B hml hv
  obtain ⟨rfl, hP, hK⟩ := hv
  have hx := B.exec
  have hb := B.bytes
  have hr := B.returns
  have hts : ∀ w ∈ TG, w.before [.ref (ad 0), .int v1, .int v2, .int v3].toArray s = true := fun w hw => atoms_spec (ws := .code y_Choice_worthWith prog_2_method_10_code 4 (some .int) :: TG) B.pre w (List.mem_cons_of_mem _ hw)
  have hown : s.vm.findClass "CarrierPaths$Choice" = some m.cls := findClass_of_methodNamed B.named
  have hlocks := B.notSynchronized
  have hl := lv_entry ([.ref (ad 0), .int v1, .int v2, .int v3]) (n := 4) (Nat.le_of_ble_eq_true rfl)
  rw [lg_entry_eq]
  generalize (lg_sl ([.ref (ad 0), .int v1, .int v2, .int v3]) ++ List.replicate (4 - (lg_sl ([.ref (ad 0), .int v1, .int v2, .int v3])).length) Slot.unset).toArray = ls at hl ⊢
  have hl : lv_has ls 4 [(0, .ref (ad 0)), (1, .int v1), (2, .int v2), (3, .int v3)] := hl
  unfold q_Choice_worthWith at h
  refine lv_aload_n hx hb d_Choice_worthWith_0 rfl (lv_at hl 0 rfl) ?_
  refine lv_iload_n hx hb d_Choice_worthWith_1 rfl (lv_at hl 1 rfl) ?_
  refine lv_iload_n hx hb d_Choice_worthWith_2 rfl (lv_at hl 2 rfl) ?_
  refine vp_callSi (W.runV (As := [.int v1, .int v2]) (rest := []) ⟨hx, hb, hml, hown, hts⟩ (t_Choice_worthOf l D cI cZ ad v1 v2 σ _ h) (cwV 2 hts (g_of kw295 kw297 kp7 kw8 kw298) rfl rfl rfl (by decide +kernel) ⟨Nat.le_of_ble_eq_true rfl, Nat.le_of_ble_eq_true rfl⟩) (ro_pre hK hP (va_recv hK hP (ci := 0) (q0 := 0) rfl rfl)) rfl rfl hl.1 rfl (lv_room (Nat.le_of_ble_eq_true rfl)) d_Choice_worthWith_3 ⟨Nat.le_of_ble_eq_true rfl, Nat.le_of_ble_eq_true rfl⟩) (fun r1 h => ?_)
  refine lv_aload_n hx hb d_Choice_worthWith_6 rfl (lv_at hl 0 rfl) ?_
  refine lv_iload_n hx hb d_Choice_worthWith_7 rfl (lv_at hl 1 rfl) ?_
  refine lv_iconst (v := 1) hx hb d_Choice_worthWith_8 (by decide) ?_
  refine lv_iadd hx hb d_Choice_worthWith_9 ?_
  refine lv_iload_n hx hb d_Choice_worthWith_10 rfl (lv_at hl 3 rfl) ?_
  refine lv_iconst (v := 1) hx hb d_Choice_worthWith_11 (by decide) ?_
  refine lv_iload_n hx hb d_Choice_worthWith_12 rfl (lv_at hl 2 rfl) ?_
  refine lv_ishl hx hb d_Choice_worthWith_13 ?_
  refine lv_ior hx hb d_Choice_worthWith_14 ?_
  refine vp_callSi (W.runV (As := [.int (v1 + 1), .int (v3 ||| ((1 : Int32) <<< (v2 &&& 31)))]) (rest := [.int r1]) ⟨hx, hb, hml, hown, hts⟩ (t_Choice_bestFrom l D cI cZ ad (v1 + 1) (v3 ||| ((1 : Int32) <<< (v2 &&& 31))) σ _ h) (cwV 2 hts (g_of kw287 kw289 kp5 kw8 kw290) rfl rfl rfl (by decide +kernel) ⟨Nat.le_of_ble_eq_true rfl, Nat.le_of_ble_eq_true rfl⟩) (ro_pre hK hP (va_recv hK hP (ci := 0) (q0 := 0) rfl rfl)) rfl rfl hl.1 rfl (lv_room (Nat.le_of_ble_eq_true rfl)) d_Choice_worthWith_15 ⟨Nat.le_of_ble_eq_true rfl, Nat.le_of_ble_eq_true rfl⟩) (fun r2 h => ?_)
  refine lv_iadd hx hb d_Choice_worthWith_18 ?_
  exact W.iret (v := (r1 + r2)) hx hb hr (fun t ht hW => ⟨(r1 + r2), rfl, h, ht⟩) (fun q hq => by cases hq) d_Choice_worthWith_19
def q_Choice_mostWorth_b0 (J : Nat → Int32 → Int32 → Int32 → Int32 → Prop) (Q : (Int32 → Prop)) (v1 v2 v3 v4 : Int32) (σ : Sg) : Prop :=
  (q_Choice_bestFrom (v1 + 1) v2 σ (fun r1 => J 1 v1 v2 r1 0))
def q_Choice_mostWorth_b1 (J : Nat → Int32 → Int32 → Int32 → Int32 → Prop) (Q : (Int32 → Prop)) (v1 v2 v3 v4 : Int32) (σ : Sg) : Prop :=
  (((σ 0 4) ≤ v4 → Q v3) ∧ (¬ (σ 0 4) ≤ v4 → (q_Choice_canTake v1 v4 v2 σ (fun r2 => ((r2 = 0 → J 1 v1 v2 v3 (v4 + 1)) ∧ (¬ r2 = 0 → (q_Choice_worthWith v1 v4 v2 σ (fun r3 => J 1 v1 v2 (if v3 < r3 then r3 else v3) (v4 + 1)))))))))
def q_Choice_mostWorth_j (Q : (Int32 → Prop)) (σ : Sg) : Nat → Nat → Int32 → Int32 → Int32 → Int32 → Prop
  | 0, _, _, _, _, _ => False
  | n + 1, 0, v1, v2, v3, v4 => q_Choice_mostWorth_b0 (q_Choice_mostWorth_j Q σ n) Q v1 v2 v3 v4 σ
  | n + 1, 1, v1, v2, v3, v4 => q_Choice_mostWorth_b1 (q_Choice_mostWorth_j Q σ n) Q v1 v2 v3 v4 σ
  | _ + 1, _ + 2, _, _, _, _ => False
def q_Choice_mostWorth (v1 v2 : Int32) (σ : Sg) (Q : (Int32 → Prop)) : Prop := q_Choice_mostWorth_j Q σ 4000 0 v1 v2 0 0
def lc_Choice_mostWorth (ad : Nat → Nat) (b : Nat) (v1 v2 v3 v4 : Int32) : List (Nat × Value) := match b with
  | 0 => [(0, .ref (ad 0)), (1, .int v1), (2, .int v2)]
  | 1 => [(0, .ref (ad 0)), (1, .int v1), (2, .int v2), (3, .int v3), (4, .int v4)]
  | _ => []
def pc_Choice_mostWorth (b : Nat) : Nat := match b with
  | 0 => 0
  | 1 => 12
  | _ => 0
set_option maxHeartbeats 4000000 in
set_option maxRecDepth 100000 in
theorem t_Choice_mostWorth (l : Launch) (D : va_G) (cI cZ : ClassId) (ad : Nat → Nat) (v1 v2 : Int32) (σ : Sg) (Q : (Int32 → Prop)) (h : q_Choice_mostWorth v1 v2 σ Q) : Met l y_Choice_mostWorth (.code y_Choice_mostWorth prog_2_method_7_code 5 (some .int) :: TG) { frames := 2, cells := 0, slots := 0, locals := 45 } (va_Pc [.ref (ad 0), .int v1, .int v2] (roB D (tysA cI cZ) (W_Choice ad cI cZ σ))) (vp_Si Q) 0 0 (fun _ => False) := by
  refine Met.ofW (cc := prog_2_method_7_code) (maxL := 5) (ret := (some .int)) (by decide) rfl ?_
  intro p e s m args below meth c s₁ B hml hv
  obtain ⟨rfl, hP, hK⟩ := hv
  have hx := B.exec
  have hb := B.bytes
  have hr := B.returns
  have hts : ∀ w ∈ TG, w.before [.ref (ad 0), .int v1, .int v2].toArray s = true := fun w hw => atoms_spec (ws := .code y_Choice_mostWorth prog_2_method_7_code 5 (some .int) :: TG) B.pre w (List.mem_cons_of_mem _ hw)
  have hown : s.vm.findClass "CarrierPaths$Choice" = some m.cls := findClass_of_methodNamed B.named
  have hlocks := B.notSynchronized
  have hl := lv_entry ([.ref (ad 0), .int v1, .int v2]) (n := 5) (Nat.le_of_ble_eq_true rfl)
  rw [lg_entry_eq]
  generalize (lg_sl ([.ref (ad 0), .int v1, .int v2]) ++ List.replicate (5 - (lg_sl ([.ref (ad 0), .int v1, .int v2])).length) Slot.unset).toArray = ls at hl ⊢
  generalize ([.ref (ad 0), .int v1, .int v2] : List Value).toArray = args at hts ⊢
  have key : ∀ (n b : Nat) (v1 v2 v3 v4 : Int32), q_Choice_mostWorth_j Q σ n b v1 v2 v3 v4 → ∀ ls : Array Slot, lv_has ls 5 (lc_Choice_mostWorth ad b v1 v2 v3 v4) → W p l e (headSpec (.code y_Choice_mostWorth prog_2_method_7_code 5 (some .int) :: TG) { frames := 2, cells := 0, slots := 0, locals := 45 }).room s m args below meth c s.heap [] 0 0 (MQ below (vp_Si Q) args s 0 0 (fun _ => False)) (F0 m (pc_Choice_mostWorth b) ls []) := by
    clear h hl
    intro n
    induction n with
    | zero => intro b _ _ _ _ h; exact False.elim h
    | succ n ih =>
      intro b v1 v2 v3 v4 h ls hl
      match b, h, hl with
      | 0, h, hl =>
        have h : q_Choice_mostWorth_b0 (q_Choice_mostWorth_j Q σ n) Q v1 v2 v3 v4 σ := h
        have hl : lv_has ls 5 [(0, .ref (ad 0)), (1, .int v1), (2, .int v2)] := hl
        refine W.eq (g2 := F0 m 0 ls []) rfl ?_
        unfold q_Choice_mostWorth_b0 at h
        refine lv_aload_n hx hb d_Choice_mostWorth_0 rfl (lv_at hl 0 rfl) ?_
        refine lv_iload_n hx hb d_Choice_mostWorth_1 rfl (lv_at hl 1 rfl) ?_
        refine lv_iconst (v := 1) hx hb d_Choice_mostWorth_2 (by decide) ?_
        refine lv_iadd hx hb d_Choice_mostWorth_3 ?_
        refine lv_iload_n hx hb d_Choice_mostWorth_4 rfl (lv_at hl 2 rfl) ?_
        refine vp_callSi (W.runV (As := [.int (v1 + 1), .int v2]) (rest := []) ⟨hx, hb, hml, hown, hts⟩ (t_Choice_bestFrom l D cI cZ ad (v1 + 1) v2 σ _ h) (cwV 2 hts (g_of kw287 kw289 kp5 kw8 kw290) rfl rfl rfl (by decide +kernel) ⟨Nat.le_of_ble_eq_true rfl, Nat.le_of_ble_eq_true rfl⟩) (ro_pre hK hP (va_recv hK hP (ci := 0) (q0 := 0) rfl rfl)) rfl rfl hl.1 rfl (lv_room (Nat.le_of_ble_eq_true rfl)) d_Choice_mostWorth_5 ⟨Nat.le_of_ble_eq_true rfl, Nat.le_of_ble_eq_true rfl⟩) (fun r1 h => ?_)
        refine lv_istore_n (lv' := [(3, .int r1), (0, .ref (ad 0)), (1, .int v1), (2, .int v2)]) hx hb d_Choice_mostWorth_8 rfl hl (by decide) rfl (fun ls hl => ?_)
        refine lv_iconst (v := 0) hx hb d_Choice_mostWorth_9 (by decide) ?_
        refine lv_istore (lv' := [(4, .int 0), (3, .int r1), (0, .ref (ad 0)), (1, .int v1), (2, .int v2)]) hx hb d_Choice_mostWorth_10 hl (by decide) rfl (fun ls hl => ?_)
        exact ih 1 v1 v2 r1 0 h _ (lv_sub hl [2, 3, 4, 1, 0] rfl)
      | 1, h, hl =>
        have h : q_Choice_mostWorth_b1 (q_Choice_mostWorth_j Q σ n) Q v1 v2 v3 v4 σ := h
        have hl : lv_has ls 5 [(0, .ref (ad 0)), (1, .int v1), (2, .int v2), (3, .int v3), (4, .int v4)] := hl
        refine W.eq (g2 := F0 m 12 ls []) rfl ?_
        unfold q_Choice_mostWorth_b1 at h
        refine lv_iload hx hb d_Choice_mostWorth_12 (lv_at hl 4 rfl) ?_
        refine lv_aload_n hx hb d_Choice_mostWorth_14 rfl (lv_at hl 0 rfl) ?_
        refine va_get (D := D) (ci := 0) (v := .int (σ 0 4)) (C := "CarrierPaths$Choice") (T := F_Choice) (N := 6) hx hb hts in_Choice hown hK hP 0 rfl rfl 4 (by decide) (hts _ kw157) (fun _ h9 => h9) rfl d_Choice_mostWorth_15 ?_
        refine lv_icmp_ge (tgt := 51) hx hb d_Choice_mostWorth_18 (by decide) (fun hc => ?_) (fun hc => ?_)
        · have h := h.1 hc
          refine lv_iload_n hx hb d_Choice_mostWorth_51 rfl (lv_at hl 3 rfl) ?_
          exact W.iret (v := v3) hx hb hr (fun t ht hW => ⟨v3, rfl, h, ht⟩) (fun q hq => by cases hq) d_Choice_mostWorth_52
        · have h := h.2 hc
          refine lv_aload_n hx hb d_Choice_mostWorth_21 rfl (lv_at hl 0 rfl) ?_
          refine lv_iload_n hx hb d_Choice_mostWorth_22 rfl (lv_at hl 1 rfl) ?_
          refine lv_iload hx hb d_Choice_mostWorth_23 (lv_at hl 4 rfl) ?_
          refine lv_iload_n hx hb d_Choice_mostWorth_25 rfl (lv_at hl 2 rfl) ?_
          refine vp_callSi (W.runV (As := [.int v1, .int v4, .int v2]) (rest := []) ⟨hx, hb, hml, hown, hts⟩ (t_Choice_canTake l D cI cZ ad v1 v4 v2 σ _ h) (cwV 3 hts (g_of kw291 kw293 kp6 kw8 kw294) rfl rfl rfl (by decide +kernel) ⟨Nat.le_of_ble_eq_true rfl, Nat.le_of_ble_eq_true rfl⟩) (ro_pre hK hP (va_recv hK hP (ci := 0) (q0 := 0) rfl rfl)) rfl rfl hl.1 rfl (lv_room (Nat.le_of_ble_eq_true rfl)) d_Choice_mostWorth_26 ⟨Nat.le_of_ble_eq_true rfl, Nat.le_of_ble_eq_true rfl⟩) (fun r2 h => ?_)
          refine lv_if_eq (tgt := 45) hx hb d_Choice_mostWorth_29 (by decide) (fun hc => ?_) (fun hc => ?_)
          · have h := h.1 hc
            refine lv_iinc (v := (v4 + 1)) (lv' := [(4, .int (v4 + 1)), (0, .ref (ad 0)), (1, .int v1), (2, .int v2), (3, .int v3)]) hx hb d_Choice_mostWorth_45 hl (k := 4) rfl rfl (by decide) rfl (fun ls hl => ?_)
            refine lv_goto (tgt := 12) hx hb d_Choice_mostWorth_48 (by decide) ?_
            exact ih 1 v1 v2 v3 (v4 + 1) h _ (lv_sub hl [1, 2, 3, 4, 0] rfl)
          · have h := h.2 hc
            refine lv_iload_n hx hb d_Choice_mostWorth_32 rfl (lv_at hl 3 rfl) ?_
            refine lv_aload_n hx hb d_Choice_mostWorth_33 rfl (lv_at hl 0 rfl) ?_
            refine lv_iload_n hx hb d_Choice_mostWorth_34 rfl (lv_at hl 1 rfl) ?_
            refine lv_iload hx hb d_Choice_mostWorth_35 (lv_at hl 4 rfl) ?_
            refine lv_iload_n hx hb d_Choice_mostWorth_37 rfl (lv_at hl 2 rfl) ?_
            refine vp_callSi (W.runV (As := [.int v1, .int v4, .int v2]) (rest := [.int v3]) ⟨hx, hb, hml, hown, hts⟩ (t_Choice_worthWith l D cI cZ ad v1 v4 v2 σ _ h) (cwV 3 hts (g_of kw299 kw301 kp8 kw8 kw302) rfl rfl rfl (by decide +kernel) ⟨Nat.le_of_ble_eq_true rfl, Nat.le_of_ble_eq_true rfl⟩) (ro_pre hK hP (va_recv hK hP (ci := 0) (q0 := 0) rfl rfl)) rfl rfl hl.1 rfl (lv_room (Nat.le_of_ble_eq_true rfl)) d_Choice_mostWorth_38 ⟨Nat.le_of_ble_eq_true rfl, Nat.le_of_ble_eq_true rfl⟩) (fun r3 h => ?_)
            refine va_mmax hx hb (hml.trans hl.1.symm) hown (hts _ kw303) (hts _ kw28) (hts _ kw2) (hts _ kw29) (Nat.le_of_ble_eq_true rfl) (Nat.le_of_ble_eq_true rfl) (Nat.zero_le _) (Nat.zero_le _) d_Choice_mostWorth_41 ?_
            refine lv_istore_n (lv' := [(3, .int (if v3 < r3 then r3 else v3)), (0, .ref (ad 0)), (1, .int v1), (2, .int v2), (4, .int v4)]) hx hb d_Choice_mostWorth_44 rfl hl (by decide) rfl (fun ls hl => ?_)
            refine lv_iinc (v := (v4 + 1)) (lv' := [(4, .int (v4 + 1)), (3, .int (if v3 < r3 then r3 else v3)), (0, .ref (ad 0)), (1, .int v1), (2, .int v2)]) hx hb d_Choice_mostWorth_45 hl (k := 4) rfl rfl (by decide) rfl (fun ls hl => ?_)
            refine lv_goto (tgt := 12) hx hb d_Choice_mostWorth_48 (by decide) ?_
            exact ih 1 v1 v2 (if v3 < r3 then r3 else v3) (v4 + 1) h _ (lv_sub hl [2, 3, 4, 1, 0] rfl)
      | _ + 2, h, _ => exact False.elim h
  exact key 4000 0 v1 v2 0 0 h ls hl
def q_Choice_findBest_b0 (J : Nat → Int32 → Int32 → Sg → Prop) (Q : (Sg → Prop)) (v1 v2 : Int32) (σ : Sg) : Prop :=
  J 1 v1 0 σ
def q_Choice_findBest_b1 (J : Nat → Int32 → Int32 → Sg → Prop) (Q : (Sg → Prop)) (v1 v2 : Int32) (σ : Sg) : Prop :=
  (((σ 0 5) < v2 → Q σ) ∧ (¬ (σ 0 5) < v2 → (((v2 &&& ((σ 0 5) ^^^ (-1))) = 0 → (q_Choice_mostWorth v1 v2 σ (fun r1 => (vp_in ((v1 <<< (6 &&& 31)) + v2) 832 ∧ J 1 v1 (v2 + 1) (sto σ 2 ((v1 <<< (6 &&& 31)) + v2).toNatClampNeg r1))))) ∧ (¬ (v2 &&& ((σ 0 5) ^^^ (-1))) = 0 → J 1 v1 (v2 + 1) σ))))
def q_Choice_findBest_j (Q : (Sg → Prop)) : Nat → Nat → Int32 → Int32 → Sg → Prop
  | 0, _, _, _, _ => False
  | n + 1, 0, v1, v2, σ => q_Choice_findBest_b0 (q_Choice_findBest_j Q n) Q v1 v2 σ
  | n + 1, 1, v1, v2, σ => q_Choice_findBest_b1 (q_Choice_findBest_j Q n) Q v1 v2 σ
  | _ + 1, _ + 2, _, _, _ => False
def q_Choice_findBest (v1 : Int32) (σ : Sg) (Q : (Sg → Prop)) : Prop := q_Choice_findBest_j Q 4000 0 v1 0 σ
def lc_Choice_findBest (ad : Nat → Nat) (b : Nat) (v1 v2 : Int32) : List (Nat × Value) := match b with
  | 0 => [(0, .ref (ad 0)), (1, .int v1)]
  | 1 => [(0, .ref (ad 0)), (1, .int v1), (2, .int v2)]
  | _ => []
def pc_Choice_findBest (b : Nat) : Nat := match b with
  | 0 => 0
  | 1 => 2
  | _ => 0
set_option maxHeartbeats 4000000 in
set_option maxRecDepth 100000 in
theorem t_Choice_findBest (l : Launch) (D : va_G) (cI cZ : ClassId) (ad : Nat → Nat) (inj : Inj ad 4) (v1 : Int32) (σ : Sg) (Q : (Sg → Prop)) (h : q_Choice_findBest v1 σ Q) : Met l y_Choice_findBest (.code y_Choice_findBest prog_2_method_6_code 3 none :: TG) { frames := 3, cells := 0, slots := 0, locals := 69 } (va_Pc [.ref (ad 0), .int v1] (roB D (tysA cI cZ) (W_Choice ad cI cZ σ))) (va_Qv Q (fun u t => va_P D classes (W_Choice ad cI cZ u) t.heap) (inA ad 4)) 0 0 (inA ad 4) := by
  refine Met.ofW (cc := prog_2_method_6_code) (maxL := 3) (ret := none) (by decide) rfl ?_
  intro p e s m args below meth c s₁ B hml hv
  obtain ⟨rfl, hP, hK⟩ := hv
  have hx := B.exec
  have hb := B.bytes
  have hr := B.returns
  have hts : ∀ w ∈ TG, w.before [.ref (ad 0), .int v1].toArray s = true := fun w hw => atoms_spec (ws := .code y_Choice_findBest prog_2_method_6_code 3 none :: TG) B.pre w (List.mem_cons_of_mem _ hw)
  have hown : s.vm.findClass "CarrierPaths$Choice" = some m.cls := findClass_of_methodNamed B.named
  have hlocks := B.notSynchronized
  have hS : va_S (inA ad 4) s.heap s.heap [] := va_S.rf
  have hl := lv_entry ([.ref (ad 0), .int v1]) (n := 3) (Nat.le_of_ble_eq_true rfl)
  rw [lg_entry_eq]
  generalize (lg_sl ([.ref (ad 0), .int v1]) ++ List.replicate (3 - (lg_sl ([.ref (ad 0), .int v1])).length) Slot.unset).toArray = ls at hl ⊢
  generalize ([.ref (ad 0), .int v1] : List Value).toArray = args at hts ⊢
  have key : ∀ (n b : Nat) (v1 v2 : Int32) (σ : Sg), q_Choice_findBest_j Q n b v1 v2 σ → ∀ (H : Heap) (locs : List Loc) (ls : Array Slot), va_P D classes (W_Choice ad cI cZ σ) H → va_S (inA ad 4) s.heap H locs → lv_has ls 3 (lc_Choice_findBest ad b v1 v2) → W p l e (headSpec (.code y_Choice_findBest prog_2_method_6_code 3 none :: TG) { frames := 3, cells := 0, slots := 0, locals := 69 }).room s m args below meth c H locs 0 0 (MQ below (va_Qv Q (fun u t => va_P D classes (W_Choice ad cI cZ u) t.heap) (inA ad 4)) args s 0 0 (inA ad 4)) (F0 m (pc_Choice_findBest b) ls []) := by
    clear h hl hP hS
    intro n
    induction n with
    | zero => intro b _ _ _ h; exact False.elim h
    | succ n ih =>
      intro b v1 v2 σ h H locs ls hP hS hl
      match b, h, hl with
      | 0, h, hl =>
        have h : q_Choice_findBest_b0 (q_Choice_findBest_j Q n) Q v1 v2 σ := h
        have hl : lv_has ls 3 [(0, .ref (ad 0)), (1, .int v1)] := hl
        refine W.eq (g2 := F0 m 0 ls []) rfl ?_
        unfold q_Choice_findBest_b0 at h
        refine lv_iconst (v := 0) hx hb d_Choice_findBest_0 (by decide) ?_
        refine lv_istore_n (lv' := [(2, .int 0), (0, .ref (ad 0)), (1, .int v1)]) hx hb d_Choice_findBest_1 rfl hl (by decide) rfl (fun ls hl => ?_)
        exact ih 1 v1 0 σ h _ _ _ hP hS (lv_sub hl [1, 2, 0] rfl)
      | 1, h, hl =>
        have h : q_Choice_findBest_b1 (q_Choice_findBest_j Q n) Q v1 v2 σ := h
        have hl : lv_has ls 3 [(0, .ref (ad 0)), (1, .int v1), (2, .int v2)] := hl
        refine W.eq (g2 := F0 m 2 ls []) rfl ?_
        unfold q_Choice_findBest_b1 at h
        refine lv_iload_n hx hb d_Choice_findBest_2 rfl (lv_at hl 2 rfl) ?_
        refine lv_aload_n hx hb d_Choice_findBest_3 rfl (lv_at hl 0 rfl) ?_
        refine va_get (D := D) (ci := 0) (v := .int (σ 0 5)) (C := "CarrierPaths$Choice") (T := F_Choice) (N := 6) hx hb hts in_Choice hown hK hP 0 rfl rfl 5 (by decide) (hts _ kw158) (fun _ h9 => h9) rfl d_Choice_findBest_4 ?_
        refine lv_icmp_gt (tgt := 44) hx hb d_Choice_findBest_7 (by decide) (fun hc => ?_) (fun hc => ?_)
        · have h := h.1 hc
          exact W.vret hx hb hr (fun t ht hW => ⟨⟨σ, rfl, h, hp_back ht hP⟩, hS.F ht⟩) hS.2.2 d_Choice_findBest_44
        · have h := h.2 hc
          refine lv_iload_n hx hb d_Choice_findBest_10 rfl (lv_at hl 2 rfl) ?_
          refine lv_aload_n hx hb d_Choice_findBest_11 rfl (lv_at hl 0 rfl) ?_
          refine va_get (D := D) (ci := 0) (v := .int (σ 0 5)) (C := "CarrierPaths$Choice") (T := F_Choice) (N := 6) hx hb hts in_Choice hown hK hP 0 rfl rfl 5 (by decide) (hts _ kw158) (fun _ h9 => h9) rfl d_Choice_findBest_12 ?_
          refine lv_iconst (v := (-1)) hx hb d_Choice_findBest_15 (by decide) ?_
          refine lv_ixor hx hb d_Choice_findBest_16 ?_
          refine lv_iand hx hb d_Choice_findBest_17 ?_
          refine lv_if_ne (tgt := 38) hx hb d_Choice_findBest_18 (by decide) (fun hc => ?_) (fun hc => ?_)
          · have h := h.2 hc
            refine lv_iinc (v := (v2 + 1)) (lv' := [(2, .int (v2 + 1)), (0, .ref (ad 0)), (1, .int v1)]) hx hb d_Choice_findBest_38 hl (k := 2) rfl rfl (by decide) rfl (fun ls hl => ?_)
            refine lv_goto (tgt := 2) hx hb d_Choice_findBest_41 (by decide) ?_
            exact ih 1 v1 (v2 + 1) σ h _ _ _ hP hS (lv_sub hl [1, 2, 0] rfl)
          · have h := h.1 hc
            refine lv_aload_n hx hb d_Choice_findBest_21 rfl (lv_at hl 0 rfl) ?_
            refine va_get (D := D) (ci := 0) (v := .ref (ad 2)) (C := "CarrierPaths$Choice") (T := F_Choice) (N := 6) hx hb hts in_Choice hown hK hP 0 rfl rfl 1 (by decide) (hts _ kw154) (fun _ h9 => h9) rfl d_Choice_findBest_22 ?_
            refine lv_iload_n hx hb d_Choice_findBest_25 rfl (lv_at hl 1 rfl) ?_
            refine lv_bipush (v := 6) hx hb d_Choice_findBest_26 (by decide) ?_
            refine lv_ishl hx hb d_Choice_findBest_28 ?_
            refine lv_iload_n hx hb d_Choice_findBest_29 rfl (lv_at hl 2 rfl) ?_
            refine lv_iadd hx hb d_Choice_findBest_30 ?_
            refine lv_aload_n hx hb d_Choice_findBest_31 rfl (lv_at hl 0 rfl) ?_
            refine lv_iload_n hx hb d_Choice_findBest_32 rfl (lv_at hl 1 rfl) ?_
            refine lv_iload_n hx hb d_Choice_findBest_33 rfl (lv_at hl 2 rfl) ?_
            refine vp_callSi (W.runV (As := [.int v1, .int v2]) (rest := [.int ((v1 <<< (6 &&& 31)) + v2), .ref (ad 2)]) ⟨hx, hb, hml, hown, hts⟩ (t_Choice_mostWorth l D cI cZ ad v1 v2 σ _ h) (cwV 2 hts (g_of kw283 kw285 kp4 kw8 kw286) rfl rfl rfl (by decide +kernel) ⟨Nat.le_of_ble_eq_true rfl, Nat.le_of_ble_eq_true rfl⟩) (ro_pre hK hP (va_recv hK hP (ci := 0) (q0 := 0) rfl rfl)) rfl rfl hl.1 rfl (lv_room (Nat.le_of_ble_eq_true rfl)) d_Choice_findBest_34 ⟨Nat.le_of_ble_eq_true rfl, Nat.le_of_ble_eq_true rfl⟩) (fun r1 h => ?_)
            obtain ⟨hi, h⟩ := h
            refine va_iast hx hb hK hP (D_Choice inj) hS 2 0 rfl rfl hi d_Choice_findBest_37 (fun H locs hP _ hS => ?_)
            have hP := up_Choice_2 hP
            refine lv_iinc (v := (v2 + 1)) (lv' := [(2, .int (v2 + 1)), (0, .ref (ad 0)), (1, .int v1)]) hx hb d_Choice_findBest_38 hl (k := 2) rfl rfl (by decide) rfl (fun ls hl => ?_)
            refine lv_goto (tgt := 2) hx hb d_Choice_findBest_41 (by decide) ?_
            exact ih 1 v1 (v2 + 1) (sto σ 2 ((v1 <<< (6 &&& 31)) + v2).toNatClampNeg r1) h _ _ _ hP hS (lv_sub hl [1, 2, 0] rfl)
      | _ + 2, h, _ => exact False.elim h
  exact key 4000 0 v1 0 σ h s.heap [] ls hP hS hl
def q_Choice_leastCarrier_b0 (J : Nat → Int32 → Int32 → Int32 → Prop) (Q : (Int32 → Prop)) (v1 v2 v3 : Int32) (σ : Sg) : Prop :=
  J 1 v1 v2 0
def q_Choice_leastCarrier_b1 (J : Nat → Int32 → Int32 → Int32 → Prop) (Q : (Int32 → Prop)) (v1 v2 v3 : Int32) (σ : Sg) : Prop :=
  (((σ 0 4) ≤ v3 → Q (-1)) ∧ (¬ (σ 0 4) ≤ v3 → (q_Choice_canTake v1 v3 v2 σ (fun r1 => ((r1 = 0 → J 1 v1 v2 (v3 + 1)) ∧ (¬ r1 = 0 → (q_Choice_worthWith v1 v3 v2 σ (fun r2 => (q_Choice_bestFrom v1 v2 σ (fun r3 => ((r2 = r3 → Q v3) ∧ (¬ r2 = r3 → J 1 v1 v2 (v3 + 1)))))))))))))
def q_Choice_leastCarrier_j (Q : (Int32 → Prop)) (σ : Sg) : Nat → Nat → Int32 → Int32 → Int32 → Prop
  | 0, _, _, _, _ => False
  | n + 1, 0, v1, v2, v3 => q_Choice_leastCarrier_b0 (q_Choice_leastCarrier_j Q σ n) Q v1 v2 v3 σ
  | n + 1, 1, v1, v2, v3 => q_Choice_leastCarrier_b1 (q_Choice_leastCarrier_j Q σ n) Q v1 v2 v3 σ
  | _ + 1, _ + 2, _, _, _ => False
def q_Choice_leastCarrier (v1 v2 : Int32) (σ : Sg) (Q : (Int32 → Prop)) : Prop := q_Choice_leastCarrier_j Q σ 4000 0 v1 v2 0
def lc_Choice_leastCarrier (ad : Nat → Nat) (b : Nat) (v1 v2 v3 : Int32) : List (Nat × Value) := match b with
  | 0 => [(0, .ref (ad 0)), (1, .int v1), (2, .int v2)]
  | 1 => [(0, .ref (ad 0)), (1, .int v1), (2, .int v2), (3, .int v3)]
  | _ => []
def pc_Choice_leastCarrier (b : Nat) : Nat := match b with
  | 0 => 0
  | 1 => 2
  | _ => 0
set_option maxHeartbeats 4000000 in
set_option maxRecDepth 100000 in
theorem t_Choice_leastCarrier (l : Launch) (D : va_G) (cI cZ : ClassId) (ad : Nat → Nat) (v1 v2 : Int32) (σ : Sg) (Q : (Int32 → Prop)) (h : q_Choice_leastCarrier v1 v2 σ Q) : Met l y_Choice_leastCarrier (.code y_Choice_leastCarrier prog_2_method_8_code 4 (some .int) :: TG) { frames := 2, cells := 0, slots := 0, locals := 45 } (va_Pc [.ref (ad 0), .int v1, .int v2] (roB D (tysA cI cZ) (W_Choice ad cI cZ σ))) (vp_Si Q) 0 0 (fun _ => False) := by
  refine Met.ofW (cc := prog_2_method_8_code) (maxL := 4) (ret := (some .int)) (by decide) rfl ?_
  intro p e s m args below meth c s₁ B hml hv
  obtain ⟨rfl, hP, hK⟩ := hv
  have hx := B.exec
  have hb := B.bytes
  have hr := B.returns
  have hts : ∀ w ∈ TG, w.before [.ref (ad 0), .int v1, .int v2].toArray s = true := fun w hw => atoms_spec (ws := .code y_Choice_leastCarrier prog_2_method_8_code 4 (some .int) :: TG) B.pre w (List.mem_cons_of_mem _ hw)
  have hown : s.vm.findClass "CarrierPaths$Choice" = some m.cls := findClass_of_methodNamed B.named
  have hlocks := B.notSynchronized
  have hl := lv_entry ([.ref (ad 0), .int v1, .int v2]) (n := 4) (Nat.le_of_ble_eq_true rfl)
  rw [lg_entry_eq]
  generalize (lg_sl ([.ref (ad 0), .int v1, .int v2]) ++ List.replicate (4 - (lg_sl ([.ref (ad 0), .int v1, .int v2])).length) Slot.unset).toArray = ls at hl ⊢
  generalize ([.ref (ad 0), .int v1, .int v2] : List Value).toArray = args at hts ⊢
  have key : ∀ (n b : Nat) (v1 v2 v3 : Int32), q_Choice_leastCarrier_j Q σ n b v1 v2 v3 → ∀ ls : Array Slot, lv_has ls 4 (lc_Choice_leastCarrier ad b v1 v2 v3) → W p l e (headSpec (.code y_Choice_leastCarrier prog_2_method_8_code 4 (some .int) :: TG) { frames := 2, cells := 0, slots := 0, locals := 45 }).room s m args below meth c s.heap [] 0 0 (MQ below (vp_Si Q) args s 0 0 (fun _ => False)) (F0 m (pc_Choice_leastCarrier b) ls []) := by
    clear h hl
    intro n
    induction n with
    | zero => intro b _ _ _ h; exact False.elim h
    | succ n ih =>
      intro b v1 v2 v3 h ls hl
      match b, h, hl with
      | 0, h, hl =>
        have h : q_Choice_leastCarrier_b0 (q_Choice_leastCarrier_j Q σ n) Q v1 v2 v3 σ := h
        have hl : lv_has ls 4 [(0, .ref (ad 0)), (1, .int v1), (2, .int v2)] := hl
        refine W.eq (g2 := F0 m 0 ls []) rfl ?_
        unfold q_Choice_leastCarrier_b0 at h
        refine lv_iconst (v := 0) hx hb d_Choice_leastCarrier_0 (by decide) ?_
        refine lv_istore_n (lv' := [(3, .int 0), (0, .ref (ad 0)), (1, .int v1), (2, .int v2)]) hx hb d_Choice_leastCarrier_1 rfl hl (by decide) rfl (fun ls hl => ?_)
        exact ih 1 v1 v2 0 h _ (lv_sub hl [1, 2, 3, 0] rfl)
      | 1, h, hl =>
        have h : q_Choice_leastCarrier_b1 (q_Choice_leastCarrier_j Q σ n) Q v1 v2 v3 σ := h
        have hl : lv_has ls 4 [(0, .ref (ad 0)), (1, .int v1), (2, .int v2), (3, .int v3)] := hl
        refine W.eq (g2 := F0 m 2 ls []) rfl ?_
        unfold q_Choice_leastCarrier_b1 at h
        refine lv_iload_n hx hb d_Choice_leastCarrier_2 rfl (lv_at hl 3 rfl) ?_
        refine lv_aload_n hx hb d_Choice_leastCarrier_3 rfl (lv_at hl 0 rfl) ?_
        refine va_get (D := D) (ci := 0) (v := .int (σ 0 4)) (C := "CarrierPaths$Choice") (T := F_Choice) (N := 6) hx hb hts in_Choice hown hK hP 0 rfl rfl 4 (by decide) (hts _ kw157) (fun _ h9 => h9) rfl d_Choice_leastCarrier_4 ?_
        refine lv_icmp_ge (tgt := 44) hx hb d_Choice_leastCarrier_7 (by decide) (fun hc => ?_) (fun hc => ?_)
        · have h := h.1 hc
          refine lv_iconst (v := (-1)) hx hb d_Choice_leastCarrier_44 (by decide) ?_
          exact W.iret (v := (-1)) hx hb hr (fun t ht hW => ⟨(-1), rfl, h, ht⟩) (fun q hq => by cases hq) d_Choice_leastCarrier_45
        · have h := h.2 hc
          refine lv_aload_n hx hb d_Choice_leastCarrier_10 rfl (lv_at hl 0 rfl) ?_
          refine lv_iload_n hx hb d_Choice_leastCarrier_11 rfl (lv_at hl 1 rfl) ?_
          refine lv_iload_n hx hb d_Choice_leastCarrier_12 rfl (lv_at hl 3 rfl) ?_
          refine lv_iload_n hx hb d_Choice_leastCarrier_13 rfl (lv_at hl 2 rfl) ?_
          refine vp_callSi (W.runV (As := [.int v1, .int v3, .int v2]) (rest := []) ⟨hx, hb, hml, hown, hts⟩ (t_Choice_canTake l D cI cZ ad v1 v3 v2 σ _ h) (cwV 3 hts (g_of kw291 kw293 kp6 kw8 kw294) rfl rfl rfl (by decide +kernel) ⟨Nat.le_of_ble_eq_true rfl, Nat.le_of_ble_eq_true rfl⟩) (ro_pre hK hP (va_recv hK hP (ci := 0) (q0 := 0) rfl rfl)) rfl rfl hl.1 rfl (lv_room (Nat.le_of_ble_eq_true rfl)) d_Choice_leastCarrier_14 ⟨Nat.le_of_ble_eq_true rfl, Nat.le_of_ble_eq_true rfl⟩) (fun r1 h => ?_)
          refine lv_if_eq (tgt := 38) hx hb d_Choice_leastCarrier_17 (by decide) (fun hc => ?_) (fun hc => ?_)
          · have h := h.1 hc
            refine lv_iinc (v := (v3 + 1)) (lv' := [(3, .int (v3 + 1)), (0, .ref (ad 0)), (1, .int v1), (2, .int v2)]) hx hb d_Choice_leastCarrier_38 hl (k := 3) rfl rfl (by decide) rfl (fun ls hl => ?_)
            refine lv_goto (tgt := 2) hx hb d_Choice_leastCarrier_41 (by decide) ?_
            exact ih 1 v1 v2 (v3 + 1) h _ (lv_sub hl [1, 2, 3, 0] rfl)
          · have h := h.2 hc
            refine lv_aload_n hx hb d_Choice_leastCarrier_20 rfl (lv_at hl 0 rfl) ?_
            refine lv_iload_n hx hb d_Choice_leastCarrier_21 rfl (lv_at hl 1 rfl) ?_
            refine lv_iload_n hx hb d_Choice_leastCarrier_22 rfl (lv_at hl 3 rfl) ?_
            refine lv_iload_n hx hb d_Choice_leastCarrier_23 rfl (lv_at hl 2 rfl) ?_
            refine vp_callSi (W.runV (As := [.int v1, .int v3, .int v2]) (rest := []) ⟨hx, hb, hml, hown, hts⟩ (t_Choice_worthWith l D cI cZ ad v1 v3 v2 σ _ h) (cwV 3 hts (g_of kw299 kw301 kp8 kw8 kw302) rfl rfl rfl (by decide +kernel) ⟨Nat.le_of_ble_eq_true rfl, Nat.le_of_ble_eq_true rfl⟩) (ro_pre hK hP (va_recv hK hP (ci := 0) (q0 := 0) rfl rfl)) rfl rfl hl.1 rfl (lv_room (Nat.le_of_ble_eq_true rfl)) d_Choice_leastCarrier_24 ⟨Nat.le_of_ble_eq_true rfl, Nat.le_of_ble_eq_true rfl⟩) (fun r2 h => ?_)
            refine lv_aload_n hx hb d_Choice_leastCarrier_27 rfl (lv_at hl 0 rfl) ?_
            refine lv_iload_n hx hb d_Choice_leastCarrier_28 rfl (lv_at hl 1 rfl) ?_
            refine lv_iload_n hx hb d_Choice_leastCarrier_29 rfl (lv_at hl 2 rfl) ?_
            refine vp_callSi (W.runV (As := [.int v1, .int v2]) (rest := [.int r2]) ⟨hx, hb, hml, hown, hts⟩ (t_Choice_bestFrom l D cI cZ ad v1 v2 σ _ h) (cwV 2 hts (g_of kw287 kw289 kp5 kw8 kw290) rfl rfl rfl (by decide +kernel) ⟨Nat.le_of_ble_eq_true rfl, Nat.le_of_ble_eq_true rfl⟩) (ro_pre hK hP (va_recv hK hP (ci := 0) (q0 := 0) rfl rfl)) rfl rfl hl.1 rfl (lv_room (Nat.le_of_ble_eq_true rfl)) d_Choice_leastCarrier_30 ⟨Nat.le_of_ble_eq_true rfl, Nat.le_of_ble_eq_true rfl⟩) (fun r3 h => ?_)
            refine lv_icmp_ne (tgt := 38) hx hb d_Choice_leastCarrier_33 (by decide) (fun hc => ?_) (fun hc => ?_)
            · have h := h.2 hc
              refine lv_iinc (v := (v3 + 1)) (lv' := [(3, .int (v3 + 1)), (0, .ref (ad 0)), (1, .int v1), (2, .int v2)]) hx hb d_Choice_leastCarrier_38 hl (k := 3) rfl rfl (by decide) rfl (fun ls hl => ?_)
              refine lv_goto (tgt := 2) hx hb d_Choice_leastCarrier_41 (by decide) ?_
              exact ih 1 v1 v2 (v3 + 1) h _ (lv_sub hl [1, 2, 3, 0] rfl)
            · have h := h.1 hc
              refine lv_iload_n hx hb d_Choice_leastCarrier_36 rfl (lv_at hl 3 rfl) ?_
              exact W.iret (v := v3) hx hb hr (fun t ht hW => ⟨v3, rfl, h, ht⟩) (fun q hq => by cases hq) d_Choice_leastCarrier_37
      | _ + 2, h, _ => exact False.elim h
  exact key 4000 0 v1 v2 0 h ls hl
def q_Choice_settle_b0 (J : Nat → Int32 → Int32 → Int32 → Sg → Prop) (Q : (Sg → Prop)) (v1 v2 v3 : Int32) (σ : Sg) : Prop :=
  J 1 ((σ 0 3) - 1) 0 0 σ
def q_Choice_settle_b1 (J : Nat → Int32 → Int32 → Int32 → Sg → Prop) (Q : (Sg → Prop)) (v1 v2 v3 : Int32) (σ : Sg) : Prop :=
  ((v1 < 0 → J 2 0 0 0 σ) ∧ (¬ v1 < 0 → (q_Choice_findBest v1 σ (fun u1 => J 1 (v1 + (-1)) 0 0 u1))))
def q_Choice_settle_b2 (J : Nat → Int32 → Int32 → Int32 → Sg → Prop) (Q : (Sg → Prop)) (v1 v2 v3 : Int32) (σ : Sg) : Prop :=
  (((σ 0 3) ≤ v2 → Q σ) ∧ (¬ (σ 0 3) ≤ v2 → (q_Choice_leastCarrier v2 v1 σ (fun r2 => (vp_in v2 12 ∧ ((r2 = (-1) → J 2 (v1 ||| 0) (v2 + 1) 0 (sto σ 3 v2.toNatClampNeg r2)) ∧ (¬ r2 = (-1) → J 2 (v1 ||| ((1 : Int32) <<< (r2 &&& 31))) (v2 + 1) 0 (sto σ 3 v2.toNatClampNeg r2))))))))
def q_Choice_settle_j (Q : (Sg → Prop)) : Nat → Nat → Int32 → Int32 → Int32 → Sg → Prop
  | 0, _, _, _, _, _ => False
  | n + 1, 0, v1, v2, v3, σ => q_Choice_settle_b0 (q_Choice_settle_j Q n) Q v1 v2 v3 σ
  | n + 1, 1, v1, v2, v3, σ => q_Choice_settle_b1 (q_Choice_settle_j Q n) Q v1 v2 v3 σ
  | n + 1, 2, v1, v2, v3, σ => q_Choice_settle_b2 (q_Choice_settle_j Q n) Q v1 v2 v3 σ
  | _ + 1, _ + 3, _, _, _, _ => False
def q_Choice_settle (σ : Sg) (Q : (Sg → Prop)) : Prop := q_Choice_settle_j Q 4000 0 0 0 0 σ
def lc_Choice_settle (ad : Nat → Nat) (b : Nat) (v1 v2 v3 : Int32) : List (Nat × Value) := match b with
  | 0 => [(0, .ref (ad 0))]
  | 1 => [(0, .ref (ad 0)), (1, .int v1)]
  | 2 => [(0, .ref (ad 0)), (1, .int v1), (2, .int v2)]
  | _ => []
def pc_Choice_settle (b : Nat) : Nat := match b with
  | 0 => 0
  | 1 => 7
  | 2 => 26
  | _ => 0
set_option maxHeartbeats 4000000 in
set_option maxRecDepth 100000 in
theorem t_Choice_settle (l : Launch) (D : va_G) (cI cZ : ClassId) (ad : Nat → Nat) (inj : Inj ad 4) (σ : Sg) (Q : (Sg → Prop)) (h : q_Choice_settle σ Q) : Met l y_Choice_settle (.code y_Choice_settle prog_2_method_4_code 4 none :: TG) { frames := 4, cells := 0, slots := 0, locals := 91 } (va_Pc [.ref (ad 0)] (roB D (tysA cI cZ) (W_Choice ad cI cZ σ))) (va_Qv Q (fun u t => va_P D classes (W_Choice ad cI cZ u) t.heap) (inA ad 4)) 0 0 (inA ad 4) := by
  refine Met.ofW (cc := prog_2_method_4_code) (maxL := 4) (ret := none) (by decide) rfl ?_
  intro p e s m args below meth c s₁ B hml hv
  obtain ⟨rfl, hP, hK⟩ := hv
  have hx := B.exec
  have hb := B.bytes
  have hr := B.returns
  have hts : ∀ w ∈ TG, w.before [.ref (ad 0)].toArray s = true := fun w hw => atoms_spec (ws := .code y_Choice_settle prog_2_method_4_code 4 none :: TG) B.pre w (List.mem_cons_of_mem _ hw)
  have hown : s.vm.findClass "CarrierPaths$Choice" = some m.cls := findClass_of_methodNamed B.named
  have hlocks := B.notSynchronized
  have hS : va_S (inA ad 4) s.heap s.heap [] := va_S.rf
  have hl := lv_entry ([.ref (ad 0)]) (n := 4) (Nat.le_of_ble_eq_true rfl)
  rw [lg_entry_eq]
  generalize (lg_sl ([.ref (ad 0)]) ++ List.replicate (4 - (lg_sl ([.ref (ad 0)])).length) Slot.unset).toArray = ls at hl ⊢
  generalize ([.ref (ad 0)] : List Value).toArray = args at hts ⊢
  have key : ∀ (n b : Nat) (v1 v2 v3 : Int32) (σ : Sg), q_Choice_settle_j Q n b v1 v2 v3 σ → ∀ (H : Heap) (locs : List Loc) (ls : Array Slot), va_P D classes (W_Choice ad cI cZ σ) H → va_S (inA ad 4) s.heap H locs → lv_has ls 4 (lc_Choice_settle ad b v1 v2 v3) → W p l e (headSpec (.code y_Choice_settle prog_2_method_4_code 4 none :: TG) { frames := 4, cells := 0, slots := 0, locals := 91 }).room s m args below meth c H locs 0 0 (MQ below (va_Qv Q (fun u t => va_P D classes (W_Choice ad cI cZ u) t.heap) (inA ad 4)) args s 0 0 (inA ad 4)) (F0 m (pc_Choice_settle b) ls []) := by
    clear h hl hP hS
    intro n
    induction n with
    | zero => intro b _ _ _ _ h; exact False.elim h
    | succ n ih =>
      intro b v1 v2 v3 σ h H locs ls hP hS hl
      match b, h, hl with
      | 0, h, hl =>
        have h : q_Choice_settle_b0 (q_Choice_settle_j Q n) Q v1 v2 v3 σ := h
        have hl : lv_has ls 4 [(0, .ref (ad 0))] := hl
        refine W.eq (g2 := F0 m 0 ls []) rfl ?_
        unfold q_Choice_settle_b0 at h
        refine lv_aload_n hx hb d_Choice_settle_0 rfl (lv_at hl 0 rfl) ?_
        refine va_get (D := D) (ci := 0) (v := .int (σ 0 3)) (C := "CarrierPaths$Choice") (T := F_Choice) (N := 6) hx hb hts in_Choice hown hK hP 0 rfl rfl 3 (by decide) (hts _ kw156) (fun _ h9 => h9) rfl d_Choice_settle_1 ?_
        refine lv_iconst (v := 1) hx hb d_Choice_settle_4 (by decide) ?_
        refine lv_isub hx hb d_Choice_settle_5 ?_
        refine lv_istore_n (lv' := [(1, .int ((σ 0 3) - 1)), (0, .ref (ad 0))]) hx hb d_Choice_settle_6 rfl hl (by decide) rfl (fun ls hl => ?_)
        exact ih 1 ((σ 0 3) - 1) 0 0 σ h _ _ _ hP hS (lv_sub hl [1, 0] rfl)
      | 1, h, hl =>
        have h : q_Choice_settle_b1 (q_Choice_settle_j Q n) Q v1 v2 v3 σ := h
        have hl : lv_has ls 4 [(0, .ref (ad 0)), (1, .int v1)] := hl
        refine W.eq (g2 := F0 m 7 ls []) rfl ?_
        unfold q_Choice_settle_b1 at h
        refine lv_iload_n hx hb d_Choice_settle_7 rfl (lv_at hl 1 rfl) ?_
        refine lv_if_lt (tgt := 22) hx hb d_Choice_settle_8 (by decide) (fun hc => ?_) (fun hc => ?_)
        · have h := h.1 hc
          refine lv_iconst (v := 0) hx hb d_Choice_settle_22 (by decide) ?_
          refine lv_istore_n (lv' := [(1, .int 0), (0, .ref (ad 0))]) hx hb d_Choice_settle_23 rfl hl (by decide) rfl (fun ls hl => ?_)
          refine lv_iconst (v := 0) hx hb d_Choice_settle_24 (by decide) ?_
          refine lv_istore_n (lv' := [(2, .int 0), (1, .int 0), (0, .ref (ad 0))]) hx hb d_Choice_settle_25 rfl hl (by decide) rfl (fun ls hl => ?_)
          exact ih 2 0 0 0 σ h _ _ _ hP hS (lv_sub hl [2, 1, 0] rfl)
        · have h := h.2 hc
          refine lv_aload_n hx hb d_Choice_settle_11 rfl (lv_at hl 0 rfl) ?_
          refine lv_iload_n hx hb d_Choice_settle_12 rfl (lv_at hl 1 rfl) ?_
          refine va_callv (va_runV (As := [.int v1]) (rest := []) ⟨hx, hb, hml, hown, hts⟩ (t_Choice_findBest l D cI cZ ad inj v1 σ _ h) (cwV 1 hts (g_of kw279 kw281 kp3 kw8 kw282) rfl rfl rfl (by decide +kernel) ⟨Nat.le_of_ble_eq_true rfl, Nat.le_of_ble_eq_true rfl⟩) (ro_pre hK hP (va_recv hK hP (ci := 0) (q0 := 0) rfl rfl)) rfl rfl hl.1 rfl (lv_room (Nat.le_of_ble_eq_true rfl)) d_Choice_settle_13 ⟨Nat.le_of_ble_eq_true rfl, Nat.le_of_ble_eq_true rfl⟩) hS (fun _ _ h => h) (fun _ h => h) (fun u1 t H1 locs ht _ h hP1 _ hk1 hS => ?_)
          have hP1 : va_P D classes (W_Choice ad cI cZ u1) H1 := hp_fwd ht hP1
          clear hk1 ht
          generalize H1 = H at hP1 hS ⊢
          have hP := hP1
          refine lv_iinc (v := (v1 + (-1))) (lv' := [(1, .int (v1 + (-1))), (0, .ref (ad 0))]) hx hb d_Choice_settle_16 hl (k := 1) rfl rfl (by decide) rfl (fun ls hl => ?_)
          refine lv_goto (tgt := 7) hx hb d_Choice_settle_19 (by decide) ?_
          exact ih 1 (v1 + (-1)) 0 0 u1 h _ _ _ hP hS (lv_sub hl [1, 0] rfl)
      | 2, h, hl =>
        have h : q_Choice_settle_b2 (q_Choice_settle_j Q n) Q v1 v2 v3 σ := h
        have hl : lv_has ls 4 [(0, .ref (ad 0)), (1, .int v1), (2, .int v2)] := hl
        refine W.eq (g2 := F0 m 26 ls []) rfl ?_
        unfold q_Choice_settle_b2 at h
        refine lv_iload_n hx hb d_Choice_settle_26 rfl (lv_at hl 2 rfl) ?_
        refine lv_aload_n hx hb d_Choice_settle_27 rfl (lv_at hl 0 rfl) ?_
        refine va_get (D := D) (ci := 0) (v := .int (σ 0 3)) (C := "CarrierPaths$Choice") (T := F_Choice) (N := 6) hx hb hts in_Choice hown hK hP 0 rfl rfl 3 (by decide) (hts _ kw156) (fun _ h9 => h9) rfl d_Choice_settle_28 ?_
        refine lv_icmp_ge (tgt := 69) hx hb d_Choice_settle_31 (by decide) (fun hc => ?_) (fun hc => ?_)
        · have h := h.1 hc
          exact W.vret hx hb hr (fun t ht hW => ⟨⟨σ, rfl, h, hp_back ht hP⟩, hS.F ht⟩) hS.2.2 d_Choice_settle_69
        · have h := h.2 hc
          refine lv_aload_n hx hb d_Choice_settle_34 rfl (lv_at hl 0 rfl) ?_
          refine lv_iload_n hx hb d_Choice_settle_35 rfl (lv_at hl 2 rfl) ?_
          refine lv_iload_n hx hb d_Choice_settle_36 rfl (lv_at hl 1 rfl) ?_
          refine vp_callSi (W.runV (As := [.int v2, .int v1]) (rest := []) ⟨hx, hb, hml, hown, hts⟩ (t_Choice_leastCarrier l D cI cZ ad v2 v1 σ _ h) (cwV 2 hts (g_of kw304 kw306 kp9 kw8 kw307) rfl rfl rfl (by decide +kernel) ⟨Nat.le_of_ble_eq_true rfl, Nat.le_of_ble_eq_true rfl⟩) (ro_pre hK hP (va_recv hK hP (ci := 0) (q0 := 0) rfl rfl)) rfl rfl hl.1 rfl (lv_room (Nat.le_of_ble_eq_true rfl)) d_Choice_settle_37 ⟨Nat.le_of_ble_eq_true rfl, Nat.le_of_ble_eq_true rfl⟩) (fun r2 h => ?_)
          refine lv_istore_n (lv' := [(3, .int r2), (0, .ref (ad 0)), (1, .int v1), (2, .int v2)]) hx hb d_Choice_settle_40 rfl hl (by decide) rfl (fun ls hl => ?_)
          refine lv_aload_n hx hb d_Choice_settle_41 rfl (lv_at hl 1 rfl) ?_
          refine va_get (D := D) (ci := 0) (v := .ref (ad 3)) (C := "CarrierPaths$Choice") (T := F_Choice) (N := 6) hx hb hts in_Choice hown hK hP 0 rfl rfl 2 (by decide) (hts _ kw155) (fun _ h9 => h9) rfl d_Choice_settle_42 ?_
          refine lv_iload_n hx hb d_Choice_settle_45 rfl (lv_at hl 3 rfl) ?_
          refine lv_iload_n hx hb d_Choice_settle_46 rfl (lv_at hl 0 rfl) ?_
          obtain ⟨hi, h⟩ := h
          refine va_iast hx hb hK hP (D_Choice inj) hS 3 0 rfl rfl hi d_Choice_settle_47 (fun H locs hP _ hS => ?_)
          have hP := up_Choice_3 hP
          refine lv_iload_n hx hb d_Choice_settle_48 rfl (lv_at hl 2 rfl) ?_
          refine lv_iload_n hx hb d_Choice_settle_49 rfl (lv_at hl 0 rfl) ?_
          refine lv_iconst (v := (-1)) hx hb d_Choice_settle_50 (by decide) ?_
          refine lv_icmp_ne (tgt := 58) hx hb d_Choice_settle_51 (by decide) (fun hc => ?_) (fun hc => ?_)
          · have h := h.2 hc
            refine lv_iconst (v := 1) hx hb d_Choice_settle_58 (by decide) ?_
            refine lv_iload_n hx hb d_Choice_settle_59 rfl (lv_at hl 0 rfl) ?_
            refine lv_ishl hx hb d_Choice_settle_60 ?_
            refine lv_ior hx hb d_Choice_settle_61 ?_
            refine lv_istore_n (lv' := [(1, .int (v1 ||| ((1 : Int32) <<< (r2 &&& 31)))), (3, .int r2), (0, .ref (ad 0)), (2, .int v2)]) hx hb d_Choice_settle_62 rfl hl (by decide) rfl (fun ls hl => ?_)
            refine lv_iinc (v := (v2 + 1)) (lv' := [(2, .int (v2 + 1)), (1, .int (v1 ||| ((1 : Int32) <<< (r2 &&& 31)))), (3, .int r2), (0, .ref (ad 0))]) hx hb d_Choice_settle_63 hl (k := 3) rfl rfl (by decide) rfl (fun ls hl => ?_)
            refine lv_goto (tgt := 26) hx hb d_Choice_settle_66 (by decide) ?_
            exact ih 2 (v1 ||| ((1 : Int32) <<< (r2 &&& 31))) (v2 + 1) 0 (sto σ 3 v2.toNatClampNeg r2) h _ _ _ hP hS (lv_sub hl [3, 1, 0] rfl)
          · have h := h.1 hc
            refine lv_iconst (v := 0) hx hb d_Choice_settle_54 (by decide) ?_
            refine lv_goto (tgt := 61) hx hb d_Choice_settle_55 (by decide) ?_
            refine lv_ior hx hb d_Choice_settle_61 ?_
            refine lv_istore_n (lv' := [(1, .int (v1 ||| 0)), (3, .int r2), (0, .ref (ad 0)), (2, .int v2)]) hx hb d_Choice_settle_62 rfl hl (by decide) rfl (fun ls hl => ?_)
            refine lv_iinc (v := (v2 + 1)) (lv' := [(2, .int (v2 + 1)), (1, .int (v1 ||| 0)), (3, .int r2), (0, .ref (ad 0))]) hx hb d_Choice_settle_63 hl (k := 3) rfl rfl (by decide) rfl (fun ls hl => ?_)
            refine lv_goto (tgt := 26) hx hb d_Choice_settle_66 (by decide) ?_
            exact ih 2 (v1 ||| 0) (v2 + 1) 0 (sto σ 3 v2.toNatClampNeg r2) h _ _ _ hP hS (lv_sub hl [3, 1, 0] rfl)
      | _ + 3, h, _ => exact False.elim h
  exact key 4000 0 0 0 0 σ h s.heap [] ls hP hS hl
