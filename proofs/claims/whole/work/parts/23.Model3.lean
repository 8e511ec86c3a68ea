def q_Model_reckon_b0 (J : Nat → Int32 → Int32 → Int32 → Int32 → Int32 → Sg → Prop) (Q : (Sg → Prop)) (v1 v2 v3 v4 v5 : Int32) (σ : Sg) : Prop :=
  J 1 0 0 0 0 0 σ
def q_Model_reckon_b1 (J : Nat → Int32 → Int32 → Int32 → Int32 → Int32 → Sg → Prop) (Q : (Sg → Prop)) (v1 v2 v3 v4 v5 : Int32) (σ : Sg) : Prop :=
  ((64 ≤ v1 → J 2 ((σ 0 19) - 1) 0 0 0 0 σ) ∧ (¬ 64 ≤ v1 → (vp_in (((64 : Int32) * (σ 0 19)) + v1) 832 ∧ J 1 (v1 + 1) 0 0 0 0 (sto σ 20 (((64 : Int32) * (σ 0 19)) + v1).toNatClampNeg 0))))
def q_Model_reckon_b2 (J : Nat → Int32 → Int32 → Int32 → Int32 → Int32 → Sg → Prop) (Q : (Sg → Prop)) (v1 v2 v3 v4 v5 : Int32) (σ : Sg) : Prop :=
  ((v1 < 0 → Q σ) ∧ (¬ v1 < 0 → J 3 v1 0 0 0 0 σ))
def q_Model_reckon_b3 (J : Nat → Int32 → Int32 → Int32 → Int32 → Int32 → Sg → Prop) (Q : (Sg → Prop)) (v1 v2 v3 v4 v5 : Int32) (σ : Sg) : Prop :=
  ((64 ≤ v2 → J 4 v1 0 0 0 0 σ) ∧ (¬ 64 ≤ v2 → (vp_in (((64 : Int32) * (v1 + 1)) + v2) 832 ∧ (vp_in (((64 : Int32) * v1) + v2) 832 ∧ J 3 v1 (v2 + 1) 0 0 0 (sto σ 20 (((64 : Int32) * v1) + v2).toNatClampNeg (σ 20 (((64 : Int32) * (v1 + 1)) + v2).toNatClampNeg))))))
def q_Model_reckon_b4 (J : Nat → Int32 → Int32 → Int32 → Int32 → Int32 → Sg → Prop) (Q : (Sg → Prop)) (v1 v2 v3 v4 v5 : Int32) (σ : Sg) : Prop :=
  (((σ 0 11) ≤ v2 → J 2 (v1 + (-1)) 0 0 0 0 σ) ∧ (¬ (σ 0 11) ≤ v2 → (q_Model_worth v1 v2 σ (fun r2 u1 => J 5 v1 v2 r2 0 0 u1))))
def q_Model_reckon_b5 (J : Nat → Int32 → Int32 → Int32 → Int32 → Int32 → Sg → Prop) (Q : (Sg → Prop)) (v1 v2 v3 v4 v5 : Int32) (σ : Sg) : Prop :=
  ((64 ≤ v4 → J 4 v1 (v2 + 1) 0 0 0 σ) ∧ (¬ 64 ≤ v4 → ((v3 < 0 → J 4 v1 (v2 + 1) 0 0 0 σ) ∧ (¬ v3 < 0 → ((((v4 >>> (v2 &&& 31)) &&& 1) = 1 → (vp_in (((64 : Int32) * (v1 + 1)) + (v4 &&& (((1 : Int32) <<< (v2 &&& 31)) ^^^ (-1)))) 832 ∧ (vp_in (((64 : Int32) * v1) + v4) 832 ∧ (((v3 + (σ 20 (((64 : Int32) * (v1 + 1)) + (v4 &&& (((1 : Int32) <<< (v2 &&& 31)) ^^^ (-1)))).toNatClampNeg)) ≤ (σ 20 (((64 : Int32) * v1) + v4).toNatClampNeg) → (vp_in (((64 : Int32) * v1) + v4) 832 ∧ (vp_in (((64 : Int32) * v1) + v4) 832 ∧ J 5 v1 v2 v3 (v4 + 1) 0 (sto σ 20 (((64 : Int32) * v1) + v4).toNatClampNeg (σ 20 (((64 : Int32) * v1) + v4).toNatClampNeg))))) ∧ (¬ (v3 + (σ 20 (((64 : Int32) * (v1 + 1)) + (v4 &&& (((1 : Int32) <<< (v2 &&& 31)) ^^^ (-1)))).toNatClampNeg)) ≤ (σ 20 (((64 : Int32) * v1) + v4).toNatClampNeg) → (vp_in (((64 : Int32) * v1) + v4) 832 ∧ J 5 v1 v2 v3 (v4 + 1) 0 (sto σ 20 (((64 : Int32) * v1) + v4).toNatClampNeg (v3 + (σ 20 (((64 : Int32) * (v1 + 1)) + (v4 &&& (((1 : Int32) <<< (v2 &&& 31)) ^^^ (-1)))).toNatClampNeg))))))))) ∧ (¬ ((v4 >>> (v2 &&& 31)) &&& 1) = 1 → (vp_in (((64 : Int32) * v1) + v4) 832 ∧ (((0 : Int32) ≤ (σ 20 (((64 : Int32) * v1) + v4).toNatClampNeg) → (vp_in (((64 : Int32) * v1) + v4) 832 ∧ (vp_in (((64 : Int32) * v1) + v4) 832 ∧ J 5 v1 v2 v3 (v4 + 1) 0 (sto σ 20 (((64 : Int32) * v1) + v4).toNatClampNeg (σ 20 (((64 : Int32) * v1) + v4).toNatClampNeg))))) ∧ (¬ (0 : Int32) ≤ (σ 20 (((64 : Int32) * v1) + v4).toNatClampNeg) → (vp_in (((64 : Int32) * v1) + v4) 832 ∧ J 5 v1 v2 v3 (v4 + 1) 0 (sto σ 20 (((64 : Int32) * v1) + v4).toNatClampNeg 0)))))))))))
def q_Model_reckon_j (Q : (Sg → Prop)) : Nat → Nat → Int32 → Int32 → Int32 → Int32 → Int32 → Sg → Prop
  | 0, _, _, _, _, _, _, _ => False
  | n + 1, 0, v1, v2, v3, v4, v5, σ => q_Model_reckon_b0 (q_Model_reckon_j Q n) Q v1 v2 v3 v4 v5 σ
  | n + 1, 1, v1, v2, v3, v4, v5, σ => q_Model_reckon_b1 (q_Model_reckon_j Q n) Q v1 v2 v3 v4 v5 σ
  | n + 1, 2, v1, v2, v3, v4, v5, σ => q_Model_reckon_b2 (q_Model_reckon_j Q n) Q v1 v2 v3 v4 v5 σ
  | n + 1, 3, v1, v2, v3, v4, v5, σ => q_Model_reckon_b3 (q_Model_reckon_j Q n) Q v1 v2 v3 v4 v5 σ
  | n + 1, 4, v1, v2, v3, v4, v5, σ => q_Model_reckon_b4 (q_Model_reckon_j Q n) Q v1 v2 v3 v4 v5 σ
  | n + 1, 5, v1, v2, v3, v4, v5, σ => q_Model_reckon_b5 (q_Model_reckon_j Q n) Q v1 v2 v3 v4 v5 σ
  | _ + 1, _ + 6, _, _, _, _, _, _ => False
def q_Model_reckon (σ : Sg) (Q : (Sg → Prop)) : Prop := q_Model_reckon_j Q 10000 0 0 0 0 0 0 σ
def lc_Model_reckon (ad : Nat → Nat) (b : Nat) (v1 v2 v3 v4 v5 : Int32) : List (Nat × Value) := match b with
  | 0 => [(0, .ref (ad 0))]
  | 1 => [(0, .ref (ad 0)), (1, .int v1)]
  | 2 => [(0, .ref (ad 0)), (1, .int v1)]
  | 3 => [(0, .ref (ad 0)), (1, .int v1), (2, .int v2)]
  | 4 => [(0, .ref (ad 0)), (1, .int v1), (2, .int v2)]
  | 5 => [(0, .ref (ad 0)), (1, .int v1), (2, .int v2), (3, .int v3), (4, .int v4)]
  | _ => []
def pc_Model_reckon (b : Nat) : Nat := match b with
  | 0 => 0
  | 1 => 2
  | 2 => 36
  | 3 => 42
  | 4 => 80
  | 5 => 98
  | _ => 0
set_option maxHeartbeats 4000000 in
set_option maxRecDepth 100000 in
theorem t_Model_reckon (l : Launch) (D : va_G) (cI cZ : ClassId) (ad : Nat → Nat) (inj : Inj ad 21) (σ : Sg) (Q : (Sg → Prop)) (h : q_Model_reckon σ Q) : Met l y_Model_reckon (.code y_Model_reckon prog_9_method_21_code 6 none :: TG) { frames := 3, cells := 0, slots := 0, locals := 68 } (va_Pc [.ref (ad 0)] (roB D (tysA cI cZ) (W_Model ad cI cZ σ))) (va_Qv Q (fun u t => va_P D classes (W_Model ad cI cZ u) t.heap) (inA ad 21)) 0 0 (inA ad 21) := by
  refine Met.ofW (cc := prog_9_method_21_code) (maxL := 6) (ret := none) (by decide) rfl ?_
  intro p e s m args below meth c s₁ B hml hv
  obtain ⟨rfl, hP, hK⟩ := hv
  have hx := B.exec
  have hb := B.bytes
  have hr := B.returns
  have hts : ∀ w ∈ TG, w.before [.ref (ad 0)].toArray s = true := fun w hw => atoms_spec (ws := .code y_Model_reckon prog_9_method_21_code 6 none :: TG) B.pre w (List.mem_cons_of_mem _ hw)
  have hown : s.vm.findClass "CarrierPathsModel" = some m.cls := findClass_of_methodNamed B.named
  have hlocks := B.notSynchronized
  have hS : va_S (inA ad 21) s.heap s.heap [] := va_S.rf
  have hl := lv_entry ([.ref (ad 0)]) (n := 6) (Nat.le_of_ble_eq_true rfl)
  rw [lg_entry_eq]
  generalize (lg_sl ([.ref (ad 0)]) ++ List.replicate (6 - (lg_sl ([.ref (ad 0)])).length) Slot.unset).toArray = ls at hl ⊢
  generalize ([.ref (ad 0)] : List Value).toArray = args at hts ⊢
  have key : ∀ (n b : Nat) (v1 v2 v3 v4 v5 : Int32) (σ : Sg), q_Model_reckon_j Q n b v1 v2 v3 v4 v5 σ → ∀ (H : Heap) (locs : List Loc) (ls : Array Slot), va_P D classes (W_Model ad cI cZ σ) H → va_S (inA ad 21) s.heap H locs → lv_has ls 6 (lc_Model_reckon ad b v1 v2 v3 v4 v5) → W p l e (headSpec (.code y_Model_reckon prog_9_method_21_code 6 none :: TG) { frames := 3, cells := 0, slots := 0, locals := 68 }).room s m args below meth c H locs 0 0 (MQ below (va_Qv Q (fun u t => va_P D classes (W_Model ad cI cZ u) t.heap) (inA ad 21)) args s 0 0 (inA ad 21)) (F0 m (pc_Model_reckon b) ls []) := by
    clear h hl hP hS
    intro n
    induction n with
    | zero => intro b _ _ _ _ _ _ h; exact False.elim h
    | succ n ih =>
      intro b v1 v2 v3 v4 v5 σ h H locs ls hP hS hl
      match b, h, hl with
      | 0, h, hl =>
        have h : q_Model_reckon_b0 (q_Model_reckon_j Q n) Q v1 v2 v3 v4 v5 σ := h
        have hl : lv_has ls 6 [(0, .ref (ad 0))] := hl
        refine W.eq (g2 := F0 m 0 ls []) rfl ?_
        unfold q_Model_reckon_b0 at h
        refine lv_iconst (v := 0) hx hb d_Model_reckon_0 (by decide) ?_
        refine lv_istore_n (lv' := [(1, .int 0), (0, .ref (ad 0))]) hx hb d_Model_reckon_1 rfl hl (by decide) rfl (fun ls hl => ?_)
        exact ih 1 0 0 0 0 0 σ h _ _ _ hP hS (lv_sub hl [1, 0] rfl)
      | 1, h, hl =>
        have h : q_Model_reckon_b1 (q_Model_reckon_j Q n) Q v1 v2 v3 v4 v5 σ := h
        have hl : lv_has ls 6 [(0, .ref (ad 0)), (1, .int v1)] := hl
        refine W.eq (g2 := F0 m 2 ls []) rfl ?_
        unfold q_Model_reckon_b1 at h
        refine lv_iload_n hx hb d_Model_reckon_2 rfl (lv_at hl 1 rfl) ?_
        refine lv_bipush (v := 64) hx hb d_Model_reckon_3 (by decide) ?_
        refine lv_icmp_ge (tgt := 29) hx hb d_Model_reckon_5 (by decide) (fun hc => ?_) (fun hc => ?_)
        · have h := h.1 hc
          refine lv_aload_n hx hb d_Model_reckon_29 rfl (lv_at hl 0 rfl) ?_
          refine va_get (D := D) (ci := 7) (v := .int (σ 0 19)) (C := "CarrierPathsModel") (T := F_Model) (N := 27) hx hb hts in_Model hown hK hP 0 rfl rfl 19 (by decide) (hts _ kw774) (fun _ h9 => h9) rfl d_Model_reckon_30 ?_
          refine lv_iconst (v := 1) hx hb d_Model_reckon_33 (by decide) ?_
          refine lv_isub hx hb d_Model_reckon_34 ?_
          refine lv_istore_n (lv' := [(1, .int ((σ 0 19) - 1)), (0, .ref (ad 0))]) hx hb d_Model_reckon_35 rfl hl (by decide) rfl (fun ls hl => ?_)
          exact ih 2 ((σ 0 19) - 1) 0 0 0 0 σ h _ _ _ hP hS (lv_sub hl [1, 0] rfl)
        · have h := h.2 hc
          refine lv_aload_n hx hb d_Model_reckon_8 rfl (lv_at hl 0 rfl) ?_
          refine va_get (D := D) (ci := 7) (v := .ref (ad 20)) (C := "CarrierPathsModel") (T := F_Model) (N := 27) hx hb hts in_Model hown hK hP 0 rfl rfl 26 (by decide) (hts _ kw781) (fun _ h9 => h9) rfl d_Model_reckon_9 ?_
          refine lv_bipush (v := 64) hx hb d_Model_reckon_12 (by decide) ?_
          refine lv_aload_n hx hb d_Model_reckon_14 rfl (lv_at hl 0 rfl) ?_
          refine va_get (D := D) (ci := 7) (v := .int (σ 0 19)) (C := "CarrierPathsModel") (T := F_Model) (N := 27) hx hb hts in_Model hown hK hP 0 rfl rfl 19 (by decide) (hts _ kw774) (fun _ h9 => h9) rfl d_Model_reckon_15 ?_
          refine lv_imul hx hb d_Model_reckon_18 ?_
          refine lv_iload_n hx hb d_Model_reckon_19 rfl (lv_at hl 1 rfl) ?_
          refine lv_iadd hx hb d_Model_reckon_20 ?_
          refine lv_iconst (v := 0) hx hb d_Model_reckon_21 (by decide) ?_
          obtain ⟨hi, h⟩ := h
          refine va_iast hx hb hK hP (D_Model inj) hS 20 0 rfl rfl hi d_Model_reckon_22 (fun H locs hP _ hS => ?_)
          have hP := up_Model_20 hP
          refine lv_iinc (v := (v1 + 1)) (lv' := [(1, .int (v1 + 1)), (0, .ref (ad 0))]) hx hb d_Model_reckon_23 hl (k := 1) rfl rfl (by decide) rfl (fun ls hl => ?_)
          refine lv_goto (tgt := 2) hx hb d_Model_reckon_26 (by decide) ?_
          exact ih 1 (v1 + 1) 0 0 0 0 (sto σ 20 (((64 : Int32) * (σ 0 19)) + v1).toNatClampNeg 0) h _ _ _ hP hS (lv_sub hl [1, 0] rfl)
      | 2, h, hl =>
        have h : q_Model_reckon_b2 (q_Model_reckon_j Q n) Q v1 v2 v3 v4 v5 σ := h
        have hl : lv_has ls 6 [(0, .ref (ad 0)), (1, .int v1)] := hl
        refine W.eq (g2 := F0 m 36 ls []) rfl ?_
        unfold q_Model_reckon_b2 at h
        refine lv_iload_n hx hb d_Model_reckon_36 rfl (lv_at hl 1 rfl) ?_
        refine lv_if_lt (tgt := 211) hx hb d_Model_reckon_37 (by decide) (fun hc => ?_) (fun hc => ?_)
        · have h := h.1 hc
          exact W.vret hx hb hr (fun t ht hW => ⟨⟨σ, rfl, h, hp_back ht hP⟩, hS.F ht⟩) hS.2.2 d_Model_reckon_211
        · have h := h.2 hc
          refine lv_iconst (v := 0) hx hb d_Model_reckon_40 (by decide) ?_
          refine lv_istore_n (lv' := [(2, .int 0), (0, .ref (ad 0)), (1, .int v1)]) hx hb d_Model_reckon_41 rfl hl (by decide) rfl (fun ls hl => ?_)
          exact ih 3 v1 0 0 0 0 σ h _ _ _ hP hS (lv_sub hl [1, 2, 0] rfl)
      | 3, h, hl =>
        have h : q_Model_reckon_b3 (q_Model_reckon_j Q n) Q v1 v2 v3 v4 v5 σ := h
        have hl : lv_has ls 6 [(0, .ref (ad 0)), (1, .int v1), (2, .int v2)] := hl
        refine W.eq (g2 := F0 m 42 ls []) rfl ?_
        unfold q_Model_reckon_b3 at h
        refine lv_iload_n hx hb d_Model_reckon_42 rfl (lv_at hl 2 rfl) ?_
        refine lv_bipush (v := 64) hx hb d_Model_reckon_43 (by decide) ?_
        refine lv_icmp_ge (tgt := 78) hx hb d_Model_reckon_45 (by decide) (fun hc => ?_) (fun hc => ?_)
        · have h := h.1 hc
          refine lv_iconst (v := 0) hx hb d_Model_reckon_78 (by decide) ?_
          refine lv_istore_n (lv' := [(2, .int 0), (0, .ref (ad 0)), (1, .int v1)]) hx hb d_Model_reckon_79 rfl hl (by decide) rfl (fun ls hl => ?_)
          exact ih 4 v1 0 0 0 0 σ h _ _ _ hP hS (lv_sub hl [1, 2, 0] rfl)
        · have h := h.2 hc
          refine lv_aload_n hx hb d_Model_reckon_48 rfl (lv_at hl 0 rfl) ?_
          refine va_get (D := D) (ci := 7) (v := .ref (ad 20)) (C := "CarrierPathsModel") (T := F_Model) (N := 27) hx hb hts in_Model hown hK hP 0 rfl rfl 26 (by decide) (hts _ kw781) (fun _ h9 => h9) rfl d_Model_reckon_49 ?_
          refine lv_bipush (v := 64) hx hb d_Model_reckon_52 (by decide) ?_
          refine lv_iload_n hx hb d_Model_reckon_54 rfl (lv_at hl 1 rfl) ?_
          refine lv_imul hx hb d_Model_reckon_55 ?_
          refine lv_iload_n hx hb d_Model_reckon_56 rfl (lv_at hl 2 rfl) ?_
          refine lv_iadd hx hb d_Model_reckon_57 ?_
          refine lv_aload_n hx hb d_Model_reckon_58 rfl (lv_at hl 0 rfl) ?_
          refine va_get (D := D) (ci := 7) (v := .ref (ad 20)) (C := "CarrierPathsModel") (T := F_Model) (N := 27) hx hb hts in_Model hown hK hP 0 rfl rfl 26 (by decide) (hts _ kw781) (fun _ h9 => h9) rfl d_Model_reckon_59 ?_
          refine lv_bipush (v := 64) hx hb d_Model_reckon_62 (by decide) ?_
          refine lv_iload_n hx hb d_Model_reckon_64 rfl (lv_at hl 1 rfl) ?_
          refine lv_iconst (v := 1) hx hb d_Model_reckon_65 (by decide) ?_
          refine lv_iadd hx hb d_Model_reckon_66 ?_
          refine lv_imul hx hb d_Model_reckon_67 ?_
          refine lv_iload_n hx hb d_Model_reckon_68 rfl (lv_at hl 2 rfl) ?_
          refine lv_iadd hx hb d_Model_reckon_69 ?_
          obtain ⟨hi, h⟩ := h
          refine va_iald hx hb hK hP 20 0 rfl rfl hi d_Model_reckon_70 ?_
          obtain ⟨hi, h⟩ := h
          refine va_iast hx hb hK hP (D_Model inj) hS 20 0 rfl rfl hi d_Model_reckon_71 (fun H locs hP _ hS => ?_)
          have hP := up_Model_20 hP
          refine lv_iinc (v := (v2 + 1)) (lv' := [(2, .int (v2 + 1)), (0, .ref (ad 0)), (1, .int v1)]) hx hb d_Model_reckon_72 hl (k := 2) rfl rfl (by decide) rfl (fun ls hl => ?_)
          refine lv_goto (tgt := 42) hx hb d_Model_reckon_75 (by decide) ?_
          exact ih 3 v1 (v2 + 1) 0 0 0 (sto σ 20 (((64 : Int32) * v1) + v2).toNatClampNeg (σ 20 (((64 : Int32) * (v1 + 1)) + v2).toNatClampNeg)) h _ _ _ hP hS (lv_sub hl [1, 2, 0] rfl)
      | 4, h, hl =>
        have h : q_Model_reckon_b4 (q_Model_reckon_j Q n) Q v1 v2 v3 v4 v5 σ := h
        have hl : lv_has ls 6 [(0, .ref (ad 0)), (1, .int v1), (2, .int v2)] := hl
        refine W.eq (g2 := F0 m 80 ls []) rfl ?_
        unfold q_Model_reckon_b4 at h
        refine lv_iload_n hx hb d_Model_reckon_80 rfl (lv_at hl 2 rfl) ?_
        refine lv_aload_n hx hb d_Model_reckon_81 rfl (lv_at hl 0 rfl) ?_
        refine va_get (D := D) (ci := 7) (v := .int (σ 0 11)) (C := "CarrierPathsModel") (T := F_Model) (N := 27) hx hb hts in_Model hown hK hP 0 rfl rfl 11 (by decide) (hts _ kw766) (fun _ h9 => h9) rfl d_Model_reckon_82 ?_
        refine lv_icmp_ge (tgt := 205) hx hb d_Model_reckon_85 (by decide) (fun hc => ?_) (fun hc => ?_)
        · have h := h.1 hc
          refine lv_iinc (v := (v1 + (-1))) (lv' := [(1, .int (v1 + (-1))), (0, .ref (ad 0)), (2, .int v2)]) hx hb d_Model_reckon_205 hl (k := 1) rfl rfl (by decide) rfl (fun ls hl => ?_)
          refine lv_goto (tgt := 36) hx hb d_Model_reckon_208 (by decide) ?_
          exact ih 2 (v1 + (-1)) 0 0 0 0 σ h _ _ _ hP hS (lv_sub hl [1, 0] rfl)
        · have h := h.2 hc
          refine lv_aload_n hx hb d_Model_reckon_88 rfl (lv_at hl 0 rfl) ?_
          refine lv_iload_n hx hb d_Model_reckon_89 rfl (lv_at hl 1 rfl) ?_
          refine lv_iload_n hx hb d_Model_reckon_90 rfl (lv_at hl 2 rfl) ?_
          refine va_calli (va_runV (As := [.int v1, .int v2]) (rest := []) ⟨hx, hb, hml, hown, hts⟩ (t_Model_worth l D cI cZ ad inj v1 v2 σ _ h) (cwV 2 hts (g_of kw901 kw903 kp28 kw9 kw904) rfl rfl rfl (by decide +kernel) ⟨Nat.le_of_ble_eq_true rfl, Nat.le_of_ble_eq_true rfl⟩) (ro_pre hK hP (va_recv hK hP (ci := 7) (q0 := 0) rfl rfl)) rfl rfl hl.1 rfl (lv_room (Nat.le_of_ble_eq_true rfl)) d_Model_reckon_91 ⟨Nat.le_of_ble_eq_true rfl, Nat.le_of_ble_eq_true rfl⟩) hS (fun _ _ h => h) (fun _ h => h) (fun r2 u1 t H1 locs ht _ h hP1 _ hk1 hS => ?_)
          have hP1 : va_P D classes (W_Model ad cI cZ u1) H1 := hp_fwd ht hP1
          clear hk1 ht
          generalize H1 = H at hP1 hS ⊢
          have hP := hP1
          refine lv_istore_n (lv' := [(3, .int r2), (0, .ref (ad 0)), (1, .int v1), (2, .int v2)]) hx hb d_Model_reckon_94 rfl hl (by decide) rfl (fun ls hl => ?_)
          refine lv_iconst (v := 0) hx hb d_Model_reckon_95 (by decide) ?_
          refine lv_istore (lv' := [(4, .int 0), (3, .int r2), (0, .ref (ad 0)), (1, .int v1), (2, .int v2)]) hx hb d_Model_reckon_96 hl (by decide) rfl (fun ls hl => ?_)
          exact ih 5 v1 v2 r2 0 0 u1 h _ _ _ hP hS (lv_sub hl [2, 3, 4, 1, 0] rfl)
      | 5, h, hl =>
        have h : q_Model_reckon_b5 (q_Model_reckon_j Q n) Q v1 v2 v3 v4 v5 σ := h
        have hl : lv_has ls 6 [(0, .ref (ad 0)), (1, .int v1), (2, .int v2), (3, .int v3), (4, .int v4)] := hl
        refine W.eq (g2 := F0 m 98 ls []) rfl ?_
        unfold q_Model_reckon_b5 at h
        refine lv_iload hx hb d_Model_reckon_98 (lv_at hl 4 rfl) ?_
        refine lv_bipush (v := 64) hx hb d_Model_reckon_100 (by decide) ?_
        refine lv_icmp_ge (tgt := 199) hx hb d_Model_reckon_102 (by decide) (fun hc => ?_) (fun hc => ?_)
        · have h := h.1 hc
          refine lv_iinc (v := (v2 + 1)) (lv' := [(2, .int (v2 + 1)), (0, .ref (ad 0)), (1, .int v1), (3, .int v3), (4, .int v4)]) hx hb d_Model_reckon_199 hl (k := 2) rfl rfl (by decide) rfl (fun ls hl => ?_)
          refine lv_goto (tgt := 80) hx hb d_Model_reckon_202 (by decide) ?_
          exact ih 4 v1 (v2 + 1) 0 0 0 σ h _ _ _ hP hS (lv_sub hl [1, 2, 0] rfl)
        · have h := h.2 hc
          refine lv_iload_n hx hb d_Model_reckon_105 rfl (lv_at hl 3 rfl) ?_
          refine lv_if_lt (tgt := 199) hx hb d_Model_reckon_106 (by decide) (fun hc => ?_) (fun hc => ?_)
          · have h := h.1 hc
            refine lv_iinc (v := (v2 + 1)) (lv' := [(2, .int (v2 + 1)), (0, .ref (ad 0)), (1, .int v1), (3, .int v3), (4, .int v4)]) hx hb d_Model_reckon_199 hl (k := 2) rfl rfl (by decide) rfl (fun ls hl => ?_)
            refine lv_goto (tgt := 80) hx hb d_Model_reckon_202 (by decide) ?_
            exact ih 4 v1 (v2 + 1) 0 0 0 σ h _ _ _ hP hS (lv_sub hl [1, 2, 0] rfl)
          · have h := h.2 hc
            refine lv_iload hx hb d_Model_reckon_109 (lv_at hl 4 rfl) ?_
            refine lv_iload_n hx hb d_Model_reckon_111 rfl (lv_at hl 2 rfl) ?_
            refine lv_ishr hx hb d_Model_reckon_112 ?_
            refine lv_iconst (v := 1) hx hb d_Model_reckon_113 (by decide) ?_
            refine lv_iand hx hb d_Model_reckon_114 ?_
            refine lv_iconst (v := 1) hx hb d_Model_reckon_115 (by decide) ?_
            refine lv_icmp_ne (tgt := 144) hx hb d_Model_reckon_116 (by decide) (fun hc => ?_) (fun hc => ?_)
            · have h := h.2 hc
              refine lv_iconst (v := 0) hx hb d_Model_reckon_144 (by decide) ?_
              refine lv_istore (lv' := [(5, .int 0), (0, .ref (ad 0)), (1, .int v1), (2, .int v2), (3, .int v3), (4, .int v4)]) hx hb d_Model_reckon_145 hl (by decide) rfl (fun ls hl => ?_)
              refine lv_aload_n hx hb d_Model_reckon_147 rfl (lv_at hl 1 rfl) ?_
              refine va_get (D := D) (ci := 7) (v := .ref (ad 20)) (C := "CarrierPathsModel") (T := F_Model) (N := 27) hx hb hts in_Model hown hK hP 0 rfl rfl 26 (by decide) (hts _ kw781) (fun _ h9 => h9) rfl d_Model_reckon_148 ?_
              refine lv_bipush (v := 64) hx hb d_Model_reckon_151 (by decide) ?_
              refine lv_iload_n hx hb d_Model_reckon_153 rfl (lv_at hl 2 rfl) ?_
              refine lv_imul hx hb d_Model_reckon_154 ?_
              refine lv_iload hx hb d_Model_reckon_155 (lv_at hl 5 rfl) ?_
              refine lv_iadd hx hb d_Model_reckon_157 ?_
              refine lv_iload hx hb d_Model_reckon_158 (lv_at hl 0 rfl) ?_
              refine lv_aload_n hx hb d_Model_reckon_160 rfl (lv_at hl 1 rfl) ?_
              refine va_get (D := D) (ci := 7) (v := .ref (ad 20)) (C := "CarrierPathsModel") (T := F_Model) (N := 27) hx hb hts in_Model hown hK hP 0 rfl rfl 26 (by decide) (hts _ kw781) (fun _ h9 => h9) rfl d_Model_reckon_161 ?_
              refine lv_bipush (v := 64) hx hb d_Model_reckon_164 (by decide) ?_
              refine lv_iload_n hx hb d_Model_reckon_166 rfl (lv_at hl 2 rfl) ?_
              refine lv_imul hx hb d_Model_reckon_167 ?_
              refine lv_iload hx hb d_Model_reckon_168 (lv_at hl 5 rfl) ?_
              refine lv_iadd hx hb d_Model_reckon_170 ?_
              obtain ⟨hi, h⟩ := h
              refine va_iald hx hb hK hP 20 0 rfl rfl hi d_Model_reckon_171 ?_
              refine lv_icmp_le (tgt := 180) hx hb d_Model_reckon_172 (by decide) (fun hc => ?_) (fun hc => ?_)
              · have h := h.1 hc
                refine lv_aload_n hx hb d_Model_reckon_180 rfl (lv_at hl 1 rfl) ?_
                refine va_get (D := D) (ci := 7) (v := .ref (ad 20)) (C := "CarrierPathsModel") (T := F_Model) (N := 27) hx hb hts in_Model hown hK hP 0 rfl rfl 26 (by decide) (hts _ kw781) (fun _ h9 => h9) rfl d_Model_reckon_181 ?_
                refine lv_bipush (v := 64) hx hb d_Model_reckon_184 (by decide) ?_
                refine lv_iload_n hx hb d_Model_reckon_186 rfl (lv_at hl 2 rfl) ?_
                refine lv_imul hx hb d_Model_reckon_187 ?_
                refine lv_iload hx hb d_Model_reckon_188 (lv_at hl 5 rfl) ?_
                refine lv_iadd hx hb d_Model_reckon_190 ?_
                obtain ⟨hi, h⟩ := h
                refine va_iald hx hb hK hP 20 0 rfl rfl hi d_Model_reckon_191 ?_
                obtain ⟨hi, h⟩ := h
                refine va_iast hx hb hK hP (D_Model inj) hS 20 0 rfl rfl hi d_Model_reckon_192 (fun H locs hP _ hS => ?_)
                have hP := up_Model_20 hP
                refine lv_iinc (v := (v4 + 1)) (lv' := [(4, .int (v4 + 1)), (5, .int 0), (0, .ref (ad 0)), (1, .int v1), (2, .int v2), (3, .int v3)]) hx hb d_Model_reckon_193 hl (k := 5) rfl rfl (by decide) rfl (fun ls hl => ?_)
                refine lv_goto (tgt := 98) hx hb d_Model_reckon_196 (by decide) ?_
                exact ih 5 v1 v2 v3 (v4 + 1) 0 (sto σ 20 (((64 : Int32) * v1) + v4).toNatClampNeg (σ 20 (((64 : Int32) * v1) + v4).toNatClampNeg)) h _ _ _ hP hS (lv_sub hl [2, 3, 4, 5, 0] rfl)
              · have h := h.2 hc
                refine lv_iload hx hb d_Model_reckon_175 (lv_at hl 0 rfl) ?_
                refine lv_goto (tgt := 192) hx hb d_Model_reckon_177 (by decide) ?_
                obtain ⟨hi, h⟩ := h
                refine va_iast hx hb hK hP (D_Model inj) hS 20 0 rfl rfl hi d_Model_reckon_192 (fun H locs hP _ hS => ?_)
                have hP := up_Model_20 hP
                refine lv_iinc (v := (v4 + 1)) (lv' := [(4, .int (v4 + 1)), (5, .int 0), (0, .ref (ad 0)), (1, .int v1), (2, .int v2), (3, .int v3)]) hx hb d_Model_reckon_193 hl (k := 5) rfl rfl (by decide) rfl (fun ls hl => ?_)
                refine lv_goto (tgt := 98) hx hb d_Model_reckon_196 (by decide) ?_
                exact ih 5 v1 v2 v3 (v4 + 1) 0 (sto σ 20 (((64 : Int32) * v1) + v4).toNatClampNeg 0) h _ _ _ hP hS (lv_sub hl [2, 3, 4, 5, 0] rfl)
            · have h := h.1 hc
              refine lv_iload_n hx hb d_Model_reckon_119 rfl (lv_at hl 3 rfl) ?_
              refine lv_aload_n hx hb d_Model_reckon_120 rfl (lv_at hl 0 rfl) ?_
              refine va_get (D := D) (ci := 7) (v := .ref (ad 20)) (C := "CarrierPathsModel") (T := F_Model) (N := 27) hx hb hts in_Model hown hK hP 0 rfl rfl 26 (by decide) (hts _ kw781) (fun _ h9 => h9) rfl d_Model_reckon_121 ?_
              refine lv_bipush (v := 64) hx hb d_Model_reckon_124 (by decide) ?_
              refine lv_iload_n hx hb d_Model_reckon_126 rfl (lv_at hl 1 rfl) ?_
              refine lv_iconst (v := 1) hx hb d_Model_reckon_127 (by decide) ?_
              refine lv_iadd hx hb d_Model_reckon_128 ?_
              refine lv_imul hx hb d_Model_reckon_129 ?_
              refine lv_iload hx hb d_Model_reckon_130 (lv_at hl 4 rfl) ?_
              refine lv_iconst (v := 1) hx hb d_Model_reckon_132 (by decide) ?_
              refine lv_iload_n hx hb d_Model_reckon_133 rfl (lv_at hl 2 rfl) ?_
              refine lv_ishl hx hb d_Model_reckon_134 ?_
              refine lv_iconst (v := (-1)) hx hb d_Model_reckon_135 (by decide) ?_
              refine lv_ixor hx hb d_Model_reckon_136 ?_
              refine lv_iand hx hb d_Model_reckon_137 ?_
              refine lv_iadd hx hb d_Model_reckon_138 ?_
              obtain ⟨hi, h⟩ := h
              refine va_iald hx hb hK hP 20 0 rfl rfl hi d_Model_reckon_139 ?_
              refine lv_iadd hx hb d_Model_reckon_140 ?_
              refine lv_goto (tgt := 145) hx hb d_Model_reckon_141 (by decide) ?_
              refine lv_istore (lv' := [(5, .int (v3 + (σ 20 (((64 : Int32) * (v1 + 1)) + (v4 &&& (((1 : Int32) <<< (v2 &&& 31)) ^^^ (-1)))).toNatClampNeg))), (0, .ref (ad 0)), (1, .int v1), (2, .int v2), (3, .int v3), (4, .int v4)]) hx hb d_Model_reckon_145 hl (by decide) rfl (fun ls hl => ?_)
              refine lv_aload_n hx hb d_Model_reckon_147 rfl (lv_at hl 1 rfl) ?_
              refine va_get (D := D) (ci := 7) (v := .ref (ad 20)) (C := "CarrierPathsModel") (T := F_Model) (N := 27) hx hb hts in_Model hown hK hP 0 rfl rfl 26 (by decide) (hts _ kw781) (fun _ h9 => h9) rfl d_Model_reckon_148 ?_
              refine lv_bipush (v := 64) hx hb d_Model_reckon_151 (by decide) ?_
              refine lv_iload_n hx hb d_Model_reckon_153 rfl (lv_at hl 2 rfl) ?_
              refine lv_imul hx hb d_Model_reckon_154 ?_
              refine lv_iload hx hb d_Model_reckon_155 (lv_at hl 5 rfl) ?_
              refine lv_iadd hx hb d_Model_reckon_157 ?_
              refine lv_iload hx hb d_Model_reckon_158 (lv_at hl 0 rfl) ?_
              refine lv_aload_n hx hb d_Model_reckon_160 rfl (lv_at hl 1 rfl) ?_
              refine va_get (D := D) (ci := 7) (v := .ref (ad 20)) (C := "CarrierPathsModel") (T := F_Model) (N := 27) hx hb hts in_Model hown hK hP 0 rfl rfl 26 (by decide) (hts _ kw781) (fun _ h9 => h9) rfl d_Model_reckon_161 ?_
              refine lv_bipush (v := 64) hx hb d_Model_reckon_164 (by decide) ?_
              refine lv_iload_n hx hb d_Model_reckon_166 rfl (lv_at hl 2 rfl) ?_
              refine lv_imul hx hb d_Model_reckon_167 ?_
              refine lv_iload hx hb d_Model_reckon_168 (lv_at hl 5 rfl) ?_
              refine lv_iadd hx hb d_Model_reckon_170 ?_
              obtain ⟨hi, h⟩ := h
              refine va_iald hx hb hK hP 20 0 rfl rfl hi d_Model_reckon_171 ?_
              refine lv_icmp_le (tgt := 180) hx hb d_Model_reckon_172 (by decide) (fun hc => ?_) (fun hc => ?_)
              · have h := h.1 hc
                refine lv_aload_n hx hb d_Model_reckon_180 rfl (lv_at hl 1 rfl) ?_
                refine va_get (D := D) (ci := 7) (v := .ref (ad 20)) (C := "CarrierPathsModel") (T := F_Model) (N := 27) hx hb hts in_Model hown hK hP 0 rfl rfl 26 (by decide) (hts _ kw781) (fun _ h9 => h9) rfl d_Model_reckon_181 ?_
                refine lv_bipush (v := 64) hx hb d_Model_reckon_184 (by decide) ?_
                refine lv_iload_n hx hb d_Model_reckon_186 rfl (lv_at hl 2 rfl) ?_
                refine lv_imul hx hb d_Model_reckon_187 ?_
                refine lv_iload hx hb d_Model_reckon_188 (lv_at hl 5 rfl) ?_
                refine lv_iadd hx hb d_Model_reckon_190 ?_
                obtain ⟨hi, h⟩ := h
                refine va_iald hx hb hK hP 20 0 rfl rfl hi d_Model_reckon_191 ?_
                obtain ⟨hi, h⟩ := h
                refine va_iast hx hb hK hP (D_Model inj) hS 20 0 rfl rfl hi d_Model_reckon_192 (fun H locs hP _ hS => ?_)
                have hP := up_Model_20 hP
                refine lv_iinc (v := (v4 + 1)) (lv' := [(4, .int (v4 + 1)), (5, .int (v3 + (σ 20 (((64 : Int32) * (v1 + 1)) + (v4 &&& (((1 : Int32) <<< (v2 &&& 31)) ^^^ (-1)))).toNatClampNeg))), (0, .ref (ad 0)), (1, .int v1), (2, .int v2), (3, .int v3)]) hx hb d_Model_reckon_193 hl (k := 5) rfl rfl (by decide) rfl (fun ls hl => ?_)
                refine lv_goto (tgt := 98) hx hb d_Model_reckon_196 (by decide) ?_
                exact ih 5 v1 v2 v3 (v4 + 1) 0 (sto σ 20 (((64 : Int32) * v1) + v4).toNatClampNeg (σ 20 (((64 : Int32) * v1) + v4).toNatClampNeg)) h _ _ _ hP hS (lv_sub hl [2, 3, 4, 5, 0] rfl)
              · have h := h.2 hc
                refine lv_iload hx hb d_Model_reckon_175 (lv_at hl 0 rfl) ?_
                refine lv_goto (tgt := 192) hx hb d_Model_reckon_177 (by decide) ?_
                obtain ⟨hi, h⟩ := h
                refine va_iast hx hb hK hP (D_Model inj) hS 20 0 rfl rfl hi d_Model_reckon_192 (fun H locs hP _ hS => ?_)
                have hP := up_Model_20 hP
                refine lv_iinc (v := (v4 + 1)) (lv' := [(4, .int (v4 + 1)), (5, .int (v3 + (σ 20 (((64 : Int32) * (v1 + 1)) + (v4 &&& (((1 : Int32) <<< (v2 &&& 31)) ^^^ (-1)))).toNatClampNeg))), (0, .ref (ad 0)), (1, .int v1), (2, .int v2), (3, .int v3)]) hx hb d_Model_reckon_193 hl (k := 5) rfl rfl (by decide) rfl (fun ls hl => ?_)
                refine lv_goto (tgt := 98) hx hb d_Model_reckon_196 (by decide) ?_
                exact ih 5 v1 v2 v3 (v4 + 1) 0 (sto σ 20 (((64 : Int32) * v1) + v4).toNatClampNeg (v3 + (σ 20 (((64 : Int32) * (v1 + 1)) + (v4 &&& (((1 : Int32) <<< (v2 &&& 31)) ^^^ (-1)))).toNatClampNeg))) h _ _ _ hP hS (lv_sub hl [2, 3, 4, 5, 0] rfl)
      | _ + 6, h, _ => exact False.elim h
  exact key 10000 0 0 0 0 0 0 σ h s.heap [] ls hP hS hl
def q_Model_assign_b0 (J : Nat → Int32 → Int32 → Int32 → Int32 → Int32 → Int32 → Int32 → Sg → Prop) (Q : (Int32 → Sg → Prop)) (v1 v2 v3 v4 v5 v6 v7 : Int32) (σ : Sg) : Prop :=
  (q_Model_reckon (sto σ 0 0 0) (fun u1 => J 1 63 0 0 0 0 0 0 u1))
def q_Model_assign_b1 (J : Nat → Int32 → Int32 → Int32 → Int32 → Int32 → Int32 → Int32 → Sg → Prop) (Q : (Int32 → Sg → Prop)) (v1 v2 v3 v4 v5 v6 v7 : Int32) (σ : Sg) : Prop :=
  (((σ 0 19) ≤ v4 → ((v3 = 0 → Q (-1) σ) ∧ (¬ v3 = 0 → Q v2 σ))) ∧ (¬ (σ 0 19) ≤ v4 → J 2 v1 v2 v3 v4 (-1) ((σ 0 11) - 1) 0 σ))
def q_Model_assign_b2 (J : Nat → Int32 → Int32 → Int32 → Int32 → Int32 → Int32 → Int32 → Sg → Prop) (Q : (Int32 → Sg → Prop)) (v1 v2 v3 v4 v5 v6 v7 : Int32) (σ : Sg) : Prop :=
  ((v6 < 0 → ((v5 = (-1) → J 1 v1 v2 v3 (v4 + 1) 0 0 0 σ) ∧ (¬ v5 = (-1) → (vp_in v5 6 ∧ (vp_in v4 12 ∧ (q_Model_timeTo (σ 8 v5.toNatClampNeg) (σ 15 v4.toNatClampNeg) σ (fun r3 u2 => (vp_in v4 12 ∧ (vp_in v4 12 ∧ (vp_in v5 6 ∧ J 1 (v1 &&& (((1 : Int32) <<< (v5 &&& 31)) ^^^ (-1))) (v2 + r3) (v3 + 1) (v4 + 1) 0 0 0 (sto (sto (sto u2 17 v4.toNatClampNeg 1) 18 v4.toNatClampNeg v5) 11 v5.toNatClampNeg v4))))))))))) ∧ (¬ v6 < 0 → ((((v1 >>> (v6 &&& 31)) &&& 1) = 1 → (q_Model_worth v4 v6 σ (fun r5 u4 => ((r5 < 0 → J 2 v1 v2 v3 v4 v5 (v6 + (-1)) 0 u4) ∧ (¬ r5 < 0 → (vp_in (((64 : Int32) * (v4 + 1)) + (v1 &&& (((1 : Int32) <<< (v6 &&& 31)) ^^^ (-1)))) 832 ∧ (vp_in (((64 : Int32) * v4) + v1) 832 ∧ (((r5 + (u4 20 (((64 : Int32) * (v4 + 1)) + (v1 &&& (((1 : Int32) <<< (v6 &&& 31)) ^^^ (-1)))).toNatClampNeg)) = (u4 20 (((64 : Int32) * v4) + v1).toNatClampNeg) → J 2 v1 v2 v3 v4 v6 (v6 + (-1)) 0 u4) ∧ (¬ (r5 + (u4 20 (((64 : Int32) * (v4 + 1)) + (v1 &&& (((1 : Int32) <<< (v6 &&& 31)) ^^^ (-1)))).toNatClampNeg)) = (u4 20 (((64 : Int32) * v4) + v1).toNatClampNeg) → J 2 v1 v2 v3 v4 v5 (v6 + (-1)) 0 u4))))))))) ∧ (¬ ((v1 >>> (v6 &&& 31)) &&& 1) = 1 → J 2 v1 v2 v3 v4 v5 (v6 + (-1)) 0 σ))))
def q_Model_assign_j (Q : (Int32 → Sg → Prop)) : Nat → Nat → Int32 → Int32 → Int32 → Int32 → Int32 → Int32 → Int32 → Sg → Prop
  | 0, _, _, _, _, _, _, _, _, _ => False
  | n + 1, 0, v1, v2, v3, v4, v5, v6, v7, σ => q_Model_assign_b0 (q_Model_assign_j Q n) Q v1 v2 v3 v4 v5 v6 v7 σ
  | n + 1, 1, v1, v2, v3, v4, v5, v6, v7, σ => q_Model_assign_b1 (q_Model_assign_j Q n) Q v1 v2 v3 v4 v5 v6 v7 σ
  | n + 1, 2, v1, v2, v3, v4, v5, v6, v7, σ => q_Model_assign_b2 (q_Model_assign_j Q n) Q v1 v2 v3 v4 v5 v6 v7 σ
  | _ + 1, _ + 3, _, _, _, _, _, _, _, _ => False
def q_Model_assign (σ : Sg) (Q : (Int32 → Sg → Prop)) : Prop := q_Model_assign_j Q 4000 0 0 0 0 0 0 0 0 σ
def lc_Model_assign (ad : Nat → Nat) (b : Nat) (v1 v2 v3 v4 v5 v6 v7 : Int32) : List (Nat × Value) := match b with
  | 0 => [(0, .ref (ad 0))]
  | 1 => [(0, .ref (ad 0)), (1, .int v1), (2, .int v2), (3, .int v3), (4, .int v4)]
  | 2 => [(0, .ref (ad 0)), (1, .int v1), (2, .int v2), (3, .int v3), (4, .int v4), (5, .int v5), (6, .int v6)]
  | _ => []
def pc_Model_assign (b : Nat) : Nat := match b with
  | 0 => 0
  | 1 => 19
  | 2 => 39
  | _ => 0
set_option maxHeartbeats 4000000 in
set_option maxRecDepth 100000 in
theorem t_Model_assign (l : Launch) (D : va_G) (cI cZ : ClassId) (ad : Nat → Nat) (inj : Inj ad 21) (σ : Sg) (Q : (Int32 → Sg → Prop)) (h : q_Model_assign σ Q) : Met l y_Model_assign (.code y_Model_assign prog_9_method_22_code 8 (some .int) :: TG) { frames := 4, cells := 0, slots := 0, locals := 93 } (va_Pc [.ref (ad 0)] (roB D (tysA cI cZ) (W_Model ad cI cZ σ))) (va_Qi Q (fun u t => va_P D classes (W_Model ad cI cZ u) t.heap) (inA ad 21)) 0 0 (inA ad 21) := by
  refine Met.ofW (cc := prog_9_method_22_code) (maxL := 8) (ret := (some .int)) (by decide) rfl ?_
  intro p e s m args below meth c s₁ B hml hv
  obtain ⟨rfl, hP, hK⟩ := hv
  have hx := B.exec
  have hb := B.bytes
  have hr := B.returns
  have hts : ∀ w ∈ TG, w.before [.ref (ad 0)].toArray s = true := fun w hw => atoms_spec (ws := .code y_Model_assign prog_9_method_22_code 8 (some .int) :: TG) B.pre w (List.mem_cons_of_mem _ hw)
  have hown : s.vm.findClass "CarrierPathsModel" = some m.cls := findClass_of_methodNamed B.named
  have hlocks := B.notSynchronized
  have hS : va_S (inA ad 21) s.heap s.heap [] := va_S.rf
  have hl := lv_entry ([.ref (ad 0)]) (n := 8) (Nat.le_of_ble_eq_true rfl)
  rw [lg_entry_eq]
  generalize (lg_sl ([.ref (ad 0)]) ++ List.replicate (8 - (lg_sl ([.ref (ad 0)])).length) Slot.unset).toArray = ls at hl ⊢
  generalize ([.ref (ad 0)] : List Value).toArray = args at hts ⊢
  have key : ∀ (n b : Nat) (v1 v2 v3 v4 v5 v6 v7 : Int32) (σ : Sg), q_Model_assign_j Q n b v1 v2 v3 v4 v5 v6 v7 σ → ∀ (H : Heap) (locs : List Loc) (ls : Array Slot), va_P D classes (W_Model ad cI cZ σ) H → va_S (inA ad 21) s.heap H locs → lv_has ls 8 (lc_Model_assign ad b v1 v2 v3 v4 v5 v6 v7) → W p l e (headSpec (.code y_Model_assign prog_9_method_22_code 8 (some .int) :: TG) { frames := 4, cells := 0, slots := 0, locals := 93 }).room s m args below meth c H locs 0 0 (MQ below (va_Qi Q (fun u t => va_P D classes (W_Model ad cI cZ u) t.heap) (inA ad 21)) args s 0 0 (inA ad 21)) (F0 m (pc_Model_assign b) ls []) := by
    clear h hl hP hS
    intro n
    induction n with
    | zero => intro b _ _ _ _ _ _ _ _ h; exact False.elim h
    | succ n ih =>
      intro b v1 v2 v3 v4 v5 v6 v7 σ h H locs ls hP hS hl
      match b, h, hl with
      | 0, h, hl =>
        have h : q_Model_assign_b0 (q_Model_assign_j Q n) Q v1 v2 v3 v4 v5 v6 v7 σ := h
        have hl : lv_has ls 8 [(0, .ref (ad 0))] := hl
        refine W.eq (g2 := F0 m 0 ls []) rfl ?_
        unfold q_Model_assign_b0 at h
        refine lv_aload_n hx hb d_Model_assign_0 rfl (lv_at hl 0 rfl) ?_
        refine lv_iconst (v := 0) hx hb d_Model_assign_1 (by decide) ?_
        refine va_put (D := D) (ci := 7) (v := .int 0) (ty := .int) (C := "CarrierPathsModel") (T := F_Model) (N := 27) hx hb hts in_Model ty_Model ty_Model_ok nm_Model hown hK hP (D_Model inj) hS 0 rfl rfl 0 (by decide) (hts _ kw755) (fun _ h9 => h9) rfl (by decide +kernel) rfl rfl (Nat.le_of_ble_eq_true rfl) d_Model_assign_2 (fun H locs hP _ hS => ?_)
        have hP := up_Model_f0 hP
        refine lv_aload_n hx hb d_Model_assign_5 rfl (lv_at hl 0 rfl) ?_
        refine va_callv (va_runV (As := []) (rest := []) ⟨hx, hb, hml, hown, hts⟩ (t_Model_reckon l D cI cZ ad inj (sto σ 0 0 0) _ h) (cwV 0 hts (g_of kw897 kw899 kp27 kw9 kw900) rfl rfl rfl (by decide +kernel) ⟨Nat.le_of_ble_eq_true rfl, Nat.le_of_ble_eq_true rfl⟩) (ro_pre hK hP (va_recv hK hP (ci := 7) (q0 := 0) rfl rfl)) rfl rfl hl.1 rfl (lv_room (Nat.le_of_ble_eq_true rfl)) d_Model_assign_6 ⟨Nat.le_of_ble_eq_true rfl, Nat.le_of_ble_eq_true rfl⟩) hS (fun _ _ h => h) (fun _ h => h) (fun u1 t H1 locs ht _ h hP1 _ hk1 hS => ?_)
        have hP1 : va_P D classes (W_Model ad cI cZ u1) H1 := hp_fwd ht hP1
        clear hk1 ht
        generalize H1 = H at hP1 hS ⊢
        have hP := hP1
        refine lv_bipush (v := 63) hx hb d_Model_assign_9 (by decide) ?_
        refine lv_istore_n (lv' := [(1, .int 63), (0, .ref (ad 0))]) hx hb d_Model_assign_11 rfl hl (by decide) rfl (fun ls hl => ?_)
        refine lv_iconst (v := 0) hx hb d_Model_assign_12 (by decide) ?_
        refine lv_istore_n (lv' := [(2, .int 0), (1, .int 63), (0, .ref (ad 0))]) hx hb d_Model_assign_13 rfl hl (by decide) rfl (fun ls hl => ?_)
        refine lv_iconst (v := 0) hx hb d_Model_assign_14 (by decide) ?_
        refine lv_istore_n (lv' := [(3, .int 0), (2, .int 0), (1, .int 63), (0, .ref (ad 0))]) hx hb d_Model_assign_15 rfl hl (by decide) rfl (fun ls hl => ?_)
        refine lv_iconst (v := 0) hx hb d_Model_assign_16 (by decide) ?_
        refine lv_istore (lv' := [(4, .int 0), (3, .int 0), (2, .int 0), (1, .int 63), (0, .ref (ad 0))]) hx hb d_Model_assign_17 hl (by decide) rfl (fun ls hl => ?_)
        exact ih 1 63 0 0 0 0 0 0 u1 h _ _ _ hP hS (lv_sub hl [4, 3, 2, 1, 0] rfl)
      | 1, h, hl =>
        have h : q_Model_assign_b1 (q_Model_assign_j Q n) Q v1 v2 v3 v4 v5 v6 v7 σ := h
        have hl : lv_has ls 8 [(0, .ref (ad 0)), (1, .int v1), (2, .int v2), (3, .int v3), (4, .int v4)] := hl
        refine W.eq (g2 := F0 m 19 ls []) rfl ?_
        unfold q_Model_assign_b1 at h
        refine lv_iload hx hb d_Model_assign_19 (lv_at hl 4 rfl) ?_
        refine lv_aload_n hx hb d_Model_assign_21 rfl (lv_at hl 0 rfl) ?_
        refine va_get (D := D) (ci := 7) (v := .int (σ 0 19)) (C := "CarrierPathsModel") (T := F_Model) (N := 27) hx hb hts in_Model hown hK hP 0 rfl rfl 19 (by decide) (hts _ kw774) (fun _ h9 => h9) rfl d_Model_assign_22 ?_
        refine lv_icmp_ge (tgt := 198) hx hb d_Model_assign_25 (by decide) (fun hc => ?_) (fun hc => ?_)
        · have h := h.1 hc
          refine lv_iload_n hx hb d_Model_assign_198 rfl (lv_at hl 3 rfl) ?_
          refine lv_if_ne (tgt := 206) hx hb d_Model_assign_199 (by decide) (fun hc => ?_) (fun hc => ?_)
          · have h := h.2 hc
            refine lv_iload_n hx hb d_Model_assign_206 rfl (lv_at hl 2 rfl) ?_
            exact W.iret (v := v2) hx hb hr (fun t ht hW => ⟨⟨v2, σ, rfl, h, hp_back ht hP⟩, hS.F ht⟩) hS.2.2 d_Model_assign_207
          · have h := h.1 hc
            refine lv_iconst (v := (-1)) hx hb d_Model_assign_202 (by decide) ?_
            refine lv_goto (tgt := 207) hx hb d_Model_assign_203 (by decide) ?_
            exact W.iret (v := (-1)) hx hb hr (fun t ht hW => ⟨⟨(-1), σ, rfl, h, hp_back ht hP⟩, hS.F ht⟩) hS.2.2 d_Model_assign_207
        · have h := h.2 hc
          refine lv_iconst (v := (-1)) hx hb d_Model_assign_28 (by decide) ?_
          refine lv_istore (lv' := [(5, .int (-1)), (0, .ref (ad 0)), (1, .int v1), (2, .int v2), (3, .int v3), (4, .int v4)]) hx hb d_Model_assign_29 hl (by decide) rfl (fun ls hl => ?_)
          refine lv_aload_n hx hb d_Model_assign_31 rfl (lv_at hl 1 rfl) ?_
          refine va_get (D := D) (ci := 7) (v := .int (σ 0 11)) (C := "CarrierPathsModel") (T := F_Model) (N := 27) hx hb hts in_Model hown hK hP 0 rfl rfl 11 (by decide) (hts _ kw766) (fun _ h9 => h9) rfl d_Model_assign_32 ?_
          refine lv_iconst (v := 1) hx hb d_Model_assign_35 (by decide) ?_
          refine lv_isub hx hb d_Model_assign_36 ?_
          refine lv_istore (lv' := [(6, .int ((σ 0 11) - 1)), (5, .int (-1)), (0, .ref (ad 0)), (1, .int v1), (2, .int v2), (3, .int v3), (4, .int v4)]) hx hb d_Model_assign_37 hl (by decide) rfl (fun ls hl => ?_)
          exact ih 2 v1 v2 v3 v4 (-1) ((σ 0 11) - 1) 0 σ h _ _ _ hP hS (lv_sub hl [2, 3, 4, 5, 6, 1, 0] rfl)
      | 2, h, hl =>
        have h : q_Model_assign_b2 (q_Model_assign_j Q n) Q v1 v2 v3 v4 v5 v6 v7 σ := h
        have hl : lv_has ls 8 [(0, .ref (ad 0)), (1, .int v1), (2, .int v2), (3, .int v3), (4, .int v4), (5, .int v5), (6, .int v6)] := hl
        refine W.eq (g2 := F0 m 39 ls []) rfl ?_
        unfold q_Model_assign_b2 at h
        refine lv_iload hx hb d_Model_assign_39 (lv_at hl 6 rfl) ?_
        refine lv_if_lt (tgt := 127) hx hb d_Model_assign_41 (by decide) (fun hc => ?_) (fun hc => ?_)
        · have h := h.1 hc
          refine lv_iload hx hb d_Model_assign_127 (lv_at hl 5 rfl) ?_
          refine lv_iconst (v := (-1)) hx hb d_Model_assign_129 (by decide) ?_
          refine lv_icmp_eq (tgt := 192) hx hb d_Model_assign_130 (by decide) (fun hc => ?_) (fun hc => ?_)
          · have h := h.1 hc
            refine lv_iinc (v := (v4 + 1)) (lv' := [(4, .int (v4 + 1)), (0, .ref (ad 0)), (1, .int v1), (2, .int v2), (3, .int v3), (5, .int v5), (6, .int v6)]) hx hb d_Model_assign_192 hl (k := 4) rfl rfl (by decide) rfl (fun ls hl => ?_)
            refine lv_goto (tgt := 19) hx hb d_Model_assign_195 (by decide) ?_
            exact ih 1 v1 v2 v3 (v4 + 1) 0 0 0 σ h _ _ _ hP hS (lv_sub hl [1, 2, 3, 4, 0] rfl)
          · have h := h.2 hc
            refine lv_iload_n hx hb d_Model_assign_133 rfl (lv_at hl 2 rfl) ?_
            refine lv_aload_n hx hb d_Model_assign_134 rfl (lv_at hl 0 rfl) ?_
            refine lv_aload_n hx hb d_Model_assign_135 rfl (lv_at hl 0 rfl) ?_
            refine va_get (D := D) (ci := 7) (v := .ref (ad 8)) (C := "CarrierPathsModel") (T := F_Model) (N := 27) hx hb hts in_Model hown hK hP 0 rfl rfl 12 (by decide) (hts _ kw767) (fun _ h9 => h9) rfl d_Model_assign_136 ?_
            refine lv_iload hx hb d_Model_assign_139 (lv_at hl 5 rfl) ?_
            obtain ⟨hi, h⟩ := h
            refine va_iald hx hb hK hP 8 0 rfl rfl hi d_Model_assign_141 ?_
            refine lv_aload_n hx hb d_Model_assign_142 rfl (lv_at hl 0 rfl) ?_
            refine va_get (D := D) (ci := 7) (v := .ref (ad 15)) (C := "CarrierPathsModel") (T := F_Model) (N := 27) hx hb hts in_Model hown hK hP 0 rfl rfl 20 (by decide) (hts _ kw775) (fun _ h9 => h9) rfl d_Model_assign_143 ?_
            refine lv_iload hx hb d_Model_assign_146 (lv_at hl 4 rfl) ?_
            obtain ⟨hi, h⟩ := h
            refine va_iald hx hb hK hP 15 0 rfl rfl hi d_Model_assign_148 ?_
            refine va_calli (va_runV (As := [.int (σ 8 v5.toNatClampNeg), .int (σ 15 v4.toNatClampNeg)]) (rest := [.int v2]) ⟨hx, hb, hml, hown, hts⟩ (t_Model_timeTo l D cI cZ ad inj (σ 8 v5.toNatClampNeg) (σ 15 v4.toNatClampNeg) σ _ h) (cwV 2 hts (g_of kw905 kw907 kp29 kw9 kw908) rfl rfl rfl (by decide +kernel) ⟨Nat.le_of_ble_eq_true rfl, Nat.le_of_ble_eq_true rfl⟩) (ro_pre hK hP (va_recv hK hP (ci := 7) (q0 := 0) rfl rfl)) rfl rfl hl.1 rfl (lv_room (Nat.le_of_ble_eq_true rfl)) d_Model_assign_149 ⟨Nat.le_of_ble_eq_true rfl, Nat.le_of_ble_eq_true rfl⟩) hS (fun _ _ h => h) (fun _ h => h) (fun r3 u2 t H1 locs ht _ h hP1 _ hk1 hS => ?_)
            have hP1 : va_P D classes (W_Model ad cI cZ u2) H1 := hp_fwd ht hP1
            clear hk1 ht
            generalize H1 = H at hP1 hS ⊢
            have hP := hP1
            refine lv_iadd hx hb d_Model_assign_152 ?_
            refine lv_istore_n (lv' := [(2, .int (v2 + r3)), (0, .ref (ad 0)), (1, .int v1), (3, .int v3), (4, .int v4), (5, .int v5), (6, .int v6)]) hx hb d_Model_assign_153 rfl hl (by decide) rfl (fun ls hl => ?_)
            refine lv_iinc (v := (v3 + 1)) (lv' := [(3, .int (v3 + 1)), (2, .int (v2 + r3)), (0, .ref (ad 0)), (1, .int v1), (4, .int v4), (5, .int v5), (6, .int v6)]) hx hb d_Model_assign_154 hl (k := 3) rfl rfl (by decide) rfl (fun ls hl => ?_)
            refine lv_aload_n hx hb d_Model_assign_157 rfl (lv_at hl 2 rfl) ?_
            refine va_get (D := D) (ci := 7) (v := .ref (ad 17)) (C := "CarrierPathsModel") (T := F_Model) (N := 27) hx hb hts in_Model hown hK hP 0 rfl rfl 22 (by decide) (hts _ kw777) (fun _ h9 => h9) rfl d_Model_assign_158 ?_
            refine lv_iload hx hb d_Model_assign_161 (lv_at hl 4 rfl) ?_
            refine lv_iconst (v := 1) hx hb d_Model_assign_163 (by decide) ?_
            obtain ⟨hi, h⟩ := h
            refine va_iast hx hb hK hP (D_Model inj) hS 17 0 rfl rfl hi d_Model_assign_164 (fun H locs hP _ hS => ?_)
            have hP := up_Model_17 hP
            refine lv_aload_n hx hb d_Model_assign_165 rfl (lv_at hl 2 rfl) ?_
            refine va_get (D := D) (ci := 7) (v := .ref (ad 18)) (C := "CarrierPathsModel") (T := F_Model) (N := 27) hx hb hts in_Model hown hK hP 0 rfl rfl 23 (by decide) (hts _ kw778) (fun _ h9 => h9) rfl d_Model_assign_166 ?_
            refine lv_iload hx hb d_Model_assign_169 (lv_at hl 4 rfl) ?_
            refine lv_iload hx hb d_Model_assign_171 (lv_at hl 5 rfl) ?_
            obtain ⟨hi, h⟩ := h
            refine va_iast hx hb hK hP (D_Model inj) hS 18 0 rfl rfl hi d_Model_assign_173 (fun H locs hP _ hS => ?_)
            have hP := up_Model_18 hP
            refine lv_aload_n hx hb d_Model_assign_174 rfl (lv_at hl 2 rfl) ?_
            refine va_get (D := D) (ci := 7) (v := .ref (ad 11)) (C := "CarrierPathsModel") (T := F_Model) (N := 27) hx hb hts in_Model hown hK hP 0 rfl rfl 15 (by decide) (hts _ kw770) (fun _ h9 => h9) rfl d_Model_assign_175 ?_
            refine lv_iload hx hb d_Model_assign_178 (lv_at hl 5 rfl) ?_
            refine lv_iload hx hb d_Model_assign_180 (lv_at hl 4 rfl) ?_
            obtain ⟨hi, h⟩ := h
            refine va_iast hx hb hK hP (D_Model inj) hS 11 0 rfl rfl hi d_Model_assign_182 (fun H locs hP _ hS => ?_)
            have hP := up_Model_11 hP
            refine lv_iload_n hx hb d_Model_assign_183 rfl (lv_at hl 3 rfl) ?_
            refine lv_iconst (v := 1) hx hb d_Model_assign_184 (by decide) ?_
            refine lv_iload hx hb d_Model_assign_185 (lv_at hl 5 rfl) ?_
            refine lv_ishl hx hb d_Model_assign_187 ?_
            refine lv_iconst (v := (-1)) hx hb d_Model_assign_188 (by decide) ?_
            refine lv_ixor hx hb d_Model_assign_189 ?_
            refine lv_iand hx hb d_Model_assign_190 ?_
            refine lv_istore_n (lv' := [(1, .int (v1 &&& (((1 : Int32) <<< (v5 &&& 31)) ^^^ (-1)))), (3, .int (v3 + 1)), (2, .int (v2 + r3)), (0, .ref (ad 0)), (4, .int v4), (5, .int v5), (6, .int v6)]) hx hb d_Model_assign_191 rfl hl (by decide) rfl (fun ls hl => ?_)
            refine lv_iinc (v := (v4 + 1)) (lv' := [(4, .int (v4 + 1)), (1, .int (v1 &&& (((1 : Int32) <<< (v5 &&& 31)) ^^^ (-1)))), (3, .int (v3 + 1)), (2, .int (v2 + r3)), (0, .ref (ad 0)), (5, .int v5), (6, .int v6)]) hx hb d_Model_assign_192 hl (k := 4) rfl rfl (by decide) rfl (fun ls hl => ?_)
            refine lv_goto (tgt := 19) hx hb d_Model_assign_195 (by decide) ?_
            exact ih 1 (v1 &&& (((1 : Int32) <<< (v5 &&& 31)) ^^^ (-1))) (v2 + r3) (v3 + 1) (v4 + 1) 0 0 0 (sto (sto (sto u2 17 v4.toNatClampNeg 1) 18 v4.toNatClampNeg v5) 11 v5.toNatClampNeg v4) h _ _ _ hP hS (lv_sub hl [4, 1, 3, 2, 0] rfl)
        · have h := h.2 hc
          refine lv_iload_n hx hb d_Model_assign_44 rfl (lv_at hl 1 rfl) ?_
          refine lv_iload hx hb d_Model_assign_45 (lv_at hl 6 rfl) ?_
          refine lv_ishr hx hb d_Model_assign_47 ?_
          refine lv_iconst (v := 1) hx hb d_Model_assign_48 (by decide) ?_
          refine lv_iand hx hb d_Model_assign_49 ?_
          refine lv_iconst (v := 1) hx hb d_Model_assign_50 (by decide) ?_
          refine lv_icmp_ne (tgt := 65) hx hb d_Model_assign_51 (by decide) (fun hc => ?_) (fun hc => ?_)
          · have h := h.2 hc
            refine lv_iconst (v := (-1)) hx hb d_Model_assign_65 (by decide) ?_
            refine lv_istore (lv' := [(7, .int (-1)), (0, .ref (ad 0)), (1, .int v1), (2, .int v2), (3, .int v3), (4, .int v4), (5, .int v5), (6, .int v6)]) hx hb d_Model_assign_66 hl (by decide) rfl (fun ls hl => ?_)
            refine lv_iload hx hb d_Model_assign_68 (lv_at hl 0 rfl) ?_
            refine lv_if_lt (tgt := 117) hx hb d_Model_assign_70 (by decide) (fun _ => ?_) (fun hc => absurd hc (by decide))
            refine lv_iload hx hb d_Model_assign_117 (lv_at hl 6 rfl) ?_
            refine lv_istore (lv' := [(5, .int v5), (7, .int (-1)), (0, .ref (ad 0)), (1, .int v1), (2, .int v2), (3, .int v3), (4, .int v4), (6, .int v6)]) hx hb d_Model_assign_119 hl (by decide) rfl (fun ls hl => ?_)
            refine lv_iinc (v := (v6 + (-1))) (lv' := [(6, .int (v6 + (-1))), (5, .int v5), (7, .int (-1)), (0, .ref (ad 0)), (1, .int v1), (2, .int v2), (3, .int v3), (4, .int v4)]) hx hb d_Model_assign_121 hl (k := 7) rfl rfl (by decide) rfl (fun ls hl => ?_)
            refine lv_goto (tgt := 39) hx hb d_Model_assign_124 (by decide) ?_
            exact ih 2 v1 v2 v3 v4 v5 (v6 + (-1)) 0 σ h _ _ _ hP hS (lv_sub hl [3, 4, 5, 6, 7, 1, 0] rfl)
          · have h := h.1 hc
            refine lv_aload_n hx hb d_Model_assign_54 rfl (lv_at hl 0 rfl) ?_
            refine lv_iload hx hb d_Model_assign_55 (lv_at hl 4 rfl) ?_
            refine lv_iload hx hb d_Model_assign_57 (lv_at hl 6 rfl) ?_
            refine va_calli (va_runV (As := [.int v4, .int v6]) (rest := []) ⟨hx, hb, hml, hown, hts⟩ (t_Model_worth l D cI cZ ad inj v4 v6 σ _ h) (cwV 2 hts (g_of kw901 kw903 kp28 kw9 kw904) rfl rfl rfl (by decide +kernel) ⟨Nat.le_of_ble_eq_true rfl, Nat.le_of_ble_eq_true rfl⟩) (ro_pre hK hP (va_recv hK hP (ci := 7) (q0 := 0) rfl rfl)) rfl rfl hl.1 rfl (lv_room (Nat.le_of_ble_eq_true rfl)) d_Model_assign_59 ⟨Nat.le_of_ble_eq_true rfl, Nat.le_of_ble_eq_true rfl⟩) hS (fun _ _ h => h) (fun _ h => h) (fun r5 u4 t H1 locs ht _ h hP1 _ hk1 hS => ?_)
            have hP1 : va_P D classes (W_Model ad cI cZ u4) H1 := hp_fwd ht hP1
            clear hk1 ht
            generalize H1 = H at hP1 hS ⊢
            have hP := hP1
            refine lv_goto (tgt := 66) hx hb d_Model_assign_62 (by decide) ?_
            refine lv_istore (lv' := [(7, .int r5), (0, .ref (ad 0)), (1, .int v1), (2, .int v2), (3, .int v3), (4, .int v4), (5, .int v5), (6, .int v6)]) hx hb d_Model_assign_66 hl (by decide) rfl (fun ls hl => ?_)
            refine lv_iload hx hb d_Model_assign_68 (lv_at hl 0 rfl) ?_
            refine lv_if_lt (tgt := 117) hx hb d_Model_assign_70 (by decide) (fun hc => ?_) (fun hc => ?_)
            · have h := h.1 hc
              refine lv_iload hx hb d_Model_assign_117 (lv_at hl 6 rfl) ?_
              refine lv_istore (lv' := [(5, .int v5), (7, .int r5), (0, .ref (ad 0)), (1, .int v1), (2, .int v2), (3, .int v3), (4, .int v4), (6, .int v6)]) hx hb d_Model_assign_119 hl (by decide) rfl (fun ls hl => ?_)
              refine lv_iinc (v := (v6 + (-1))) (lv' := [(6, .int (v6 + (-1))), (5, .int v5), (7, .int r5), (0, .ref (ad 0)), (1, .int v1), (2, .int v2), (3, .int v3), (4, .int v4)]) hx hb d_Model_assign_121 hl (k := 7) rfl rfl (by decide) rfl (fun ls hl => ?_)
              refine lv_goto (tgt := 39) hx hb d_Model_assign_124 (by decide) ?_
              exact ih 2 v1 v2 v3 v4 v5 (v6 + (-1)) 0 u4 h _ _ _ hP hS (lv_sub hl [3, 4, 5, 6, 7, 1, 0] rfl)
            · have h := h.2 hc
              refine lv_iload hx hb d_Model_assign_73 (lv_at hl 0 rfl) ?_
              refine lv_aload_n hx hb d_Model_assign_75 rfl (lv_at hl 1 rfl) ?_
              refine va_get (D := D) (ci := 7) (v := .ref (ad 20)) (C := "CarrierPathsModel") (T := F_Model) (N := 27) hx hb hts in_Model hown hK hP 0 rfl rfl 26 (by decide) (hts _ kw781) (fun _ h9 => h9) rfl d_Model_assign_76 ?_
              refine lv_bipush (v := 64) hx hb d_Model_assign_79 (by decide) ?_
              refine lv_iload hx hb d_Model_assign_81 (lv_at hl 5 rfl) ?_
              refine lv_iconst (v := 1) hx hb d_Model_assign_83 (by decide) ?_
              refine lv_iadd hx hb d_Model_assign_84 ?_
              refine lv_imul hx hb d_Model_assign_85 ?_
              refine lv_iload_n hx hb d_Model_assign_86 rfl (lv_at hl 2 rfl) ?_
              refine lv_iconst (v := 1) hx hb d_Model_assign_87 (by decide) ?_
              refine lv_iload hx hb d_Model_assign_88 (lv_at hl 7 rfl) ?_
              refine lv_ishl hx hb d_Model_assign_90 ?_
              refine lv_iconst (v := (-1)) hx hb d_Model_assign_91 (by decide) ?_
              refine lv_ixor hx hb d_Model_assign_92 ?_
              refine lv_iand hx hb d_Model_assign_93 ?_
              refine lv_iadd hx hb d_Model_assign_94 ?_
              obtain ⟨hi, h⟩ := h
              refine va_iald hx hb hK hP 20 0 rfl rfl hi d_Model_assign_95 ?_
              refine lv_iadd hx hb d_Model_assign_96 ?_
              refine lv_aload_n hx hb d_Model_assign_97 rfl (lv_at hl 1 rfl) ?_
              refine va_get (D := D) (ci := 7) (v := .ref (ad 20)) (C := "CarrierPathsModel") (T := F_Model) (N := 27) hx hb hts in_Model hown hK hP 0 rfl rfl 26 (by decide) (hts _ kw781) (fun _ h9 => h9) rfl d_Model_assign_98 ?_
              refine lv_bipush (v := 64) hx hb d_Model_assign_101 (by decide) ?_
              refine lv_iload hx hb d_Model_assign_103 (lv_at hl 5 rfl) ?_
              refine lv_imul hx hb d_Model_assign_105 ?_
              refine lv_iload_n hx hb d_Model_assign_106 rfl (lv_at hl 2 rfl) ?_
              refine lv_iadd hx hb d_Model_assign_107 ?_
              obtain ⟨hi, h⟩ := h
              refine va_iald hx hb hK hP 20 0 rfl rfl hi d_Model_assign_108 ?_
              refine lv_icmp_ne (tgt := 117) hx hb d_Model_assign_109 (by decide) (fun hc => ?_) (fun hc => ?_)
              · have h := h.2 hc
                refine lv_iload hx hb d_Model_assign_117 (lv_at hl 6 rfl) ?_
                refine lv_istore (lv' := [(5, .int v5), (7, .int r5), (0, .ref (ad 0)), (1, .int v1), (2, .int v2), (3, .int v3), (4, .int v4), (6, .int v6)]) hx hb d_Model_assign_119 hl (by decide) rfl (fun ls hl => ?_)
                refine lv_iinc (v := (v6 + (-1))) (lv' := [(6, .int (v6 + (-1))), (5, .int v5), (7, .int r5), (0, .ref (ad 0)), (1, .int v1), (2, .int v2), (3, .int v3), (4, .int v4)]) hx hb d_Model_assign_121 hl (k := 7) rfl rfl (by decide) rfl (fun ls hl => ?_)
                refine lv_goto (tgt := 39) hx hb d_Model_assign_124 (by decide) ?_
                exact ih 2 v1 v2 v3 v4 v5 (v6 + (-1)) 0 u4 h _ _ _ hP hS (lv_sub hl [3, 4, 5, 6, 7, 1, 0] rfl)
              · have h := h.1 hc
                refine lv_iload hx hb d_Model_assign_112 (lv_at hl 7 rfl) ?_
                refine lv_goto (tgt := 119) hx hb d_Model_assign_114 (by decide) ?_
                refine lv_istore (lv' := [(5, .int v6), (7, .int r5), (0, .ref (ad 0)), (1, .int v1), (2, .int v2), (3, .int v3), (4, .int v4), (6, .int v6)]) hx hb d_Model_assign_119 hl (by decide) rfl (fun ls hl => ?_)
                refine lv_iinc (v := (v6 + (-1))) (lv' := [(6, .int (v6 + (-1))), (5, .int v6), (7, .int r5), (0, .ref (ad 0)), (1, .int v1), (2, .int v2), (3, .int v3), (4, .int v4)]) hx hb d_Model_assign_121 hl (k := 7) rfl rfl (by decide) rfl (fun ls hl => ?_)
                refine lv_goto (tgt := 39) hx hb d_Model_assign_124 (by decide) ?_
                exact ih 2 v1 v2 v3 v4 v6 (v6 + (-1)) 0 u4 h _ _ _ hP hS (lv_sub hl [3, 4, 5, 6, 7, 1, 0] rfl)
      | _ + 3, h, _ => exact False.elim h
  exact key 4000 0 0 0 0 0 0 0 0 σ h s.heap [] ls hP hS hl
def q_Model_goesOn_b0 (J : Nat → Int32 → Int32 → Int32 → Int32 → Sg → Prop) (Q : (Int32 → Sg → Prop)) (v1 v2 v3 v4 : Int32) (σ : Sg) : Prop :=
  (q_Model_timesTo v2 σ (fun u1 => (vp_in v1 6 ∧ (vp_in (u1 8 v1.toNatClampNeg) 10 ∧ (((u1 19 (u1 8 v1.toNatClampNeg).toNatClampNeg) = 1000000000 → Q 5 u1) ∧ (¬ (u1 19 (u1 8 v1.toNatClampNeg).toNatClampNeg) = 1000000000 → (vp_in v1 6 ∧ (q_Model_pieceFrom (u1 8 v1.toNatClampNeg) u1 (fun r2 => (q_Model_isTaken r2 u1 (fun r3 => ((r3 = 0 → (vp_in r2 30 ∧ (q_Model_standing (u1 4 r2.toNatClampNeg) u1 (fun r4 => (vp_in r2 30 ∧ (vp_in (u1 4 r2.toNatClampNeg) 10 ∧ ((r4 < (u1 1 (u1 4 r2.toNatClampNeg).toNatClampNeg) → (q_Model_isBarred r2 u1 (fun r5 => ((r5 = 0 → (vp_in r2 30 ∧ (q_Model_toCharger (u1 4 r2.toNatClampNeg) u1 (fun r7 u6 => ((r7 = 1000000000 → Q 9 u6) ∧ (¬ r7 = 1000000000 → (vp_in v1 6 ∧ (vp_in r2 30 ∧ ((((u6 5 r2.toNatClampNeg) + r7) ≤ (u6 12 v1.toNatClampNeg) → (vp_in r2 30 ∧ (vp_in v1 6 ∧ J 1 v1 v2 r2 r7 (sto u6 8 v1.toNatClampNeg (u6 4 r2.toNatClampNeg))))) ∧ (¬ ((u6 5 r2.toNatClampNeg) + r7) ≤ (u6 12 v1.toNatClampNeg) → Q 9 u6)))))))))) ∧ (¬ r5 = 0 → Q 8 u1))))) ∧ (¬ r4 < (u1 1 (u1 4 r2.toNatClampNeg).toNatClampNeg) → Q 7 u1)))))))) ∧ (¬ r3 = 0 → Q 6 u1)))))))))))))
def q_Model_goesOn_b1 (J : Nat → Int32 → Int32 → Int32 → Int32 → Sg → Prop) (Q : (Int32 → Sg → Prop)) (v1 v2 v3 v4 : Int32) (σ : Sg) : Prop :=
  (vp_in v1 6 ∧ (vp_in v3 30 ∧ (vp_in v1 6 ∧ (vp_in v1 6 ∧ (vp_in v3 30 ∧ (vp_in v1 6 ∧ (vp_in v1 6 ∧ (vp_in v1 6 ∧ (vp_in ((sto (sto (sto σ 9 v1.toNatClampNeg v3) 10 v1.toNatClampNeg (((sto σ 9 v1.toNatClampNeg v3) 0 24) + ((sto σ 9 v1.toNatClampNeg v3) 5 v3.toNatClampNeg))) 12 v1.toNatClampNeg (((sto (sto σ 9 v1.toNatClampNeg v3) 10 v1.toNatClampNeg (((sto σ 9 v1.toNatClampNeg v3) 0 24) + ((sto σ 9 v1.toNatClampNeg v3) 5 v3.toNatClampNeg))) 12 v1.toNatClampNeg) - ((sto (sto σ 9 v1.toNatClampNeg v3) 10 v1.toNatClampNeg (((sto σ 9 v1.toNatClampNeg v3) 0 24) + ((sto σ 9 v1.toNatClampNeg v3) 5 v3.toNatClampNeg))) 5 v3.toNatClampNeg))) 11 v1.toNatClampNeg) 12 ∧ ((((sto (sto (sto σ 9 v1.toNatClampNeg v3) 10 v1.toNatClampNeg (((sto σ 9 v1.toNatClampNeg v3) 0 24) + ((sto σ 9 v1.toNatClampNeg v3) 5 v3.toNatClampNeg))) 12 v1.toNatClampNeg (((sto (sto σ 9 v1.toNatClampNeg v3) 10 v1.toNatClampNeg (((sto σ 9 v1.toNatClampNeg v3) 0 24) + ((sto σ 9 v1.toNatClampNeg v3) 5 v3.toNatClampNeg))) 12 v1.toNatClampNeg) - ((sto (sto σ 9 v1.toNatClampNeg v3) 10 v1.toNatClampNeg (((sto σ 9 v1.toNatClampNeg v3) 0 24) + ((sto σ 9 v1.toNatClampNeg v3) 5 v3.toNatClampNeg))) 5 v3.toNatClampNeg))) 17 ((sto (sto (sto σ 9 v1.toNatClampNeg v3) 10 v1.toNatClampNeg (((sto σ 9 v1.toNatClampNeg v3) 0 24) + ((sto σ 9 v1.toNatClampNeg v3) 5 v3.toNatClampNeg))) 12 v1.toNatClampNeg (((sto (sto σ 9 v1.toNatClampNeg v3) 10 v1.toNatClampNeg (((sto σ 9 v1.toNatClampNeg v3) 0 24) + ((sto σ 9 v1.toNatClampNeg v3) 5 v3.toNatClampNeg))) 12 v1.toNatClampNeg) - ((sto (sto σ 9 v1.toNatClampNeg v3) 10 v1.toNatClampNeg (((sto σ 9 v1.toNatClampNeg v3) 0 24) + ((sto σ 9 v1.toNatClampNeg v3) 5 v3.toNatClampNeg))) 5 v3.toNatClampNeg))) 11 v1.toNatClampNeg).toNatClampNeg) = 1 → (vp_in v3 30 ∧ (vp_in v1 6 ∧ Q 10 (sto (sto (sto (sto σ 9 v1.toNatClampNeg v3) 10 v1.toNatClampNeg (((sto σ 9 v1.toNatClampNeg v3) 0 24) + ((sto σ 9 v1.toNatClampNeg v3) 5 v3.toNatClampNeg))) 12 v1.toNatClampNeg (((sto (sto σ 9 v1.toNatClampNeg v3) 10 v1.toNatClampNeg (((sto σ 9 v1.toNatClampNeg v3) 0 24) + ((sto σ 9 v1.toNatClampNeg v3) 5 v3.toNatClampNeg))) 12 v1.toNatClampNeg) - ((sto (sto σ 9 v1.toNatClampNeg v3) 10 v1.toNatClampNeg (((sto σ 9 v1.toNatClampNeg v3) 0 24) + ((sto σ 9 v1.toNatClampNeg v3) 5 v3.toNatClampNeg))) 5 v3.toNatClampNeg))) 14 v1.toNatClampNeg (((sto (sto (sto σ 9 v1.toNatClampNeg v3) 10 v1.toNatClampNeg (((sto σ 9 v1.toNatClampNeg v3) 0 24) + ((sto σ 9 v1.toNatClampNeg v3) 5 v3.toNatClampNeg))) 12 v1.toNatClampNeg (((sto (sto σ 9 v1.toNatClampNeg v3) 10 v1.toNatClampNeg (((sto σ 9 v1.toNatClampNeg v3) 0 24) + ((sto σ 9 v1.toNatClampNeg v3) 5 v3.toNatClampNeg))) 12 v1.toNatClampNeg) - ((sto (sto σ 9 v1.toNatClampNeg v3) 10 v1.toNatClampNeg (((sto σ 9 v1.toNatClampNeg v3) 0 24) + ((sto σ 9 v1.toNatClampNeg v3) 5 v3.toNatClampNeg))) 5 v3.toNatClampNeg))) 14 v1.toNatClampNeg) + ((sto (sto (sto σ 9 v1.toNatClampNeg v3) 10 v1.toNatClampNeg (((sto σ 9 v1.toNatClampNeg v3) 0 24) + ((sto σ 9 v1.toNatClampNeg v3) 5 v3.toNatClampNeg))) 12 v1.toNatClampNeg (((sto (sto σ 9 v1.toNatClampNeg v3) 10 v1.toNatClampNeg (((sto σ 9 v1.toNatClampNeg v3) 0 24) + ((sto σ 9 v1.toNatClampNeg v3) 5 v3.toNatClampNeg))) 12 v1.toNatClampNeg) - ((sto (sto σ 9 v1.toNatClampNeg v3) 10 v1.toNatClampNeg (((sto σ 9 v1.toNatClampNeg v3) 0 24) + ((sto σ 9 v1.toNatClampNeg v3) 5 v3.toNatClampNeg))) 5 v3.toNatClampNeg))) 5 v3.toNatClampNeg)))))) ∧ (¬ ((sto (sto (sto σ 9 v1.toNatClampNeg v3) 10 v1.toNatClampNeg (((sto σ 9 v1.toNatClampNeg v3) 0 24) + ((sto σ 9 v1.toNatClampNeg v3) 5 v3.toNatClampNeg))) 12 v1.toNatClampNeg (((sto (sto σ 9 v1.toNatClampNeg v3) 10 v1.toNatClampNeg (((sto σ 9 v1.toNatClampNeg v3) 0 24) + ((sto σ 9 v1.toNatClampNeg v3) 5 v3.toNatClampNeg))) 12 v1.toNatClampNeg) - ((sto (sto σ 9 v1.toNatClampNeg v3) 10 v1.toNatClampNeg (((sto σ 9 v1.toNatClampNeg v3) 0 24) + ((sto σ 9 v1.toNatClampNeg v3) 5 v3.toNatClampNeg))) 5 v3.toNatClampNeg))) 17 ((sto (sto (sto σ 9 v1.toNatClampNeg v3) 10 v1.toNatClampNeg (((sto σ 9 v1.toNatClampNeg v3) 0 24) + ((sto σ 9 v1.toNatClampNeg v3) 5 v3.toNatClampNeg))) 12 v1.toNatClampNeg (((sto (sto σ 9 v1.toNatClampNeg v3) 10 v1.toNatClampNeg (((sto σ 9 v1.toNatClampNeg v3) 0 24) + ((sto σ 9 v1.toNatClampNeg v3) 5 v3.toNatClampNeg))) 12 v1.toNatClampNeg) - ((sto (sto σ 9 v1.toNatClampNeg v3) 10 v1.toNatClampNeg (((sto σ 9 v1.toNatClampNeg v3) 0 24) + ((sto σ 9 v1.toNatClampNeg v3) 5 v3.toNatClampNeg))) 5 v3.toNatClampNeg))) 11 v1.toNatClampNeg).toNatClampNeg) = 1 → (vp_in v1 6 ∧ Q 10 (sto (sto (sto (sto σ 9 v1.toNatClampNeg v3) 10 v1.toNatClampNeg (((sto σ 9 v1.toNatClampNeg v3) 0 24) + ((sto σ 9 v1.toNatClampNeg v3) 5 v3.toNatClampNeg))) 12 v1.toNatClampNeg (((sto (sto σ 9 v1.toNatClampNeg v3) 10 v1.toNatClampNeg (((sto σ 9 v1.toNatClampNeg v3) 0 24) + ((sto σ 9 v1.toNatClampNeg v3) 5 v3.toNatClampNeg))) 12 v1.toNatClampNeg) - ((sto (sto σ 9 v1.toNatClampNeg v3) 10 v1.toNatClampNeg (((sto σ 9 v1.toNatClampNeg v3) 0 24) + ((sto σ 9 v1.toNatClampNeg v3) 5 v3.toNatClampNeg))) 5 v3.toNatClampNeg))) 14 v1.toNatClampNeg (((sto (sto (sto σ 9 v1.toNatClampNeg v3) 10 v1.toNatClampNeg (((sto σ 9 v1.toNatClampNeg v3) 0 24) + ((sto σ 9 v1.toNatClampNeg v3) 5 v3.toNatClampNeg))) 12 v1.toNatClampNeg (((sto (sto σ 9 v1.toNatClampNeg v3) 10 v1.toNatClampNeg (((sto σ 9 v1.toNatClampNeg v3) 0 24) + ((sto σ 9 v1.toNatClampNeg v3) 5 v3.toNatClampNeg))) 12 v1.toNatClampNeg) - ((sto (sto σ 9 v1.toNatClampNeg v3) 10 v1.toNatClampNeg (((sto σ 9 v1.toNatClampNeg v3) 0 24) + ((sto σ 9 v1.toNatClampNeg v3) 5 v3.toNatClampNeg))) 5 v3.toNatClampNeg))) 14 v1.toNatClampNeg) + 0))))))))))))))
def q_Model_goesOn_j (Q : (Int32 → Sg → Prop)) : Nat → Nat → Int32 → Int32 → Int32 → Int32 → Sg → Prop
  | 0, _, _, _, _, _, _ => False
  | n + 1, 0, v1, v2, v3, v4, σ => q_Model_goesOn_b0 (q_Model_goesOn_j Q n) Q v1 v2 v3 v4 σ
  | n + 1, 1, v1, v2, v3, v4, σ => q_Model_goesOn_b1 (q_Model_goesOn_j Q n) Q v1 v2 v3 v4 σ
  | _ + 1, _ + 2, _, _, _, _, _ => False
def q_Model_goesOn (v1 v2 : Int32) (σ : Sg) (Q : (Int32 → Sg → Prop)) : Prop := q_Model_goesOn_j Q 4000 0 v1 v2 0 0 σ
def lc_Model_goesOn (ad : Nat → Nat) (b : Nat) (v1 v2 v3 v4 : Int32) : List (Nat × Value) := match b with
  | 0 => [(0, .ref (ad 0)), (1, .int v1), (2, .int v2)]
  | 1 => [(0, .ref (ad 0)), (1, .int v1), (2, .int v2), (3, .int v3), (4, .int v4)]
  | _ => []
def pc_Model_goesOn (b : Nat) : Nat := match b with
  | 0 => 0
  | 1 => 135
  | _ => 0
set_option maxHeartbeats 4000000 in
set_option maxRecDepth 100000 in
theorem t_Model_goesOn (l : Launch) (D : va_G) (cI cZ : ClassId) (ad : Nat → Nat) (inj : Inj ad 21) (v1 v2 : Int32) (σ : Sg) (Q : (Int32 → Sg → Prop)) (h : q_Model_goesOn v1 v2 σ Q) : Met l y_Model_goesOn (.code y_Model_goesOn prog_9_method_25_code 5 (some .int) :: TG) { frames := 3, cells := 0, slots := 0, locals := 69 } (va_Pc [.ref (ad 0), .int v1, .int v2] (roB D (tysA cI cZ) (W_Model ad cI cZ σ))) (va_Qi Q (fun u t => va_P D classes (W_Model ad cI cZ u) t.heap) (inA ad 21)) 0 0 (inA ad 21) := by
  refine Met.ofW (cc := prog_9_method_25_code) (maxL := 5) (ret := (some .int)) (by decide) rfl ?_
  intro p e s m args below meth c s₁ B hml hv
  obtain ⟨rfl, hP, hK⟩ := hv
  have hx := B.exec
  have hb := B.bytes
  have hr := B.returns
  have hts : ∀ w ∈ TG, w.before [.ref (ad 0), .int v1, .int v2].toArray s = true := fun w hw => atoms_spec (ws := .code y_Model_goesOn prog_9_method_25_code 5 (some .int) :: TG) B.pre w (List.mem_cons_of_mem _ hw)
  have hown : s.vm.findClass "CarrierPathsModel" = some m.cls := findClass_of_methodNamed B.named
  have hlocks := B.notSynchronized
  have hS : va_S (inA ad 21) s.heap s.heap [] := va_S.rf
  have hl := lv_entry ([.ref (ad 0), .int v1, .int v2]) (n := 5) (Nat.le_of_ble_eq_true rfl)
  rw [lg_entry_eq]
  generalize (lg_sl ([.ref (ad 0), .int v1, .int v2]) ++ List.replicate (5 - (lg_sl ([.ref (ad 0), .int v1, .int v2])).length) Slot.unset).toArray = ls at hl ⊢
  generalize ([.ref (ad 0), .int v1, .int v2] : List Value).toArray = args at hts ⊢
  have key : ∀ (n b : Nat) (v1 v2 v3 v4 : Int32) (σ : Sg), q_Model_goesOn_j Q n b v1 v2 v3 v4 σ → ∀ (H : Heap) (locs : List Loc) (ls : Array Slot), va_P D classes (W_Model ad cI cZ σ) H → va_S (inA ad 21) s.heap H locs → lv_has ls 5 (lc_Model_goesOn ad b v1 v2 v3 v4) → W p l e (headSpec (.code y_Model_goesOn prog_9_method_25_code 5 (some .int) :: TG) { frames := 3, cells := 0, slots := 0, locals := 69 }).room s m args below meth c H locs 0 0 (MQ below (va_Qi Q (fun u t => va_P D classes (W_Model ad cI cZ u) t.heap) (inA ad 21)) args s 0 0 (inA ad 21)) (F0 m (pc_Model_goesOn b) ls []) := by
    clear h hl hP hS
    intro n
    induction n with
    | zero => intro b _ _ _ _ _ h; exact False.elim h
    | succ n ih =>
      intro b v1 v2 v3 v4 σ h H locs ls hP hS hl
      match b, h, hl with
      | 0, h, hl =>
        have h : q_Model_goesOn_b0 (q_Model_goesOn_j Q n) Q v1 v2 v3 v4 σ := h
        have hl : lv_has ls 5 [(0, .ref (ad 0)), (1, .int v1), (2, .int v2)] := hl
        refine W.eq (g2 := F0 m 0 ls []) rfl ?_
        unfold q_Model_goesOn_b0 at h
        refine lv_aload_n hx hb d_Model_goesOn_0 rfl (lv_at hl 0 rfl) ?_
        refine lv_iload_n hx hb d_Model_goesOn_1 rfl (lv_at hl 2 rfl) ?_
        refine va_callv (va_runV (As := [.int v2]) (rest := []) ⟨hx, hb, hml, hown, hts⟩ (t_Model_timesTo l D cI cZ ad inj v2 σ _ h) (cwV 1 hts (g_of kw856 kw858 kp24 kw9 kw859) rfl rfl rfl (by decide +kernel) ⟨Nat.le_of_ble_eq_true rfl, Nat.le_of_ble_eq_true rfl⟩) (ro_pre hK hP (va_recv hK hP (ci := 7) (q0 := 0) rfl rfl)) rfl rfl hl.1 rfl (lv_room (Nat.le_of_ble_eq_true rfl)) d_Model_goesOn_2 ⟨Nat.le_of_ble_eq_true rfl, Nat.le_of_ble_eq_true rfl⟩) hS (fun _ _ h => h) (fun _ h => h) (fun u1 t H1 locs ht _ h hP1 _ hk1 hS => ?_)
        have hP1 : va_P D classes (W_Model ad cI cZ u1) H1 := hp_fwd ht hP1
        clear hk1 ht
        generalize H1 = H at hP1 hS ⊢
        have hP := hP1
        refine lv_aload_n hx hb d_Model_goesOn_5 rfl (lv_at hl 0 rfl) ?_
        refine va_get (D := D) (ci := 7) (v := .ref (ad 19)) (C := "CarrierPathsModel") (T := F_Model) (N := 27) hx hb hts in_Model hown hK hP 0 rfl rfl 25 (by decide) (hts _ kw780) (fun _ h9 => h9) rfl d_Model_goesOn_6 ?_
        refine lv_aload_n hx hb d_Model_goesOn_9 rfl (lv_at hl 0 rfl) ?_
        refine va_get (D := D) (ci := 7) (v := .ref (ad 8)) (C := "CarrierPathsModel") (T := F_Model) (N := 27) hx hb hts in_Model hown hK hP 0 rfl rfl 12 (by decide) (hts _ kw767) (fun _ h9 => h9) rfl d_Model_goesOn_10 ?_
        refine lv_iload_n hx hb d_Model_goesOn_13 rfl (lv_at hl 1 rfl) ?_
        obtain ⟨hi, h⟩ := h
        refine va_iald hx hb hK hP 8 0 rfl rfl hi d_Model_goesOn_14 ?_
        obtain ⟨hi, h⟩ := h
        refine va_iald hx hb hK hP 19 0 rfl rfl hi d_Model_goesOn_15 ?_
        refine lv_ldc (v := 1000000000) hx hb hown (hts _ kw860) d_Model_goesOn_16 ?_
        refine lv_icmp_ne (tgt := 23) hx hb d_Model_goesOn_18 (by decide) (fun hc => ?_) (fun hc => ?_)
        · have h := h.2 hc
          refine lv_aload_n hx hb d_Model_goesOn_23 rfl (lv_at hl 0 rfl) ?_
          refine lv_aload_n hx hb d_Model_goesOn_24 rfl (lv_at hl 0 rfl) ?_
          refine va_get (D := D) (ci := 7) (v := .ref (ad 8)) (C := "CarrierPathsModel") (T := F_Model) (N := 27) hx hb hts in_Model hown hK hP 0 rfl rfl 12 (by decide) (hts _ kw767) (fun _ h9 => h9) rfl d_Model_goesOn_25 ?_
          refine lv_iload_n hx hb d_Model_goesOn_28 rfl (lv_at hl 1 rfl) ?_
          obtain ⟨hi, h⟩ := h
          refine va_iald hx hb hK hP 8 0 rfl rfl hi d_Model_goesOn_29 ?_
          refine vp_callSi (W.runV (As := [.int (u1 8 v1.toNatClampNeg)]) (rest := []) ⟨hx, hb, hml, hown, hts⟩ (t_Model_pieceFrom l D cI cZ ad (u1 8 v1.toNatClampNeg) u1 _ h) (cwV 1 hts (g_of kw861 kw863 kp25 kw9 kw864) rfl rfl rfl (by decide +kernel) ⟨Nat.le_of_ble_eq_true rfl, Nat.le_of_ble_eq_true rfl⟩) (ro_pre hK hP (va_recv hK hP (ci := 7) (q0 := 0) rfl rfl)) rfl rfl hl.1 rfl (lv_room (Nat.le_of_ble_eq_true rfl)) d_Model_goesOn_30 ⟨Nat.le_of_ble_eq_true rfl, Nat.le_of_ble_eq_true rfl⟩) (fun r2 h => ?_)
          refine lv_istore_n (lv' := [(3, .int r2), (0, .ref (ad 0)), (1, .int v1), (2, .int v2)]) hx hb d_Model_goesOn_33 rfl hl (by decide) rfl (fun ls hl => ?_)
          refine lv_aload_n hx hb d_Model_goesOn_34 rfl (lv_at hl 1 rfl) ?_
          refine lv_iload_n hx hb d_Model_goesOn_35 rfl (lv_at hl 0 rfl) ?_
          refine vp_callSi (W.runV (As := [.int r2]) (rest := []) ⟨hx, hb, hml, hown, hts⟩ (t_Model_isTaken l D cI cZ ad r2 u1 _ h) (cwV 1 hts (g_of kw922 kw924 kp32 kw9 kw925) rfl rfl rfl (by decide +kernel) ⟨Nat.le_of_ble_eq_true rfl, Nat.le_of_ble_eq_true rfl⟩) (ro_pre hK hP (va_recv hK hP (ci := 7) (q0 := 0) rfl rfl)) rfl rfl hl.1 rfl (lv_room (Nat.le_of_ble_eq_true rfl)) d_Model_goesOn_36 ⟨Nat.le_of_ble_eq_true rfl, Nat.le_of_ble_eq_true rfl⟩) (fun r3 h => ?_)
          refine lv_if_eq (tgt := 45) hx hb d_Model_goesOn_39 (by decide) (fun hc => ?_) (fun hc => ?_)
          · have h := h.1 hc
            refine lv_aload_n hx hb d_Model_goesOn_45 rfl (lv_at hl 1 rfl) ?_
            refine lv_aload_n hx hb d_Model_goesOn_46 rfl (lv_at hl 1 rfl) ?_
            refine va_get (D := D) (ci := 7) (v := .ref (ad 4)) (C := "CarrierPathsModel") (T := F_Model) (N := 27) hx hb hts in_Model hown hK hP 0 rfl rfl 6 (by decide) (hts _ kw761) (fun _ h9 => h9) rfl d_Model_goesOn_47 ?_
            refine lv_iload_n hx hb d_Model_goesOn_50 rfl (lv_at hl 0 rfl) ?_
            obtain ⟨hi, h⟩ := h
            refine va_iald hx hb hK hP 4 0 rfl rfl hi d_Model_goesOn_51 ?_
            refine vp_callSi (W.runV (As := [.int (u1 4 r2.toNatClampNeg)]) (rest := []) ⟨hx, hb, hml, hown, hts⟩ (t_Model_standing l D cI cZ ad (u1 4 r2.toNatClampNeg) u1 _ h) (cwV 1 hts (g_of kw873 kw875 kp26 kw9 kw876) rfl rfl rfl (by decide +kernel) ⟨Nat.le_of_ble_eq_true rfl, Nat.le_of_ble_eq_true rfl⟩) (ro_pre hK hP (va_recv hK hP (ci := 7) (q0 := 0) rfl rfl)) rfl rfl hl.1 rfl (lv_room (Nat.le_of_ble_eq_true rfl)) d_Model_goesOn_52 ⟨Nat.le_of_ble_eq_true rfl, Nat.le_of_ble_eq_true rfl⟩) (fun r4 h => ?_)
            refine lv_aload_n hx hb d_Model_goesOn_55 rfl (lv_at hl 1 rfl) ?_
            refine va_get (D := D) (ci := 7) (v := .ref (ad 1)) (C := "CarrierPathsModel") (T := F_Model) (N := 27) hx hb hts in_Model hown hK hP 0 rfl rfl 2 (by decide) (hts _ kw757) (fun _ h9 => h9) rfl d_Model_goesOn_56 ?_
            refine lv_aload_n hx hb d_Model_goesOn_59 rfl (lv_at hl 1 rfl) ?_
            refine va_get (D := D) (ci := 7) (v := .ref (ad 4)) (C := "CarrierPathsModel") (T := F_Model) (N := 27) hx hb hts in_Model hown hK hP 0 rfl rfl 6 (by decide) (hts _ kw761) (fun _ h9 => h9) rfl d_Model_goesOn_60 ?_
            refine lv_iload_n hx hb d_Model_goesOn_63 rfl (lv_at hl 0 rfl) ?_
            obtain ⟨hi, h⟩ := h
            refine va_iald hx hb hK hP 4 0 rfl rfl hi d_Model_goesOn_64 ?_
            obtain ⟨hi, h⟩ := h
            refine va_iald hx hb hK hP 1 0 rfl rfl hi d_Model_goesOn_65 ?_
            refine lv_icmp_lt (tgt := 72) hx hb d_Model_goesOn_66 (by decide) (fun hc => ?_) (fun hc => ?_)
            · have h := h.1 hc
              refine lv_aload_n hx hb d_Model_goesOn_72 rfl (lv_at hl 1 rfl) ?_
              refine lv_iload_n hx hb d_Model_goesOn_73 rfl (lv_at hl 0 rfl) ?_
              refine vp_callSi (W.runV (As := [.int r2]) (rest := []) ⟨hx, hb, hml, hown, hts⟩ (t_Model_isBarred l D cI cZ ad r2 u1 _ h) (cwV 1 hts (g_of kw926 kw928 kp33 kw9 kw929) rfl rfl rfl (by decide +kernel) ⟨Nat.le_of_ble_eq_true rfl, Nat.le_of_ble_eq_true rfl⟩) (ro_pre hK hP (va_recv hK hP (ci := 7) (q0 := 0) rfl rfl)) rfl rfl hl.1 rfl (lv_room (Nat.le_of_ble_eq_true rfl)) d_Model_goesOn_74 ⟨Nat.le_of_ble_eq_true rfl, Nat.le_of_ble_eq_true rfl⟩) (fun r5 h => ?_)
              refine lv_if_eq (tgt := 83) hx hb d_Model_goesOn_77 (by decide) (fun hc => ?_) (fun hc => ?_)
              · have h := h.1 hc
                refine lv_aload_n hx hb d_Model_goesOn_83 rfl (lv_at hl 1 rfl) ?_
                refine lv_aload_n hx hb d_Model_goesOn_84 rfl (lv_at hl 1 rfl) ?_
                refine va_get (D := D) (ci := 7) (v := .ref (ad 4)) (C := "CarrierPathsModel") (T := F_Model) (N := 27) hx hb hts in_Model hown hK hP 0 rfl rfl 6 (by decide) (hts _ kw761) (fun _ h9 => h9) rfl d_Model_goesOn_85 ?_
                refine lv_iload_n hx hb d_Model_goesOn_88 rfl (lv_at hl 0 rfl) ?_
                obtain ⟨hi, h⟩ := h
                refine va_iald hx hb hK hP 4 0 rfl rfl hi d_Model_goesOn_89 ?_
                refine va_calli (va_runV (As := [.int (u1 4 r2.toNatClampNeg)]) (rest := []) ⟨hx, hb, hml, hown, hts⟩ (t_Model_toCharger l D cI cZ ad inj (u1 4 r2.toNatClampNeg) u1 _ h) (cwV 1 hts (g_of kw934 kw936 kp35 kw9 kw937) rfl rfl rfl (by decide +kernel) ⟨Nat.le_of_ble_eq_true rfl, Nat.le_of_ble_eq_true rfl⟩) (ro_pre hK hP (va_recv hK hP (ci := 7) (q0 := 0) rfl rfl)) rfl rfl hl.1 rfl (lv_room (Nat.le_of_ble_eq_true rfl)) d_Model_goesOn_90 ⟨Nat.le_of_ble_eq_true rfl, Nat.le_of_ble_eq_true rfl⟩) hS (fun _ _ h => h) (fun _ h => h) (fun r7 u6 t H1 locs ht _ h hP1 _ hk1 hS => ?_)
                have hP1 : va_P D classes (W_Model ad cI cZ u6) H1 := hp_fwd ht hP1
                clear hk1 ht
                generalize H1 = H at hP1 hS ⊢
                have hP := hP1
                refine lv_istore (lv' := [(4, .int r7), (3, .int r2), (0, .ref (ad 0)), (1, .int v1), (2, .int v2)]) hx hb d_Model_goesOn_93 hl (by decide) rfl (fun ls hl => ?_)
                refine lv_iload hx hb d_Model_goesOn_95 (lv_at hl 0 rfl) ?_
                refine lv_ldc (v := 1000000000) hx hb hown (hts _ kw860) d_Model_goesOn_97 ?_
                refine lv_icmp_eq (tgt := 120) hx hb d_Model_goesOn_99 (by decide) (fun hc => ?_) (fun hc => ?_)
                · have h := h.1 hc
                  refine lv_bipush (v := 9) hx hb d_Model_goesOn_120 (by decide) ?_
                  exact W.iret (v := 9) hx hb hr (fun t ht hW => ⟨⟨9, u6, rfl, h, hp_back ht hP⟩, hS.F ht⟩) hS.2.2 d_Model_goesOn_122
                · have h := h.2 hc
                  refine lv_aload_n hx hb d_Model_goesOn_102 rfl (lv_at hl 2 rfl) ?_
                  refine va_get (D := D) (ci := 7) (v := .ref (ad 12)) (C := "CarrierPathsModel") (T := F_Model) (N := 27) hx hb hts in_Model hown hK hP 0 rfl rfl 16 (by decide) (hts _ kw771) (fun _ h9 => h9) rfl d_Model_goesOn_103 ?_
                  refine lv_iload_n hx hb d_Model_goesOn_106 rfl (lv_at hl 3 rfl) ?_
                  obtain ⟨hi, h⟩ := h
                  refine va_iald hx hb hK hP 12 0 rfl rfl hi d_Model_goesOn_107 ?_
                  refine lv_aload_n hx hb d_Model_goesOn_108 rfl (lv_at hl 2 rfl) ?_
                  refine va_get (D := D) (ci := 7) (v := .ref (ad 5)) (C := "CarrierPathsModel") (T := F_Model) (N := 27) hx hb hts in_Model hown hK hP 0 rfl rfl 7 (by decide) (hts _ kw762) (fun _ h9 => h9) rfl d_Model_goesOn_109 ?_
                  refine lv_iload_n hx hb d_Model_goesOn_112 rfl (lv_at hl 1 rfl) ?_
                  obtain ⟨hi, h⟩ := h
                  refine va_iald hx hb hK hP 5 0 rfl rfl hi d_Model_goesOn_113 ?_
                  refine lv_iload hx hb d_Model_goesOn_114 (lv_at hl 0 rfl) ?_
                  refine lv_iadd hx hb d_Model_goesOn_116 ?_
                  refine lv_icmp_ge (tgt := 123) hx hb d_Model_goesOn_117 (by decide) (fun hc => ?_) (fun hc => ?_)
                  · have h := h.1 hc
                    refine lv_aload_n hx hb d_Model_goesOn_123 rfl (lv_at hl 2 rfl) ?_
                    refine va_get (D := D) (ci := 7) (v := .ref (ad 8)) (C := "CarrierPathsModel") (T := F_Model) (N := 27) hx hb hts in_Model hown hK hP 0 rfl rfl 12 (by decide) (hts _ kw767) (fun _ h9 => h9) rfl d_Model_goesOn_124 ?_
                    refine lv_iload_n hx hb d_Model_goesOn_127 rfl (lv_at hl 3 rfl) ?_
                    refine lv_aload_n hx hb d_Model_goesOn_128 rfl (lv_at hl 2 rfl) ?_
                    refine va_get (D := D) (ci := 7) (v := .ref (ad 4)) (C := "CarrierPathsModel") (T := F_Model) (N := 27) hx hb hts in_Model hown hK hP 0 rfl rfl 6 (by decide) (hts _ kw761) (fun _ h9 => h9) rfl d_Model_goesOn_129 ?_
                    refine lv_iload_n hx hb d_Model_goesOn_132 rfl (lv_at hl 1 rfl) ?_
                    obtain ⟨hi, h⟩ := h
                    refine va_iald hx hb hK hP 4 0 rfl rfl hi d_Model_goesOn_133 ?_
                    obtain ⟨hi, h⟩ := h
                    refine va_iast hx hb hK hP (D_Model inj) hS 8 0 rfl rfl hi d_Model_goesOn_134 (fun H locs hP _ hS => ?_)
                    have hP := up_Model_8 hP
                    exact ih 1 v1 v2 r2 r7 (sto u6 8 v1.toNatClampNeg (u6 4 r2.toNatClampNeg)) h _ _ _ hP hS (lv_sub hl [2, 3, 4, 1, 0] rfl)
                  · have h := h.2 hc
                    refine lv_bipush (v := 9) hx hb d_Model_goesOn_120 (by decide) ?_
                    exact W.iret (v := 9) hx hb hr (fun t ht hW => ⟨⟨9, u6, rfl, h, hp_back ht hP⟩, hS.F ht⟩) hS.2.2 d_Model_goesOn_122
              · have h := h.2 hc
                refine lv_bipush (v := 8) hx hb d_Model_goesOn_80 (by decide) ?_
                exact W.iret (v := 8) hx hb hr (fun t ht hW => ⟨⟨8, u1, rfl, h, hp_back ht hP⟩, hS.F ht⟩) hS.2.2 d_Model_goesOn_82
            · have h := h.2 hc
              refine lv_bipush (v := 7) hx hb d_Model_goesOn_69 (by decide) ?_
              exact W.iret (v := 7) hx hb hr (fun t ht hW => ⟨⟨7, u1, rfl, h, hp_back ht hP⟩, hS.F ht⟩) hS.2.2 d_Model_goesOn_71
          · have h := h.2 hc
            refine lv_bipush (v := 6) hx hb d_Model_goesOn_42 (by decide) ?_
            exact W.iret (v := 6) hx hb hr (fun t ht hW => ⟨⟨6, u1, rfl, h, hp_back ht hP⟩, hS.F ht⟩) hS.2.2 d_Model_goesOn_44
        · have h := h.1 hc
          refine lv_iconst (v := 5) hx hb d_Model_goesOn_21 (by decide) ?_
          exact W.iret (v := 5) hx hb hr (fun t ht hW => ⟨⟨5, u1, rfl, h, hp_back ht hP⟩, hS.F ht⟩) hS.2.2 d_Model_goesOn_22
      | 1, h, hl =>
        have h : q_Model_goesOn_b1 (q_Model_goesOn_j Q n) Q v1 v2 v3 v4 σ := h
        have hl : lv_has ls 5 [(0, .ref (ad 0)), (1, .int v1), (2, .int v2), (3, .int v3), (4, .int v4)] := hl
        refine W.eq (g2 := F0 m 135 ls []) rfl ?_
        unfold q_Model_goesOn_b1 at h
        refine lv_aload_n hx hb d_Model_goesOn_135 rfl (lv_at hl 0 rfl) ?_
        refine va_get (D := D) (ci := 7) (v := .ref (ad 9)) (C := "CarrierPathsModel") (T := F_Model) (N := 27) hx hb hts in_Model hown hK hP 0 rfl rfl 13 (by decide) (hts _ kw768) (fun _ h9 => h9) rfl d_Model_goesOn_136 ?_
        refine lv_iload_n hx hb d_Model_goesOn_139 rfl (lv_at hl 1 rfl) ?_
        refine lv_iload_n hx hb d_Model_goesOn_140 rfl (lv_at hl 3 rfl) ?_
        obtain ⟨hi, h⟩ := h
        refine va_iast hx hb hK hP (D_Model inj) hS 9 0 rfl rfl hi d_Model_goesOn_141 (fun H locs hP _ hS => ?_)
        have hP := up_Model_9 hP
        refine lv_aload_n hx hb d_Model_goesOn_142 rfl (lv_at hl 0 rfl) ?_
        refine va_get (D := D) (ci := 7) (v := .ref (ad 10)) (C := "CarrierPathsModel") (T := F_Model) (N := 27) hx hb hts in_Model hown hK hP 0 rfl rfl 14 (by decide) (hts _ kw769) (fun _ h9 => h9) rfl d_Model_goesOn_143 ?_
        refine lv_iload_n hx hb d_Model_goesOn_146 rfl (lv_at hl 1 rfl) ?_
        refine lv_aload_n hx hb d_Model_goesOn_147 rfl (lv_at hl 0 rfl) ?_
        refine va_get (D := D) (ci := 7) (v := .int ((sto σ 9 v1.toNatClampNeg v3) 0 24)) (C := "CarrierPathsModel") (T := F_Model) (N := 27) hx hb hts in_Model hown hK hP 0 rfl rfl 24 (by decide) (hts _ kw779) (fun _ h9 => h9) rfl d_Model_goesOn_148 ?_
        refine lv_aload_n hx hb d_Model_goesOn_151 rfl (lv_at hl 0 rfl) ?_
        refine va_get (D := D) (ci := 7) (v := .ref (ad 5)) (C := "CarrierPathsModel") (T := F_Model) (N := 27) hx hb hts in_Model hown hK hP 0 rfl rfl 7 (by decide) (hts _ kw762) (fun _ h9 => h9) rfl d_Model_goesOn_152 ?_
        refine lv_iload_n hx hb d_Model_goesOn_155 rfl (lv_at hl 3 rfl) ?_
        obtain ⟨hi, h⟩ := h
        refine va_iald hx hb hK hP 5 0 rfl rfl hi d_Model_goesOn_156 ?_
        refine lv_iadd hx hb d_Model_goesOn_157 ?_
        obtain ⟨hi, h⟩ := h
        refine va_iast hx hb hK hP (D_Model inj) hS 10 0 rfl rfl hi d_Model_goesOn_158 (fun H locs hP _ hS => ?_)
        have hP := up_Model_10 hP
        refine lv_aload_n hx hb d_Model_goesOn_159 rfl (lv_at hl 0 rfl) ?_
        refine va_get (D := D) (ci := 7) (v := .ref (ad 12)) (C := "CarrierPathsModel") (T := F_Model) (N := 27) hx hb hts in_Model hown hK hP 0 rfl rfl 16 (by decide) (hts _ kw771) (fun _ h9 => h9) rfl d_Model_goesOn_160 ?_
        refine lv_iload_n hx hb d_Model_goesOn_163 rfl (lv_at hl 1 rfl) ?_
        refine lv_dup2_11 hx hb d_Model_goesOn_164 rfl rfl ?_
        obtain ⟨hi, h⟩ := h
        refine va_iald hx hb hK hP 12 0 rfl rfl hi d_Model_goesOn_165 ?_
        refine lv_aload_n hx hb d_Model_goesOn_166 rfl (lv_at hl 0 rfl) ?_
        refine va_get (D := D) (ci := 7) (v := .ref (ad 5)) (C := "CarrierPathsModel") (T := F_Model) (N := 27) hx hb hts in_Model hown hK hP 0 rfl rfl 7 (by decide) (hts _ kw762) (fun _ h9 => h9) rfl d_Model_goesOn_167 ?_
        refine lv_iload_n hx hb d_Model_goesOn_170 rfl (lv_at hl 3 rfl) ?_
        obtain ⟨hi, h⟩ := h
        refine va_iald hx hb hK hP 5 0 rfl rfl hi d_Model_goesOn_171 ?_
        refine lv_isub hx hb d_Model_goesOn_172 ?_
        obtain ⟨hi, h⟩ := h
        refine va_iast hx hb hK hP (D_Model inj) hS 12 0 rfl rfl hi d_Model_goesOn_173 (fun H locs hP _ hS => ?_)
        have hP := up_Model_12 hP
        refine lv_aload_n hx hb d_Model_goesOn_174 rfl (lv_at hl 0 rfl) ?_
        refine va_get (D := D) (ci := 7) (v := .ref (ad 14)) (C := "CarrierPathsModel") (T := F_Model) (N := 27) hx hb hts in_Model hown hK hP 0 rfl rfl 18 (by decide) (hts _ kw773) (fun _ h9 => h9) rfl d_Model_goesOn_175 ?_
        refine lv_iload_n hx hb d_Model_goesOn_178 rfl (lv_at hl 1 rfl) ?_
        refine lv_dup2_11 hx hb d_Model_goesOn_179 rfl rfl ?_
        obtain ⟨hi, h⟩ := h
        refine va_iald hx hb hK hP 14 0 rfl rfl hi d_Model_goesOn_180 ?_
        refine lv_aload_n hx hb d_Model_goesOn_181 rfl (lv_at hl 0 rfl) ?_
        refine va_get (D := D) (ci := 7) (v := .ref (ad 17)) (C := "CarrierPathsModel") (T := F_Model) (N := 27) hx hb hts in_Model hown hK hP 0 rfl rfl 22 (by decide) (hts _ kw777) (fun _ h9 => h9) rfl d_Model_goesOn_182 ?_
        refine lv_aload_n hx hb d_Model_goesOn_185 rfl (lv_at hl 0 rfl) ?_
        refine va_get (D := D) (ci := 7) (v := .ref (ad 11)) (C := "CarrierPathsModel") (T := F_Model) (N := 27) hx hb hts in_Model hown hK hP 0 rfl rfl 15 (by decide) (hts _ kw770) (fun _ h9 => h9) rfl d_Model_goesOn_186 ?_
        refine lv_iload_n hx hb d_Model_goesOn_189 rfl (lv_at hl 1 rfl) ?_
        obtain ⟨hi, h⟩ := h
        refine va_iald hx hb hK hP 11 0 rfl rfl hi d_Model_goesOn_190 ?_
        obtain ⟨hi, h⟩ := h
        refine va_iald hx hb hK hP 17 0 rfl rfl hi d_Model_goesOn_191 ?_
        refine lv_iconst (v := 1) hx hb d_Model_goesOn_192 (by decide) ?_
        refine lv_icmp_ne (tgt := 205) hx hb d_Model_goesOn_193 (by decide) (fun hc => ?_) (fun hc => ?_)
        · have h := h.2 hc
          refine lv_iconst (v := 0) hx hb d_Model_goesOn_205 (by decide) ?_
          refine lv_iadd hx hb d_Model_goesOn_206 ?_
          obtain ⟨hi, h⟩ := h
          refine va_iast hx hb hK hP (D_Model inj) hS 14 0 rfl rfl hi d_Model_goesOn_207 (fun H locs hP _ hS => ?_)
          have hP := up_Model_14 hP
          refine lv_bipush (v := 10) hx hb d_Model_goesOn_208 (by decide) ?_
          exact W.iret (v := 10) hx hb hr (fun t ht hW => ⟨⟨10, (sto (sto (sto (sto σ 9 v1.toNatClampNeg v3) 10 v1.toNatClampNeg (((sto σ 9 v1.toNatClampNeg v3) 0 24) + ((sto σ 9 v1.toNatClampNeg v3) 5 v3.toNatClampNeg))) 12 v1.toNatClampNeg (((sto (sto σ 9 v1.toNatClampNeg v3) 10 v1.toNatClampNeg (((sto σ 9 v1.toNatClampNeg v3) 0 24) + ((sto σ 9 v1.toNatClampNeg v3) 5 v3.toNatClampNeg))) 12 v1.toNatClampNeg) - ((sto (sto σ 9 v1.toNatClampNeg v3) 10 v1.toNatClampNeg (((sto σ 9 v1.toNatClampNeg v3) 0 24) + ((sto σ 9 v1.toNatClampNeg v3) 5 v3.toNatClampNeg))) 5 v3.toNatClampNeg))) 14 v1.toNatClampNeg (((sto (sto (sto σ 9 v1.toNatClampNeg v3) 10 v1.toNatClampNeg (((sto σ 9 v1.toNatClampNeg v3) 0 24) + ((sto σ 9 v1.toNatClampNeg v3) 5 v3.toNatClampNeg))) 12 v1.toNatClampNeg (((sto (sto σ 9 v1.toNatClampNeg v3) 10 v1.toNatClampNeg (((sto σ 9 v1.toNatClampNeg v3) 0 24) + ((sto σ 9 v1.toNatClampNeg v3) 5 v3.toNatClampNeg))) 12 v1.toNatClampNeg) - ((sto (sto σ 9 v1.toNatClampNeg v3) 10 v1.toNatClampNeg (((sto σ 9 v1.toNatClampNeg v3) 0 24) + ((sto σ 9 v1.toNatClampNeg v3) 5 v3.toNatClampNeg))) 5 v3.toNatClampNeg))) 14 v1.toNatClampNeg) + 0)), rfl, h, hp_back ht hP⟩, hS.F ht⟩) hS.2.2 d_Model_goesOn_210
        · have h := h.1 hc
          refine lv_aload_n hx hb d_Model_goesOn_196 rfl (lv_at hl 0 rfl) ?_
          refine va_get (D := D) (ci := 7) (v := .ref (ad 5)) (C := "CarrierPathsModel") (T := F_Model) (N := 27) hx hb hts in_Model hown hK hP 0 rfl rfl 7 (by decide) (hts _ kw762) (fun _ h9 => h9) rfl d_Model_goesOn_197 ?_
          refine lv_iload_n hx hb d_Model_goesOn_200 rfl (lv_at hl 3 rfl) ?_
          obtain ⟨hi, h⟩ := h
          refine va_iald hx hb hK hP 5 0 rfl rfl hi d_Model_goesOn_201 ?_
          refine lv_goto (tgt := 206) hx hb d_Model_goesOn_202 (by decide) ?_
          refine lv_iadd hx hb d_Model_goesOn_206 ?_
          obtain ⟨hi, h⟩ := h
          refine va_iast hx hb hK hP (D_Model inj) hS 14 0 rfl rfl hi d_Model_goesOn_207 (fun H locs hP _ hS => ?_)
          have hP := up_Model_14 hP
          refine lv_bipush (v := 10) hx hb d_Model_goesOn_208 (by decide) ?_
          exact W.iret (v := 10) hx hb hr (fun t ht hW => ⟨⟨10, (sto (sto (sto (sto σ 9 v1.toNatClampNeg v3) 10 v1.toNatClampNeg (((sto σ 9 v1.toNatClampNeg v3) 0 24) + ((sto σ 9 v1.toNatClampNeg v3) 5 v3.toNatClampNeg))) 12 v1.toNatClampNeg (((sto (sto σ 9 v1.toNatClampNeg v3) 10 v1.toNatClampNeg (((sto σ 9 v1.toNatClampNeg v3) 0 24) + ((sto σ 9 v1.toNatClampNeg v3) 5 v3.toNatClampNeg))) 12 v1.toNatClampNeg) - ((sto (sto σ 9 v1.toNatClampNeg v3) 10 v1.toNatClampNeg (((sto σ 9 v1.toNatClampNeg v3) 0 24) + ((sto σ 9 v1.toNatClampNeg v3) 5 v3.toNatClampNeg))) 5 v3.toNatClampNeg))) 14 v1.toNatClampNeg (((sto (sto (sto σ 9 v1.toNatClampNeg v3) 10 v1.toNatClampNeg (((sto σ 9 v1.toNatClampNeg v3) 0 24) + ((sto σ 9 v1.toNatClampNeg v3) 5 v3.toNatClampNeg))) 12 v1.toNatClampNeg (((sto (sto σ 9 v1.toNatClampNeg v3) 10 v1.toNatClampNeg (((sto σ 9 v1.toNatClampNeg v3) 0 24) + ((sto σ 9 v1.toNatClampNeg v3) 5 v3.toNatClampNeg))) 12 v1.toNatClampNeg) - ((sto (sto σ 9 v1.toNatClampNeg v3) 10 v1.toNatClampNeg (((sto σ 9 v1.toNatClampNeg v3) 0 24) + ((sto σ 9 v1.toNatClampNeg v3) 5 v3.toNatClampNeg))) 5 v3.toNatClampNeg))) 14 v1.toNatClampNeg) + ((sto (sto (sto σ 9 v1.toNatClampNeg v3) 10 v1.toNatClampNeg (((sto σ 9 v1.toNatClampNeg v3) 0 24) + ((sto σ 9 v1.toNatClampNeg v3) 5 v3.toNatClampNeg))) 12 v1.toNatClampNeg (((sto (sto σ 9 v1.toNatClampNeg v3) 10 v1.toNatClampNeg (((sto σ 9 v1.toNatClampNeg v3) 0 24) + ((sto σ 9 v1.toNatClampNeg v3) 5 v3.toNatClampNeg))) 12 v1.toNatClampNeg) - ((sto (sto σ 9 v1.toNatClampNeg v3) 10 v1.toNatClampNeg (((sto σ 9 v1.toNatClampNeg v3) 0 24) + ((sto σ 9 v1.toNatClampNeg v3) 5 v3.toNatClampNeg))) 5 v3.toNatClampNeg))) 5 v3.toNatClampNeg))), rfl, h, hp_back ht hP⟩, hS.F ht⟩) hS.2.2 d_Model_goesOn_210
      | _ + 2, h, _ => exact False.elim h
  exact key 4000 0 v1 v2 0 0 σ h s.heap [] ls hP hS hl
def q_Model_step_b0 (J : Nat → Int32 → Int32 → Sg → Prop) (Q : (Int32 → Sg → Prop)) (v1 v2 : Int32) (σ : Sg) : Prop :=
  (q_Model_isCarrier v1 σ (fun r1 => ((r1 = 0 → (q_Model_fails 1 σ (fun r3 u2 => Q r3 u2))) ∧ (¬ r1 = 0 → (vp_in v1 6 ∧ ((((sto σ 0 0 0) 9 v1.toNatClampNeg) = (-1) → (vp_in v1 6 ∧ ((((sto σ 0 0 0) 11 v1.toNatClampNeg) = (-1) → Q 2 (sto σ 0 0 0)) ∧ (¬ ((sto σ 0 0 0) 11 v1.toNatClampNeg) = (-1) → (vp_in ((sto σ 0 0 0) 11 v1.toNatClampNeg) 12 ∧ ((((sto σ 0 0 0) 17 ((sto σ 0 0 0) 11 v1.toNatClampNeg).toNatClampNeg) = 1 → (vp_in v1 6 ∧ (vp_in ((sto σ 0 0 0) 11 v1.toNatClampNeg) 12 ∧ ((((sto σ 0 0 0) 8 v1.toNatClampNeg) = ((sto σ 0 0 0) 15 ((sto σ 0 0 0) 11 v1.toNatClampNeg).toNatClampNeg) → (vp_in ((sto σ 0 0 0) 11 v1.toNatClampNeg) 12 ∧ Q 3 (sto (sto σ 0 0 0) 17 ((sto σ 0 0 0) 11 v1.toNatClampNeg).toNatClampNeg 2))) ∧ (¬ ((sto σ 0 0 0) 8 v1.toNatClampNeg) = ((sto σ 0 0 0) 15 ((sto σ 0 0 0) 11 v1.toNatClampNeg).toNatClampNeg) → J 1 v1 ((sto σ 0 0 0) 11 v1.toNatClampNeg) (sto σ 0 0 0)))))) ∧ (¬ ((sto σ 0 0 0) 17 ((sto σ 0 0 0) 11 v1.toNatClampNeg).toNatClampNeg) = 1 → J 1 v1 ((sto σ 0 0 0) 11 v1.toNatClampNeg) (sto σ 0 0 0)))))))) ∧ (¬ ((sto σ 0 0 0) 9 v1.toNatClampNeg) = (-1) → Q 1 (sto σ 0 0 0))))))))
def q_Model_step_b1 (J : Nat → Int32 → Int32 → Sg → Prop) (Q : (Int32 → Sg → Prop)) (v1 v2 : Int32) (σ : Sg) : Prop :=
  (vp_in v2 12 ∧ (((σ 17 v2.toNatClampNeg) = 2 → (vp_in v1 6 ∧ (vp_in v2 12 ∧ (((σ 8 v1.toNatClampNeg) = (σ 16 v2.toNatClampNeg) → (vp_in v2 12 ∧ (vp_in v1 6 ∧ (vp_in v1 6 ∧ (vp_in v1 6 ∧ Q 4 (sto (sto (sto σ 17 v2.toNatClampNeg 3) 11 v1.toNatClampNeg (-1)) 13 v1.toNatClampNeg (((sto (sto σ 17 v2.toNatClampNeg 3) 11 v1.toNatClampNeg (-1)) 13 v1.toNatClampNeg) + 1))))))) ∧ (¬ (σ 8 v1.toNatClampNeg) = (σ 16 v2.toNatClampNeg) → J 2 v1 v2 σ))))) ∧ (¬ (σ 17 v2.toNatClampNeg) = 2 → J 2 v1 v2 σ)))
def q_Model_step_b2 (J : Nat → Int32 → Int32 → Sg → Prop) (Q : (Int32 → Sg → Prop)) (v1 v2 : Int32) (σ : Sg) : Prop :=
  (vp_in v2 12 ∧ (((σ 17 v2.toNatClampNeg) = 1 → (vp_in v2 12 ∧ (q_Model_goesOn v1 (σ 15 v2.toNatClampNeg) σ (fun r7 u6 => Q r7 u6)))) ∧ (¬ (σ 17 v2.toNatClampNeg) = 1 → (vp_in v2 12 ∧ (q_Model_goesOn v1 (σ 16 v2.toNatClampNeg) σ (fun r5 u4 => Q r5 u4))))))
def q_Model_step_j (Q : (Int32 → Sg → Prop)) : Nat → Nat → Int32 → Int32 → Sg → Prop
  | 0, _, _, _, _ => False
  | n + 1, 0, v1, v2, σ => q_Model_step_b0 (q_Model_step_j Q n) Q v1 v2 σ
  | n + 1, 1, v1, v2, σ => q_Model_step_b1 (q_Model_step_j Q n) Q v1 v2 σ
  | n + 1, 2, v1, v2, σ => q_Model_step_b2 (q_Model_step_j Q n) Q v1 v2 σ
  | _ + 1, _ + 3, _, _, _ => False
def q_Model_step (v1 : Int32) (σ : Sg) (Q : (Int32 → Sg → Prop)) : Prop := q_Model_step_j Q 4000 0 v1 0 σ
def lc_Model_step (ad : Nat → Nat) (b : Nat) (v1 v2 : Int32) : List (Nat × Value) := match b with
  | 0 => [(0, .ref (ad 0)), (1, .int v1)]
  | 1 => [(0, .ref (ad 0)), (1, .int v1), (2, .int v2)]
  | 2 => [(0, .ref (ad 0)), (1, .int v1), (2, .int v2)]
  | _ => []
def pc_Model_step (b : Nat) : Nat := match b with
  | 0 => 0
  | 1 => 79
  | 2 => 130
  | _ => 0
set_option maxHeartbeats 4000000 in
set_option maxRecDepth 100000 in
theorem t_Model_step (l : Launch) (D : va_G) (cI cZ : ClassId) (ad : Nat → Nat) (inj : Inj ad 21) (v1 : Int32) (σ : Sg) (Q : (Int32 → Sg → Prop)) (h : q_Model_step v1 σ Q) : Met l y_Model_step (.code y_Model_step prog_9_method_26_code 3 (some .int) :: TG) { frames := 4, cells := 0, slots := 0, locals := 93 } (va_Pc [.ref (ad 0), .int v1] (roB D (tysA cI cZ) (W_Model ad cI cZ σ))) (va_Qi Q (fun u t => va_P D classes (W_Model ad cI cZ u) t.heap) (inA ad 21)) 0 0 (inA ad 21) := by
  refine Met.ofW (cc := prog_9_method_26_code) (maxL := 3) (ret := (some .int)) (by decide) rfl ?_
  intro p e s m args below meth c s₁ B hml hv
  obtain ⟨rfl, hP, hK⟩ := hv
  have hx := B.exec
  have hb := B.bytes
  have hr := B.returns
  have hts : ∀ w ∈ TG, w.before [.ref (ad 0), .int v1].toArray s = true := fun w hw => atoms_spec (ws := .code y_Model_step prog_9_method_26_code 3 (some .int) :: TG) B.pre w (List.mem_cons_of_mem _ hw)
  have hown : s.vm.findClass "CarrierPathsModel" = some m.cls := findClass_of_methodNamed B.named
  have hlocks := B.notSynchronized
  have hS : va_S (inA ad 21) s.heap s.heap [] := va_S.rf
  have hl := lv_entry ([.ref (ad 0), .int v1]) (n := 3) (Nat.le_of_ble_eq_true rfl)
  rw [lg_entry_eq]
  generalize (lg_sl ([.ref (ad 0), .int v1]) ++ List.replicate (3 - (lg_sl ([.ref (ad 0), .int v1])).length) Slot.unset).toArray = ls at hl ⊢
  generalize ([.ref (ad 0), .int v1] : List Value).toArray = args at hts ⊢
  have key : ∀ (n b : Nat) (v1 v2 : Int32) (σ : Sg), q_Model_step_j Q n b v1 v2 σ → ∀ (H : Heap) (locs : List Loc) (ls : Array Slot), va_P D classes (W_Model ad cI cZ σ) H → va_S (inA ad 21) s.heap H locs → lv_has ls 3 (lc_Model_step ad b v1 v2) → W p l e (headSpec (.code y_Model_step prog_9_method_26_code 3 (some .int) :: TG) { frames := 4, cells := 0, slots := 0, locals := 93 }).room s m args below meth c H locs 0 0 (MQ below (va_Qi Q (fun u t => va_P D classes (W_Model ad cI cZ u) t.heap) (inA ad 21)) args s 0 0 (inA ad 21)) (F0 m (pc_Model_step b) ls []) := by
    clear h hl hP hS
    intro n
    induction n with
    | zero => intro b _ _ _ h; exact False.elim h
    | succ n ih =>
      intro b v1 v2 σ h H locs ls hP hS hl
      match b, h, hl with
      | 0, h, hl =>
        have h : q_Model_step_b0 (q_Model_step_j Q n) Q v1 v2 σ := h
        have hl : lv_has ls 3 [(0, .ref (ad 0)), (1, .int v1)] := hl
        refine W.eq (g2 := F0 m 0 ls []) rfl ?_
        unfold q_Model_step_b0 at h
        refine lv_aload_n hx hb d_Model_step_0 rfl (lv_at hl 0 rfl) ?_
        refine lv_iload_n hx hb d_Model_step_1 rfl (lv_at hl 1 rfl) ?_
        refine vp_callSi (W.runV (As := [.int v1]) (rest := []) ⟨hx, hb, hml, hown, hts⟩ (t_Model_isCarrier l D cI cZ ad v1 σ _ h) (cwV 1 hts (g_of kw914 kw916 kp30 kw9 kw917) rfl rfl rfl (by decide +kernel) ⟨Nat.le_of_ble_eq_true rfl, Nat.le_of_ble_eq_true rfl⟩) (ro_pre hK hP (va_recv hK hP (ci := 7) (q0 := 0) rfl rfl)) rfl rfl hl.1 rfl (lv_room (Nat.le_of_ble_eq_true rfl)) d_Model_step_2 ⟨Nat.le_of_ble_eq_true rfl, Nat.le_of_ble_eq_true rfl⟩) (fun r1 h => ?_)
        refine lv_if_ne (tgt := 14) hx hb d_Model_step_5 (by decide) (fun hc => ?_) (fun hc => ?_)
        · have h := h.2 hc
          refine lv_aload_n hx hb d_Model_step_14 rfl (lv_at hl 0 rfl) ?_
          refine lv_iconst (v := 0) hx hb d_Model_step_15 (by decide) ?_
          refine va_put (D := D) (ci := 7) (v := .int 0) (ty := .int) (C := "CarrierPathsModel") (T := F_Model) (N := 27) hx hb hts in_Model ty_Model ty_Model_ok nm_Model hown hK hP (D_Model inj) hS 0 rfl rfl 0 (by decide) (hts _ kw755) (fun _ h9 => h9) rfl (by decide +kernel) rfl rfl (Nat.le_of_ble_eq_true rfl) d_Model_step_16 (fun H locs hP _ hS => ?_)
          have hP := up_Model_f0 hP
          refine lv_aload_n hx hb d_Model_step_19 rfl (lv_at hl 0 rfl) ?_
          refine va_get (D := D) (ci := 7) (v := .ref (ad 9)) (C := "CarrierPathsModel") (T := F_Model) (N := 27) hx hb hts in_Model hown hK hP 0 rfl rfl 13 (by decide) (hts _ kw768) (fun _ h9 => h9) rfl d_Model_step_20 ?_
          refine lv_iload_n hx hb d_Model_step_23 rfl (lv_at hl 1 rfl) ?_
          obtain ⟨hi, h⟩ := h
          refine va_iald hx hb hK hP 9 0 rfl rfl hi d_Model_step_24 ?_
          refine lv_iconst (v := (-1)) hx hb d_Model_step_25 (by decide) ?_
          refine lv_icmp_eq (tgt := 31) hx hb d_Model_step_26 (by decide) (fun hc => ?_) (fun hc => ?_)
          · have h := h.1 hc
            refine lv_aload_n hx hb d_Model_step_31 rfl (lv_at hl 0 rfl) ?_
            refine va_get (D := D) (ci := 7) (v := .ref (ad 11)) (C := "CarrierPathsModel") (T := F_Model) (N := 27) hx hb hts in_Model hown hK hP 0 rfl rfl 15 (by decide) (hts _ kw770) (fun _ h9 => h9) rfl d_Model_step_32 ?_
            refine lv_iload_n hx hb d_Model_step_35 rfl (lv_at hl 1 rfl) ?_
            obtain ⟨hi, h⟩ := h
            refine va_iald hx hb hK hP 11 0 rfl rfl hi d_Model_step_36 ?_
            refine lv_istore_n (lv' := [(2, .int ((sto σ 0 0 0) 11 v1.toNatClampNeg)), (0, .ref (ad 0)), (1, .int v1)]) hx hb d_Model_step_37 rfl hl (by decide) rfl (fun ls hl => ?_)
            refine lv_iload_n hx hb d_Model_step_38 rfl (lv_at hl 0 rfl) ?_
            refine lv_iconst (v := (-1)) hx hb d_Model_step_39 (by decide) ?_
            refine lv_icmp_ne (tgt := 45) hx hb d_Model_step_40 (by decide) (fun hc => ?_) (fun hc => ?_)
            · have h := h.2 hc
              refine lv_aload_n hx hb d_Model_step_45 rfl (lv_at hl 1 rfl) ?_
              refine va_get (D := D) (ci := 7) (v := .ref (ad 17)) (C := "CarrierPathsModel") (T := F_Model) (N := 27) hx hb hts in_Model hown hK hP 0 rfl rfl 22 (by decide) (hts _ kw777) (fun _ h9 => h9) rfl d_Model_step_46 ?_
              refine lv_iload_n hx hb d_Model_step_49 rfl (lv_at hl 0 rfl) ?_
              obtain ⟨hi, h⟩ := h
              refine va_iald hx hb hK hP 17 0 rfl rfl hi d_Model_step_50 ?_
              refine lv_iconst (v := 1) hx hb d_Model_step_51 (by decide) ?_
              refine lv_icmp_ne (tgt := 79) hx hb d_Model_step_52 (by decide) (fun hc => ?_) (fun hc => ?_)
              · have h := h.2 hc
                exact ih 1 v1 ((sto σ 0 0 0) 11 v1.toNatClampNeg) (sto σ 0 0 0) h _ _ _ hP hS (lv_sub hl [1, 2, 0] rfl)
              · have h := h.1 hc
                refine lv_aload_n hx hb d_Model_step_55 rfl (lv_at hl 1 rfl) ?_
                refine va_get (D := D) (ci := 7) (v := .ref (ad 8)) (C := "CarrierPathsModel") (T := F_Model) (N := 27) hx hb hts in_Model hown hK hP 0 rfl rfl 12 (by decide) (hts _ kw767) (fun _ h9 => h9) rfl d_Model_step_56 ?_
                refine lv_iload_n hx hb d_Model_step_59 rfl (lv_at hl 2 rfl) ?_
                obtain ⟨hi, h⟩ := h
                refine va_iald hx hb hK hP 8 0 rfl rfl hi d_Model_step_60 ?_
                refine lv_aload_n hx hb d_Model_step_61 rfl (lv_at hl 1 rfl) ?_
                refine va_get (D := D) (ci := 7) (v := .ref (ad 15)) (C := "CarrierPathsModel") (T := F_Model) (N := 27) hx hb hts in_Model hown hK hP 0 rfl rfl 20 (by decide) (hts _ kw775) (fun _ h9 => h9) rfl d_Model_step_62 ?_
                refine lv_iload_n hx hb d_Model_step_65 rfl (lv_at hl 0 rfl) ?_
                obtain ⟨hi, h⟩ := h
                refine va_iald hx hb hK hP 15 0 rfl rfl hi d_Model_step_66 ?_
                refine lv_icmp_ne (tgt := 79) hx hb d_Model_step_67 (by decide) (fun hc => ?_) (fun hc => ?_)
                · have h := h.2 hc
                  exact ih 1 v1 ((sto σ 0 0 0) 11 v1.toNatClampNeg) (sto σ 0 0 0) h _ _ _ hP hS (lv_sub hl [1, 2, 0] rfl)
                · have h := h.1 hc
                  refine lv_aload_n hx hb d_Model_step_70 rfl (lv_at hl 1 rfl) ?_
                  refine va_get (D := D) (ci := 7) (v := .ref (ad 17)) (C := "CarrierPathsModel") (T := F_Model) (N := 27) hx hb hts in_Model hown hK hP 0 rfl rfl 22 (by decide) (hts _ kw777) (fun _ h9 => h9) rfl d_Model_step_71 ?_
                  refine lv_iload_n hx hb d_Model_step_74 rfl (lv_at hl 0 rfl) ?_
                  refine lv_iconst (v := 2) hx hb d_Model_step_75 (by decide) ?_
                  obtain ⟨hi, h⟩ := h
                  refine va_iast hx hb hK hP (D_Model inj) hS 17 0 rfl rfl hi d_Model_step_76 (fun H locs hP _ hS => ?_)
                  have hP := up_Model_17 hP
                  refine lv_iconst (v := 3) hx hb d_Model_step_77 (by decide) ?_
                  exact W.iret (v := 3) hx hb hr (fun t ht hW => ⟨⟨3, (sto (sto σ 0 0 0) 17 ((sto σ 0 0 0) 11 v1.toNatClampNeg).toNatClampNeg 2), rfl, h, hp_back ht hP⟩, hS.F ht⟩) hS.2.2 d_Model_step_78
            · have h := h.1 hc
              refine lv_iconst (v := 2) hx hb d_Model_step_43 (by decide) ?_
              exact W.iret (v := 2) hx hb hr (fun t ht hW => ⟨⟨2, (sto σ 0 0 0), rfl, h, hp_back ht hP⟩, hS.F ht⟩) hS.2.2 d_Model_step_44
          · have h := h.2 hc
            refine lv_iconst (v := 1) hx hb d_Model_step_29 (by decide) ?_
            exact W.iret (v := 1) hx hb hr (fun t ht hW => ⟨⟨1, (sto σ 0 0 0), rfl, h, hp_back ht hP⟩, hS.F ht⟩) hS.2.2 d_Model_step_30
        · have h := h.1 hc
          refine lv_aload_n hx hb d_Model_step_8 rfl (lv_at hl 0 rfl) ?_
          refine lv_iconst (v := 1) hx hb d_Model_step_9 (by decide) ?_
          refine va_calli (va_runV (As := [.int 1]) (rest := []) ⟨hx, hb, hml, hown, hts⟩ (t_Model_fails l D cI cZ ad inj 1 σ _ h) (cwV 1 hts (g_of kw852 kw854 kp23 kw9 kw855) rfl rfl rfl (by decide +kernel) ⟨Nat.le_of_ble_eq_true rfl, Nat.le_of_ble_eq_true rfl⟩) (ro_pre hK hP (va_recv hK hP (ci := 7) (q0 := 0) rfl rfl)) rfl rfl hl.1 rfl (lv_room (Nat.le_of_ble_eq_true rfl)) d_Model_step_10 ⟨Nat.le_of_ble_eq_true rfl, Nat.le_of_ble_eq_true rfl⟩) hS (fun _ _ h => h) (fun _ h => h) (fun r3 u2 t H1 locs ht _ h hP1 _ hk1 hS => ?_)
          have hP1 : va_P D classes (W_Model ad cI cZ u2) H1 := hp_fwd ht hP1
          clear hk1 ht
          generalize H1 = H at hP1 hS ⊢
          have hP := hP1
          exact W.iret (v := r3) hx hb hr (fun t ht hW => ⟨⟨r3, u2, rfl, h, hp_back ht hP⟩, hS.F ht⟩) hS.2.2 d_Model_step_13
      | 1, h, hl =>
        have h : q_Model_step_b1 (q_Model_step_j Q n) Q v1 v2 σ := h
        have hl : lv_has ls 3 [(0, .ref (ad 0)), (1, .int v1), (2, .int v2)] := hl
        refine W.eq (g2 := F0 m 79 ls []) rfl ?_
        unfold q_Model_step_b1 at h
        refine lv_aload_n hx hb d_Model_step_79 rfl (lv_at hl 0 rfl) ?_
        refine va_get (D := D) (ci := 7) (v := .ref (ad 17)) (C := "CarrierPathsModel") (T := F_Model) (N := 27) hx hb hts in_Model hown hK hP 0 rfl rfl 22 (by decide) (hts _ kw777) (fun _ h9 => h9) rfl d_Model_step_80 ?_
        refine lv_iload_n hx hb d_Model_step_83 rfl (lv_at hl 2 rfl) ?_
        obtain ⟨hi, h⟩ := h
        refine va_iald hx hb hK hP 17 0 rfl rfl hi d_Model_step_84 ?_
        refine lv_iconst (v := 2) hx hb d_Model_step_85 (by decide) ?_
        refine lv_icmp_ne (tgt := 130) hx hb d_Model_step_86 (by decide) (fun hc => ?_) (fun hc => ?_)
        · have h := h.2 hc
          exact ih 2 v1 v2 σ h _ _ _ hP hS (lv_sub hl [0, 1, 2] rfl)
        · have h := h.1 hc
          refine lv_aload_n hx hb d_Model_step_89 rfl (lv_at hl 0 rfl) ?_
          refine va_get (D := D) (ci := 7) (v := .ref (ad 8)) (C := "CarrierPathsModel") (T := F_Model) (N := 27) hx hb hts in_Model hown hK hP 0 rfl rfl 12 (by decide) (hts _ kw767) (fun _ h9 => h9) rfl d_Model_step_90 ?_
          refine lv_iload_n hx hb d_Model_step_93 rfl (lv_at hl 1 rfl) ?_
          obtain ⟨hi, h⟩ := h
          refine va_iald hx hb hK hP 8 0 rfl rfl hi d_Model_step_94 ?_
          refine lv_aload_n hx hb d_Model_step_95 rfl (lv_at hl 0 rfl) ?_
          refine va_get (D := D) (ci := 7) (v := .ref (ad 16)) (C := "CarrierPathsModel") (T := F_Model) (N := 27) hx hb hts in_Model hown hK hP 0 rfl rfl 21 (by decide) (hts _ kw776) (fun _ h9 => h9) rfl d_Model_step_96 ?_
          refine lv_iload_n hx hb d_Model_step_99 rfl (lv_at hl 2 rfl) ?_
          obtain ⟨hi, h⟩ := h
          refine va_iald hx hb hK hP 16 0 rfl rfl hi d_Model_step_100 ?_
          refine lv_icmp_ne (tgt := 130) hx hb d_Model_step_101 (by decide) (fun hc => ?_) (fun hc => ?_)
          · have h := h.2 hc
            exact ih 2 v1 v2 σ h _ _ _ hP hS (lv_sub hl [0, 1, 2] rfl)
          · have h := h.1 hc
            refine lv_aload_n hx hb d_Model_step_104 rfl (lv_at hl 0 rfl) ?_
            refine va_get (D := D) (ci := 7) (v := .ref (ad 17)) (C := "CarrierPathsModel") (T := F_Model) (N := 27) hx hb hts in_Model hown hK hP 0 rfl rfl 22 (by decide) (hts _ kw777) (fun _ h9 => h9) rfl d_Model_step_105 ?_
            refine lv_iload_n hx hb d_Model_step_108 rfl (lv_at hl 2 rfl) ?_
            refine lv_iconst (v := 3) hx hb d_Model_step_109 (by decide) ?_
            obtain ⟨hi, h⟩ := h
            refine va_iast hx hb hK hP (D_Model inj) hS 17 0 rfl rfl hi d_Model_step_110 (fun H locs hP _ hS => ?_)
            have hP := up_Model_17 hP
            refine lv_aload_n hx hb d_Model_step_111 rfl (lv_at hl 0 rfl) ?_
            refine va_get (D := D) (ci := 7) (v := .ref (ad 11)) (C := "CarrierPathsModel") (T := F_Model) (N := 27) hx hb hts in_Model hown hK hP 0 rfl rfl 15 (by decide) (hts _ kw770) (fun _ h9 => h9) rfl d_Model_step_112 ?_
            refine lv_iload_n hx hb d_Model_step_115 rfl (lv_at hl 1 rfl) ?_
            refine lv_iconst (v := (-1)) hx hb d_Model_step_116 (by decide) ?_
            obtain ⟨hi, h⟩ := h
            refine va_iast hx hb hK hP (D_Model inj) hS 11 0 rfl rfl hi d_Model_step_117 (fun H locs hP _ hS => ?_)
            have hP := up_Model_11 hP
            refine lv_aload_n hx hb d_Model_step_118 rfl (lv_at hl 0 rfl) ?_
            refine va_get (D := D) (ci := 7) (v := .ref (ad 13)) (C := "CarrierPathsModel") (T := F_Model) (N := 27) hx hb hts in_Model hown hK hP 0 rfl rfl 17 (by decide) (hts _ kw772) (fun _ h9 => h9) rfl d_Model_step_119 ?_
            refine lv_iload_n hx hb d_Model_step_122 rfl (lv_at hl 1 rfl) ?_
            refine lv_dup2_11 hx hb d_Model_step_123 rfl rfl ?_
            obtain ⟨hi, h⟩ := h
            refine va_iald hx hb hK hP 13 0 rfl rfl hi d_Model_step_124 ?_
            refine lv_iconst (v := 1) hx hb d_Model_step_125 (by decide) ?_
            refine lv_iadd hx hb d_Model_step_126 ?_
            obtain ⟨hi, h⟩ := h
            refine va_iast hx hb hK hP (D_Model inj) hS 13 0 rfl rfl hi d_Model_step_127 (fun H locs hP _ hS => ?_)
            have hP := up_Model_13 hP
            refine lv_iconst (v := 4) hx hb d_Model_step_128 (by decide) ?_
            exact W.iret (v := 4) hx hb hr (fun t ht hW => ⟨⟨4, (sto (sto (sto σ 17 v2.toNatClampNeg 3) 11 v1.toNatClampNeg (-1)) 13 v1.toNatClampNeg (((sto (sto σ 17 v2.toNatClampNeg 3) 11 v1.toNatClampNeg (-1)) 13 v1.toNatClampNeg) + 1)), rfl, h, hp_back ht hP⟩, hS.F ht⟩) hS.2.2 d_Model_step_129
      | 2, h, hl =>
        have h : q_Model_step_b2 (q_Model_step_j Q n) Q v1 v2 σ := h
        have hl : lv_has ls 3 [(0, .ref (ad 0)), (1, .int v1), (2, .int v2)] := hl
        refine W.eq (g2 := F0 m 130 ls []) rfl ?_
        unfold q_Model_step_b2 at h
        refine lv_aload_n hx hb d_Model_step_130 rfl (lv_at hl 0 rfl) ?_
        refine lv_iload_n hx hb d_Model_step_131 rfl (lv_at hl 1 rfl) ?_
        refine lv_aload_n hx hb d_Model_step_132 rfl (lv_at hl 0 rfl) ?_
        refine va_get (D := D) (ci := 7) (v := .ref (ad 17)) (C := "CarrierPathsModel") (T := F_Model) (N := 27) hx hb hts in_Model hown hK hP 0 rfl rfl 22 (by decide) (hts _ kw777) (fun _ h9 => h9) rfl d_Model_step_133 ?_
        refine lv_iload_n hx hb d_Model_step_136 rfl (lv_at hl 2 rfl) ?_
        obtain ⟨hi, h⟩ := h
        refine va_iald hx hb hK hP 17 0 rfl rfl hi d_Model_step_137 ?_
        refine lv_iconst (v := 1) hx hb d_Model_step_138 (by decide) ?_
        refine lv_icmp_ne (tgt := 151) hx hb d_Model_step_139 (by decide) (fun hc => ?_) (fun hc => ?_)
        · have h := h.2 hc
          refine lv_aload_n hx hb d_Model_step_151 rfl (lv_at hl 0 rfl) ?_
          refine va_get (D := D) (ci := 7) (v := .ref (ad 16)) (C := "CarrierPathsModel") (T := F_Model) (N := 27) hx hb hts in_Model hown hK hP 0 rfl rfl 21 (by decide) (hts _ kw776) (fun _ h9 => h9) rfl d_Model_step_152 ?_
          refine lv_iload_n hx hb d_Model_step_155 rfl (lv_at hl 2 rfl) ?_
          obtain ⟨hi, h⟩ := h
          refine va_iald hx hb hK hP 16 0 rfl rfl hi d_Model_step_156 ?_
          refine va_calli (va_runV (As := [.int v1, .int (σ 16 v2.toNatClampNeg)]) (rest := []) ⟨hx, hb, hml, hown, hts⟩ (t_Model_goesOn l D cI cZ ad inj v1 (σ 16 v2.toNatClampNeg) σ _ h) (cwV 2 hts (g_of kw918 kw920 kp31 kw9 kw921) rfl rfl rfl (by decide +kernel) ⟨Nat.le_of_ble_eq_true rfl, Nat.le_of_ble_eq_true rfl⟩) (ro_pre hK hP (va_recv hK hP (ci := 7) (q0 := 0) rfl rfl)) rfl rfl hl.1 rfl (lv_room (Nat.le_of_ble_eq_true rfl)) d_Model_step_157 ⟨Nat.le_of_ble_eq_true rfl, Nat.le_of_ble_eq_true rfl⟩) hS (fun _ _ h => h) (fun _ h => h) (fun r5 u4 t H1 locs ht _ h hP1 _ hk1 hS => ?_)
          have hP1 : va_P D classes (W_Model ad cI cZ u4) H1 := hp_fwd ht hP1
          clear hk1 ht
          generalize H1 = H at hP1 hS ⊢
          have hP := hP1
          exact W.iret (v := r5) hx hb hr (fun t ht hW => ⟨⟨r5, u4, rfl, h, hp_back ht hP⟩, hS.F ht⟩) hS.2.2 d_Model_step_160
        · have h := h.1 hc
          refine lv_aload_n hx hb d_Model_step_142 rfl (lv_at hl 0 rfl) ?_
          refine va_get (D := D) (ci := 7) (v := .ref (ad 15)) (C := "CarrierPathsModel") (T := F_Model) (N := 27) hx hb hts in_Model hown hK hP 0 rfl rfl 20 (by decide) (hts _ kw775) (fun _ h9 => h9) rfl d_Model_step_143 ?_
          refine lv_iload_n hx hb d_Model_step_146 rfl (lv_at hl 2 rfl) ?_
          obtain ⟨hi, h⟩ := h
          refine va_iald hx hb hK hP 15 0 rfl rfl hi d_Model_step_147 ?_
          refine lv_goto (tgt := 157) hx hb d_Model_step_148 (by decide) ?_
          refine va_calli (va_runV (As := [.int v1, .int (σ 15 v2.toNatClampNeg)]) (rest := []) ⟨hx, hb, hml, hown, hts⟩ (t_Model_goesOn l D cI cZ ad inj v1 (σ 15 v2.toNatClampNeg) σ _ h) (cwV 2 hts (g_of kw918 kw920 kp31 kw9 kw921) rfl rfl rfl (by decide +kernel) ⟨Nat.le_of_ble_eq_true rfl, Nat.le_of_ble_eq_true rfl⟩) (ro_pre hK hP (va_recv hK hP (ci := 7) (q0 := 0) rfl rfl)) rfl rfl hl.1 rfl (lv_room (Nat.le_of_ble_eq_true rfl)) d_Model_step_157 ⟨Nat.le_of_ble_eq_true rfl, Nat.le_of_ble_eq_true rfl⟩) hS (fun _ _ h => h) (fun _ h => h) (fun r7 u6 t H1 locs ht _ h hP1 _ hk1 hS => ?_)
          have hP1 : va_P D classes (W_Model ad cI cZ u6) H1 := hp_fwd ht hP1
          clear hk1 ht
          generalize H1 = H at hP1 hS ⊢
          have hP := hP1
          exact W.iret (v := r7) hx hb hr (fun t ht hW => ⟨⟨r7, u6, rfl, h, hp_back ht hP⟩, hS.F ht⟩) hS.2.2 d_Model_step_160
      | _ + 3, h, _ => exact False.elim h
  exact key 4000 0 v1 0 σ h s.heap [] ls hP hS hl
