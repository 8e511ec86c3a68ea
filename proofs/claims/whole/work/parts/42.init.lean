theorem uf_Points_f0 {D : va_G} {ad : Nat → Nat} {cI cZ : ClassId} {σ : Sg} {H : Heap} {v : Int32} (h : va_P D classes ((W_Points ad cI cZ σ).set 0 (ad 0, .inr (3, ([.int (σ 0 0), .ref (ad 1), .ref (ad 2)] : List Value).set 0 (.int v)))) H) : va_P D classes (W_Points ad cI cZ (sto σ 0 0 v)) H := h
def q_Points_init_b0 (J : Nat → Int32 → Int32 → Sg → Prop) (Q : Sg → Prop) (v1 v2 : Int32) (σ : Sg) : Prop :=
  J 1 v1 0 (sto σ 0 0 v1)
def q_Points_init_b1 (J : Nat → Int32 → Int32 → Sg → Prop) (Q : Sg → Prop) (v1 v2 : Int32) (σ : Sg) : Prop :=
  ((10 ≤ v2 → Q σ) ∧ (¬ 10 ≤ v2 → (vp_in v2 10 ∧ J 1 v1 (v2 + 1) (sto σ 1 v2.toNatClampNeg 2))))
def q_Points_init_j (Q : Sg → Prop) : Nat → Nat → Int32 → Int32 → Sg → Prop
  | 0, _, _, _, _ => False
  | n + 1, 0, v1, v2, σ => q_Points_init_b0 (q_Points_init_j Q n) Q v1 v2 σ
  | n + 1, 1, v1, v2, σ => q_Points_init_b1 (q_Points_init_j Q n) Q v1 v2 σ
  | _ + 1, _ + 2, _, _, _ => False
def q_Points_init (v1 : Int32) (Q : Sg → Prop) : Prop := q_Points_init_j Q 4000 0 v1 0 zS
def lc_Points_init (ad : Nat → Nat) (b : Nat) (v1 v2 : Int32) : List (Nat × Value) := match b with
  | 0 => [(0, .ref (ad 0)), (1, .int v1)]
  | 1 => [(0, .ref (ad 0)), (1, .int v1), (2, .int v2)]
  | _ => []
def pc_Points_init (b : Nat) : Nat := match b with
  | 0 => 20
  | 1 => 27
  | _ => 0
set_option maxHeartbeats 4000000 in
set_option maxRecDepth 100000 in
theorem t_Points_init (l : Launch) (D : va_G) (cI cZ : ClassId) (h0 sz : Nat) (v1 : Int32) (Q : Sg → Prop) (h : q_Points_init v1 Q) : Met l y_Points_init (.code y_Points_init prog_5_method_1_code 3 none :: TG) { frames := 1, cells := 2, slots := 20, locals := 20 } (va_Pc [.ref h0, .int v1] (nB D (tysA cI cZ) [(h0, .inr (3, [.int 0, .null, .null]))] sz)) (va_Qv Q (fun u t => ∃ ad : Nat → Nat, ad 0 = h0 ∧ Inj ad 3 ∧ (∀ i, 0 < i → i < 3 → sz ≤ ad i) ∧ va_P D classes (W_Points ad cI cZ u) t.heap) (nA h0 sz)) 2 20 (nA h0 sz) := by
  refine Met.ofW (cc := prog_5_method_1_code) (maxL := 3) (ret := none) (by decide) rfl ?_
  intro p e s m args below meth c s₁ B hml hv
  obtain ⟨rfl, hsz, hP, hK⟩ := hv
  subst hsz
  have hx := B.exec
  have hb := B.bytes
  have hr := B.returns
  have hts : ∀ w ∈ TG, w.before [.ref h0, .int v1].toArray s = true := fun w hw => atoms_spec (ws := .code y_Points_init prog_5_method_1_code 3 none :: TG) B.pre w (List.mem_cons_of_mem _ hw)
  have hown : s.vm.findClass "CarrierPaths$Points" = some m.cls := findClass_of_methodNamed B.named
  have hlocks := B.notSynchronized
  have hin : meth.name = "<init>" := (name_of_methodNamed B.named B.method).1
  have hA : ∀ q : Nat, s.heap.size ≤ q → nA h0 s.heap.size q := fun q h => Or.inr h
  have hS : va_S (nA h0 s.heap.size) s.heap s.heap [] := va_S.rf
  have hh0 : h0 < s.heap.size := (hP 0 _ rfl).lt
  have hD : va_D (nA h0 s.heap.size) [(h0, .inr (3, [.int 0, .null, .null]))] := one_D (Or.inl rfl)
  have hl := lv_entry ([.ref h0, .int v1]) (n := 3) (Nat.le_of_ble_eq_true rfl)
  rw [lg_entry_eq]
  generalize (lg_sl ([.ref h0, .int v1]) ++ List.replicate (3 - (lg_sl ([.ref h0, .int v1])).length) Slot.unset).toArray = ls at hl ⊢
  have hl : lv_has ls 3 [(0, .ref h0), (1, .int v1)] := hl
  refine lv_aload_n hx hb d_Points_init_0 rfl (lv_at hl 0 rfl) ?_
  refine W.objInit hx hb hown (hts _ kw35) (hts _ kw22) (hts _ kwObj) rfl (by rw [hml]; exact hl.1) rfl d_Points_init_1 (Nat.le_of_ble_eq_true rfl) (Nat.le_of_ble_eq_true rfl) ?_
  refine W.eq (g2 := F0 m 4 ls []) rfl ?_
  refine lv_aload_n hx hb d_Points_init_4 rfl (lv_at hl 0 rfl) ?_
  refine lv_bipush (v := 10) hx hb d_Points_init_5 (by decide) ?_
  refine va_newa (atype := .int) (ty := .int) (N' := 10) (a0 := (10, .inl (fun _ => 0))) hx hb (hts _ kw46) rfl hK hP hD hS hA (fun _ => rfl) (by decide) (by decide) (by decide) (Nat.le_of_ble_eq_true rfl) (Nat.le_of_ble_eq_true rfl) d_Points_init_7 (fun q1 cA H hK hP hD hS => ?_)
  have eA := ca_I hK
  subst eA
  have hK := hK.sub (tys' := tysA cI cZ) [0, 1] rfl
  have hP : va_P D classes [(h0, .inr (3, [.int 0, .null, .null])), (q1, .inl (cI, 10, .inl (fun _ => 0)))] H := hP
  have hD : va_D (nA h0 s.heap.size) [(h0, .inr (3, [.int 0, .null, .null])), (q1, .inl (cI, 10, .inl (fun _ => 0)))] := hD
  refine va_putF (D := D) (ci := 3) (v := .ref q1) (ty := .array .int) (C := "CarrierPaths$Points") (T := F_Points) (N := 3) hx hb hts in_Points ty_Points ty_Points_ok nm_Points hown hK hP hD hS 0 rfl rfl 1 (by decide) (hts _ kw37) (fun _ h9 => h9) rfl hin rfl (by decide +kernel) rfl rfl (Nat.le_of_ble_eq_true rfl) d_Points_init_9 (fun H locs hP hD hS => ?_)
  have hP : va_P D classes [(h0, .inr (3, [.int 0, .ref q1, .null])), (q1, .inl (cI, 10, .inl (fun _ => 0)))] H := hP
  have hD : va_D (nA h0 s.heap.size) [(h0, .inr (3, [.int 0, .ref q1, .null])), (q1, .inl (cI, 10, .inl (fun _ => 0)))] := hD
  refine lv_aload_n hx hb d_Points_init_12 rfl (lv_at hl 0 rfl) ?_
  refine lv_bipush (v := 10) hx hb d_Points_init_13 (by decide) ?_
  refine va_newa (atype := .boolean) (ty := .boolean) (N' := 10) (a0 := (10, .inl (fun _ => 0))) hx hb (hts _ kw47) rfl hK hP hD hS hA (fun _ => rfl) (by decide) (by decide) (by decide) (Nat.le_of_ble_eq_true rfl) (Nat.le_of_ble_eq_true rfl) d_Points_init_15 (fun q2 cA H hK hP hD hS => ?_)
  have eA := ca_Z hK
  subst eA
  have hK := hK.sub (tys' := tysA cI cZ) [0, 1] rfl
  have hP : va_P D classes [(h0, .inr (3, [.int 0, .ref q1, .null])), (q1, .inl (cI, 10, .inl (fun _ => 0))), (q2, .inl (cZ, 10, .inl (fun _ => 0)))] H := hP
  have hD : va_D (nA h0 s.heap.size) [(h0, .inr (3, [.int 0, .ref q1, .null])), (q1, .inl (cI, 10, .inl (fun _ => 0))), (q2, .inl (cZ, 10, .inl (fun _ => 0)))] := hD
  refine va_putF (D := D) (ci := 3) (v := .ref q2) (ty := .array .boolean) (C := "CarrierPaths$Points") (T := F_Points) (N := 3) hx hb hts in_Points ty_Points ty_Points_ok nm_Points hown hK hP hD hS 0 rfl rfl 2 (by decide) (hts _ kw38) (fun _ h9 => h9) rfl hin rfl (by decide +kernel) rfl rfl (Nat.le_of_ble_eq_true rfl) d_Points_init_17 (fun H locs hP hD hS => ?_)
  have hP : va_P D classes [(h0, .inr (3, [.int 0, .ref q1, .ref q2])), (q1, .inl (cI, 10, .inl (fun _ => 0))), (q2, .inl (cZ, 10, .inl (fun _ => 0)))] H := hP
  have hD : va_D (nA h0 s.heap.size) [(h0, .inr (3, [.int 0, .ref q1, .ref q2])), (q1, .inl (cI, 10, .inl (fun _ => 0))), (q2, .inl (cZ, 10, .inl (fun _ => 0)))] := hD
  obtain ⟨ad, had⟩ : ∃ z, z = adl [h0, q1, q2] := ⟨_, rfl⟩
  have hP : va_P D classes (W_Points ad cI cZ zS) H := by rw [had]; exact hP.sub [0, 1, 2] rfl
  have inj : Inj ad 3 := by rw [had]; exact inj_ofD (hD.sub (ws' := W_Points (adl [h0, q1, q2]) cI cZ zS) [0, 1, 2] (by decide) rfl) rfl
  have hmem : ∀ i, i < 3 → nA h0 s.heap.size (ad i) := by rw [had]; exact mem_ofD (hD.sub (ws' := W_Points (adl [h0, q1, q2]) cI cZ zS) [0, 1, 2] (by decide) rfl) rfl
  have had0 : ad 0 = h0 := by rw [had]; rfl
  have hl : lv_has ls 3 [(0, .ref (ad 0)), (1, .int v1)] := by rw [had0]; exact hl
  clear had hD
  generalize ([.ref h0, .int v1] : List Value).toArray = args at hts ⊢
  have key : ∀ (n b : Nat) (v1 v2 : Int32) (σ : Sg), q_Points_init_j Q n b v1 v2 σ → ∀ (H : Heap) (locs : List Loc) (ls : Array Slot), va_P D classes (W_Points ad cI cZ σ) H → va_S (nA h0 s.heap.size) s.heap H locs → lv_has ls 3 (lc_Points_init ad b v1 v2) → W p l e (headSpec (.code y_Points_init prog_5_method_1_code 3 none :: TG) { frames := 1, cells := 2, slots := 20, locals := 20 }).room s m args below meth c H locs 2 20 (MQ below (va_Qv Q (fun u t => ∃ ad : Nat → Nat, ad 0 = h0 ∧ Inj ad 3 ∧ (∀ i, 0 < i → i < 3 → s.heap.size ≤ ad i) ∧ va_P D classes (W_Points ad cI cZ u) t.heap) (nA h0 s.heap.size)) args s 2 20 (nA h0 s.heap.size)) (F0 m (pc_Points_init b) ls []) := by
    clear h hl hP hS
    intro n
    induction n with
    | zero => intro b _ _ _ h; exact False.elim h
    | succ n ih =>
      intro b v1 v2 σ h H locs ls hP hS hl
      match b, h, hl with
      | 0, h, hl =>
        have h : q_Points_init_b0 (q_Points_init_j Q n) Q v1 v2 σ := h
        have hl : lv_has ls 3 [(0, .ref (ad 0)), (1, .int v1)] := hl
        refine W.eq (g2 := F0 m 20 ls []) rfl ?_
        unfold q_Points_init_b0 at h
        refine lv_aload_n hx hb d_Points_init_20 rfl (lv_at hl 0 rfl) ?_
        refine lv_iload_n hx hb d_Points_init_21 rfl (lv_at hl 1 rfl) ?_
        refine va_putF (D := D) (ci := 3) (v := .int v1) (ty := .int) (C := "CarrierPaths$Points") (T := F_Points) (N := 3) hx hb hts in_Points ty_Points ty_Points_ok nm_Points hown hK hP (DC_of inj hmem rfl) hS 0 rfl rfl 0 (by decide) (hts _ kw36) (fun _ h9 => h9) rfl hin rfl (by decide +kernel) rfl rfl (Nat.le_of_ble_eq_true rfl) d_Points_init_22 (fun H locs hP _ hS => ?_)
        have hP := uf_Points_f0 hP
        refine lv_iconst (v := 0) hx hb d_Points_init_25 (by decide) ?_
        refine lv_istore_n (lv' := [(2, .int 0), (0, .ref (ad 0)), (1, .int v1)]) hx hb d_Points_init_26 rfl hl (by decide) rfl (fun ls hl => ?_)
        exact ih 1 v1 0 (sto σ 0 0 v1) h _ _ _ hP hS (lv_sub hl [1, 2, 0] rfl)
      | 1, h, hl =>
        have h : q_Points_init_b1 (q_Points_init_j Q n) Q v1 v2 σ := h
        have hl : lv_has ls 3 [(0, .ref (ad 0)), (1, .int v1), (2, .int v2)] := hl
        refine W.eq (g2 := F0 m 27 ls []) rfl ?_
        unfold q_Points_init_b1 at h
        refine lv_iload_n hx hb d_Points_init_27 rfl (lv_at hl 2 rfl) ?_
        refine lv_bipush (v := 10) hx hb d_Points_init_28 (by decide) ?_
        refine lv_icmp_ge (tgt := 46) hx hb d_Points_init_30 (by decide) (fun hc => ?_) (fun hc => ?_)
        · have h := h.1 hc
          exact W.vret hx hb hr (fun t ht hW => ⟨⟨σ, rfl, h, ad, had0, inj, new_of hh0 inj had0 hmem, hp_back ht hP⟩, hS.F ht⟩) hS.2.2 d_Points_init_46
        · have h := h.2 hc
          refine lv_aload_n hx hb d_Points_init_33 rfl (lv_at hl 0 rfl) ?_
          refine va_get (D := D) (ci := 3) (v := .ref (ad 1)) (C := "CarrierPaths$Points") (T := F_Points) (N := 3) hx hb hts in_Points hown hK hP 0 rfl rfl 1 (by decide) (hts _ kw37) (fun _ h9 => h9) rfl d_Points_init_34 ?_
          refine lv_iload_n hx hb d_Points_init_37 rfl (lv_at hl 2 rfl) ?_
          refine lv_iconst (v := 2) hx hb d_Points_init_38 (by decide) ?_
          obtain ⟨hi, h⟩ := h
          refine va_iast hx hb hK hP (DC_of inj hmem rfl) hS 1 0 rfl rfl hi d_Points_init_39 (fun H locs hP _ hS => ?_)
          have hP := up_Points_1 hP
          refine lv_iinc (v := (v2 + 1)) (lv' := [(2, .int (v2 + 1)), (0, .ref (ad 0)), (1, .int v1)]) hx hb d_Points_init_40 hl (k := 2) rfl rfl (by decide) rfl (fun ls hl => ?_)
          refine lv_goto (tgt := 27) hx hb d_Points_init_43 (by decide) ?_
          exact ih 1 v1 (v2 + 1) (sto σ 1 v2.toNatClampNeg 2) h _ _ _ hP hS (lv_sub hl [1, 2, 0] rfl)
      | _ + 2, h, _ => exact False.elim h
  exact key 4000 0 v1 0 zS h _ _ ls hP hS hl
theorem uf_Roads_f0 {D : va_G} {ad : Nat → Nat} {cI cZ : ClassId} {σ : Sg} {H : Heap} {v : Int32} (h : va_P D classes ((W_Roads ad cI cZ σ).set 0 (ad 0, .inr (5, ([.int (σ 0 0), .ref (ad 1), .ref (ad 2), .ref (ad 3), .ref (ad 4), .ref (ad 5), .int (σ 0 6)] : List Value).set 0 (.int v)))) H) : va_P D classes (W_Roads ad cI cZ (sto σ 0 0 v)) H := h
def q_Roads_init (v1 : Int32) (Q : Sg → Prop) : Prop :=
  (q_Roads_forgetTimes (sto (sto zS 0 0 v1) 0 6 0) (fun u1 => Q u1))
set_option maxHeartbeats 4000000 in
set_option maxRecDepth 100000 in
theorem t_Roads_init (l : Launch) (D : va_G) (cI cZ : ClassId) (h0 sz : Nat) (v1 : Int32) (Q : Sg → Prop) (h : q_Roads_init v1 Q) : Met l y_Roads_init (.code y_Roads_init prog_7_method_1_code 2 none :: TG) { frames := 1, cells := 5, slots := 220, locals := 22 } (va_Pc [.ref h0, .int v1] (nB D (tysA cI cZ) [(h0, .inr (5, [.int 0, .null, .null, .null, .null, .null, .int 0]))] sz)) (va_Qv Q (fun u t => ∃ ad : Nat → Nat, ad 0 = h0 ∧ Inj ad 6 ∧ (∀ i, 0 < i → i < 6 → sz ≤ ad i) ∧ va_P D classes (W_Roads ad cI cZ u) t.heap) (nA h0 sz)) 5 220 (nA h0 sz) := by
  refine Met.ofW (cc := prog_7_method_1_code) (maxL := 2) (ret := none) (by decide) rfl ?_
  intro p e s m args below meth c s₁ B hml hv
  obtain ⟨rfl, hsz, hP, hK⟩ := hv
  subst hsz
  have hx := B.exec
  have hb := B.bytes
  have hr := B.returns
  have hts : ∀ w ∈ TG, w.before [.ref h0, .int v1].toArray s = true := fun w hw => atoms_spec (ws := .code y_Roads_init prog_7_method_1_code 2 none :: TG) B.pre w (List.mem_cons_of_mem _ hw)
  have hown : s.vm.findClass "CarrierPaths$Roads" = some m.cls := findClass_of_methodNamed B.named
  have hlocks := B.notSynchronized
  have hin : meth.name = "<init>" := (name_of_methodNamed B.named B.method).1
  have hA : ∀ q : Nat, s.heap.size ≤ q → nA h0 s.heap.size q := fun q h => Or.inr h
  have hS : va_S (nA h0 s.heap.size) s.heap s.heap [] := va_S.rf
  have hh0 : h0 < s.heap.size := (hP 0 _ rfl).lt
  have hD : va_D (nA h0 s.heap.size) [(h0, .inr (5, [.int 0, .null, .null, .null, .null, .null, .int 0]))] := one_D (Or.inl rfl)
  have hl := lv_entry ([.ref h0, .int v1]) (n := 2) (Nat.le_of_ble_eq_true rfl)
  rw [lg_entry_eq]
  generalize (lg_sl ([.ref h0, .int v1]) ++ List.replicate (2 - (lg_sl ([.ref h0, .int v1])).length) Slot.unset).toArray = ls at hl ⊢
  have hl : lv_has ls 2 [(0, .ref h0), (1, .int v1)] := hl
  refine lv_aload_n hx hb d_Roads_init_0 rfl (lv_at hl 0 rfl) ?_
  refine W.objInit hx hb hown (hts _ kw53) (hts _ kw22) (hts _ kwObj) rfl (by rw [hml]; exact hl.1) rfl d_Roads_init_1 (Nat.le_of_ble_eq_true rfl) (Nat.le_of_ble_eq_true rfl) ?_
  refine W.eq (g2 := F0 m 4 ls []) rfl ?_
  refine lv_aload_n hx hb d_Roads_init_4 rfl (lv_at hl 0 rfl) ?_
  refine lv_bipush (v := 30) hx hb d_Roads_init_5 (by decide) ?_
  refine va_newa (atype := .int) (ty := .int) (N' := 30) (a0 := (30, .inl (fun _ => 0))) hx hb (hts _ kw46) rfl hK hP hD hS hA (fun _ => rfl) (by decide) (by decide) (by decide) (Nat.le_of_ble_eq_true rfl) (Nat.le_of_ble_eq_true rfl) d_Roads_init_7 (fun q1 cA H hK hP hD hS => ?_)
  have eA := ca_I hK
  subst eA
  have hK := hK.sub (tys' := tysA cI cZ) [0, 1] rfl
  have hP : va_P D classes [(h0, .inr (5, [.int 0, .null, .null, .null, .null, .null, .int 0])), (q1, .inl (cI, 30, .inl (fun _ => 0)))] H := hP
  have hD : va_D (nA h0 s.heap.size) [(h0, .inr (5, [.int 0, .null, .null, .null, .null, .null, .int 0])), (q1, .inl (cI, 30, .inl (fun _ => 0)))] := hD
  refine va_putF (D := D) (ci := 5) (v := .ref q1) (ty := .array .int) (C := "CarrierPaths$Roads") (T := F_Roads) (N := 7) hx hb hts in_Roads ty_Roads ty_Roads_ok nm_Roads hown hK hP hD hS 0 rfl rfl 1 (by decide) (hts _ kw60) (fun _ h9 => h9) rfl hin rfl (by decide +kernel) rfl rfl (Nat.le_of_ble_eq_true rfl) d_Roads_init_9 (fun H locs hP hD hS => ?_)
  have hP : va_P D classes [(h0, .inr (5, [.int 0, .ref q1, .null, .null, .null, .null, .int 0])), (q1, .inl (cI, 30, .inl (fun _ => 0)))] H := hP
  have hD : va_D (nA h0 s.heap.size) [(h0, .inr (5, [.int 0, .ref q1, .null, .null, .null, .null, .int 0])), (q1, .inl (cI, 30, .inl (fun _ => 0)))] := hD
  refine lv_aload_n hx hb d_Roads_init_12 rfl (lv_at hl 0 rfl) ?_
  refine lv_bipush (v := 30) hx hb d_Roads_init_13 (by decide) ?_
  refine va_newa (atype := .int) (ty := .int) (N' := 30) (a0 := (30, .inl (fun _ => 0))) hx hb (hts _ kw46) rfl hK hP hD hS hA (fun _ => rfl) (by decide) (by decide) (by decide) (Nat.le_of_ble_eq_true rfl) (Nat.le_of_ble_eq_true rfl) d_Roads_init_15 (fun q2 cA H hK hP hD hS => ?_)
  have eA := ca_I hK
  subst eA
  have hK := hK.sub (tys' := tysA cI cZ) [0, 1] rfl
  have hP : va_P D classes [(h0, .inr (5, [.int 0, .ref q1, .null, .null, .null, .null, .int 0])), (q1, .inl (cI, 30, .inl (fun _ => 0))), (q2, .inl (cI, 30, .inl (fun _ => 0)))] H := hP
  have hD : va_D (nA h0 s.heap.size) [(h0, .inr (5, [.int 0, .ref q1, .null, .null, .null, .null, .int 0])), (q1, .inl (cI, 30, .inl (fun _ => 0))), (q2, .inl (cI, 30, .inl (fun _ => 0)))] := hD
  refine va_putF (D := D) (ci := 5) (v := .ref q2) (ty := .array .int) (C := "CarrierPaths$Roads") (T := F_Roads) (N := 7) hx hb hts in_Roads ty_Roads ty_Roads_ok nm_Roads hown hK hP hD hS 0 rfl rfl 2 (by decide) (hts _ kw61) (fun _ h9 => h9) rfl hin rfl (by decide +kernel) rfl rfl (Nat.le_of_ble_eq_true rfl) d_Roads_init_17 (fun H locs hP hD hS => ?_)
  have hP : va_P D classes [(h0, .inr (5, [.int 0, .ref q1, .ref q2, .null, .null, .null, .int 0])), (q1, .inl (cI, 30, .inl (fun _ => 0))), (q2, .inl (cI, 30, .inl (fun _ => 0)))] H := hP
  have hD : va_D (nA h0 s.heap.size) [(h0, .inr (5, [.int 0, .ref q1, .ref q2, .null, .null, .null, .int 0])), (q1, .inl (cI, 30, .inl (fun _ => 0))), (q2, .inl (cI, 30, .inl (fun _ => 0)))] := hD
  refine lv_aload_n hx hb d_Roads_init_20 rfl (lv_at hl 0 rfl) ?_
  refine lv_bipush (v := 30) hx hb d_Roads_init_21 (by decide) ?_
  refine va_newa (atype := .int) (ty := .int) (N' := 30) (a0 := (30, .inl (fun _ => 0))) hx hb (hts _ kw46) rfl hK hP hD hS hA (fun _ => rfl) (by decide) (by decide) (by decide) (Nat.le_of_ble_eq_true rfl) (Nat.le_of_ble_eq_true rfl) d_Roads_init_23 (fun q3 cA H hK hP hD hS => ?_)
  have eA := ca_I hK
  subst eA
  have hK := hK.sub (tys' := tysA cI cZ) [0, 1] rfl
  have hP : va_P D classes [(h0, .inr (5, [.int 0, .ref q1, .ref q2, .null, .null, .null, .int 0])), (q1, .inl (cI, 30, .inl (fun _ => 0))), (q2, .inl (cI, 30, .inl (fun _ => 0))), (q3, .inl (cI, 30, .inl (fun _ => 0)))] H := hP
  have hD : va_D (nA h0 s.heap.size) [(h0, .inr (5, [.int 0, .ref q1, .ref q2, .null, .null, .null, .int 0])), (q1, .inl (cI, 30, .inl (fun _ => 0))), (q2, .inl (cI, 30, .inl (fun _ => 0))), (q3, .inl (cI, 30, .inl (fun _ => 0)))] := hD
  refine va_putF (D := D) (ci := 5) (v := .ref q3) (ty := .array .int) (C := "CarrierPaths$Roads") (T := F_Roads) (N := 7) hx hb hts in_Roads ty_Roads ty_Roads_ok nm_Roads hown hK hP hD hS 0 rfl rfl 3 (by decide) (hts _ kw62) (fun _ h9 => h9) rfl hin rfl (by decide +kernel) rfl rfl (Nat.le_of_ble_eq_true rfl) d_Roads_init_25 (fun H locs hP hD hS => ?_)
  have hP : va_P D classes [(h0, .inr (5, [.int 0, .ref q1, .ref q2, .ref q3, .null, .null, .int 0])), (q1, .inl (cI, 30, .inl (fun _ => 0))), (q2, .inl (cI, 30, .inl (fun _ => 0))), (q3, .inl (cI, 30, .inl (fun _ => 0)))] H := hP
  have hD : va_D (nA h0 s.heap.size) [(h0, .inr (5, [.int 0, .ref q1, .ref q2, .ref q3, .null, .null, .int 0])), (q1, .inl (cI, 30, .inl (fun _ => 0))), (q2, .inl (cI, 30, .inl (fun _ => 0))), (q3, .inl (cI, 30, .inl (fun _ => 0)))] := hD
  refine lv_aload_n hx hb d_Roads_init_28 rfl (lv_at hl 0 rfl) ?_
  refine lv_bipush (v := 30) hx hb d_Roads_init_29 (by decide) ?_
  refine va_newa (atype := .boolean) (ty := .boolean) (N' := 30) (a0 := (30, .inl (fun _ => 0))) hx hb (hts _ kw47) rfl hK hP hD hS hA (fun _ => rfl) (by decide) (by decide) (by decide) (Nat.le_of_ble_eq_true rfl) (Nat.le_of_ble_eq_true rfl) d_Roads_init_31 (fun q4 cA H hK hP hD hS => ?_)
  have eA := ca_Z hK
  subst eA
  have hK := hK.sub (tys' := tysA cI cZ) [0, 1] rfl
  have hP : va_P D classes [(h0, .inr (5, [.int 0, .ref q1, .ref q2, .ref q3, .null, .null, .int 0])), (q1, .inl (cI, 30, .inl (fun _ => 0))), (q2, .inl (cI, 30, .inl (fun _ => 0))), (q3, .inl (cI, 30, .inl (fun _ => 0))), (q4, .inl (cZ, 30, .inl (fun _ => 0)))] H := hP
  have hD : va_D (nA h0 s.heap.size) [(h0, .inr (5, [.int 0, .ref q1, .ref q2, .ref q3, .null, .null, .int 0])), (q1, .inl (cI, 30, .inl (fun _ => 0))), (q2, .inl (cI, 30, .inl (fun _ => 0))), (q3, .inl (cI, 30, .inl (fun _ => 0))), (q4, .inl (cZ, 30, .inl (fun _ => 0)))] := hD
  refine va_putF (D := D) (ci := 5) (v := .ref q4) (ty := .array .boolean) (C := "CarrierPaths$Roads") (T := F_Roads) (N := 7) hx hb hts in_Roads ty_Roads ty_Roads_ok nm_Roads hown hK hP hD hS 0 rfl rfl 4 (by decide) (hts _ kw63) (fun _ h9 => h9) rfl hin rfl (by decide +kernel) rfl rfl (Nat.le_of_ble_eq_true rfl) d_Roads_init_33 (fun H locs hP hD hS => ?_)
  have hP : va_P D classes [(h0, .inr (5, [.int 0, .ref q1, .ref q2, .ref q3, .ref q4, .null, .int 0])), (q1, .inl (cI, 30, .inl (fun _ => 0))), (q2, .inl (cI, 30, .inl (fun _ => 0))), (q3, .inl (cI, 30, .inl (fun _ => 0))), (q4, .inl (cZ, 30, .inl (fun _ => 0)))] H := hP
  have hD : va_D (nA h0 s.heap.size) [(h0, .inr (5, [.int 0, .ref q1, .ref q2, .ref q3, .ref q4, .null, .int 0])), (q1, .inl (cI, 30, .inl (fun _ => 0))), (q2, .inl (cI, 30, .inl (fun _ => 0))), (q3, .inl (cI, 30, .inl (fun _ => 0))), (q4, .inl (cZ, 30, .inl (fun _ => 0)))] := hD
  refine lv_aload_n hx hb d_Roads_init_36 rfl (lv_at hl 0 rfl) ?_
  refine lv_bipush (v := 100) hx hb d_Roads_init_37 (by decide) ?_
  refine va_newa (atype := .int) (ty := .int) (N' := 100) (a0 := (100, .inl (fun _ => 0))) hx hb (hts _ kw46) rfl hK hP hD hS hA (fun _ => rfl) (by decide) (by decide) (by decide) (Nat.le_of_ble_eq_true rfl) (Nat.le_of_ble_eq_true rfl) d_Roads_init_39 (fun q5 cA H hK hP hD hS => ?_)
  have eA := ca_I hK
  subst eA
  have hK := hK.sub (tys' := tysA cI cZ) [0, 1] rfl
  have hP : va_P D classes [(h0, .inr (5, [.int 0, .ref q1, .ref q2, .ref q3, .ref q4, .null, .int 0])), (q1, .inl (cI, 30, .inl (fun _ => 0))), (q2, .inl (cI, 30, .inl (fun _ => 0))), (q3, .inl (cI, 30, .inl (fun _ => 0))), (q4, .inl (cZ, 30, .inl (fun _ => 0))), (q5, .inl (cI, 100, .inl (fun _ => 0)))] H := hP
  have hD : va_D (nA h0 s.heap.size) [(h0, .inr (5, [.int 0, .ref q1, .ref q2, .ref q3, .ref q4, .null, .int 0])), (q1, .inl (cI, 30, .inl (fun _ => 0))), (q2, .inl (cI, 30, .inl (fun _ => 0))), (q3, .inl (cI, 30, .inl (fun _ => 0))), (q4, .inl (cZ, 30, .inl (fun _ => 0))), (q5, .inl (cI, 100, .inl (fun _ => 0)))] := hD
  refine va_putF (D := D) (ci := 5) (v := .ref q5) (ty := .array .int) (C := "CarrierPaths$Roads") (T := F_Roads) (N := 7) hx hb hts in_Roads ty_Roads ty_Roads_ok nm_Roads hown hK hP hD hS 0 rfl rfl 5 (by decide) (hts _ kw64) (fun _ h9 => h9) rfl hin rfl (by decide +kernel) rfl rfl (Nat.le_of_ble_eq_true rfl) d_Roads_init_41 (fun H locs hP hD hS => ?_)
  have hP : va_P D classes [(h0, .inr (5, [.int 0, .ref q1, .ref q2, .ref q3, .ref q4, .ref q5, .int 0])), (q1, .inl (cI, 30, .inl (fun _ => 0))), (q2, .inl (cI, 30, .inl (fun _ => 0))), (q3, .inl (cI, 30, .inl (fun _ => 0))), (q4, .inl (cZ, 30, .inl (fun _ => 0))), (q5, .inl (cI, 100, .inl (fun _ => 0)))] H := hP
  have hD : va_D (nA h0 s.heap.size) [(h0, .inr (5, [.int 0, .ref q1, .ref q2, .ref q3, .ref q4, .ref q5, .int 0])), (q1, .inl (cI, 30, .inl (fun _ => 0))), (q2, .inl (cI, 30, .inl (fun _ => 0))), (q3, .inl (cI, 30, .inl (fun _ => 0))), (q4, .inl (cZ, 30, .inl (fun _ => 0))), (q5, .inl (cI, 100, .inl (fun _ => 0)))] := hD
  obtain ⟨ad, had⟩ : ∃ z, z = adl [h0, q1, q2, q3, q4, q5] := ⟨_, rfl⟩
  have hP : va_P D classes (W_Roads ad cI cZ zS) H := by rw [had]; exact hP.sub [0, 1, 2, 3, 4, 5] rfl
  have inj : Inj ad 6 := by rw [had]; exact inj_ofD (hD.sub (ws' := W_Roads (adl [h0, q1, q2, q3, q4, q5]) cI cZ zS) [0, 1, 2, 3, 4, 5] (by decide) rfl) rfl
  have hmem : ∀ i, i < 6 → nA h0 s.heap.size (ad i) := by rw [had]; exact mem_ofD (hD.sub (ws' := W_Roads (adl [h0, q1, q2, q3, q4, q5]) cI cZ zS) [0, 1, 2, 3, 4, 5] (by decide) rfl) rfl
  have had0 : ad 0 = h0 := by rw [had]; rfl
  have hl : lv_has ls 2 [(0, .ref (ad 0)), (1, .int v1)] := by rw [had0]; exact hl
  clear had hD
  unfold q_Roads_init at h
  generalize zS = σ at hP h
  refine lv_aload_n hx hb d_Roads_init_44 rfl (lv_at hl 0 rfl) ?_
  refine lv_iload_n hx hb d_Roads_init_45 rfl (lv_at hl 1 rfl) ?_
  refine va_putF (D := D) (ci := 5) (v := .int v1) (ty := .int) (C := "CarrierPaths$Roads") (T := F_Roads) (N := 7) hx hb hts in_Roads ty_Roads ty_Roads_ok nm_Roads hown hK hP (DC_of inj hmem rfl) hS 0 rfl rfl 0 (by decide) (hts _ kw59) (fun _ h9 => h9) rfl hin rfl (by decide +kernel) rfl rfl (Nat.le_of_ble_eq_true rfl) d_Roads_init_46 (fun H locs hP _ hS => ?_)
  have hP := uf_Roads_f0 hP
  refine lv_aload_n hx hb d_Roads_init_49 rfl (lv_at hl 0 rfl) ?_
  refine lv_iconst (v := 0) hx hb d_Roads_init_50 (by decide) ?_
  refine va_put (D := D) (ci := 5) (v := .int 0) (ty := .int) (C := "CarrierPaths$Roads") (T := F_Roads) (N := 7) hx hb hts in_Roads ty_Roads ty_Roads_ok nm_Roads hown hK hP (DC_of inj hmem rfl) hS 0 rfl rfl 6 (by decide) (hts _ kw65) (fun _ h9 => h9) rfl (by decide +kernel) rfl rfl (Nat.le_of_ble_eq_true rfl) d_Roads_init_51 (fun H locs hP _ hS => ?_)
  have hP := up_Roads_f6 hP
  refine lv_aload_n hx hb d_Roads_init_54 rfl (lv_at hl 0 rfl) ?_
  refine va_callv (va_runV (As := []) (rest := []) ⟨hx, hb, hml, hown, hts⟩ (t_Roads_forgetTimes l D cI cZ ad inj (sto (sto σ 0 0 v1) 0 6 0) _ h) (cwV 0 hts (g_of kw54 kw56 kp0 kw4 kw57) rfl rfl rfl (by decide +kernel) ⟨Nat.le_of_ble_eq_true rfl, Nat.le_of_ble_eq_true rfl⟩) (ro_pre hK hP (va_recv hK hP (ci := 5) (q0 := 0) rfl rfl)) rfl rfl hl.1 rfl (lv_room (Nat.le_of_ble_eq_true rfl)) d_Roads_init_55 ⟨Nat.le_of_ble_eq_true rfl, Nat.le_of_ble_eq_true rfl⟩) hS (fun _ _ h => sub_ad hmem h) (fun _ h => sub_ad hmem h) (fun u1 t H1 locs ht _ h hP1 _ hk1 hS => ?_)
  have hP1 : va_P D classes (W_Roads ad cI cZ u1) H1 := hp_fwd ht hP1
  clear hk1 ht
  generalize H1 = H at hP1 hS ⊢
  have hP := hP1
  exact W.vret hx hb hr (fun t ht hW => ⟨⟨u1, rfl, h, ad, had0, inj, new_of hh0 inj had0 hmem, hp_back ht hP⟩, hS.F ht⟩) hS.2.2 d_Roads_init_58

def q_Rings_init (Q : Sg → Prop) : Prop :=
  Q (sto zS 0 1 0)
set_option maxHeartbeats 4000000 in
set_option maxRecDepth 100000 in
theorem t_Rings_init (l : Launch) (D : va_G) (cI cZ : ClassId) (h0 sz : Nat) (Q : Sg → Prop) (h : q_Rings_init Q) : Met l y_Rings_init (.code y_Rings_init prog_6_method_1_code 1 none :: TG) { frames := 1, cells := 1, slots := 4, locals := 20 } (va_Pc [.ref h0] (nB D (tysA cI cZ) [(h0, .inr (4, [.null, .int 0]))] sz)) (va_Qv Q (fun u t => ∃ ad : Nat → Nat, ad 0 = h0 ∧ Inj ad 2 ∧ (∀ i, 0 < i → i < 2 → sz ≤ ad i) ∧ va_P D classes (W_Rings ad cI cZ u) t.heap) (nA h0 sz)) 1 4 (nA h0 sz) := by
  refine Met.ofW (cc := prog_6_method_1_code) (maxL := 1) (ret := none) (by decide) rfl ?_
  intro p e s m args below meth c s₁ B hml hv
  obtain ⟨rfl, hsz, hP, hK⟩ := hv
  subst hsz
  have hx := B.exec
  have hb := B.bytes
  have hr := B.returns
  have hts : ∀ w ∈ TG, w.before [.ref h0].toArray s = true := fun w hw => atoms_spec (ws := .code y_Rings_init prog_6_method_1_code 1 none :: TG) B.pre w (List.mem_cons_of_mem _ hw)
  have hown : s.vm.findClass "CarrierPaths$Rings" = some m.cls := findClass_of_methodNamed B.named
  have hlocks := B.notSynchronized
  have hin : meth.name = "<init>" := (name_of_methodNamed B.named B.method).1
  have hA : ∀ q : Nat, s.heap.size ≤ q → nA h0 s.heap.size q := fun q h => Or.inr h
  have hS : va_S (nA h0 s.heap.size) s.heap s.heap [] := va_S.rf
  have hh0 : h0 < s.heap.size := (hP 0 _ rfl).lt
  have hD : va_D (nA h0 s.heap.size) [(h0, .inr (4, [.null, .int 0]))] := one_D (Or.inl rfl)
  have hl := lv_entry ([.ref h0]) (n := 1) (Nat.le_of_ble_eq_true rfl)
  rw [lg_entry_eq]
  generalize (lg_sl ([.ref h0]) ++ List.replicate (1 - (lg_sl ([.ref h0])).length) Slot.unset).toArray = ls at hl ⊢
  have hl : lv_has ls 1 [(0, .ref h0)] := hl
  refine lv_aload_n hx hb d_Rings_init_0 rfl (lv_at hl 0 rfl) ?_
  refine W.objInit hx hb hown (hts _ kw86) (hts _ kw22) (hts _ kwObj) rfl (by rw [hml]; exact hl.1) rfl d_Rings_init_1 (Nat.le_of_ble_eq_true rfl) (Nat.le_of_ble_eq_true rfl) ?_
  refine W.eq (g2 := F0 m 4 ls []) rfl ?_
  refine lv_aload_n hx hb d_Rings_init_4 rfl (lv_at hl 0 rfl) ?_
  refine lv_iconst (v := 4) hx hb d_Rings_init_5 (by decide) ?_
  refine va_newa (atype := .int) (ty := .int) (N' := 4) (a0 := (4, .inl (fun _ => 0))) hx hb (hts _ kw46) rfl hK hP hD hS hA (fun _ => rfl) (by decide) (by decide) (by decide) (Nat.le_of_ble_eq_true rfl) (Nat.le_of_ble_eq_true rfl) d_Rings_init_6 (fun q1 cA H hK hP hD hS => ?_)
  have eA := ca_I hK
  subst eA
  have hK := hK.sub (tys' := tysA cI cZ) [0, 1] rfl
  have hP : va_P D classes [(h0, .inr (4, [.null, .int 0])), (q1, .inl (cI, 4, .inl (fun _ => 0)))] H := hP
  have hD : va_D (nA h0 s.heap.size) [(h0, .inr (4, [.null, .int 0])), (q1, .inl (cI, 4, .inl (fun _ => 0)))] := hD
  refine va_putF (D := D) (ci := 4) (v := .ref q1) (ty := .array .int) (C := "CarrierPaths$Rings") (T := F_Rings) (N := 2) hx hb hts in_Rings ty_Rings ty_Rings_ok nm_Rings hown hK hP hD hS 0 rfl rfl 0 (by decide) (hts _ kw87) (fun _ h9 => h9) rfl hin rfl (by decide +kernel) rfl rfl (Nat.le_of_ble_eq_true rfl) d_Rings_init_8 (fun H locs hP hD hS => ?_)
  have hP : va_P D classes [(h0, .inr (4, [.ref q1, .int 0])), (q1, .inl (cI, 4, .inl (fun _ => 0)))] H := hP
  have hD : va_D (nA h0 s.heap.size) [(h0, .inr (4, [.ref q1, .int 0])), (q1, .inl (cI, 4, .inl (fun _ => 0)))] := hD
  obtain ⟨ad, had⟩ : ∃ z, z = adl [h0, q1] := ⟨_, rfl⟩
  have hP : va_P D classes (W_Rings ad cI cZ zS) H := by rw [had]; exact hP.sub [0, 1] rfl
  have inj : Inj ad 2 := by rw [had]; exact inj_ofD (hD.sub (ws' := W_Rings (adl [h0, q1]) cI cZ zS) [0, 1] (by decide) rfl) rfl
  have hmem : ∀ i, i < 2 → nA h0 s.heap.size (ad i) := by rw [had]; exact mem_ofD (hD.sub (ws' := W_Rings (adl [h0, q1]) cI cZ zS) [0, 1] (by decide) rfl) rfl
  have had0 : ad 0 = h0 := by rw [had]; rfl
  have hl : lv_has ls 1 [(0, .ref (ad 0))] := by rw [had0]; exact hl
  clear had hD
  unfold q_Rings_init at h
  generalize zS = σ at hP h
  refine lv_aload_n hx hb d_Rings_init_11 rfl (lv_at hl 0 rfl) ?_
  refine lv_iconst (v := 0) hx hb d_Rings_init_12 (by decide) ?_
  refine va_put (D := D) (ci := 4) (v := .int 0) (ty := .int) (C := "CarrierPaths$Rings") (T := F_Rings) (N := 2) hx hb hts in_Rings ty_Rings ty_Rings_ok nm_Rings hown hK hP (DC_of inj hmem rfl) hS 0 rfl rfl 1 (by decide) (hts _ kw88) (fun _ h9 => h9) rfl (by decide +kernel) rfl rfl (Nat.le_of_ble_eq_true rfl) d_Rings_init_13 (fun H locs hP _ hS => ?_)
  have hP := up_Rings_f1 hP
  exact W.vret hx hb hr (fun t ht hW => ⟨⟨(sto σ 0 1 0), rfl, h, ad, had0, inj, new_of hh0 inj had0 hmem, hp_back ht hP⟩, hS.F ht⟩) hS.2.2 d_Rings_init_16

def q_Fleet_init (Q : Sg → Prop) : Prop :=
  Q (sto zS 0 7 0)
set_option maxHeartbeats 4000000 in
set_option maxRecDepth 100000 in
theorem t_Fleet_init (l : Launch) (D : va_G) (cI cZ : ClassId) (h0 sz : Nat) (Q : Sg → Prop) (h : q_Fleet_init Q) : Met l y_Fleet_init (.code y_Fleet_init prog_3_method_1_code 1 none :: TG) { frames := 1, cells := 7, slots := 42, locals := 20 } (va_Pc [.ref h0] (nB D (tysA cI cZ) [(h0, .inr (1, [.null, .null, .null, .null, .null, .null, .null, .int 0]))] sz)) (va_Qv Q (fun u t => ∃ ad : Nat → Nat, ad 0 = h0 ∧ Inj ad 8 ∧ (∀ i, 0 < i → i < 8 → sz ≤ ad i) ∧ va_P D classes (W_Fleet ad cI cZ u) t.heap) (nA h0 sz)) 7 42 (nA h0 sz) := by
  refine Met.ofW (cc := prog_3_method_1_code) (maxL := 1) (ret := none) (by decide) rfl ?_
  intro p e s m args below meth c s₁ B hml hv
  obtain ⟨rfl, hsz, hP, hK⟩ := hv
  subst hsz
  have hx := B.exec
  have hb := B.bytes
  have hr := B.returns
  have hts : ∀ w ∈ TG, w.before [.ref h0].toArray s = true := fun w hw => atoms_spec (ws := .code y_Fleet_init prog_3_method_1_code 1 none :: TG) B.pre w (List.mem_cons_of_mem _ hw)
  have hown : s.vm.findClass "CarrierPaths$Fleet" = some m.cls := findClass_of_methodNamed B.named
  have hlocks := B.notSynchronized
  have hin : meth.name = "<init>" := (name_of_methodNamed B.named B.method).1
  have hA : ∀ q : Nat, s.heap.size ≤ q → nA h0 s.heap.size q := fun q h => Or.inr h
  have hS : va_S (nA h0 s.heap.size) s.heap s.heap [] := va_S.rf
  have hh0 : h0 < s.heap.size := (hP 0 _ rfl).lt
  have hD : va_D (nA h0 s.heap.size) [(h0, .inr (1, [.null, .null, .null, .null, .null, .null, .null, .int 0]))] := one_D (Or.inl rfl)
  have hl := lv_entry ([.ref h0]) (n := 1) (Nat.le_of_ble_eq_true rfl)
  rw [lg_entry_eq]
  generalize (lg_sl ([.ref h0]) ++ List.replicate (1 - (lg_sl ([.ref h0])).length) Slot.unset).toArray = ls at hl ⊢
  have hl : lv_has ls 1 [(0, .ref h0)] := hl
  refine lv_aload_n hx hb d_Fleet_init_0 rfl (lv_at hl 0 rfl) ?_
  refine W.objInit hx hb hown (hts _ kw99) (hts _ kw22) (hts _ kwObj) rfl (by rw [hml]; exact hl.1) rfl d_Fleet_init_1 (Nat.le_of_ble_eq_true rfl) (Nat.le_of_ble_eq_true rfl) ?_
  refine W.eq (g2 := F0 m 4 ls []) rfl ?_
  refine lv_aload_n hx hb d_Fleet_init_4 rfl (lv_at hl 0 rfl) ?_
  refine lv_bipush (v := 6) hx hb d_Fleet_init_5 (by decide) ?_
  refine va_newa (atype := .int) (ty := .int) (N' := 6) (a0 := (6, .inl (fun _ => 0))) hx hb (hts _ kw46) rfl hK hP hD hS hA (fun _ => rfl) (by decide) (by decide) (by decide) (Nat.le_of_ble_eq_true rfl) (Nat.le_of_ble_eq_true rfl) d_Fleet_init_7 (fun q1 cA H hK hP hD hS => ?_)
  have eA := ca_I hK
  subst eA
  have hK := hK.sub (tys' := tysA cI cZ) [0, 1] rfl
  have hP : va_P D classes [(h0, .inr (1, [.null, .null, .null, .null, .null, .null, .null, .int 0])), (q1, .inl (cI, 6, .inl (fun _ => 0)))] H := hP
  have hD : va_D (nA h0 s.heap.size) [(h0, .inr (1, [.null, .null, .null, .null, .null, .null, .null, .int 0])), (q1, .inl (cI, 6, .inl (fun _ => 0)))] := hD
  refine va_putF (D := D) (ci := 1) (v := .ref q1) (ty := .array .int) (C := "CarrierPaths$Fleet") (T := F_Fleet) (N := 8) hx hb hts in_Fleet ty_Fleet ty_Fleet_ok nm_Fleet hown hK hP hD hS 0 rfl rfl 0 (by decide) (hts _ kw100) (fun _ h9 => h9) rfl hin rfl (by decide +kernel) rfl rfl (Nat.le_of_ble_eq_true rfl) d_Fleet_init_9 (fun H locs hP hD hS => ?_)
  have hP : va_P D classes [(h0, .inr (1, [.ref q1, .null, .null, .null, .null, .null, .null, .int 0])), (q1, .inl (cI, 6, .inl (fun _ => 0)))] H := hP
  have hD : va_D (nA h0 s.heap.size) [(h0, .inr (1, [.ref q1, .null, .null, .null, .null, .null, .null, .int 0])), (q1, .inl (cI, 6, .inl (fun _ => 0)))] := hD
  refine lv_aload_n hx hb d_Fleet_init_12 rfl (lv_at hl 0 rfl) ?_
  refine lv_bipush (v := 6) hx hb d_Fleet_init_13 (by decide) ?_
  refine va_newa (atype := .int) (ty := .int) (N' := 6) (a0 := (6, .inl (fun _ => 0))) hx hb (hts _ kw46) rfl hK hP hD hS hA (fun _ => rfl) (by decide) (by decide) (by decide) (Nat.le_of_ble_eq_true rfl) (Nat.le_of_ble_eq_true rfl) d_Fleet_init_15 (fun q2 cA H hK hP hD hS => ?_)
  have eA := ca_I hK
  subst eA
  have hK := hK.sub (tys' := tysA cI cZ) [0, 1] rfl
  have hP : va_P D classes [(h0, .inr (1, [.ref q1, .null, .null, .null, .null, .null, .null, .int 0])), (q1, .inl (cI, 6, .inl (fun _ => 0))), (q2, .inl (cI, 6, .inl (fun _ => 0)))] H := hP
  have hD : va_D (nA h0 s.heap.size) [(h0, .inr (1, [.ref q1, .null, .null, .null, .null, .null, .null, .int 0])), (q1, .inl (cI, 6, .inl (fun _ => 0))), (q2, .inl (cI, 6, .inl (fun _ => 0)))] := hD
  refine va_putF (D := D) (ci := 1) (v := .ref q2) (ty := .array .int) (C := "CarrierPaths$Fleet") (T := F_Fleet) (N := 8) hx hb hts in_Fleet ty_Fleet ty_Fleet_ok nm_Fleet hown hK hP hD hS 0 rfl rfl 1 (by decide) (hts _ kw101) (fun _ h9 => h9) rfl hin rfl (by decide +kernel) rfl rfl (Nat.le_of_ble_eq_true rfl) d_Fleet_init_17 (fun H locs hP hD hS => ?_)
  have hP : va_P D classes [(h0, .inr (1, [.ref q1, .ref q2, .null, .null, .null, .null, .null, .int 0])), (q1, .inl (cI, 6, .inl (fun _ => 0))), (q2, .inl (cI, 6, .inl (fun _ => 0)))] H := hP
  have hD : va_D (nA h0 s.heap.size) [(h0, .inr (1, [.ref q1, .ref q2, .null, .null, .null, .null, .null, .int 0])), (q1, .inl (cI, 6, .inl (fun _ => 0))), (q2, .inl (cI, 6, .inl (fun _ => 0)))] := hD
  refine lv_aload_n hx hb d_Fleet_init_20 rfl (lv_at hl 0 rfl) ?_
  refine lv_bipush (v := 6) hx hb d_Fleet_init_21 (by decide) ?_
  refine va_newa (atype := .int) (ty := .int) (N' := 6) (a0 := (6, .inl (fun _ => 0))) hx hb (hts _ kw46) rfl hK hP hD hS hA (fun _ => rfl) (by decide) (by decide) (by decide) (Nat.le_of_ble_eq_true rfl) (Nat.le_of_ble_eq_true rfl) d_Fleet_init_23 (fun q3 cA H hK hP hD hS => ?_)
  have eA := ca_I hK
  subst eA
  have hK := hK.sub (tys' := tysA cI cZ) [0, 1] rfl
  have hP : va_P D classes [(h0, .inr (1, [.ref q1, .ref q2, .null, .null, .null, .null, .null, .int 0])), (q1, .inl (cI, 6, .inl (fun _ => 0))), (q2, .inl (cI, 6, .inl (fun _ => 0))), (q3, .inl (cI, 6, .inl (fun _ => 0)))] H := hP
  have hD : va_D (nA h0 s.heap.size) [(h0, .inr (1, [.ref q1, .ref q2, .null, .null, .null, .null, .null, .int 0])), (q1, .inl (cI, 6, .inl (fun _ => 0))), (q2, .inl (cI, 6, .inl (fun _ => 0))), (q3, .inl (cI, 6, .inl (fun _ => 0)))] := hD
  refine va_putF (D := D) (ci := 1) (v := .ref q3) (ty := .array .int) (C := "CarrierPaths$Fleet") (T := F_Fleet) (N := 8) hx hb hts in_Fleet ty_Fleet ty_Fleet_ok nm_Fleet hown hK hP hD hS 0 rfl rfl 2 (by decide) (hts _ kw102) (fun _ h9 => h9) rfl hin rfl (by decide +kernel) rfl rfl (Nat.le_of_ble_eq_true rfl) d_Fleet_init_25 (fun H locs hP hD hS => ?_)
  have hP : va_P D classes [(h0, .inr (1, [.ref q1, .ref q2, .ref q3, .null, .null, .null, .null, .int 0])), (q1, .inl (cI, 6, .inl (fun _ => 0))), (q2, .inl (cI, 6, .inl (fun _ => 0))), (q3, .inl (cI, 6, .inl (fun _ => 0)))] H := hP
  have hD : va_D (nA h0 s.heap.size) [(h0, .inr (1, [.ref q1, .ref q2, .ref q3, .null, .null, .null, .null, .int 0])), (q1, .inl (cI, 6, .inl (fun _ => 0))), (q2, .inl (cI, 6, .inl (fun _ => 0))), (q3, .inl (cI, 6, .inl (fun _ => 0)))] := hD
  refine lv_aload_n hx hb d_Fleet_init_28 rfl (lv_at hl 0 rfl) ?_
  refine lv_bipush (v := 6) hx hb d_Fleet_init_29 (by decide) ?_
  refine va_newa (atype := .int) (ty := .int) (N' := 6) (a0 := (6, .inl (fun _ => 0))) hx hb (hts _ kw46) rfl hK hP hD hS hA (fun _ => rfl) (by decide) (by decide) (by decide) (Nat.le_of_ble_eq_true rfl) (Nat.le_of_ble_eq_true rfl) d_Fleet_init_31 (fun q4 cA H hK hP hD hS => ?_)
  have eA := ca_I hK
  subst eA
  have hK := hK.sub (tys' := tysA cI cZ) [0, 1] rfl
  have hP : va_P D classes [(h0, .inr (1, [.ref q1, .ref q2, .ref q3, .null, .null, .null, .null, .int 0])), (q1, .inl (cI, 6, .inl (fun _ => 0))), (q2, .inl (cI, 6, .inl (fun _ => 0))), (q3, .inl (cI, 6, .inl (fun _ => 0))), (q4, .inl (cI, 6, .inl (fun _ => 0)))] H := hP
  have hD : va_D (nA h0 s.heap.size) [(h0, .inr (1, [.ref q1, .ref q2, .ref q3, .null, .null, .null, .null, .int 0])), (q1, .inl (cI, 6, .inl (fun _ => 0))), (q2, .inl (cI, 6, .inl (fun _ => 0))), (q3, .inl (cI, 6, .inl (fun _ => 0))), (q4, .inl (cI, 6, .inl (fun _ => 0)))] := hD
  refine va_putF (D := D) (ci := 1) (v := .ref q4) (ty := .array .int) (C := "CarrierPaths$Fleet") (T := F_Fleet) (N := 8) hx hb hts in_Fleet ty_Fleet ty_Fleet_ok nm_Fleet hown hK hP hD hS 0 rfl rfl 3 (by decide) (hts _ kw103) (fun _ h9 => h9) rfl hin rfl (by decide +kernel) rfl rfl (Nat.le_of_ble_eq_true rfl) d_Fleet_init_33 (fun H locs hP hD hS => ?_)
  have hP : va_P D classes [(h0, .inr (1, [.ref q1, .ref q2, .ref q3, .ref q4, .null, .null, .null, .int 0])), (q1, .inl (cI, 6, .inl (fun _ => 0))), (q2, .inl (cI, 6, .inl (fun _ => 0))), (q3, .inl (cI, 6, .inl (fun _ => 0))), (q4, .inl (cI, 6, .inl (fun _ => 0)))] H := hP
  have hD : va_D (nA h0 s.heap.size) [(h0, .inr (1, [.ref q1, .ref q2, .ref q3, .ref q4, .null, .null, .null, .int 0])), (q1, .inl (cI, 6, .inl (fun _ => 0))), (q2, .inl (cI, 6, .inl (fun _ => 0))), (q3, .inl (cI, 6, .inl (fun _ => 0))), (q4, .inl (cI, 6, .inl (fun _ => 0)))] := hD
  refine lv_aload_n hx hb d_Fleet_init_36 rfl (lv_at hl 0 rfl) ?_
  refine lv_bipush (v := 6) hx hb d_Fleet_init_37 (by decide) ?_
  refine va_newa (atype := .int) (ty := .int) (N' := 6) (a0 := (6, .inl (fun _ => 0))) hx hb (hts _ kw46) rfl hK hP hD hS hA (fun _ => rfl) (by decide) (by decide) (by decide) (Nat.le_of_ble_eq_true rfl) (Nat.le_of_ble_eq_true rfl) d_Fleet_init_39 (fun q5 cA H hK hP hD hS => ?_)
  have eA := ca_I hK
  subst eA
  have hK := hK.sub (tys' := tysA cI cZ) [0, 1] rfl
  have hP : va_P D classes [(h0, .inr (1, [.ref q1, .ref q2, .ref q3, .ref q4, .null, .null, .null, .int 0])), (q1, .inl (cI, 6, .inl (fun _ => 0))), (q2, .inl (cI, 6, .inl (fun _ => 0))), (q3, .inl (cI, 6, .inl (fun _ => 0))), (q4, .inl (cI, 6, .inl (fun _ => 0))), (q5, .inl (cI, 6, .inl (fun _ => 0)))] H := hP
  have hD : va_D (nA h0 s.heap.size) [(h0, .inr (1, [.ref q1, .ref q2, .ref q3, .ref q4, .null, .null, .null, .int 0])), (q1, .inl (cI, 6, .inl (fun _ => 0))), (q2, .inl (cI, 6, .inl (fun _ => 0))), (q3, .inl (cI, 6, .inl (fun _ => 0))), (q4, .inl (cI, 6, .inl (fun _ => 0))), (q5, .inl (cI, 6, .inl (fun _ => 0)))] := hD
  refine va_putF (D := D) (ci := 1) (v := .ref q5) (ty := .array .int) (C := "CarrierPaths$Fleet") (T := F_Fleet) (N := 8) hx hb hts in_Fleet ty_Fleet ty_Fleet_ok nm_Fleet hown hK hP hD hS 0 rfl rfl 4 (by decide) (hts _ kw104) (fun _ h9 => h9) rfl hin rfl (by decide +kernel) rfl rfl (Nat.le_of_ble_eq_true rfl) d_Fleet_init_41 (fun H locs hP hD hS => ?_)
  have hP : va_P D classes [(h0, .inr (1, [.ref q1, .ref q2, .ref q3, .ref q4, .ref q5, .null, .null, .int 0])), (q1, .inl (cI, 6, .inl (fun _ => 0))), (q2, .inl (cI, 6, .inl (fun _ => 0))), (q3, .inl (cI, 6, .inl (fun _ => 0))), (q4, .inl (cI, 6, .inl (fun _ => 0))), (q5, .inl (cI, 6, .inl (fun _ => 0)))] H := hP
  have hD : va_D (nA h0 s.heap.size) [(h0, .inr (1, [.ref q1, .ref q2, .ref q3, .ref q4, .ref q5, .null, .null, .int 0])), (q1, .inl (cI, 6, .inl (fun _ => 0))), (q2, .inl (cI, 6, .inl (fun _ => 0))), (q3, .inl (cI, 6, .inl (fun _ => 0))), (q4, .inl (cI, 6, .inl (fun _ => 0))), (q5, .inl (cI, 6, .inl (fun _ => 0)))] := hD
  refine lv_aload_n hx hb d_Fleet_init_44 rfl (lv_at hl 0 rfl) ?_
  refine lv_bipush (v := 6) hx hb d_Fleet_init_45 (by decide) ?_
  refine va_newa (atype := .int) (ty := .int) (N' := 6) (a0 := (6, .inl (fun _ => 0))) hx hb (hts _ kw46) rfl hK hP hD hS hA (fun _ => rfl) (by decide) (by decide) (by decide) (Nat.le_of_ble_eq_true rfl) (Nat.le_of_ble_eq_true rfl) d_Fleet_init_47 (fun q6 cA H hK hP hD hS => ?_)
  have eA := ca_I hK
  subst eA
  have hK := hK.sub (tys' := tysA cI cZ) [0, 1] rfl
  have hP : va_P D classes [(h0, .inr (1, [.ref q1, .ref q2, .ref q3, .ref q4, .ref q5, .null, .null, .int 0])), (q1, .inl (cI, 6, .inl (fun _ => 0))), (q2, .inl (cI, 6, .inl (fun _ => 0))), (q3, .inl (cI, 6, .inl (fun _ => 0))), (q4, .inl (cI, 6, .inl (fun _ => 0))), (q5, .inl (cI, 6, .inl (fun _ => 0))), (q6, .inl (cI, 6, .inl (fun _ => 0)))] H := hP
  have hD : va_D (nA h0 s.heap.size) [(h0, .inr (1, [.ref q1, .ref q2, .ref q3, .ref q4, .ref q5, .null, .null, .int 0])), (q1, .inl (cI, 6, .inl (fun _ => 0))), (q2, .inl (cI, 6, .inl (fun _ => 0))), (q3, .inl (cI, 6, .inl (fun _ => 0))), (q4, .inl (cI, 6, .inl (fun _ => 0))), (q5, .inl (cI, 6, .inl (fun _ => 0))), (q6, .inl (cI, 6, .inl (fun _ => 0)))] := hD
  refine va_putF (D := D) (ci := 1) (v := .ref q6) (ty := .array .int) (C := "CarrierPaths$Fleet") (T := F_Fleet) (N := 8) hx hb hts in_Fleet ty_Fleet ty_Fleet_ok nm_Fleet hown hK hP hD hS 0 rfl rfl 5 (by decide) (hts _ kw105) (fun _ h9 => h9) rfl hin rfl (by decide +kernel) rfl rfl (Nat.le_of_ble_eq_true rfl) d_Fleet_init_49 (fun H locs hP hD hS => ?_)
  have hP : va_P D classes [(h0, .inr (1, [.ref q1, .ref q2, .ref q3, .ref q4, .ref q5, .ref q6, .null, .int 0])), (q1, .inl (cI, 6, .inl (fun _ => 0))), (q2, .inl (cI, 6, .inl (fun _ => 0))), (q3, .inl (cI, 6, .inl (fun _ => 0))), (q4, .inl (cI, 6, .inl (fun _ => 0))), (q5, .inl (cI, 6, .inl (fun _ => 0))), (q6, .inl (cI, 6, .inl (fun _ => 0)))] H := hP
  have hD : va_D (nA h0 s.heap.size) [(h0, .inr (1, [.ref q1, .ref q2, .ref q3, .ref q4, .ref q5, .ref q6, .null, .int 0])), (q1, .inl (cI, 6, .inl (fun _ => 0))), (q2, .inl (cI, 6, .inl (fun _ => 0))), (q3, .inl (cI, 6, .inl (fun _ => 0))), (q4, .inl (cI, 6, .inl (fun _ => 0))), (q5, .inl (cI, 6, .inl (fun _ => 0))), (q6, .inl (cI, 6, .inl (fun _ => 0)))] := hD
  refine lv_aload_n hx hb d_Fleet_init_52 rfl (lv_at hl 0 rfl) ?_
  refine lv_bipush (v := 6) hx hb d_Fleet_init_53 (by decide) ?_
  refine va_newa (atype := .int) (ty := .int) (N' := 6) (a0 := (6, .inl (fun _ => 0))) hx hb (hts _ kw46) rfl hK hP hD hS hA (fun _ => rfl) (by decide) (by decide) (by decide) (Nat.le_of_ble_eq_true rfl) (Nat.le_of_ble_eq_true rfl) d_Fleet_init_55 (fun q7 cA H hK hP hD hS => ?_)
  have eA := ca_I hK
  subst eA
  have hK := hK.sub (tys' := tysA cI cZ) [0, 1] rfl
  have hP : va_P D classes [(h0, .inr (1, [.ref q1, .ref q2, .ref q3, .ref q4, .ref q5, .ref q6, .null, .int 0])), (q1, .inl (cI, 6, .inl (fun _ => 0))), (q2, .inl (cI, 6, .inl (fun _ => 0))), (q3, .inl (cI, 6, .inl (fun _ => 0))), (q4, .inl (cI, 6, .inl (fun _ => 0))), (q5, .inl (cI, 6, .inl (fun _ => 0))), (q6, .inl (cI, 6, .inl (fun _ => 0))), (q7, .inl (cI, 6, .inl (fun _ => 0)))] H := hP
  have hD : va_D (nA h0 s.heap.size) [(h0, .inr (1, [.ref q1, .ref q2, .ref q3, .ref q4, .ref q5, .ref q6, .null, .int 0])), (q1, .inl (cI, 6, .inl (fun _ => 0))), (q2, .inl (cI, 6, .inl (fun _ => 0))), (q3, .inl (cI, 6, .inl (fun _ => 0))), (q4, .inl (cI, 6, .inl (fun _ => 0))), (q5, .inl (cI, 6, .inl (fun _ => 0))), (q6, .inl (cI, 6, .inl (fun _ => 0))), (q7, .inl (cI, 6, .inl (fun _ => 0)))] := hD
  refine va_putF (D := D) (ci := 1) (v := .ref q7) (ty := .array .int) (C := "CarrierPaths$Fleet") (T := F_Fleet) (N := 8) hx hb hts in_Fleet ty_Fleet ty_Fleet_ok nm_Fleet hown hK hP hD hS 0 rfl rfl 6 (by decide) (hts _ kw106) (fun _ h9 => h9) rfl hin rfl (by decide +kernel) rfl rfl (Nat.le_of_ble_eq_true rfl) d_Fleet_init_57 (fun H locs hP hD hS => ?_)
  have hP : va_P D classes [(h0, .inr (1, [.ref q1, .ref q2, .ref q3, .ref q4, .ref q5, .ref q6, .ref q7, .int 0])), (q1, .inl (cI, 6, .inl (fun _ => 0))), (q2, .inl (cI, 6, .inl (fun _ => 0))), (q3, .inl (cI, 6, .inl (fun _ => 0))), (q4, .inl (cI, 6, .inl (fun _ => 0))), (q5, .inl (cI, 6, .inl (fun _ => 0))), (q6, .inl (cI, 6, .inl (fun _ => 0))), (q7, .inl (cI, 6, .inl (fun _ => 0)))] H := hP
  have hD : va_D (nA h0 s.heap.size) [(h0, .inr (1, [.ref q1, .ref q2, .ref q3, .ref q4, .ref q5, .ref q6, .ref q7, .int 0])), (q1, .inl (cI, 6, .inl (fun _ => 0))), (q2, .inl (cI, 6, .inl (fun _ => 0))), (q3, .inl (cI, 6, .inl (fun _ => 0))), (q4, .inl (cI, 6, .inl (fun _ => 0))), (q5, .inl (cI, 6, .inl (fun _ => 0))), (q6, .inl (cI, 6, .inl (fun _ => 0))), (q7, .inl (cI, 6, .inl (fun _ => 0)))] := hD
  obtain ⟨ad, had⟩ : ∃ z, z = adl [h0, q1, q2, q3, q4, q5, q6, q7] := ⟨_, rfl⟩
  have hP : va_P D classes (W_Fleet ad cI cZ zS) H := by rw [had]; exact hP.sub [0, 1, 2, 3, 4, 5, 6, 7] rfl
  have inj : Inj ad 8 := by rw [had]; exact inj_ofD (hD.sub (ws' := W_Fleet (adl [h0, q1, q2, q3, q4, q5, q6, q7]) cI cZ zS) [0, 1, 2, 3, 4, 5, 6, 7] (by decide) rfl) rfl
  have hmem : ∀ i, i < 8 → nA h0 s.heap.size (ad i) := by rw [had]; exact mem_ofD (hD.sub (ws' := W_Fleet (adl [h0, q1, q2, q3, q4, q5, q6, q7]) cI cZ zS) [0, 1, 2, 3, 4, 5, 6, 7] (by decide) rfl) rfl
  have had0 : ad 0 = h0 := by rw [had]; rfl
  have hl : lv_has ls 1 [(0, .ref (ad 0))] := by rw [had0]; exact hl
  clear had hD
  unfold q_Fleet_init at h
  generalize zS = σ at hP h
  refine lv_aload_n hx hb d_Fleet_init_60 rfl (lv_at hl 0 rfl) ?_
  refine lv_iconst (v := 0) hx hb d_Fleet_init_61 (by decide) ?_
  refine va_put (D := D) (ci := 1) (v := .int 0) (ty := .int) (C := "CarrierPaths$Fleet") (T := F_Fleet) (N := 8) hx hb hts in_Fleet ty_Fleet ty_Fleet_ok nm_Fleet hown hK hP (DC_of inj hmem rfl) hS 0 rfl rfl 7 (by decide) (hts _ kw107) (fun _ h9 => h9) rfl (by decide +kernel) rfl rfl (Nat.le_of_ble_eq_true rfl) d_Fleet_init_62 (fun H locs hP _ hS => ?_)
  have hP := up_Fleet_f7 hP
  exact W.vret hx hb hr (fun t ht hW => ⟨⟨(sto σ 0 7 0), rfl, h, ad, had0, inj, new_of hh0 inj had0 hmem, hp_back ht hP⟩, hS.F ht⟩) hS.2.2 d_Fleet_init_65

def q_Jobs_init (Q : Sg → Prop) : Prop :=
  Q (sto zS 0 4 0)
set_option maxHeartbeats 4000000 in
set_option maxRecDepth 100000 in
theorem t_Jobs_init (l : Launch) (D : va_G) (cI cZ : ClassId) (h0 sz : Nat) (Q : Sg → Prop) (h : q_Jobs_init Q) : Met l y_Jobs_init (.code y_Jobs_init prog_4_method_1_code 1 none :: TG) { frames := 1, cells := 4, slots := 48, locals := 20 } (va_Pc [.ref h0] (nB D (tysA cI cZ) [(h0, .inr (2, [.null, .null, .null, .null, .int 0]))] sz)) (va_Qv Q (fun u t => ∃ ad : Nat → Nat, ad 0 = h0 ∧ Inj ad 5 ∧ (∀ i, 0 < i → i < 5 → sz ≤ ad i) ∧ va_P D classes (W_Jobs ad cI cZ u) t.heap) (nA h0 sz)) 4 48 (nA h0 sz) := by
  refine Met.ofW (cc := prog_4_method_1_code) (maxL := 1) (ret := none) (by decide) rfl ?_
  intro p e s m args below meth c s₁ B hml hv
  obtain ⟨rfl, hsz, hP, hK⟩ := hv
  subst hsz
  have hx := B.exec
  have hb := B.bytes
  have hr := B.returns
  have hts : ∀ w ∈ TG, w.before [.ref h0].toArray s = true := fun w hw => atoms_spec (ws := .code y_Jobs_init prog_4_method_1_code 1 none :: TG) B.pre w (List.mem_cons_of_mem _ hw)
  have hown : s.vm.findClass "CarrierPaths$Jobs" = some m.cls := findClass_of_methodNamed B.named
  have hlocks := B.notSynchronized
  have hin : meth.name = "<init>" := (name_of_methodNamed B.named B.method).1
  have hA : ∀ q : Nat, s.heap.size ≤ q → nA h0 s.heap.size q := fun q h => Or.inr h
  have hS : va_S (nA h0 s.heap.size) s.heap s.heap [] := va_S.rf
  have hh0 : h0 < s.heap.size := (hP 0 _ rfl).lt
  have hD : va_D (nA h0 s.heap.size) [(h0, .inr (2, [.null, .null, .null, .null, .int 0]))] := one_D (Or.inl rfl)
  have hl := lv_entry ([.ref h0]) (n := 1) (Nat.le_of_ble_eq_true rfl)
  rw [lg_entry_eq]
  generalize (lg_sl ([.ref h0]) ++ List.replicate (1 - (lg_sl ([.ref h0])).length) Slot.unset).toArray = ls at hl ⊢
  have hl : lv_has ls 1 [(0, .ref h0)] := hl
  refine lv_aload_n hx hb d_Jobs_init_0 rfl (lv_at hl 0 rfl) ?_
  refine W.objInit hx hb hown (hts _ kw130) (hts _ kw22) (hts _ kwObj) rfl (by rw [hml]; exact hl.1) rfl d_Jobs_init_1 (Nat.le_of_ble_eq_true rfl) (Nat.le_of_ble_eq_true rfl) ?_
  refine W.eq (g2 := F0 m 4 ls []) rfl ?_
  refine lv_aload_n hx hb d_Jobs_init_4 rfl (lv_at hl 0 rfl) ?_
  refine lv_bipush (v := 12) hx hb d_Jobs_init_5 (by decide) ?_
  refine va_newa (atype := .int) (ty := .int) (N' := 12) (a0 := (12, .inl (fun _ => 0))) hx hb (hts _ kw46) rfl hK hP hD hS hA (fun _ => rfl) (by decide) (by decide) (by decide) (Nat.le_of_ble_eq_true rfl) (Nat.le_of_ble_eq_true rfl) d_Jobs_init_7 (fun q1 cA H hK hP hD hS => ?_)
  have eA := ca_I hK
  subst eA
  have hK := hK.sub (tys' := tysA cI cZ) [0, 1] rfl
  have hP : va_P D classes [(h0, .inr (2, [.null, .null, .null, .null, .int 0])), (q1, .inl (cI, 12, .inl (fun _ => 0)))] H := hP
  have hD : va_D (nA h0 s.heap.size) [(h0, .inr (2, [.null, .null, .null, .null, .int 0])), (q1, .inl (cI, 12, .inl (fun _ => 0)))] := hD
  refine va_putF (D := D) (ci := 2) (v := .ref q1) (ty := .array .int) (C := "CarrierPaths$Jobs") (T := F_Jobs) (N := 5) hx hb hts in_Jobs ty_Jobs ty_Jobs_ok nm_Jobs hown hK hP hD hS 0 rfl rfl 0 (by decide) (hts _ kw131) (fun _ h9 => h9) rfl hin rfl (by decide +kernel) rfl rfl (Nat.le_of_ble_eq_true rfl) d_Jobs_init_9 (fun H locs hP hD hS => ?_)
  have hP : va_P D classes [(h0, .inr (2, [.ref q1, .null, .null, .null, .int 0])), (q1, .inl (cI, 12, .inl (fun _ => 0)))] H := hP
  have hD : va_D (nA h0 s.heap.size) [(h0, .inr (2, [.ref q1, .null, .null, .null, .int 0])), (q1, .inl (cI, 12, .inl (fun _ => 0)))] := hD
  refine lv_aload_n hx hb d_Jobs_init_12 rfl (lv_at hl 0 rfl) ?_
  refine lv_bipush (v := 12) hx hb d_Jobs_init_13 (by decide) ?_
  refine va_newa (atype := .int) (ty := .int) (N' := 12) (a0 := (12, .inl (fun _ => 0))) hx hb (hts _ kw46) rfl hK hP hD hS hA (fun _ => rfl) (by decide) (by decide) (by decide) (Nat.le_of_ble_eq_true rfl) (Nat.le_of_ble_eq_true rfl) d_Jobs_init_15 (fun q2 cA H hK hP hD hS => ?_)
  have eA := ca_I hK
  subst eA
  have hK := hK.sub (tys' := tysA cI cZ) [0, 1] rfl
  have hP : va_P D classes [(h0, .inr (2, [.ref q1, .null, .null, .null, .int 0])), (q1, .inl (cI, 12, .inl (fun _ => 0))), (q2, .inl (cI, 12, .inl (fun _ => 0)))] H := hP
  have hD : va_D (nA h0 s.heap.size) [(h0, .inr (2, [.ref q1, .null, .null, .null, .int 0])), (q1, .inl (cI, 12, .inl (fun _ => 0))), (q2, .inl (cI, 12, .inl (fun _ => 0)))] := hD
  refine va_putF (D := D) (ci := 2) (v := .ref q2) (ty := .array .int) (C := "CarrierPaths$Jobs") (T := F_Jobs) (N := 5) hx hb hts in_Jobs ty_Jobs ty_Jobs_ok nm_Jobs hown hK hP hD hS 0 rfl rfl 1 (by decide) (hts _ kw132) (fun _ h9 => h9) rfl hin rfl (by decide +kernel) rfl rfl (Nat.le_of_ble_eq_true rfl) d_Jobs_init_17 (fun H locs hP hD hS => ?_)
  have hP : va_P D classes [(h0, .inr (2, [.ref q1, .ref q2, .null, .null, .int 0])), (q1, .inl (cI, 12, .inl (fun _ => 0))), (q2, .inl (cI, 12, .inl (fun _ => 0)))] H := hP
  have hD : va_D (nA h0 s.heap.size) [(h0, .inr (2, [.ref q1, .ref q2, .null, .null, .int 0])), (q1, .inl (cI, 12, .inl (fun _ => 0))), (q2, .inl (cI, 12, .inl (fun _ => 0)))] := hD
  refine lv_aload_n hx hb d_Jobs_init_20 rfl (lv_at hl 0 rfl) ?_
  refine lv_bipush (v := 12) hx hb d_Jobs_init_21 (by decide) ?_
  refine va_newa (atype := .int) (ty := .int) (N' := 12) (a0 := (12, .inl (fun _ => 0))) hx hb (hts _ kw46) rfl hK hP hD hS hA (fun _ => rfl) (by decide) (by decide) (by decide) (Nat.le_of_ble_eq_true rfl) (Nat.le_of_ble_eq_true rfl) d_Jobs_init_23 (fun q3 cA H hK hP hD hS => ?_)
  have eA := ca_I hK
  subst eA
  have hK := hK.sub (tys' := tysA cI cZ) [0, 1] rfl
  have hP : va_P D classes [(h0, .inr (2, [.ref q1, .ref q2, .null, .null, .int 0])), (q1, .inl (cI, 12, .inl (fun _ => 0))), (q2, .inl (cI, 12, .inl (fun _ => 0))), (q3, .inl (cI, 12, .inl (fun _ => 0)))] H := hP
  have hD : va_D (nA h0 s.heap.size) [(h0, .inr (2, [.ref q1, .ref q2, .null, .null, .int 0])), (q1, .inl (cI, 12, .inl (fun _ => 0))), (q2, .inl (cI, 12, .inl (fun _ => 0))), (q3, .inl (cI, 12, .inl (fun _ => 0)))] := hD
  refine va_putF (D := D) (ci := 2) (v := .ref q3) (ty := .array .int) (C := "CarrierPaths$Jobs") (T := F_Jobs) (N := 5) hx hb hts in_Jobs ty_Jobs ty_Jobs_ok nm_Jobs hown hK hP hD hS 0 rfl rfl 2 (by decide) (hts _ kw133) (fun _ h9 => h9) rfl hin rfl (by decide +kernel) rfl rfl (Nat.le_of_ble_eq_true rfl) d_Jobs_init_25 (fun H locs hP hD hS => ?_)
  have hP : va_P D classes [(h0, .inr (2, [.ref q1, .ref q2, .ref q3, .null, .int 0])), (q1, .inl (cI, 12, .inl (fun _ => 0))), (q2, .inl (cI, 12, .inl (fun _ => 0))), (q3, .inl (cI, 12, .inl (fun _ => 0)))] H := hP
  have hD : va_D (nA h0 s.heap.size) [(h0, .inr (2, [.ref q1, .ref q2, .ref q3, .null, .int 0])), (q1, .inl (cI, 12, .inl (fun _ => 0))), (q2, .inl (cI, 12, .inl (fun _ => 0))), (q3, .inl (cI, 12, .inl (fun _ => 0)))] := hD
  refine lv_aload_n hx hb d_Jobs_init_28 rfl (lv_at hl 0 rfl) ?_
  refine lv_bipush (v := 12) hx hb d_Jobs_init_29 (by decide) ?_
  refine va_newa (atype := .int) (ty := .int) (N' := 12) (a0 := (12, .inl (fun _ => 0))) hx hb (hts _ kw46) rfl hK hP hD hS hA (fun _ => rfl) (by decide) (by decide) (by decide) (Nat.le_of_ble_eq_true rfl) (Nat.le_of_ble_eq_true rfl) d_Jobs_init_31 (fun q4 cA H hK hP hD hS => ?_)
  have eA := ca_I hK
  subst eA
  have hK := hK.sub (tys' := tysA cI cZ) [0, 1] rfl
  have hP : va_P D classes [(h0, .inr (2, [.ref q1, .ref q2, .ref q3, .null, .int 0])), (q1, .inl (cI, 12, .inl (fun _ => 0))), (q2, .inl (cI, 12, .inl (fun _ => 0))), (q3, .inl (cI, 12, .inl (fun _ => 0))), (q4, .inl (cI, 12, .inl (fun _ => 0)))] H := hP
  have hD : va_D (nA h0 s.heap.size) [(h0, .inr (2, [.ref q1, .ref q2, .ref q3, .null, .int 0])), (q1, .inl (cI, 12, .inl (fun _ => 0))), (q2, .inl (cI, 12, .inl (fun _ => 0))), (q3, .inl (cI, 12, .inl (fun _ => 0))), (q4, .inl (cI, 12, .inl (fun _ => 0)))] := hD
  refine va_putF (D := D) (ci := 2) (v := .ref q4) (ty := .array .int) (C := "CarrierPaths$Jobs") (T := F_Jobs) (N := 5) hx hb hts in_Jobs ty_Jobs ty_Jobs_ok nm_Jobs hown hK hP hD hS 0 rfl rfl 3 (by decide) (hts _ kw134) (fun _ h9 => h9) rfl hin rfl (by decide +kernel) rfl rfl (Nat.le_of_ble_eq_true rfl) d_Jobs_init_33 (fun H locs hP hD hS => ?_)
  have hP : va_P D classes [(h0, .inr (2, [.ref q1, .ref q2, .ref q3, .ref q4, .int 0])), (q1, .inl (cI, 12, .inl (fun _ => 0))), (q2, .inl (cI, 12, .inl (fun _ => 0))), (q3, .inl (cI, 12, .inl (fun _ => 0))), (q4, .inl (cI, 12, .inl (fun _ => 0)))] H := hP
  have hD : va_D (nA h0 s.heap.size) [(h0, .inr (2, [.ref q1, .ref q2, .ref q3, .ref q4, .int 0])), (q1, .inl (cI, 12, .inl (fun _ => 0))), (q2, .inl (cI, 12, .inl (fun _ => 0))), (q3, .inl (cI, 12, .inl (fun _ => 0))), (q4, .inl (cI, 12, .inl (fun _ => 0)))] := hD
  obtain ⟨ad, had⟩ : ∃ z, z = adl [h0, q1, q2, q3, q4] := ⟨_, rfl⟩
  have hP : va_P D classes (W_Jobs ad cI cZ zS) H := by rw [had]; exact hP.sub [0, 1, 2, 3, 4] rfl
  have inj : Inj ad 5 := by rw [had]; exact inj_ofD (hD.sub (ws' := W_Jobs (adl [h0, q1, q2, q3, q4]) cI cZ zS) [0, 1, 2, 3, 4] (by decide) rfl) rfl
  have hmem : ∀ i, i < 5 → nA h0 s.heap.size (ad i) := by rw [had]; exact mem_ofD (hD.sub (ws' := W_Jobs (adl [h0, q1, q2, q3, q4]) cI cZ zS) [0, 1, 2, 3, 4] (by decide) rfl) rfl
  have had0 : ad 0 = h0 := by rw [had]; rfl
  have hl : lv_has ls 1 [(0, .ref (ad 0))] := by rw [had0]; exact hl
  clear had hD
  unfold q_Jobs_init at h
  generalize zS = σ at hP h
  refine lv_aload_n hx hb d_Jobs_init_36 rfl (lv_at hl 0 rfl) ?_
  refine lv_iconst (v := 0) hx hb d_Jobs_init_37 (by decide) ?_
  refine va_put (D := D) (ci := 2) (v := .int 0) (ty := .int) (C := "CarrierPaths$Jobs") (T := F_Jobs) (N := 5) hx hb hts in_Jobs ty_Jobs ty_Jobs_ok nm_Jobs hown hK hP (DC_of inj hmem rfl) hS 0 rfl rfl 4 (by decide) (hts _ kw135) (fun _ h9 => h9) rfl (by decide +kernel) rfl rfl (Nat.le_of_ble_eq_true rfl) d_Jobs_init_38 (fun H locs hP _ hS => ?_)
  have hP := up_Jobs_f4 hP
  exact W.vret hx hb hr (fun t ht hW => ⟨⟨(sto σ 0 4 0), rfl, h, ad, had0, inj, new_of hh0 inj had0 hmem, hp_back ht hP⟩, hS.F ht⟩) hS.2.2 d_Jobs_init_41

def q_Choice_init (Q : Sg → Prop) : Prop :=
  Q (sto (sto (sto zS 0 3 0) 0 4 0) 0 5 0)
set_option maxHeartbeats 4000000 in
set_option maxRecDepth 100000 in
theorem t_Choice_init (l : Launch) (D : va_G) (cI cZ : ClassId) (h0 sz : Nat) (Q : Sg → Prop) (h : q_Choice_init Q) : Met l y_Choice_init (.code y_Choice_init prog_2_method_1_code 1 none :: TG) { frames := 1, cells := 3, slots := 916, locals := 20 } (va_Pc [.ref h0] (nB D (tysA cI cZ) [(h0, .inr (0, [.null, .null, .null, .int 0, .int 0, .int 0]))] sz)) (va_Qv Q (fun u t => ∃ ad : Nat → Nat, ad 0 = h0 ∧ Inj ad 4 ∧ (∀ i, 0 < i → i < 4 → sz ≤ ad i) ∧ va_P D classes (W_Choice ad cI cZ u) t.heap) (nA h0 sz)) 3 916 (nA h0 sz) := by
  refine Met.ofW (cc := prog_2_method_1_code) (maxL := 1) (ret := none) (by decide) rfl ?_
  intro p e s m args below meth c s₁ B hml hv
  obtain ⟨rfl, hsz, hP, hK⟩ := hv
  subst hsz
  have hx := B.exec
  have hb := B.bytes
  have hr := B.returns
  have hts : ∀ w ∈ TG, w.before [.ref h0].toArray s = true := fun w hw => atoms_spec (ws := .code y_Choice_init prog_2_method_1_code 1 none :: TG) B.pre w (List.mem_cons_of_mem _ hw)
  have hown : s.vm.findClass "CarrierPaths$Choice" = some m.cls := findClass_of_methodNamed B.named
  have hlocks := B.notSynchronized
  have hin : meth.name = "<init>" := (name_of_methodNamed B.named B.method).1
  have hA : ∀ q : Nat, s.heap.size ≤ q → nA h0 s.heap.size q := fun q h => Or.inr h
  have hS : va_S (nA h0 s.heap.size) s.heap s.heap [] := va_S.rf
  have hh0 : h0 < s.heap.size := (hP 0 _ rfl).lt
  have hD : va_D (nA h0 s.heap.size) [(h0, .inr (0, [.null, .null, .null, .int 0, .int 0, .int 0]))] := one_D (Or.inl rfl)
  have hl := lv_entry ([.ref h0]) (n := 1) (Nat.le_of_ble_eq_true rfl)
  rw [lg_entry_eq]
  generalize (lg_sl ([.ref h0]) ++ List.replicate (1 - (lg_sl ([.ref h0])).length) Slot.unset).toArray = ls at hl ⊢
  have hl : lv_has ls 1 [(0, .ref h0)] := hl
  refine lv_aload_n hx hb d_Choice_init_0 rfl (lv_at hl 0 rfl) ?_
  refine W.objInit hx hb hown (hts _ kw152) (hts _ kw22) (hts _ kwObj) rfl (by rw [hml]; exact hl.1) rfl d_Choice_init_1 (Nat.le_of_ble_eq_true rfl) (Nat.le_of_ble_eq_true rfl) ?_
  refine W.eq (g2 := F0 m 4 ls []) rfl ?_
  refine lv_aload_n hx hb d_Choice_init_4 rfl (lv_at hl 0 rfl) ?_
  refine lv_bipush (v := 72) hx hb d_Choice_init_5 (by decide) ?_
  refine va_newa (atype := .int) (ty := .int) (N' := 72) (a0 := (72, .inl (fun _ => 0))) hx hb (hts _ kw46) rfl hK hP hD hS hA (fun _ => rfl) (by decide) (by decide) (by decide) (Nat.le_of_ble_eq_true rfl) (Nat.le_of_ble_eq_true rfl) d_Choice_init_7 (fun q1 cA H hK hP hD hS => ?_)
  have eA := ca_I hK
  subst eA
  have hK := hK.sub (tys' := tysA cI cZ) [0, 1] rfl
  have hP : va_P D classes [(h0, .inr (0, [.null, .null, .null, .int 0, .int 0, .int 0])), (q1, .inl (cI, 72, .inl (fun _ => 0)))] H := hP
  have hD : va_D (nA h0 s.heap.size) [(h0, .inr (0, [.null, .null, .null, .int 0, .int 0, .int 0])), (q1, .inl (cI, 72, .inl (fun _ => 0)))] := hD
  refine va_putF (D := D) (ci := 0) (v := .ref q1) (ty := .array .int) (C := "CarrierPaths$Choice") (T := F_Choice) (N := 6) hx hb hts in_Choice ty_Choice ty_Choice_ok nm_Choice hown hK hP hD hS 0 rfl rfl 0 (by decide) (hts _ kw153) (fun _ h9 => h9) rfl hin rfl (by decide +kernel) rfl rfl (Nat.le_of_ble_eq_true rfl) d_Choice_init_9 (fun H locs hP hD hS => ?_)
  have hP : va_P D classes [(h0, .inr (0, [.ref q1, .null, .null, .int 0, .int 0, .int 0])), (q1, .inl (cI, 72, .inl (fun _ => 0)))] H := hP
  have hD : va_D (nA h0 s.heap.size) [(h0, .inr (0, [.ref q1, .null, .null, .int 0, .int 0, .int 0])), (q1, .inl (cI, 72, .inl (fun _ => 0)))] := hD
  refine lv_aload_n hx hb d_Choice_init_12 rfl (lv_at hl 0 rfl) ?_
  refine lv_sipush (v := 832) hx hb d_Choice_init_13 (by decide) ?_
  refine va_newa (atype := .int) (ty := .int) (N' := 832) (a0 := (832, .inl (fun _ => 0))) hx hb (hts _ kw46) rfl hK hP hD hS hA (fun _ => rfl) (by decide) (by decide) (by decide) (Nat.le_of_ble_eq_true rfl) (Nat.le_of_ble_eq_true rfl) d_Choice_init_16 (fun q2 cA H hK hP hD hS => ?_)
  have eA := ca_I hK
  subst eA
  have hK := hK.sub (tys' := tysA cI cZ) [0, 1] rfl
  have hP : va_P D classes [(h0, .inr (0, [.ref q1, .null, .null, .int 0, .int 0, .int 0])), (q1, .inl (cI, 72, .inl (fun _ => 0))), (q2, .inl (cI, 832, .inl (fun _ => 0)))] H := hP
  have hD : va_D (nA h0 s.heap.size) [(h0, .inr (0, [.ref q1, .null, .null, .int 0, .int 0, .int 0])), (q1, .inl (cI, 72, .inl (fun _ => 0))), (q2, .inl (cI, 832, .inl (fun _ => 0)))] := hD
  refine va_putF (D := D) (ci := 0) (v := .ref q2) (ty := .array .int) (C := "CarrierPaths$Choice") (T := F_Choice) (N := 6) hx hb hts in_Choice ty_Choice ty_Choice_ok nm_Choice hown hK hP hD hS 0 rfl rfl 1 (by decide) (hts _ kw154) (fun _ h9 => h9) rfl hin rfl (by decide +kernel) rfl rfl (Nat.le_of_ble_eq_true rfl) d_Choice_init_18 (fun H locs hP hD hS => ?_)
  have hP : va_P D classes [(h0, .inr (0, [.ref q1, .ref q2, .null, .int 0, .int 0, .int 0])), (q1, .inl (cI, 72, .inl (fun _ => 0))), (q2, .inl (cI, 832, .inl (fun _ => 0)))] H := hP
  have hD : va_D (nA h0 s.heap.size) [(h0, .inr (0, [.ref q1, .ref q2, .null, .int 0, .int 0, .int 0])), (q1, .inl (cI, 72, .inl (fun _ => 0))), (q2, .inl (cI, 832, .inl (fun _ => 0)))] := hD
  refine lv_aload_n hx hb d_Choice_init_21 rfl (lv_at hl 0 rfl) ?_
  refine lv_bipush (v := 12) hx hb d_Choice_init_22 (by decide) ?_
  refine va_newa (atype := .int) (ty := .int) (N' := 12) (a0 := (12, .inl (fun _ => 0))) hx hb (hts _ kw46) rfl hK hP hD hS hA (fun _ => rfl) (by decide) (by decide) (by decide) (Nat.le_of_ble_eq_true rfl) (Nat.le_of_ble_eq_true rfl) d_Choice_init_24 (fun q3 cA H hK hP hD hS => ?_)
  have eA := ca_I hK
  subst eA
  have hK := hK.sub (tys' := tysA cI cZ) [0, 1] rfl
  have hP : va_P D classes [(h0, .inr (0, [.ref q1, .ref q2, .null, .int 0, .int 0, .int 0])), (q1, .inl (cI, 72, .inl (fun _ => 0))), (q2, .inl (cI, 832, .inl (fun _ => 0))), (q3, .inl (cI, 12, .inl (fun _ => 0)))] H := hP
  have hD : va_D (nA h0 s.heap.size) [(h0, .inr (0, [.ref q1, .ref q2, .null, .int 0, .int 0, .int 0])), (q1, .inl (cI, 72, .inl (fun _ => 0))), (q2, .inl (cI, 832, .inl (fun _ => 0))), (q3, .inl (cI, 12, .inl (fun _ => 0)))] := hD
  refine va_putF (D := D) (ci := 0) (v := .ref q3) (ty := .array .int) (C := "CarrierPaths$Choice") (T := F_Choice) (N := 6) hx hb hts in_Choice ty_Choice ty_Choice_ok nm_Choice hown hK hP hD hS 0 rfl rfl 2 (by decide) (hts _ kw155) (fun _ h9 => h9) rfl hin rfl (by decide +kernel) rfl rfl (Nat.le_of_ble_eq_true rfl) d_Choice_init_26 (fun H locs hP hD hS => ?_)
  have hP : va_P D classes [(h0, .inr (0, [.ref q1, .ref q2, .ref q3, .int 0, .int 0, .int 0])), (q1, .inl (cI, 72, .inl (fun _ => 0))), (q2, .inl (cI, 832, .inl (fun _ => 0))), (q3, .inl (cI, 12, .inl (fun _ => 0)))] H := hP
  have hD : va_D (nA h0 s.heap.size) [(h0, .inr (0, [.ref q1, .ref q2, .ref q3, .int 0, .int 0, .int 0])), (q1, .inl (cI, 72, .inl (fun _ => 0))), (q2, .inl (cI, 832, .inl (fun _ => 0))), (q3, .inl (cI, 12, .inl (fun _ => 0)))] := hD
  obtain ⟨ad, had⟩ : ∃ z, z = adl [h0, q1, q2, q3] := ⟨_, rfl⟩
  have hP : va_P D classes (W_Choice ad cI cZ zS) H := by rw [had]; exact hP.sub [0, 1, 2, 3] rfl
  have inj : Inj ad 4 := by rw [had]; exact inj_ofD (hD.sub (ws' := W_Choice (adl [h0, q1, q2, q3]) cI cZ zS) [0, 1, 2, 3] (by decide) rfl) rfl
  have hmem : ∀ i, i < 4 → nA h0 s.heap.size (ad i) := by rw [had]; exact mem_ofD (hD.sub (ws' := W_Choice (adl [h0, q1, q2, q3]) cI cZ zS) [0, 1, 2, 3] (by decide) rfl) rfl
  have had0 : ad 0 = h0 := by rw [had]; rfl
  have hl : lv_has ls 1 [(0, .ref (ad 0))] := by rw [had0]; exact hl
  clear had hD
  unfold q_Choice_init at h
  generalize zS = σ at hP h
  refine lv_aload_n hx hb d_Choice_init_29 rfl (lv_at hl 0 rfl) ?_
  refine lv_iconst (v := 0) hx hb d_Choice_init_30 (by decide) ?_
  refine va_put (D := D) (ci := 0) (v := .int 0) (ty := .int) (C := "CarrierPaths$Choice") (T := F_Choice) (N := 6) hx hb hts in_Choice ty_Choice ty_Choice_ok nm_Choice hown hK hP (DC_of inj hmem rfl) hS 0 rfl rfl 3 (by decide) (hts _ kw156) (fun _ h9 => h9) rfl (by decide +kernel) rfl rfl (Nat.le_of_ble_eq_true rfl) d_Choice_init_31 (fun H locs hP _ hS => ?_)
  have hP := up_Choice_f3 hP
  refine lv_aload_n hx hb d_Choice_init_34 rfl (lv_at hl 0 rfl) ?_
  refine lv_iconst (v := 0) hx hb d_Choice_init_35 (by decide) ?_
  refine va_put (D := D) (ci := 0) (v := .int 0) (ty := .int) (C := "CarrierPaths$Choice") (T := F_Choice) (N := 6) hx hb hts in_Choice ty_Choice ty_Choice_ok nm_Choice hown hK hP (DC_of inj hmem rfl) hS 0 rfl rfl 4 (by decide) (hts _ kw157) (fun _ h9 => h9) rfl (by decide +kernel) rfl rfl (Nat.le_of_ble_eq_true rfl) d_Choice_init_36 (fun H locs hP _ hS => ?_)
  have hP := up_Choice_f4 hP
  refine lv_aload_n hx hb d_Choice_init_39 rfl (lv_at hl 0 rfl) ?_
  refine lv_iconst (v := 0) hx hb d_Choice_init_40 (by decide) ?_
  refine va_put (D := D) (ci := 0) (v := .int 0) (ty := .int) (C := "CarrierPaths$Choice") (T := F_Choice) (N := 6) hx hb hts in_Choice ty_Choice ty_Choice_ok nm_Choice hown hK hP (DC_of inj hmem rfl) hS 0 rfl rfl 5 (by decide) (hts _ kw158) (fun _ h9 => h9) rfl (by decide +kernel) rfl rfl (Nat.le_of_ble_eq_true rfl) d_Choice_init_41 (fun H locs hP _ hS => ?_)
  have hP := up_Choice_f5 hP
  exact W.vret hx hb hr (fun t ht hW => ⟨⟨(sto (sto (sto σ 0 3 0) 0 4 0) 0 5 0), rfl, h, ad, had0, inj, new_of hh0 inj had0 hmem, hp_back ht hP⟩, hS.F ht⟩) hS.2.2 d_Choice_init_44
