theorem kw16 : (Cond.classLink "CarrierPathsLaw" 8 "CarrierPaths" : Cond) ∈ TG := tg_1 (i := 16) (by decide +kernel) rfl
theorem kw17 : (Cond.instantiable "CarrierPaths" 7 : Cond) ∈ TG := tg_1 (i := 17) (by decide +kernel) rfl
theorem kw18 : (Cond.methodLink "CarrierPathsLaw" 55 ⟨"CarrierPaths", "<init>", "(I)V"⟩ : Cond) ∈ TG := tg_1 (i := 18) (by decide +kernel) rfl
theorem kw19 : (Cond.instanceMethod ⟨"CarrierPaths", "<init>", "(I)V"⟩ : Cond) ∈ TG := tg_1 (i := 19) (by decide +kernel) rfl
theorem kw20 : (Cond.code ⟨"CarrierPaths", "<init>", "(I)V"⟩ prog_1_method_1_code 3 none : Cond) ∈ TG := tg_1 (i := 20) (by decide +kernel) rfl
theorem kw406 : (Cond.methodLink "CarrierPathsLaw" 49 ⟨"CarrierPathsLaw", "cell", "([II)I"⟩ : Cond) ∈ TG := tg_2 (i := 166) (by decide +kernel) rfl
theorem kw407 : (Cond.static ⟨"CarrierPathsLaw", "cell", "([II)I"⟩ : Cond) ∈ TG := tg_2 (i := 167) (by decide +kernel) rfl
theorem kw408 : (Cond.code ⟨"CarrierPathsLaw", "cell", "([II)I"⟩ method_2_code 2 (some .int) : Cond) ∈ TG := tg_2 (i := 168) (by decide +kernel) rfl
theorem kw749 : (Cond.classLink "CarrierPathsLaw" 58 "CarrierPathsModel" : Cond) ∈ TG := tg_4 (i := 29) (by decide +kernel) rfl
theorem kw750 : (Cond.instantiable "CarrierPathsModel" 27 : Cond) ∈ TG := tg_4 (i := 30) (by decide +kernel) rfl
theorem kw751 : (Cond.methodLink "CarrierPathsLaw" 60 ⟨"CarrierPathsModel", "<init>", "(I)V"⟩ : Cond) ∈ TG := tg_4 (i := 31) (by decide +kernel) rfl
theorem kw752 : (Cond.instanceMethod ⟨"CarrierPathsModel", "<init>", "(I)V"⟩ : Cond) ∈ TG := tg_4 (i := 32) (by decide +kernel) rfl
theorem kw753 : (Cond.code ⟨"CarrierPathsModel", "<init>", "(I)V"⟩ prog_9_method_1_code 3 none : Cond) ∈ TG := tg_4 (i := 33) (by decide +kernel) rfl
theorem kw967 : (Cond.arrayClass .long : Cond) ∈ TG := tg_5 (i := 7) (by decide +kernel) rfl
theorem ka_of {args : Array Value} {s : State} {ty : FieldType} (hp : ∀ C, ty ≠ .object C) (h : (Cond.arrayClass ty).before args s = true) : ∃ cA : ClassId, ArrOfT s cA ty ∧ va_RA s cA ty := by
  obtain ⟨cA, k, comp, h1, h2, h3⟩ := Cond.arrayClass_spec h
  refine ⟨cA, fun n z => ⟨fun k h => (by cases h), k, h2, comp, h3⟩, ?_⟩
  cases ty with
  | object C => exact absurd rfl (hp C)
  | _ => exact h1
theorem ca_J {D : va_G} {cl : List vw_C} {cI cZ cJ cA : ClassId} {s : State} (h : va_K D cl (tysL cI cZ cJ ++ [(cA, .long)]) s) : cJ = cA := Option.some.inj ((h.2 2 _ rfl).2.symm.trans (h.2 3 _ rfl).2)
theorem xk_s {b : Nat} {s : State} (hts0 : ∀ w ∈ lw_tbl, w.before #[Value.ref b] s = true) {c0 : ClassId} (hc0 : s.vm.findClass "CarrierPaths" = some c0) {k : Nat} {tx : String} (hm : Cond.stringRef "CarrierPaths" k tx ∈ lw_tbl) : ∃ a : Nat, vk_R "CarrierPaths" k tx a s := by
  have h1 := hts0 _ hm
  have h2 : (Cond.stringRef "CarrierPaths" k tx).before #[] s = true := h1
  obtain ⟨_, _, _, a, _, _, _, _, _, hev⟩ := Cond.stringRef_spec hc0 h2
  exact ⟨a, h2, hev⟩
set_option maxRecDepth 100000 in
theorem xs_in : ∀ q ∈ xS, Cond.stringRef "CarrierPaths" q.1 q.2 ∈ lw_tbl := by decide +kernel
set_option maxRecDepth 100000 in
theorem xw_in : ∀ w ∈ XW, w ∈ lw_tbl ∨ w = .isRef (.static Bundle.tN "UNASSIGNED_STACK" Bundle.steD) ∨ w = .isRef (.static Bundle.tN "SUPPRESSED_SENTINEL" Bundle.listD) := by decide +kernel
set_option maxRecDepth 100000 in
theorem xh_of {b : Nat} {s : State} (hts0 : ∀ w ∈ lw_tbl, w.before #[Value.ref b] s = true) (hgv : (Jvm.Cond.and given_1 narrow_1).before #[Value.ref b] s = true) {c0 : ClassId} (hc0 : s.vm.findClass "CarrierPaths" = some c0) : xTh s ∧ va_Nc "java/lang/IllegalStateException" "java/lang/IllegalArgumentException" s := by
  have hs := flat_of_before _ hgv
  have r1 : (Cond.isRef (.static Bundle.tN "UNASSIGNED_STACK" Bundle.steD)).before #[Value.ref b] s = true := hs _ (by decide +kernel)
  have r2 : (Cond.isRef (.static Bundle.tN "SUPPRESSED_SENTINEL" Bundle.listD)).before #[Value.ref b] s = true := hs _ (by decide +kernel)
  have r3 : (Cond.not (.castable "java/lang/IllegalStateException" "java/lang/IllegalArgumentException")).before #[Value.ref b] s = true := hs _ (by decide +kernel)
  refine ⟨⟨fun w hw a => xw_same rfl rfl w hw #[Value.ref b] a ?_, fun q hq => xk_s hts0 hc0 (xs_in q hq)⟩, va_Nc.of r3⟩
  rcases xw_in w hw with h | h | h
  · exact hts0 w h
  · rw [h]; exact r1
  · rw [h]; exact r2
theorem cell_pre {b L : Nat} {xs : Nat → Int32} {s : State} {H : Heap} {A : Nat → Prop} {locs : List Loc} {As : List Value} (hX : va_X b L xs s s.heap) (hbl : b < s.heap.size) (hbA : ¬ A b) (hS : va_S A s.heap H locs) : PreS s H (va_Pc As (fun U => va_X b L xs U U.heap)) As :=
  ⟨fun a U g mk q => ⟨q.1, va_X.moved (u := U) (U := U.calling g mk a) (Vm.Alike.refl U.vm) q.2⟩, fun U hU hW => ⟨rfl, va_X.moved hW.alike (hX.kept (by rw [hU]; exact hS.2.1 b hbl hbA))⟩⟩
theorem sub_l {sz q : Nat} {H0 H : Heap} {locs : List Loc} {x : Nat} (hS : va_S (fun q : Nat => sz ≤ q) H0 H locs) (hq : sz ≤ q) (h : nA q H.size x) (e : sz = H0.size := by rfl) : sz ≤ x := by
  rcases h with h | h
  · rw [h]; exact hq
  · rw [e]; exact Nat.le_trans hS.1 h
set_option maxHeartbeats 4000000 in
set_option maxRecDepth 100000 in
/-- THE LAW, from its entry, over a relation that its start gives and every call keeps -/
theorem whole_of {p : Program} {e : Env} {s : State} {m : MethodId} {below : List Frame} {meth : Method} {c : Code} (l : Launch) (hst : l.stackTraces = false) {b L : Nat} {xs : Nat → Int32} (hL : L ≤ 2049) (C0 : lw_At p s m meth c b L xs) {R : SG → Sg → Prop} (hR : lAll R) (hI : ∀ v : Int32, q_Face_init v (fun σ => q_Model_init v (fun μ => R σ μ))) : W p l e room_1 s m #[Value.ref b] below meth c s.heap [] 0 0 (lw_Z below #[Value.ref b] s) (entryFrame m ([Value.ref b] : List Value).toArray 7) := by
  obtain ⟨hx, hb, hr, hml, hown, hts0, hX, hbl, hlocks, hgv⟩ := id C0
  have hts : ∀ w ∈ TG, w.before #[Value.ref b] s = true := fun w hw => hts0 w (List.mem_filter.mp hw).1
  have hA : ∀ q : Nat, s.heap.size ≤ q → (fun q : Nat => s.heap.size ≤ q) q := fun _ h => h
  have hbA : ¬ (fun q : Nat => s.heap.size ≤ q) b := Nat.not_le.mpr hbl
  obtain ⟨c0, i0, hn0⟩ := u_known (C := "CarrierPaths$Choice") (T := F_Choice) (N := 6) (n := 6) hts in_Choice (hts _ kw148)
  obtain ⟨c1, i1, hn1⟩ := u_known (C := "CarrierPaths$Fleet") (T := F_Fleet) (N := 8) (n := 8) hts in_Fleet (hts _ kw95)
  obtain ⟨c2, i2, hn2⟩ := u_known (C := "CarrierPaths$Jobs") (T := F_Jobs) (N := 5) (n := 5) hts in_Jobs (hts _ kw126)
  obtain ⟨c3, i3, hn3⟩ := u_known (C := "CarrierPaths$Points") (T := F_Points) (N := 3) (n := 3) hts in_Points (hts _ kw31)
  obtain ⟨c4, i4, hn4⟩ := u_known (C := "CarrierPaths$Rings") (T := F_Rings) (N := 2) (n := 2) hts in_Rings (hts _ kw82)
  obtain ⟨c5, i5, hn5⟩ := u_known (C := "CarrierPaths$Roads") (T := F_Roads) (N := 7) (n := 7) hts in_Roads (hts _ kw49)
  obtain ⟨c6, i6, hn6⟩ := u_known (C := "CarrierPaths") (T := F_Face) (N := 7) (n := 7) hts in_Face (hts _ kw17)
  obtain ⟨c7, i7, hn7⟩ := u_known (C := "CarrierPathsModel") (T := F_Model) (N := 27) (n := 27) hts in_Model (hts _ kw750)
  obtain ⟨D, hKc⟩ : ∃ D : va_G, ∀ (k : Nat) (q : vw_C), classes[k]? = some q → u_Kn s q.1 q.2.1 q.2.2 (D.1 k) (D.2 k) := by
    refine ⟨(fun k => if k = 0 then c0 else if k = 1 then c1 else if k = 2 then c2 else if k = 3 then c3 else if k = 4 then c4 else if k = 5 then c5 else if k = 6 then c6 else c7, fun k => if k = 0 then i0 else if k = 1 then i1 else if k = 2 then i2 else if k = 3 then i3 else if k = 4 then i4 else if k = 5 then i5 else if k = 6 then i6 else i7), ?_⟩
    intro k q hq
    match k, hq with
    | 0, hq => cases hq; exact hn0
    | 1, hq => cases hq; exact hn1
    | 2, hq => cases hq; exact hn2
    | 3, hq => cases hq; exact hn3
    | 4, hq => cases hq; exact hn4
    | 5, hq => cases hq; exact hn5
    | 6, hq => cases hq; exact hn6
    | 7, hq => cases hq; exact hn7
    | k + 8, hq => simp [classes] at hq
  obtain ⟨cI, hAcI⟩ := ka_of (ty := .int) (fun _ h => nomatch h) (hts _ kw46)
  obtain ⟨cZ, hAcZ⟩ := ka_of (ty := .boolean) (fun _ h => nomatch h) (hts _ kw47)
  obtain ⟨cJ, hAcJ⟩ := ka_of (ty := .long) (fun _ h => nomatch h) (hts _ kw967)
  have hK : va_K D classes (tysL cI cZ cJ) s := by
    refine ⟨hKc, fun k q hq => ?_⟩
    match k, hq with
    | 0, hq => cases hq; exact hAcI
    | 1, hq => cases hq; exact hAcZ
    | 2, hq => cases hq; exact hAcJ
    | k + 3, hq => simp [tysL] at hq
  have hKa := hK.sub (tys' := tysA cI cZ) [0, 1] rfl
  obtain ⟨cP, hcP⟩ : ∃ cP, s.vm.findClass "CarrierPaths" = some cP := by obtain ⟨c9, _, h9, _⟩ := Cond.instantiable_spec (hts _ kw17); exact ⟨c9, h9⟩
  obtain ⟨hth, hnc⟩ := xh_of hts0 hgv hcP
  have hS : va_S (fun q : Nat => s.heap.size ≤ q) s.heap s.heap [] := va_S.rf
  have hP : va_P D classes [] s.heap := fun k q h => by simp at h
  have hD : va_D (fun q : Nat => s.heap.size ≤ q) [] := ⟨fun i j p q h => by simp at h, fun k q h => by simp at h⟩
  have hl := lv_entry ([.ref b]) (n := 7) (Nat.le_of_ble_eq_true rfl)
  rw [lg_entry_eq]
  generalize (lg_sl ([.ref b]) ++ List.replicate (7 - (lg_sl ([.ref b])).length) Slot.unset).toArray = ls at hl ⊢
  have hl : lv_has ls 7 [(0, .ref b)] := hl
  refine va_new (ci := 6) (fs := [.null, .null, .null, .null, .null, .null, .int 0]) (C := "CarrierPaths") (T := F_Face) (N := 7) hx hb hts in_Face ty_Face ty_Face_ok hown (hts _ kw16) (hts _ kw17) (hts _ kw1) hK hP hD hS hA rfl (fun j hj => by rcases (show j = 0 ∨ j = 1 ∨ j = 2 ∨ j = 3 ∨ j = 4 ∨ j = 5 ∨ j = 6 by omega) with rfl | rfl | rfl | rfl | rfl | rfl | rfl <;> rfl) (Nat.le_of_ble_eq_true rfl) (Nat.le_of_ble_eq_true rfl) d_Law_law_0 (fun q1 H hP hD hS => ?_)
  refine lv_dup hx hb d_Law_law_3 rfl ?_
  refine lv_aload_n hx hb d_Law_law_4 rfl (lv_at hl 0 rfl) ?_
  refine lv_iconst (v := 0) hx hb d_Law_law_5 (by decide) ?_
  refine vp_callSi (W.runS (As := [.ref b, .int 0]) (rest := [.ref q1, .ref q1]) ⟨hx, hb, hml, hown, hts⟩ (t_Law_cell l b L xs hL) (va_cwS 2 hts (gS_of kw406 kw407 kw0 kw408) rfl rfl rfl (by decide +kernel) ⟨Nat.le_of_ble_eq_true rfl, Nat.le_of_ble_eq_true rfl⟩) (cell_pre hX hbl hbA hS) rfl rfl hl.1 rfl (lv_room (Nat.le_of_ble_eq_true rfl)) d_Law_law_6 ⟨Nat.le_of_ble_eq_true rfl, Nat.le_of_ble_eq_true rfl⟩) (fun rc erc => ?_)
  subst erc
  have hPc : va_P D classes [(q1, .inr (6, [.null, .null, .null, .null, .null, .null, .int 0]))] H := hP.sub [0] rfl
  have hqA : s.heap.size ≤ q1 := hD.2 0 _ rfl
  have h := hI (cellv L xs)
  refine va_callv (va_runI (As := [.int (cellv L xs)]) (rest := [.ref q1]) ⟨hx, hb, hml, hown, hts⟩ (t_Face_init l D cI cZ q1 H.size (cellv L xs) _ h) (cwI 1 hts (gI_of kw20) rfl rfl rfl (hts _ kw1) (hts _ kw18) (hts _ kw19) rfl (by decide +kernel) ⟨Nat.le_of_ble_eq_true rfl, Nat.le_of_ble_eq_true rfl⟩) (nb_pre hKa hPc) rfl rfl hl.1 rfl (lv_room (Nat.le_of_ble_eq_true rfl)) d_Law_law_9 ⟨Nat.le_of_ble_eq_true rfl, Nat.le_of_ble_eq_true rfl⟩) hS (fun _ _ h => sub_l hS hqA h) (fun _ h => sub_l hS hqA h) (fun σ t H1 locs ht _ h hB hz1 hk1 hS1 => ?_)
  obtain ⟨ad, had, injF, hnew, hP1⟩ := hB
  have hP1 : va_P D classes (W_Face ad cI cZ σ) H1 := hp_fwd ht hP1
  obtain ⟨hP2, hD2⟩ := nj_of (ws := []) hP hD (fun x hx9 => Nat.le_trans hS.1 hx9) hk1 hP1 (DC_of injF (nmem_of had hnew) rfl)
  clear hP hD
  have hP : va_P D classes (W_Face ad cI cZ σ) H1 := hP2
  have hD : va_D (fun q : Nat => s.heap.size ≤ q) (W_Face ad cI cZ σ) := hD2
  clear hP2 hD2
  clear hk1 hnew hPc ht hP1 hz1 hqA
  have hS := hS1
  clear hS1
  generalize H1 = H at hP hS ⊢
  subst had
  refine lv_astore_n (lv' := [(1, .ref (ad 0 0)), (0, .ref b)]) hx hb d_Law_law_12 rfl hl (by decide) rfl (fun ls hl => ?_)
  refine va_new (ci := 7) (fs := [.int 0, .int 0, .null, .null, .int 0, .null, .null, .null, .null, .int 0, .null, .int 0, .null, .null, .null, .null, .null, .null, .null, .int 0, .null, .null, .null, .null, .int 0, .null, .null]) (C := "CarrierPathsModel") (T := F_Model) (N := 27) hx hb hts in_Model ty_Model ty_Model_ok hown (hts _ kw749) (hts _ kw750) (hts _ kw9) hK hP hD hS hA rfl (fun j hj => by rcases (show j = 0 ∨ j = 1 ∨ j = 2 ∨ j = 3 ∨ j = 4 ∨ j = 5 ∨ j = 6 ∨ j = 7 ∨ j = 8 ∨ j = 9 ∨ j = 10 ∨ j = 11 ∨ j = 12 ∨ j = 13 ∨ j = 14 ∨ j = 15 ∨ j = 16 ∨ j = 17 ∨ j = 18 ∨ j = 19 ∨ j = 20 ∨ j = 21 ∨ j = 22 ∨ j = 23 ∨ j = 24 ∨ j = 25 ∨ j = 26 by omega) with rfl | rfl | rfl | rfl | rfl | rfl | rfl | rfl | rfl | rfl | rfl | rfl | rfl | rfl | rfl | rfl | rfl | rfl | rfl | rfl | rfl | rfl | rfl | rfl | rfl | rfl | rfl <;> rfl) (Nat.le_of_ble_eq_true rfl) (Nat.le_of_ble_eq_true rfl) d_Law_law_13 (fun q2 H hP hD hS => ?_)
  refine lv_dup hx hb d_Law_law_16 rfl ?_
  refine lv_aload_n hx hb d_Law_law_17 rfl (lv_at hl 1 rfl) ?_
  refine lv_iconst (v := 0) hx hb d_Law_law_18 (by decide) ?_
  refine vp_callSi (W.runS (As := [.ref b, .int 0]) (rest := [.ref q2, .ref q2]) ⟨hx, hb, hml, hown, hts⟩ (t_Law_cell l b L xs hL) (va_cwS 2 hts (gS_of kw406 kw407 kw0 kw408) rfl rfl rfl (by decide +kernel) ⟨Nat.le_of_ble_eq_true rfl, Nat.le_of_ble_eq_true rfl⟩) (cell_pre hX hbl hbA hS) rfl rfl hl.1 rfl (lv_room (Nat.le_of_ble_eq_true rfl)) d_Law_law_19 ⟨Nat.le_of_ble_eq_true rfl, Nat.le_of_ble_eq_true rfl⟩) (fun rc erc => ?_)
  subst erc
  have hPc : va_P D classes [(q2, .inr (7, [.int 0, .int 0, .null, .null, .int 0, .null, .null, .null, .null, .int 0, .null, .int 0, .null, .null, .null, .null, .null, .null, .null, .int 0, .null, .null, .null, .null, .int 0, .null, .null]))] H := hP.sub [29] rfl
  have hqA : s.heap.size ≤ q2 := hD.2 29 _ rfl
  refine va_callv (va_runI (As := [.int (cellv L xs)]) (rest := [.ref q2]) ⟨hx, hb, hml, hown, hts⟩ (t_Model_init l D cI cZ q2 H.size (cellv L xs) _ h) (cwI 1 hts (gI_of kw753) rfl rfl rfl (hts _ kw9) (hts _ kw751) (hts _ kw752) rfl (by decide +kernel) ⟨Nat.le_of_ble_eq_true rfl, Nat.le_of_ble_eq_true rfl⟩) (nb_pre hKa hPc) rfl rfl hl.1 rfl (lv_room (Nat.le_of_ble_eq_true rfl)) d_Law_law_22 ⟨Nat.le_of_ble_eq_true rfl, Nat.le_of_ble_eq_true rfl⟩) hS (fun _ _ h => sub_l hS hqA h) (fun _ h => sub_l hS hqA h) (fun μ t H1 locs ht _ h hB hz1 hk1 hS1 => ?_)
  obtain ⟨am, had, injM, hnew, hP1⟩ := hB
  have hP1 : va_P D classes (W_Model am cI cZ μ) H1 := hp_fwd ht hP1
  obtain ⟨hP2, hD2⟩ := nj_of (ws := W_Face ad cI cZ σ) hP hD (fun x hx9 => Nat.le_trans hS.1 hx9) hk1 hP1 (DC_of injM (nmem_of had hnew) rfl)
  clear hP hD
  have hP := hP2
  have hD := hD2
  clear hP2 hD2
  clear hk1 hnew hPc ht hP1 hz1 hqA
  have hS := hS1
  clear hS1
  generalize H1 = H at hP hS ⊢
  subst had
  refine lv_astore_n (lv' := [(2, .ref (am 0)), (1, .ref (ad 0 0)), (0, .ref b)]) hx hb d_Law_law_25 rfl hl (by decide) rfl (fun ls hl => ?_)
  refine lv_iconst (v := 1) hx hb d_Law_law_26 (by decide) ?_
  refine va_newa (atype := .long) (ty := .long) (N' := 1) (a0 := (1, .inr (.inl (fun _ => 0)))) hx hb (hts _ kw967) rfl hK hP hD hS hA (fun _ => rfl) (by decide) (by decide) (by decide) (Nat.le_of_ble_eq_true rfl) (Nat.le_of_ble_eq_true rfl) d_Law_law_27 (fun oa cA H hK hP hD hS => ?_)
  have eA := ca_J hK
  subst eA
  have hK := hK.sub (tys' := tysL cI cZ cJ) [0, 1, 2] rfl
  have hP : va_P D classes (W_L ad am oa cI cZ cJ σ μ (fun _ => 0)) H := hP
  have hD : va_D (fun q : Nat => s.heap.size ≤ q) (W_L ad am oa cI cZ cJ σ μ (fun _ => 0)) := hD
  have E0 : lE D cI cZ cJ ad am oa s := ⟨hK, inj_ofD hD rfl, mem_ofD hD rfl, hth, hnc⟩
  refine lv_astore_n (lv' := [(3, .ref oa), (2, .ref (am 0)), (1, .ref (ad 0 0)), (0, .ref b)]) hx hb d_Law_law_29 rfl hl (by decide) rfl (fun ls hl => ?_)
  refine lv_iconst (v := 1) hx hb d_Law_law_30 (by decide) ?_
  refine lv_istore (lv' := [(4, .int 1), (3, .ref oa), (2, .ref (am 0)), (1, .ref (ad 0 0)), (0, .ref b)]) hx hb d_Law_law_31 hl (by decide) rfl (fun ls hl => ?_)
  refine W.widen (k := 51 + 0) (n := 2392 + 6 * 0) (by decide) (by decide) ?_
  exact law_loop hst hL C0 E0 hR (L + 4) 0 σ μ (fun _ => 0) _ _ ls (by omega) (by omega) h hP hS (lv_sub hl [4, 3, 2, 1, 0] rfl)
