/-! THE LAW'S CASES: what a call of each must do, and the walk of its case -/
section LS
variable {p : Program} {l : Launch} {e : Env} {R : Room} {s : State} {m : MethodId} {args : Array Value} {below : List Frame} {meth : Method} {c : Code} {H H0 : Heap} {locs : List Loc} {cells slots : Nat} {Q : State → Prop} {A : Nat → Prop}
theorem l_sld {cc : ByteArray} {pc : Nat} {ls : Array Slot} {rest : List Value} (hexec : p.tables.exec = Jvm.exec) (hb : c.code = cc) {b L : Nat} {xs : Nat → Int32} (hX : va_X b L xs s H0) (hbl : b < H0.size) (hbA : ¬ A b) (hS : va_S A H0 H locs) {y : Int32} {k : Nat} (hy : y = nI k) (hk : k < L) (hL : L ≤ 2049) (hdg : decode cc pc = .ok (.iaload, 1))
    (kk : W p l e R s m args below meth c H locs cells slots Q (F0 m (pc + 1) ls (.int (xs k) :: rest))) : W p l e R s m args below meth c H locs cells slots Q (F0 m pc ls (.int y :: .ref b :: rest)) := by
  subst hy
  refine va_sld hexec hb hX hbl hbA hS (vp_in_nI hk (by omega)) hdg ?_
  rw [nI_clamp (by omega)]
  exact kk
end LS
/-- the loop's foot, from every state that R allows -/
def lK (p : Program) (l : Launch) (e : Env) (s : State) (m : MethodId) (below : List Frame) (meth : Method) (c : Code) (b : Nat) (D : va_G) (ad : Nat → Nat → Nat) (am : Nat → Nat) (oa : Nat) (cI cZ cJ : ClassId) (cells slots : Nat) (x4 : Int32) (R : SG → Sg → Prop) : Prop :=
  ∀ (σ : SG) (μ : Sg) (f : Nat → Int64) (H : Heap) (locs : List Loc) (ls : Array Slot), R σ μ → va_P D classes (W_L ad am oa cI cZ cJ σ μ f) H → va_S (fun q : Nat => s.heap.size ≤ q) s.heap H locs → lv_has ls 7 [(0, .ref b), (1, .ref (ad 0 0)), (2, .ref (am 0)), (3, .ref oa), (4, .int x4)] → W p l e room_1 s m #[Value.ref b] below meth c H locs (cells + 1) (slots + 6) (lw_Z below #[Value.ref b] s) (F0 m 968 ls [])
theorem gW_of {own : String} {idx : Nat} {y : MethodName} {b : ByteArray} {n : Nat} {r : Option FieldType} {hh : List (Nat × Nat × Nat × Nat)} (h1 : Cond.methodLink own idx y ∈ TG) (h2 : Cond.static y ∈ TG) (h4 : Cond.initialized y.cls ∈ TG) (h5 : Cond.codeWith y b n r hh ∈ TG) : GoodIn TG (va_wsS own idx y (Cond.codeWith y b n r hh :: TG)) := by
  intro w hw
  unfold va_wsS at hw
  rcases List.mem_append.mp hw with hw | hw
  · simp only [List.mem_cons, List.not_mem_nil, or_false] at hw
    rcases hw with rfl | rfl | rfl
    · exact tg_good h1
    · exact tg_good h2
    · exact tg_good h4
  · rcases List.mem_cons.mp hw with rfl | hw
    · exact tg_good h5
    · exact tg_good hw
theorem l_pre {D : va_G} {cI cZ cJ : ClassId} {ad : Nat → Nat → Nat} {am : Nat → Nat} {oa : Nat} {s : State} {H : Heap} {locs : List Loc} {σ : SG} {μ : Sg} {f : Nat → Int64} {As : List Value} (E : lE D cI cZ cJ ad am oa s) (hS : va_S (fun q : Nat => s.heap.size ≤ q) s.heap H locs) (hP : va_P D classes (W_L ad am oa cI cZ cJ σ μ f) H) : PreS s H (va_Pc As (lB D (tysL cI cZ cJ) (W_X2 ad cI cZ σ oa cJ f))) As :=
  ⟨l_blind, fun U hU hW => ⟨rfl, by rw [hU]; exact l_X hP, va_K.moved hW.alike E.1, xTh.later hW (fun q hq => by rw [hU]; exact hS.2.1 q hq (Nat.not_le.mpr hq)) E.2.2.2.1, va_Nc.moved hW.alike E.2.2.2.2⟩⟩

def ls_piece (a1 a2 a3 : Int32) (σ : SG) (μ : Sg) (R : SG → Sg → Prop) : Prop := ∀ f : Nat → Int64, q_Law_piece a1 a2 a3 σ f (fun k u g => q_Model_piece a1 a2 a3 μ (fun r v => q_Model_thrown v (fun t => t = k ∧ (k = 0 → g 0 = r.toInt64) ∧ R u v)))
set_option maxHeartbeats 4000000 in
set_option maxRecDepth 100000 in
theorem lc_piece {p : Program} {l : Launch} {e : Env} {s : State} {m : MethodId} {below : List Frame} {meth : Method} {c : Code} {b L : Nat} {xs : Nat → Int32} (hst : l.stackTraces = false) (C0 : lw_At p s m meth c b L xs) {D : va_G} {cI cZ cJ : ClassId} {ad : Nat → Nat → Nat} {am : Nat → Nat} {oa : Nat} (E0 : lE D cI cZ cJ ad am oa s) {cells slots : Nat} (hcl : cells + 1 ≤ 1094) (hsl : slots + 6 ≤ 10698) {R : SG → Sg → Prop} {x4 : Int32} {i : Nat} (ex : x4 = nI i) (hi : i + 4 ≤ L) (hL : L ≤ 2049) (kk : lK p l e s m below meth c b D ad am oa cI cZ cJ cells slots x4 R) {σ : SG} {μ : Sg} {f : Nat → Int64} {H : Heap} {locs : List Loc} {ls : Array Slot} (hP : va_P D classes (W_L ad am oa cI cZ cJ σ μ f) H) (hS : va_S (fun q : Nat => s.heap.size ≤ q) s.heap H locs) (hl : lv_has ls 7 [(0, .ref b), (1, .ref (ad 0 0)), (2, .ref (am 0)), (3, .ref oa), (4, .int x4)]) (h : ls_piece (xs (i + 1)) (xs (i + 2)) (xs (i + 3)) σ μ R) : W p l e room_1 s m #[Value.ref b] below meth c H locs cells slots (lw_Z below #[Value.ref b] s) (F0 m 124 ls []) := by
  obtain ⟨hx, hb, hr, hml, hown, hts0, hX, hbl, hlocks, hgv⟩ := C0
  have hts : ∀ w ∈ TG, w.before #[Value.ref b] s = true := fun w hw => hts0 w (List.mem_filter.mp hw).1
  have hbA : ¬ (fun q : Nat => s.heap.size ≤ q) b := Nat.not_le.mpr hbl
  have hKa := E0.1.sub (tys' := tysA cI cZ) [0, 1] rfl
  unfold ls_piece at h
  refine lv_aload_n hx hb d_Law_law_124 rfl (lv_at hl 1 rfl) ?_
  refine lv_aload_n hx hb d_Law_law_125 rfl (lv_at hl 0 rfl) ?_
  refine lv_iload hx hb d_Law_law_126 (lv_at hl 4 rfl) ?_
  refine lv_iconst (v := 1) hx hb d_Law_law_128 (by decide) ?_
  refine lv_iadd hx hb d_Law_law_129 ?_
  refine l_sld hx hb hX hbl hbA hS (k := i + 1) (by rw [ex]; exact nI_add i 1) (by omega) hL d_Law_law_130 ?_
  refine lv_aload_n hx hb d_Law_law_131 rfl (lv_at hl 0 rfl) ?_
  refine lv_iload hx hb d_Law_law_132 (lv_at hl 4 rfl) ?_
  refine lv_iconst (v := 2) hx hb d_Law_law_134 (by decide) ?_
  refine lv_iadd hx hb d_Law_law_135 ?_
  refine l_sld hx hb hX hbl hbA hS (k := i + 2) (by rw [ex]; exact nI_add i 2) (by omega) hL d_Law_law_136 ?_
  refine lv_aload_n hx hb d_Law_law_137 rfl (lv_at hl 0 rfl) ?_
  refine lv_iload hx hb d_Law_law_138 (lv_at hl 4 rfl) ?_
  refine lv_iconst (v := 3) hx hb d_Law_law_140 (by decide) ?_
  refine lv_iadd hx hb d_Law_law_141 ?_
  refine l_sld hx hb hX hbl hbA hS (k := i + 3) (by rw [ex]; exact nI_add i 3) (by omega) hL d_Law_law_142 ?_
  refine lv_aload_n hx hb d_Law_law_143 rfl (lv_at hl 3 rfl) ?_
  have h := h f
  refine va_calli (ws_run (As := [.ref (ad 0 0), .int (xs (i + 1)), .int (xs (i + 2)), .int (xs (i + 3)), .ref oa]) (rest := []) ⟨hx, hb, hml, hown, hts⟩ (t_Law_piece l hst D cI cZ cJ ad E0.iF oa E0.no (xs (i + 1)) (xs (i + 2)) (xs (i + 3)) σ f _ h) (gW_of kw409 kw410 kw0 kw411) rfl rfl rfl (n := 5) (by decide +kernel) ⟨Nat.le_of_ble_eq_true rfl, Nat.le_of_ble_eq_true rfl⟩ (l_pre E0 hS hP) rfl rfl hl.1 rfl (lv_room (Nat.le_of_ble_eq_true rfl)) d_Law_law_144 ⟨by show cells + 1 ≤ 1094; omega, by show slots + 6 ≤ 10698; omega⟩) hS (fun _ _ h => E0.sX h) (fun _ h => E0.sX h) (fun k1 u1 t H1 locs ht _ h hP1 _ hk1 hS => ?_)
  obtain ⟨u, g⟩ := u1
  have hP := jL_X E0 hP (hp_fwd ht hP1) hk1
  clear hk1 hP1 ht
  generalize H1 = H at hP hS ⊢
  refine lv_istore (lv' := [(5, .int k1), (0, .ref b), (1, .ref (ad 0 0)), (2, .ref (am 0)), (3, .ref oa), (4, .int x4)]) hx hb d_Law_law_147 hl (by decide) rfl (fun ls hl => ?_)
  refine lv_aload_n hx hb d_Law_law_149 rfl (lv_at hl 3 rfl) ?_
  refine lv_aload_n hx hb d_Law_law_150 rfl (lv_at hl 1 rfl) ?_
  refine lv_iload hx hb d_Law_law_151 (lv_at hl 5 rfl) ?_
  refine lv_iconst (v := 1) hx hb d_Law_law_153 (by decide) ?_
  refine lv_iadd hx hb d_Law_law_154 ?_
  refine l_sld hx hb hX hbl hbA hS (k := i + 1) (by rw [ex]; exact nI_add i 1) (by omega) hL d_Law_law_155 ?_
  refine lv_aload_n hx hb d_Law_law_156 rfl (lv_at hl 1 rfl) ?_
  refine lv_iload hx hb d_Law_law_157 (lv_at hl 5 rfl) ?_
  refine lv_iconst (v := 2) hx hb d_Law_law_159 (by decide) ?_
  refine lv_iadd hx hb d_Law_law_160 ?_
  refine l_sld hx hb hX hbl hbA hS (k := i + 2) (by rw [ex]; exact nI_add i 2) (by omega) hL d_Law_law_161 ?_
  refine lv_aload_n hx hb d_Law_law_162 rfl (lv_at hl 1 rfl) ?_
  refine lv_iload hx hb d_Law_law_163 (lv_at hl 5 rfl) ?_
  refine lv_iconst (v := 3) hx hb d_Law_law_165 (by decide) ?_
  refine lv_iadd hx hb d_Law_law_166 ?_
  refine l_sld hx hb hX hbl hbA hS (k := i + 3) (by rw [ex]; exact nI_add i 3) (by omega) hL d_Law_law_167 ?_
  refine va_calli (va_runV (As := [.int (xs (i + 1)), .int (xs (i + 2)), .int (xs (i + 3))]) (rest := []) ⟨hx, hb, hml, hown, hts⟩ (t_Model_piece l D cI cZ am E0.iM (xs (i + 1)) (xs (i + 2)) (xs (i + 3)) μ _ h) (cwV 3 hts (g_of kw865 kw866 kw867 kw9 kw868) rfl rfl rfl (by decide +kernel) ⟨Nat.le_of_ble_eq_true rfl, Nat.le_of_ble_eq_true rfl⟩) (ro_pre hKa (l_M hP) (va_recv hKa (l_M hP) (ci := 7) (q0 := 0) rfl rfl)) rfl rfl hl.1 rfl (lv_room (Nat.le_of_ble_eq_true rfl)) d_Law_law_168 ⟨by show cells + 1 + 0 ≤ 1094; omega, by show slots + 6 + 0 ≤ 10698; omega⟩) hS (fun _ _ h => E0.sM h) (fun _ h => E0.sM h) (fun r v t H1 locs ht _ h hP1 _ hk1 hS => ?_)
  have hP := jL_M E0 hP (hp_fwd ht hP1) hk1
  clear hk1 hP1 ht
  generalize H1 = H at hP hS ⊢
  refine lv_istore (lv' := [(6, .int r), (5, .int k1), (0, .ref b), (1, .ref (ad 0 0)), (2, .ref (am 0)), (3, .ref oa), (4, .int x4)]) hx hb d_Law_law_171 hl (by decide) rfl (fun ls hl => ?_)
  refine lv_aload_n hx hb d_Law_law_173 rfl (lv_at hl 4 rfl) ?_
  refine vp_callSi (W.runV (As := []) (rest := []) ⟨hx, hb, hml, hown, hts⟩ (t_Model_thrown l D cI cZ am v _ h) (cwV 0 hts (g_of kw837 kw838 kw839 kw9 kw840) rfl rfl rfl (by decide +kernel) ⟨Nat.le_of_ble_eq_true rfl, Nat.le_of_ble_eq_true rfl⟩) (ro_pre hKa (l_M hP) (va_recv hKa (l_M hP) (ci := 7) (q0 := 0) rfl rfl)) rfl rfl hl.1 rfl (lv_room (Nat.le_of_ble_eq_true rfl)) d_Law_law_174 ⟨by show cells + 1 + 0 ≤ 1094; omega, by show slots + 6 + 0 ≤ 10698; omega⟩) (fun t1 h => ?_)
  obtain ⟨ht1, hg0, hR⟩ := h
  refine lv_iload hx hb d_Law_law_177 (lv_at hl 1 rfl) ?_
  refine lv_icmp_eq (tgt := 184) hx hb d_Law_law_179 (by decide) (fun _ => ?_) (fun hc => absurd ht1 hc)
  refine lv_iload hx hb d_Law_law_184 (lv_at hl 1 rfl) ?_
  refine lv_if_ne (tgt := 201) hx hb d_Law_law_186 (by decide) (fun _ => ?_) (fun hc => ?_)
  · refine lv_goto (tgt := 968) hx hb d_Law_law_201 (by decide) ?_
    exact kk _ _ _ _ _ _ hR hP hS (lv_sub hl [2, 3, 4, 5, 6] rfl)
  · refine lv_aload_n hx hb d_Law_law_189 rfl (lv_at hl 5 rfl) ?_
    refine lv_iconst (v := 0) hx hb d_Law_law_190 (by decide) ?_
    refine va_lald hx hb E0.1 hP 50 2 rfl rfl (by unfold vp_in; decide) d_Law_law_191 ?_
    refine lv_iload hx hb d_Law_law_192 (lv_at hl 0 rfl) ?_
    refine lv_i2l (v := r.toInt64) hx hb d_Law_law_194 rfl ?_
    refine W.lcmp hx hb d_Law_law_195 ?_
    refine lv_if_eq (tgt := 201) hx hb d_Law_law_196 (by decide) (fun _ => ?_) (fun hc9 => absurd ((lg_cmp_eq _ _).mpr (hg0 hc)) hc9)
    refine lv_goto (tgt := 968) hx hb d_Law_law_201 (by decide) ?_
    exact kk _ _ _ _ _ _ hR hP hS (lv_sub hl [2, 3, 4, 5, 6] rfl)
def ls_places (a1 a2 : Int32) (σ : SG) (μ : Sg) (R : SG → Sg → Prop) : Prop := q_Face_places a1 a2 σ (fun r1 u => q_Model_places a1 a2 μ (fun r v => r1 = r ∧ R u v))
set_option maxHeartbeats 4000000 in
set_option maxRecDepth 100000 in
theorem lc_places {p : Program} {l : Launch} {e : Env} {s : State} {m : MethodId} {below : List Frame} {meth : Method} {c : Code} {b L : Nat} {xs : Nat → Int32} (hst : l.stackTraces = false) (C0 : lw_At p s m meth c b L xs) {D : va_G} {cI cZ cJ : ClassId} {ad : Nat → Nat → Nat} {am : Nat → Nat} {oa : Nat} (E0 : lE D cI cZ cJ ad am oa s) {cells slots : Nat} (hcl : cells + 1 ≤ 1094) (hsl : slots + 6 ≤ 10698) {R : SG → Sg → Prop} {x4 : Int32} {i : Nat} (ex : x4 = nI i) (hi : i + 4 ≤ L) (hL : L ≤ 2049) (kk : lK p l e s m below meth c b D ad am oa cI cZ cJ cells slots x4 R) {σ : SG} {μ : Sg} {f : Nat → Int64} {H : Heap} {locs : List Loc} {ls : Array Slot} (hP : va_P D classes (W_L ad am oa cI cZ cJ σ μ f) H) (hS : va_S (fun q : Nat => s.heap.size ≤ q) s.heap H locs) (hl : lv_has ls 7 [(0, .ref b), (1, .ref (ad 0 0)), (2, .ref (am 0)), (3, .ref oa), (4, .int x4)]) (h : ls_places (xs (i + 1)) (xs (i + 2)) σ μ R) : W p l e room_1 s m #[Value.ref b] below meth c H locs cells slots (lw_Z below #[Value.ref b] s) (F0 m 204 ls []) := by
  obtain ⟨hx, hb, hr, hml, hown, hts0, hX, hbl, hlocks, hgv⟩ := C0
  have hts : ∀ w ∈ TG, w.before #[Value.ref b] s = true := fun w hw => hts0 w (List.mem_filter.mp hw).1
  have hbA : ¬ (fun q : Nat => s.heap.size ≤ q) b := Nat.not_le.mpr hbl
  have hKa := E0.1.sub (tys' := tysA cI cZ) [0, 1] rfl
  unfold ls_places at h
  refine lv_aload_n hx hb d_Law_law_204 rfl (lv_at hl 1 rfl) ?_
  refine lv_aload_n hx hb d_Law_law_205 rfl (lv_at hl 0 rfl) ?_
  refine lv_iload hx hb d_Law_law_206 (lv_at hl 4 rfl) ?_
  refine lv_iconst (v := 1) hx hb d_Law_law_208 (by decide) ?_
  refine lv_iadd hx hb d_Law_law_209 ?_
  refine l_sld hx hb hX hbl hbA hS (k := i + 1) (by rw [ex]; exact nI_add i 1) (by omega) hL d_Law_law_210 ?_
  refine lv_aload_n hx hb d_Law_law_211 rfl (lv_at hl 0 rfl) ?_
  refine lv_iload hx hb d_Law_law_212 (lv_at hl 4 rfl) ?_
  refine lv_iconst (v := 2) hx hb d_Law_law_214 (by decide) ?_
  refine lv_iadd hx hb d_Law_law_215 ?_
  refine l_sld hx hb hX hbl hbA hS (k := i + 2) (by rw [ex]; exact nI_add i 2) (by omega) hL d_Law_law_216 ?_
  refine va_calli (va_runV (As := [.int (xs (i + 1)), .int (xs (i + 2))]) (rest := []) ⟨hx, hb, hml, hown, hts⟩ (t_Face_places l D cI cZ ad E0.iF (xs (i + 1)) (xs (i + 2)) σ _ h) (cwV 2 hts (g_of kw194 kw195 kw196 kw1 kw197) rfl rfl rfl (by decide +kernel) ⟨Nat.le_of_ble_eq_true rfl, Nat.le_of_ble_eq_true rfl⟩) (ro_pre hKa (l_F hP) (va_recv hKa (l_F hP) (ci := 6) (q0 := 0) rfl rfl)) rfl rfl hl.1 rfl (lv_room (Nat.le_of_ble_eq_true rfl)) d_Law_law_217 ⟨by show cells + 0 ≤ 1094; omega, by show slots + 0 ≤ 10698; omega⟩) hS (fun _ _ h => E0.sF h) (fun _ h => E0.sF h) (fun r1 u t H1 locs ht _ h hP1 _ hk1 hS => ?_)
  have hP := jL_F E0 hP (hp_fwd ht hP1) hk1
  clear hk1 hP1 ht
  generalize H1 = H at hP hS ⊢
  refine lv_aload_n hx hb d_Law_law_220 rfl (lv_at hl 2 rfl) ?_
  refine lv_aload_n hx hb d_Law_law_221 rfl (lv_at hl 0 rfl) ?_
  refine lv_iload hx hb d_Law_law_222 (lv_at hl 4 rfl) ?_
  refine lv_iconst (v := 1) hx hb d_Law_law_224 (by decide) ?_
  refine lv_iadd hx hb d_Law_law_225 ?_
  refine l_sld hx hb hX hbl hbA hS (k := i + 1) (by rw [ex]; exact nI_add i 1) (by omega) hL d_Law_law_226 ?_
  refine lv_aload_n hx hb d_Law_law_227 rfl (lv_at hl 0 rfl) ?_
  refine lv_iload hx hb d_Law_law_228 (lv_at hl 4 rfl) ?_
  refine lv_iconst (v := 2) hx hb d_Law_law_230 (by decide) ?_
  refine lv_iadd hx hb d_Law_law_231 ?_
  refine l_sld hx hb hX hbl hbA hS (k := i + 2) (by rw [ex]; exact nI_add i 2) (by omega) hL d_Law_law_232 ?_
  refine va_calli (va_runV (As := [.int (xs (i + 1)), .int (xs (i + 2))]) (rest := [.int r1]) ⟨hx, hb, hml, hown, hts⟩ (t_Model_places l D cI cZ am E0.iM (xs (i + 1)) (xs (i + 2)) μ _ h) (cwV 2 hts (g_of kw869 kw870 kw871 kw9 kw872) rfl rfl rfl (by decide +kernel) ⟨Nat.le_of_ble_eq_true rfl, Nat.le_of_ble_eq_true rfl⟩) (ro_pre hKa (l_M hP) (va_recv hKa (l_M hP) (ci := 7) (q0 := 0) rfl rfl)) rfl rfl hl.1 rfl (lv_room (Nat.le_of_ble_eq_true rfl)) d_Law_law_233 ⟨by show cells + 0 ≤ 1094; omega, by show slots + 0 ≤ 10698; omega⟩) hS (fun _ _ h => E0.sM h) (fun _ h => E0.sM h) (fun r v t H1 locs ht _ h hP1 _ hk1 hS => ?_)
  have hP := jL_M E0 hP (hp_fwd ht hP1) hk1
  clear hk1 hP1 ht
  generalize H1 = H at hP hS ⊢
  obtain ⟨hq, hR⟩ := h
  refine lv_icmp_eq (tgt := 968) hx hb d_Law_law_236 (by decide) (fun _ => ?_) (fun hc => absurd hq hc)
  refine W.widen (k := cells + 1) (n := slots + 6) (by omega) (by omega) ?_
  exact kk _ _ _ _ _ _ hR hP hS (lv_sub hl [0, 1, 2, 3, 4] rfl)
def ls_charger (a1 a2 : Int32) (σ : SG) (μ : Sg) (R : SG → Sg → Prop) : Prop := q_Face_charger a1 (if a2 = 0 then 0 else 1) σ (fun r1 u => q_Model_charger a1 (if a2 = 0 then 0 else 1) μ (fun r v => r1 = r ∧ R u v))
set_option maxHeartbeats 4000000 in
set_option maxRecDepth 100000 in
theorem lc_charger {p : Program} {l : Launch} {e : Env} {s : State} {m : MethodId} {below : List Frame} {meth : Method} {c : Code} {b L : Nat} {xs : Nat → Int32} (hst : l.stackTraces = false) (C0 : lw_At p s m meth c b L xs) {D : va_G} {cI cZ cJ : ClassId} {ad : Nat → Nat → Nat} {am : Nat → Nat} {oa : Nat} (E0 : lE D cI cZ cJ ad am oa s) {cells slots : Nat} (hcl : cells + 1 ≤ 1094) (hsl : slots + 6 ≤ 10698) {R : SG → Sg → Prop} {x4 : Int32} {i : Nat} (ex : x4 = nI i) (hi : i + 4 ≤ L) (hL : L ≤ 2049) (kk : lK p l e s m below meth c b D ad am oa cI cZ cJ cells slots x4 R) {σ : SG} {μ : Sg} {f : Nat → Int64} {H : Heap} {locs : List Loc} {ls : Array Slot} (hP : va_P D classes (W_L ad am oa cI cZ cJ σ μ f) H) (hS : va_S (fun q : Nat => s.heap.size ≤ q) s.heap H locs) (hl : lv_has ls 7 [(0, .ref b), (1, .ref (ad 0 0)), (2, .ref (am 0)), (3, .ref oa), (4, .int x4)]) (h : ls_charger (xs (i + 1)) (xs (i + 2)) σ μ R) : W p l e room_1 s m #[Value.ref b] below meth c H locs cells slots (lw_Z below #[Value.ref b] s) (F0 m 241 ls []) := by
  obtain ⟨hx, hb, hr, hml, hown, hts0, hX, hbl, hlocks, hgv⟩ := C0
  have hts : ∀ w ∈ TG, w.before #[Value.ref b] s = true := fun w hw => hts0 w (List.mem_filter.mp hw).1
  have hbA : ¬ (fun q : Nat => s.heap.size ≤ q) b := Nat.not_le.mpr hbl
  have hKa := E0.1.sub (tys' := tysA cI cZ) [0, 1] rfl
  unfold ls_charger at h
  by_cases hz : (xs (i + 2)) = 0
  · rw [if_pos hz] at h
    refine lv_aload_n hx hb d_Law_law_241 rfl (lv_at hl 1 rfl) ?_
    refine lv_aload_n hx hb d_Law_law_242 rfl (lv_at hl 0 rfl) ?_
    refine lv_iload hx hb d_Law_law_243 (lv_at hl 4 rfl) ?_
    refine lv_iconst (v := 1) hx hb d_Law_law_245 (by decide) ?_
    refine lv_iadd hx hb d_Law_law_246 ?_
    refine l_sld hx hb hX hbl hbA hS (k := i + 1) (by rw [ex]; exact nI_add i 1) (by omega) hL d_Law_law_247 ?_
    refine lv_aload_n hx hb d_Law_law_248 rfl (lv_at hl 0 rfl) ?_
    refine lv_iload hx hb d_Law_law_249 (lv_at hl 4 rfl) ?_
    refine lv_iconst (v := 2) hx hb d_Law_law_251 (by decide) ?_
    refine lv_iadd hx hb d_Law_law_252 ?_
    refine l_sld hx hb hX hbl hbA hS (k := i + 2) (by rw [ex]; exact nI_add i 2) (by omega) hL d_Law_law_253 ?_
    refine lv_if_eq (tgt := 261) hx hb d_Law_law_254 (by decide) (fun _ => ?_) (fun hc => absurd hz hc)
    refine lv_iconst (v := 0) hx hb d_Law_law_261 (by decide) ?_
    refine va_calli (va_runV (As := [.int (xs (i + 1)), .int 0]) (rest := []) ⟨hx, hb, hml, hown, hts⟩ (t_Face_charger l D cI cZ ad E0.iF (xs (i + 1)) 0 σ _ h) (cwV 2 hts (g_of kw210 kw211 kw212 kw1 kw213) rfl rfl rfl (by decide +kernel) ⟨Nat.le_of_ble_eq_true rfl, Nat.le_of_ble_eq_true rfl⟩) (ro_pre hKa (l_F hP) (va_recv hKa (l_F hP) (ci := 6) (q0 := 0) rfl rfl)) rfl rfl hl.1 rfl (lv_room (Nat.le_of_ble_eq_true rfl)) d_Law_law_262 ⟨by show cells + 0 ≤ 1094; omega, by show slots + 0 ≤ 10698; omega⟩) hS (fun _ _ h => E0.sF h) (fun _ h => E0.sF h) (fun r1 u t H1 locs ht _ h hP1 _ hk1 hS => ?_)
    have hP := jL_F E0 hP (hp_fwd ht hP1) hk1
    clear hk1 hP1 ht
    generalize H1 = H at hP hS ⊢
    refine lv_aload_n hx hb d_Law_law_265 rfl (lv_at hl 2 rfl) ?_
    refine lv_aload_n hx hb d_Law_law_266 rfl (lv_at hl 0 rfl) ?_
    refine lv_iload hx hb d_Law_law_267 (lv_at hl 4 rfl) ?_
    refine lv_iconst (v := 1) hx hb d_Law_law_269 (by decide) ?_
    refine lv_iadd hx hb d_Law_law_270 ?_
    refine l_sld hx hb hX hbl hbA hS (k := i + 1) (by rw [ex]; exact nI_add i 1) (by omega) hL d_Law_law_271 ?_
    refine lv_aload_n hx hb d_Law_law_272 rfl (lv_at hl 0 rfl) ?_
    refine lv_iload hx hb d_Law_law_273 (lv_at hl 4 rfl) ?_
    refine lv_iconst (v := 2) hx hb d_Law_law_275 (by decide) ?_
    refine lv_iadd hx hb d_Law_law_276 ?_
    refine l_sld hx hb hX hbl hbA hS (k := i + 2) (by rw [ex]; exact nI_add i 2) (by omega) hL d_Law_law_277 ?_
    refine lv_if_eq (tgt := 285) hx hb d_Law_law_278 (by decide) (fun _ => ?_) (fun hc => absurd hz hc)
    refine lv_iconst (v := 0) hx hb d_Law_law_285 (by decide) ?_
    refine va_calli (va_runV (As := [.int (xs (i + 1)), .int 0]) (rest := [.int r1]) ⟨hx, hb, hml, hown, hts⟩ (t_Model_charger l D cI cZ am E0.iM (xs (i + 1)) 0 μ _ h) (cwV 2 hts (g_of kw877 kw878 kw879 kw9 kw880) rfl rfl rfl (by decide +kernel) ⟨Nat.le_of_ble_eq_true rfl, Nat.le_of_ble_eq_true rfl⟩) (ro_pre hKa (l_M hP) (va_recv hKa (l_M hP) (ci := 7) (q0 := 0) rfl rfl)) rfl rfl hl.1 rfl (lv_room (Nat.le_of_ble_eq_true rfl)) d_Law_law_286 ⟨by show cells + 0 ≤ 1094; omega, by show slots + 0 ≤ 10698; omega⟩) hS (fun _ _ h => E0.sM h) (fun _ h => E0.sM h) (fun r v t H1 locs ht _ h hP1 _ hk1 hS => ?_)
    have hP := jL_M E0 hP (hp_fwd ht hP1) hk1
    clear hk1 hP1 ht
    generalize H1 = H at hP hS ⊢
    obtain ⟨hq, hR⟩ := h
    refine lv_icmp_eq (tgt := 968) hx hb d_Law_law_289 (by decide) (fun _ => ?_) (fun hc => absurd hq hc)
    refine W.widen (k := cells + 1) (n := slots + 6) (by omega) (by omega) ?_
    exact kk _ _ _ _ _ _ hR hP hS (lv_sub hl [0, 1, 2, 3, 4] rfl)
  · rw [if_neg hz] at h
    refine lv_aload_n hx hb d_Law_law_241 rfl (lv_at hl 1 rfl) ?_
    refine lv_aload_n hx hb d_Law_law_242 rfl (lv_at hl 0 rfl) ?_
    refine lv_iload hx hb d_Law_law_243 (lv_at hl 4 rfl) ?_
    refine lv_iconst (v := 1) hx hb d_Law_law_245 (by decide) ?_
    refine lv_iadd hx hb d_Law_law_246 ?_
    refine l_sld hx hb hX hbl hbA hS (k := i + 1) (by rw [ex]; exact nI_add i 1) (by omega) hL d_Law_law_247 ?_
    refine lv_aload_n hx hb d_Law_law_248 rfl (lv_at hl 0 rfl) ?_
    refine lv_iload hx hb d_Law_law_249 (lv_at hl 4 rfl) ?_
    refine lv_iconst (v := 2) hx hb d_Law_law_251 (by decide) ?_
    refine lv_iadd hx hb d_Law_law_252 ?_
    refine l_sld hx hb hX hbl hbA hS (k := i + 2) (by rw [ex]; exact nI_add i 2) (by omega) hL d_Law_law_253 ?_
    refine lv_if_eq (tgt := 261) hx hb d_Law_law_254 (by decide) (fun hc => absurd hc hz) (fun _ => ?_)
    refine lv_iconst (v := 1) hx hb d_Law_law_257 (by decide) ?_
    refine lv_goto (tgt := 262) hx hb d_Law_law_258 (by decide) ?_
    refine va_calli (va_runV (As := [.int (xs (i + 1)), .int 1]) (rest := []) ⟨hx, hb, hml, hown, hts⟩ (t_Face_charger l D cI cZ ad E0.iF (xs (i + 1)) 1 σ _ h) (cwV 2 hts (g_of kw210 kw211 kw212 kw1 kw213) rfl rfl rfl (by decide +kernel) ⟨Nat.le_of_ble_eq_true rfl, Nat.le_of_ble_eq_true rfl⟩) (ro_pre hKa (l_F hP) (va_recv hKa (l_F hP) (ci := 6) (q0 := 0) rfl rfl)) rfl rfl hl.1 rfl (lv_room (Nat.le_of_ble_eq_true rfl)) d_Law_law_262 ⟨by show cells + 0 ≤ 1094; omega, by show slots + 0 ≤ 10698; omega⟩) hS (fun _ _ h => E0.sF h) (fun _ h => E0.sF h) (fun r1 u t H1 locs ht _ h hP1 _ hk1 hS => ?_)
    have hP := jL_F E0 hP (hp_fwd ht hP1) hk1
    clear hk1 hP1 ht
    generalize H1 = H at hP hS ⊢
    refine lv_aload_n hx hb d_Law_law_265 rfl (lv_at hl 2 rfl) ?_
    refine lv_aload_n hx hb d_Law_law_266 rfl (lv_at hl 0 rfl) ?_
    refine lv_iload hx hb d_Law_law_267 (lv_at hl 4 rfl) ?_
    refine lv_iconst (v := 1) hx hb d_Law_law_269 (by decide) ?_
    refine lv_iadd hx hb d_Law_law_270 ?_
    refine l_sld hx hb hX hbl hbA hS (k := i + 1) (by rw [ex]; exact nI_add i 1) (by omega) hL d_Law_law_271 ?_
    refine lv_aload_n hx hb d_Law_law_272 rfl (lv_at hl 0 rfl) ?_
    refine lv_iload hx hb d_Law_law_273 (lv_at hl 4 rfl) ?_
    refine lv_iconst (v := 2) hx hb d_Law_law_275 (by decide) ?_
    refine lv_iadd hx hb d_Law_law_276 ?_
    refine l_sld hx hb hX hbl hbA hS (k := i + 2) (by rw [ex]; exact nI_add i 2) (by omega) hL d_Law_law_277 ?_
    refine lv_if_eq (tgt := 285) hx hb d_Law_law_278 (by decide) (fun hc => absurd hc hz) (fun _ => ?_)
    refine lv_iconst (v := 1) hx hb d_Law_law_281 (by decide) ?_
    refine lv_goto (tgt := 286) hx hb d_Law_law_282 (by decide) ?_
    refine va_calli (va_runV (As := [.int (xs (i + 1)), .int 1]) (rest := [.int r1]) ⟨hx, hb, hml, hown, hts⟩ (t_Model_charger l D cI cZ am E0.iM (xs (i + 1)) 1 μ _ h) (cwV 2 hts (g_of kw877 kw878 kw879 kw9 kw880) rfl rfl rfl (by decide +kernel) ⟨Nat.le_of_ble_eq_true rfl, Nat.le_of_ble_eq_true rfl⟩) (ro_pre hKa (l_M hP) (va_recv hKa (l_M hP) (ci := 7) (q0 := 0) rfl rfl)) rfl rfl hl.1 rfl (lv_room (Nat.le_of_ble_eq_true rfl)) d_Law_law_286 ⟨by show cells + 0 ≤ 1094; omega, by show slots + 0 ≤ 10698; omega⟩) hS (fun _ _ h => E0.sM h) (fun _ h => E0.sM h) (fun r v t H1 locs ht _ h hP1 _ hk1 hS => ?_)
    have hP := jL_M E0 hP (hp_fwd ht hP1) hk1
    clear hk1 hP1 ht
    generalize H1 = H at hP hS ⊢
    obtain ⟨hq, hR⟩ := h
    refine lv_icmp_eq (tgt := 968) hx hb d_Law_law_289 (by decide) (fun _ => ?_) (fun hc => absurd hq hc)
    refine W.widen (k := cells + 1) (n := slots + 6) (by omega) (by omega) ?_
    exact kk _ _ _ _ _ _ hR hP hS (lv_sub hl [0, 1, 2, 3, 4] rfl)
def ls_ring (a1 : Int32) (σ : SG) (μ : Sg) (R : SG → Sg → Prop) : Prop := ∀ f : Nat → Int64, q_Law_ring a1 σ f (fun k u g => q_Model_ring a1 μ (fun r v => q_Model_thrown v (fun t => t = k ∧ (k = 0 → g 0 = r.toInt64) ∧ R u v)))
set_option maxHeartbeats 4000000 in
set_option maxRecDepth 100000 in
theorem lc_ring {p : Program} {l : Launch} {e : Env} {s : State} {m : MethodId} {below : List Frame} {meth : Method} {c : Code} {b L : Nat} {xs : Nat → Int32} (hst : l.stackTraces = false) (C0 : lw_At p s m meth c b L xs) {D : va_G} {cI cZ cJ : ClassId} {ad : Nat → Nat → Nat} {am : Nat → Nat} {oa : Nat} (E0 : lE D cI cZ cJ ad am oa s) {cells slots : Nat} (hcl : cells + 1 ≤ 1094) (hsl : slots + 6 ≤ 10698) {R : SG → Sg → Prop} {x4 : Int32} {i : Nat} (ex : x4 = nI i) (hi : i + 4 ≤ L) (hL : L ≤ 2049) (kk : lK p l e s m below meth c b D ad am oa cI cZ cJ cells slots x4 R) {σ : SG} {μ : Sg} {f : Nat → Int64} {H : Heap} {locs : List Loc} {ls : Array Slot} (hP : va_P D classes (W_L ad am oa cI cZ cJ σ μ f) H) (hS : va_S (fun q : Nat => s.heap.size ≤ q) s.heap H locs) (hl : lv_has ls 7 [(0, .ref b), (1, .ref (ad 0 0)), (2, .ref (am 0)), (3, .ref oa), (4, .int x4)]) (h : ls_ring (xs (i + 1)) σ μ R) : W p l e room_1 s m #[Value.ref b] below meth c H locs cells slots (lw_Z below #[Value.ref b] s) (F0 m 294 ls []) := by
  obtain ⟨hx, hb, hr, hml, hown, hts0, hX, hbl, hlocks, hgv⟩ := C0
  have hts : ∀ w ∈ TG, w.before #[Value.ref b] s = true := fun w hw => hts0 w (List.mem_filter.mp hw).1
  have hbA : ¬ (fun q : Nat => s.heap.size ≤ q) b := Nat.not_le.mpr hbl
  have hKa := E0.1.sub (tys' := tysA cI cZ) [0, 1] rfl
  unfold ls_ring at h
  refine lv_aload_n hx hb d_Law_law_294 rfl (lv_at hl 1 rfl) ?_
  refine lv_aload_n hx hb d_Law_law_295 rfl (lv_at hl 0 rfl) ?_
  refine lv_iload hx hb d_Law_law_296 (lv_at hl 4 rfl) ?_
  refine lv_iconst (v := 1) hx hb d_Law_law_298 (by decide) ?_
  refine lv_iadd hx hb d_Law_law_299 ?_
  refine l_sld hx hb hX hbl hbA hS (k := i + 1) (by rw [ex]; exact nI_add i 1) (by omega) hL d_Law_law_300 ?_
  refine lv_aload_n hx hb d_Law_law_301 rfl (lv_at hl 3 rfl) ?_
  have h := h f
  refine va_calli (ws_run (As := [.ref (ad 0 0), .int (xs (i + 1)), .ref oa]) (rest := []) ⟨hx, hb, hml, hown, hts⟩ (t_Law_ring l hst D cI cZ cJ ad E0.iF oa E0.no (xs (i + 1)) σ f _ h) (gW_of kw512 kw513 kw0 kw514) rfl rfl rfl (n := 3) (by decide +kernel) ⟨Nat.le_of_ble_eq_true rfl, Nat.le_of_ble_eq_true rfl⟩ (l_pre E0 hS hP) rfl rfl hl.1 rfl (lv_room (Nat.le_of_ble_eq_true rfl)) d_Law_law_302 ⟨by show cells + 1 ≤ 1094; omega, by show slots + 6 ≤ 10698; omega⟩) hS (fun _ _ h => E0.sX h) (fun _ h => E0.sX h) (fun k1 u1 t H1 locs ht _ h hP1 _ hk1 hS => ?_)
  obtain ⟨u, g⟩ := u1
  have hP := jL_X E0 hP (hp_fwd ht hP1) hk1
  clear hk1 hP1 ht
  generalize H1 = H at hP hS ⊢
  refine lv_istore (lv' := [(5, .int k1), (0, .ref b), (1, .ref (ad 0 0)), (2, .ref (am 0)), (3, .ref oa), (4, .int x4)]) hx hb d_Law_law_305 hl (by decide) rfl (fun ls hl => ?_)
  refine lv_aload_n hx hb d_Law_law_307 rfl (lv_at hl 3 rfl) ?_
  refine lv_aload_n hx hb d_Law_law_308 rfl (lv_at hl 1 rfl) ?_
  refine lv_iload hx hb d_Law_law_309 (lv_at hl 5 rfl) ?_
  refine lv_iconst (v := 1) hx hb d_Law_law_311 (by decide) ?_
  refine lv_iadd hx hb d_Law_law_312 ?_
  refine l_sld hx hb hX hbl hbA hS (k := i + 1) (by rw [ex]; exact nI_add i 1) (by omega) hL d_Law_law_313 ?_
  refine va_calli (va_runV (As := [.int (xs (i + 1))]) (rest := []) ⟨hx, hb, hml, hown, hts⟩ (t_Model_ring l D cI cZ am E0.iM (xs (i + 1)) μ _ h) (cwV 1 hts (g_of kw881 kw882 kw883 kw9 kw884) rfl rfl rfl (by decide +kernel) ⟨Nat.le_of_ble_eq_true rfl, Nat.le_of_ble_eq_true rfl⟩) (ro_pre hKa (l_M hP) (va_recv hKa (l_M hP) (ci := 7) (q0 := 0) rfl rfl)) rfl rfl hl.1 rfl (lv_room (Nat.le_of_ble_eq_true rfl)) d_Law_law_314 ⟨by show cells + 1 + 0 ≤ 1094; omega, by show slots + 6 + 0 ≤ 10698; omega⟩) hS (fun _ _ h => E0.sM h) (fun _ h => E0.sM h) (fun r v t H1 locs ht _ h hP1 _ hk1 hS => ?_)
  have hP := jL_M E0 hP (hp_fwd ht hP1) hk1
  clear hk1 hP1 ht
  generalize H1 = H at hP hS ⊢
  refine lv_istore (lv' := [(6, .int r), (5, .int k1), (0, .ref b), (1, .ref (ad 0 0)), (2, .ref (am 0)), (3, .ref oa), (4, .int x4)]) hx hb d_Law_law_317 hl (by decide) rfl (fun ls hl => ?_)
  refine lv_aload_n hx hb d_Law_law_319 rfl (lv_at hl 4 rfl) ?_
  refine vp_callSi (W.runV (As := []) (rest := []) ⟨hx, hb, hml, hown, hts⟩ (t_Model_thrown l D cI cZ am v _ h) (cwV 0 hts (g_of kw837 kw838 kw839 kw9 kw840) rfl rfl rfl (by decide +kernel) ⟨Nat.le_of_ble_eq_true rfl, Nat.le_of_ble_eq_true rfl⟩) (ro_pre hKa (l_M hP) (va_recv hKa (l_M hP) (ci := 7) (q0 := 0) rfl rfl)) rfl rfl hl.1 rfl (lv_room (Nat.le_of_ble_eq_true rfl)) d_Law_law_320 ⟨by show cells + 1 + 0 ≤ 1094; omega, by show slots + 6 + 0 ≤ 10698; omega⟩) (fun t1 h => ?_)
  obtain ⟨ht1, hg0, hR⟩ := h
  refine lv_iload hx hb d_Law_law_323 (lv_at hl 1 rfl) ?_
  refine lv_icmp_eq (tgt := 330) hx hb d_Law_law_325 (by decide) (fun _ => ?_) (fun hc => absurd ht1 hc)
  refine lv_iload hx hb d_Law_law_330 (lv_at hl 1 rfl) ?_
  refine lv_if_ne (tgt := 347) hx hb d_Law_law_332 (by decide) (fun _ => ?_) (fun hc => ?_)
  · refine lv_goto (tgt := 968) hx hb d_Law_law_347 (by decide) ?_
    exact kk _ _ _ _ _ _ hR hP hS (lv_sub hl [2, 3, 4, 5, 6] rfl)
  · refine lv_aload_n hx hb d_Law_law_335 rfl (lv_at hl 5 rfl) ?_
    refine lv_iconst (v := 0) hx hb d_Law_law_336 (by decide) ?_
    refine va_lald hx hb E0.1 hP 50 2 rfl rfl (by unfold vp_in; decide) d_Law_law_337 ?_
    refine lv_iload hx hb d_Law_law_338 (lv_at hl 0 rfl) ?_
    refine lv_i2l (v := r.toInt64) hx hb d_Law_law_340 rfl ?_
    refine W.lcmp hx hb d_Law_law_341 ?_
    refine lv_if_eq (tgt := 347) hx hb d_Law_law_342 (by decide) (fun _ => ?_) (fun hc9 => absurd ((lg_cmp_eq _ _).mpr (hg0 hc)) hc9)
    refine lv_goto (tgt := 968) hx hb d_Law_law_347 (by decide) ?_
    exact kk _ _ _ _ _ _ hR hP hS (lv_sub hl [2, 3, 4, 5, 6] rfl)
def ls_carrier (a1 a2 : Int32) (σ : SG) (μ : Sg) (R : SG → Sg → Prop) : Prop := ∀ f : Nat → Int64, q_Law_carrier a1 a2 σ f (fun k u g => q_Model_carrier a1 a2 μ (fun r v => q_Model_thrown v (fun t => t = k ∧ (k = 0 → g 0 = r.toInt64) ∧ R u v)))
set_option maxHeartbeats 4000000 in
set_option maxRecDepth 100000 in
theorem lc_carrier {p : Program} {l : Launch} {e : Env} {s : State} {m : MethodId} {below : List Frame} {meth : Method} {c : Code} {b L : Nat} {xs : Nat → Int32} (hst : l.stackTraces = false) (C0 : lw_At p s m meth c b L xs) {D : va_G} {cI cZ cJ : ClassId} {ad : Nat → Nat → Nat} {am : Nat → Nat} {oa : Nat} (E0 : lE D cI cZ cJ ad am oa s) {cells slots : Nat} (hcl : cells + 1 ≤ 1094) (hsl : slots + 6 ≤ 10698) {R : SG → Sg → Prop} {x4 : Int32} {i : Nat} (ex : x4 = nI i) (hi : i + 4 ≤ L) (hL : L ≤ 2049) (kk : lK p l e s m below meth c b D ad am oa cI cZ cJ cells slots x4 R) {σ : SG} {μ : Sg} {f : Nat → Int64} {H : Heap} {locs : List Loc} {ls : Array Slot} (hP : va_P D classes (W_L ad am oa cI cZ cJ σ μ f) H) (hS : va_S (fun q : Nat => s.heap.size ≤ q) s.heap H locs) (hl : lv_has ls 7 [(0, .ref b), (1, .ref (ad 0 0)), (2, .ref (am 0)), (3, .ref oa), (4, .int x4)]) (h : ls_carrier (xs (i + 1)) (xs (i + 2)) σ μ R) : W p l e room_1 s m #[Value.ref b] below meth c H locs cells slots (lw_Z below #[Value.ref b] s) (F0 m 350 ls []) := by
  obtain ⟨hx, hb, hr, hml, hown, hts0, hX, hbl, hlocks, hgv⟩ := C0
  have hts : ∀ w ∈ TG, w.before #[Value.ref b] s = true := fun w hw => hts0 w (List.mem_filter.mp hw).1
  have hbA : ¬ (fun q : Nat => s.heap.size ≤ q) b := Nat.not_le.mpr hbl
  have hKa := E0.1.sub (tys' := tysA cI cZ) [0, 1] rfl
  unfold ls_carrier at h
  refine lv_aload_n hx hb d_Law_law_350 rfl (lv_at hl 1 rfl) ?_
  refine lv_aload_n hx hb d_Law_law_351 rfl (lv_at hl 0 rfl) ?_
  refine lv_iload hx hb d_Law_law_352 (lv_at hl 4 rfl) ?_
  refine lv_iconst (v := 1) hx hb d_Law_law_354 (by decide) ?_
  refine lv_iadd hx hb d_Law_law_355 ?_
  refine l_sld hx hb hX hbl hbA hS (k := i + 1) (by rw [ex]; exact nI_add i 1) (by omega) hL d_Law_law_356 ?_
  refine lv_aload_n hx hb d_Law_law_357 rfl (lv_at hl 0 rfl) ?_
  refine lv_iload hx hb d_Law_law_358 (lv_at hl 4 rfl) ?_
  refine lv_iconst (v := 2) hx hb d_Law_law_360 (by decide) ?_
  refine lv_iadd hx hb d_Law_law_361 ?_
  refine l_sld hx hb hX hbl hbA hS (k := i + 2) (by rw [ex]; exact nI_add i 2) (by omega) hL d_Law_law_362 ?_
  refine lv_aload_n hx hb d_Law_law_363 rfl (lv_at hl 3 rfl) ?_
  have h := h f
  refine va_calli (ws_run (As := [.ref (ad 0 0), .int (xs (i + 1)), .int (xs (i + 2)), .ref oa]) (rest := []) ⟨hx, hb, hml, hown, hts⟩ (t_Law_carrier l hst D cI cZ cJ ad E0.iF oa E0.no (xs (i + 1)) (xs (i + 2)) σ f _ h) (gW_of kw529 kw530 kw0 kw531) rfl rfl rfl (n := 4) (by decide +kernel) ⟨Nat.le_of_ble_eq_true rfl, Nat.le_of_ble_eq_true rfl⟩ (l_pre E0 hS hP) rfl rfl hl.1 rfl (lv_room (Nat.le_of_ble_eq_true rfl)) d_Law_law_364 ⟨by show cells + 1 ≤ 1094; omega, by show slots + 6 ≤ 10698; omega⟩) hS (fun _ _ h => E0.sX h) (fun _ h => E0.sX h) (fun k1 u1 t H1 locs ht _ h hP1 _ hk1 hS => ?_)
  obtain ⟨u, g⟩ := u1
  have hP := jL_X E0 hP (hp_fwd ht hP1) hk1
  clear hk1 hP1 ht
  generalize H1 = H at hP hS ⊢
  refine lv_istore (lv' := [(5, .int k1), (0, .ref b), (1, .ref (ad 0 0)), (2, .ref (am 0)), (3, .ref oa), (4, .int x4)]) hx hb d_Law_law_367 hl (by decide) rfl (fun ls hl => ?_)
  refine lv_aload_n hx hb d_Law_law_369 rfl (lv_at hl 3 rfl) ?_
  refine lv_aload_n hx hb d_Law_law_370 rfl (lv_at hl 1 rfl) ?_
  refine lv_iload hx hb d_Law_law_371 (lv_at hl 5 rfl) ?_
  refine lv_iconst (v := 1) hx hb d_Law_law_373 (by decide) ?_
  refine lv_iadd hx hb d_Law_law_374 ?_
  refine l_sld hx hb hX hbl hbA hS (k := i + 1) (by rw [ex]; exact nI_add i 1) (by omega) hL d_Law_law_375 ?_
  refine lv_aload_n hx hb d_Law_law_376 rfl (lv_at hl 1 rfl) ?_
  refine lv_iload hx hb d_Law_law_377 (lv_at hl 5 rfl) ?_
  refine lv_iconst (v := 2) hx hb d_Law_law_379 (by decide) ?_
  refine lv_iadd hx hb d_Law_law_380 ?_
  refine l_sld hx hb hX hbl hbA hS (k := i + 2) (by rw [ex]; exact nI_add i 2) (by omega) hL d_Law_law_381 ?_
  refine va_calli (va_runV (As := [.int (xs (i + 1)), .int (xs (i + 2))]) (rest := []) ⟨hx, hb, hml, hown, hts⟩ (t_Model_carrier l D cI cZ am E0.iM (xs (i + 1)) (xs (i + 2)) μ _ h) (cwV 2 hts (g_of kw885 kw886 kw887 kw9 kw888) rfl rfl rfl (by decide +kernel) ⟨Nat.le_of_ble_eq_true rfl, Nat.le_of_ble_eq_true rfl⟩) (ro_pre hKa (l_M hP) (va_recv hKa (l_M hP) (ci := 7) (q0 := 0) rfl rfl)) rfl rfl hl.1 rfl (lv_room (Nat.le_of_ble_eq_true rfl)) d_Law_law_382 ⟨by show cells + 1 + 0 ≤ 1094; omega, by show slots + 6 + 0 ≤ 10698; omega⟩) hS (fun _ _ h => E0.sM h) (fun _ h => E0.sM h) (fun r v t H1 locs ht _ h hP1 _ hk1 hS => ?_)
  have hP := jL_M E0 hP (hp_fwd ht hP1) hk1
  clear hk1 hP1 ht
  generalize H1 = H at hP hS ⊢
  refine lv_istore (lv' := [(6, .int r), (5, .int k1), (0, .ref b), (1, .ref (ad 0 0)), (2, .ref (am 0)), (3, .ref oa), (4, .int x4)]) hx hb d_Law_law_385 hl (by decide) rfl (fun ls hl => ?_)
  refine lv_aload_n hx hb d_Law_law_387 rfl (lv_at hl 4 rfl) ?_
  refine vp_callSi (W.runV (As := []) (rest := []) ⟨hx, hb, hml, hown, hts⟩ (t_Model_thrown l D cI cZ am v _ h) (cwV 0 hts (g_of kw837 kw838 kw839 kw9 kw840) rfl rfl rfl (by decide +kernel) ⟨Nat.le_of_ble_eq_true rfl, Nat.le_of_ble_eq_true rfl⟩) (ro_pre hKa (l_M hP) (va_recv hKa (l_M hP) (ci := 7) (q0 := 0) rfl rfl)) rfl rfl hl.1 rfl (lv_room (Nat.le_of_ble_eq_true rfl)) d_Law_law_388 ⟨by show cells + 1 + 0 ≤ 1094; omega, by show slots + 6 + 0 ≤ 10698; omega⟩) (fun t1 h => ?_)
  obtain ⟨ht1, hg0, hR⟩ := h
  refine lv_iload hx hb d_Law_law_391 (lv_at hl 1 rfl) ?_
  refine lv_icmp_eq (tgt := 398) hx hb d_Law_law_393 (by decide) (fun _ => ?_) (fun hc => absurd ht1 hc)
  refine lv_iload hx hb d_Law_law_398 (lv_at hl 1 rfl) ?_
  refine lv_if_ne (tgt := 415) hx hb d_Law_law_400 (by decide) (fun _ => ?_) (fun hc => ?_)
  · refine lv_goto (tgt := 968) hx hb d_Law_law_415 (by decide) ?_
    exact kk _ _ _ _ _ _ hR hP hS (lv_sub hl [2, 3, 4, 5, 6] rfl)
  · refine lv_aload_n hx hb d_Law_law_403 rfl (lv_at hl 5 rfl) ?_
    refine lv_iconst (v := 0) hx hb d_Law_law_404 (by decide) ?_
    refine va_lald hx hb E0.1 hP 50 2 rfl rfl (by unfold vp_in; decide) d_Law_law_405 ?_
    refine lv_iload hx hb d_Law_law_406 (lv_at hl 0 rfl) ?_
    refine lv_i2l (v := r.toInt64) hx hb d_Law_law_408 rfl ?_
    refine W.lcmp hx hb d_Law_law_409 ?_
    refine lv_if_eq (tgt := 415) hx hb d_Law_law_410 (by decide) (fun _ => ?_) (fun hc9 => absurd ((lg_cmp_eq _ _).mpr (hg0 hc)) hc9)
    refine lv_goto (tgt := 968) hx hb d_Law_law_415 (by decide) ?_
    exact kk _ _ _ _ _ _ hR hP hS (lv_sub hl [2, 3, 4, 5, 6] rfl)
def ls_job (a1 a2 : Int32) (σ : SG) (μ : Sg) (R : SG → Sg → Prop) : Prop := ∀ f : Nat → Int64, q_Law_job a1 a2 σ f (fun k u g => q_Model_job a1 a2 μ (fun r v => q_Model_thrown v (fun t => t = k ∧ (k = 0 → g 0 = r.toInt64) ∧ R u v)))
set_option maxHeartbeats 4000000 in
set_option maxRecDepth 100000 in
theorem lc_job {p : Program} {l : Launch} {e : Env} {s : State} {m : MethodId} {below : List Frame} {meth : Method} {c : Code} {b L : Nat} {xs : Nat → Int32} (hst : l.stackTraces = false) (C0 : lw_At p s m meth c b L xs) {D : va_G} {cI cZ cJ : ClassId} {ad : Nat → Nat → Nat} {am : Nat → Nat} {oa : Nat} (E0 : lE D cI cZ cJ ad am oa s) {cells slots : Nat} (hcl : cells + 1 ≤ 1094) (hsl : slots + 6 ≤ 10698) {R : SG → Sg → Prop} {x4 : Int32} {i : Nat} (ex : x4 = nI i) (hi : i + 4 ≤ L) (hL : L ≤ 2049) (kk : lK p l e s m below meth c b D ad am oa cI cZ cJ cells slots x4 R) {σ : SG} {μ : Sg} {f : Nat → Int64} {H : Heap} {locs : List Loc} {ls : Array Slot} (hP : va_P D classes (W_L ad am oa cI cZ cJ σ μ f) H) (hS : va_S (fun q : Nat => s.heap.size ≤ q) s.heap H locs) (hl : lv_has ls 7 [(0, .ref b), (1, .ref (ad 0 0)), (2, .ref (am 0)), (3, .ref oa), (4, .int x4)]) (h : ls_job (xs (i + 1)) (xs (i + 2)) σ μ R) : W p l e room_1 s m #[Value.ref b] below meth c H locs cells slots (lw_Z below #[Value.ref b] s) (F0 m 418 ls []) := by
  obtain ⟨hx, hb, hr, hml, hown, hts0, hX, hbl, hlocks, hgv⟩ := C0
  have hts : ∀ w ∈ TG, w.before #[Value.ref b] s = true := fun w hw => hts0 w (List.mem_filter.mp hw).1
  have hbA : ¬ (fun q : Nat => s.heap.size ≤ q) b := Nat.not_le.mpr hbl
  have hKa := E0.1.sub (tys' := tysA cI cZ) [0, 1] rfl
  unfold ls_job at h
  refine lv_aload_n hx hb d_Law_law_418 rfl (lv_at hl 1 rfl) ?_
  refine lv_aload_n hx hb d_Law_law_419 rfl (lv_at hl 0 rfl) ?_
  refine lv_iload hx hb d_Law_law_420 (lv_at hl 4 rfl) ?_
  refine lv_iconst (v := 1) hx hb d_Law_law_422 (by decide) ?_
  refine lv_iadd hx hb d_Law_law_423 ?_
  refine l_sld hx hb hX hbl hbA hS (k := i + 1) (by rw [ex]; exact nI_add i 1) (by omega) hL d_Law_law_424 ?_
  refine lv_aload_n hx hb d_Law_law_425 rfl (lv_at hl 0 rfl) ?_
  refine lv_iload hx hb d_Law_law_426 (lv_at hl 4 rfl) ?_
  refine lv_iconst (v := 2) hx hb d_Law_law_428 (by decide) ?_
  refine lv_iadd hx hb d_Law_law_429 ?_
  refine l_sld hx hb hX hbl hbA hS (k := i + 2) (by rw [ex]; exact nI_add i 2) (by omega) hL d_Law_law_430 ?_
  refine lv_aload_n hx hb d_Law_law_431 rfl (lv_at hl 3 rfl) ?_
  have h := h f
  refine va_calli (ws_run (As := [.ref (ad 0 0), .int (xs (i + 1)), .int (xs (i + 2)), .ref oa]) (rest := []) ⟨hx, hb, hml, hown, hts⟩ (t_Law_job l hst D cI cZ cJ ad E0.iF oa E0.no (xs (i + 1)) (xs (i + 2)) σ f _ h) (gW_of kw547 kw548 kw0 kw549) rfl rfl rfl (n := 4) (by decide +kernel) ⟨Nat.le_of_ble_eq_true rfl, Nat.le_of_ble_eq_true rfl⟩ (l_pre E0 hS hP) rfl rfl hl.1 rfl (lv_room (Nat.le_of_ble_eq_true rfl)) d_Law_law_432 ⟨by show cells + 1 ≤ 1094; omega, by show slots + 6 ≤ 10698; omega⟩) hS (fun _ _ h => E0.sX h) (fun _ h => E0.sX h) (fun k1 u1 t H1 locs ht _ h hP1 _ hk1 hS => ?_)
  obtain ⟨u, g⟩ := u1
  have hP := jL_X E0 hP (hp_fwd ht hP1) hk1
  clear hk1 hP1 ht
  generalize H1 = H at hP hS ⊢
  refine lv_istore (lv' := [(5, .int k1), (0, .ref b), (1, .ref (ad 0 0)), (2, .ref (am 0)), (3, .ref oa), (4, .int x4)]) hx hb d_Law_law_435 hl (by decide) rfl (fun ls hl => ?_)
  refine lv_aload_n hx hb d_Law_law_437 rfl (lv_at hl 3 rfl) ?_
  refine lv_aload_n hx hb d_Law_law_438 rfl (lv_at hl 1 rfl) ?_
  refine lv_iload hx hb d_Law_law_439 (lv_at hl 5 rfl) ?_
  refine lv_iconst (v := 1) hx hb d_Law_law_441 (by decide) ?_
  refine lv_iadd hx hb d_Law_law_442 ?_
  refine l_sld hx hb hX hbl hbA hS (k := i + 1) (by rw [ex]; exact nI_add i 1) (by omega) hL d_Law_law_443 ?_
  refine lv_aload_n hx hb d_Law_law_444 rfl (lv_at hl 1 rfl) ?_
  refine lv_iload hx hb d_Law_law_445 (lv_at hl 5 rfl) ?_
  refine lv_iconst (v := 2) hx hb d_Law_law_447 (by decide) ?_
  refine lv_iadd hx hb d_Law_law_448 ?_
  refine l_sld hx hb hX hbl hbA hS (k := i + 2) (by rw [ex]; exact nI_add i 2) (by omega) hL d_Law_law_449 ?_
  refine va_calli (va_runV (As := [.int (xs (i + 1)), .int (xs (i + 2))]) (rest := []) ⟨hx, hb, hml, hown, hts⟩ (t_Model_job l D cI cZ am E0.iM (xs (i + 1)) (xs (i + 2)) μ _ h) (cwV 2 hts (g_of kw889 kw890 kw891 kw9 kw892) rfl rfl rfl (by decide +kernel) ⟨Nat.le_of_ble_eq_true rfl, Nat.le_of_ble_eq_true rfl⟩) (ro_pre hKa (l_M hP) (va_recv hKa (l_M hP) (ci := 7) (q0 := 0) rfl rfl)) rfl rfl hl.1 rfl (lv_room (Nat.le_of_ble_eq_true rfl)) d_Law_law_450 ⟨by show cells + 1 + 0 ≤ 1094; omega, by show slots + 6 + 0 ≤ 10698; omega⟩) hS (fun _ _ h => E0.sM h) (fun _ h => E0.sM h) (fun r v t H1 locs ht _ h hP1 _ hk1 hS => ?_)
  have hP := jL_M E0 hP (hp_fwd ht hP1) hk1
  clear hk1 hP1 ht
  generalize H1 = H at hP hS ⊢
  refine lv_istore (lv' := [(6, .int r), (5, .int k1), (0, .ref b), (1, .ref (ad 0 0)), (2, .ref (am 0)), (3, .ref oa), (4, .int x4)]) hx hb d_Law_law_453 hl (by decide) rfl (fun ls hl => ?_)
  refine lv_aload_n hx hb d_Law_law_455 rfl (lv_at hl 4 rfl) ?_
  refine vp_callSi (W.runV (As := []) (rest := []) ⟨hx, hb, hml, hown, hts⟩ (t_Model_thrown l D cI cZ am v _ h) (cwV 0 hts (g_of kw837 kw838 kw839 kw9 kw840) rfl rfl rfl (by decide +kernel) ⟨Nat.le_of_ble_eq_true rfl, Nat.le_of_ble_eq_true rfl⟩) (ro_pre hKa (l_M hP) (va_recv hKa (l_M hP) (ci := 7) (q0 := 0) rfl rfl)) rfl rfl hl.1 rfl (lv_room (Nat.le_of_ble_eq_true rfl)) d_Law_law_456 ⟨by show cells + 1 + 0 ≤ 1094; omega, by show slots + 6 + 0 ≤ 10698; omega⟩) (fun t1 h => ?_)
  obtain ⟨ht1, hg0, hR⟩ := h
  refine lv_iload hx hb d_Law_law_459 (lv_at hl 1 rfl) ?_
  refine lv_icmp_eq (tgt := 466) hx hb d_Law_law_461 (by decide) (fun _ => ?_) (fun hc => absurd ht1 hc)
  refine lv_iload hx hb d_Law_law_466 (lv_at hl 1 rfl) ?_
  refine lv_if_ne (tgt := 483) hx hb d_Law_law_468 (by decide) (fun _ => ?_) (fun hc => ?_)
  · refine lv_goto (tgt := 968) hx hb d_Law_law_483 (by decide) ?_
    exact kk _ _ _ _ _ _ hR hP hS (lv_sub hl [2, 3, 4, 5, 6] rfl)
  · refine lv_aload_n hx hb d_Law_law_471 rfl (lv_at hl 5 rfl) ?_
    refine lv_iconst (v := 0) hx hb d_Law_law_472 (by decide) ?_
    refine va_lald hx hb E0.1 hP 50 2 rfl rfl (by unfold vp_in; decide) d_Law_law_473 ?_
    refine lv_iload hx hb d_Law_law_474 (lv_at hl 0 rfl) ?_
    refine lv_i2l (v := r.toInt64) hx hb d_Law_law_476 rfl ?_
    refine W.lcmp hx hb d_Law_law_477 ?_
    refine lv_if_eq (tgt := 483) hx hb d_Law_law_478 (by decide) (fun _ => ?_) (fun hc9 => absurd ((lg_cmp_eq _ _).mpr (hg0 hc)) hc9)
    refine lv_goto (tgt := 968) hx hb d_Law_law_483 (by decide) ?_
    exact kk _ _ _ _ _ _ hR hP hS (lv_sub hl [2, 3, 4, 5, 6] rfl)
def ls_assign (σ : SG) (μ : Sg) (R : SG → Sg → Prop) : Prop := q_Face_assign σ (fun r1 u => q_Model_assign μ (fun r v => r1 = r ∧ R u v))
set_option maxHeartbeats 4000000 in
set_option maxRecDepth 100000 in
theorem lc_assign {p : Program} {l : Launch} {e : Env} {s : State} {m : MethodId} {below : List Frame} {meth : Method} {c : Code} {b L : Nat} {xs : Nat → Int32} (hst : l.stackTraces = false) (C0 : lw_At p s m meth c b L xs) {D : va_G} {cI cZ cJ : ClassId} {ad : Nat → Nat → Nat} {am : Nat → Nat} {oa : Nat} (E0 : lE D cI cZ cJ ad am oa s) {cells slots : Nat} (hcl : cells + 1 ≤ 1094) (hsl : slots + 6 ≤ 10698) {R : SG → Sg → Prop} {x4 : Int32} {i : Nat} (ex : x4 = nI i) (hi : i + 4 ≤ L) (hL : L ≤ 2049) (kk : lK p l e s m below meth c b D ad am oa cI cZ cJ cells slots x4 R) {σ : SG} {μ : Sg} {f : Nat → Int64} {H : Heap} {locs : List Loc} {ls : Array Slot} (hP : va_P D classes (W_L ad am oa cI cZ cJ σ μ f) H) (hS : va_S (fun q : Nat => s.heap.size ≤ q) s.heap H locs) (hl : lv_has ls 7 [(0, .ref b), (1, .ref (ad 0 0)), (2, .ref (am 0)), (3, .ref oa), (4, .int x4)]) (h : ls_assign  σ μ R) : W p l e room_1 s m #[Value.ref b] below meth c H locs cells slots (lw_Z below #[Value.ref b] s) (F0 m 486 ls []) := by
  obtain ⟨hx, hb, hr, hml, hown, hts0, hX, hbl, hlocks, hgv⟩ := C0
  have hts : ∀ w ∈ TG, w.before #[Value.ref b] s = true := fun w hw => hts0 w (List.mem_filter.mp hw).1
  have hbA : ¬ (fun q : Nat => s.heap.size ≤ q) b := Nat.not_le.mpr hbl
  have hKa := E0.1.sub (tys' := tysA cI cZ) [0, 1] rfl
  unfold ls_assign at h
  refine lv_aload_n hx hb d_Law_law_486 rfl (lv_at hl 1 rfl) ?_
  refine va_calli (va_runV (As := []) (rest := []) ⟨hx, hb, hml, hown, hts⟩ (t_Face_assign l D cI cZ ad E0.iF σ _ h) (cwV 0 hts (g_of kw222 kw223 kw224 kw1 kw225) rfl rfl rfl (by decide +kernel) ⟨Nat.le_of_ble_eq_true rfl, Nat.le_of_ble_eq_true rfl⟩) (ro_pre hKa (l_F hP) (va_recv hKa (l_F hP) (ci := 6) (q0 := 0) rfl rfl)) rfl rfl hl.1 rfl (lv_room (Nat.le_of_ble_eq_true rfl)) d_Law_law_487 ⟨by show cells + 0 ≤ 1094; omega, by show slots + 0 ≤ 10698; omega⟩) hS (fun _ _ h => E0.sF h) (fun _ h => E0.sF h) (fun r1 u t H1 locs ht _ h hP1 _ hk1 hS => ?_)
  have hP := jL_F E0 hP (hp_fwd ht hP1) hk1
  clear hk1 hP1 ht
  generalize H1 = H at hP hS ⊢
  refine lv_aload_n hx hb d_Law_law_490 rfl (lv_at hl 2 rfl) ?_
  refine va_calli (va_runV (As := []) (rest := [.int r1]) ⟨hx, hb, hml, hown, hts⟩ (t_Model_assign l D cI cZ am E0.iM μ _ h) (cwV 0 hts (g_of kw893 kw894 kw895 kw9 kw896) rfl rfl rfl (by decide +kernel) ⟨Nat.le_of_ble_eq_true rfl, Nat.le_of_ble_eq_true rfl⟩) (ro_pre hKa (l_M hP) (va_recv hKa (l_M hP) (ci := 7) (q0 := 0) rfl rfl)) rfl rfl hl.1 rfl (lv_room (Nat.le_of_ble_eq_true rfl)) d_Law_law_491 ⟨by show cells + 0 ≤ 1094; omega, by show slots + 0 ≤ 10698; omega⟩) hS (fun _ _ h => E0.sM h) (fun _ h => E0.sM h) (fun r v t H1 locs ht _ h hP1 _ hk1 hS => ?_)
  have hP := jL_M E0 hP (hp_fwd ht hP1) hk1
  clear hk1 hP1 ht
  generalize H1 = H at hP hS ⊢
  obtain ⟨hq, hR⟩ := h
  refine lv_icmp_eq (tgt := 968) hx hb d_Law_law_494 (by decide) (fun _ => ?_) (fun hc => absurd hq hc)
  refine W.widen (k := cells + 1) (n := slots + 6) (by omega) (by omega) ?_
  exact kk _ _ _ _ _ _ hR hP hS (lv_sub hl [0, 1, 2, 3, 4] rfl)
def ls_step (a1 : Int32) (σ : SG) (μ : Sg) (R : SG → Sg → Prop) : Prop := ∀ f : Nat → Int64, q_Law_step a1 σ f (fun k u g => q_Model_step a1 μ (fun r v => q_Model_thrown v (fun t => t = k ∧ (k = 0 → g 0 = r.toInt64) ∧ R u v)))
set_option maxHeartbeats 4000000 in
set_option maxRecDepth 100000 in
theorem lc_step {p : Program} {l : Launch} {e : Env} {s : State} {m : MethodId} {below : List Frame} {meth : Method} {c : Code} {b L : Nat} {xs : Nat → Int32} (hst : l.stackTraces = false) (C0 : lw_At p s m meth c b L xs) {D : va_G} {cI cZ cJ : ClassId} {ad : Nat → Nat → Nat} {am : Nat → Nat} {oa : Nat} (E0 : lE D cI cZ cJ ad am oa s) {cells slots : Nat} (hcl : cells + 1 ≤ 1094) (hsl : slots + 6 ≤ 10698) {R : SG → Sg → Prop} {x4 : Int32} {i : Nat} (ex : x4 = nI i) (hi : i + 4 ≤ L) (hL : L ≤ 2049) (kk : lK p l e s m below meth c b D ad am oa cI cZ cJ cells slots x4 R) {σ : SG} {μ : Sg} {f : Nat → Int64} {H : Heap} {locs : List Loc} {ls : Array Slot} (hP : va_P D classes (W_L ad am oa cI cZ cJ σ μ f) H) (hS : va_S (fun q : Nat => s.heap.size ≤ q) s.heap H locs) (hl : lv_has ls 7 [(0, .ref b), (1, .ref (ad 0 0)), (2, .ref (am 0)), (3, .ref oa), (4, .int x4)]) (h : ls_step (xs (i + 1)) σ μ R) : W p l e room_1 s m #[Value.ref b] below meth c H locs cells slots (lw_Z below #[Value.ref b] s) (F0 m 499 ls []) := by
  obtain ⟨hx, hb, hr, hml, hown, hts0, hX, hbl, hlocks, hgv⟩ := C0
  have hts : ∀ w ∈ TG, w.before #[Value.ref b] s = true := fun w hw => hts0 w (List.mem_filter.mp hw).1
  have hbA : ¬ (fun q : Nat => s.heap.size ≤ q) b := Nat.not_le.mpr hbl
  have hKa := E0.1.sub (tys' := tysA cI cZ) [0, 1] rfl
  unfold ls_step at h
  refine lv_aload_n hx hb d_Law_law_499 rfl (lv_at hl 1 rfl) ?_
  refine lv_aload_n hx hb d_Law_law_500 rfl (lv_at hl 0 rfl) ?_
  refine lv_iload hx hb d_Law_law_501 (lv_at hl 4 rfl) ?_
  refine lv_iconst (v := 1) hx hb d_Law_law_503 (by decide) ?_
  refine lv_iadd hx hb d_Law_law_504 ?_
  refine l_sld hx hb hX hbl hbA hS (k := i + 1) (by rw [ex]; exact nI_add i 1) (by omega) hL d_Law_law_505 ?_
  refine lv_aload_n hx hb d_Law_law_506 rfl (lv_at hl 3 rfl) ?_
  have h := h f
  refine va_calli (ws_run (As := [.ref (ad 0 0), .int (xs (i + 1)), .ref oa]) (rest := []) ⟨hx, hb, hml, hown, hts⟩ (t_Law_step l hst D cI cZ cJ ad E0.iF oa E0.no (xs (i + 1)) σ f _ h) (gW_of kw559 kw560 kw0 kw561) rfl rfl rfl (n := 3) (by decide +kernel) ⟨Nat.le_of_ble_eq_true rfl, Nat.le_of_ble_eq_true rfl⟩ (l_pre E0 hS hP) rfl rfl hl.1 rfl (lv_room (Nat.le_of_ble_eq_true rfl)) d_Law_law_507 ⟨by show cells + 1 ≤ 1094; omega, by show slots + 6 ≤ 10698; omega⟩) hS (fun _ _ h => E0.sX h) (fun _ h => E0.sX h) (fun k1 u1 t H1 locs ht _ h hP1 _ hk1 hS => ?_)
  obtain ⟨u, g⟩ := u1
  have hP := jL_X E0 hP (hp_fwd ht hP1) hk1
  clear hk1 hP1 ht
  generalize H1 = H at hP hS ⊢
  refine lv_istore (lv' := [(5, .int k1), (0, .ref b), (1, .ref (ad 0 0)), (2, .ref (am 0)), (3, .ref oa), (4, .int x4)]) hx hb d_Law_law_510 hl (by decide) rfl (fun ls hl => ?_)
  refine lv_aload_n hx hb d_Law_law_512 rfl (lv_at hl 3 rfl) ?_
  refine lv_aload_n hx hb d_Law_law_513 rfl (lv_at hl 1 rfl) ?_
  refine lv_iload hx hb d_Law_law_514 (lv_at hl 5 rfl) ?_
  refine lv_iconst (v := 1) hx hb d_Law_law_516 (by decide) ?_
  refine lv_iadd hx hb d_Law_law_517 ?_
  refine l_sld hx hb hX hbl hbA hS (k := i + 1) (by rw [ex]; exact nI_add i 1) (by omega) hL d_Law_law_518 ?_
  refine va_calli (va_runV (As := [.int (xs (i + 1))]) (rest := []) ⟨hx, hb, hml, hown, hts⟩ (t_Model_step l D cI cZ am E0.iM (xs (i + 1)) μ _ h) (cwV 1 hts (g_of kw910 kw911 kw912 kw9 kw913) rfl rfl rfl (by decide +kernel) ⟨Nat.le_of_ble_eq_true rfl, Nat.le_of_ble_eq_true rfl⟩) (ro_pre hKa (l_M hP) (va_recv hKa (l_M hP) (ci := 7) (q0 := 0) rfl rfl)) rfl rfl hl.1 rfl (lv_room (Nat.le_of_ble_eq_true rfl)) d_Law_law_519 ⟨by show cells + 1 + 0 ≤ 1094; omega, by show slots + 6 + 0 ≤ 10698; omega⟩) hS (fun _ _ h => E0.sM h) (fun _ h => E0.sM h) (fun r v t H1 locs ht _ h hP1 _ hk1 hS => ?_)
  have hP := jL_M E0 hP (hp_fwd ht hP1) hk1
  clear hk1 hP1 ht
  generalize H1 = H at hP hS ⊢
  refine lv_istore (lv' := [(6, .int r), (5, .int k1), (0, .ref b), (1, .ref (ad 0 0)), (2, .ref (am 0)), (3, .ref oa), (4, .int x4)]) hx hb d_Law_law_522 hl (by decide) rfl (fun ls hl => ?_)
  refine lv_aload_n hx hb d_Law_law_524 rfl (lv_at hl 4 rfl) ?_
  refine vp_callSi (W.runV (As := []) (rest := []) ⟨hx, hb, hml, hown, hts⟩ (t_Model_thrown l D cI cZ am v _ h) (cwV 0 hts (g_of kw837 kw838 kw839 kw9 kw840) rfl rfl rfl (by decide +kernel) ⟨Nat.le_of_ble_eq_true rfl, Nat.le_of_ble_eq_true rfl⟩) (ro_pre hKa (l_M hP) (va_recv hKa (l_M hP) (ci := 7) (q0 := 0) rfl rfl)) rfl rfl hl.1 rfl (lv_room (Nat.le_of_ble_eq_true rfl)) d_Law_law_525 ⟨by show cells + 1 + 0 ≤ 1094; omega, by show slots + 6 + 0 ≤ 10698; omega⟩) (fun t1 h => ?_)
  obtain ⟨ht1, hg0, hR⟩ := h
  refine lv_iload hx hb d_Law_law_528 (lv_at hl 1 rfl) ?_
  refine lv_icmp_eq (tgt := 535) hx hb d_Law_law_530 (by decide) (fun _ => ?_) (fun hc => absurd ht1 hc)
  refine lv_iload hx hb d_Law_law_535 (lv_at hl 1 rfl) ?_
  refine lv_if_ne (tgt := 552) hx hb d_Law_law_537 (by decide) (fun _ => ?_) (fun hc => ?_)
  · refine lv_goto (tgt := 968) hx hb d_Law_law_552 (by decide) ?_
    exact kk _ _ _ _ _ _ hR hP hS (lv_sub hl [2, 3, 4, 5, 6] rfl)
  · refine lv_aload_n hx hb d_Law_law_540 rfl (lv_at hl 5 rfl) ?_
    refine lv_iconst (v := 0) hx hb d_Law_law_541 (by decide) ?_
    refine va_lald hx hb E0.1 hP 50 2 rfl rfl (by unfold vp_in; decide) d_Law_law_542 ?_
    refine lv_iload hx hb d_Law_law_543 (lv_at hl 0 rfl) ?_
    refine lv_i2l (v := r.toInt64) hx hb d_Law_law_545 rfl ?_
    refine W.lcmp hx hb d_Law_law_546 ?_
    refine lv_if_eq (tgt := 552) hx hb d_Law_law_547 (by decide) (fun _ => ?_) (fun hc9 => absurd ((lg_cmp_eq _ _).mpr (hg0 hc)) hc9)
    refine lv_goto (tgt := 968) hx hb d_Law_law_552 (by decide) ?_
    exact kk _ _ _ _ _ _ hR hP hS (lv_sub hl [2, 3, 4, 5, 6] rfl)
def ls_tick (a1 : Int32) (σ : SG) (μ : Sg) (R : SG → Sg → Prop) : Prop := ∀ f : Nat → Int64, q_Law_tick a1 σ f (fun k u g => q_Model_tick a1 μ (fun r v => q_Model_thrown v (fun t => t = k ∧ (k = 0 → g 0 = r.toInt64) ∧ R u v)))
set_option maxHeartbeats 4000000 in
set_option maxRecDepth 100000 in
theorem lc_tick {p : Program} {l : Launch} {e : Env} {s : State} {m : MethodId} {below : List Frame} {meth : Method} {c : Code} {b L : Nat} {xs : Nat → Int32} (hst : l.stackTraces = false) (C0 : lw_At p s m meth c b L xs) {D : va_G} {cI cZ cJ : ClassId} {ad : Nat → Nat → Nat} {am : Nat → Nat} {oa : Nat} (E0 : lE D cI cZ cJ ad am oa s) {cells slots : Nat} (hcl : cells + 1 ≤ 1094) (hsl : slots + 6 ≤ 10698) {R : SG → Sg → Prop} {x4 : Int32} {i : Nat} (ex : x4 = nI i) (hi : i + 4 ≤ L) (hL : L ≤ 2049) (kk : lK p l e s m below meth c b D ad am oa cI cZ cJ cells slots x4 R) {σ : SG} {μ : Sg} {f : Nat → Int64} {H : Heap} {locs : List Loc} {ls : Array Slot} (hP : va_P D classes (W_L ad am oa cI cZ cJ σ μ f) H) (hS : va_S (fun q : Nat => s.heap.size ≤ q) s.heap H locs) (hl : lv_has ls 7 [(0, .ref b), (1, .ref (ad 0 0)), (2, .ref (am 0)), (3, .ref oa), (4, .int x4)]) (h : ls_tick (xs (i + 1)) σ μ R) : W p l e room_1 s m #[Value.ref b] below meth c H locs cells slots (lw_Z below #[Value.ref b] s) (F0 m 555 ls []) := by
  obtain ⟨hx, hb, hr, hml, hown, hts0, hX, hbl, hlocks, hgv⟩ := C0
  have hts : ∀ w ∈ TG, w.before #[Value.ref b] s = true := fun w hw => hts0 w (List.mem_filter.mp hw).1
  have hbA : ¬ (fun q : Nat => s.heap.size ≤ q) b := Nat.not_le.mpr hbl
  have hKa := E0.1.sub (tys' := tysA cI cZ) [0, 1] rfl
  unfold ls_tick at h
  refine lv_aload_n hx hb d_Law_law_555 rfl (lv_at hl 1 rfl) ?_
  refine lv_aload_n hx hb d_Law_law_556 rfl (lv_at hl 0 rfl) ?_
  refine lv_iload hx hb d_Law_law_557 (lv_at hl 4 rfl) ?_
  refine lv_iconst (v := 1) hx hb d_Law_law_559 (by decide) ?_
  refine lv_iadd hx hb d_Law_law_560 ?_
  refine l_sld hx hb hX hbl hbA hS (k := i + 1) (by rw [ex]; exact nI_add i 1) (by omega) hL d_Law_law_561 ?_
  refine lv_aload_n hx hb d_Law_law_562 rfl (lv_at hl 3 rfl) ?_
  have h := h f
  refine va_calli (ws_run (As := [.ref (ad 0 0), .int (xs (i + 1)), .ref oa]) (rest := []) ⟨hx, hb, hml, hown, hts⟩ (t_Law_tick l hst D cI cZ cJ ad E0.iF oa E0.no (xs (i + 1)) σ f _ h) (gW_of kw661 kw662 kw0 kw663) rfl rfl rfl (n := 3) (by decide +kernel) ⟨Nat.le_of_ble_eq_true rfl, Nat.le_of_ble_eq_true rfl⟩ (l_pre E0 hS hP) rfl rfl hl.1 rfl (lv_room (Nat.le_of_ble_eq_true rfl)) d_Law_law_563 ⟨by show cells + 1 ≤ 1094; omega, by show slots + 6 ≤ 10698; omega⟩) hS (fun _ _ h => E0.sX h) (fun _ h => E0.sX h) (fun k1 u1 t H1 locs ht _ h hP1 _ hk1 hS => ?_)
  obtain ⟨u, g⟩ := u1
  have hP := jL_X E0 hP (hp_fwd ht hP1) hk1
  clear hk1 hP1 ht
  generalize H1 = H at hP hS ⊢
  refine lv_istore (lv' := [(5, .int k1), (0, .ref b), (1, .ref (ad 0 0)), (2, .ref (am 0)), (3, .ref oa), (4, .int x4)]) hx hb d_Law_law_566 hl (by decide) rfl (fun ls hl => ?_)
  refine lv_aload_n hx hb d_Law_law_568 rfl (lv_at hl 3 rfl) ?_
  refine lv_aload_n hx hb d_Law_law_569 rfl (lv_at hl 1 rfl) ?_
  refine lv_iload hx hb d_Law_law_570 (lv_at hl 5 rfl) ?_
  refine lv_iconst (v := 1) hx hb d_Law_law_572 (by decide) ?_
  refine lv_iadd hx hb d_Law_law_573 ?_
  refine l_sld hx hb hX hbl hbA hS (k := i + 1) (by rw [ex]; exact nI_add i 1) (by omega) hL d_Law_law_574 ?_
  refine va_calli (va_runV (As := [.int (xs (i + 1))]) (rest := []) ⟨hx, hb, hml, hown, hts⟩ (t_Model_tick l D cI cZ am E0.iM (xs (i + 1)) μ _ h) (cwV 1 hts (g_of kw938 kw939 kw940 kw9 kw941) rfl rfl rfl (by decide +kernel) ⟨Nat.le_of_ble_eq_true rfl, Nat.le_of_ble_eq_true rfl⟩) (ro_pre hKa (l_M hP) (va_recv hKa (l_M hP) (ci := 7) (q0 := 0) rfl rfl)) rfl rfl hl.1 rfl (lv_room (Nat.le_of_ble_eq_true rfl)) d_Law_law_575 ⟨by show cells + 1 + 0 ≤ 1094; omega, by show slots + 6 + 0 ≤ 10698; omega⟩) hS (fun _ _ h => E0.sM h) (fun _ h => E0.sM h) (fun r v t H1 locs ht _ h hP1 _ hk1 hS => ?_)
  have hP := jL_M E0 hP (hp_fwd ht hP1) hk1
  clear hk1 hP1 ht
  generalize H1 = H at hP hS ⊢
  refine lv_istore (lv' := [(6, .int r), (5, .int k1), (0, .ref b), (1, .ref (ad 0 0)), (2, .ref (am 0)), (3, .ref oa), (4, .int x4)]) hx hb d_Law_law_578 hl (by decide) rfl (fun ls hl => ?_)
  refine lv_aload_n hx hb d_Law_law_580 rfl (lv_at hl 4 rfl) ?_
  refine vp_callSi (W.runV (As := []) (rest := []) ⟨hx, hb, hml, hown, hts⟩ (t_Model_thrown l D cI cZ am v _ h) (cwV 0 hts (g_of kw837 kw838 kw839 kw9 kw840) rfl rfl rfl (by decide +kernel) ⟨Nat.le_of_ble_eq_true rfl, Nat.le_of_ble_eq_true rfl⟩) (ro_pre hKa (l_M hP) (va_recv hKa (l_M hP) (ci := 7) (q0 := 0) rfl rfl)) rfl rfl hl.1 rfl (lv_room (Nat.le_of_ble_eq_true rfl)) d_Law_law_581 ⟨by show cells + 1 + 0 ≤ 1094; omega, by show slots + 6 + 0 ≤ 10698; omega⟩) (fun t1 h => ?_)
  obtain ⟨ht1, hg0, hR⟩ := h
  refine lv_iload hx hb d_Law_law_584 (lv_at hl 1 rfl) ?_
  refine lv_icmp_eq (tgt := 591) hx hb d_Law_law_586 (by decide) (fun _ => ?_) (fun hc => absurd ht1 hc)
  refine lv_iload hx hb d_Law_law_591 (lv_at hl 1 rfl) ?_
  refine lv_if_ne (tgt := 608) hx hb d_Law_law_593 (by decide) (fun _ => ?_) (fun hc => ?_)
  · refine lv_goto (tgt := 968) hx hb d_Law_law_608 (by decide) ?_
    exact kk _ _ _ _ _ _ hR hP hS (lv_sub hl [2, 3, 4, 5, 6] rfl)
  · refine lv_aload_n hx hb d_Law_law_596 rfl (lv_at hl 5 rfl) ?_
    refine lv_iconst (v := 0) hx hb d_Law_law_597 (by decide) ?_
    refine va_lald hx hb E0.1 hP 50 2 rfl rfl (by unfold vp_in; decide) d_Law_law_598 ?_
    refine lv_iload hx hb d_Law_law_599 (lv_at hl 0 rfl) ?_
    refine lv_i2l (v := r.toInt64) hx hb d_Law_law_601 rfl ?_
    refine W.lcmp hx hb d_Law_law_602 ?_
    refine lv_if_eq (tgt := 608) hx hb d_Law_law_603 (by decide) (fun _ => ?_) (fun hc9 => absurd ((lg_cmp_eq _ _).mpr (hg0 hc)) hc9)
    refine lv_goto (tgt := 968) hx hb d_Law_law_608 (by decide) ?_
    exact kk _ _ _ _ _ _ hR hP hS (lv_sub hl [2, 3, 4, 5, 6] rfl)
def ls_close (a1 a2 : Int32) (σ : SG) (μ : Sg) (R : SG → Sg → Prop) : Prop := q_Face_close a1 (if a2 = 0 then 0 else 1) σ (fun r1 u => q_Model_close a1 (if a2 = 0 then 0 else 1) μ (fun r v => r1 = r ∧ R u v))
set_option maxHeartbeats 4000000 in
set_option maxRecDepth 100000 in
theorem lc_close {p : Program} {l : Launch} {e : Env} {s : State} {m : MethodId} {below : List Frame} {meth : Method} {c : Code} {b L : Nat} {xs : Nat → Int32} (hst : l.stackTraces = false) (C0 : lw_At p s m meth c b L xs) {D : va_G} {cI cZ cJ : ClassId} {ad : Nat → Nat → Nat} {am : Nat → Nat} {oa : Nat} (E0 : lE D cI cZ cJ ad am oa s) {cells slots : Nat} (hcl : cells + 1 ≤ 1094) (hsl : slots + 6 ≤ 10698) {R : SG → Sg → Prop} {x4 : Int32} {i : Nat} (ex : x4 = nI i) (hi : i + 4 ≤ L) (hL : L ≤ 2049) (kk : lK p l e s m below meth c b D ad am oa cI cZ cJ cells slots x4 R) {σ : SG} {μ : Sg} {f : Nat → Int64} {H : Heap} {locs : List Loc} {ls : Array Slot} (hP : va_P D classes (W_L ad am oa cI cZ cJ σ μ f) H) (hS : va_S (fun q : Nat => s.heap.size ≤ q) s.heap H locs) (hl : lv_has ls 7 [(0, .ref b), (1, .ref (ad 0 0)), (2, .ref (am 0)), (3, .ref oa), (4, .int x4)]) (h : ls_close (xs (i + 1)) (xs (i + 2)) σ μ R) : W p l e room_1 s m #[Value.ref b] below meth c H locs cells slots (lw_Z below #[Value.ref b] s) (F0 m 611 ls []) := by
  obtain ⟨hx, hb, hr, hml, hown, hts0, hX, hbl, hlocks, hgv⟩ := C0
  have hts : ∀ w ∈ TG, w.before #[Value.ref b] s = true := fun w hw => hts0 w (List.mem_filter.mp hw).1
  have hbA : ¬ (fun q : Nat => s.heap.size ≤ q) b := Nat.not_le.mpr hbl
  have hKa := E0.1.sub (tys' := tysA cI cZ) [0, 1] rfl
  unfold ls_close at h
  by_cases hz : (xs (i + 2)) = 0
  · rw [if_pos hz] at h
    refine lv_aload_n hx hb d_Law_law_611 rfl (lv_at hl 1 rfl) ?_
    refine lv_aload_n hx hb d_Law_law_612 rfl (lv_at hl 0 rfl) ?_
    refine lv_iload hx hb d_Law_law_613 (lv_at hl 4 rfl) ?_
    refine lv_iconst (v := 1) hx hb d_Law_law_615 (by decide) ?_
    refine lv_iadd hx hb d_Law_law_616 ?_
    refine l_sld hx hb hX hbl hbA hS (k := i + 1) (by rw [ex]; exact nI_add i 1) (by omega) hL d_Law_law_617 ?_
    refine lv_aload_n hx hb d_Law_law_618 rfl (lv_at hl 0 rfl) ?_
    refine lv_iload hx hb d_Law_law_619 (lv_at hl 4 rfl) ?_
    refine lv_iconst (v := 2) hx hb d_Law_law_621 (by decide) ?_
    refine lv_iadd hx hb d_Law_law_622 ?_
    refine l_sld hx hb hX hbl hbA hS (k := i + 2) (by rw [ex]; exact nI_add i 2) (by omega) hL d_Law_law_623 ?_
    refine lv_if_eq (tgt := 631) hx hb d_Law_law_624 (by decide) (fun _ => ?_) (fun hc => absurd hz hc)
    refine lv_iconst (v := 0) hx hb d_Law_law_631 (by decide) ?_
    refine va_calli (va_runV (As := [.int (xs (i + 1)), .int 0]) (rest := []) ⟨hx, hb, hml, hown, hts⟩ (t_Face_close l D cI cZ ad E0.iF (xs (i + 1)) 0 σ _ h) (cwV 2 hts (g_of kw324 kw325 kw326 kw1 kw327) rfl rfl rfl (by decide +kernel) ⟨Nat.le_of_ble_eq_true rfl, Nat.le_of_ble_eq_true rfl⟩) (ro_pre hKa (l_F hP) (va_recv hKa (l_F hP) (ci := 6) (q0 := 0) rfl rfl)) rfl rfl hl.1 rfl (lv_room (Nat.le_of_ble_eq_true rfl)) d_Law_law_632 ⟨by show cells + 0 ≤ 1094; omega, by show slots + 0 ≤ 10698; omega⟩) hS (fun _ _ h => E0.sF h) (fun _ h => E0.sF h) (fun r1 u t H1 locs ht _ h hP1 _ hk1 hS => ?_)
    have hP := jL_F E0 hP (hp_fwd ht hP1) hk1
    clear hk1 hP1 ht
    generalize H1 = H at hP hS ⊢
    refine lv_aload_n hx hb d_Law_law_635 rfl (lv_at hl 2 rfl) ?_
    refine lv_aload_n hx hb d_Law_law_636 rfl (lv_at hl 0 rfl) ?_
    refine lv_iload hx hb d_Law_law_637 (lv_at hl 4 rfl) ?_
    refine lv_iconst (v := 1) hx hb d_Law_law_639 (by decide) ?_
    refine lv_iadd hx hb d_Law_law_640 ?_
    refine l_sld hx hb hX hbl hbA hS (k := i + 1) (by rw [ex]; exact nI_add i 1) (by omega) hL d_Law_law_641 ?_
    refine lv_aload_n hx hb d_Law_law_642 rfl (lv_at hl 0 rfl) ?_
    refine lv_iload hx hb d_Law_law_643 (lv_at hl 4 rfl) ?_
    refine lv_iconst (v := 2) hx hb d_Law_law_645 (by decide) ?_
    refine lv_iadd hx hb d_Law_law_646 ?_
    refine l_sld hx hb hX hbl hbA hS (k := i + 2) (by rw [ex]; exact nI_add i 2) (by omega) hL d_Law_law_647 ?_
    refine lv_if_eq (tgt := 655) hx hb d_Law_law_648 (by decide) (fun _ => ?_) (fun hc => absurd hz hc)
    refine lv_iconst (v := 0) hx hb d_Law_law_655 (by decide) ?_
    refine va_calli (va_runV (As := [.int (xs (i + 1)), .int 0]) (rest := [.int r1]) ⟨hx, hb, hml, hown, hts⟩ (t_Model_close l D cI cZ am E0.iM (xs (i + 1)) 0 μ _ h) (cwV 2 hts (g_of kw943 kw944 kw945 kw9 kw946) rfl rfl rfl (by decide +kernel) ⟨Nat.le_of_ble_eq_true rfl, Nat.le_of_ble_eq_true rfl⟩) (ro_pre hKa (l_M hP) (va_recv hKa (l_M hP) (ci := 7) (q0 := 0) rfl rfl)) rfl rfl hl.1 rfl (lv_room (Nat.le_of_ble_eq_true rfl)) d_Law_law_656 ⟨by show cells + 0 ≤ 1094; omega, by show slots + 0 ≤ 10698; omega⟩) hS (fun _ _ h => E0.sM h) (fun _ h => E0.sM h) (fun r v t H1 locs ht _ h hP1 _ hk1 hS => ?_)
    have hP := jL_M E0 hP (hp_fwd ht hP1) hk1
    clear hk1 hP1 ht
    generalize H1 = H at hP hS ⊢
    obtain ⟨hq, hR⟩ := h
    refine lv_icmp_eq (tgt := 968) hx hb d_Law_law_659 (by decide) (fun _ => ?_) (fun hc => absurd hq hc)
    refine W.widen (k := cells + 1) (n := slots + 6) (by omega) (by omega) ?_
    exact kk _ _ _ _ _ _ hR hP hS (lv_sub hl [0, 1, 2, 3, 4] rfl)
  · rw [if_neg hz] at h
    refine lv_aload_n hx hb d_Law_law_611 rfl (lv_at hl 1 rfl) ?_
    refine lv_aload_n hx hb d_Law_law_612 rfl (lv_at hl 0 rfl) ?_
    refine lv_iload hx hb d_Law_law_613 (lv_at hl 4 rfl) ?_
    refine lv_iconst (v := 1) hx hb d_Law_law_615 (by decide) ?_
    refine lv_iadd hx hb d_Law_law_616 ?_
    refine l_sld hx hb hX hbl hbA hS (k := i + 1) (by rw [ex]; exact nI_add i 1) (by omega) hL d_Law_law_617 ?_
    refine lv_aload_n hx hb d_Law_law_618 rfl (lv_at hl 0 rfl) ?_
    refine lv_iload hx hb d_Law_law_619 (lv_at hl 4 rfl) ?_
    refine lv_iconst (v := 2) hx hb d_Law_law_621 (by decide) ?_
    refine lv_iadd hx hb d_Law_law_622 ?_
    refine l_sld hx hb hX hbl hbA hS (k := i + 2) (by rw [ex]; exact nI_add i 2) (by omega) hL d_Law_law_623 ?_
    refine lv_if_eq (tgt := 631) hx hb d_Law_law_624 (by decide) (fun hc => absurd hc hz) (fun _ => ?_)
    refine lv_iconst (v := 1) hx hb d_Law_law_627 (by decide) ?_
    refine lv_goto (tgt := 632) hx hb d_Law_law_628 (by decide) ?_
    refine va_calli (va_runV (As := [.int (xs (i + 1)), .int 1]) (rest := []) ⟨hx, hb, hml, hown, hts⟩ (t_Face_close l D cI cZ ad E0.iF (xs (i + 1)) 1 σ _ h) (cwV 2 hts (g_of kw324 kw325 kw326 kw1 kw327) rfl rfl rfl (by decide +kernel) ⟨Nat.le_of_ble_eq_true rfl, Nat.le_of_ble_eq_true rfl⟩) (ro_pre hKa (l_F hP) (va_recv hKa (l_F hP) (ci := 6) (q0 := 0) rfl rfl)) rfl rfl hl.1 rfl (lv_room (Nat.le_of_ble_eq_true rfl)) d_Law_law_632 ⟨by show cells + 0 ≤ 1094; omega, by show slots + 0 ≤ 10698; omega⟩) hS (fun _ _ h => E0.sF h) (fun _ h => E0.sF h) (fun r1 u t H1 locs ht _ h hP1 _ hk1 hS => ?_)
    have hP := jL_F E0 hP (hp_fwd ht hP1) hk1
    clear hk1 hP1 ht
    generalize H1 = H at hP hS ⊢
    refine lv_aload_n hx hb d_Law_law_635 rfl (lv_at hl 2 rfl) ?_
    refine lv_aload_n hx hb d_Law_law_636 rfl (lv_at hl 0 rfl) ?_
    refine lv_iload hx hb d_Law_law_637 (lv_at hl 4 rfl) ?_
    refine lv_iconst (v := 1) hx hb d_Law_law_639 (by decide) ?_
    refine lv_iadd hx hb d_Law_law_640 ?_
    refine l_sld hx hb hX hbl hbA hS (k := i + 1) (by rw [ex]; exact nI_add i 1) (by omega) hL d_Law_law_641 ?_
    refine lv_aload_n hx hb d_Law_law_642 rfl (lv_at hl 0 rfl) ?_
    refine lv_iload hx hb d_Law_law_643 (lv_at hl 4 rfl) ?_
    refine lv_iconst (v := 2) hx hb d_Law_law_645 (by decide) ?_
    refine lv_iadd hx hb d_Law_law_646 ?_
    refine l_sld hx hb hX hbl hbA hS (k := i + 2) (by rw [ex]; exact nI_add i 2) (by omega) hL d_Law_law_647 ?_
    refine lv_if_eq (tgt := 655) hx hb d_Law_law_648 (by decide) (fun hc => absurd hc hz) (fun _ => ?_)
    refine lv_iconst (v := 1) hx hb d_Law_law_651 (by decide) ?_
    refine lv_goto (tgt := 656) hx hb d_Law_law_652 (by decide) ?_
    refine va_calli (va_runV (As := [.int (xs (i + 1)), .int 1]) (rest := [.int r1]) ⟨hx, hb, hml, hown, hts⟩ (t_Model_close l D cI cZ am E0.iM (xs (i + 1)) 1 μ _ h) (cwV 2 hts (g_of kw943 kw944 kw945 kw9 kw946) rfl rfl rfl (by decide +kernel) ⟨Nat.le_of_ble_eq_true rfl, Nat.le_of_ble_eq_true rfl⟩) (ro_pre hKa (l_M hP) (va_recv hKa (l_M hP) (ci := 7) (q0 := 0) rfl rfl)) rfl rfl hl.1 rfl (lv_room (Nat.le_of_ble_eq_true rfl)) d_Law_law_656 ⟨by show cells + 0 ≤ 1094; omega, by show slots + 0 ≤ 10698; omega⟩) hS (fun _ _ h => E0.sM h) (fun _ h => E0.sM h) (fun r v t H1 locs ht _ h hP1 _ hk1 hS => ?_)
    have hP := jL_M E0 hP (hp_fwd ht hP1) hk1
    clear hk1 hP1 ht
    generalize H1 = H at hP hS ⊢
    obtain ⟨hq, hR⟩ := h
    refine lv_icmp_eq (tgt := 968) hx hb d_Law_law_659 (by decide) (fun _ => ?_) (fun hc => absurd hq hc)
    refine W.widen (k := cells + 1) (n := slots + 6) (by omega) (by omega) ?_
    exact kk _ _ _ _ _ _ hR hP hS (lv_sub hl [0, 1, 2, 3, 4] rfl)
def ls_charge (a1 : Int32) (σ : SG) (μ : Sg) (R : SG → Sg → Prop) : Prop := ∀ f : Nat → Int64, q_Law_charge a1 σ f (fun k u g => q_Model_charge a1 μ (fun r v => q_Model_thrown v (fun t => t = k ∧ (k = 0 → g 0 = (if r = 0 then (0 : Int64) else 1)) ∧ R u v)))
set_option maxHeartbeats 4000000 in
set_option maxRecDepth 100000 in
theorem lc_charge {p : Program} {l : Launch} {e : Env} {s : State} {m : MethodId} {below : List Frame} {meth : Method} {c : Code} {b L : Nat} {xs : Nat → Int32} (hst : l.stackTraces = false) (C0 : lw_At p s m meth c b L xs) {D : va_G} {cI cZ cJ : ClassId} {ad : Nat → Nat → Nat} {am : Nat → Nat} {oa : Nat} (E0 : lE D cI cZ cJ ad am oa s) {cells slots : Nat} (hcl : cells + 1 ≤ 1094) (hsl : slots + 6 ≤ 10698) {R : SG → Sg → Prop} {x4 : Int32} {i : Nat} (ex : x4 = nI i) (hi : i + 4 ≤ L) (hL : L ≤ 2049) (kk : lK p l e s m below meth c b D ad am oa cI cZ cJ cells slots x4 R) {σ : SG} {μ : Sg} {f : Nat → Int64} {H : Heap} {locs : List Loc} {ls : Array Slot} (hP : va_P D classes (W_L ad am oa cI cZ cJ σ μ f) H) (hS : va_S (fun q : Nat => s.heap.size ≤ q) s.heap H locs) (hl : lv_has ls 7 [(0, .ref b), (1, .ref (ad 0 0)), (2, .ref (am 0)), (3, .ref oa), (4, .int x4)]) (h : ls_charge (xs (i + 1)) σ μ R) : W p l e room_1 s m #[Value.ref b] below meth c H locs cells slots (lw_Z below #[Value.ref b] s) (F0 m 664 ls []) := by
  obtain ⟨hx, hb, hr, hml, hown, hts0, hX, hbl, hlocks, hgv⟩ := C0
  have hts : ∀ w ∈ TG, w.before #[Value.ref b] s = true := fun w hw => hts0 w (List.mem_filter.mp hw).1
  have hbA : ¬ (fun q : Nat => s.heap.size ≤ q) b := Nat.not_le.mpr hbl
  have hKa := E0.1.sub (tys' := tysA cI cZ) [0, 1] rfl
  unfold ls_charge at h
  refine lv_aload_n hx hb d_Law_law_664 rfl (lv_at hl 1 rfl) ?_
  refine lv_aload_n hx hb d_Law_law_665 rfl (lv_at hl 0 rfl) ?_
  refine lv_iload hx hb d_Law_law_666 (lv_at hl 4 rfl) ?_
  refine lv_iconst (v := 1) hx hb d_Law_law_668 (by decide) ?_
  refine lv_iadd hx hb d_Law_law_669 ?_
  refine l_sld hx hb hX hbl hbA hS (k := i + 1) (by rw [ex]; exact nI_add i 1) (by omega) hL d_Law_law_670 ?_
  refine lv_aload_n hx hb d_Law_law_671 rfl (lv_at hl 3 rfl) ?_
  have h := h f
  refine va_calli (ws_run (As := [.ref (ad 0 0), .int (xs (i + 1)), .ref oa]) (rest := []) ⟨hx, hb, hml, hown, hts⟩ (t_Law_charge l hst D cI cZ cJ ad E0.iF oa E0.no (xs (i + 1)) σ f _ h) (gW_of kw673 kw674 kw0 kw675) rfl rfl rfl (n := 3) (by decide +kernel) ⟨Nat.le_of_ble_eq_true rfl, Nat.le_of_ble_eq_true rfl⟩ (l_pre E0 hS hP) rfl rfl hl.1 rfl (lv_room (Nat.le_of_ble_eq_true rfl)) d_Law_law_672 ⟨by show cells + 1 ≤ 1094; omega, by show slots + 6 ≤ 10698; omega⟩) hS (fun _ _ h => E0.sX h) (fun _ h => E0.sX h) (fun k1 u1 t H1 locs ht _ h hP1 _ hk1 hS => ?_)
  obtain ⟨u, g⟩ := u1
  have hP := jL_X E0 hP (hp_fwd ht hP1) hk1
  clear hk1 hP1 ht
  generalize H1 = H at hP hS ⊢
  refine lv_istore (lv' := [(5, .int k1), (0, .ref b), (1, .ref (ad 0 0)), (2, .ref (am 0)), (3, .ref oa), (4, .int x4)]) hx hb d_Law_law_675 hl (by decide) rfl (fun ls hl => ?_)
  refine lv_aload_n hx hb d_Law_law_677 rfl (lv_at hl 3 rfl) ?_
  refine lv_aload_n hx hb d_Law_law_678 rfl (lv_at hl 1 rfl) ?_
  refine lv_iload hx hb d_Law_law_679 (lv_at hl 5 rfl) ?_
  refine lv_iconst (v := 1) hx hb d_Law_law_681 (by decide) ?_
  refine lv_iadd hx hb d_Law_law_682 ?_
  refine l_sld hx hb hX hbl hbA hS (k := i + 1) (by rw [ex]; exact nI_add i 1) (by omega) hL d_Law_law_683 ?_
  refine va_calli (va_runV (As := [.int (xs (i + 1))]) (rest := []) ⟨hx, hb, hml, hown, hts⟩ (t_Model_charge l D cI cZ am E0.iM (xs (i + 1)) μ _ h) (cwV 1 hts (g_of kw947 kw948 kw949 kw9 kw950) rfl rfl rfl (by decide +kernel) ⟨Nat.le_of_ble_eq_true rfl, Nat.le_of_ble_eq_true rfl⟩) (ro_pre hKa (l_M hP) (va_recv hKa (l_M hP) (ci := 7) (q0 := 0) rfl rfl)) rfl rfl hl.1 rfl (lv_room (Nat.le_of_ble_eq_true rfl)) d_Law_law_684 ⟨by show cells + 1 + 0 ≤ 1094; omega, by show slots + 6 + 0 ≤ 10698; omega⟩) hS (fun _ _ h => E0.sM h) (fun _ h => E0.sM h) (fun r v t H1 locs ht _ h hP1 _ hk1 hS => ?_)
  have hP := jL_M E0 hP (hp_fwd ht hP1) hk1
  clear hk1 hP1 ht
  generalize H1 = H at hP hS ⊢
  refine lv_istore (lv' := [(6, .int r), (5, .int k1), (0, .ref b), (1, .ref (ad 0 0)), (2, .ref (am 0)), (3, .ref oa), (4, .int x4)]) hx hb d_Law_law_687 hl (by decide) rfl (fun ls hl => ?_)
  refine lv_aload_n hx hb d_Law_law_689 rfl (lv_at hl 4 rfl) ?_
  refine vp_callSi (W.runV (As := []) (rest := []) ⟨hx, hb, hml, hown, hts⟩ (t_Model_thrown l D cI cZ am v _ h) (cwV 0 hts (g_of kw837 kw838 kw839 kw9 kw840) rfl rfl rfl (by decide +kernel) ⟨Nat.le_of_ble_eq_true rfl, Nat.le_of_ble_eq_true rfl⟩) (ro_pre hKa (l_M hP) (va_recv hKa (l_M hP) (ci := 7) (q0 := 0) rfl rfl)) rfl rfl hl.1 rfl (lv_room (Nat.le_of_ble_eq_true rfl)) d_Law_law_690 ⟨by show cells + 1 + 0 ≤ 1094; omega, by show slots + 6 + 0 ≤ 10698; omega⟩) (fun t1 h => ?_)
  obtain ⟨ht1, hg0, hR⟩ := h
  refine lv_iload hx hb d_Law_law_693 (lv_at hl 1 rfl) ?_
  refine lv_icmp_eq (tgt := 700) hx hb d_Law_law_695 (by decide) (fun _ => ?_) (fun hc => absurd ht1 hc)
  refine lv_iload hx hb d_Law_law_700 (lv_at hl 1 rfl) ?_
  refine lv_if_ne (tgt := 724) hx hb d_Law_law_702 (by decide) (fun _ => ?_) (fun hc => ?_)
  · refine lv_goto (tgt := 968) hx hb d_Law_law_724 (by decide) ?_
    exact kk _ _ _ _ _ _ hR hP hS (lv_sub hl [2, 3, 4, 5, 6] rfl)
  · refine lv_aload_n hx hb d_Law_law_705 rfl (lv_at hl 5 rfl) ?_
    refine lv_iconst (v := 0) hx hb d_Law_law_706 (by decide) ?_
    refine va_lald hx hb E0.1 hP 50 2 rfl rfl (by unfold vp_in; decide) d_Law_law_707 ?_
    refine lv_iload hx hb d_Law_law_708 (lv_at hl 0 rfl) ?_
    refine lv_if_eq (tgt := 717) hx hb d_Law_law_710 (by decide) (fun hc2 => ?_) (fun hc2 => ?_)
    · rw [if_pos hc2] at hg0
      refine lv_lconst (v := 0) hx hb d_Law_law_717 (by decide) ?_
      refine W.lcmp hx hb d_Law_law_718 ?_
      refine lv_if_eq (tgt := 724) hx hb d_Law_law_719 (by decide) (fun _ => ?_) (fun hc9 => absurd ((lg_cmp_eq _ _).mpr (hg0 hc)) hc9)
      refine lv_goto (tgt := 968) hx hb d_Law_law_724 (by decide) ?_
      exact kk _ _ _ _ _ _ hR hP hS (lv_sub hl [2, 3, 4, 5, 6] rfl)
    · rw [if_neg hc2] at hg0
      refine lv_lconst (v := 1) hx hb d_Law_law_713 (by decide) ?_
      refine lv_goto (tgt := 718) hx hb d_Law_law_714 (by decide) ?_
      refine W.lcmp hx hb d_Law_law_718 ?_
      refine lv_if_eq (tgt := 724) hx hb d_Law_law_719 (by decide) (fun _ => ?_) (fun hc9 => absurd ((lg_cmp_eq _ _).mpr (hg0 hc)) hc9)
      refine lv_goto (tgt := 968) hx hb d_Law_law_724 (by decide) ?_
      exact kk _ _ _ _ _ _ hR hP hS (lv_sub hl [2, 3, 4, 5, 6] rfl)
def ls_way (a1 a2 a3 : Int32) (σ : SG) (μ : Sg) (R : SG → Sg → Prop) : Prop := ∀ f : Nat → Int64, q_Law_way a1 a2 a3 σ f (fun k u g => q_Model_way a1 a2 a3 μ (fun r v => q_Model_thrown v (fun t => t = k ∧ (k = 0 → g 0 = r.toInt64) ∧ R u v)))
set_option maxHeartbeats 4000000 in
set_option maxRecDepth 100000 in
theorem lc_way {p : Program} {l : Launch} {e : Env} {s : State} {m : MethodId} {below : List Frame} {meth : Method} {c : Code} {b L : Nat} {xs : Nat → Int32} (hst : l.stackTraces = false) (C0 : lw_At p s m meth c b L xs) {D : va_G} {cI cZ cJ : ClassId} {ad : Nat → Nat → Nat} {am : Nat → Nat} {oa : Nat} (E0 : lE D cI cZ cJ ad am oa s) {cells slots : Nat} (hcl : cells + 1 ≤ 1094) (hsl : slots + 6 ≤ 10698) {R : SG → Sg → Prop} {x4 : Int32} {i : Nat} (ex : x4 = nI i) (hi : i + 4 ≤ L) (hL : L ≤ 2049) (kk : lK p l e s m below meth c b D ad am oa cI cZ cJ cells slots x4 R) {σ : SG} {μ : Sg} {f : Nat → Int64} {H : Heap} {locs : List Loc} {ls : Array Slot} (hP : va_P D classes (W_L ad am oa cI cZ cJ σ μ f) H) (hS : va_S (fun q : Nat => s.heap.size ≤ q) s.heap H locs) (hl : lv_has ls 7 [(0, .ref b), (1, .ref (ad 0 0)), (2, .ref (am 0)), (3, .ref oa), (4, .int x4)]) (h : ls_way (xs (i + 1)) (xs (i + 2)) (xs (i + 3)) σ μ R) : W p l e room_1 s m #[Value.ref b] below meth c H locs cells slots (lw_Z below #[Value.ref b] s) (F0 m 727 ls []) := by
  obtain ⟨hx, hb, hr, hml, hown, hts0, hX, hbl, hlocks, hgv⟩ := C0
  have hts : ∀ w ∈ TG, w.before #[Value.ref b] s = true := fun w hw => hts0 w (List.mem_filter.mp hw).1
  have hbA : ¬ (fun q : Nat => s.heap.size ≤ q) b := Nat.not_le.mpr hbl
  have hKa := E0.1.sub (tys' := tysA cI cZ) [0, 1] rfl
  unfold ls_way at h
  refine lv_aload_n hx hb d_Law_law_727 rfl (lv_at hl 1 rfl) ?_
  refine lv_aload_n hx hb d_Law_law_728 rfl (lv_at hl 0 rfl) ?_
  refine lv_iload hx hb d_Law_law_729 (lv_at hl 4 rfl) ?_
  refine lv_iconst (v := 1) hx hb d_Law_law_731 (by decide) ?_
  refine lv_iadd hx hb d_Law_law_732 ?_
  refine l_sld hx hb hX hbl hbA hS (k := i + 1) (by rw [ex]; exact nI_add i 1) (by omega) hL d_Law_law_733 ?_
  refine lv_aload_n hx hb d_Law_law_734 rfl (lv_at hl 0 rfl) ?_
  refine lv_iload hx hb d_Law_law_735 (lv_at hl 4 rfl) ?_
  refine lv_iconst (v := 2) hx hb d_Law_law_737 (by decide) ?_
  refine lv_iadd hx hb d_Law_law_738 ?_
  refine l_sld hx hb hX hbl hbA hS (k := i + 2) (by rw [ex]; exact nI_add i 2) (by omega) hL d_Law_law_739 ?_
  refine lv_aload_n hx hb d_Law_law_740 rfl (lv_at hl 0 rfl) ?_
  refine lv_iload hx hb d_Law_law_741 (lv_at hl 4 rfl) ?_
  refine lv_iconst (v := 3) hx hb d_Law_law_743 (by decide) ?_
  refine lv_iadd hx hb d_Law_law_744 ?_
  refine l_sld hx hb hX hbl hbA hS (k := i + 3) (by rw [ex]; exact nI_add i 3) (by omega) hL d_Law_law_745 ?_
  refine lv_aload_n hx hb d_Law_law_746 rfl (lv_at hl 3 rfl) ?_
  have h := h f
  refine va_calli (ws_run (As := [.ref (ad 0 0), .int (xs (i + 1)), .int (xs (i + 2)), .int (xs (i + 3)), .ref oa]) (rest := []) ⟨hx, hb, hml, hown, hts⟩ (t_Law_way l hst D cI cZ cJ ad E0.iF oa E0.no (xs (i + 1)) (xs (i + 2)) (xs (i + 3)) σ f _ h) (gW_of kw684 kw685 kw0 kw686) rfl rfl rfl (n := 5) (by decide +kernel) ⟨Nat.le_of_ble_eq_true rfl, Nat.le_of_ble_eq_true rfl⟩ (l_pre E0 hS hP) rfl rfl hl.1 rfl (lv_room (Nat.le_of_ble_eq_true rfl)) d_Law_law_747 ⟨by show cells + 1 ≤ 1094; omega, by show slots + 6 ≤ 10698; omega⟩) hS (fun _ _ h => E0.sX h) (fun _ h => E0.sX h) (fun k1 u1 t H1 locs ht _ h hP1 _ hk1 hS => ?_)
  obtain ⟨u, g⟩ := u1
  have hP := jL_X E0 hP (hp_fwd ht hP1) hk1
  clear hk1 hP1 ht
  generalize H1 = H at hP hS ⊢
  refine lv_istore (lv' := [(5, .int k1), (0, .ref b), (1, .ref (ad 0 0)), (2, .ref (am 0)), (3, .ref oa), (4, .int x4)]) hx hb d_Law_law_750 hl (by decide) rfl (fun ls hl => ?_)
  refine lv_aload_n hx hb d_Law_law_752 rfl (lv_at hl 3 rfl) ?_
  refine lv_aload_n hx hb d_Law_law_753 rfl (lv_at hl 1 rfl) ?_
  refine lv_iload hx hb d_Law_law_754 (lv_at hl 5 rfl) ?_
  refine lv_iconst (v := 1) hx hb d_Law_law_756 (by decide) ?_
  refine lv_iadd hx hb d_Law_law_757 ?_
  refine l_sld hx hb hX hbl hbA hS (k := i + 1) (by rw [ex]; exact nI_add i 1) (by omega) hL d_Law_law_758 ?_
  refine lv_aload_n hx hb d_Law_law_759 rfl (lv_at hl 1 rfl) ?_
  refine lv_iload hx hb d_Law_law_760 (lv_at hl 5 rfl) ?_
  refine lv_iconst (v := 2) hx hb d_Law_law_762 (by decide) ?_
  refine lv_iadd hx hb d_Law_law_763 ?_
  refine l_sld hx hb hX hbl hbA hS (k := i + 2) (by rw [ex]; exact nI_add i 2) (by omega) hL d_Law_law_764 ?_
  refine lv_aload_n hx hb d_Law_law_765 rfl (lv_at hl 1 rfl) ?_
  refine lv_iload hx hb d_Law_law_766 (lv_at hl 5 rfl) ?_
  refine lv_iconst (v := 3) hx hb d_Law_law_768 (by decide) ?_
  refine lv_iadd hx hb d_Law_law_769 ?_
  refine l_sld hx hb hX hbl hbA hS (k := i + 3) (by rw [ex]; exact nI_add i 3) (by omega) hL d_Law_law_770 ?_
  refine va_calli (va_runV (As := [.int (xs (i + 1)), .int (xs (i + 2)), .int (xs (i + 3))]) (rest := []) ⟨hx, hb, hml, hown, hts⟩ (t_Model_way l D cI cZ am E0.iM (xs (i + 1)) (xs (i + 2)) (xs (i + 3)) μ _ h) (cwV 3 hts (g_of kw841 kw842 kw843 kw9 kw844) rfl rfl rfl (by decide +kernel) ⟨Nat.le_of_ble_eq_true rfl, Nat.le_of_ble_eq_true rfl⟩) (ro_pre hKa (l_M hP) (va_recv hKa (l_M hP) (ci := 7) (q0 := 0) rfl rfl)) rfl rfl hl.1 rfl (lv_room (Nat.le_of_ble_eq_true rfl)) d_Law_law_771 ⟨by show cells + 1 + 0 ≤ 1094; omega, by show slots + 6 + 0 ≤ 10698; omega⟩) hS (fun _ _ h => E0.sM h) (fun _ h => E0.sM h) (fun r v t H1 locs ht _ h hP1 _ hk1 hS => ?_)
  have hP := jL_M E0 hP (hp_fwd ht hP1) hk1
  clear hk1 hP1 ht
  generalize H1 = H at hP hS ⊢
  refine lv_istore (lv' := [(6, .int r), (5, .int k1), (0, .ref b), (1, .ref (ad 0 0)), (2, .ref (am 0)), (3, .ref oa), (4, .int x4)]) hx hb d_Law_law_774 hl (by decide) rfl (fun ls hl => ?_)
  refine lv_aload_n hx hb d_Law_law_776 rfl (lv_at hl 4 rfl) ?_
  refine vp_callSi (W.runV (As := []) (rest := []) ⟨hx, hb, hml, hown, hts⟩ (t_Model_thrown l D cI cZ am v _ h) (cwV 0 hts (g_of kw837 kw838 kw839 kw9 kw840) rfl rfl rfl (by decide +kernel) ⟨Nat.le_of_ble_eq_true rfl, Nat.le_of_ble_eq_true rfl⟩) (ro_pre hKa (l_M hP) (va_recv hKa (l_M hP) (ci := 7) (q0 := 0) rfl rfl)) rfl rfl hl.1 rfl (lv_room (Nat.le_of_ble_eq_true rfl)) d_Law_law_777 ⟨by show cells + 1 + 0 ≤ 1094; omega, by show slots + 6 + 0 ≤ 10698; omega⟩) (fun t1 h => ?_)
  obtain ⟨ht1, hg0, hR⟩ := h
  refine lv_iload hx hb d_Law_law_780 (lv_at hl 1 rfl) ?_
  refine lv_icmp_eq (tgt := 787) hx hb d_Law_law_782 (by decide) (fun _ => ?_) (fun hc => absurd ht1 hc)
  refine lv_iload hx hb d_Law_law_787 (lv_at hl 1 rfl) ?_
  refine lv_if_ne (tgt := 804) hx hb d_Law_law_789 (by decide) (fun _ => ?_) (fun hc => ?_)
  · refine lv_goto (tgt := 968) hx hb d_Law_law_804 (by decide) ?_
    exact kk _ _ _ _ _ _ hR hP hS (lv_sub hl [2, 3, 4, 5, 6] rfl)
  · refine lv_aload_n hx hb d_Law_law_792 rfl (lv_at hl 5 rfl) ?_
    refine lv_iconst (v := 0) hx hb d_Law_law_793 (by decide) ?_
    refine va_lald hx hb E0.1 hP 50 2 rfl rfl (by unfold vp_in; decide) d_Law_law_794 ?_
    refine lv_iload hx hb d_Law_law_795 (lv_at hl 0 rfl) ?_
    refine lv_i2l (v := r.toInt64) hx hb d_Law_law_797 rfl ?_
    refine W.lcmp hx hb d_Law_law_798 ?_
    refine lv_if_eq (tgt := 804) hx hb d_Law_law_799 (by decide) (fun _ => ?_) (fun hc9 => absurd ((lg_cmp_eq _ _).mpr (hg0 hc)) hc9)
    refine lv_goto (tgt := 968) hx hb d_Law_law_804 (by decide) ?_
    exact kk _ _ _ _ _ _ hR hP hS (lv_sub hl [2, 3, 4, 5, 6] rfl)
def ls_look (a1 a2 : Int32) (σ : SG) (μ : Sg) (R : SG → Sg → Prop) : Prop := ∀ f : Nat → Int64, q_Law_look a1 a2 σ f (fun k u g => q_Model_look a1 a2 μ (fun r v => q_Model_thrown v (fun t => t = k ∧ (k = 0 → g 0 = r.toInt64) ∧ R u v)))
set_option maxHeartbeats 4000000 in
set_option maxRecDepth 100000 in
theorem lc_look {p : Program} {l : Launch} {e : Env} {s : State} {m : MethodId} {below : List Frame} {meth : Method} {c : Code} {b L : Nat} {xs : Nat → Int32} (hst : l.stackTraces = false) (C0 : lw_At p s m meth c b L xs) {D : va_G} {cI cZ cJ : ClassId} {ad : Nat → Nat → Nat} {am : Nat → Nat} {oa : Nat} (E0 : lE D cI cZ cJ ad am oa s) {cells slots : Nat} (hcl : cells + 1 ≤ 1094) (hsl : slots + 6 ≤ 10698) {R : SG → Sg → Prop} {x4 : Int32} {i : Nat} (ex : x4 = nI i) (hi : i + 4 ≤ L) (hL : L ≤ 2049) (kk : lK p l e s m below meth c b D ad am oa cI cZ cJ cells slots x4 R) {σ : SG} {μ : Sg} {f : Nat → Int64} {H : Heap} {locs : List Loc} {ls : Array Slot} (hP : va_P D classes (W_L ad am oa cI cZ cJ σ μ f) H) (hS : va_S (fun q : Nat => s.heap.size ≤ q) s.heap H locs) (hl : lv_has ls 7 [(0, .ref b), (1, .ref (ad 0 0)), (2, .ref (am 0)), (3, .ref oa), (4, .int x4)]) (h : ls_look (xs (i + 1)) (xs (i + 2)) σ μ R) : W p l e room_1 s m #[Value.ref b] below meth c H locs cells slots (lw_Z below #[Value.ref b] s) (F0 m 807 ls []) := by
  obtain ⟨hx, hb, hr, hml, hown, hts0, hX, hbl, hlocks, hgv⟩ := C0
  have hts : ∀ w ∈ TG, w.before #[Value.ref b] s = true := fun w hw => hts0 w (List.mem_filter.mp hw).1
  have hbA : ¬ (fun q : Nat => s.heap.size ≤ q) b := Nat.not_le.mpr hbl
  have hKa := E0.1.sub (tys' := tysA cI cZ) [0, 1] rfl
  unfold ls_look at h
  refine lv_aload_n hx hb d_Law_law_807 rfl (lv_at hl 1 rfl) ?_
  refine lv_aload_n hx hb d_Law_law_808 rfl (lv_at hl 0 rfl) ?_
  refine lv_iload hx hb d_Law_law_809 (lv_at hl 4 rfl) ?_
  refine lv_iconst (v := 1) hx hb d_Law_law_811 (by decide) ?_
  refine lv_iadd hx hb d_Law_law_812 ?_
  refine l_sld hx hb hX hbl hbA hS (k := i + 1) (by rw [ex]; exact nI_add i 1) (by omega) hL d_Law_law_813 ?_
  refine lv_aload_n hx hb d_Law_law_814 rfl (lv_at hl 0 rfl) ?_
  refine lv_iload hx hb d_Law_law_815 (lv_at hl 4 rfl) ?_
  refine lv_iconst (v := 2) hx hb d_Law_law_817 (by decide) ?_
  refine lv_iadd hx hb d_Law_law_818 ?_
  refine l_sld hx hb hX hbl hbA hS (k := i + 2) (by rw [ex]; exact nI_add i 2) (by omega) hL d_Law_law_819 ?_
  refine lv_aload_n hx hb d_Law_law_820 rfl (lv_at hl 3 rfl) ?_
  have h := h f
  refine va_calli (ws_run (As := [.ref (ad 0 0), .int (xs (i + 1)), .int (xs (i + 2)), .ref oa]) (rest := []) ⟨hx, hb, hml, hown, hts⟩ (t_Law_look l hst D cI cZ cJ ad E0.iF oa E0.no (xs (i + 1)) (xs (i + 2)) σ f _ h) (gW_of kw702 kw703 kw0 kw704) rfl rfl rfl (n := 4) (by decide +kernel) ⟨Nat.le_of_ble_eq_true rfl, Nat.le_of_ble_eq_true rfl⟩ (l_pre E0 hS hP) rfl rfl hl.1 rfl (lv_room (Nat.le_of_ble_eq_true rfl)) d_Law_law_821 ⟨by show cells + 1 ≤ 1094; omega, by show slots + 6 ≤ 10698; omega⟩) hS (fun _ _ h => E0.sX h) (fun _ h => E0.sX h) (fun k1 u1 t H1 locs ht _ h hP1 _ hk1 hS => ?_)
  obtain ⟨u, g⟩ := u1
  have hP := jL_X E0 hP (hp_fwd ht hP1) hk1
  clear hk1 hP1 ht
  generalize H1 = H at hP hS ⊢
  refine lv_istore (lv' := [(5, .int k1), (0, .ref b), (1, .ref (ad 0 0)), (2, .ref (am 0)), (3, .ref oa), (4, .int x4)]) hx hb d_Law_law_824 hl (by decide) rfl (fun ls hl => ?_)
  refine lv_aload_n hx hb d_Law_law_826 rfl (lv_at hl 3 rfl) ?_
  refine lv_aload_n hx hb d_Law_law_827 rfl (lv_at hl 1 rfl) ?_
  refine lv_iload hx hb d_Law_law_828 (lv_at hl 5 rfl) ?_
  refine lv_iconst (v := 1) hx hb d_Law_law_830 (by decide) ?_
  refine lv_iadd hx hb d_Law_law_831 ?_
  refine l_sld hx hb hX hbl hbA hS (k := i + 1) (by rw [ex]; exact nI_add i 1) (by omega) hL d_Law_law_832 ?_
  refine lv_aload_n hx hb d_Law_law_833 rfl (lv_at hl 1 rfl) ?_
  refine lv_iload hx hb d_Law_law_834 (lv_at hl 5 rfl) ?_
  refine lv_iconst (v := 2) hx hb d_Law_law_836 (by decide) ?_
  refine lv_iadd hx hb d_Law_law_837 ?_
  refine l_sld hx hb hX hbl hbA hS (k := i + 2) (by rw [ex]; exact nI_add i 2) (by omega) hL d_Law_law_838 ?_
  refine va_calli (va_runV (As := [.int (xs (i + 1)), .int (xs (i + 2))]) (rest := []) ⟨hx, hb, hml, hown, hts⟩ (t_Model_look l D cI cZ am E0.iM (xs (i + 1)) (xs (i + 2)) μ _ h) (cwV 2 hts (g_of kw951 kw952 kw953 kw9 kw954) rfl rfl rfl (by decide +kernel) ⟨Nat.le_of_ble_eq_true rfl, Nat.le_of_ble_eq_true rfl⟩) (ro_pre hKa (l_M hP) (va_recv hKa (l_M hP) (ci := 7) (q0 := 0) rfl rfl)) rfl rfl hl.1 rfl (lv_room (Nat.le_of_ble_eq_true rfl)) d_Law_law_839 ⟨by show cells + 1 + 0 ≤ 1094; omega, by show slots + 6 + 0 ≤ 10698; omega⟩) hS (fun _ _ h => E0.sM h) (fun _ h => E0.sM h) (fun r v t H1 locs ht _ h hP1 _ hk1 hS => ?_)
  have hP := jL_M E0 hP (hp_fwd ht hP1) hk1
  clear hk1 hP1 ht
  generalize H1 = H at hP hS ⊢
  refine lv_istore (lv' := [(6, .int r), (5, .int k1), (0, .ref b), (1, .ref (ad 0 0)), (2, .ref (am 0)), (3, .ref oa), (4, .int x4)]) hx hb d_Law_law_842 hl (by decide) rfl (fun ls hl => ?_)
  refine lv_aload_n hx hb d_Law_law_844 rfl (lv_at hl 4 rfl) ?_
  refine vp_callSi (W.runV (As := []) (rest := []) ⟨hx, hb, hml, hown, hts⟩ (t_Model_thrown l D cI cZ am v _ h) (cwV 0 hts (g_of kw837 kw838 kw839 kw9 kw840) rfl rfl rfl (by decide +kernel) ⟨Nat.le_of_ble_eq_true rfl, Nat.le_of_ble_eq_true rfl⟩) (ro_pre hKa (l_M hP) (va_recv hKa (l_M hP) (ci := 7) (q0 := 0) rfl rfl)) rfl rfl hl.1 rfl (lv_room (Nat.le_of_ble_eq_true rfl)) d_Law_law_845 ⟨by show cells + 1 + 0 ≤ 1094; omega, by show slots + 6 + 0 ≤ 10698; omega⟩) (fun t1 h => ?_)
  obtain ⟨ht1, hg0, hR⟩ := h
  refine lv_iload hx hb d_Law_law_848 (lv_at hl 1 rfl) ?_
  refine lv_icmp_eq (tgt := 855) hx hb d_Law_law_850 (by decide) (fun _ => ?_) (fun hc => absurd ht1 hc)
  refine lv_iload hx hb d_Law_law_855 (lv_at hl 1 rfl) ?_
  refine lv_if_ne (tgt := 872) hx hb d_Law_law_857 (by decide) (fun _ => ?_) (fun hc => ?_)
  · refine lv_goto (tgt := 968) hx hb d_Law_law_872 (by decide) ?_
    exact kk _ _ _ _ _ _ hR hP hS (lv_sub hl [2, 3, 4, 5, 6] rfl)
  · refine lv_aload_n hx hb d_Law_law_860 rfl (lv_at hl 5 rfl) ?_
    refine lv_iconst (v := 0) hx hb d_Law_law_861 (by decide) ?_
    refine va_lald hx hb E0.1 hP 50 2 rfl rfl (by unfold vp_in; decide) d_Law_law_862 ?_
    refine lv_iload hx hb d_Law_law_863 (lv_at hl 0 rfl) ?_
    refine lv_i2l (v := r.toInt64) hx hb d_Law_law_865 rfl ?_
    refine W.lcmp hx hb d_Law_law_866 ?_
    refine lv_if_eq (tgt := 872) hx hb d_Law_law_867 (by decide) (fun _ => ?_) (fun hc9 => absurd ((lg_cmp_eq _ _).mpr (hg0 hc)) hc9)
    refine lv_goto (tgt := 968) hx hb d_Law_law_872 (by decide) ?_
    exact kk _ _ _ _ _ _ hR hP hS (lv_sub hl [2, 3, 4, 5, 6] rfl)
def ls_of (a1 a2 : Int32) (σ : SG) (μ : Sg) (R : SG → Sg → Prop) : Prop := ∀ f : Nat → Int64, q_Law_of a1 a2 σ f (fun k u g => q_Model_of a1 a2 μ (fun r v => q_Model_thrown v (fun t => t = k ∧ (k = 0 → g 0 = r.toInt64) ∧ R u v)))
set_option maxHeartbeats 4000000 in
set_option maxRecDepth 100000 in
theorem lc_of {p : Program} {l : Launch} {e : Env} {s : State} {m : MethodId} {below : List Frame} {meth : Method} {c : Code} {b L : Nat} {xs : Nat → Int32} (hst : l.stackTraces = false) (C0 : lw_At p s m meth c b L xs) {D : va_G} {cI cZ cJ : ClassId} {ad : Nat → Nat → Nat} {am : Nat → Nat} {oa : Nat} (E0 : lE D cI cZ cJ ad am oa s) {cells slots : Nat} (hcl : cells + 1 ≤ 1094) (hsl : slots + 6 ≤ 10698) {R : SG → Sg → Prop} {x4 : Int32} {i : Nat} (ex : x4 = nI i) (hi : i + 4 ≤ L) (hL : L ≤ 2049) (kk : lK p l e s m below meth c b D ad am oa cI cZ cJ cells slots x4 R) {σ : SG} {μ : Sg} {f : Nat → Int64} {H : Heap} {locs : List Loc} {ls : Array Slot} (hP : va_P D classes (W_L ad am oa cI cZ cJ σ μ f) H) (hS : va_S (fun q : Nat => s.heap.size ≤ q) s.heap H locs) (hl : lv_has ls 7 [(0, .ref b), (1, .ref (ad 0 0)), (2, .ref (am 0)), (3, .ref oa), (4, .int x4)]) (h : ls_of (xs (i + 1)) (xs (i + 2)) σ μ R) : W p l e room_1 s m #[Value.ref b] below meth c H locs cells slots (lw_Z below #[Value.ref b] s) (F0 m 875 ls []) := by
  obtain ⟨hx, hb, hr, hml, hown, hts0, hX, hbl, hlocks, hgv⟩ := C0
  have hts : ∀ w ∈ TG, w.before #[Value.ref b] s = true := fun w hw => hts0 w (List.mem_filter.mp hw).1
  have hbA : ¬ (fun q : Nat => s.heap.size ≤ q) b := Nat.not_le.mpr hbl
  have hKa := E0.1.sub (tys' := tysA cI cZ) [0, 1] rfl
  unfold ls_of at h
  refine lv_aload_n hx hb d_Law_law_875 rfl (lv_at hl 1 rfl) ?_
  refine lv_aload_n hx hb d_Law_law_876 rfl (lv_at hl 0 rfl) ?_
  refine lv_iload hx hb d_Law_law_877 (lv_at hl 4 rfl) ?_
  refine lv_iconst (v := 1) hx hb d_Law_law_879 (by decide) ?_
  refine lv_iadd hx hb d_Law_law_880 ?_
  refine l_sld hx hb hX hbl hbA hS (k := i + 1) (by rw [ex]; exact nI_add i 1) (by omega) hL d_Law_law_881 ?_
  refine lv_aload_n hx hb d_Law_law_882 rfl (lv_at hl 0 rfl) ?_
  refine lv_iload hx hb d_Law_law_883 (lv_at hl 4 rfl) ?_
  refine lv_iconst (v := 2) hx hb d_Law_law_885 (by decide) ?_
  refine lv_iadd hx hb d_Law_law_886 ?_
  refine l_sld hx hb hX hbl hbA hS (k := i + 2) (by rw [ex]; exact nI_add i 2) (by omega) hL d_Law_law_887 ?_
  refine lv_aload_n hx hb d_Law_law_888 rfl (lv_at hl 3 rfl) ?_
  have h := h f
  refine va_calli (ws_run (As := [.ref (ad 0 0), .int (xs (i + 1)), .int (xs (i + 2)), .ref oa]) (rest := []) ⟨hx, hb, hml, hown, hts⟩ (t_Law_of l hst D cI cZ cJ ad E0.iF oa E0.no (xs (i + 1)) (xs (i + 2)) σ f _ h) (gW_of kw725 kw726 kw0 kw727) rfl rfl rfl (n := 4) (by decide +kernel) ⟨Nat.le_of_ble_eq_true rfl, Nat.le_of_ble_eq_true rfl⟩ (l_pre E0 hS hP) rfl rfl hl.1 rfl (lv_room (Nat.le_of_ble_eq_true rfl)) d_Law_law_889 ⟨by show cells + 1 ≤ 1094; omega, by show slots + 6 ≤ 10698; omega⟩) hS (fun _ _ h => E0.sX h) (fun _ h => E0.sX h) (fun k1 u1 t H1 locs ht _ h hP1 _ hk1 hS => ?_)
  obtain ⟨u, g⟩ := u1
  have hP := jL_X E0 hP (hp_fwd ht hP1) hk1
  clear hk1 hP1 ht
  generalize H1 = H at hP hS ⊢
  refine lv_istore (lv' := [(5, .int k1), (0, .ref b), (1, .ref (ad 0 0)), (2, .ref (am 0)), (3, .ref oa), (4, .int x4)]) hx hb d_Law_law_892 hl (by decide) rfl (fun ls hl => ?_)
  refine lv_aload_n hx hb d_Law_law_894 rfl (lv_at hl 3 rfl) ?_
  refine lv_aload_n hx hb d_Law_law_895 rfl (lv_at hl 1 rfl) ?_
  refine lv_iload hx hb d_Law_law_896 (lv_at hl 5 rfl) ?_
  refine lv_iconst (v := 1) hx hb d_Law_law_898 (by decide) ?_
  refine lv_iadd hx hb d_Law_law_899 ?_
  refine l_sld hx hb hX hbl hbA hS (k := i + 1) (by rw [ex]; exact nI_add i 1) (by omega) hL d_Law_law_900 ?_
  refine lv_aload_n hx hb d_Law_law_901 rfl (lv_at hl 1 rfl) ?_
  refine lv_iload hx hb d_Law_law_902 (lv_at hl 5 rfl) ?_
  refine lv_iconst (v := 2) hx hb d_Law_law_904 (by decide) ?_
  refine lv_iadd hx hb d_Law_law_905 ?_
  refine l_sld hx hb hX hbl hbA hS (k := i + 2) (by rw [ex]; exact nI_add i 2) (by omega) hL d_Law_law_906 ?_
  refine va_calli (va_runV (As := [.int (xs (i + 1)), .int (xs (i + 2))]) (rest := []) ⟨hx, hb, hml, hown, hts⟩ (t_Model_of l D cI cZ am E0.iM (xs (i + 1)) (xs (i + 2)) μ _ h) (cwV 2 hts (g_of kw955 kw956 kw957 kw9 kw958) rfl rfl rfl (by decide +kernel) ⟨Nat.le_of_ble_eq_true rfl, Nat.le_of_ble_eq_true rfl⟩) (ro_pre hKa (l_M hP) (va_recv hKa (l_M hP) (ci := 7) (q0 := 0) rfl rfl)) rfl rfl hl.1 rfl (lv_room (Nat.le_of_ble_eq_true rfl)) d_Law_law_907 ⟨by show cells + 1 + 0 ≤ 1094; omega, by show slots + 6 + 0 ≤ 10698; omega⟩) hS (fun _ _ h => E0.sM h) (fun _ h => E0.sM h) (fun r v t H1 locs ht _ h hP1 _ hk1 hS => ?_)
  have hP := jL_M E0 hP (hp_fwd ht hP1) hk1
  clear hk1 hP1 ht
  generalize H1 = H at hP hS ⊢
  refine lv_istore (lv' := [(6, .int r), (5, .int k1), (0, .ref b), (1, .ref (ad 0 0)), (2, .ref (am 0)), (3, .ref oa), (4, .int x4)]) hx hb d_Law_law_910 hl (by decide) rfl (fun ls hl => ?_)
  refine lv_aload_n hx hb d_Law_law_912 rfl (lv_at hl 4 rfl) ?_
  refine vp_callSi (W.runV (As := []) (rest := []) ⟨hx, hb, hml, hown, hts⟩ (t_Model_thrown l D cI cZ am v _ h) (cwV 0 hts (g_of kw837 kw838 kw839 kw9 kw840) rfl rfl rfl (by decide +kernel) ⟨Nat.le_of_ble_eq_true rfl, Nat.le_of_ble_eq_true rfl⟩) (ro_pre hKa (l_M hP) (va_recv hKa (l_M hP) (ci := 7) (q0 := 0) rfl rfl)) rfl rfl hl.1 rfl (lv_room (Nat.le_of_ble_eq_true rfl)) d_Law_law_913 ⟨by show cells + 1 + 0 ≤ 1094; omega, by show slots + 6 + 0 ≤ 10698; omega⟩) (fun t1 h => ?_)
  obtain ⟨ht1, hg0, hR⟩ := h
  refine lv_iload hx hb d_Law_law_916 (lv_at hl 1 rfl) ?_
  refine lv_icmp_eq (tgt := 923) hx hb d_Law_law_918 (by decide) (fun _ => ?_) (fun hc => absurd ht1 hc)
  refine lv_iload hx hb d_Law_law_923 (lv_at hl 1 rfl) ?_
  refine lv_if_ne (tgt := 940) hx hb d_Law_law_925 (by decide) (fun _ => ?_) (fun hc => ?_)
  · refine lv_goto (tgt := 968) hx hb d_Law_law_940 (by decide) ?_
    exact kk _ _ _ _ _ _ hR hP hS (lv_sub hl [2, 3, 4, 5, 6] rfl)
  · refine lv_aload_n hx hb d_Law_law_928 rfl (lv_at hl 5 rfl) ?_
    refine lv_iconst (v := 0) hx hb d_Law_law_929 (by decide) ?_
    refine va_lald hx hb E0.1 hP 50 2 rfl rfl (by unfold vp_in; decide) d_Law_law_930 ?_
    refine lv_iload hx hb d_Law_law_931 (lv_at hl 0 rfl) ?_
    refine lv_i2l (v := r.toInt64) hx hb d_Law_law_933 rfl ?_
    refine W.lcmp hx hb d_Law_law_934 ?_
    refine lv_if_eq (tgt := 940) hx hb d_Law_law_935 (by decide) (fun _ => ?_) (fun hc9 => absurd ((lg_cmp_eq _ _).mpr (hg0 hc)) hc9)
    refine lv_goto (tgt := 968) hx hb d_Law_law_940 (by decide) ?_
    exact kk _ _ _ _ _ _ hR hP hS (lv_sub hl [2, 3, 4, 5, 6] rfl)
def ls_count (a1 : Int32) (σ : SG) (μ : Sg) (R : SG → Sg → Prop) : Prop := q_Face_count a1 σ (fun r1 => q_Model_count a1 μ (fun r v => r1 = r ∧ R σ v))
set_option maxHeartbeats 4000000 in
set_option maxRecDepth 100000 in
theorem lc_count {p : Program} {l : Launch} {e : Env} {s : State} {m : MethodId} {below : List Frame} {meth : Method} {c : Code} {b L : Nat} {xs : Nat → Int32} (hst : l.stackTraces = false) (C0 : lw_At p s m meth c b L xs) {D : va_G} {cI cZ cJ : ClassId} {ad : Nat → Nat → Nat} {am : Nat → Nat} {oa : Nat} (E0 : lE D cI cZ cJ ad am oa s) {cells slots : Nat} (hcl : cells + 1 ≤ 1094) (hsl : slots + 6 ≤ 10698) {R : SG → Sg → Prop} {x4 : Int32} {i : Nat} (ex : x4 = nI i) (hi : i + 4 ≤ L) (hL : L ≤ 2049) (kk : lK p l e s m below meth c b D ad am oa cI cZ cJ cells slots x4 R) {σ : SG} {μ : Sg} {f : Nat → Int64} {H : Heap} {locs : List Loc} {ls : Array Slot} (hP : va_P D classes (W_L ad am oa cI cZ cJ σ μ f) H) (hS : va_S (fun q : Nat => s.heap.size ≤ q) s.heap H locs) (hl : lv_has ls 7 [(0, .ref b), (1, .ref (ad 0 0)), (2, .ref (am 0)), (3, .ref oa), (4, .int x4)]) (h : ls_count (xs (i + 1)) σ μ R) : W p l e room_1 s m #[Value.ref b] below meth c H locs cells slots (lw_Z below #[Value.ref b] s) (F0 m 943 ls []) := by
  obtain ⟨hx, hb, hr, hml, hown, hts0, hX, hbl, hlocks, hgv⟩ := C0
  have hts : ∀ w ∈ TG, w.before #[Value.ref b] s = true := fun w hw => hts0 w (List.mem_filter.mp hw).1
  have hbA : ¬ (fun q : Nat => s.heap.size ≤ q) b := Nat.not_le.mpr hbl
  have hKa := E0.1.sub (tys' := tysA cI cZ) [0, 1] rfl
  unfold ls_count at h
  refine lv_aload_n hx hb d_Law_law_943 rfl (lv_at hl 1 rfl) ?_
  refine lv_aload_n hx hb d_Law_law_944 rfl (lv_at hl 0 rfl) ?_
  refine lv_iload hx hb d_Law_law_945 (lv_at hl 4 rfl) ?_
  refine lv_iconst (v := 1) hx hb d_Law_law_947 (by decide) ?_
  refine lv_iadd hx hb d_Law_law_948 ?_
  refine l_sld hx hb hX hbl hbA hS (k := i + 1) (by rw [ex]; exact nI_add i 1) (by omega) hL d_Law_law_949 ?_
  refine vp_callSi (W.runV (As := [.int (xs (i + 1))]) (rest := []) ⟨hx, hb, hml, hown, hts⟩ (t_Face_count l D cI cZ ad (xs (i + 1)) σ _ h) (cwV 1 hts (g_of kw350 kw351 kw352 kw1 kw353) rfl rfl rfl (by decide +kernel) ⟨Nat.le_of_ble_eq_true rfl, Nat.le_of_ble_eq_true rfl⟩) (ro_pre hKa (l_F hP) (va_recv hKa (l_F hP) (ci := 6) (q0 := 0) rfl rfl)) rfl rfl hl.1 rfl (lv_room (Nat.le_of_ble_eq_true rfl)) d_Law_law_950 ⟨by show cells + 0 ≤ 1094; omega, by show slots + 0 ≤ 10698; omega⟩) (fun r1 h => ?_)
  refine lv_aload_n hx hb d_Law_law_953 rfl (lv_at hl 2 rfl) ?_
  refine lv_aload_n hx hb d_Law_law_954 rfl (lv_at hl 0 rfl) ?_
  refine lv_iload hx hb d_Law_law_955 (lv_at hl 4 rfl) ?_
  refine lv_iconst (v := 1) hx hb d_Law_law_957 (by decide) ?_
  refine lv_iadd hx hb d_Law_law_958 ?_
  refine l_sld hx hb hX hbl hbA hS (k := i + 1) (by rw [ex]; exact nI_add i 1) (by omega) hL d_Law_law_959 ?_
  refine va_calli (va_runV (As := [.int (xs (i + 1))]) (rest := [.int r1]) ⟨hx, hb, hml, hown, hts⟩ (t_Model_count l D cI cZ am E0.iM (xs (i + 1)) μ _ h) (cwV 1 hts (g_of kw959 kw960 kw961 kw9 kw962) rfl rfl rfl (by decide +kernel) ⟨Nat.le_of_ble_eq_true rfl, Nat.le_of_ble_eq_true rfl⟩) (ro_pre hKa (l_M hP) (va_recv hKa (l_M hP) (ci := 7) (q0 := 0) rfl rfl)) rfl rfl hl.1 rfl (lv_room (Nat.le_of_ble_eq_true rfl)) d_Law_law_960 ⟨by show cells + 0 ≤ 1094; omega, by show slots + 0 ≤ 10698; omega⟩) hS (fun _ _ h => E0.sM h) (fun _ h => E0.sM h) (fun r v t H1 locs ht _ h hP1 _ hk1 hS => ?_)
  have hP := jL_M E0 hP (hp_fwd ht hP1) hk1
  clear hk1 hP1 ht
  generalize H1 = H at hP hS ⊢
  obtain ⟨hq, hR⟩ := h
  refine lv_icmp_eq (tgt := 968) hx hb d_Law_law_963 (by decide) (fun _ => ?_) (fun hc => absurd hq hc)
  refine W.widen (k := cells + 1) (n := slots + 6) (by omega) (by omega) ?_
  exact kk _ _ _ _ _ _ hR hP hS (lv_sub hl [0, 1, 2, 3, 4] rfl)
