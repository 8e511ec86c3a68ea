def lAll (R : SG → Sg → Prop) : Prop := ∀ (a1 a2 a3 : Int32) (σ : SG) (μ : Sg), R σ μ → ls_piece a1 a2 a3 σ μ R ∧ ls_places a1 a2 σ μ R ∧ ls_charger a1 a2 σ μ R ∧ ls_ring a1 σ μ R ∧ ls_carrier a1 a2 σ μ R ∧ ls_job a1 a2 σ μ R ∧ ls_assign σ μ R ∧ ls_step a1 σ μ R ∧ ls_tick a1 σ μ R ∧ ls_close a1 a2 σ μ R ∧ ls_charge a1 σ μ R ∧ ls_way a1 a2 a3 σ μ R ∧ ls_look a1 a2 σ μ R ∧ ls_of a1 a2 σ μ R ∧ ls_count a1 σ μ R
theorem ll_lt {L i : Nat} (hL : L ≤ 2049) (hi : i ≤ 4096) : (Int32.ofNat L - 4 < nI i) ↔ L < i + 4 := by
  have h1 : (nI L - nI 4).toInt = (L : Int) - 4 := pk_sub_toInt (by omega) (by omega)
  have h2 : (nI i).toInt = (i : Int) := nI_toInt (by omega)
  rw [show Int32.ofNat L - 4 = nI L - nI 4 from rfl, Int32.lt_iff_toInt_lt, h1, h2]
  omega
set_option maxHeartbeats 4000000 in
set_option maxRecDepth 100000 in
theorem law_loop {p : Program} {l : Launch} {e : Env} {s : State} {m : MethodId} {below : List Frame} {meth : Method} {c : Code} {b L : Nat} {xs : Nat → Int32} (hst : l.stackTraces = false) (hL : L ≤ 2049) (C0 : lw_At p s m meth c b L xs) {D : va_G} {cI cZ cJ : ClassId} {ad : Nat → Nat → Nat} {am : Nat → Nat} {oa : Nat} (E0 : lE D cI cZ cJ ad am oa s) {R : SG → Sg → Prop} (hR : lAll R) :
    ∀ (n j : Nat) (σ : SG) (μ : Sg) (f : Nat → Int64) (H : Heap) (locs : List Loc) (ls : Array Slot), 4 * j ≤ L + 3 → L + 4 ≤ 4 * j + 4 * n → R σ μ → va_P D classes (W_L ad am oa cI cZ cJ σ μ f) H → va_S (fun q : Nat => s.heap.size ≤ q) s.heap H locs → lv_has ls 7 [(0, .ref b), (1, .ref (ad 0 0)), (2, .ref (am 0)), (3, .ref oa), (4, .int (nI (4 * j + 1)))] → W p l e room_1 s m #[Value.ref b] below meth c H locs (51 + j) (2392 + 6 * j) (lw_Z below #[Value.ref b] s) (F0 m 33 ls []) := by
  obtain ⟨hx, hb, hr, hml, hown, hts0, hX, hbl, hlocks, hgv⟩ := id C0
  have hbA : ¬ (fun q : Nat => s.heap.size ≤ q) b := Nat.not_le.mpr hbl
  intro n
  induction n with
  | zero => intro j σ μ f H locs ls h1 h2; exact absurd h2 (by omega)
  | succ n ih =>
    intro j σ μ f H locs ls hj hm hR0 hP hS hl
    refine lv_iload hx hb d_Law_law_33 (lv_at hl 4 rfl) ?_
    refine lv_aload_n hx hb d_Law_law_35 rfl (lv_at hl 0 rfl) ?_
    refine va_slen hx hb hX hbl hbA hS d_Law_law_36 ?_
    refine lv_iconst (v := 4) hx hb d_Law_law_37 (by decide) ?_
    refine lv_isub hx hb d_Law_law_38 ?_
    refine lv_icmp_gt (tgt := 974) hx hb d_Law_law_39 (by decide) (fun hc => ?_) (fun hc => ?_)
    · refine lv_iconst (v := 1) hx hb d_Law_law_974 (by decide) ?_
      refine va_forget (fun q hq => hS.2.2 q hq) ?_
      refine W.widen (k := 1094) (n := 10698) (by omega) (by omega) ?_
      exact lw_ret hx hb hr hlocks d_Law_law_975
    · have hi : (4 * j + 1) + 4 ≤ L := Nat.not_lt.mp (fun h => hc ((ll_lt hL (by omega)).mpr h))
      have kk : lK p l e s m below meth c b D ad am oa cI cZ cJ (51 + j) (2392 + 6 * j) (nI (4 * j + 1)) R := by
        intro σ μ f H locs ls hR1 hP hS hl
        refine lv_iinc (v := nI (4 * j + 1) + 4) (lv' := [(4, .int (nI (4 * j + 1) + 4)), (0, .ref b), (1, .ref (ad 0 0)), (2, .ref (am 0)), (3, .ref oa)]) hx hb d_Law_law_968 hl (k := 4) rfl rfl (by decide) rfl (fun ls hl => ?_)
        refine lv_goto (tgt := 33) hx hb d_Law_law_971 (by decide) ?_
        have e4 : nI (4 * j + 1) + 4 = nI (4 * (j + 1) + 1) := (nI_add (4 * j + 1) 4).trans (by congr 1)
        have hl := lv_sub hl [1, 2, 3, 4, 0] rfl
        rw [e4] at hl
        exact ih (j + 1) σ μ f H locs ls (by omega) (by omega) hR1 hP hS hl
      have hcl : 51 + j + 1 ≤ 1094 := by omega
      have hsl : 2392 + 6 * j + 6 ≤ 10698 := by omega
      have hall := hR (xs (4 * j + 1 + 1)) (xs (4 * j + 1 + 2)) (xs (4 * j + 1 + 3)) σ μ hR0
      refine lv_aload_n hx hb d_Law_law_42 rfl (lv_at hl 0 rfl) ?_
      refine lv_iload hx hb d_Law_law_43 (lv_at hl 4 rfl) ?_
      refine l_sld hx hb hX hbl hbA hS (k := 4 * j + 1) rfl (by omega) hL d_Law_law_45 ?_
      refine lv_bipush (v := 15) hx hb d_Law_law_46 (by decide) ?_
      refine lv_iand hx hb d_Law_law_48 ?_
      generalize xs (4 * j + 1) &&& 15 = w
      obtain ⟨h0, h1, h2, h3, h4, h5, h6, h7, h8, h9, h10, h11, h12, h13, h14⟩ := hall
      by_cases hc0 : w = 0
      · refine lv_tableIn (tgt := 124) (off := 75) hx hb d_Law_law_49 (by rw [hc0]; decide) (by rw [hc0]; decide) (by rw [hc0]; decide) (by decide) ?_
        exact lc_piece hst C0 E0 hcl hsl rfl hi hL kk hP hS hl h0
      by_cases hc1 : w = 1
      · refine lv_tableIn (tgt := 204) (off := 155) hx hb d_Law_law_49 (by rw [hc1]; decide) (by rw [hc1]; decide) (by rw [hc1]; decide) (by decide) ?_
        exact lc_places hst C0 E0 hcl hsl rfl hi hL kk hP hS hl h1
      by_cases hc2 : w = 2
      · refine lv_tableIn (tgt := 241) (off := 192) hx hb d_Law_law_49 (by rw [hc2]; decide) (by rw [hc2]; decide) (by rw [hc2]; decide) (by decide) ?_
        exact lc_charger hst C0 E0 hcl hsl rfl hi hL kk hP hS hl h2
      by_cases hc3 : w = 3
      · refine lv_tableIn (tgt := 294) (off := 245) hx hb d_Law_law_49 (by rw [hc3]; decide) (by rw [hc3]; decide) (by rw [hc3]; decide) (by decide) ?_
        exact lc_ring hst C0 E0 hcl hsl rfl hi hL kk hP hS hl h3
      by_cases hc4 : w = 4
      · refine lv_tableIn (tgt := 350) (off := 301) hx hb d_Law_law_49 (by rw [hc4]; decide) (by rw [hc4]; decide) (by rw [hc4]; decide) (by decide) ?_
        exact lc_carrier hst C0 E0 hcl hsl rfl hi hL kk hP hS hl h4
      by_cases hc5 : w = 5
      · refine lv_tableIn (tgt := 418) (off := 369) hx hb d_Law_law_49 (by rw [hc5]; decide) (by rw [hc5]; decide) (by rw [hc5]; decide) (by decide) ?_
        exact lc_job hst C0 E0 hcl hsl rfl hi hL kk hP hS hl h5
      by_cases hc6 : w = 6
      · refine lv_tableIn (tgt := 486) (off := 437) hx hb d_Law_law_49 (by rw [hc6]; decide) (by rw [hc6]; decide) (by rw [hc6]; decide) (by decide) ?_
        exact lc_assign hst C0 E0 hcl hsl rfl hi hL kk hP hS hl h6
      by_cases hc7 : w = 7
      · refine lv_tableIn (tgt := 499) (off := 450) hx hb d_Law_law_49 (by rw [hc7]; decide) (by rw [hc7]; decide) (by rw [hc7]; decide) (by decide) ?_
        exact lc_step hst C0 E0 hcl hsl rfl hi hL kk hP hS hl h7
      by_cases hc8 : w = 8
      · refine lv_tableIn (tgt := 555) (off := 506) hx hb d_Law_law_49 (by rw [hc8]; decide) (by rw [hc8]; decide) (by rw [hc8]; decide) (by decide) ?_
        exact lc_tick hst C0 E0 hcl hsl rfl hi hL kk hP hS hl h8
      by_cases hc9 : w = 9
      · refine lv_tableIn (tgt := 611) (off := 562) hx hb d_Law_law_49 (by rw [hc9]; decide) (by rw [hc9]; decide) (by rw [hc9]; decide) (by decide) ?_
        exact lc_close hst C0 E0 hcl hsl rfl hi hL kk hP hS hl h9
      by_cases hc10 : w = 10
      · refine lv_tableIn (tgt := 664) (off := 615) hx hb d_Law_law_49 (by rw [hc10]; decide) (by rw [hc10]; decide) (by rw [hc10]; decide) (by decide) ?_
        exact lc_charge hst C0 E0 hcl hsl rfl hi hL kk hP hS hl h10
      by_cases hc11 : w = 11
      · refine lv_tableIn (tgt := 727) (off := 678) hx hb d_Law_law_49 (by rw [hc11]; decide) (by rw [hc11]; decide) (by rw [hc11]; decide) (by decide) ?_
        exact lc_way hst C0 E0 hcl hsl rfl hi hL kk hP hS hl h11
      by_cases hc12 : w = 12
      · refine lv_tableIn (tgt := 807) (off := 758) hx hb d_Law_law_49 (by rw [hc12]; decide) (by rw [hc12]; decide) (by rw [hc12]; decide) (by decide) ?_
        exact lc_look hst C0 E0 hcl hsl rfl hi hL kk hP hS hl h12
      by_cases hc13 : w = 13
      · refine lv_tableIn (tgt := 875) (off := 826) hx hb d_Law_law_49 (by rw [hc13]; decide) (by rw [hc13]; decide) (by rw [hc13]; decide) (by decide) ?_
        exact lc_of hst C0 E0 hcl hsl rfl hi hL kk hP hS hl h13
      by_cases hc14 : w = 14
      · refine lv_tableIn (tgt := 943) (off := 894) hx hb d_Law_law_49 (by rw [hc14]; decide) (by rw [hc14]; decide) (by rw [hc14]; decide) (by decide) ?_
        exact lc_count hst C0 E0 hcl hsl rfl hi hL kk hP hS hl h14
      refine lv_tableOut (tgt := 968) hx hb d_Law_law_49 (by have e0 := lv_neT hc0 (a := 0) (by decide); have e1 := lv_neT hc1 (a := 1) (by decide); have e2 := lv_neT hc2 (a := 2) (by decide); have e3 := lv_neT hc3 (a := 3) (by decide); have e4 := lv_neT hc4 (a := 4) (by decide); have e5 := lv_neT hc5 (a := 5) (by decide); have e6 := lv_neT hc6 (a := 6) (by decide); have e7 := lv_neT hc7 (a := 7) (by decide); have e8 := lv_neT hc8 (a := 8) (by decide); have e9 := lv_neT hc9 (a := 9) (by decide); have e10 := lv_neT hc10 (a := 10) (by decide); have e11 := lv_neT hc11 (a := 11) (by decide); have e12 := lv_neT hc12 (a := 12) (by decide); have e13 := lv_neT hc13 (a := 13) (by decide); have e14 := lv_neT hc14 (a := 14) (by decide); omega) (by decide) ?_
      refine W.widen (k := 51 + j + 1) (n := 2392 + 6 * j + 6) (by omega) (by omega) ?_
      exact kk σ μ f H locs ls hR0 hP hS hl
theorem d_Law_cell_0 : decode method_2_code 0 = .ok (.iload_n 1, 1) := by decide +kernel
theorem d_Law_cell_1 : decode method_2_code 1 = .ok (.aload_n 0, 1) := by decide +kernel
theorem d_Law_cell_2 : decode method_2_code 2 = .ok (.arraylength, 1) := by decide +kernel
theorem d_Law_cell_3 : decode method_2_code 3 = .ok (.if_icmp .ge 9, 3) := by decide +kernel
theorem d_Law_cell_6 : decode method_2_code 6 = .ok (.aload_n 0, 1) := by decide +kernel
theorem d_Law_cell_7 : decode method_2_code 7 = .ok (.iload_n 1, 1) := by decide +kernel
theorem d_Law_cell_8 : decode method_2_code 8 = .ok (.iaload, 1) := by decide +kernel
theorem d_Law_cell_9 : decode method_2_code 9 = .ok (.goto 4, 3) := by decide +kernel
theorem d_Law_cell_12 : decode method_2_code 12 = .ok (.iconst 0, 1) := by decide +kernel
theorem d_Law_cell_13 : decode method_2_code 13 = .ok (.ireturn, 1) := by decide +kernel
abbrev y_Law_cell : MethodName := ⟨"CarrierPathsLaw", "cell", "([II)I"⟩
def cellv (L : Nat) (xs : Nat → Int32) : Int32 := if 0 < L then xs 0 else 0
set_option maxHeartbeats 4000000 in
theorem t_Law_cell (l : Launch) (b L : Nat) (xs : Nat → Int32) (hL : L ≤ 2049) : Met l y_Law_cell (.code y_Law_cell method_2_code 2 (some .int) :: TG) { frames := 0, cells := 0, slots := 0, locals := 0 } (va_Pc [.ref b, .int 0] (fun U => va_X b L xs U U.heap)) (vp_Si (fun r => r = cellv L xs)) 0 0 (fun _ => False) := by
  refine Met.ofW (cc := method_2_code) (maxL := 2) (ret := (some .int)) (by decide) rfl ?_
  intro p e s m args below meth c s₁ B hml hv
  obtain ⟨rfl, hX⟩ := hv
  have hx := B.exec
  have hb := B.bytes
  have hr := B.returns
  have hlocks := B.notSynchronized
  have hbl : b < s.heap.size := by obtain ⟨scr, h1, -⟩ := hX; exact (Array.getElem?_eq_some_iff.mp h1).1
  have hS : va_S (fun _ => False) s.heap s.heap [] := va_S.rf
  have hl := lv_entry ([.ref b, .int 0]) (n := 2) (Nat.le_of_ble_eq_true rfl)
  rw [lg_entry_eq]
  generalize (lg_sl ([.ref b, .int 0]) ++ List.replicate (2 - (lg_sl ([.ref b, .int 0])).length) Slot.unset).toArray = ls at hl ⊢
  have hl : lv_has ls 2 [(0, .ref b), (1, .int 0)] := hl
  refine lv_iload_n hx hb d_Law_cell_0 rfl (lv_at hl 1 rfl) ?_
  refine lv_aload_n hx hb d_Law_cell_1 rfl (lv_at hl 0 rfl) ?_
  refine va_slen hx hb hX hbl (fun h => h) hS d_Law_cell_2 ?_
  refine lv_icmp_ge (tgt := 12) hx hb d_Law_cell_3 (by decide) (fun hc => ?_) (fun hc => ?_)
  · have h0 : ¬ 0 < L := fun h => nI_nle h (by omega) hc
    refine lv_iconst (v := 0) hx hb d_Law_cell_12 (by decide) ?_
    exact W.iret (v := 0) hx hb hr (fun t ht hW => ⟨0, rfl, by unfold cellv; rw [if_neg h0], ht⟩) (fun q hq => by cases hq) d_Law_cell_13
  · have h0 : 0 < L := Nat.pos_of_ne_zero (fun h => hc (by subst h; decide))
    refine lv_aload_n hx hb d_Law_cell_6 rfl (lv_at hl 0 rfl) ?_
    refine lv_iload_n hx hb d_Law_cell_7 rfl (lv_at hl 1 rfl) ?_
    refine l_sld hx hb hX hbl (fun h => h) hS (k := 0) rfl h0 hL d_Law_cell_8 ?_
    refine lv_goto (tgt := 13) hx hb d_Law_cell_9 (by decide) ?_
    exact W.iret (v := xs 0) hx hb hr (fun t ht hW => ⟨xs 0, rfl, by unfold cellv; rw [if_pos h0], ht⟩) (fun q hq => by cases hq) d_Law_cell_13
