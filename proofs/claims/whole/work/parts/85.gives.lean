/-! the reference gives out, job by job -/
def mG (ν : Sg) (ch : Nat → Int32) (i : Nat) (τ : Sg) : Prop := (∀ k, k ≠ 11 → k ≠ 17 → k ≠ 18 → k ≠ 19 → τ k = ν k) ∧ τ 11 = fhI ch (ν 11) i ∧ τ 17 = stI ch (ν 17) i ∧ τ 18 = hdI ch (ν 18) i
theorem mG_n {ν τ : Sg} {ch : Nat → Int32} {i : Nat} (h : mG ν ch i τ) (e : ch i = -1) : mG ν ch (i + 1) τ := ⟨h.1, by rw [fhI_n e]; exact h.2.1, by rw [stI_n e]; exact h.2.2.1, by rw [hdI_n e]; exact h.2.2.2⟩
theorem mG_19 {ν τ u : Sg} {ch : Nat → Int32} {i : Nat} (h : mG ν ch i τ) (hu : ∀ k, k ≠ 19 → u k = τ k) : mG ν ch i u := ⟨fun k h1 h2 h3 h4 => (hu k h4).trans (h.1 k h1 h2 h3 h4), (hu 11 (by decide)).trans h.2.1, (hu 17 (by decide)).trans h.2.2.1, (hu 18 (by decide)).trans h.2.2.2⟩
theorem mG_y {ν τ : Sg} {ch : Nat → Int32} {i c : Nat} (h : mG ν ch i τ) (e : ch i = nI c) (c6 : c < 6) : mG ν ch (i + 1) (sto (sto (sto τ 17 i 1) 18 i (nI c)) 11 c (nI i)) := by
  have ne : ¬ ch i = -1 := by rw [e]; exact ne_m1 (by omega)
  refine ⟨fun k h1 h2 h3 h4 => (sto_ne h1).trans ((sto_ne h3).trans ((sto_ne h2).trans (h.1 k h1 h2 h3 h4))), ?_, ?_, ?_⟩
  · rw [fhI_y e c6]
    show upd (τ 11) c (nI i) = _
    rw [h.2.1]
  · rw [stI_y ne]
    show upd (τ 17) i 1 = _
    rw [h.2.2.1]
  · rw [hdI_y ne, e]
    show upd (τ 18) i (nI c) = _
    rw [h.2.2.2]
theorem m_tt {τ : Sg} {n np nc nj j c : Nat} {D : Nat → Nat → Nat} {Q : Int32 → Sg → Prop} (hn : τ 0 1 = nI n) (z2 : n ≤ 10) (hp : τ 0 4 = nI np) (z3 : np ≤ 30) (hj : j < nj) (hc : c < nc) (hpc : gPc n np (τ 3) (τ 4) (τ 5)) (ok : ds_ok n 1000000 (oE n np (τ 3) (τ 4) (τ 5) (τ 6)) D)
    (g1 : ∀ c, c < nc → ∃ p, p < n ∧ τ 8 c = nI p) (g2 : ∀ j, j < nj → ∃ p, p < n ∧ τ 15 j = nI p) (hF : trv D (τ 8) (τ 15) j c < 1000000)
    (h : ∀ u : Sg, (∀ k, k ≠ 19 → u k = τ k) → Q (nI (trv D (τ 8) (τ 15) j c)) u) : q_Model_timeTo (τ 8 c) (τ 15 j) τ Q := by
  obtain ⟨a1, a2⟩ := ixn (by omega) (g1 c hc)
  obtain ⟨b1, b2⟩ := ixn (by omega) (g2 j hj)
  unfold q_Model_timeTo
  rw [a2, b2]
  refine m_times hn z2 hp z3 b1 hpc ok (fun u hS hX => ⟨vi (by omega), ?_⟩)
  rw [ck (k := (τ 8 c).toNatClampNeg) (by omega), hX _ a1, mFar_y (d := D (τ 8 c).toNatClampNeg (τ 15 j).toNatClampNeg) hF]
  exact h u hS
theorem as_1 {Q : Int32 → Sg → Prop} {f : Nat} {v1 v2 v3 v4 a b c : Int32} {σ : Sg} (h : (σ 0 19 ≤ v4 → ((v3 = 0 → Q (-1) σ) ∧ (¬ v3 = 0 → Q v2 σ))) ∧ (¬ σ 0 19 ≤ v4 → q_Model_assign_j Q f 2 v1 v2 v3 v4 (-1) (σ 0 11 - 1) 0 σ)) : q_Model_assign_j Q (f + 1) 1 v1 v2 v3 v4 a b c σ := by
  unfold q_Model_assign_j q_Model_assign_b1; exact h
theorem as_2e {Q : Int32 → Sg → Prop} {f : Nat} {v1 v2 v3 v4 v5 v6 c : Int32} {σ : Sg} (h6 : v6 < 0) (h0 : v5 = -1 → q_Model_assign_j Q f 1 v1 v2 v3 (v4 + 1) 0 0 0 σ)
    (h1 : ¬ v5 = -1 → (vp_in v5 6 ∧ (vp_in v4 12 ∧ (q_Model_timeTo (σ 8 v5.toNatClampNeg) (σ 15 v4.toNatClampNeg) σ (fun r3 u2 => (vp_in v4 12 ∧ (vp_in v4 12 ∧ (vp_in v5 6 ∧ q_Model_assign_j Q f 1 (v1 &&& (((1 : Int32) <<< (v5 &&& 31)) ^^^ (-1))) (v2 + r3) (v3 + 1) (v4 + 1) 0 0 0 (sto (sto (sto u2 17 v4.toNatClampNeg 1) 18 v4.toNatClampNeg v5) 11 v5.toNatClampNeg v4))))))))) : q_Model_assign_j Q (f + 1) 2 v1 v2 v3 v4 v5 v6 c σ := by
  unfold q_Model_assign_j q_Model_assign_b2; exact ⟨fun _ => ⟨h0, h1⟩, fun h => absurd h6 h⟩
theorem as_2l {Q : Int32 → Sg → Prop} {f : Nat} {v1 v2 v3 v4 v5 v6 c : Int32} {σ : Sg} (h6 : ¬ v6 < 0)
    (h1 : ((v1 >>> (v6 &&& 31)) &&& 1) = 1 → (q_Model_worth v4 v6 σ (fun r5 u4 => ((r5 < 0 → q_Model_assign_j Q f 2 v1 v2 v3 v4 v5 (v6 + (-1)) 0 u4) ∧ (¬ r5 < 0 → (vp_in (((64 : Int32) * (v4 + 1)) + (v1 &&& (((1 : Int32) <<< (v6 &&& 31)) ^^^ (-1)))) 832 ∧ (vp_in (((64 : Int32) * v4) + v1) 832 ∧ (((r5 + (u4 20 (((64 : Int32) * (v4 + 1)) + (v1 &&& (((1 : Int32) <<< (v6 &&& 31)) ^^^ (-1)))).toNatClampNeg)) = (u4 20 (((64 : Int32) * v4) + v1).toNatClampNeg) → q_Model_assign_j Q f 2 v1 v2 v3 v4 v6 (v6 + (-1)) 0 u4) ∧ (¬ (r5 + (u4 20 (((64 : Int32) * (v4 + 1)) + (v1 &&& (((1 : Int32) <<< (v6 &&& 31)) ^^^ (-1)))).toNatClampNeg)) = (u4 20 (((64 : Int32) * v4) + v1).toNatClampNeg) → q_Model_assign_j Q f 2 v1 v2 v3 v4 v5 (v6 + (-1)) 0 u4)))))))))
    (h0 : ¬ ((v1 >>> (v6 &&& 31)) &&& 1) = 1 → q_Model_assign_j Q f 2 v1 v2 v3 v4 v5 (v6 + (-1)) 0 σ) : q_Model_assign_j Q (f + 1) 2 v1 v2 v3 v4 v5 v6 c σ := by
  unfold q_Model_assign_j q_Model_assign_b2; exact ⟨fun h => absurd h h6, fun _ => ⟨h1, h0⟩⟩
/-- none from c on, or the least one from c on -/
def lstF (P : Nat → Prop) (nc c : Nat) (r : Int32) : Prop := (r = -1 ∧ ∀ k, c ≤ k → k < nc → ¬ P k) ∨ ∃ k, c ≤ k ∧ k < nc ∧ r = nI k ∧ P k ∧ ∀ j, c ≤ j → j < k → ¬ P j
theorem lstF_0 {P : Nat → Prop} {nc : Nat} {r : Int32} (h : lstF P nc 0 r) : isFst P nc r := by
  rcases h with ⟨h1, h2⟩ | ⟨k, _, h2, h3, h4, h5⟩
  · exact Or.inl ⟨h1, fun k hk => h2 k (by omega) hk⟩
  · exact Or.inr ⟨k, h2, h3, h4, fun j hj => h5 j (by omega) hj⟩
theorem lstF_n {P : Nat → Prop} {nc c : Nat} {r : Int32} (h : lstF P nc (c + 1) r) (hn : ¬ P c) : lstF P nc c r := by
  rcases h with ⟨h1, h2⟩ | ⟨k, h1, h2, h3, h4, h5⟩
  · refine Or.inl ⟨h1, fun k hk hk' => ?_⟩
    by_cases e : k = c
    · subst e; exact hn
    · exact h2 k (by omega) hk'
  · refine Or.inr ⟨k, by omega, h2, h3, h4, fun j hj hj' => ?_⟩
    by_cases e : j = c
    · subst e; exact hn
    · exact h5 j (by omega) hj'
theorem lstF_y {P : Nat → Prop} {nc c : Nat} (hc : c < nc) (h : P c) : lstF P nc c (nI c) := Or.inr ⟨c, Nat.le_refl _, hc, rfl, h, fun j h1 h2 => absurd h1 (by omega)⟩
theorem m_give {μ : Sg} {n np nc nj : Nat} {D : Nat → Nat → Nat} {S : Nat → Nat} {ch : Nat → Int32} {Q : Int32 → Sg → Prop} (hn : μ 0 1 = nI n) (z2 : n ≤ 10) (hp : μ 0 4 = nI np) (z3 : np ≤ 30) (hc : μ 0 11 = nI nc) (z5 : nc ≤ 6) (hj : μ 0 19 = nI nj) (z6 : nj ≤ 12) (hpc : gPc n np (μ 3) (μ 4) (μ 5)) (ok : ds_ok n 1000000 (oE n np (μ 3) (μ 4) (μ 5) (μ 6)) D)
    (g : gFl n np nc nj (μ 8) (μ 9) (μ 11) (μ 12) (μ 17)) (b : gJb n nj (μ 15) (μ 16) (μ 17))
    (hT : ∀ j c, j < nj → c < nc → offd D (μ 8) (μ 9) (μ 11) (μ 15) (μ 17) j c → trv D (μ 8) (μ 15) j c ≤ 900)
    (hC : chS nc nj (offd D (μ 8) (μ 9) (μ 11) (μ 15) (μ 17)) (trv D (μ 8) (μ 15)) nj S ch)
    (h : ∀ τ : Sg, (∀ k, k ≠ 11 → k ≠ 17 → k ≠ 18 → k ≠ 19 → k ≠ 20 → τ k = μ k) → τ 11 = fhI ch (μ 11) nj → τ 17 = stI ch (μ 17) nj → τ 18 = hdI ch (μ 18) nj → ((nI (gvI ch nj) = 0 → Q (-1) τ) ∧ (¬ nI (gvI ch nj) = 0 → Q (tvI ch (trv D (μ 8) (μ 15)) nj) τ))) : q_Model_reckon μ (fun u => q_Model_assign_j Q 3999 1 63 0 0 0 0 0 0 u) := by
  refine m_reckon hn z2 hp z3 hc z5 hj z6 hpc ok g.1 b.1 hT (fun ν hK hRow => ?_)
  have inv := give_inv z5 z6 hC g b
  have rb := rel_bst z5 hT
  have k11 := hK 11 (by decide) (by decide)
  have k17 := hK 17 (by decide) (by decide)
  have k18 := hK 18 (by decide) (by decide)
  have cell : ∀ i (τ : Sg), mG ν ch i τ → ∀ k, k ≠ 11 → k ≠ 17 → k ≠ 18 → k ≠ 19 → k ≠ 20 → τ k = μ k := fun i τ hG k h1 h2 h3 h4 h5 => (hG.1 k h1 h2 h3 h4).trans (hK k h4 h5)
  have oc : ∀ i c (τ : Sg), i < nj → c < nc → mG ν ch i τ → (S i).testBit c = false → (offd D (τ 8) (τ 9) (τ 11) (τ 15) (τ 17) i c ↔ offd D (μ 8) (μ 9) (μ 11) (μ 15) (μ 17) i c) := by
    intro i c τ hi hcn hG hb
    obtain ⟨-, -, -, im, ik⟩ := inv i (by omega)
    unfold offd
    rw [cell i τ hG 8 (by decide) (by decide) (by decide) (by decide) (by decide), cell i τ hG 9 (by decide) (by decide) (by decide) (by decide) (by decide), cell i τ hG 15 (by decide) (by decide) (by decide) (by decide) (by decide), hG.2.1, hG.2.2.1, k11, k17, im i (Nat.le_refl _), ik c hcn hb]
  generalize ho : offd D (μ 8) (μ 9) (μ 11) (μ 15) (μ 17) = o at *
  generalize ht : trv D (μ 8) (μ 15) = t at *
  have bd : ∀ r, r ≤ nj → ∀ s, s < 64 → bst 100000 nc nj o t r s ≤ 600000 := fun r hr s hs => (rel_bd (by omega) (rb r hr s hs)).2
  have inner : ∀ (F i : Nat), i < nj → (∀ f' (τ' : Sg), F ≤ f' → mG ν ch (i + 1) τ' → q_Model_assign_j Q f' 1 (nI (63 - S (i + 1))) (tvI ch t (i + 1)) (nI (gvI ch (i + 1))) (nI (i + 1)) 0 0 0 τ') →
      ∀ c fuel r (τ : Sg), c ≤ nc → F + c < fuel → mG ν ch i τ → lstF (pP 100000 nc nj o t i (S i)) nc c r → q_Model_assign_j Q fuel 2 (nI (63 - S i)) (tvI ch t i) (nI (gvI ch i)) (nI i) r (nI c - 1) 0 τ := by
    intro F i hi hout c
    obtain ⟨s1, s2, s3, s4⟩ := hC.2 i hi
    have i12 : i < 12 := by omega
    have sb : 63 - (63 - S i) = S i := by omega
    induction c with
    | zero =>
      intro fuel r τ _ hf hG hr
      obtain ⟨f, rfl, hf⟩ := fu hf
      have er : ch i = r := fst_one (fst_iff (fun k hk => pP_same z5 hT hi s1 hk) s2) (lstF_0 hr)
      rw [← er]
      refine as_2e (by decide) (fun e => ?_) (fun e => ?_)
      · have nx := hout f τ (by omega) (mG_n hG e)
        rw [s3 e, tvI_n e, gvI_n e] at nx
        rw [nI_1]; exact nx
      · obtain ⟨c, hcn, ec, hP⟩ := ch_c s2 e
        have c6 : c < 6 := by omega
        have t0 := cell i τ hG 0 (by decide) (by decide) (by decide) (by decide) (by decide)
        have t3 := cell i τ hG 3 (by decide) (by decide) (by decide) (by decide) (by decide)
        have t4 := cell i τ hG 4 (by decide) (by decide) (by decide) (by decide) (by decide)
        have t5 := cell i τ hG 5 (by decide) (by decide) (by decide) (by decide) (by decide)
        have t6 := cell i τ hG 6 (by decide) (by decide) (by decide) (by decide) (by decide)
        have t8 := cell i τ hG 8 (by decide) (by decide) (by decide) (by decide) (by decide)
        have t15 := cell i τ hG 15 (by decide) (by decide) (by decide) (by decide) (by decide)
        have t9 := hT i c hi hcn hP.1
        rw [ec]
        refine ⟨vi c6, vi i12, ?_⟩
        rw [ck (k := c) (by omega), ck (k := i) (by omega)]
        refine m_tt (n := n) (np := np) (nc := nc) (nj := nj) (D := D) (by rw [t0]; exact hn) z2 (by rw [t0]; exact hp) z3 hi hcn (by rw [t3, t4, t5]; exact hpc) (by rw [t3, t4, t5, t6]; exact ok) (by rw [t8]; exact g.1) (by rw [t15]; exact b.1) (by rw [t8, t15, ht]; omega) (fun u hu => ⟨vi i12, vi i12, vi c6, ?_⟩)
        have nx := hout f _ (by omega) (mG_y (mG_19 hG hu) ec c6)
        rw [s4 c hcn ec, tvI_y ec c6, gvI_y e] at nx
        rw [bt_d (63 - S i) (by omega) c c6, sb, nI_1, nI_1, t8, t15, ht]
        exact nx
    | succ c ih =>
      intro fuel r τ hcn hf hG hr
      obtain ⟨f, rfl, hf⟩ := fu hf
      have hc' : c < nc := by omega
      have c6 : c < 6 := by omega
      have next : ∀ r' (u : Sg), mG ν ch i u → lstF (pP 100000 nc nj o t i (S i)) nc c r' → q_Model_assign_j Q f 2 (nI (63 - S i)) (tvI ch t i) (nI (gvI ch i)) (nI i) r' (nI c + (-1)) 0 u := by
        intro r' u hG' hr'
        rw [show nI c + (-1) = nI c - 1 from by rw [Int32.sub_eq_add_neg]]
        exact ih f r' u (by omega) (by omega) hG' hr'
      have t0 := cell i τ hG 0 (by decide) (by decide) (by decide) (by decide) (by decide)
      have t3 := cell i τ hG 3 (by decide) (by decide) (by decide) (by decide) (by decide)
      have t4 := cell i τ hG 4 (by decide) (by decide) (by decide) (by decide) (by decide)
      have t5 := cell i τ hG 5 (by decide) (by decide) (by decide) (by decide) (by decide)
      have t6 := cell i τ hG 6 (by decide) (by decide) (by decide) (by decide) (by decide)
      have t8 := cell i τ hG 8 (by decide) (by decide) (by decide) (by decide) (by decide)
      have t15 := cell i τ hG 15 (by decide) (by decide) (by decide) (by decide) (by decide)
      rw [nI_pred]
      refine as_2l (nI_pos (by omega)) (fun hb => ?_) (fun hb => ?_)
      · rw [bt_m (63 - S i) (by omega) c c6, sb] at hb
        refine m_worth (n := n) (np := np) (nc := nc) (nj := nj) (D := D) (by rw [t0]; exact hn) z2 (by rw [t0]; exact hp) z3 z5 z6 hi hc' (by rw [t3, t4, t5]; exact hpc) (by rw [t3, t4, t5, t6]; exact ok) (by rw [t8]; exact g.1) (by rw [t15]; exact b.1) (fun hof u hu => ?_) (fun hof u hu => ?_)
        · have ho' := (oc i c τ hi hc' hG hb).mp hof
          have t9 := hT i c hi hc' ho'
          have l1 := or_lt (S i) s1 c c6
          have u20 : u 20 = ν 20 := (mG_19 hG hu).1 20 (by decide) (by decide) (by decide) (by decide)
          have r1 := hRow (i + 1) (by omega) (63 - (S i ||| 2 ^ c)) (by omega)
          have r0 := hRow i (by omega) (63 - S i) (by omega)
          rw [show 63 - (63 - (S i ||| 2 ^ c)) = S i ||| 2 ^ c by omega] at r1
          rw [sb] at r0
          have d1 := bd (nj - (i + 1)) (by omega) _ l1
          have d0 := bd (nj - i) (by omega) _ s1
          rw [t8, t15, ht]
          refine ⟨fun h' => absurd h' (nI_pos (by omega)), fun _ => ?_⟩
          rw [bt_d (63 - S i) (by omega) c c6, sb, nI_1, ix46, ix46, ck (k := 64 * (i + 1) + (63 - (S i ||| 2 ^ c))) (by omega), ck (k := 64 * i + (63 - S i)) (by omega), u20, r1, r0, nI_add]
          exact ⟨vi (by omega), vi (by omega), fun e => next (nI c) u (mG_19 hG hu) (lstF_y hc' ⟨ho', hb, (nI_eq (by omega) (by omega)).mp e⟩), fun e => next r u (mG_19 hG hu) (lstF_n hr (fun hq => e (by rw [hq.2.2])))⟩
        · exact ⟨fun _ => next r u (mG_19 hG hu) (lstF_n hr (fun hq => hof ((oc i c τ hi hc' hG hb).mpr hq.1))), fun h' => absurd (by decide) h'⟩
      · rw [bt_m (63 - S i) (by omega) c c6, sb] at hb
        exact next r τ hG (lstF_n hr (fun hq => hb hq.2.1))
  have outer : ∀ k fuel i (τ : Sg), i + k = nj → 10 * k < fuel → mG ν ch i τ → q_Model_assign_j Q fuel 1 (nI (63 - S i)) (tvI ch t i) (nI (gvI ch i)) (nI i) 0 0 0 τ := by
    intro k
    induction k with
    | zero =>
      intro fuel i τ hi hf hG
      obtain ⟨f, rfl, -⟩ := fu hf
      obtain rfl : i = nj := hi
      have e0 : τ 0 19 = nI i := by rw [cell i τ hG 0 (by decide) (by decide) (by decide) (by decide) (by decide)]; exact hj
      exact as_1 ⟨fun _ => h τ (cell i τ hG) (by rw [← k11]; exact hG.2.1) (by rw [← k17]; exact hG.2.2.1) (by rw [← k18]; exact hG.2.2.2), fun h' => absurd (le_end e0 (by omega)) h'⟩
    | succ k ih =>
      intro fuel i τ hi hf hG
      obtain ⟨f, rfl, hf⟩ := fu hf
      have t0 := cell i τ hG 0 (by decide) (by decide) (by decide) (by decide) (by decide)
      have e0 : τ 0 19 = nI nj := by rw [t0]; exact hj
      have e1 : τ 0 11 = nI nc := by rw [t0]; exact hc
      refine as_1 ⟨fun h' => absurd h' (le_at e0 (by omega) (by omega)), fun _ => ?_⟩
      rw [e1]
      exact inner (10 * k + 1) i (by omega) (fun f' τ' hf' hG' => ih f' (i + 1) τ' (by omega) (by omega) hG') nc f (-1) τ (Nat.le_refl _) (by omega) hG (Or.inl ⟨rfl, fun k h1 h2 => absurd h1 (by omega)⟩)
  have o0 := outer nj 3999 0 ν (by omega) (by omega) ⟨fun _ _ _ _ _ => rfl, rfl, rfl, rfl⟩
  rw [show nI (63 - S 0) = 63 from congrArg (fun x => nI (63 - x)) hC.1, show tvI ch t 0 = 0 from rfl, show nI (gvI ch 0) = 0 from rfl, show nI 0 = 0 from rfl] at o0
  exact o0
