/-! the reference's reckoning -/
theorem m_worth {τ : Sg} {n np nc nj j c : Nat} {D : Nat → Nat → Nat} {Q : Int32 → Sg → Prop} (hn : τ 0 1 = nI n) (z2 : n ≤ 10) (hp : τ 0 4 = nI np) (z3 : np ≤ 30) (z5 : nc ≤ 6) (z6 : nj ≤ 12) (hj : j < nj) (hc : c < nc) (hpc : gPc n np (τ 3) (τ 4) (τ 5)) (ok : ds_ok n 1000000 (oE n np (τ 3) (τ 4) (τ 5) (τ 6)) D)
    (g1 : ∀ c, c < nc → ∃ p, p < n ∧ τ 8 c = nI p) (g2 : ∀ j, j < nj → ∃ p, p < n ∧ τ 15 j = nI p)
    (h1 : offd D (τ 8) (τ 9) (τ 11) (τ 15) (τ 17) j c → ∀ u : Sg, (∀ k, k ≠ 19 → u k = τ k) → Q (nI (100000 - trv D (τ 8) (τ 15) j c)) u)
    (h0 : ¬ offd D (τ 8) (τ 9) (τ 11) (τ 15) (τ 17) j c → ∀ u : Sg, (∀ k, k ≠ 19 → u k = τ k) → Q (-1) u) : q_Model_worth (nI j) (nI c) τ Q := by
  have c6 : c < 6 := by omega
  have j12 : j < 12 := by omega
  unfold q_Model_worth
  rw [ck (k := j) (by omega), ck (k := c) (by omega)]
  refine ⟨vi j12, fun w1 => ⟨vi c6, fun w2 => ⟨vi c6, fun w3 => ⟨vi c6, vi j12, ?_⟩, fun w3 => h0 (fun h => w3 h.2.1) τ (fun _ _ => rfl)⟩, fun w2 => h0 (fun h => w2 h.2.2.1) τ (fun _ _ => rfl)⟩, fun w1 => h0 (fun h => w1 h.1) τ (fun _ _ => rfl)⟩
  obtain ⟨a1, a2⟩ := ixn (by omega) (g1 c hc)
  obtain ⟨b1, b2⟩ := ixn (by omega) (g2 j hj)
  rw [a2, b2]
  refine m_times hn z2 hp z3 b1 hpc ok (fun u hS hX => ⟨vi (by omega), ?_⟩)
  rw [ck (k := (τ 8 c).toNatClampNeg) (by omega), hX _ a1]
  by_cases hF : D (τ 8 c).toNatClampNeg (τ 15 j).toNatClampNeg < 1000000
  · have sm := ds_small oE_E ok a1 b1 hF
    rw [mFar_y hF]
    refine ⟨fun h => ?_, fun _ => ?_⟩
    · have := (nI_eq (a := D (τ 8 c).toNatClampNeg (τ 15 j).toNatClampNeg) (b := 1000000000) (by omega) (by omega)).mp h
      omega
    · rw [show (100000 : Int32) = nI 100000 from rfl, pk_sub (by omega)]
      exact h1 ⟨w1, w3, w2, hF⟩ u hS
  · rw [mFar_n hF]
    exact ⟨fun _ => h0 (fun h => hF h.2.2.2) u hS, fun h => absurd rfl h⟩
/-- row j of the reference's best worths: its sets are those that are free -/
def mrow (j : Nat) (f : Nat → Int32) (p : Nat → Nat) : Prop := ∀ s, s < 64 → f (64 * j + s) = nI (p (63 - s))
/-- what the reference's rows keep -/
def mK (μ τ : Sg) : Prop := ∀ k, k ≠ 19 → k ≠ 20 → τ k = μ k
theorem rk_0 {Q : Sg → Prop} {σ : Sg} (h : q_Model_reckon_j Q 9999 1 0 0 0 0 0 σ) : q_Model_reckon σ Q := h
theorem rk_2 {Q : Sg → Prop} {f : Nat} {v a b c d : Int32} {σ : Sg} (h : (v < 0 → Q σ) ∧ (¬ v < 0 → q_Model_reckon_j Q f 3 v 0 0 0 0 σ)) : q_Model_reckon_j Q (f + 1) 2 v a b c d σ := by
  unfold q_Model_reckon_j q_Model_reckon_b2; exact h
theorem m_reckon {μ : Sg} {n np nc nj : Nat} {D : Nat → Nat → Nat} {Q : Sg → Prop} (hn : μ 0 1 = nI n) (z2 : n ≤ 10) (hp : μ 0 4 = nI np) (z3 : np ≤ 30) (hc : μ 0 11 = nI nc) (z5 : nc ≤ 6) (hj : μ 0 19 = nI nj) (z6 : nj ≤ 12) (hpc : gPc n np (μ 3) (μ 4) (μ 5)) (ok : ds_ok n 1000000 (oE n np (μ 3) (μ 4) (μ 5) (μ 6)) D)
    (g1 : ∀ c, c < nc → ∃ p, p < n ∧ μ 8 c = nI p) (g2 : ∀ j, j < nj → ∃ p, p < n ∧ μ 15 j = nI p)
    (hT : ∀ j c, j < nj → c < nc → offd D (μ 8) (μ 9) (μ 11) (μ 15) (μ 17) j c → trv D (μ 8) (μ 15) j c ≤ 900)
    (h : ∀ τ : Sg, mK μ τ → (∀ j, j ≤ nj → mrow j (τ 20) (bst 100000 nc nj (offd D (μ 8) (μ 9) (μ 11) (μ 15) (μ 17)) (trv D (μ 8) (μ 15)) (nj - j))) → Q τ) : q_Model_reckon μ Q := by
  have rb := rel_bst z5 hT
  generalize ho : offd D (μ 8) (μ 9) (μ 11) (μ 15) (μ 17) = o at *
  generalize ht : trv D (μ 8) (μ 15) = t at *
  have bd : ∀ r, r ≤ nj → ∀ s, s < 64 → bst 100000 nc nj o t r s ≤ 600000 := fun r hr s hs => (rel_bd (by omega) (rb r hr s hs)).2
  have bdr : ∀ j, j < nj → ∀ s, s < 64 → ∀ c, c ≤ nc → rowc 100000 (o j) (t j) (bst 100000 nc nj o t (nj - (j + 1))) s c ≤ 600000 := fun j hj' s hs c hc' => (rel_bd (by omega) (rel_row hs z5 (fun c hc o => hT j c hj' hc o) (rb _ (by omega)) c hc')).2
  -- one carrier for all sets
  have five : ∀ (F j c : Nat), j < nj → c < nc → o j c → (∀ f' (τ' : Sg), F ≤ f' → mK μ τ' → (∀ j', j < j' → j' ≤ nj → mrow j' (τ' 20) (bst 100000 nc nj o t (nj - j'))) → mrow j (τ' 20) (fun s => rowc 100000 (o j) (t j) (bst 100000 nc nj o t (nj - (j + 1))) s (c + 1)) → q_Model_reckon_j Q f' 4 (nI j) (nI (c + 1)) 0 0 0 τ') →
      ∀ k fuel i (τ : Sg), i + k = 64 → F + k < fuel → mK μ τ → (∀ j', j < j' → j' ≤ nj → mrow j' (τ 20) (bst 100000 nc nj o t (nj - j'))) → (∀ s, s < 64 → τ 20 (64 * j + s) = nI (rowc 100000 (o j) (t j) (bst 100000 nc nj o t (nj - (j + 1))) (63 - s) (if s < i then c + 1 else c))) → q_Model_reckon_j Q fuel 5 (nI j) (nI c) (nI (100000 - t j c)) (nI i) 0 τ := by
    intro F j c hjn hcn hoff hout k
    induction k with
    | zero =>
      intro fuel i τ hi hf hK hR hT'
      obtain ⟨f, rfl, -⟩ := fu hf
      obtain rfl : i = 64 := hi
      refine ⟨fun _ => ?_, fun h' => absurd (nI_le (a := 64) (b := 64) (by omega) (by omega)) h'⟩
      rw [nI_1]
      refine hout f τ (by omega) hK hR (fun s hs => ?_)
      rw [hT' s hs, if_pos hs]
    | succ k ih =>
      intro fuel i τ hi hf hK hR hT'
      obtain ⟨f, rfl, hf⟩ := fu hf
      have i64 : i < 64 := by omega
      have c6 : c < 6 := by omega
      have t9 := hT j c hjn hcn hoff
      have l1 := or_lt (63 - i) (by omega) c c6
      refine ⟨fun h' => absurd h' (nle_k (k := 64) i64 (by omega)), fun _ => ⟨fun h' => absurd h' (nI_pos (by omega)), fun _ => ?_⟩⟩
      rw [bt_m i i64 c c6, bt_d i i64 c c6, nI_1 j, nI_1 i, ix46, ix46, ck (k := 64 * (j + 1) + (63 - (63 - i ||| 2 ^ c))) (by omega), ck (k := 64 * j + i) (by omega)]
      have cur := hT' i i64
      rw [if_neg (by omega)] at cur
      have nx := hR (j + 1) (by omega) (by omega) (63 - (63 - i ||| 2 ^ c)) (by omega)
      rw [show 63 - (63 - (63 - i ||| 2 ^ c)) = 63 - i ||| 2 ^ c by omega] at nx
      have b1 := bdr j hjn (63 - i) (by omega) c (by omega)
      have b2 := bd (nj - (j + 1)) (by omega) (63 - i ||| 2 ^ c) l1
      rw [cur, nx, nI_add]
      have put : ∀ x : Nat, x = rowc 100000 (o j) (t j) (bst 100000 nc nj o t (nj - (j + 1))) (63 - i) (c + 1) → q_Model_reckon_j Q f 5 (nI j) (nI c) (nI (100000 - t j c)) (nI (i + 1)) 0 (sto τ 20 (64 * j + i) (nI x)) := by
        intro x hx
        refine ih f (i + 1) _ (by omega) (by omega) (fun k h19 h20 => by rw [sto_ne h20]; exact hK k h19 h20) (fun j' h1 h2 s hs => ?_) (fun s hs => ?_)
        · rw [sto_sto rfl, pk_un (by omega)]; exact hR j' h1 h2 s hs
        · rw [sto_sto rfl]
          by_cases e : s = i
          · subst e; rw [pk_us, if_pos (by omega), hx]
          · rw [pk_un (by omega), hT' s hs]
            by_cases e2 : s < i
            · rw [if_pos e2, if_pos (by omega)]
            · rw [if_neg e2, if_neg (by omega)]
      refine ⟨fun hb => ⟨vi (by omega), vi (by omega), fun hle => ⟨vi (by omega), vi (by omega), put _ ?_⟩, fun hle => ⟨vi (by omega), put _ ?_⟩⟩, fun hb => ⟨vi (by omega), fun _ => ⟨vi (by omega), vi (by omega), put _ ?_⟩, fun h' => absurd (nI_pos' (by omega)) h'⟩⟩
      · have h1 := (nI_leI (by omega) (by omega)).mp hle
        rw [rowc_y hoff hb, Nat.max_eq_left h1]
      · have h1 : ¬ (100000 - t j c + bst 100000 nc nj o t (nj - (j + 1)) (63 - i ||| 2 ^ c) ≤ rowc 100000 (o j) (t j) (bst 100000 nc nj o t (nj - (j + 1))) (63 - i) c) := fun h => hle (nI_le h (by omega))
        rw [rowc_y hoff hb, Nat.max_eq_right (by omega)]
      · rw [rowc_n (fun h => hb h.2)]
  -- one job: carrier by carrier
  have four : ∀ (F j : Nat), j < nj → (∀ f' (τ' : Sg), F ≤ f' → mK μ τ' → (∀ j', j ≤ j' → j' ≤ nj → mrow j' (τ' 20) (bst 100000 nc nj o t (nj - j'))) → q_Model_reckon_j Q f' 2 (nI j + (-1)) 0 0 0 0 τ') →
      ∀ k fuel c (τ : Sg), c + k = nc → F + 70 * k < fuel → mK μ τ → (∀ j', j < j' → j' ≤ nj → mrow j' (τ 20) (bst 100000 nc nj o t (nj - j'))) → mrow j (τ 20) (fun s => rowc 100000 (o j) (t j) (bst 100000 nc nj o t (nj - (j + 1))) s c) → q_Model_reckon_j Q fuel 4 (nI j) (nI c) 0 0 0 τ := by
    intro F j hjn hout k
    induction k with
    | zero =>
      intro fuel c τ hi hf hK hR hT'
      obtain ⟨f, rfl, -⟩ := fu hf
      obtain rfl : c = nc := hi
      have e0 : τ 0 11 = nI c := by rw [hK 0 (by decide) (by decide)]; exact hc
      refine ⟨fun _ => ?_, fun h' => absurd (le_end e0 (by omega)) h'⟩
      refine hout f τ (by omega) hK (fun j' h1 h2 s hs => ?_)
      by_cases e : j' = j
      · subst e
        rw [bst_s hjn]; exact hT' s hs
      · exact hR j' (by omega) h2 s hs
    | succ k ih =>
      intro fuel c τ hi hf hK hR hT'
      obtain ⟨f, rfl, hf⟩ := fu hf
      have hcn : c < nc := by omega
      have e0 : τ 0 11 = nI nc := by rw [hK 0 (by decide) (by decide)]; exact hc
      refine ⟨fun h' => absurd h' (le_at e0 (by omega) hcn), fun _ => ?_⟩
      have t0 := hK 0 (by decide) (by decide)
      have t3 := hK 3 (by decide) (by decide)
      have t4 := hK 4 (by decide) (by decide)
      have t5 := hK 5 (by decide) (by decide)
      have t6 := hK 6 (by decide) (by decide)
      have t8 := hK 8 (by decide) (by decide)
      have t9 := hK 9 (by decide) (by decide)
      have t11 := hK 11 (by decide) (by decide)
      have t15 := hK 15 (by decide) (by decide)
      have t17 := hK 17 (by decide) (by decide)
      refine m_worth (n := n) (np := np) (nc := nc) (nj := nj) (D := D) (by rw [t0]; exact hn) z2 (by rw [t0]; exact hp) z3 z5 z6 hjn hcn (by rw [t3, t4, t5]; exact hpc) (by rw [t3, t4, t5, t6]; exact ok) (by rw [t8]; exact g1) (by rw [t15]; exact g2) (fun ho' u hu => ?_) (fun ho' u hu => ?_)
      · rw [t8, t9, t11, t15, t17, ho] at ho'
        rw [t8, t15, ht]
        have hK' : mK μ u := fun k h19 h20 => (hu k h19).trans (hK k h19 h20)
        have u20 : u 20 = τ 20 := hu 20 (by decide)
        refine five (F + 70 * k + 1) j c hjn hcn ho' (fun f' τ' hf' hK'' hR'' hT'' => ih f' (c + 1) τ' (by omega) (by omega) hK'' hR'' hT'') 64 f 0 u (by omega) (by omega) hK' (by rw [u20]; exact hR) (fun s hs => ?_)
        rw [u20, if_neg (by omega)]; exact hT' s hs
      · rw [t8, t9, t11, t15, t17, ho] at ho'
        have hK' : mK μ u := fun k h19 h20 => (hu k h19).trans (hK k h19 h20)
        have u20 : u 20 = τ 20 := hu 20 (by decide)
        obtain ⟨f', rfl, -⟩ := fu (show 0 < f by omega)
        refine ⟨fun h' => absurd h' (by decide), fun _ => ⟨fun _ => ?_, fun h' => absurd (by decide) h'⟩⟩
        rw [nI_1]
        refine ih f' (c + 1) u (by omega) (by omega) hK' (by rw [u20]; exact hR) (fun s hs => ?_)
        show u 20 _ = nI (rowc 100000 (o j) (t j) (bst 100000 nc nj o t (nj - (j + 1))) (63 - s) (c + 1))
        rw [u20, rowc_n (fun h => ho' h.1)]; exact hT' s hs
  have three : ∀ (F j : Nat), j < nj → (∀ f' (τ' : Sg), F ≤ f' → mK μ τ' → (∀ j', j < j' → j' ≤ nj → mrow j' (τ' 20) (bst 100000 nc nj o t (nj - j'))) → mrow j (τ' 20) (bst 100000 nc nj o t (nj - (j + 1))) → q_Model_reckon_j Q f' 4 (nI j) 0 0 0 0 τ') →
      ∀ k fuel i (τ : Sg), i + k = 64 → F + k < fuel → mK μ τ → (∀ j', j < j' → j' ≤ nj → mrow j' (τ 20) (bst 100000 nc nj o t (nj - j'))) → (∀ s, s < i → τ 20 (64 * j + s) = nI (bst 100000 nc nj o t (nj - (j + 1)) (63 - s))) → q_Model_reckon_j Q fuel 3 (nI j) (nI i) 0 0 0 τ := by
    intro F j hjn hout k
    induction k with
    | zero =>
      intro fuel i τ hi hf hK hR hT'
      obtain ⟨f, rfl, -⟩ := fu hf
      obtain rfl : i = 64 := hi
      exact ⟨fun _ => hout f τ (by omega) hK hR hT', fun h' => absurd (nI_le (a := 64) (b := 64) (by omega) (by omega)) h'⟩
    | succ k ih =>
      intro fuel i τ hi hf hK hR hT'
      obtain ⟨f, rfl, hf⟩ := fu hf
      refine ⟨fun h' => absurd h' (nle_k (k := 64) (by omega) (by omega)), fun _ => ?_⟩
      rw [nI_1 j, nI_1 i, ix46, ix46, ck (k := 64 * (j + 1) + i) (by omega), ck (k := 64 * j + i) (by omega)]
      refine ⟨vi (by omega), vi (by omega), ih f (i + 1) _ (by omega) (by omega) (fun k h19 h20 => by rw [sto_ne h20]; exact hK k h19 h20) (fun j' h1 h2 s hs => ?_) (fun s hs => ?_)⟩
      · rw [sto_sto rfl, pk_un (by omega)]; exact hR j' h1 h2 s hs
      · rw [sto_sto rfl]
        by_cases e : s = i
        · subst e; rw [pk_us]; exact hR (j + 1) (by omega) (by omega) s (by omega)
        · rw [pk_un (by omega)]; exact hT' s (by omega)
  have two : ∀ i fuel (τ : Sg), i ≤ nj → 600 * i < fuel → mK μ τ → (∀ j', i ≤ j' → j' ≤ nj → mrow j' (τ 20) (bst 100000 nc nj o t (nj - j'))) → q_Model_reckon_j Q fuel 2 (nI i - 1) 0 0 0 0 τ := by
    intro i
    induction i with
    | zero =>
      intro fuel τ hi hf hK hR
      obtain ⟨f, rfl, -⟩ := fu hf
      exact rk_2 ⟨fun _ => h τ hK (fun j hj' => hR j (by omega) hj'), fun h' => absurd (by decide) h'⟩
    | succ i ih =>
      intro fuel τ hi hf hK hR
      obtain ⟨f, rfl, hf⟩ := fu hf
      rw [nI_pred]
      refine rk_2 ⟨fun h' => absurd h' (nI_pos (by omega)), fun _ => ?_⟩
      refine three (600 * i + 500) i (by omega) (fun f' τ' hf' hK' hR' hT' => ?_) 64 f 0 τ (by omega) (by omega) hK (fun j' h1 h2 => hR j' (by omega) h2) (fun s hs => absurd hs (by omega))
      refine four (600 * i + 1) i (by omega) (fun f'' τ'' hf'' hK'' hR'' => ?_) nc f' 0 τ' (by omega) (by omega) hK' hR' hT'
      rw [show nI i + (-1) = nI i - 1 from by rw [Int32.sub_eq_add_neg]]
      exact ih f'' τ'' (by omega) (by omega) hK'' hR''
  have one : ∀ k fuel i (τ : Sg), i + k = 64 → 8000 + k < fuel → mK μ τ → (∀ s, s < i → τ 20 (64 * nj + s) = 0) → q_Model_reckon_j Q fuel 1 (nI i) 0 0 0 0 τ := by
    intro k
    induction k with
    | zero =>
      intro fuel i τ hi hf hK hT'
      obtain ⟨f, rfl, -⟩ := fu hf
      obtain rfl : i = 64 := hi
      refine ⟨fun _ => ?_, fun h' => absurd (nI_le (a := 64) (b := 64) (by omega) (by omega)) h'⟩
      rw [hK 0 (by decide) (by decide), hj]
      refine two nj f τ (Nat.le_refl _) (by omega) hK (fun j' h1 h2 s hs => ?_)
      obtain rfl : j' = nj := by omega
      rw [hT' s hs, Nat.sub_self]; rfl
    | succ k ih =>
      intro fuel i τ hi hf hK hT'
      obtain ⟨f, rfl, hf⟩ := fu hf
      refine ⟨fun h' => absurd h' (nle_k (k := 64) (by omega) (by omega)), fun _ => ?_⟩
      rw [hK 0 (by decide) (by decide), hj, nI_1, ix46, ck (k := 64 * nj + i) (by omega)]
      refine ⟨vi (by omega), ih f (i + 1) _ (by omega) (by omega) (fun k h19 h20 => by rw [sto_ne h20]; exact hK k h19 h20) (fun s hs => ?_)⟩
      rw [sto_sto rfl]
      by_cases e : s = i
      · subst e; exact pk_us
      · rw [pk_un (by omega)]; exact hT' s (by omega)
  exact rk_0 (one 64 9999 0 μ (by omega) (by omega) (fun _ _ _ => rfl) (fun s hs => absurd hs (by omega)))
