theorem as_0 {Q : Int32 → Sg → Prop} {μ : Sg} (h : q_Model_reckon (sto μ 0 0 0) (fun u => q_Model_assign_j Q 3999 1 63 0 0 0 0 0 0 u)) : q_Model_assign μ Q := h
theorem s_assign {σ : SG} {μ : Sg} (hR : r_R σ μ) : ls_assign σ μ r_R := by
  obtain ⟨n, np, nr, nc, nj, ⟨z1, z2, z3, z4, z5, z6⟩, ⟨⟨hn1, hn2, hn3⟩, ⟨hp1, hp2⟩, ⟨hr1, hr2⟩, ⟨hc1, hc2⟩, ⟨hj1, hj2⟩, hclk⟩, ⟨⟨a1, a2⟩, ⟨a3, a4, a5, a6⟩, a7, ⟨a8, a9, a10, a11, a12, a13⟩, a14, a15, a16, a17⟩, i1, ⟨hpc, hcl, D, hD, ok⟩, ⟨g, i4⟩, i5, i6, i7⟩ := hR
  have hT : ∀ j c, j < nj → c < nc → offd D (σ 4 1) (σ 4 2) (σ 4 4) (σ 5 1) (σ 5 3) j c → trv D (σ 4 1) (σ 5 1) j c ≤ 900 := by
    intro j c hj hc ho
    obtain ⟨x1, _⟩ := ixn (by omega) (g.1 c hc)
    obtain ⟨y1, _⟩ := ixn (by omega) (i5.1 j hj)
    have := ds_small oE_E ok x1 y1 ho.2.2.2
    show D _ _ ≤ 900
    omega
  unfold ls_assign q_Face_assign
  refine r_offers (n := n) (nc := nc) (nj := nj) (D := D) z2 z5 z6 hc1 hj1 g.1 i5.1 hD ok.2.1 hT (fun τ A hA q3 q4 q5 hab hw hq2 => ?_)
  have K : chK nj nc A (offd D (σ 4 1) (σ 4 2) (σ 4 4) (σ 5 1) (σ 5 3)) (trv D (σ 4 1) (σ 5 1)) τ := ⟨z6, z5, hA, q3, q4, q5, hab, hT, fun j c hj hc ho => (hw j c hj hc).1 trivial ho, fun j c hj hc ho => (hw j c hj hc).2 (fun h => ho h.2)⟩
  refine r_settle (τ := τ) K (by rw [hq2]; exact i7) (fun τ' S hz hC => ?_)
  refine r_give (n := n) (nc := nc) (nj := nj) (D := D) (P := fun j => pP 6000 nc nj (offd D (σ 4 1) (σ 4 2) (σ 4 4) (σ 5 1) (σ 5 3)) (trv D (σ 4 1) (σ 5 1)) j (S j)) z2 z5 z6 hj1 g.1 i5.1 hD (fun j hj => (hC.2 j hj).2.1) (fun u b1 b2 b3 b4 b5 b6 => ?_)
  have u0 : u 0 = σ 0 := b1 0 (by decide) (by decide)
  have u1 : u 1 = σ 1 := b1 1 (by decide) (by decide)
  have u2 : u 2 = σ 2 := b1 2 (by decide) (by decide)
  have u3 : u 3 = σ 3 := b1 3 (by decide) (by decide)
  have u6 : u 6 = τ' := b1 6 (by decide) (by decide)
  have u4 : ∀ k, k ≠ 4 → u 4 k = σ 4 k := b2
  have u44 : u 4 4 = fhI (τ' 3) (σ 4 4) nj := b3
  have u5 : ∀ k, k ≠ 3 → k ≠ 4 → u 5 k = σ 5 k := b4
  have u53 : u 5 3 = stI (τ' 3) (σ 5 3) nj := b5
  have u54 : u 5 4 = hdI (τ' 3) (σ 5 4) nj := b6
  obtain ⟨f1, f2, f3, -, -⟩ := give_inv z5 z6 hC g i5 nj (Nat.le_refl _)
  have rR : ∀ v : Sg, (∀ k, k ≠ 0 → k ≠ 11 → k ≠ 17 → k ≠ 18 → k ≠ 19 → k ≠ 20 → v k = μ k) → (∀ j, j ≠ 0 → v 0 j = μ 0 j) → v 11 = fhI (τ' 3) (μ 11) nj → v 17 = stI (τ' 3) (μ 17) nj → v 18 = hdI (τ' 3) (μ 18) nj → r_R u v := by
    intro v w w0 w11 w17 w18
    have w' : ∀ k, k ≠ 0 ∧ k ≠ 11 ∧ k ≠ 17 ∧ k ≠ 18 ∧ k ≠ 19 ∧ k ≠ 20 → v k = μ k := fun k h => w k h.1 h.2.1 h.2.2.1 h.2.2.2.1 h.2.2.2.2.1 h.2.2.2.2.2
    refine ⟨n, np, nr, nc, nj, ⟨z1, z2, z3, z4, z5, z6⟩, ⟨⟨?_, ?_, ?_⟩, ⟨?_, ?_⟩, ⟨?_, ?_⟩, ⟨?_, ?_⟩, ⟨?_, ?_⟩, ?_⟩, ⟨⟨?_, ?_⟩, ⟨?_, ?_, ?_, ?_⟩, ?_, ⟨?_, ?_, ?_, ?_, ?_, ?_⟩, ?_, ?_, ?_, ?_⟩, ?_, ⟨?_, ?_, D, ?_, ?_⟩, ⟨?_, ?_⟩, ?_, ⟨?_, ?_⟩, ?_⟩
    · rw [u1]; exact hn1
    · rw [u2]; exact hn2
    · rw [w0 1 (by decide)]; exact hn3
    · rw [u2]; exact hp1
    · rw [w0 4 (by decide)]; exact hp2
    · rw [u3]; exact hr1
    · rw [w0 9 (by decide)]; exact hr2
    · rw [u4 0 (by decide)]; exact hc1
    · rw [w0 11 (by decide)]; exact hc2
    · rw [u5 0 (by decide) (by decide)]; exact hj1
    · rw [w0 19 (by decide)]; exact hj2
    · rw [u0, w0 24 (by decide)]; exact hclk
    · rw [u1, w' 1 (by decide)]; exact a1
    · rw [u1, w' 2 (by decide)]; exact a2
    · rw [u2, w' 3 (by decide)]; exact a3
    · rw [u2, w' 4 (by decide)]; exact a4
    · rw [u2, w' 5 (by decide)]; exact a5
    · rw [u2, w' 6 (by decide)]; exact a6
    · rw [u3, w' 7 (by decide)]; exact a7
    · rw [u4 1 (by decide), w' 8 (by decide)]; exact a8
    · rw [u4 2 (by decide), w' 9 (by decide)]; exact a9
    · rw [u44, w11, a10]
    · rw [u4 5 (by decide), w' 12 (by decide)]; exact a11
    · rw [u4 6 (by decide), w' 13 (by decide)]; exact a12
    · rw [u4 7 (by decide), w' 14 (by decide)]; exact a13
    · rw [u5 1 (by decide) (by decide), w' 15 (by decide)]; exact a14
    · rw [u5 2 (by decide) (by decide), w' 16 (by decide)]; exact a15
    · rw [u53, w17, a16]
    · rw [u54, w18, a17]
    · rw [u1]; exact i1
    · rw [u2]; exact hpc
    · rw [u2]; exact hcl
    · rw [u2]; exact hD
    · rw [u2]; exact ok
    · rw [u4 1 (by decide), u4 2 (by decide), u44, u4 5 (by decide), u53]; exact f1
    · rw [u4 2 (by decide), u4 3 (by decide), w' 10 (by decide)]; exact i4
    · rw [u5 1 (by decide) (by decide), u5 2 (by decide) (by decide), u53]; exact f2
    · rw [u4 6 (by decide), u53, f3]; exact i6.1
    · rw [u4 6 (by decide)]; exact i6.2
    · rw [u6]; exact hz
  have hpc' : gPc n np (μ 3) (μ 4) (μ 5) := by rw [← a3, ← a4, ← a5]; exact hpc
  have ok' : ds_ok n 1000000 (oE n np (μ 3) (μ 4) (μ 5) (μ 6)) D := by rw [← a3, ← a4, ← a5, ← a6]; exact ok
  have g' : gFl n np nc nj (μ 8) (μ 9) (μ 11) (μ 12) (μ 17) := by rw [← a8, ← a9, ← a10, ← a11, ← a16]; exact g
  have b' : gJb n nj (μ 15) (μ 16) (μ 17) := by rw [← a14, ← a15, ← a16]; exact i5
  have hT' : ∀ j c, j < nj → c < nc → offd D (μ 8) (μ 9) (μ 11) (μ 15) (μ 17) j c → trv D (μ 8) (μ 15) j c ≤ 900 := by rw [← a8, ← a9, ← a10, ← a14, ← a16]; exact hT
  have hC' : chS nc nj (offd D (μ 8) (μ 9) (μ 11) (μ 15) (μ 17)) (trv D (μ 8) (μ 15)) nj S (τ' 3) := by rw [← a8, ← a9, ← a10, ← a14, ← a16]; exact hC
  have et : trv D (σ 4 1) (σ 5 1) = trv D (μ 8) (μ 15) := by rw [a8, a14]
  have key : ∀ r1 : Int32, (nI (gvI (τ' 3) nj) = 0 → r1 = -1) → (¬ nI (gvI (τ' 3) nj) = 0 → r1 = tvI (τ' 3) (trv D (μ 8) (μ 15)) nj) → q_Model_assign μ (fun r v => r1 = r ∧ r_R u v) := by
    intro r1 e1 e2
    refine as_0 (m_give (μ := sto μ 0 0 0) (n := n) (np := np) (nc := nc) (nj := nj) (D := D) (S := S) (ch := τ' 3) hn3 z2 hp2 z3 hc2 z5 hj2 z6 hpc' ok' g' b' hT' hC' (fun v c1 c2 c3 c4 => ?_))
    have rv : r_R u v := rR v (fun k h0 h1 h2 h3 h4 h5 => (c1 k h1 h2 h3 h4 h5).trans (sto_ne h0)) (fun j hj => ?_) c2 c3 c4
    · exact ⟨fun e => ⟨e1 e, rv⟩, fun e => ⟨e2 e, rv⟩⟩
    · rw [c1 0 (by decide) (by decide) (by decide) (by decide) (by decide), sto_sto rfl, pk_un hj]
  exact ⟨fun e => key _ (fun _ => rfl) (fun h => absurd e h), fun e => key _ (fun h => absurd h e) (fun _ => congrArg (fun t => tvI (τ' 3) t nj) et)⟩
