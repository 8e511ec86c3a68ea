/-! tick: the two loops, and what they keep -/
theorem r_mtick {μ : Sg} {nc : Nat} {v w : Int32} {Q : Int32 → Sg → Prop} (hn : μ 0 11 = nI nc) (h6 : nc ≤ 6) (hv : μ 0 24 = v)
    (h : ∀ τ : Sg, τ 9 = tkO (μ 9) (μ 10) v (μ 9) nc → (∀ j, j ≠ 9 → τ j = μ j) → Q (nI (tkN (μ 9) (μ 10) v nc)) τ) : q_Model_tick_j Q 3999 1 w 0 0 μ := by
  have key : ∀ k fuel i (τ : Sg), i + k = nc → k < fuel → τ 9 = tkO (μ 9) (μ 10) v (μ 9) i → (∀ j, j ≠ 9 → τ j = μ j) → q_Model_tick_j Q fuel 1 w (nI (tkN (μ 9) (μ 10) v i)) (nI i) τ := by
    intro k
    induction k with
    | zero =>
      intro fuel i τ hi hf h9 hS
      obtain ⟨f, rfl, -⟩ := fu hf
      obtain rfl : i = nc := hi
      have e0 : τ 0 11 = nI i := by rw [hS 0 (by decide)]; exact hn
      exact ⟨fun _ => h τ h9 hS, fun h' => absurd (le_end e0 (by omega)) h'⟩
    | succ k ih =>
      intro fuel i τ hi hf h9 hS
      obtain ⟨f, rfl, hf⟩ := fu hf
      have e0 : τ 0 11 = nI nc := by rw [hS 0 (by decide)]; exact hn
      have e1 : τ 0 24 = v := by rw [hS 0 (by decide)]; exact hv
      have e2 : τ 10 = μ 10 := hS 10 (by decide)
      refine ⟨fun h' => absurd h' (le_at e0 (by omega) (by omega)), fun _ => ⟨vi (by omega), ?_⟩⟩
      have eo : τ 9 i = μ 9 i := by rw [h9]; exact tkO_ge i i (Nat.le_refl _)
      rw [ck (by omega), nI_1 i, eo, e1, e2]
      refine ⟨fun h1 => ?_, fun h1 => ⟨vi (by omega), fun h2 => ?_, fun h2 => ⟨vi (by omega), ?_⟩⟩⟩
      · have hc : ¬ (¬ μ 9 i = -1 ∧ ¬ v < μ 10 i) := fun h => h.1 h1
        have := ih f (i + 1) τ (by omega) (by omega) (by rw [tkO_n hc]; exact h9) hS
        rwa [tkN_n hc] at this
      · have hc : ¬ (¬ μ 9 i = -1 ∧ ¬ v < μ 10 i) := fun h => h.2 h2
        have := ih f (i + 1) τ (by omega) (by omega) (by rw [tkO_n hc]; exact h9) hS
        rwa [tkN_n hc] at this
      · have hc : ¬ μ 9 i = -1 ∧ ¬ v < μ 10 i := ⟨h1, h2⟩
        rw [tkN_y hc]
        refine ih f (i + 1) _ (by omega) (by omega) ?_ (fun j h3 => ?_)
        · rw [tkO_y hc]; exact sto_sto h9
        · rw [sto_ne h3]; exact hS j h3
  exact key nc 3999 0 μ (by omega) (by omega) rfl (fun _ _ => rfl)
theorem m_tick {a : Int32} {μ : Sg} {Q : Int32 → Sg → Prop} (h : q_Model_tick_b0 (q_Model_tick_j Q 3999) Q a 0 0 μ) : q_Model_tick a μ Q := h
theorem tk_fl {n np nc nj : Nat} {v : Int32} {un fa fo fh fc st : Nat → Int32} (h : gFl n np nc nj fa fo fh fc st) : gFl n np nc nj fa (tkO fo un v fo nc) fh fc st := by
  refine ⟨h.1, fun c hc => ?_, h.2.2⟩
  rw [tkO_lt nc c hc]
  by_cases e : ¬ fo c = -1 ∧ ¬ v < un c
  · rw [if_pos e]; exact Or.inl rfl
  · rw [if_neg e]; exact h.2.1 c hc
theorem tk_ar {nc : Nat} {v : Int32} {un fo ar : Nat → Int32} (h : gAr nc fo ar un) : gAr nc (tkO fo un v fo nc) (tkO fo un v ar nc) un := by
  intro c hc
  rw [tkO_lt nc c hc, tkO_lt nc c hc]
  by_cases e : ¬ fo c = -1 ∧ ¬ v < un c
  · rw [if_pos e, if_pos e, if_pos rfl]
  · rw [if_neg e, if_neg e]; exact h c hc
theorem s_tick {a : Int32} {σ : SG} {μ : Sg} (hR : r_R σ μ) : ls_tick a σ μ r_R := by
  have hR0 := hR
  obtain ⟨n, np, nr, nc, nj, hz, ⟨⟨hn1, hn2, hn3⟩, ⟨hp1, hp2⟩, ⟨hr1, hr2⟩, ⟨hc1, hc2⟩, ⟨hj1, hj2⟩, ht⟩, he, hi⟩ := hR
  intro f
  unfold q_Law_tick q_Face_tick
  refine ⟨fun h1 => ⟨rfl, m_tick ?_⟩, fun h1 => ⟨fun h2 => ?_, fun h2 => ⟨rfl, m_tick ?_⟩⟩⟩
  · unfold q_Model_tick_b0
    refine m_in0 (Or.inl (by rw [← ht]; exact h1)) (b0 ⟨rfl, fun h => absurd h (by decide), r_thr hR0⟩)
  · have h2' : ¬ 1000000 < a := fun h => Int32.not_le.mpr h h2
    refine r_arrive (un := μ 10) hc1 hz.2.2.2.2.1 hi.2.2.1.2 (fun u hu => m_tick ?_)
    unfold q_Model_tick_b0
    refine m_in1 (by rw [← ht]; exact h1) h2' (b1 (r_mtick (μ := sto (sto μ 0 0 0) 0 24 a) (v := a) hc2 hz.2.2.2.2.1 rfl (fun τ h9 hS => ?_)))
    have eo : σ 4 2 = μ 9 := he.2.2.2.1.2.1
    have h9' : τ 9 = tkO (μ 9) (μ 10) a (μ 9) nc := h9
    have e0 := hS 0 (by decide)
    obtain ⟨u2, u3, uu⟩ := hu
    refine okB ((congrFun e0 0).trans rfl) ?_ (by show nI (tkN (σ 4 2) (μ 10) a nc) = _; rw [eo]; rfl)
    refine ⟨n, np, nr, nc, nj, hz, ⟨⟨hn1, hn2, (congrFun e0 1).trans hn3⟩, ⟨hp1, (congrFun e0 4).trans hp2⟩, ⟨hr1, (congrFun e0 9).trans hr2⟩, ⟨(congrFun (uu 0 (by decide) (by decide)) 7).trans hc1, (congrFun e0 11).trans hc2⟩, ⟨hj1, (congrFun e0 19).trans hj2⟩, (congrFun e0 24).symm⟩, ?_, ?_⟩
    · obtain ⟨⟨a1, a2⟩, ⟨a3, a4, a5, a6⟩, a7, ⟨a8, a9, a10, a11, a12, a13⟩, a14, a15, a16, a17⟩ := he
      exact ⟨⟨a1.trans (hS 1 (by decide)).symm, a2.trans (hS 2 (by decide)).symm⟩, ⟨a3.trans (hS 3 (by decide)).symm, a4.trans (hS 4 (by decide)).symm, a5.trans (hS 5 (by decide)).symm, a6.trans (hS 6 (by decide)).symm⟩, a7.trans (hS 7 (by decide)).symm,
        ⟨(uu 1 (by decide) (by decide)).trans (a8.trans (hS 8 (by decide)).symm), u2.trans (by show tkO (σ 4 2) (μ 10) a (σ 4 2) nc = _; rw [eo]; exact h9'.symm), (uu 4 (by decide) (by decide)).trans (a10.trans (hS 11 (by decide)).symm), (uu 5 (by decide) (by decide)).trans (a11.trans (hS 12 (by decide)).symm), (uu 6 (by decide) (by decide)).trans (a12.trans (hS 13 (by decide)).symm), (uu 7 (by decide) (by decide)).trans (a13.trans (hS 14 (by decide)).symm)⟩,
        a14.trans (hS 15 (by decide)).symm, a15.trans (hS 16 (by decide)).symm, a16.trans (hS 17 (by decide)).symm, a17.trans (hS 18 (by decide)).symm⟩
    · refine ⟨hi.1, hi.2.1, ⟨?_, ?_⟩, hi.2.2.2.1, ?_, hi.2.2.2.2.2⟩
      · show gFl n np nc nj (u 1) (u 2) (u 4) (u 5) (σ 5 3)
        rw [uu 1 (by decide) (by decide), uu 4 (by decide) (by decide), uu 5 (by decide) (by decide), u2]
        exact tk_fl hi.2.2.1.1
      · show gAr nc (u 2) (u 3) (τ 10)
        rw [u2, u3, hS 10 (by decide)]
        exact tk_ar hi.2.2.1.2
      · show gDn nc nj (u 6) (σ 5 3)
        rw [uu 6 (by decide) (by decide)]; exact hi.2.2.2.2.1
  · unfold q_Model_tick_b0
    refine m_in0 (Or.inr (Int32.not_le.mp h2)) (b0 ⟨rfl, fun h => absurd h (by decide), r_thr hR0⟩)
