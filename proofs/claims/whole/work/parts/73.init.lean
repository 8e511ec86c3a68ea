/-! a new object -/
def pl10 : Nat → (Nat → Int32)
  | 0 => fun _ => 0
  | i + 1 => upd (pl10 i) i 2
theorem r_pinit {v : Int32} {Q : Sg → Prop} (h : ∀ τ : Sg, τ 1 = pl10 10 → (∀ j, j ≠ 1 → τ j = (sto zS 0 0 v) j) → Q τ) : q_Points_init v Q := by
  have key : ∀ k fuel i (τ : Sg), i + k = 10 → k < fuel → τ 1 = pl10 i → (∀ j, j ≠ 1 → τ j = (sto zS 0 0 v) j) → q_Points_init_j Q fuel 1 v (nI i) τ := by
    intro k
    induction k with
    | zero =>
      intro fuel i τ hi hf h1 hS
      obtain ⟨f, rfl, -⟩ := fu hf
      obtain rfl : i = 10 := hi
      exact ⟨fun _ => h τ h1 hS, fun h' => absurd (nI_le (a := 10) (b := 10) (by omega) (by omega)) h'⟩
    | succ k ih =>
      intro fuel i τ hi hf h1 hS
      obtain ⟨f, rfl, hf⟩ := fu hf
      refine ⟨fun h' => absurd h' (nle_k (k := 10) (by omega) (by omega)), fun _ => ⟨vi (by omega), ?_⟩⟩
      rw [ck (by omega), nI_1]
      exact ih f (i + 1) _ (by omega) (by omega) (sto_sto h1) (fun j hj => by rw [sto_ne hj]; exact hS j hj)
  exact key 10 3999 0 _ (by omega) (by omega) rfl (fun _ _ => rfl)
theorem m_minit {v w : Int32} {Q : Sg → Prop} (h : ∀ τ : Sg, τ 1 = pl10 10 → (∀ j, j ≠ 1 → τ j = (sto zS 0 1 w) j) → Q τ) : q_Model_init_j Q 3999 1 v 0 (sto zS 0 1 w) := by
  have key : ∀ k fuel i (τ : Sg), i + k = 10 → k < fuel → τ 1 = pl10 i → (∀ j, j ≠ 1 → τ j = (sto zS 0 1 w) j) → q_Model_init_j Q fuel 1 v (nI i) τ := by
    intro k
    induction k with
    | zero =>
      intro fuel i τ hi hf h1 hS
      obtain ⟨f, rfl, -⟩ := fu hf
      obtain rfl : i = 10 := hi
      exact ⟨fun _ => h τ h1 hS, fun h' => absurd (nI_le (a := 10) (b := 10) (by omega) (by omega)) h'⟩
    | succ k ih =>
      intro fuel i τ hi hf h1 hS
      obtain ⟨f, rfl, hf⟩ := fu hf
      refine ⟨fun h' => absurd h' (nle_k (k := 10) (by omega) (by omega)), fun _ => ⟨vi (by omega), ?_⟩⟩
      rw [ck (by omega), nI_1]
      exact ih f (i + 1) _ (by omega) (by omega) (sto_sto h1) (fun j hj => by rw [sto_ne hj]; exact hS j hj)
  exact key 10 3999 0 _ (by omega) (by omega) rfl (fun _ _ => rfl)
/-- the number of points: held between 2 and 10 by both -/
theorem clampP (v : Int32) : ∃ n, 2 ≤ n ∧ n ≤ 10 ∧ (if (2 : Int32) < (if v < 10 then v else 10) then (if v < 10 then v else 10) else 2) = nI n ∧ (2 ≤ v → v ≤ 10 → v = nI n) ∧ (2 ≤ v → ¬ v ≤ 10 → (10 : Int32) = nI n) ∧ (¬ 2 ≤ v → (2 : Int32) = nI n) := by
  by_cases h1 : v < 10
  · rw [if_pos h1]
    by_cases h2 : 2 < v
    · rw [if_pos h2]
      obtain ⟨k, hk, rfl⟩ := nI_of2 (x := v) (M := 10) (n := 10) rfl (fun h => absurd (Int32.lt_trans h2 h) (by decide)) (Int32.le_of_lt h1)
      have h3 := (nI_ltI (a := 2) (b := k) (by omega) (by omega)).mp h2
      exact ⟨k, by omega, hk, rfl, fun _ _ => rfl, fun _ h => absurd (Int32.le_of_lt h1) h, fun h => absurd (Int32.le_of_lt h2) h⟩
    · rw [if_neg h2]
      refine ⟨2, by omega, by omega, rfl, fun h _ => ?_, fun _ h => absurd (Int32.le_of_lt h1) h, fun _ => rfl⟩
      exact Int32.le_antisymm (Int32.not_lt.mp h2) h
  · rw [if_neg h1, if_pos (by decide)]
    have h10 := Int32.not_lt.mp h1
    refine ⟨10, by omega, by omega, rfl, fun _ h => Int32.le_antisymm h h10, fun _ _ => rfl, fun h => absurd (Int32.le_trans (by decide) h10) h⟩
theorem m_init {v : Int32} {Q : Sg → Prop} (h : q_Model_init_b0 (q_Model_init_j Q 3999) Q v 0 zS) : q_Model_init v Q := h
theorem r_init : ∀ v : Int32, q_Face_init v (fun σ => q_Model_init v (fun μ => r_R σ μ)) := by
  intro v
  obtain ⟨n, n2, n10, ec, m1, m2, m3⟩ := clampP v
  unfold q_Face_init
  rw [ec]
  refine r_pinit (fun u1 hu1 hS1 => ?_)
  refine r_forget (fun u2 hS2 hT2 => ?_)
  have fin : ∀ μ : Sg, μ 1 = pl10 10 → (∀ j, j ≠ 1 → μ j = (sto zS 0 1 (nI n)) j) → r_R (sgF u1 u2 (sto zS 0 1 0) (sto zS 0 7 0) (sto zS 0 4 0) (sto (sto (sto zS 0 3 0) 0 4 0) 0 5 0)) μ := by
    intro μ hm1 hS
    have e0 := hS 0 (by decide)
    refine ⟨n, 0, 0, 0, 0, ⟨n2, n10, by omega, by omega, by omega, by omega⟩, ⟨⟨(congrFun (hS1 0 (by decide)) 0).trans rfl, (congrFun (hS2 0 (by decide)) 0).trans rfl, (congrFun e0 1).trans rfl⟩, ⟨(congrFun (hS2 0 (by decide)) 6).trans rfl, (congrFun e0 4).trans rfl⟩, ⟨rfl, (congrFun e0 9).trans rfl⟩, ⟨rfl, (congrFun e0 11).trans rfl⟩, ⟨rfl, (congrFun e0 19).trans rfl⟩, (congrFun e0 24).symm⟩, ?_, ?_⟩
    · exact ⟨⟨hu1.trans hm1.symm, (hS1 2 (by decide)).trans (hS 2 (by decide)).symm⟩, ⟨(hS2 1 (by decide)).trans (hS 3 (by decide)).symm, (hS2 2 (by decide)).trans (hS 4 (by decide)).symm, (hS2 3 (by decide)).trans (hS 5 (by decide)).symm, (hS2 4 (by decide)).trans (hS 6 (by decide)).symm⟩, (hS 7 (by decide)).symm,
        ⟨(hS 8 (by decide)).symm, (hS 9 (by decide)).symm, (hS 11 (by decide)).symm, (hS 12 (by decide)).symm, (hS 13 (by decide)).symm, (hS 14 (by decide)).symm⟩, (hS 15 (by decide)).symm, (hS 16 (by decide)).symm, (hS 17 (by decide)).symm, (hS 18 (by decide)).symm⟩
    · refine ⟨fun k => Or.inl ((congrFun (hS1 2 (by decide)) k).trans rfl), ⟨fun k hk => absurd hk (by omega), ⟨fun k => Or.inl ((congrFun (hS2 4 (by decide)) k).trans rfl), fun k _ => (congrFun (hS2 4 (by decide)) k).trans rfl⟩, ⟨_, fun a b ha hb => hT2 a b (by omega) (by omega), ?_⟩⟩, ⟨⟨fun c hc => absurd hc (by omega), fun c hc => absurd hc (by omega), fun c hc => absurd hc (by omega), fun c hc => absurd hc (by omega), fun c d hc => absurd hc (by omega)⟩, fun c hc => absurd hc (by omega)⟩, ⟨fun c hc => absurd hc (by omega), fun c hc => absurd hc (by omega), fun c hc => absurd hc (by omega), fun j _ => rfl⟩, ⟨rfl, fun c _ => rfl⟩, fun i _ => rfl⟩
      exact ds_ext (ds_none (by decide)) (fun a c t => ⟨fun h => h.elim, fun h => by obtain ⟨_, _, _, _, k, hk, _⟩ := h; omega⟩) (fun _ _ _ h => h.elim) (fun _ _ _ _ => rfl)
  show q_Model_init v (fun μ => r_R (sgF u1 u2 (sto zS 0 1 0) (sto zS 0 7 0) (sto zS 0 4 0) (sto (sto (sto zS 0 3 0) 0 4 0) 0 5 0)) μ)
  refine m_init ⟨fun h1 => ⟨fun h2 => ?_, fun h2 => ?_⟩, fun h1 => ?_⟩
  · exact m_minit (w := v) (fun τ a b => fin τ a (by rw [← m1 h1 h2]; exact b))
  · exact m_minit (w := 10) (fun τ a b => fin τ a (by rw [← m2 h1 h2]; exact b))
  · exact m_minit (w := 2) (fun τ a b => fin τ a (by rw [← m3 h1]; exact b))
