/-! places, charger, look, of, tick, charge: nothing of the roads -/
theorem r_has1 {σ : Sg} {n p : Nat} {Q : Int32 → Prop} (hn : σ 0 0 = nI n) (h : n ≤ 10) (hp : p < n) (hq : Q 1) : q_Points_has (nI p) σ Q := has_y (P := True) hn (by omega) hp hq
theorem r_has0 {σ : Sg} {n : Nat} {v : Int32} {Q : Int32 → Prop} (hn : σ 0 0 = nI n) (h : n ≤ 10) (hp : ¬ isIx v n) (hq : Q 0) : q_Points_has v σ Q := has_n hn (by omega) hp hq
theorem m_pt1 {σ : Sg} {n p : Nat} {Q : Int32 → Prop} (hn : σ 0 1 = nI n) (h : n ≤ 10) (hp : p < n) (hq : Q 1) : q_Model_isPoint (nI p) σ Q := has_y (P := True) hn (by omega) hp hq
theorem m_pt0 {σ : Sg} {n : Nat} {v : Int32} {Q : Int32 → Prop} (hn : σ 0 1 = nI n) (h : n ≤ 10) (hp : ¬ isIx v n) (hq : Q 0) : q_Model_isPoint v σ Q := has_n hn (by omega) hp hq
theorem m_in1 {v a b : Int32} {Q : Int32 → Prop} (h1 : ¬ v < a) (h2 : ¬ b < v) (h : Q 1) : q_Model_in v a b Q := ⟨fun h' => absurd h' h1, fun _ => ⟨fun h' => absurd h' h2, fun _ => h⟩⟩
theorem m_in0 {v a b : Int32} {Q : Int32 → Prop} (h1 : v < a ∨ b < v) (h : Q 0) : q_Model_in v a b Q := ⟨fun _ => h, fun h' => ⟨fun _ => h, fun h'' => (h1.elim h' h'').elim⟩⟩
theorem b1 {A B : Prop} (h : B) : ((1 : Int32) = 0 → A) ∧ (¬ (1 : Int32) = 0 → B) := ⟨fun h' => absurd h' (by decide), fun _ => h⟩
theorem b0 {A B : Prop} (h : A) : ((0 : Int32) = 0 → A) ∧ (¬ (0 : Int32) = 0 → B) := ⟨fun _ => h, fun h' => absurd rfl h'⟩
theorem s_places {a b : Int32} {σ : SG} {μ : Sg} (hR : r_R σ μ) : ls_places a b σ μ r_R := by
  have hR0 := hR
  obtain ⟨n, np, nr, nc, nj, ⟨z1, z2, z3, z4, z5, z6⟩, ⟨⟨hn1, hn2, hn3⟩, hp, hr, ⟨hc1, hc2⟩, hj, ht⟩, he, hi⟩ := hR
  unfold ls_places q_Face_places q_Model_places
  by_cases hv : isIx a n
  · obtain ⟨p, hpn, rfl⟩ := hv
    refine r_has1 hn1 z2 hpn (b1 ⟨fun h1 => ?_, fun h1 => ⟨fun h2 => ?_, fun h2 => ?_⟩⟩)
    · exact m_pt1 (σ := sto μ 0 0 0) hn3 z2 hpn (b1 (m_in0 (Or.inl h1) (b0 ⟨rfl, r_thr hR0⟩)))
    · exact m_pt1 (σ := sto μ 0 0 0) hn3 z2 hpn (b1 (m_in0 (Or.inr h2) (b0 ⟨rfl, r_thr hR0⟩)))
    · refine r_boundFor hc1 z5 ⟨fun h3 => ⟨vi (by omega), ?_⟩, fun h3 => ?_⟩
      · refine m_pt1 (σ := sto μ 0 0 0) hn3 z2 hpn (b1 (m_in1 h1 h2 (b1 (r_standing (σ := sto μ 0 0 0) hc2 z5 ?_))))
        rw [show (sto μ 0 0 0) 8 = σ 4 1 from he.2.2.2.1.1.symm]
        refine ⟨fun _ => ⟨vi (by omega), rfl, n, np, nr, nc, nj, ⟨z1, z2, z3, z4, z5, z6⟩, ⟨⟨hn1, hn2, hn3⟩, hp, hr, ⟨hc1, hc2⟩, hj, ht⟩, ⟨⟨?_, he.1.2⟩, he.2⟩, hi⟩, fun h4 => absurd h3 h4⟩
        show upd (σ 1 1) _ _ = upd (μ 1) _ _
        rw [he.1.1]
      · refine m_pt1 (σ := sto μ 0 0 0) hn3 z2 hpn (b1 (m_in1 h1 h2 (b1 (r_standing (σ := sto μ 0 0 0) hc2 z5 ?_))))
        rw [show (sto μ 0 0 0) 8 = σ 4 1 from he.2.2.2.1.1.symm]
        exact ⟨fun h4 => absurd h4 h3, fun _ => ⟨rfl, r_thr hR0⟩⟩
  · exact r_has0 hn1 z2 hv (b0 (m_pt0 (σ := sto μ 0 0 0) hn3 z2 hv (b0 ⟨rfl, r_thr hR0⟩)))
