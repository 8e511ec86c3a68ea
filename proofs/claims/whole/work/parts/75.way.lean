/-! the first piece of the way, and the way -/
def isFst (P : Nat → Prop) (np : Nat) (r : Int32) : Prop := (r = -1 ∧ ∀ k, k < np → ¬ P k) ∨ ∃ k, k < np ∧ r = nI k ∧ P k ∧ ∀ j, j < k → ¬ P j
theorem fst_one {P : Nat → Prop} {np : Nat} {r r' : Int32} (h : isFst P np r) (h' : isFst P np r') : r = r' := by
  rcases h with ⟨h1, h2⟩ | ⟨k, h1, h2, h3, h4⟩
  · rcases h' with ⟨g1, _⟩ | ⟨k', g1, _, g3, _⟩
    · rw [h1, g1]
    · exact absurd g3 (h2 k' g1)
  · rcases h' with ⟨_, g2⟩ | ⟨k', g1, g2, g3, g4⟩
    · exact absurd h3 (g2 k h1)
    · rcases Nat.lt_trichotomy k k' with h | h | h
      · exact absurd h3 (g4 k h)
      · rw [h2, g2, h]
      · exact absurd g3 (h4 k' h)
/-- piece k goes on a way of least time from a to b -/
def wP (n : Nat) (D : Nat → Nat → Nat) (bg en tm cl : Nat → Int32) (a b k : Nat) : Prop := cl k = 0 ∧ bg k = nI a ∧ ∃ c t, c < n ∧ 1 ≤ t ∧ t ≤ 100 ∧ en k = nI c ∧ tm k = nI t ∧ D a b = t + D c b
theorem r_first {σ : Sg} {n np a b : Nat} {D : Nat → Nat → Nat} {Q : Int32 → Prop} (z : n ≤ 10) (hp : σ 0 6 = nI np) (z3 : np ≤ 30) (ha : a < n) (hb : b < n) (hpc : gPc n np (σ 1) (σ 2) (σ 3)) (hD : ∀ a b, a < n → b < n → σ 5 (a * 10 + b) = nI (D a b)) (hF : ∀ a b, a < n → b < n → D a b ≤ 1000000)
    (h : ∀ r, isFst (wP n D (σ 1) (σ 2) (σ 3) (σ 4) a b) np r → Q r) : q_Roads_firstPiece (nI a) (nI b) σ Q := by
  have key : ∀ k fuel i, i + k = np → k < fuel → (∀ j, j < i → ¬ wP n D (σ 1) (σ 2) (σ 3) (σ 4) a b j) → q_Roads_firstPiece_j Q σ fuel 1 (nI a) (nI b) (nI (D a b)) (nI i) := by
    intro k
    induction k with
    | zero =>
      intro fuel i hi hf hno
      obtain ⟨f, rfl, -⟩ := fu hf
      obtain rfl : i = np := hi
      exact ⟨fun _ => h _ (Or.inl ⟨rfl, hno⟩), fun h' => absurd (le_end hp (by omega)) h'⟩
    | succ k ih =>
      intro fuel i hi hf hno
      obtain ⟨f, rfl, hf⟩ := fu hf
      have i30 : i < 30 := by omega
      obtain ⟨u, v, t, hu, hv, t1, t2, e1, e2, e3⟩ := hpc i (by omega)
      have go : ¬ wP n D (σ 1) (σ 2) (σ 3) (σ 4) a b i → q_Roads_firstPiece_j Q σ f 1 (nI a) (nI b) (nI (D a b)) (nI (i + 1)) := by
        intro hi'
        refine ih f (i + 1) (by omega) (by omega) (fun j hj => ?_)
        by_cases e : j = i
        · subst e; exact hi'
        · exact hno j (by omega)
      refine ⟨fun h' => absurd h' (le_at hp (by omega) (by omega)), fun _ => ⟨vi i30, ?_⟩⟩
      rw [ck (k := i) (by omega), nI_1, e1, e2, e3]
      refine ⟨fun c0 => ⟨vi i30, fun c1 => ⟨vi i30, vi i30, ltm (by omega) (by omega) (hD v b hv hb) ⟨fun c2 => h _ (Or.inr ⟨i, by omega, rfl, ⟨c0, e1.trans c1, v, t, hv, t1, t2, e2, e3, ?_⟩, hno⟩), fun c2 => go (fun hw => ?_)⟩⟩, fun c1 => go (fun hw => c1 (e1.symm.trans hw.2.1))⟩, fun c0 => go (fun hw => c0 hw.1)⟩
      · rw [nI_add] at c2
        have b1 := hF v b hv hb
        have b2 := hF a b ha hb
        exact ((nI_eq (by omega) (by omega)).mp c2).symm
      · obtain ⟨_, _, c, w, hc, w1, w2, k2, k3, k4⟩ := hw
        have ec := (nI_eq (by omega) (by omega)).mp (k2.symm.trans e2)
        have et := (nI_eq (by omega) (by omega)).mp (k3.symm.trans e3)
        subst ec; subst et
        exact c2 (by rw [nI_add, k4])
  show q_Roads_leastTime (nI a) (nI b) σ (fun r1 => q_Roads_firstPiece_j Q σ 3999 1 (nI a) (nI b) r1 0)
  exact ltm (by omega) (by omega) (hD a b ha hb) (key np 3999 0 (by omega) (by omega) (fun j hj => absurd hj (by omega)))
/-- the reference's look at a piece says the same -/
theorem far_eq {n np : Nat} {D : Nat → Nat → Nat} {bg en tm cl : Nat → Int32} {a b c t : Nat} (z : n ≤ 10) (ok : ds_ok n 1000000 (oE n np bg en tm cl) D) (he : oE n np bg en tm cl a c t) (hb : b < n) : (mFar (D c b) < 1000000000 ∧ mFar (D c b) + t = mFar (D a b)) ↔ D a b = t + D c b := by
  have h1 := ok.2.2.1 a c t b he hb
  have h2 := ok.2.1 a b he.1 hb
  have h3 := ok.2.1 c b he.2.1 hb
  have h4 := he.2.2.1
  have h5 := he.2.2.2.1
  unfold mFar
  by_cases hc : D c b < 1000000
  · have h6 := ds_small oE_E ok he.2.1 hb hc
    rw [if_pos hc, if_pos (show D a b < 1000000 by omega)]
    omega
  · rw [if_neg hc]
    omega
theorem pf2 {μ : Sg} {Q : Int32 → Prop} {f : Nat} {a r v : Int32} (h : q_Model_pieceFrom_j Q μ f 1 a r (v + (-1)) 0) : q_Model_pieceFrom_j Q μ (f + 1) 2 a r v 0 := by
  unfold q_Model_pieceFrom_j q_Model_pieceFrom_b2
  exact h
theorem m_first {μ : Sg} {n np a b : Nat} {D : Nat → Nat → Nat} {Q : Int32 → Prop} (z : n ≤ 10) (hp : μ 0 4 = nI np) (z3 : np ≤ 30) (ha : a < n) (hb : b < n) (hpc : gPc n np (μ 3) (μ 4) (μ 5)) (ok : ds_ok n 1000000 (oE n np (μ 3) (μ 4) (μ 5) (μ 6)) D) (hX : ∀ a, a < n → μ 19 a = nI (mFar (D a b)))
    (h : ∀ r, isFst (wP n D (μ 3) (μ 4) (μ 5) (μ 6) a b) np r → Q r) : q_Model_pieceFrom (nI a) μ Q := by
  have mF : ∀ x, x < n → mFar (D x b) ≤ 1000000000 := by
    intro x _
    unfold mFar
    by_cases h : D x b < 1000000
    · rw [if_pos h]; omega
    · rw [if_neg h]; omega
  have key : ∀ i fuel r, i ≤ np → 2 * i < fuel → ((r = -1 ∧ ∀ k, i ≤ k → k < np → ¬ wP n D (μ 3) (μ 4) (μ 5) (μ 6) a b k) ∨ ∃ k, i ≤ k ∧ k < np ∧ r = nI k ∧ wP n D (μ 3) (μ 4) (μ 5) (μ 6) a b k ∧ ∀ j, i ≤ j → j < k → ¬ wP n D (μ 3) (μ 4) (μ 5) (μ 6) a b j) → q_Model_pieceFrom_j Q μ fuel 1 (nI a) r (nI i - 1) 0 := by
    intro i
    induction i with
    | zero =>
      intro fuel r hi hf hr
      obtain ⟨f, rfl, -⟩ := fu hf
      refine ⟨fun _ => h r ?_, fun h' => absurd (by decide) h'⟩
      rcases hr with ⟨h1, h2⟩ | ⟨k, _, h2, h3, h4, h5⟩
      · exact Or.inl ⟨h1, fun k hk => h2 k (by omega) hk⟩
      · exact Or.inr ⟨k, h2, h3, h4, fun j hj => h5 j (by omega) hj⟩
    | succ i ih =>
      intro fuel r hi hf hr
      obtain ⟨f, rfl, hf⟩ := fu hf
      have i30 : i < 30 := by omega
      obtain ⟨u, v, t, hu, hv, t1, t2, e1, e2, e3⟩ := hpc i (by omega)
      rw [nI_pred]
      have skip : ¬ wP n D (μ 3) (μ 4) (μ 5) (μ 6) a b i → q_Model_pieceFrom_j Q μ f 2 (nI a) r (nI i) 0 := by
        intro hno
        obtain ⟨f', rfl, -⟩ := fu (show 0 < f by omega)
        refine pf2 ?_
        rw [show nI i + (-1) = nI i - 1 from by rw [Int32.sub_eq_add_neg]]
        refine ih f' r (by omega) (by omega) ?_
        rcases hr with ⟨h1, h2⟩ | ⟨k, h1, h2, h3, h4, h5⟩
        · refine Or.inl ⟨h1, fun k hk hk' => ?_⟩
          by_cases e : k = i
          · subst e; exact hno
          · exact h2 k (by omega) hk'
        · refine Or.inr ⟨k, by omega, h2, h3, h4, fun j hj hj' => ?_⟩
          by_cases e : j = i
          · subst e; exact hno
          · exact h5 j (by omega) hj'
      refine ⟨fun h' => absurd h' (nI_pos (by omega)), fun _ => ⟨vi i30, ?_⟩⟩
      rw [ck (k := i) (by omega), e1, e2, e3, ck (k := v) (by omega), ck (k := a) (by omega), hX v hv, hX a ha, nI_add]
      have fv := mF v hv
      have fa := mF a ha
      have iff : μ 6 i = 0 → nI u = nI a → ((mFar (D v b) < 1000000000 ∧ mFar (D v b) + t = mFar (D a b)) ↔ D a b = t + D v b) := by
        intro c0 c1
        exact far_eq z ok ⟨ha, hv, t1, t2, i, by omega, c0, e1.trans c1, e2, e3⟩ hb
      have wv : wP n D (μ 3) (μ 4) (μ 5) (μ 6) a b i → D a b = t + D v b := by
        rintro ⟨_, _, c, w, hc, w1, w2, k2, k3, k4⟩
        have ec := (nI_eq (by omega) (by omega)).mp (k2.symm.trans e2)
        have et := (nI_eq (by omega) (by omega)).mp (k3.symm.trans e3)
        subst ec; subst et
        exact k4
      refine ⟨fun c0 => ⟨vi i30, fun c1 => ⟨vi i30, vi (by omega), fun c2 => skip (fun hw => ?_), fun c2 => ⟨vi i30, vi (by omega), vi i30, vi (by omega), fun c3 => ?_, fun c3 => skip (fun hw => ?_)⟩⟩, fun c1 => skip (fun hw => c1 (e1.symm.trans hw.2.1))⟩, fun c0 => skip (fun hw => c0 hw.1)⟩
      · have h1 := ((iff c0 c1).mpr (wv hw)).1
        exact absurd c2 (nI_ge (a := mFar (D v b)) (b := 1000000000) h1 (by omega))
      · rw [show nI i + (-1) = nI i - 1 from by rw [Int32.sub_eq_add_neg]]
        have h1 := (nI_eq (by omega) (by omega)).mp c3
        have h2 : mFar (D v b) < 1000000000 := by
          rcases Nat.lt_or_ge (mFar (D v b)) 1000000000 with h | h
          · exact h
          · exact absurd (nI_le (a := 1000000000) (b := mFar (D v b)) h (by omega)) c2
        exact ih f (nI i) (by omega) (by omega) (Or.inr ⟨i, Nat.le_refl _, by omega, rfl, ⟨c0, e1.trans c1, v, t, hv, t1, t2, e2, e3, (iff c0 c1).mp ⟨h2, h1⟩⟩, fun j h1 h2 => absurd h1 (by omega)⟩)
      · have h1 := ((iff c0 c1).mpr (wv hw)).2
        exact c3 (by rw [h1])
  show q_Model_pieceFrom_j Q μ 3999 1 (nI a) (-1) (μ 0 4 - 1) 0
  rw [hp]
  exact key np 3999 (-1) (Nat.le_refl _) (by omega) (Or.inl ⟨rfl, fun k h1 h2 => absurd h1 (by omega)⟩)
