/-! what a step asks: taken, barred, the way to a charger -/
def tkn (on : Nat → Int32) (nc : Nat) (v : Int32) : Prop := ∃ d, d < nc ∧ on d = v
theorem r_taken {σ : Sg} {nc : Nat} {v : Int32} {Q : Int32 → Prop} (hn : σ 0 7 = nI nc) (h6 : nc ≤ 6) (h1 : tkn (σ 2) nc v → Q 1) (h0 : ¬ tkn (σ 2) nc v → Q 0) : q_Fleet_isTaken v σ Q := by
  have key : ∀ k fuel i, i + k = nc → k < fuel → (∀ d, d < i → ¬ σ 2 d = v) → q_Fleet_isTaken_j Q σ fuel 1 v (nI i) := by
    intro k
    induction k with
    | zero =>
      intro fuel i hi hf hno
      obtain ⟨f, rfl, -⟩ := fu hf
      obtain rfl : i = nc := hi
      exact ⟨fun _ => h0 (fun ⟨d, hd, e⟩ => hno d hd e), fun h' => absurd (le_end hn (by omega)) h'⟩
    | succ k ih =>
      intro fuel i hi hf hno
      obtain ⟨f, rfl, hf⟩ := fu hf
      refine ⟨fun h' => absurd h' (le_at hn (by omega) (by omega)), fun _ => ⟨vi (by omega), ?_⟩⟩
      rw [ck (by omega), nI_1 i]
      refine ⟨fun e => h1 ⟨i, by omega, e⟩, fun e => ih f (i + 1) (by omega) (by omega) (fun d hd => ?_)⟩
      by_cases ed : d = i
      · subst ed; exact e
      · exact hno d (by omega)
  exact key nc 3999 0 (by omega) (by omega) (fun d hd => absurd hd (by omega))
theorem m_taken {σ : Sg} {nc : Nat} {v : Int32} {Q : Int32 → Prop} (hn : σ 0 11 = nI nc) (h6 : nc ≤ 6) (h1 : tkn (σ 9) nc v → Q 1) (h0 : ¬ tkn (σ 9) nc v → Q 0) : q_Model_isTaken v σ Q := by
  have key : ∀ k fuel i (r : Int32), i + k = nc → k < fuel → ((r = 0 ∧ ∀ d, d < i → ¬ σ 9 d = v) ∨ (r = 1 ∧ tkn (σ 9) nc v)) → q_Model_isTaken_j Q σ fuel 1 v r (nI i) := by
    intro k
    induction k with
    | zero =>
      intro fuel i r hi hf hr
      obtain ⟨f, rfl, -⟩ := fu hf
      obtain rfl : i = nc := hi
      refine ⟨fun _ => ?_, fun h' => absurd (le_end hn (by omega)) h'⟩
      rcases hr with ⟨rfl, hno⟩ | ⟨rfl, hy⟩
      · exact ⟨nb0, h0 (fun ⟨d, hd, e⟩ => hno d hd e)⟩
      · exact ⟨nb1, h1 hy⟩
    | succ k ih =>
      intro fuel i r hi hf hr
      obtain ⟨f, rfl, hf⟩ := fu hf
      refine ⟨fun h' => absurd h' (le_at hn (by omega) (by omega)), fun _ => ?_⟩
      rw [nI_1 i]
      rcases hr with ⟨rfl, hno⟩ | ⟨rfl, hy⟩
      · refine b0 ⟨vi (by omega), ?_⟩
        rw [ck (by omega)]
        refine ⟨fun e => ih f (i + 1) 1 (by omega) (by omega) (Or.inr ⟨rfl, i, by omega, e⟩), fun e => ih f (i + 1) 0 (by omega) (by omega) (Or.inl ⟨rfl, fun d hd => ?_⟩)⟩
        by_cases ed : d = i
        · subst ed; exact e
        · exact hno d (by omega)
      · exact b1 (ih f (i + 1) 1 (by omega) (by omega) (Or.inr ⟨rfl, hy⟩))
  exact key nc 3999 0 0 (by omega) (by omega) (Or.inl ⟨rfl, fun d hd => absurd hd (by omega)⟩)
/-- a carrier that goes from b to e would fill ring x -/
def brd1 (x : Int32) (pl at_ : Nat → Int32) (n nc b e : Nat) : Prop := x.toBitVec.getLsbD e = true ∧ x.toBitVec.getLsbD b = false ∧ ¬ 1 < frs x pl at_ nc n
def brd (rg pl at_ : Nat → Int32) (n nr nc b e : Nat) : Prop := ∃ r, r < nr ∧ brd1 (rg r) pl at_ n nc b e
theorem bit_a1 {x : Int32} {p : Nat} (hp : p < 11) : ¬ x &&& ((1 : Int32) <<< (nI p &&& 31)) = 0 ↔ x.toBitVec.getLsbD p = true := by
  rw [bit_a hp]; simp
theorem bit_b0 {x : Int32} {p : Nat} (hp : p < 11) : (x >>> (nI p &&& 31)) &&& 1 = 0 ↔ x.toBitVec.getLsbD p = false := by
  have h1 := bit_b (x := x) hp
  obtain ⟨j, hj, e⟩ := pk_andE (x >>> (nI p &&& 31)) (m := 1) 1 rfl
  rw [e] at h1 ⊢
  have : j = 0 ∨ j = 1 := by omega
  rcases this with rfl | rfl
  · refine ⟨fun _ => ?_, fun _ => rfl⟩
    cases hb : x.toBitVec.getLsbD p with
    | false => rfl
    | true => exact absurd (h1.mpr hb) (by decide)
  · refine ⟨fun h => absurd h (by decide), fun h => ?_⟩
    have := h1.mp rfl
    rw [h] at this
    exact absurd this (by decide)
theorem r_fills {σ : SG} {n nr nc b e : Nat} {Q : Int32 → Prop} (hn : σ 1 0 0 = nI n) (z2 : n ≤ 10) (hr : σ 3 0 1 = nI nr) (z4 : nr ≤ 4) (hc : σ 4 0 7 = nI nc) (z5 : nc ≤ 6) (hb : b < n) (he : e < n)
    (h1 : brd (σ 3 1) (σ 1 1) (σ 4 1) n nr nc b e → Q 1) (h0 : ¬ brd (σ 3 1) (σ 1 1) (σ 4 1) n nr nc b e → Q 0) : q_Face_fillsRing (nI b) (nI e) σ Q := by
  have key : ∀ k fuel i, i + k = nr → k < fuel → (∀ d, d < i → ¬ brd1 (σ 3 1 d) (σ 1 1) (σ 4 1) n nc b e) → q_Face_fillsRing_j Q σ fuel 1 (nI b) (nI e) (nI i) 0 := by
    intro k
    induction k with
    | zero =>
      intro fuel i hi hf hno
      obtain ⟨f, rfl, -⟩ := fu hf
      obtain rfl : i = nr := hi
      exact ⟨fun _ => h0 (fun ⟨d, hd, e⟩ => hno d hd e), fun h' => absurd (le_end hr (by omega)) h'⟩
    | succ k ih =>
      intro fuel i hi hf hno
      obtain ⟨f, rfl, hf⟩ := fu hf
      have go : ¬ brd1 (σ 3 1 i) (σ 1 1) (σ 4 1) n nc b e → q_Face_fillsRing_j Q σ f 1 (nI b) (nI e) (nI i + 1) 0 := by
        intro hi'
        rw [nI_1]
        refine ih f (i + 1) (by omega) (by omega) (fun d hd => ?_)
        by_cases ed : d = i
        · subst ed; exact hi'
        · exact hno d (by omega)
      refine ⟨fun h' => absurd h' (le_at hr (by omega) (by omega)), fun _ => ⟨vi (by omega), ?_⟩⟩
      rw [ck (k := i) (by omega)]
      refine ⟨fun e1 => b0 (go (fun hx => ?_)), fun e1 => b1 ⟨fun e2 => b0 (r_free hn z2 hc z5 ⟨fun e3 => go (fun hx => hx.2.2 e3), fun e3 => h1 ⟨i, by omega, (bit_a1 (by omega)).mp e1, (bit_a (by omega)).mp e2, e3⟩⟩), fun e2 => b1 (go (fun hx => e2 ((bit_a (by omega)).mpr hx.2.1)))⟩⟩
      have := (bit_a (by omega)).mp e1
      rw [hx.1] at this
      exact absurd this (by decide)
  exact key nr 3999 0 (by omega) (by omega) (fun d hd => absurd hd (by omega))
theorem m_barred {μ : Sg} {n nr nc b e k : Nat} {Q : Int32 → Prop} (hn : μ 0 1 = nI n) (z2 : n ≤ 10) (hr : μ 0 9 = nI nr) (z4 : nr ≤ 4) (hc : μ 0 11 = nI nc) (z5 : nc ≤ 6) (hb : b < n) (he : e < n) (hk : k < 30) (e1 : μ 3 k = nI b) (e2 : μ 4 k = nI e)
    (h1 : brd (μ 7) (μ 1) (μ 8) n nr nc b e → Q 1) (h0 : ¬ brd (μ 7) (μ 1) (μ 8) n nr nc b e → Q 0) : q_Model_isBarred (nI k) μ Q := by
  have key : ∀ m fuel i (r : Int32), i + m = nr → m < fuel → ((r = 0 ∧ ∀ d, d < i → ¬ brd1 (μ 7 d) (μ 1) (μ 8) n nc b e) ∨ (r = 1 ∧ brd (μ 7) (μ 1) (μ 8) n nr nc b e)) → q_Model_isBarred_j Q μ fuel 1 (nI k) r (nI i) := by
    intro m
    induction m with
    | zero =>
      intro fuel i r hi hf hr'
      obtain ⟨f, rfl, -⟩ := fu hf
      obtain rfl : i = nr := hi
      refine ⟨fun _ => ?_, fun h' => absurd (le_end hr (by omega)) h'⟩
      rcases hr' with ⟨rfl, hno⟩ | ⟨rfl, hy⟩
      · exact ⟨nb0, h0 (fun ⟨d, hd, e⟩ => hno d hd e)⟩
      · exact ⟨nb1, h1 hy⟩
    | succ m ih =>
      intro fuel i r hi hf hr'
      obtain ⟨f, rfl, hf⟩ := fu hf
      refine ⟨fun h' => absurd h' (le_at hr (by omega) (by omega)), fun _ => ?_⟩
      rw [nI_1 i]
      rcases hr' with ⟨rfl, hno⟩ | ⟨rfl, hy⟩
      · have go : ¬ brd1 (μ 7 i) (μ 1) (μ 8) n nc b e → q_Model_isBarred_j Q μ f 1 (nI k) 0 (nI (i + 1)) := by
          intro hi'
          refine ih f (i + 1) 0 (by omega) (by omega) (Or.inl ⟨rfl, fun d hd => ?_⟩)
          by_cases ed : d = i
          · subst ed; exact hi'
          · exact hno d (by omega)
        refine b0 ⟨vi (by omega), vi hk, ?_⟩
        rw [ck (k := i) (by omega), ck (k := k) (by omega), e1, e2, bit_b (by omega), bit_b0 (by omega)]
        refine ⟨fun c1 => ⟨vi (by omega), vi hk, fun c2 => m_free hn z2 hc z5 (show i < nr by omega) z4 ⟨fun c3 => go (fun hx => hx.2.2 c3), fun c3 => ih f (i + 1) 1 (by omega) (by omega) (Or.inr ⟨rfl, i, by omega, c1, c2, c3⟩)⟩, fun c2 => go (fun hx => c2 hx.2.1)⟩, fun c1 => go (fun hx => c1 hx.1)⟩
      · exact b1 (ih f (i + 1) 1 (by omega) (by omega) (Or.inr ⟨rfl, hy⟩))
  exact key nr 3999 0 0 (by omega) (by omega) (Or.inl ⟨rfl, fun d hd => absurd hd (by omega)⟩)
/-- the least time to one of the first chargers -/
def cm (D : Nat → Nat → Nat) (ch : Nat → Int32) (p : Nat) : Nat → Nat
  | 0 => 1000000
  | i + 1 => if ch i = 0 then cm D ch p i else min (cm D ch p i) (D p i)
theorem cm_n {D : Nat → Nat → Nat} {ch : Nat → Int32} {p i : Nat} (h : ch i = 0) : cm D ch p (i + 1) = cm D ch p i := if_pos h
theorem cm_y {D : Nat → Nat → Nat} {ch : Nat → Int32} {p i : Nat} (h : ¬ ch i = 0) : cm D ch p (i + 1) = min (cm D ch p i) (D p i) := if_neg h
theorem cm_le {D : Nat → Nat → Nat} {ch : Nat → Int32} {p : Nat} : ∀ i, cm D ch p i ≤ 1000000
  | 0 => Nat.le_refl _
  | i + 1 => by
    have := cm_le (D := D) (ch := ch) (p := p) i
    by_cases h : ch i = 0
    · rw [cm_n h]; exact this
    · rw [cm_y h]; omega
theorem mFar_le (d : Nat) : mFar d ≤ 1000000000 := by
  by_cases h : d < 1000000
  · rw [mFar_y h]; omega
  · rw [mFar_n h]; omega
theorem mFar_mn {x y : Nat} : (mFar x ≤ mFar y → mFar (min x y) = mFar x) ∧ (¬ mFar x ≤ mFar y → mFar (min x y) = mFar y) := by
  by_cases hx : x < 1000000
  · by_cases hy : y < 1000000
    · rw [mFar_y hx, mFar_y hy, mFar_y (show min x y < 1000000 by omega)]; omega
    · rw [mFar_y hx, mFar_n hy, mFar_y (show min x y < 1000000 by omega)]; omega
  · by_cases hy : y < 1000000
    · rw [mFar_n hx, mFar_y hy, mFar_y (show min x y < 1000000 by omega)]; omega
    · rw [mFar_n hx, mFar_n hy, mFar_n (show ¬ min x y < 1000000 by omega)]; omega
theorem r_toch {σ : SG} {n p : Nat} {D : Nat → Nat → Nat} {Q : Int32 → Prop} (hn : σ 1 0 0 = nI n) (z2 : n ≤ 10) (hp : p < n) (hz : gZ1 (σ 1 2)) (hD : ∀ a b, a < n → b < n → σ 2 5 (a * 10 + b) = nI (D a b)) (hF : ∀ a b, a < n → b < n → D a b ≤ 1000000)
    (h : Q (nI (cm D (σ 1 2) p n))) : q_Face_timeToCharger (nI p) σ Q := by
  have key : ∀ k fuel i, i + k = n → k < fuel → q_Face_timeToCharger_j Q σ fuel 1 (nI p) (nI (cm D (σ 1 2) p i)) (nI i) := by
    intro k
    induction k with
    | zero =>
      intro fuel i hi hf
      obtain ⟨f, rfl, -⟩ := fu hf
      obtain rfl : i = n := hi
      exact ⟨fun _ => h, fun h' => absurd (le_end hn (by omega)) h'⟩
    | succ k ih =>
      intro fuel i hi hf
      obtain ⟨f, rfl, hf⟩ := fu hf
      have ih' := ih f (i + 1) (by omega) (by omega)
      have c1 := cm_le (D := D) (ch := σ 1 2) (p := p) i
      have c2 := hF p i hp (by omega)
      refine ⟨fun h' => absurd h' (le_at hn (by omega) (by omega)), fun _ => ⟨vi (by omega), nbz (hz _), ?_⟩⟩
      rw [ck (k := i) (by omega), nI_1]
      refine ⟨fun e => ?_, fun e => ltm (by omega) (by omega) (hD p i hp (by omega)) ?_⟩
      · rw [cm_n e] at ih'; exact ih'
      · rw [cm_y e] at ih'
        rw [min32 (by omega) (by omega)]; exact ih'
  exact key n 3999 0 (by omega) (by omega)
theorem m_toch {μ : Sg} {n np p : Nat} {D : Nat → Nat → Nat} {Q : Int32 → Sg → Prop} (hn : μ 0 1 = nI n) (z : n ≤ 10) (hp : μ 0 4 = nI np) (z3 : np ≤ 30) (hpn : p < n) (hpc : gPc n np (μ 3) (μ 4) (μ 5)) (ok : ds_ok n 1000000 (oE n np (μ 3) (μ 4) (μ 5) (μ 6)) D)
    (h : ∀ τ : Sg, (∀ k, k ≠ 19 → τ k = μ k) → Q (nI (mFar (cm D (μ 2) p n))) τ) : q_Model_toCharger (nI p) μ Q := by
  have key : ∀ k fuel i (τ : Sg), i + k = n → k < fuel → (∀ k, k ≠ 19 → τ k = μ k) → q_Model_toCharger_j Q fuel 1 (nI p) (nI (mFar (cm D (μ 2) p i))) (nI i) 0 τ := by
    intro k
    induction k with
    | zero =>
      intro fuel i τ hi hf hS
      obtain ⟨f, rfl, -⟩ := fu hf
      obtain rfl : i = n := hi
      have e0 : τ 0 1 = nI i := by rw [hS 0 (by decide)]; exact hn
      exact ⟨fun _ => h τ hS, fun h' => absurd (le_end e0 (by omega)) h'⟩
    | succ k ih =>
      intro fuel i τ hi hf hS
      obtain ⟨f, rfl, hf⟩ := fu hf
      have e0 : τ 0 1 = nI n := by rw [hS 0 (by decide)]; exact hn
      have c1 := mFar_le (cm D (μ 2) p i)
      have c2 := mFar_le (D p i)
      refine ⟨fun h' => absurd h' (le_at e0 (by omega) (by omega)), fun _ => ⟨vi (by omega), ?_⟩⟩
      rw [ck (k := i) (by omega), nI_1, hS 2 (by decide)]
      refine ⟨fun e => ⟨fun _ => ?_, fun h' => absurd (nI_le (a := mFar (cm D (μ 2) p i)) (b := 1000000000) c1 (by omega)) h'⟩, fun e => ?_⟩
      · have ih' := ih f (i + 1) τ (by omega) (by omega) hS
        rw [cm_n e] at ih'; exact ih'
      · have t3 := hS 3 (by decide)
        have t4 := hS 4 (by decide)
        have t5 := hS 5 (by decide)
        have t6 := hS 6 (by decide)
        refine m_times (n := n) (np := np) (D := D) e0 z (by rw [hS 0 (by decide)]; exact hp) z3 (show i < n by omega) (by rw [t3, t4, t5]; exact hpc) (by rw [t3, t4, t5, t6]; exact ok) (fun τ' hS' hX => ⟨vi (by omega), ?_⟩)
        have ih' := ih f (i + 1) τ' (by omega) (by omega) (fun k hk => (hS' k hk).trans (hS k hk))
        rw [cm_y e] at ih'
        rw [ck (k := p) (by omega), hX p hpn]
        refine ⟨fun h1 => ?_, fun h1 => ?_⟩
        · rw [(mFar_mn (x := cm D (μ 2) p i) (y := D p i)).1 ((nI_leI (by omega) (by omega)).mp h1)] at ih'
          exact ih'
        · rw [(mFar_mn (x := cm D (μ 2) p i) (y := D p i)).2 (fun h2 => h1 (nI_le h2 (by omega)))] at ih'
          exact ih'
  exact key n 3999 0 μ (by omega) (by omega) (fun _ _ => rfl)
