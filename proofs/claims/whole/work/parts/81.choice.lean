/-! the program's choice -/
theorem r_begin {σ : Sg} {nj nc : Nat} {Q : Sg → Prop} (h : ∀ τ : Sg, τ 0 3 = nI nj → τ 0 4 = nI nc → τ 0 5 = 0 → (∀ i, i < 72 → τ 1 i = 0) → (∀ k, k ≠ 0 → k ≠ 1 → τ k = σ k) → Q τ) : q_Choice_begin (nI nj) (nI nc) σ Q := by
  have key : ∀ k fuel i (τ : Sg), i + k = 72 → k < fuel → τ 0 3 = nI nj → τ 0 4 = nI nc → τ 0 5 = 0 → (∀ m, m < i → τ 1 m = 0) → (∀ k, k ≠ 0 → k ≠ 1 → τ k = σ k) → q_Choice_begin_j Q fuel 1 (nI nj) (nI nc) (nI i) τ := by
    intro k
    induction k with
    | zero =>
      intro fuel i τ hi hf h3 h4 h5 h1 hS
      obtain ⟨f, rfl, -⟩ := fu hf
      obtain rfl : i = 72 := hi
      exact ⟨fun _ => h τ h3 h4 h5 h1 hS, fun h' => absurd (nI_le (a := 72) (b := 72) (by omega) (by omega)) h'⟩
    | succ k ih =>
      intro fuel i τ hi hf h3 h4 h5 h1 hS
      obtain ⟨f, rfl, hf⟩ := fu hf
      refine ⟨fun h' => absurd h' (nle_k (k := 72) (by omega) (by omega)), fun _ => ⟨vi (by omega), ?_⟩⟩
      rw [ck (by omega), nI_1]
      refine ih f (i + 1) _ (by omega) (by omega) h3 h4 h5 (fun m hm => ?_) (fun k h0 h1' => by rw [sto_ne h1']; exact hS k h0 h1')
      rw [sto_sto rfl]
      by_cases e : m = i
      · subst e; exact pk_us
      · rw [pk_un e]; exact h1 m (by omega)
  exact key 72 3999 0 _ (by omega) (by omega) rfl rfl rfl (fun m hm => absurd hm (by omega)) (fun k h0 h1 => (sto_ne h0).trans ((sto_ne h0).trans (sto_ne h0)))
/-- what is offered, of the first pairs -/
def wtab (nj nc : Nat) (o : Nat → Nat → Prop) (t : Nat → Nat → Nat) (P : Nat → Nat → Prop) (f : Nat → Int32) : Prop := ∀ j c, j < nj → c < nc → ((P j c → o j c → f (j * 6 + c) = nI (6000 - t j c)) ∧ (¬ (P j c ∧ o j c) → f (j * 6 + c) = 0))
def offd (D : Nat → Nat → Nat) (fa fo fh fr st : Nat → Int32) (j c : Nat) : Prop := st j = 0 ∧ fo c = -1 ∧ fh c = -1 ∧ D (fa c).toNatClampNeg (fr j).toNatClampNeg < 1000000
def trv (D : Nat → Nat → Nat) (fa fr : Nat → Int32) (j c : Nat) : Nat := D (fa c).toNatClampNeg (fr j).toNatClampNeg
theorem ixn {v : Int32} {n : Nat} (hn : n < 2000) (h : ∃ p, p < n ∧ v = nI p) : v.toNatClampNeg < n ∧ v = nI v.toNatClampNeg := by
  obtain ⟨p, hp, e⟩ := h
  rw [e, ck (by omega)]
  exact ⟨hp, rfl⟩
theorem r_trav {σ : SG} {n nc nj j c : Nat} {D : Nat → Nat → Nat} {Q : Int32 → Prop} (z2 : n ≤ 10) (z5 : nc ≤ 6) (z6 : nj ≤ 12) (hj : j < nj) (hc : c < nc) (g1 : ∀ c, c < nc → ∃ p, p < n ∧ σ 4 1 c = nI p) (g2 : ∀ j, j < nj → ∃ p, p < n ∧ σ 5 1 j = nI p)
    (hD : ∀ a b, a < n → b < n → σ 2 5 (a * 10 + b) = nI (D a b)) (h : Q (nI (trv D (σ 4 1) (σ 5 1) j c))) : q_Face_emptyTravel (nI c) (nI j) σ Q := by
  refine ⟨vi (by omega), ⟨vi (by omega), ?_⟩⟩
  rw [ck (k := c) (by omega), ck (k := j) (by omega)]
  obtain ⟨a1, a2⟩ := ixn (by omega) (g1 c hc)
  obtain ⟨b1, b2⟩ := ixn (by omega) (g2 j hj)
  rw [a2, b2]
  exact ltm (by omega) (by omega) (hD _ _ a1 b1) h
theorem o_b0 {σ : SG} {Q : SG → Prop} (h : q_Face_offerJobs_b0 (q_Face_offerJobs_j Q 3999) Q 0 0 0 σ) : q_Face_offerJobs σ Q := h
theorem r_offers {σ : SG} {n nc nj : Nat} {D : Nat → Nat → Nat} {Q : SG → Prop} (z2 : n ≤ 10) (z5 : nc ≤ 6) (z6 : nj ≤ 12) (hc1 : σ 4 0 7 = nI nc) (hj1 : σ 5 0 4 = nI nj) (g1 : ∀ c, c < nc → ∃ p, p < n ∧ σ 4 1 c = nI p) (g2 : ∀ j, j < nj → ∃ p, p < n ∧ σ 5 1 j = nI p)
    (hD : ∀ a b, a < n → b < n → σ 2 5 (a * 10 + b) = nI (D a b)) (hF : ∀ a b, a < n → b < n → D a b ≤ 1000000) (hT : ∀ j c, j < nj → c < nc → offd D (σ 4 1) (σ 4 2) (σ 4 4) (σ 5 1) (σ 5 3) j c → trv D (σ 4 1) (σ 5 1) j c ≤ 900)
    (h : ∀ (τ : Sg) (A : Nat), A < 64 → τ 0 3 = nI nj → τ 0 4 = nI nc → τ 0 5 = nI A → (∀ j c, j < nj → c < nc → offd D (σ 4 1) (σ 4 2) (σ 4 4) (σ 5 1) (σ 5 3) j c → A.testBit c = true) →
      wtab nj nc (offd D (σ 4 1) (σ 4 2) (σ 4 4) (σ 5 1) (σ 5 3)) (trv D (σ 4 1) (σ 5 1)) (fun _ _ => True) (τ 1) → τ 2 = σ 6 2 → Q (setc σ 6 τ)) : q_Face_offerJobs σ Q := by
  -- the loop's state: only the choice has changed
  let I : SG → (Nat → Nat → Prop) → Prop := fun u P => (∀ m, m ≠ 6 → u m = σ m) ∧ (u 6) 0 3 = nI nj ∧ (u 6) 0 4 = nI nc ∧ (u 6) 2 = σ 6 2 ∧ wtab nj nc (offd D (σ 4 1) (σ 4 2) (σ 4 4) (σ 5 1) (σ 5 3)) (trv D (σ 4 1) (σ 5 1)) P ((u 6) 1) ∧ ∃ A, A < 64 ∧ (u 6) 0 5 = nI A ∧ (∀ j c, j < nj → c < nc → P j c → offd D (σ 4 1) (σ 4 2) (σ 4 4) (σ 5 1) (σ 5 3) j c → A.testBit c = true)
  have Iw : ∀ u P P', (∀ j c, j < nj → c < nc → (P j c ↔ P' j c)) → I u P → I u P' := by
    rintro u P P' hP ⟨i1, i2, i3, i4, i5, A, i6, i7, i8⟩
    refine ⟨i1, i2, i3, i4, fun j c hj hc => ?_, A, i6, i7, fun j c hj hc h1 h2 => i8 j c hj hc ((hP j c hj hc).mpr h1) h2⟩
    have h1 := i5 j c hj hc
    rw [hP j c hj hc] at h1
    exact h1
  have inner : ∀ (F j : Nat), j < nj → (∀ f' u', F ≤ f' → I u' (fun j' c' => j' < j + 1) → q_Face_offerJobs_j Q f' 1 (nI (j + 1)) 0 0 u') →
      ∀ k fuel c u, c + k = nc → F + k < fuel → I u (fun j' c' => j' < j ∨ (j' = j ∧ c' < c)) → q_Face_offerJobs_j Q fuel 2 (nI j) (nI c) 0 u := by
    intro F j hj hout k
    induction k with
    | zero =>
      intro fuel c u hc hf hI
      obtain ⟨f, rfl, -⟩ := fu hf
      obtain rfl : c = nc := hc
      have e0 : (u 4) 0 7 = nI c := by rw [hI.1 4 (by decide)]; exact hc1
      refine ⟨fun _ => ?_, fun h' => absurd (le_end e0 (by omega)) h'⟩
      rw [nI_1]
      exact hout f u (by omega) (Iw _ _ _ (fun j' c' _ hc' => by omega) hI)
    | succ k ih =>
      intro fuel c u hc hf hI
      obtain ⟨f, rfl, hf⟩ := fu hf
      obtain ⟨i1, i2, i3, i4, i5, A, i6, i7, i8⟩ := hI
      have e0 : (u 4) 0 7 = nI nc := by rw [i1 4 (by decide)]; exact hc1
      have hcn : c < nc := by omega
      refine ⟨fun h' => absurd h' (le_at e0 (by omega) hcn), fun _ => ?_⟩
      have go : ¬ offd D (σ 4 1) (σ 4 2) (σ 4 4) (σ 5 1) (σ 5 3) j c → q_Face_offerJobs_j Q f 2 (nI j) (nI c + 1) 0 u := by
        intro hno
        rw [nI_1]
        refine ih f (c + 1) u (by omega) (by omega) ⟨i1, i2, i3, i4, fun j' c' hj' hc' => ?_, A, i6, i7, fun j' c' hj' hc' h1 h2 => ?_⟩
        · obtain ⟨w1, w2⟩ := i5 j' c' hj' hc'
          by_cases e : j' = j ∧ c' = c
          · obtain ⟨rfl, rfl⟩ := e
            exact ⟨fun _ h => absurd h hno, fun _ => w2 (fun h => hno h.2)⟩
          · exact ⟨fun h1 h2 => w1 (by omega) h2, fun h1 => w2 (fun h2 => h1 ⟨by omega, h2.2⟩)⟩
        · by_cases e : j' = j ∧ c' = c
          · obtain ⟨rfl, rfl⟩ := e; exact absurd h2 hno
          · exact i8 j' c' hj' hc' (by omega) h2
      have s1 := i1 4 (by decide)
      have s2 := i1 5 (by decide)
      have s3 := i1 2 (by decide)
      refine r_trav (n := n) (nc := nc) (nj := nj) (D := D) z2 z5 z6 hj hcn (by rw [s1]; exact g1) (by rw [s2]; exact g2) (by rw [s3]; exact hD) ?_
      rw [s1, s2]
      refine ⟨vi (by omega), ?_⟩
      rw [ck (k := j) (by omega)]
      refine ⟨fun w => b1 ⟨vi (by omega), ?_⟩, fun w => b0 (go (fun ho => w ho.1))⟩
      rw [ck (k := c) (by omega)]
      refine ⟨fun w2 => b0 ⟨vi (by omega), ?_⟩, fun w2 => b1 (b0 (go (fun ho => w2 ho.2.1)))⟩
      refine ⟨fun w3 => b1 ⟨fun w4 => go (fun ho => ?_), fun w4 => ?_⟩, fun w3 => b0 (go (fun ho => w3 ho.2.2.1))⟩
      · have := ho.2.2.2
        exact absurd w4 (nI_ge (a := trv D (σ 4 1) (σ 5 1) j c) (b := 1000000) this (by omega))
      · obtain ⟨a1, _⟩ := ixn (by omega) (g1 c hcn)
        obtain ⟨b1, _⟩ := ixn (by omega) (g2 j hj)
        have bd := hF _ _ a1 b1
        have w5 : trv D (σ 4 1) (σ 5 1) j c < 1000000 := by
          rcases Nat.lt_or_ge (trv D (σ 4 1) (σ 5 1) j c) 1000000 with h | h
          · exact h
          · exact absurd (nI_le (a := 1000000) (b := trv D (σ 4 1) (σ 5 1) j c) h (by show D _ _ < _; omega)) w4
        have ho : offd D (σ 4 1) (σ 4 2) (σ 4 4) (σ 5 1) (σ 5 3) j c := ⟨w, w2, w3, w5⟩
        have t9 := hT j c hj hcn ho
        unfold q_Choice_offer
        rw [ix6, ck (k := j * 6 + c) (by omega), show (6000 : Int32) = nI 6000 from rfl, pk_sub (by omega), show (sto (u 6) 1 (j * 6 + c) (nI (6000 - trv D (σ 4 1) (σ 5 1) j c))) 0 5 = nI A from i7, bt_o A i6 c (by omega), nI_1]
        refine ⟨vi (by omega), ih f (c + 1) _ (by omega) (by omega) ⟨fun m hm => (if_neg hm).trans (i1 m hm), i2, i3, i4, fun j' c' hj' hc' => ?_, A ||| 2 ^ c, or_lt A i6 c (by omega), rfl, fun j' c' hj' hc' h1 h2 => ?_⟩⟩
        · obtain ⟨w1, w2⟩ := i5 j' c' hj' hc'
          show (_ → _ → upd ((u 6) 1) (j * 6 + c) _ (j' * 6 + c') = _) ∧ (_ → upd ((u 6) 1) (j * 6 + c) _ (j' * 6 + c') = _)
          by_cases e : j' = j ∧ c' = c
          · obtain ⟨rfl, rfl⟩ := e
            rw [pk_us]
            exact ⟨fun _ _ => rfl, fun h => absurd ⟨by omega, ho⟩ h⟩
          · rw [pk_un (by omega)]
            exact ⟨fun h1 h2 => w1 (by omega) h2, fun h1 => w2 (fun h2 => h1 ⟨by omega, h2.2⟩)⟩
        · by_cases e : c' = c
          · subst e; exact bt_self A i6 c' (by omega)
          · have h3 := i8 j' c' hj' hc' (by omega) h2
            cases h4 : (A ||| 2 ^ c).testBit c' with
            | true => rfl
            | false =>
              have := (bt_keep i6 (by omega) (by omega) h4).1
              rw [h3] at this
              exact absurd this (by decide)
  have outer : ∀ k fuel j u, j + k = nj → k * 10 < fuel → I u (fun j' c' => j' < j) → q_Face_offerJobs_j Q fuel 1 (nI j) 0 0 u := by
    intro k
    induction k with
    | zero =>
      intro fuel j u hj hf hI
      obtain ⟨f, rfl, -⟩ := fu hf
      obtain rfl : j = nj := hj
      have e0 : (u 5) 0 4 = nI j := by rw [hI.1 5 (by decide)]; exact hj1
      refine ⟨fun _ => ?_, fun h' => absurd (le_end e0 (by omega)) h'⟩
      obtain ⟨i1, i2, i3, i4, i5, A, i6, i7, i8⟩ := Iw _ _ (fun _ _ => True) (fun j' c' hj' _ => ⟨fun _ => trivial, fun _ => hj'⟩) hI
      have hu : u = setc σ 6 (u 6) := by
        funext m
        by_cases e : m = 6
        · subst e; exact (if_pos rfl).symm
        · rw [i1 m e]; exact (if_neg e).symm
      rw [hu]
      exact h (u 6) A i6 i2 i3 i7 (fun j' c' hj' hc' => i8 j' c' hj' hc' trivial) i5 i4
    | succ k ih =>
      intro fuel j u hj hf hI
      obtain ⟨f, rfl, hf⟩ := fu hf
      have e0 : (u 5) 0 4 = nI nj := by rw [hI.1 5 (by decide)]; exact hj1
      refine ⟨fun h' => absurd h' (le_at e0 (by omega) (by omega)), fun _ => ?_⟩
      exact inner (k * 10 + 1) j (by omega) (fun f' u' hf' hI' => ih f' (j + 1) u' (by omega) (by omega) hI') nc f 0 u (by omega) (by omega) (Iw _ _ _ (fun j' c' _ _ => by omega) hI)
  refine o_b0 ?_
  unfold q_Face_offerJobs_b0 q_Jobs_size q_Fleet_size
  rw [hj1, hc1]
  refine r_begin (fun τ h3 h4 h5 h1 hS => outer nj 3999 0 (setc σ 6 τ) (by omega) (by omega) ⟨fun m hm => if_neg hm, h3, h4, hS 2 (by decide) (by decide), fun j c hj hc => ⟨fun h => absurd h (by omega), fun _ => h1 (j * 6 + c) (by omega)⟩, 0, by omega, h5, fun j c _ _ h => absurd h (by omega)⟩)
