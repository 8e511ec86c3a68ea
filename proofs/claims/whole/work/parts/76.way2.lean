/-! way -/
theorem r_cong {σ : SG} {μ τ : Sg} (h : ∀ k, k < 19 → τ k = μ k) (hR : r_R σ μ) : r_R σ τ := by
  unfold r_R gNm gEq gIn at *
  rw [h 0 (by decide), h 1 (by decide), h 2 (by decide), h 3 (by decide), h 4 (by decide), h 5 (by decide), h 6 (by decide), h 7 (by decide), h 8 (by decide), h 9 (by decide), h 10 (by decide), h 11 (by decide), h 12 (by decide), h 13 (by decide), h 14 (by decide), h 15 (by decide), h 16 (by decide), h 17 (by decide), h 18 (by decide)]
  exact hR
theorem no_first {n np : Nat} {D : Nat → Nat → Nat} {bg en tm cl : Nat → Int32} {a b k : Nat} (z : n ≤ 10) (ha : a < n) (hb : b < n) (ok : ds_ok n 1000000 (oE n np bg en tm cl) D) (h : ¬ D a b < 1000000 ∨ a = b) : ¬ wP n D bg en tm cl a b k := by
  rintro ⟨_, _, c, t, hc, t1, t2, _, _, e⟩
  rcases h with h | h
  · have h2 := ok.2.1 a b ha hb
    have h3 := ok.2.1 c b hc hb
    have h6 : D c b < 1000000 := by omega
    have := ds_small oE_E ok hc hb h6
    omega
  · subst h
    have := ok.1 a ha
    omega
theorem has_first {n np : Nat} {D : Nat → Nat → Nat} {bg en tm cl : Nat → Int32} {a b : Nat} {r : Int32} (ha : a < n) (hb : b < n) (ok : ds_ok n 1000000 (oE n np bg en tm cl) D) (h : D a b < 1000000) (hab : a ≠ b) (hr : isFst (wP n D bg en tm cl a b) np r) : ∃ k c t, k < np ∧ r = nI k ∧ cl k = 0 ∧ c < n ∧ 1 ≤ t ∧ t ≤ 100 ∧ bg k = nI a ∧ en k = nI c ∧ tm k = nI t ∧ D a b = t + D c b := by
  rcases hr with ⟨_, h2⟩ | ⟨k, h1, h2, ⟨k0, k1, c, t, hc, t1, t2, e2, e3, e4⟩, _⟩
  · obtain ⟨c, t, he, heq⟩ := ok.2.2.2 a b ha hb hab h
    obtain ⟨_, hc, t1, t2, k, hk, k0, k1, k2, k3⟩ := he
    exact absurd ⟨k0, k1, c, t, hc, t1, t2, k2, k3, heq⟩ (h2 k hk)
  · exact ⟨k, c, t, h1, h2, k0, hc, t1, t2, k1, e2, e3, e4⟩
/-- the two walks along the way -/
def mdl (n np b : Nat) (D : Nat → Nat → Nat) (σ τ : Sg) : Prop := τ 0 4 = nI np ∧ σ 1 = τ 3 ∧ σ 2 = τ 4 ∧ σ 3 = τ 5 ∧ σ 4 = τ 6 ∧ ∀ a, a < n → τ 19 a = nI (mFar (D a b))
theorem walk {σ : Sg} {n np b : Nat} {D : Nat → Nat → Nat} (z : n ≤ 10) (hn : σ 0 0 = nI n) (hp : σ 0 6 = nI np) (z3 : np ≤ 30) (hb : b < n) (hpc : gPc n np (σ 1) (σ 2) (σ 3)) (hD : ∀ a b, a < n → b < n → σ 5 (a * 10 + b) = nI (D a b)) (ok : ds_ok n 1000000 (oE n np (σ 1) (σ 2) (σ 3) (σ 4)) D) :
    ∀ d p, p < n → D p b ≤ d → D p b < 1000000 → ∃ w, w ≤ ds_rk D b (D p b) n ∧
      (∀ (Q : Int32 → Prop) (v : Int32) m fuel r, isFst (wP n D (σ 1) (σ 2) (σ 3) (σ 4) p b) np r → m + w < n → w < fuel → Q (nI (m + w)) → q_Roads_piecesOnWay_j Q σ fuel 1 v (nI b) (nI m) r) ∧
      (∀ (τ : Sg) (Q : Int32 → Sg → Prop) (v w3 : Int32) m fuel, mdl n np b D σ τ → w < fuel → Q (nI (m + w)) τ → q_Model_way_j Q fuel 2 v (nI b) w3 (nI m) (nI p) τ) := by
  have stop : ∃ w, w ≤ ds_rk D b (D b b) n ∧
      (∀ (Q : Int32 → Prop) (v : Int32) m fuel r, isFst (wP n D (σ 1) (σ 2) (σ 3) (σ 4) b b) np r → m + w < n → w < fuel → Q (nI (m + w)) → q_Roads_piecesOnWay_j Q σ fuel 1 v (nI b) (nI m) r) ∧
      (∀ (τ : Sg) (Q : Int32 → Sg → Prop) (v w3 : Int32) m fuel, mdl n np b D σ τ → w < fuel → Q (nI (m + w)) τ → q_Model_way_j Q fuel 2 v (nI b) w3 (nI m) (nI b) τ) := by
    refine ⟨0, Nat.zero_le _, fun Q v m fuel r hr hm hf hq => ?_, fun τ Q v w3 m fuel _ hf hq => ?_⟩
    · obtain ⟨f, rfl, -⟩ := fu hf
      rcases hr with ⟨h1, _⟩ | ⟨k, _, _, h3, _⟩
      · subst h1; exact ⟨fun _ => hq, fun h => absurd rfl h⟩
      · exact absurd h3 (no_first z hb hb ok (Or.inr rfl))
    · obtain ⟨f, rfl, -⟩ := fu hf
      exact ⟨fun _ => hq, fun h => absurd rfl h⟩
  intro d
  induction d with
  | zero =>
    intro p hp1 hd hF
    by_cases e : p = b
    · subst e; exact stop
    · obtain ⟨c, t, he, heq⟩ := ok.2.2.2 p b hp1 hb e hF
      have := he.2.2.1
      omega
  | succ d ih =>
    intro p hp1 hd hF
    by_cases e : p = b
    · subst e; exact stop
    · have hF' := ok.2.1
      have ex : ∃ r, isFst (wP n D (σ 1) (σ 2) (σ 3) (σ 4) p b) np r := by
        by_cases hex : ∃ k, k < np ∧ wP n D (σ 1) (σ 2) (σ 3) (σ 4) p b k
        · obtain ⟨k, ⟨h1, h2⟩, h3⟩ := pk_least (fun k => k < np ∧ wP n D (σ 1) (σ 2) (σ 3) (σ 4) p b k) hex
          exact ⟨nI k, Or.inr ⟨k, h1, rfl, h2, fun j hj h4 => h3 j hj ⟨by omega, h4⟩⟩⟩
        · exact ⟨-1, Or.inl ⟨rfl, fun k hk h => hex ⟨k, hk, h⟩⟩⟩
      obtain ⟨r0, hr0⟩ := ex
      obtain ⟨k, c, t, hk, er, k0, hc, t1, t2, k1, k2, k3, heq⟩ := has_first hp1 hb ok hF e hr0
      obtain ⟨w, hw, hA, hB⟩ := ih c hc (by omega) (by omega)
      have hrk := ds_rk_lt D b (x := D c b) (y := D p b) (c := c) (by omega) (by omega) (by omega) n hc
      refine ⟨w + 1, by omega, fun Q v m fuel r hr hm hf hq => ?_, fun τ Q v w3 m fuel hM hf hq => ?_⟩
      · obtain ⟨f, rfl, hf⟩ := fu hf
        have : r = nI k := (fst_one hr hr0).trans er
        subst this
        refine ⟨fun h => ?_, fun _ => ⟨fun h => absurd h (le_at hn (by omega) (by omega)), fun _ => ⟨vi (by omega), ?_⟩⟩⟩
        · exact absurd (show nI k < 0 by rw [h]; decide) (nI_pos (by omega))
        · rw [ck (k := k) (by omega), k2, nI_1]
          refine r_first z hp z3 hc hb hpc hD hF' (fun r' hr' => ?_)
          exact hA Q v (m + 1) f r' hr' (by omega) (by omega) (by rw [show m + 1 + w = m + (w + 1) by omega]; exact hq)
      · obtain ⟨f, rfl, hf⟩ := fu hf
        have hM' := hM
        obtain ⟨hp', q1, q2, q3, q4, hX⟩ := hM
        refine ⟨fun h => absurd ((nI_eq (by omega) (by omega)).mp h) e, fun _ => ?_⟩
        refine m_first z hp' z3 hp1 hb (by rw [← q1, ← q2, ← q3]; exact hpc) (by rw [← q1, ← q2, ← q3, ← q4]; exact ok) hX (fun r' hr' => ?_)
        rw [← q1, ← q2, ← q3, ← q4] at hr'
        have : r' = nI k := (fst_one hr' hr0).trans er
        subst this
        refine ⟨vi (by omega), ?_⟩
        rw [ck (k := k) (by omega), ← q2, k2, nI_1]
        exact hB τ Q v w3 (m + 1) f hM' (by omega) (by rw [show m + 1 + w = m + (w + 1) by omega]; exact hq)
theorem m_way {a b c : Int32} {μ : Sg} {Q : Int32 → Sg → Prop} (h : q_Model_way_b0 (q_Model_way_j Q 3999) Q a b c 0 0 μ) : q_Model_way a b c μ Q := h
theorem mFar_y {d : Nat} (h : d < 1000000) : mFar d = d := if_pos h
theorem mFar_n {d : Nat} (h : ¬ d < 1000000) : mFar d = 1000000000 := if_neg h
theorem s_way {a b c : Int32} {σ : SG} {μ : Sg} (hR : r_R σ μ) : ls_way a b c σ μ r_R := by
  have hR0 := hR
  obtain ⟨n, np, nr, nc, nj, ⟨z1, z2, z3, z4, z5, z6⟩, ⟨⟨hn1, hn2, hn3⟩, ⟨hp1, hp2⟩, hr, hc, hj, ht⟩, he, hi⟩ := hR
  obtain ⟨q1, q2, q3, q4⟩ := he.2.1
  obtain ⟨hpc, hcl, D, hD, ok⟩ := hi.2.1
  intro f
  unfold q_Law_way q_Face_way
  have bad : (¬ isIx a n ∨ ¬ isIx b n ∨ (c < 0 ∨ 2 < c)) → q_Model_way a b c μ (fun r v => q_Model_thrown v (fun t => t = 1 ∧ ((1 : Int32) = 0 → f 0 = r.toInt64) ∧ r_R σ v)) := by
    intro h
    refine m_way ?_
    by_cases ha : isIx a n
    · have ha' := ha
      obtain ⟨p, hp, rfl⟩ := ha
      refine m_pt1 hn3 z2 hp (b1 ?_)
      by_cases hb : isIx b n
      · have hb' := hb
        obtain ⟨q, hq, rfl⟩ := hb
        refine m_pt1 hn3 z2 hq (b1 (m_in0 ?_ (b0 (okX hR0 (by decide)))))
        exact (h.resolve_left (fun x => x ha')).resolve_left (fun x => x hb')
      · exact m_pt0 hn3 z2 hb (b0 (okX hR0 (by decide)))
    · exact m_pt0 hn3 z2 ha (b0 (okX hR0 (by decide)))
  by_cases ha : isIx a n
  · obtain ⟨p, hp, rfl⟩ := ha
    refine r_has1 hn1 z2 hp (b1 ?_)
    by_cases hb : isIx b n
    · obtain ⟨q, hq, rfl⟩ := hb
      refine r_has1 hn1 z2 hq (b1 ?_)
      have bd := ok.2.1 p q hp hq
      have okm : ds_ok n 1000000 (oE n np (μ 3) (μ 4) (μ 5) (μ 6)) D := by rw [← q1, ← q2, ← q3, ← q4]; exact ok
      have hpcm : gPc n np (μ 3) (μ 4) (μ 5) := by rw [← q1, ← q2, ← q3]; exact hpc
      -- the reference's own: times to q
      have mw : ∀ (Q : Int32 → Sg → Prop), ¬ c < 0 → ¬ 2 < c →
          (∀ τ : Sg, (∀ k, k ≠ 19 → τ k = (sto μ 0 0 0) k) → (∀ a, a < n → τ 19 a = nI (mFar (D a q))) → ((¬ D p q < 1000000 → Q (-1) τ) ∧ (D p q < 1000000 → ((2 ≤ c → q_Model_way_j Q 3999 2 (nI p) (nI q) c 0 (nI p) τ) ∧ (¬ 2 ≤ c → ((c = 0 → Q (nI (D p q)) τ) ∧ (¬ c = 0 → q_Model_pieceFrom (nI p) τ (fun r5 => Q r5 τ)))))))) → q_Model_way (nI p) (nI q) c μ Q := by
        intro Q c1 c2 hh
        refine m_way (m_pt1 hn3 z2 hp (b1 (m_pt1 hn3 z2 hq (b1 (m_in1 c1 c2 (b1 ?_))))))
        refine m_times (μ := sto μ 0 0 0) hn3 z2 hp2 z3 hq hpcm okm (fun τ hS hX => ⟨vi (by omega), ?_⟩)
        obtain ⟨g1, g2⟩ := hh τ hS hX
        rw [ck (k := p) (by omega), hX p hp]
        by_cases hF : D p q < 1000000
        · rw [mFar_y hF]
          refine ⟨fun h => ?_, fun _ => ⟨(g2 hF).1, fun h2 => ⟨fun h3 => ⟨vi (by omega), ((g2 hF).2 h2).1 h3⟩, ((g2 hF).2 h2).2⟩⟩⟩
          have := (nI_eq (a := D p q) (b := 1000000000) (by omega) (by omega)).mp h
          omega
        · rw [mFar_n hF]
          exact ⟨fun _ => g1 hF, fun h => absurd rfl h⟩
      have rr : ∀ τ : Sg, (∀ k, k ≠ 19 → τ k = (sto μ 0 0 0) k) → r_R σ τ ∧ τ 0 0 = 0 := fun τ hS => ⟨r_cong (fun k hk => hS k (by omega)) (r_thr hR0), (congrFun (hS 0 (by decide)) 0).trans rfl⟩
      refine ⟨fun c0 => ?_, fun c0 => ⟨fun c1 => ?_, fun c1 => ⟨fun c2 => ?_, fun c2 => ⟨rfl, bad (Or.inr (Or.inr (out2 c0 c1 c2)))⟩⟩⟩⟩
      · subst c0
        refine ltm (by omega) (by omega) (hD p q hp hq) ⟨fun h1 => b0 ?_, fun h1 => b1 (ltm (by omega) (by omega) (hD p q hp hq) ?_)⟩
        · have h2 := (nI_leI (a := 1000000) (b := D p q) (by omega) (by omega)).mp h1
          exact mw _ (by decide) (by decide) (fun τ hS hX => ⟨fun _ => okB (rr τ hS).2 (rr τ hS).1 rfl, fun h => absurd h (by omega)⟩)
        · have h2 : D p q < 1000000 := by
            rcases Nat.lt_or_ge (D p q) 1000000 with h | h
            · exact h
            · exact absurd (nI_le h (by omega)) h1
          exact mw _ (by decide) (by decide) (fun τ hS hX => ⟨fun h => absurd h2 h, fun _ => ⟨fun h => absurd h (by decide), fun _ => ⟨fun _ => okB (rr τ hS).2 (rr τ hS).1 rfl, fun h => absurd rfl h⟩⟩⟩)
      · subst c1
        refine r_first z2 hp1 z3 hp hq hpc hD ok.2.1 (fun r hr => mw _ (by decide) (by decide) (fun τ hS hX => ⟨fun h => okB (rr τ hS).2 (rr τ hS).1 ?_, fun h => ⟨fun h' => absurd h' (by decide), fun _ => ⟨fun h' => absurd h' (by decide), fun _ => ?_⟩⟩⟩))
        · rcases hr with ⟨h1, _⟩ | ⟨k, _, _, h3, _⟩
          · exact h1
          · exact absurd h3 (no_first z2 hp hq ok (Or.inl h))
        · have t3 : τ 3 = μ 3 := hS 3 (by decide)
          have t4 : τ 4 = μ 4 := hS 4 (by decide)
          have t5 : τ 5 = μ 5 := hS 5 (by decide)
          have t6 : τ 6 = μ 6 := hS 6 (by decide)
          refine m_first z2 ((congrFun (hS 0 (by decide)) 4).trans hp2) z3 hp hq (by rw [t3, t4, t5]; exact hpcm) (by rw [t3, t4, t5, t6]; exact okm) hX (fun r' hr' => okB (rr τ hS).2 (rr τ hS).1 ?_)
          rw [t3, t4, t5, t6, ← q1, ← q2, ← q3, ← q4] at hr'
          exact fst_one hr hr'
      · subst c2
        refine ltm (by omega) (by omega) (hD p q hp hq) ⟨fun h1 => b0 ?_, fun h1 => b1 ?_⟩
        · have h2 := (nI_leI (a := 1000000) (b := D p q) (by omega) (by omega)).mp h1
          exact mw _ (by decide) (by decide) (fun τ hS hX => ⟨fun _ => okB (rr τ hS).2 (rr τ hS).1 rfl, fun h => absurd h (by omega)⟩)
        · have h2 : D p q < 1000000 := by
            rcases Nat.lt_or_ge (D p q) 1000000 with h | h
            · exact h
            · exact absurd (nI_le h (by omega)) h1
          have h3 := ds_rk_own D q (a := p) (x := D p q) (Nat.lt_irrefl _) n hp
          obtain ⟨w, hw, hA, hB⟩ := walk z2 hn2 hp1 z3 hq hpc hD ok (D p q) p hp (Nat.le_refl _) h2
          show q_Roads_firstPiece (nI p) (nI q) (σ 2) (fun r1 => q_Roads_piecesOnWay_j _ (σ 2) 3999 1 (nI p) (nI q) (nI 0) r1)
          refine r_first z2 hp1 z3 hp hq hpc hD ok.2.1 (fun r hr => hA _ _ 0 3999 r hr (by omega) (by omega) (mw _ (by decide) (by decide) (fun τ hS hX => ⟨fun h => absurd h2 h, fun _ => ⟨fun _ => ?_, fun h => absurd (by decide) h⟩⟩)))
          exact hB τ _ _ _ 0 3999 ⟨(congrFun (hS 0 (by decide)) 4).trans hp2, q1.trans (hS 3 (by decide)).symm, q2.trans (hS 4 (by decide)).symm, q3.trans (hS 5 (by decide)).symm, q4.trans (hS 6 (by decide)).symm, hX⟩ (by omega) (okB (rr τ hS).2 (rr τ hS).1 rfl)
    · exact r_has0 hn1 z2 hb (b0 ⟨rfl, bad (Or.inr (Or.inl hb))⟩)
  · exact r_has0 hn1 z2 ha (b0 ⟨rfl, bad (Or.inl ha)⟩)
