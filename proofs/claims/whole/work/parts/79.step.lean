/-! step -/
theorem cnt_same {f : Nat → Int32} {v w : Int32} {j : Nat} (h1 : ¬ f j = v) (h2 : ¬ w = v) : ∀ k, cnt (upd f j w) v k = cnt f v k
  | 0 => rfl
  | k + 1 => by
    have ih := cnt_same (f := f) (j := j) h1 h2 k
    show cnt (upd f j w) v k + (if upd f j w k = v then 1 else 0) = cnt f v k + (if f k = v then 1 else 0)
    rw [ih]
    by_cases e : k = j
    · subst e; rw [pk_us, if_neg h2, if_neg h1]
    · rw [pk_un e]
theorem cnt_more {f : Nat → Int32} {v : Int32} {j : Nat} (h1 : ¬ f j = v) : ∀ k, j < k → cnt (upd f j v) v k = cnt f v k + 1
  | 0, h => absurd h (by omega)
  | k + 1, h => by
    show cnt (upd f j v) v k + (if upd f j v k = v then 1 else 0) = cnt f v k + (if f k = v then 1 else 0) + 1
    by_cases e : k = j
    · subst e
      have : ∀ m, m ≤ k → cnt (upd f k v) v m = cnt f v m := by
        intro m
        induction m with
        | zero => intro _; rfl
        | succ m ih =>
          intro hm
          show cnt (upd f k v) v m + (if upd f k v m = v then 1 else 0) = cnt f v m + (if f m = v then 1 else 0)
          rw [ih (by omega), pk_un (by omega)]
      rw [this k (Nat.le_refl _), pk_us, if_pos rfl, if_neg h1]
    · rw [pk_un e, cnt_more h1 k (by omega)]; omega
theorem sumf_more {f : Nat → Int32} {c : Nat} : ∀ k, c < k → sumf (upd f c (f c + 1)) k = sumf f k + 1
  | 0, h => absurd h (by omega)
  | k + 1, h => by
    show sumf (upd f c (f c + 1)) k + upd f c (f c + 1) k = sumf f k + f k + 1
    by_cases e : k = c
    · subst e
      have : ∀ m, m ≤ k → sumf (upd f k (f k + 1)) m = sumf f m := by
        intro m
        induction m with
        | zero => intro _; rfl
        | succ m ih =>
          intro hm
          show sumf (upd f k (f k + 1)) m + upd f k (f k + 1) m = sumf f m + f m
          rw [ih (by omega), pk_un (by omega)]
      rw [this k (Nat.le_refl _), pk_us, Int32.add_assoc]
    · rw [pk_un e, sumf_more k (by omega), Int32.add_assoc, Int32.add_comm 1, ← Int32.add_assoc]
theorem m_step {a : Int32} {μ : Sg} {Q : Int32 → Sg → Prop} (h : q_Model_step_b0 (q_Model_step_j Q 3999) Q a 0 μ) : q_Model_step a μ Q := h
theorem m_st {μ τ : Sg} {c nc : Nat} {Q : Int32 → Sg → Prop} (hτ : sto μ 0 0 0 = τ) (hc : μ 0 11 = nI nc) (z5 : nc ≤ 6) (hcn : c < nc)
    (h : (τ 9 c = -1 → ((τ 11 c = -1 → Q 2 τ) ∧ (¬ τ 11 c = -1 → (vp_in (τ 11 c) 12 ∧ ((τ 17 (τ 11 c).toNatClampNeg = 1 → ((τ 8 c = τ 15 (τ 11 c).toNatClampNeg → Q 3 (sto τ 17 (τ 11 c).toNatClampNeg 2)) ∧ (¬ τ 8 c = τ 15 (τ 11 c).toNatClampNeg → q_Model_step_j Q 3999 1 (nI c) (τ 11 c) τ))) ∧ (¬ τ 17 (τ 11 c).toNatClampNeg = 1 → q_Model_step_j Q 3999 1 (nI c) (τ 11 c) τ)))))) ∧ (¬ τ 9 c = -1 → Q 1 τ)) : q_Model_step (nI c) μ Q := by
  show q_Model_step_b0 (q_Model_step_j Q 3999) Q (nI c) 0 μ
  unfold q_Model_step_b0
  refine m_ca1 hc z5 hcn (b1 ?_)
  rw [hτ, ck (k := c) (by omega)]
  have c6 : c < 6 := by omega
  refine ⟨vi c6, fun h1 => ⟨vi c6, (h.1 h1).1, fun h2 => ⟨((h.1 h1).2 h2).1, fun h3 => ⟨vi c6, ((h.1 h1).2 h2).1, fun h4 => ⟨((h.1 h1).2 h2).1, (((h.1 h1).2 h2).2.1 h3).1 h4⟩, (((h.1 h1).2 h2).2.1 h3).2⟩, ((h.1 h1).2 h2).2.2⟩⟩, h.2⟩
theorem m_go1 {τ : Sg} {c j g : Nat} {Q : Int32 → Sg → Prop} (j12 : j < 12) (c6 : c < 6) (h1 : τ 17 j = 1) (hg : τ 15 j = nI g) (h : q_Model_goesOn (nI c) (nI g) τ Q) : q_Model_step_j Q 3999 1 (nI c) (nI j) τ := by
  show q_Model_step_b1 (q_Model_step_j Q 3998) Q (nI c) (nI j) τ
  unfold q_Model_step_b1
  rw [ck (k := j) (by omega), h1]
  refine ⟨vi j12, fun h' => absurd h' (by decide), fun _ => ?_⟩
  show q_Model_step_b2 (q_Model_step_j Q 3997) Q (nI c) (nI j) τ
  unfold q_Model_step_b2
  rw [ck (k := j) (by omega), h1, hg]
  exact ⟨vi j12, fun _ => ⟨vi j12, h⟩, fun h' => absurd rfl h'⟩
theorem m_go2 {τ : Sg} {c j g : Nat} {Q : Int32 → Sg → Prop} (j12 : j < 12) (c6 : c < 6) (h1 : τ 17 j = 2) (hg : τ 16 j = nI g) (hne : ¬ τ 8 c = nI g) (h : q_Model_goesOn (nI c) (nI g) τ Q) : q_Model_step_j Q 3999 1 (nI c) (nI j) τ := by
  show q_Model_step_b1 (q_Model_step_j Q 3998) Q (nI c) (nI j) τ
  unfold q_Model_step_b1
  rw [ck (k := j) (by omega), ck (k := c) (by omega), h1, hg]
  refine ⟨vi j12, fun _ => ⟨vi c6, vi j12, fun h' => absurd h' hne, fun _ => ?_⟩, fun h' => absurd rfl h'⟩
  show q_Model_step_b2 (q_Model_step_j Q 3997) Q (nI c) (nI j) τ
  unfold q_Model_step_b2
  rw [ck (k := j) (by omega), h1, hg]
  exact ⟨vi j12, fun h' => absurd h' (by decide), fun _ => ⟨vi j12, h⟩⟩
theorem m_end {τ : Sg} {c j g : Nat} {d : Int32} {Q : Int32 → Sg → Prop} (j12 : j < 12) (c6 : c < 6) (h1 : τ 17 j = 2) (hg : τ 16 j = nI g) (he : τ 8 c = nI g) (hd : τ 13 c = d) (h : Q 4 (sto (sto (sto τ 17 j 3) 11 c (-1)) 13 c (d + 1))) : q_Model_step_j Q 3999 1 (nI c) (nI j) τ := by
  show q_Model_step_b1 (q_Model_step_j Q 3998) Q (nI c) (nI j) τ
  unfold q_Model_step_b1
  rw [ck (k := j) (by omega), ck (k := c) (by omega), h1, hg, sto_ne (show (13 : Nat) ≠ 11 by decide), sto_ne (show (13 : Nat) ≠ 17 by decide), hd]
  exact ⟨vi j12, fun _ => ⟨vi c6, vi j12, fun _ => ⟨vi j12, vi c6, vi c6, vi c6, h⟩, fun h' => absurd he h'⟩, fun h' => absurd rfl h'⟩
theorem jb_st {n nj j : Nat} {v : Int32} {fr to st : Nat → Int32} (h : gJb n nj fr to st) (hj : j < nj) (hv : v = 0 ∨ v = 1 ∨ v = 2 ∨ v = 3) : gJb n nj fr to (upd st j v) := by
  refine ⟨h.1, h.2.1, fun i hi => ?_, fun i hi => by rw [pk_un (by omega)]; exact h.2.2.2 i hi⟩
  by_cases e : i = j
  · subst e; rw [pk_us]; exact hv
  · rw [pk_un e]; exact h.2.2.1 i hi
theorem s_step {a : Int32} {σ : SG} {μ : Sg} (hR : r_R σ μ) : ls_step a σ μ r_R := by
  have hR0 := hR
  obtain ⟨n, np, nr, nc, nj, ⟨z1, z2, z3, z4, z5, z6⟩, ⟨⟨hn1, hn2, hn3⟩, ⟨hp1, hp2⟩, ⟨hr1, hr2⟩, ⟨hc1, hc2⟩, ⟨hj1, hj2⟩, ht⟩, he, hi⟩ := hR
  obtain ⟨⟨a1, a2⟩, ⟨a3, a4, a5, a6⟩, a7, ⟨a8, a9, a10, a11, a12, a13⟩, a14, a15, a16, a17⟩ := he
  obtain ⟨i1, ⟨hpc, hcl, D, hD, ok⟩, ⟨⟨g1, g2, g3, g4, g5⟩, i4⟩, i5, i6, i7⟩ := hi
  intro f
  unfold q_Law_step q_Face_step
  by_cases hv : isIx a nc
  · obtain ⟨c, hcn, rfl⟩ := hv
    have c6 : c < 6 := by omega
    refine f_has1 hc1 z5 hcn (b1 ⟨vi c6, ?_⟩)
    rw [ck (k := c) (by omega)]
    have rt := r_thr (v := 0) hR0
    -- what the reference holds, its throw set back
    generalize hτ : sto μ 0 0 0 = τ at rt
    have t0 : ∀ k, k ≠ 0 → τ k = μ k := fun k hk => by rw [← hτ]; exact sto_ne hk
    have th : τ 0 0 = 0 := by rw [← hτ]; rfl
    have tn : ∀ i, i ≠ 0 → τ 0 i = μ 0 i := fun i hi => by rw [← hτ, sto_sto rfl]; exact pk_un hi
    have q8 : τ 8 = σ 4 1 := (t0 8 (by decide)).trans a8.symm
    have q9 : τ 9 = σ 4 2 := (t0 9 (by decide)).trans a9.symm
    have q11 : τ 11 = σ 4 4 := (t0 11 (by decide)).trans a10.symm
    have q12 : τ 12 = σ 4 5 := (t0 12 (by decide)).trans a11.symm
    have q15 : τ 15 = σ 5 1 := (t0 15 (by decide)).trans a14.symm
    have q16 : τ 16 = σ 5 2 := (t0 16 (by decide)).trans a15.symm
    have q17 : τ 17 = σ 5 3 := (t0 17 (by decide)).trans a16.symm
    refine ⟨fun h1 => b0 ⟨vi c6, ?_⟩, fun h1 => b1 (m_st hτ hc2 z5 hcn ⟨fun h => absurd (by rw [← q9]; exact h) h1, fun _ => okB th rt rfl⟩)⟩
    rw [ck (k := c) (by omega)]
    refine ⟨fun h2 => m_st hτ hc2 z5 hcn ⟨fun _ => ⟨fun _ => okB th rt rfl, fun h => absurd (by rw [q11]; exact h2) h⟩, fun h => absurd (by rw [q9]; exact h1) h⟩, fun h2 => ⟨vi c6, ?_⟩⟩
    obtain ⟨j, hjn, ej, est⟩ := (g4 c hcn).resolve_left h2
    obtain ⟨p, hpn, ep⟩ := g1 c hcn
    obtain ⟨q, hq, eq⟩ := g3 c hcn
    have j12 : j < 12 := by omega
    rw [ck (k := c) (by omega), ej, ep]
    have m11 : τ 11 c = nI j := by rw [q11]; exact ej
    have m8 : τ 8 c = nI p := by rw [q8]; exact ep
    have go : ∀ g, g < n → p ≠ g → (σ 5 3 j = 2 → σ 5 2 j = nI g) → (¬ σ 5 3 j = 2 → σ 5 1 j = nI g) → (∀ Q : Int32 → Sg → Prop, q_Model_goesOn (nI c) (nI g) τ Q → q_Model_step (nI c) μ Q) →
        q_Face_goOn (nI c) (nI j) σ (fun r12 u11 => q_Model_step (nI c) μ (fun r v => q_Model_thrown v (fun t => t = 0 ∧ ((0 : Int32) = 0 → vp_updL f 0 r12.toInt64 0 = r.toInt64) ∧ r_R u11 v))) := by
      intro g hg hpg s2 s1 hw
      have e1 : σ 2 1 = τ 3 := a3.trans (t0 3 (by decide)).symm
      have e2 : σ 2 2 = τ 4 := a4.trans (t0 4 (by decide)).symm
      have e3 : σ 2 3 = τ 5 := a5.trans (t0 5 (by decide)).symm
      have e4 : σ 2 4 = τ 6 := a6.trans (t0 6 (by decide)).symm
      have e5 : σ 3 1 = τ 7 := a7.trans (t0 7 (by decide)).symm
      have e6 : σ 1 1 = τ 1 := a1.trans (t0 1 (by decide)).symm
      have e7 : σ 1 2 = τ 2 := a2.trans (t0 2 (by decide)).symm
      have hpcm : gPc n np (τ 3) (τ 4) (τ 5) := by rw [← e1, ← e2, ← e3]; exact hpc
      have okm : ds_ok n 1000000 (oE n np (τ 3) (τ 4) (τ 5) (τ 6)) D := by rw [← e1, ← e2, ← e3, ← e4]; exact ok
      have ru : ∀ u : Sg, (∀ k, k ≠ 19 → u k = τ k) → r_R σ u ∧ u 0 0 = 0 := fun u hu => ⟨r_cong (fun k hk => hu k (by omega)) rt, (congrFun (hu 0 (by decide)) 0).trans th⟩
      have mg : ∀ Q : Int32 → Sg → Prop, _ → _ → q_Model_step (nI c) μ Q := fun Q h5 hk => hw Q (m_goes (nr := nr) (D := D) (j := j) (q := q) ((tn 1 (by decide)).trans hn3) z2 ((tn 4 (by decide)).trans hp2) z3 ((tn 9 (by decide)).trans hr2) z4 ((tn 11 (by decide)).trans hc2) z5 hcn hpn hg hpg m8 (by rw [q12]; exact eq) hq j12 m11 hpcm okm h5 hk)
      refine r_goes (nr := nr) (g := g) (D := D) (j := j) (q := q) hn1 z2 hp1 z3 hr1 z4 hc1 z5 hcn hpn hg ep eq hq j12 s2 s1 i1 hpc hD ok.2.1 (fun hm1 => ?_) (fun k e t hr0 hkn hen t1 t2 k1 k2 k3 => ?_)
      · refine mg _ (fun _ u hu => okB (ru u hu).2 (ru u hu).1 rfl) (fun hF => ?_)
        obtain ⟨k, e, t, hkn, er, _⟩ := has_first hpn hg ok hF hpg hm1
        exact absurd er.symm (ne_m1 (by omega))
      · have hF : D p g < 1000000 := by
          by_cases hF : D p g < 1000000
          · exact hF
          · rcases hr0 with ⟨h, _⟩ | ⟨k', _, _, h, _⟩
            · exact absurd h (ne_m1 (by omega))
            · exact absurd h (no_first z2 hpn hg ok (Or.inl hF))
        have same : ∀ k' e' t', isFst (wP n D (τ 3) (τ 4) (τ 5) (τ 6) p g) np (nI k') → k' < np → e' < n → t' ≤ 100 → τ 4 k' = nI e' → τ 5 k' = nI t' → k' = k ∧ e' = e ∧ t' = t := by
          intro k' e' t' hf' hk' he' ht' x4 x5
          rw [← e1, ← e2, ← e3, ← e4] at hf'
          have ek := (nI_eq (by omega) (by omega)).mp (fst_one hf' hr0)
          subst ek
          rw [← e2] at x4
          rw [← e3] at x5
          exact ⟨rfl, (nI_eq (by omega) (by omega)).mp (x4.symm.trans k2), (nI_eq (by omega) (by omega)).mp (x5.symm.trans k3)⟩
        have mg' : ∀ Q : Int32 → Sg → Prop, goR n nr nc q D (σ 3 1) (σ 1 1) (σ 4 1) (σ 4 2) (σ 1 2) p k e t (∀ u : Sg, (∀ k, k ≠ 19 → u k = τ k) → Q 6 u) (∀ u : Sg, (∀ k, k ≠ 19 → u k = τ k) → Q 7 u) (∀ u : Sg, (∀ k, k ≠ 19 → u k = τ k) → Q 8 u) (∀ u : Sg, (∀ k, k ≠ 19 → u k = τ k) → Q 9 u)
            (∀ u : Sg, (∀ k, k ≠ 19 → u k = τ k) → ((τ 17 j = 1 → Q 10 (mEnt u c k e (τ 0 24) (nI q) (nI t) (τ 14 c + nI t))) ∧ (¬ τ 17 j = 1 → Q 10 (mEnt u c k e (τ 0 24) (nI q) (nI t) (τ 14 c + 0))))) → q_Model_step (nI c) μ Q := by
          intro Q h
          refine mg Q (fun h' => absurd hF h') (fun _ k' e' t' hf' hk' he' h1' ht' x3 x4 x5 => ?_)
          obtain ⟨rfl, rfl, rfl⟩ := same k' e' t' hf' hk' he' ht' x4 x5
          rw [← e5, ← e6, ← e7, q8, q9]
          exact h
        refine ⟨fun h6 => mg' _ ⟨fun _ u hu => okB (ru u hu).2 (ru u hu).1 rfl, fun h => absurd h6 h⟩, fun h6 => ⟨fun h7 => mg' _ ⟨fun h => absurd h h6, fun _ => ⟨fun _ u hu => okB (ru u hu).2 (ru u hu).1 rfl, fun h => absurd h h7⟩⟩, fun h7 => ⟨fun h8 => mg' _ ⟨fun h => absurd h h6, fun _ => ⟨fun h => absurd h7 h, fun _ => ⟨fun _ u hu => okB (ru u hu).2 (ru u hu).1 rfl, fun h => absurd h8 h⟩⟩⟩,
          fun h8 => ⟨fun h9 => ?_, fun h9 => mg' _ ⟨fun h => absurd h h6, fun _ => ⟨fun h => absurd h7 h, fun _ => ⟨fun h => absurd h h8, fun _ => ⟨fun h => absurd h h9, fun _ u hu => okB (ru u hu).2 (ru u hu).1 rfl⟩⟩⟩⟩⟩⟩⟩⟩
        have mg10 : ∀ Q : Int32 → Sg → Prop, (∀ u : Sg, (∀ k, k ≠ 19 → u k = τ k) → ((τ 17 j = 1 → Q 10 (mEnt u c k e (τ 0 24) (nI q) (nI t) (τ 14 c + nI t))) ∧ (¬ τ 17 j = 1 → Q 10 (mEnt u c k e (τ 0 24) (nI q) (nI t) (τ 14 c + 0))))) → q_Model_step (nI c) μ Q := fun Q h => mg' Q ⟨fun h => absurd h h6, fun _ => ⟨fun h => absurd h7 h, fun _ => ⟨fun h => absurd h h8, fun _ => ⟨fun _ => h, fun h => absurd h9 h⟩⟩⟩⟩
        -- both have entered: the relation holds on
        have rEnt : ∀ (u F : Sg) (x : Int32), (∀ k, k ≠ 19 → u k = τ k) → (∀ m, m ≠ 7 → F m = gEnt σ c k e (nI q) (nI t) m) → F 7 = upd (τ 14) c x → ∀ σ' : SG, (∀ m, m ≠ 4 → σ' m = σ m) → σ' 4 = F → r_R σ' (mEnt u c k e (τ 0 24) (nI q) (nI t) x) := by
          intro u F x hu hF' h7' σ' hσ h4
          have f0 : F 0 = σ 4 0 := hF' 0 (by decide)
          have f1 : F 1 = upd (σ 4 1) c (nI e) := hF' 1 (by decide)
          have f2 : F 2 = upd (σ 4 2) c (nI k) := hF' 2 (by decide)
          have f3 : F 3 = upd (σ 4 3) c (σ 0 0 6 + nI t) := hF' 3 (by decide)
          have f4 : F 4 = σ 4 4 := hF' 4 (by decide)
          have f5 : F 5 = upd (σ 4 5) c (nI q - nI t) := hF' 5 (by decide)
          have f6 : F 6 = σ 4 6 := hF' 6 (by decide)
          have v0 : (mEnt u c k e (τ 0 24) (nI q) (nI t) x) 0 = τ 0 := hu 0 (by decide)
          have w : ∀ m, m ≠ 19 → m ≠ 8 → m ≠ 9 → m ≠ 10 → m ≠ 12 → m ≠ 14 → (mEnt u c k e (τ 0 24) (nI q) (nI t) x) m = τ m := by
            intro m n1 n2 n3 n4 n5 n6
            unfold mEnt
            rw [sto_ne n6, sto_ne n5, sto_ne n4, sto_ne n3, sto_ne n2]; exact hu m n1
          have v8 : (mEnt u c k e (τ 0 24) (nI q) (nI t) x) 8 = upd (τ 8) c (nI e) := by show upd (u 8) c (nI e) = _; rw [hu 8 (by decide)]
          have v9 : (mEnt u c k e (τ 0 24) (nI q) (nI t) x) 9 = upd (τ 9) c (nI k) := by show upd (u 9) c (nI k) = _; rw [hu 9 (by decide)]
          have v10 : (mEnt u c k e (τ 0 24) (nI q) (nI t) x) 10 = upd (τ 10) c (τ 0 24 + nI t) := by show upd (u 10) c _ = _; rw [hu 10 (by decide)]
          have v12 : (mEnt u c k e (τ 0 24) (nI q) (nI t) x) 12 = upd (τ 12) c (nI q - nI t) := by show upd (u 12) c _ = _; rw [hu 12 (by decide)]
          have v14 : (mEnt u c k e (τ 0 24) (nI q) (nI t) x) 14 = upd (τ 14) c x := by show upd (u 14) c _ = _; rw [hu 14 (by decide)]
          generalize mEnt u c k e (τ 0 24) (nI q) (nI t) x = υ at *
          have n24 : τ 0 24 = σ 0 0 6 := (tn 24 (by decide)).trans ht.symm
          refine ⟨n, np, nr, nc, nj, ⟨z1, z2, z3, z4, z5, z6⟩, ⟨⟨?_, ?_, ?_⟩, ⟨?_, ?_⟩, ⟨?_, ?_⟩, ⟨?_, ?_⟩, ⟨?_, ?_⟩, ?_⟩, ⟨⟨?_, ?_⟩, ⟨?_, ?_, ?_, ?_⟩, ?_, ⟨?_, ?_, ?_, ?_, ?_, ?_⟩, ?_, ?_, ?_, ?_⟩, ?_, ⟨?_, ?_, D, ?_, ?_⟩, ⟨⟨?_, ?_, ?_, ?_, ?_⟩, ?_⟩, ?_, ?_, ?_⟩
          · rw [hσ 1 (by decide)]; exact hn1
          · rw [hσ 2 (by decide)]; exact hn2
          · rw [v0, tn 1 (by decide)]; exact hn3
          · rw [hσ 2 (by decide)]; exact hp1
          · rw [v0, tn 4 (by decide)]; exact hp2
          · rw [hσ 3 (by decide)]; exact hr1
          · rw [v0, tn 9 (by decide)]; exact hr2
          · rw [h4, f0]; exact hc1
          · rw [v0, tn 11 (by decide)]; exact hc2
          · rw [hσ 5 (by decide)]; exact hj1
          · rw [v0, tn 19 (by decide)]; exact hj2
          · rw [hσ 0 (by decide), v0]; exact n24.symm
          · rw [hσ 1 (by decide), w 1 (by decide) (by decide) (by decide) (by decide) (by decide) (by decide)]; exact e6
          · rw [hσ 1 (by decide), w 2 (by decide) (by decide) (by decide) (by decide) (by decide) (by decide)]; exact e7
          · rw [hσ 2 (by decide), w 3 (by decide) (by decide) (by decide) (by decide) (by decide) (by decide)]; exact e1
          · rw [hσ 2 (by decide), w 4 (by decide) (by decide) (by decide) (by decide) (by decide) (by decide)]; exact e2
          · rw [hσ 2 (by decide), w 5 (by decide) (by decide) (by decide) (by decide) (by decide) (by decide)]; exact e3
          · rw [hσ 2 (by decide), w 6 (by decide) (by decide) (by decide) (by decide) (by decide) (by decide)]; exact e4
          · rw [hσ 3 (by decide), w 7 (by decide) (by decide) (by decide) (by decide) (by decide) (by decide)]; exact e5
          · rw [h4, f1, v8, q8]
          · rw [h4, f2, v9, q9]
          · rw [h4, f4, w 11 (by decide) (by decide) (by decide) (by decide) (by decide) (by decide), q11]
          · rw [h4, f5, v12, q12]
          · rw [h4, f6, w 13 (by decide) (by decide) (by decide) (by decide) (by decide) (by decide), t0 13 (by decide)]; exact a12
          · rw [h4, h7', v14]
          · rw [hσ 5 (by decide), w 15 (by decide) (by decide) (by decide) (by decide) (by decide) (by decide), q15]
          · rw [hσ 5 (by decide), w 16 (by decide) (by decide) (by decide) (by decide) (by decide) (by decide), q16]
          · rw [hσ 5 (by decide), w 17 (by decide) (by decide) (by decide) (by decide) (by decide) (by decide), q17]
          · rw [hσ 5 (by decide), w 18 (by decide) (by decide) (by decide) (by decide) (by decide) (by decide), t0 18 (by decide)]; exact a17
          · rw [hσ 1 (by decide)]; exact i1
          · rw [hσ 2 (by decide)]; exact hpc
          · rw [hσ 2 (by decide)]; exact hcl
          · rw [hσ 2 (by decide)]; exact hD
          · rw [hσ 2 (by decide)]; exact ok
          · intro d hd
            rw [h4, f1]
            by_cases ed : d = c
            · subst ed; exact ⟨e, hen, pk_us⟩
            · rw [pk_un ed]; exact g1 d hd
          · intro d hd
            rw [h4, f2]
            by_cases ed : d = c
            · subst ed; exact Or.inr ⟨k, hkn, pk_us⟩
            · rw [pk_un ed]; exact g2 d hd
          · intro d hd
            rw [h4, f5]
            by_cases ed : d = c
            · subst ed; exact ⟨q - t, by omega, by rw [pk_us, pk_sub (by omega)]⟩
            · rw [pk_un ed]; exact g3 d hd
          · rw [h4, f4, hσ 5 (by decide)]; exact g4
          · rw [h4, f4]; exact g5
          · rw [h4, f2, f3, v10, n24]
            intro d hd
            by_cases ed : d = c
            · subst ed; rw [pk_us, pk_us, pk_us, if_neg (ne_m1 (by omega))]
            · rw [pk_un ed, pk_un ed, pk_un ed, t0 10 (by decide)]; exact i4 d hd
          · rw [hσ 5 (by decide)]; exact i5
          · rw [h4, f6, hσ 5 (by decide)]; exact i6
          · rw [hσ 6 (by decide)]; exact i7
        have tu : ∀ (u : Sg) (x : Int32), (∀ k, k ≠ 19 → u k = τ k) → (mEnt u c k e (τ 0 24) (nI q) (nI t) x) 0 0 = 0 := fun u x hu => (congrFun (hu 0 (by decide)) 0).trans th
        have e14 : σ 4 7 = τ 14 := a13.trans (t0 14 (by decide)).symm
        refine ⟨fun hs => mg10 _ (fun u hu => ⟨fun hs' => ?_, fun hs' => okB (tu u _ hu) (rEnt u (gEnt σ c k e (nI q) (nI t)) _ hu (fun _ _ => rfl) ?_ _ (fun m hm => if_neg hm) rfl) rfl⟩), fun hs => mg10 _ (fun u hu => ⟨fun hs' => okB (tu u _ hu) (rEnt u (sto (gEnt σ c k e (nI q) (nI t)) 7 c (σ 4 7 c + nI t)) _ hu (fun m hm => sto_ne hm) ?_ _ (fun m hm => (if_neg hm).trans (if_neg hm)) rfl) rfl, fun hs' => ?_⟩)⟩
        · rw [q17, hs] at hs'; exact absurd hs' (by decide)
        · show σ 4 7 = upd (τ 14) c (τ 14 c + 0)
          rw [upd_id (by rw [Int32.add_zero])]; exact e14
        · show upd (σ 4 7) c (σ 4 7 c + nI t) = upd (τ 14) c (τ 14 c + nI t)
          rw [e14]
        · rw [q17] at hs'
          rcases est with h | h
          · exact absurd h hs'
          · exact absurd h hs
    have hm : gNm n np nr nc nj σ τ := ⟨⟨hn1, hn2, (tn 1 (by decide)).trans hn3⟩, ⟨hp1, (tn 4 (by decide)).trans hp2⟩, ⟨hr1, (tn 9 (by decide)).trans hr2⟩, ⟨hc1, (tn 11 (by decide)).trans hc2⟩, ⟨hj1, (tn 19 (by decide)).trans hj2⟩, ht.trans (tn 24 (by decide)).symm⟩
    have he' : gEq σ τ := ⟨⟨a1.trans (t0 1 (by decide)).symm, a2.trans (t0 2 (by decide)).symm⟩, ⟨a3.trans (t0 3 (by decide)).symm, a4.trans (t0 4 (by decide)).symm, a5.trans (t0 5 (by decide)).symm, a6.trans (t0 6 (by decide)).symm⟩, a7.trans (t0 7 (by decide)).symm, ⟨q8.symm, q9.symm, q11.symm, q12.symm, a12.trans (t0 13 (by decide)).symm, a13.trans (t0 14 (by decide)).symm⟩, q15.symm, q16.symm, q17.symm, a17.trans (t0 18 (by decide)).symm⟩
    have i4' : gAr nc (σ 4 2) (σ 4 3) (τ 10) := by rw [t0 10 (by decide)]; exact i4
    have nj1 : ¬ nI j = -1 := ne_m1 (by omega)
    rcases est with s1 | s2
    · obtain ⟨g, hg, eg⟩ := i5.1 j hjn
      have ns : ¬ σ 5 3 j = 2 := by rw [s1]; decide
      refine ⟨vi j12, ?_⟩
      rw [ck (k := j) (by omega)]
      refine ⟨fun h => absurd h ns, fun _ => b0 ⟨vi j12, ?_⟩⟩
      rw [eg]
      refine ⟨fun e => ⟨vi j12, ?_⟩, fun e => go g hg (fun h => e (by rw [h])) (fun h => absurd h ns) (fun _ => eg) (fun Q h => m_st hτ hc2 z5 hcn ⟨fun _ => ⟨fun h' => absurd (m11.symm.trans h') nj1, fun _ => ?_⟩, fun h' => absurd (by rw [q9]; exact h1) h'⟩)⟩
      · rw [ck (k := j) (by omega)]
        refine ⟨fun h => absurd h ns, fun _ => b0 ⟨vi j12, ?_⟩⟩
        rw [ck (k := j) (by omega)]
        refine m_st hτ hc2 z5 hcn ⟨fun _ => ⟨fun h' => absurd (m11.symm.trans h') nj1, fun _ => ?_⟩, fun h' => absurd (by rw [q9]; exact h1) h'⟩
        rw [m11, ck (k := j) (by omega)]
        refine ⟨vi j12, fun _ => ⟨fun _ => okB th ?_ rfl, fun h => absurd ?_ h⟩, fun h => absurd (by rw [q17]; exact s1) h⟩
        · refine ⟨n, np, nr, nc, nj, ⟨z1, z2, z3, z4, z5, z6⟩, hm, ⟨he'.1, he'.2.1, he'.2.2.1, he'.2.2.2.1, he'.2.2.2.2.1, he'.2.2.2.2.2.1, ?_, he'.2.2.2.2.2.2.2⟩, i1, ⟨hpc, hcl, D, hD, ok⟩, ⟨⟨g1, g2, g3, ?_, g5⟩, i4'⟩, ?_, ⟨?_, i6.2⟩, i7⟩
          · show upd (σ 5 3) j 2 = upd (τ 17) j 2
            rw [q17]
          · intro d hd
            rcases g4 d hd with h | ⟨j', hj', ej', es'⟩
            · exact Or.inl h
            · refine Or.inr ⟨j', hj', ej', ?_⟩
              show upd (σ 5 3) j 2 j' = 1 ∨ upd (σ 5 3) j 2 j' = 2
              by_cases e' : j' = j
              · subst e'; exact Or.inr pk_us
              · rw [pk_un e']; exact es'
          · exact jb_st i5 hjn (by decide)
          · show sumf (σ 4 6) nc = nI (cnt (upd (σ 5 3) j 2) 3 nj)
            rw [cnt_same (by rw [s1]; decide) (by decide)]; exact i6.1
        · rw [m8, q15, eg, e]
      · rw [m11, ck (k := j) (by omega)]
        refine ⟨vi j12, fun _ => ⟨fun h' => ?_, fun _ => m_go1 j12 c6 (by rw [q17]; exact s1) (by rw [q15]; exact eg) h⟩, fun h' => absurd (by rw [q17]; exact s1) h'⟩
        rw [m8, q15, eg] at h'
        exact absurd h' e
    · obtain ⟨g, hg, eg⟩ := i5.2.1 j hjn
      refine ⟨vi j12, ?_⟩
      rw [ck (k := j) (by omega)]
      refine ⟨fun _ => b1 ⟨vi j12, ?_⟩, fun h => absurd s2 h⟩
      rw [eg]
      refine ⟨fun e => ⟨vi j12, ?_⟩, fun e => go g hg (fun h => e (by rw [h])) (fun _ => eg) (fun h => absurd s2 h) (fun Q h => m_st hτ hc2 z5 hcn ⟨fun _ => ⟨fun h' => absurd (m11.symm.trans h') nj1, fun _ => ?_⟩, fun h' => absurd (by rw [q9]; exact h1) h'⟩)⟩
      · rw [ck (k := j) (by omega)]
        refine ⟨fun _ => b1 ⟨vi j12, vi c6, vi c6, vi c6, ?_⟩, fun h => absurd s2 h⟩
        rw [ck (k := j) (by omega), ck (k := c) (by omega)]
        refine m_st hτ hc2 z5 hcn ⟨fun _ => ⟨fun h' => absurd (m11.symm.trans h') nj1, fun _ => ?_⟩, fun h' => absurd (by rw [q9]; exact h1) h'⟩
        rw [m11, ck (k := j) (by omega)]
        refine ⟨vi j12, fun h => ?_, fun _ => m_end (d := τ 13 c) j12 c6 (by rw [q17]; exact s2) (by rw [q16]; exact eg) (by rw [m8, e]) rfl (okB th ?_ rfl)⟩
        · rw [q17, s2] at h; exact absurd h (by decide)
        · refine ⟨n, np, nr, nc, nj, ⟨z1, z2, z3, z4, z5, z6⟩, hm, ⟨he'.1, he'.2.1, he'.2.2.1, ⟨he'.2.2.2.1.1, he'.2.2.2.1.2.1, ?_, he'.2.2.2.1.2.2.2.1, ?_, he'.2.2.2.1.2.2.2.2.2⟩, he'.2.2.2.2.1, he'.2.2.2.2.2.1, ?_, he'.2.2.2.2.2.2.2⟩, i1, ⟨hpc, hcl, D, hD, ok⟩, ⟨⟨g1, g2, g3, ?_, ?_⟩, i4'⟩, ?_, ⟨?_, ?_⟩, i7⟩
          · show upd (σ 4 4) c (-1) = upd (τ 11) c (-1)
            rw [q11]
          · show upd (σ 4 6) c (σ 4 6 c + 1) = upd (τ 13) c (τ 13 c + 1)
            rw [he'.2.2.2.1.2.2.2.2.1]
          · show upd (σ 5 3) j 3 = upd (τ 17) j 3
            rw [q17]
          · intro d hd
            show upd (σ 4 4) c (-1) d = -1 ∨ ∃ j', j' < nj ∧ upd (σ 4 4) c (-1) d = nI j' ∧ (upd (σ 5 3) j 3 j' = 1 ∨ upd (σ 5 3) j 3 j' = 2)
            by_cases ed : d = c
            · subst ed; exact Or.inl pk_us
            · rw [pk_un ed]
              rcases g4 d hd with h | ⟨j', hj', ej', es'⟩
              · exact Or.inl h
              · refine Or.inr ⟨j', hj', ej', ?_⟩
                have nej : j' ≠ j := by
                  intro h
                  subst h
                  exact ed (g5 d c hd hcn (ej'.trans ej.symm) (by rw [ej']; exact nj1))
                rw [pk_un nej]; exact es'
          · intro d d' hd hd'
            show upd (σ 4 4) c (-1) d = upd (σ 4 4) c (-1) d' → upd (σ 4 4) c (-1) d ≠ -1 → d = d'
            by_cases ed : d = c
            · subst ed; rw [pk_us]; exact fun _ h => absurd rfl h
            · rw [pk_un ed]
              by_cases ed' : d' = c
              · subst ed'; rw [pk_us]; exact fun h h' => absurd h h'
              · rw [pk_un ed']; exact g5 d d' hd hd'
          · exact jb_st i5 hjn (by decide)
          · show sumf (upd (σ 4 6) c (σ 4 6 c + 1)) nc = nI (cnt (upd (σ 5 3) j 3) 3 nj)
            rw [sumf_more nc hcn, cnt_more (by rw [s2]; decide) nj hjn, i6.1, nI_1]
          · intro d hd
            show upd (σ 4 6) c (σ 4 6 c + 1) d = 0
            rw [pk_un (by omega)]; exact i6.2 d hd
      · rw [m11, ck (k := j) (by omega)]
        refine ⟨vi j12, fun h' => ?_, fun _ => m_go2 j12 c6 (by rw [q17]; exact s2) (by rw [q16]; exact eg) (by rw [m8]; exact e) h⟩
        rw [q17, s2] at h'; exact absurd h' (by decide)
  · refine f_has0 hc1 z5 hv (b0 ⟨rfl, m_step ?_⟩)
    exact m_ca0 hc2 z5 hv (b0 (okX hR0 (by decide)))
