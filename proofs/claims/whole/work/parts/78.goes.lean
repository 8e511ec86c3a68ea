/-! a carrier goes on: both sides' branches -/
def goR (n nr nc q : Nat) (D : Nat → Nat → Nat) (rg pl at_ on ch : Nat → Int32) (p k e t : Nat) (A6 A7 A8 A9 A10 : Prop) : Prop :=
  (tkn on nc (nI k) → A6) ∧ (¬ tkn on nc (nI k) → ((¬ nI (cnt at_ (nI e) nc) < pl e → A7) ∧ (nI (cnt at_ (nI e) nc) < pl e → ((brd rg pl at_ n nr nc p e → A8) ∧ (¬ brd rg pl at_ n nr nc p e → ((t + cm D ch e n ≤ q → A10) ∧ (¬ t + cm D ch e n ≤ q → A9)))))))
def gEnt (σ : SG) (c k e : Nat) (q t : Int32) : Sg := sto (sto (sto (sto (σ 4) 2 c (nI k)) 1 c (nI e)) 3 c (σ 0 0 6 + t)) 5 c (q - t)
theorem r_enter {σ : Sg} {c : Nat} {a b t w q : Int32} {Q : Sg → Prop} (c6 : c < 6) (hq : σ 5 c = q) (h : Q (sto (sto (sto (sto σ 2 c a) 1 c b) 3 c (w + t)) 5 c (q - t))) : q_Fleet_enter (nI c) a b t w σ Q := by
  unfold q_Fleet_enter
  show vp_in (nI c) 6 ∧ vp_in (nI c) 6 ∧ vp_in (nI c) 6 ∧ vp_in (nI c) 6 ∧ vp_in (nI c) 6 ∧ Q (sto (sto (sto (sto σ 2 (nI c).toNatClampNeg a) 1 (nI c).toNatClampNeg b) 3 (nI c).toNatClampNeg (w + t)) 5 (nI c).toNatClampNeg (σ 5 (nI c).toNatClampNeg - t))
  rw [ck (by omega), hq]
  exact ⟨vi c6, vi c6, vi c6, vi c6, vi c6, h⟩
theorem ne_m1 {k : Nat} (h : k < 2000) : ¬ nI k = -1 := fun e => absurd (show nI k < 0 by rw [e]; decide) (nI_pos (by omega))
theorem g_2 {Q : Int32 → SG → Prop} {f : Nat} {a b c d e : Int32} {σ : SG} (h : Q 10 σ) : q_Face_goOn_j Q (f + 1) 2 a b c d e σ := by
  unfold q_Face_goOn_j q_Face_goOn_b2; exact h
theorem g_1 {Q : Int32 → SG → Prop} {f c : Nat} {b x d t : Int32} {σ : SG} (c6 : c < 6) (h : Q 10 (setc σ 4 (sto (σ 4) 7 c (σ 4 7 c + t)))) : q_Face_goOn_j Q (f + 2) 1 (nI c) b x d t σ := by
  unfold q_Face_goOn_j q_Face_goOn_b1 q_Fleet_addEmptyTime
  rw [ck (by omega)]
  exact ⟨vi c6, vi c6, g_2 h⟩
theorem r_goes {σ : SG} {n np nr nc c p g q j : Nat} {D : Nat → Nat → Nat} {Q : Int32 → SG → Prop} (hn1 : σ 1 0 0 = nI n) (z2 : n ≤ 10) (hp1 : σ 2 0 6 = nI np) (z3 : np ≤ 30) (hr1 : σ 3 0 1 = nI nr) (z4 : nr ≤ 4) (hc1 : σ 4 0 7 = nI nc) (z5 : nc ≤ 6)
    (hcn : c < nc) (hpn : p < n) (hg : g < n) (hat : σ 4 1 c = nI p) (hch : σ 4 5 c = nI q) (hq : q ≤ 1000) (j12 : j < 12) (hst : σ 5 3 j = 2 → σ 5 2 j = nI g) (hst' : ¬ σ 5 3 j = 2 → σ 5 1 j = nI g) (hz : gZ1 (σ 1 2))
    (hpc : gPc n np (σ 2 1) (σ 2 2) (σ 2 3)) (hD : ∀ a b, a < n → b < n → σ 2 5 (a * 10 + b) = nI (D a b)) (hF : ∀ a b, a < n → b < n → D a b ≤ 1000000)
    (h5 : isFst (wP n D (σ 2 1) (σ 2 2) (σ 2 3) (σ 2 4) p g) np (-1) → Q 5 σ)
    (hk : ∀ k e t, isFst (wP n D (σ 2 1) (σ 2 2) (σ 2 3) (σ 2 4) p g) np (nI k) → k < np → e < n → 1 ≤ t → t ≤ 100 → σ 2 1 k = nI p → σ 2 2 k = nI e → σ 2 3 k = nI t →
      goR n nr nc q D (σ 3 1) (σ 1 1) (σ 4 1) (σ 4 2) (σ 1 2) p k e t (Q 6 σ) (Q 7 σ) (Q 8 σ) (Q 9 σ) ((σ 5 3 j = 2 → Q 10 (setc σ 4 (gEnt σ c k e (nI q) (nI t)))) ∧ (¬ σ 5 3 j = 2 → Q 10 (setc (setc σ 4 (gEnt σ c k e (nI q) (nI t))) 4 (sto (gEnt σ c k e (nI q) (nI t)) 7 c (σ 4 7 c + nI t)))))) : q_Face_goOn (nI c) (nI j) σ Q := by
  have c6 : c < 6 := by omega
  have goal : ∀ P : Int32 → Prop, P (nI g) → q_Jobs_goalOf (nI j) (σ 5) P := by
    intro P hP
    refine ⟨vi j12, ?_⟩
    rw [ck (k := j) (by omega)]
    refine ⟨fun h => b1 ⟨vi j12, ?_⟩, fun h => b0 ⟨vi j12, ?_⟩⟩
    · rw [hst h]; exact hP
    · rw [hst' h]; exact hP
  show q_Face_goOn_b0 (q_Face_goOn_j Q 3999) Q (nI c) (nI j) 0 0 0 σ
  unfold q_Face_goOn_b0
  refine ⟨vi c6, ?_⟩
  rw [ck (k := c) (by omega), hat]
  refine goal _ (r_first z2 hp1 z3 hpn hg hpc hD hF (fun r hr => ⟨fun e => h5 (e ▸ hr), fun hne => ?_⟩))
  have hr0 := hr
  rcases hr with ⟨h1, _⟩ | ⟨k, hkn, rfl, ⟨k0, k1, e, t, hen, t1, t2, k2, k3, k4⟩, _⟩
  · exact absurd h1 hne
  have k30 : k < 30 := by omega
  obtain ⟨g6, g7⟩ := hk k e t hr0 hkn hen t1 t2 k1 k2 k3
  refine ⟨vi k30, ?_⟩
  rw [ck (k := k) (by omega), k2]
  refine r_taken hc1 z5 (fun h6 => b1 (g6 h6)) (fun h6 => b0 ?_)
  obtain ⟨g7, g8⟩ := g7 h6
  refine r_isFull hc1 z5 z2 hen (fun h7 => b1 (g7 h7)) (fun h7 => b0 ⟨vi k30, ?_⟩)
  obtain ⟨g8, g9⟩ := g8 h7
  rw [ck (k := k) (by omega), k1]
  refine r_fills hn1 z2 hr1 z4 hc1 z5 hpn hen (fun h8 => b1 (g8 h8)) (fun h8 => b0 ⟨vi k30, ⟨vi c6, ?_⟩⟩)
  obtain ⟨g10, g9⟩ := g9 h8
  rw [ck (k := k) (by omega), ck (k := c) (by omega), k3, hch]
  refine r_toch hn1 z2 hen hz hD hF ?_
  have c1 := cm_le (D := D) (ch := σ 1 2) (p := e) n
  rw [nI_add, nI_leI (by omega) (by omega)]
  refine ⟨fun h9 => r_enter c6 hch ⟨vi j12, ?_⟩, g9⟩
  rw [ck (k := j) (by omega)]
  obtain ⟨ga, gb⟩ := g10 h9
  exact ⟨fun hs => b1 (g_2 (ga hs)), fun hs => b0 (g_1 c6 (gb hs))⟩
/-- the reference's state when a carrier has entered -/
def mEnt (u : Sg) (c k e : Nat) (w q t x : Int32) : Sg := sto (sto (sto (sto (sto u 8 c (nI e)) 9 c (nI k)) 10 c (w + t)) 12 c (q - t)) 14 c x
theorem m_ent {τ : Sg} {c k j f : Nat} {v2 v4 t w q x : Int32} {Q : Int32 → Sg → Prop} (c6 : c < 6) (k30 : k < 30) (j12 : j < 12) (hj : τ 11 c = nI j) (ht : τ 5 k = t) (hw : τ 0 24 = w) (hq : τ 12 c = q) (hx : τ 14 c = x)
    (h1 : τ 17 j = 1 → Q 10 (sto (sto (sto (sto τ 9 c (nI k)) 10 c (w + t)) 12 c (q - t)) 14 c (x + t))) (h0 : ¬ τ 17 j = 1 → Q 10 (sto (sto (sto (sto τ 9 c (nI k)) 10 c (w + t)) 12 c (q - t)) 14 c (x + 0))) : q_Model_goesOn_j Q (f + 1) 1 (nI c) v2 (nI k) v4 τ := by
  show vp_in (nI c) 6 ∧ vp_in (nI k) 30 ∧ vp_in (nI c) 6 ∧ vp_in (nI c) 6 ∧ vp_in (nI k) 30 ∧ vp_in (nI c) 6 ∧ vp_in (nI c) 6 ∧ vp_in (nI c) 6 ∧ vp_in (τ 11 (nI c).toNatClampNeg) 12 ∧
    ((τ 17 (τ 11 (nI c).toNatClampNeg).toNatClampNeg = 1 → vp_in (nI k) 30 ∧ vp_in (nI c) 6 ∧ Q 10 (sto (sto (sto (sto τ 9 (nI c).toNatClampNeg (nI k)) 10 (nI c).toNatClampNeg (τ 0 24 + τ 5 (nI k).toNatClampNeg)) 12 (nI c).toNatClampNeg (τ 12 (nI c).toNatClampNeg - τ 5 (nI k).toNatClampNeg)) 14 (nI c).toNatClampNeg (τ 14 (nI c).toNatClampNeg + τ 5 (nI k).toNatClampNeg))) ∧
     (¬ τ 17 (τ 11 (nI c).toNatClampNeg).toNatClampNeg = 1 → vp_in (nI c) 6 ∧ Q 10 (sto (sto (sto (sto τ 9 (nI c).toNatClampNeg (nI k)) 10 (nI c).toNatClampNeg (τ 0 24 + τ 5 (nI k).toNatClampNeg)) 12 (nI c).toNatClampNeg (τ 12 (nI c).toNatClampNeg - τ 5 (nI k).toNatClampNeg)) 14 (nI c).toNatClampNeg (τ 14 (nI c).toNatClampNeg + 0))))
  rw [ck (k := c) (by omega), ck (k := k) (by omega), hj, ck (k := j) (by omega), ht, hw, hq, hx]
  exact ⟨vi c6, vi k30, vi c6, vi c6, vi k30, vi c6, vi c6, vi c6, vi j12, fun h => ⟨vi k30, vi c6, h1 h⟩, fun h => ⟨vi c6, h0 h⟩⟩
theorem m_goes {μ : Sg} {n np nr nc c p g q j : Nat} {D : Nat → Nat → Nat} {Q : Int32 → Sg → Prop} (hn : μ 0 1 = nI n) (z2 : n ≤ 10) (hp : μ 0 4 = nI np) (z3 : np ≤ 30) (hr : μ 0 9 = nI nr) (z4 : nr ≤ 4) (hc : μ 0 11 = nI nc) (z5 : nc ≤ 6)
    (hcn : c < nc) (hpn : p < n) (hg : g < n) (hpg : p ≠ g) (hat : μ 8 c = nI p) (hch : μ 12 c = nI q) (hq : q ≤ 1000) (j12 : j < 12) (hj : μ 11 c = nI j)
    (hpc : gPc n np (μ 3) (μ 4) (μ 5)) (ok : ds_ok n 1000000 (oE n np (μ 3) (μ 4) (μ 5) (μ 6)) D)
    (h5 : ¬ D p g < 1000000 → ∀ u : Sg, (∀ k, k ≠ 19 → u k = μ k) → Q 5 u)
    (hk : D p g < 1000000 → ∀ k e t, isFst (wP n D (μ 3) (μ 4) (μ 5) (μ 6) p g) np (nI k) → k < np → e < n → 1 ≤ t → t ≤ 100 → μ 3 k = nI p → μ 4 k = nI e → μ 5 k = nI t →
      goR n nr nc q D (μ 7) (μ 1) (μ 8) (μ 9) (μ 2) p k e t (∀ u : Sg, (∀ k, k ≠ 19 → u k = μ k) → Q 6 u) (∀ u : Sg, (∀ k, k ≠ 19 → u k = μ k) → Q 7 u) (∀ u : Sg, (∀ k, k ≠ 19 → u k = μ k) → Q 8 u) (∀ u : Sg, (∀ k, k ≠ 19 → u k = μ k) → Q 9 u)
        (∀ u : Sg, (∀ k, k ≠ 19 → u k = μ k) → ((μ 17 j = 1 → Q 10 (mEnt u c k e (μ 0 24) (nI q) (nI t) (μ 14 c + nI t))) ∧ (¬ μ 17 j = 1 → Q 10 (mEnt u c k e (μ 0 24) (nI q) (nI t) (μ 14 c + 0)))))) : q_Model_goesOn (nI c) (nI g) μ Q := by
  have c6 : c < 6 := by omega
  show q_Model_goesOn_b0 (q_Model_goesOn_j Q 3999) Q (nI c) (nI g) 0 0 μ
  unfold q_Model_goesOn_b0
  refine m_times hn z2 hp z3 hg hpc ok (fun u hS hX => ⟨vi c6, ?_⟩)
  have t1' := hS 1 (by decide)
  have t3 := hS 3 (by decide)
  have t4 := hS 4 (by decide)
  have t5 := hS 5 (by decide)
  have t6 := hS 6 (by decide)
  have t7 := hS 7 (by decide)
  have t8 := hS 8 (by decide)
  have t9 := hS 9 (by decide)
  have t0 := hS 0 (by decide)
  have t2' := hS 2 (by decide)
  rw [ck (k := c) (by omega), t8, hat, ck (k := p) (by omega), hX p hpn]
  refine ⟨vi (by omega), ?_⟩
  by_cases hF : D p g < 1000000
  · rw [mFar_y hF]
    refine ⟨fun h => ?_, fun _ => ⟨vi c6, ?_⟩⟩
    · have := (nI_eq (a := D p g) (b := 1000000000) (by omega) (by omega)).mp h
      omega
    refine m_first z2 (by rw [t0]; exact hp) z3 hpn hg (by rw [t3, t4, t5]; exact hpc) (by rw [t3, t4, t5, t6]; exact ok) hX (fun r hr' => ?_)
    rw [t3, t4, t5, t6] at hr'
    obtain ⟨k, e, t, hkn, rfl, k0, hen, t1, t2, k1, k2, k3, k4⟩ := has_first hpn hg ok hF hpg hr'
    have k30 : k < 30 := by omega
    obtain ⟨g6, g7⟩ := hk hF k e t hr' hkn hen t1 t2 k1 k2 k3
    refine m_taken (by rw [t0]; exact hc) z5 (fun h6 => b1 (g6 (t9 ▸ h6) u hS)) (fun h6 => b0 ⟨vi k30, ?_⟩)
    obtain ⟨g7, g8⟩ := g7 (t9 ▸ h6)
    rw [ck (k := k) (by omega), t4, k2]
    refine r_standing (by rw [t0]; exact hc) z5 ⟨vi k30, vi (by omega), ?_⟩
    rw [ck (k := e) (by omega), t8, t1']
    refine ⟨fun h7 => ?_, fun h7 => g7 h7 u hS⟩
    obtain ⟨g8, g9⟩ := g8 h7
    refine m_barred (n := n) (nr := nr) (nc := nc) (b := p) (e := e) (by rw [t0]; exact hn) z2 (by rw [t0]; exact hr) z4 (by rw [t0]; exact hc) z5 hpn hen k30 (by rw [t3]; exact k1) (by rw [t4]; exact k2) (fun h8 => b1 (g8 (by rw [t7, t1', t8] at h8; exact h8) u hS)) (fun h8 => b0 ⟨vi k30, ?_⟩)
    obtain ⟨g10, g9⟩ := g9 (by rw [t7, t1', t8] at h8; exact h8)
    refine m_toch (by rw [t0]; exact hn) z2 (by rw [t0]; exact hp) z3 hen (by rw [t3, t4, t5]; exact hpc) (by rw [t3, t4, t5, t6]; exact ok) (fun u' hS' => ?_)
    have hU : ∀ k, k ≠ 19 → u' k = μ k := fun k hk => (hS' k hk).trans (hS k hk)
    rw [t2']
    have c1 := cm_le (D := D) (ch := μ 2) (p := e) n
    have c2 := mFar_le (cm D (μ 2) e n)
    refine ⟨fun h9 => g9 (fun h10 => ?_) u' hU, fun h9 => ⟨vi c6, vi k30, ?_⟩⟩
    · by_cases hcm : cm D (μ 2) e n < 1000000
      · rw [mFar_y hcm] at h9
        have := (nI_eq (a := cm D (μ 2) e n) (b := 1000000000) (by omega) (by omega)).mp h9
        omega
      · omega
    · have hcm : cm D (μ 2) e n < 1000000 := by
        by_cases hcm : cm D (μ 2) e n < 1000000
        · exact hcm
        · rw [mFar_n hcm] at h9; exact absurd rfl h9
      rw [mFar_y hcm, hU 5 (by decide), hU 12 (by decide), k3, hch, nI_add, nI_leI (by omega) (by omega)]
      refine ⟨fun h10 => ⟨vi k30, vi c6, ?_⟩, fun h10 => g9 h10 u' hU⟩
      obtain ⟨ga, gb⟩ := g10 h10 u' hU
      rw [hU 4 (by decide), k2]
      have s14 : (sto u' 8 c (nI e)) 14 = μ 14 := (sto_ne (by decide)).trans (hU 14 (by decide))
      refine m_ent (t := nI t) (w := μ 0 24) (q := nI q) (x := μ 14 c) (j := j) c6 k30 j12 ?_ ?_ ?_ ?_ ?_ (fun hs => ga ?_) (fun hs => gb (fun h' => hs ?_))
      · rw [sto_ne (by decide), hU 11 (by decide)]; exact hj
      · rw [sto_ne (by decide), hU 5 (by decide)]; exact k3
      · rw [sto_ne (by decide), hU 0 (by decide)]
      · rw [sto_ne (by decide), hU 12 (by decide)]; exact hch
      · rw [s14]
      · rw [sto_ne (by decide), hU 17 (by decide)] at hs; exact hs
      · rw [sto_ne (by decide), hU 17 (by decide)]; exact h'
  · rw [mFar_n hF]
    exact ⟨fun _ => h5 hF u hS, fun h => absurd rfl h⟩
