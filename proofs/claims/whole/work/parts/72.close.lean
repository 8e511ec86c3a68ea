/-! close, piece -/
theorem oE_reopen {n np p u v t : Nat} {bg en tm cl : Nat → Int32} (hp : p < np) (hu : u < n) (hv : v < n) (h1 : 1 ≤ t) (ht : t ≤ 100) (z : n ≤ 10) (e1 : bg p = nI u) (e2 : en p = nI v) (e3 : tm p = nI t) (a c w : Nat) :
    oE n np bg en tm (upd cl p 0) a c w ↔ (oE n np bg en tm cl a c w ∨ (a = u ∧ c = v ∧ w = t)) := by
  constructor
  · rintro ⟨ha, hc, hw, hw', k, hk, k0, k1, k2, k3⟩
    by_cases hki : k = p
    · subst hki
      refine Or.inr ⟨?_, ?_, ?_⟩
      · exact (nI_eq (by omega) (by omega)).mp (k1.symm.trans e1)
      · exact (nI_eq (by omega) (by omega)).mp (k2.symm.trans e2)
      · exact (nI_eq (by omega) (by omega)).mp (k3.symm.trans e3)
    · rw [pk_un hki] at k0
      exact Or.inl ⟨ha, hc, hw, hw', k, hk, k0, k1, k2, k3⟩
  · rintro (⟨ha, hc, hw, hw', k, hk, k0, kk⟩ | ⟨rfl, rfl, rfl⟩)
    · refine ⟨ha, hc, hw, hw', k, hk, ?_, kk⟩
      by_cases hki : k = p
      · subst hki; exact pk_us
      · rw [pk_un hki]; exact k0
    · exact ⟨hu, hv, h1, ht, p, hp, pk_us, e1, e2, e3⟩
theorem cl_upd {np p : Nat} {cl : Nat → Int32} {z : Int32} (h : gCl np cl) (hp : p < np) (hz : z = 0 ∨ z = 1) : gCl np (upd cl p z) :=
  ⟨z1_upd h.1 hz, fun k hk => by rw [pk_un (by omega)]; exact h.2 k hk⟩
theorem m_close1 {μ : Sg} {np p : Nat} {z : Int32} {Q : Int32 → Sg → Prop} (hp2 : μ 0 4 = nI np) (z3 : np ≤ 30) (hp : p < np) (hz : z = 0 ∨ z = 1) (h1 : μ 6 p = z → Q 0 (sto μ 0 0 0)) (h2 : ¬ μ 6 p = z → Q 1 (sto (sto μ 0 0 0) 6 p z)) : q_Model_close (nI p) z μ Q := by
  unfold q_Model_close
  refine has_y (P := True) hp2 (by omega) hp ⟨vi (by omega), ?_⟩
  rw [ck (by omega), vnz hz]
  exact ⟨fun h => h1 h, fun h => ⟨vi (by omega), h2 h⟩⟩
theorem s_close {a b : Int32} {σ : SG} {μ : Sg} (hR : r_R σ μ) : ls_close a b σ μ r_R := by
  have hR0 := hR
  obtain ⟨n, np, nr, nc, nj, ⟨z1, z2, z3, z4, z5, z6⟩, ⟨⟨hn1, hn2, hn3⟩, ⟨hp1, hp2⟩, hr, hc, hj, ht⟩, he, hi⟩ := hR
  unfold ls_close q_Face_close
  have hz := zz b
  generalize (if b = 0 then (0 : Int32) else 1) = z at hz ⊢
  have e6 : σ 2 4 = μ 6 := he.2.1.2.2.2
  by_cases hv : isIx a np
  · obtain ⟨p, hpn, rfl⟩ := hv
    refine has_y (P := True) hp1 (by omega) hpn (b1 ⟨vi (by omega), nbz (hi.2.1.2.1.1 _), ?_⟩)
    rw [ck (by omega)]
    refine ⟨fun h1 => m_close1 hp2 z3 hpn hz (fun _ => ⟨rfl, r_thr hR0⟩) (fun h => absurd (by rw [← e6]; exact h1) h), fun h1 => ⟨vi (by omega), ?_⟩⟩
    rw [ck (by omega), vnz hz]
    obtain ⟨u, v, t, hu, hv, t1, t2, e1, e2, e3⟩ := hi.2.1.1 p hpn
    have fin : ∀ τ : Sg, (∀ k, k ≠ 5 → τ k = (sto (σ 2) 4 p z) k) → gLt n np (σ 2 1) (σ 2 2) (σ 2 3) (upd (σ 2 4) p z) (τ 5) → q_Model_close (nI p) z μ (fun r v => 1 = r ∧ r_R (setc σ 2 τ) v) := by
      intro τ hS hL
      refine m_close1 hp2 z3 hpn hz (fun h => absurd (by rw [e6]; exact h) h1) (fun _ => ⟨rfl, ?_⟩)
      have f1 : τ 1 = σ 2 1 := hS 1 (by decide)
      have f2 : τ 2 = σ 2 2 := hS 2 (by decide)
      have f3 : τ 3 = σ 2 3 := hS 3 (by decide)
      have f4 : τ 4 = upd (σ 2 4) p z := hS 4 (by decide)
      refine ⟨n, np, nr, nc, nj, ⟨z1, z2, z3, z4, z5, z6⟩, ⟨⟨hn1, (congrFun (hS 0 (by decide)) 0).trans hn2, hn3⟩, ⟨(congrFun (hS 0 (by decide)) 6).trans hp1, hp2⟩, hr, hc, hj, ht⟩, ⟨he.1, ⟨f1.trans he.2.1.1, f2.trans he.2.1.2.1, f3.trans he.2.1.2.2.1, ?_⟩, he.2.2⟩, hi.1, ⟨?_, ?_, ?_⟩, hi.2.2⟩
      · show τ 4 = upd (μ 6) p z
        rw [f4, e6]
      · show gPc n np (τ 1) (τ 2) (τ 3)
        rw [f1, f2, f3]; exact hi.2.1.1
      · show gCl np (τ 4)
        rw [f4]; exact cl_upd hi.2.1.2.1 hpn hz
      · show gLt n np (τ 1) (τ 2) (τ 3) (τ 4) (τ 5)
        rw [f1, f2, f3, f4]; exact hL
    refine ⟨fun h2 => ?_, fun h2 => ?_⟩
    · subst h2
      exact g_short (u := u) (v := v) (t := t) (E := oE n np (σ 2 1) (σ 2 2) (σ 2 3) (σ 2 4)) (E' := oE n np (σ 2 1) (σ 2 2) (σ 2 3) (upd (σ 2 4) p 0)) hn2 z2 (by omega) e1 e2 e3 hu hv t1 t2 oE_E (oE_reopen hpn hu hv t1 t2 z2 e1 e2 e3) hi.2.1.2.2 fin
    · exact g_measure (σ := sto (σ 2) 4 p z) hn2 z2 hp1 z3 hi.2.1.1 fin
  · exact has_n hp1 (by omega) hv (b0 (has_n (m := (sto μ 0 0 0) 0 4) hp2 (by omega) hv ⟨rfl, r_thr hR0⟩))
theorem r_padd {σ : Sg} {np : Nat} {a b t : Int32} {Q : Int32 → Sg → Prop} (hp : σ 0 6 = nI np) (h : np < 30)
    (hq : q_Roads_shortenBy (nI np) (sto (sto (sto (sto σ 1 np a) 2 np b) 3 np t) 0 6 (nI (np + 1))) (fun u1 => Q (nI np) u1)) : q_Roads_add a b t σ Q := by
  unfold q_Roads_add
  show vp_in (σ 0 6) 30 ∧ vp_in (σ 0 6) 30 ∧ vp_in (σ 0 6) 30 ∧ q_Roads_shortenBy (σ 0 6) (sto (sto (sto (sto σ 1 (σ 0 6).toNatClampNeg a) 2 (σ 0 6).toNatClampNeg b) 3 (σ 0 6).toNatClampNeg t) 0 6 (σ 0 6 + 1)) (fun u1 => Q (σ 0 6) u1)
  rw [hp, ck (by omega), nI_1]
  exact ⟨vi h, vi h, vi h, hq⟩
theorem m_piece {a b t : Int32} {μ : Sg} {Q : Int32 → Sg → Prop} (h : q_Model_piece_b0 (q_Model_piece_j Q 3999) Q a b t μ) : q_Model_piece a b t μ Q := h
theorem m_pc1 {μ : Sg} {n np : Nat} {a b t : Int32} {Q : Int32 → Sg → Prop} (hn : μ 0 1 = nI n) (z : n ≤ 10) (hab : isTwo a b n) (t1 : ¬ t < 1) (t2 : ¬ 100 < t) (hp : μ 0 4 = nI np) (h : np < 30) (hq : Q (nI np) (sto (sto (sto (sto (sto μ 0 0 0) 3 np a) 4 np b) 5 np t) 0 4 (nI (np + 1)))) : q_Model_piece a b t μ Q := by
  refine m_piece (m_two hn z (fun _ => m_in1 t1 t2 (b1 ⟨fun h5 => ?_, fun _ => ?_⟩)) (fun h => absurd hab h))
  · rw [hp] at h5
    have := (nI_eq (a := np) (b := 30) (by omega) (by omega)).mp h5
    omega
  · show vp_in (μ 0 4) 30 ∧ vp_in (μ 0 4) 30 ∧ vp_in (μ 0 4) 30 ∧ Q (μ 0 4 + 1 - 1) (sto (sto (sto (sto (sto μ 0 0 0) 3 (μ 0 4).toNatClampNeg a) 4 (μ 0 4).toNatClampNeg b) 5 (μ 0 4).toNatClampNeg t) 0 4 (μ 0 4 + 1))
    rw [hp, ck (by omega), nI_1, nI_pred]
    exact ⟨vi h, vi h, vi h, hq⟩
theorem oE_new {n np u v t : Nat} {bg en tm cl : Nat → Int32} (hu : u < n) (hv : v < n) (h1 : 1 ≤ t) (ht : t ≤ 100) (z : n ≤ 10) (e0 : cl np = 0) (a c w : Nat) :
    oE n (np + 1) (upd bg np (nI u)) (upd en np (nI v)) (upd tm np (nI t)) cl a c w ↔ (oE n np bg en tm cl a c w ∨ (a = u ∧ c = v ∧ w = t)) := by
  rw [oE_open hu hv h1 ht z e0 pk_us pk_us pk_us]
  have : oE n np (upd bg np (nI u)) (upd en np (nI v)) (upd tm np (nI t)) cl a c w ↔ oE n np bg en tm cl a c w := by
    constructor
    · rintro ⟨ha, hc, hw, hw', k, hk, k0, k1, k2, k3⟩
      rw [pk_un (by omega)] at k1 k2 k3
      exact ⟨ha, hc, hw, hw', k, hk, k0, k1, k2, k3⟩
    · rintro ⟨ha, hc, hw, hw', k, hk, k0, k1, k2, k3⟩
      exact ⟨ha, hc, hw, hw', k, hk, k0, by rw [pk_un (by omega)]; exact k1, by rw [pk_un (by omega)]; exact k2, by rw [pk_un (by omega)]; exact k3⟩
  rw [this]
theorem s_piece {a b t : Int32} {σ : SG} {μ : Sg} (hR : r_R σ μ) : ls_piece a b t σ μ r_R := by
  have hR0 := hR
  obtain ⟨n, np, nr, nc, nj, ⟨z1, z2, z3, z4, z5, z6⟩, ⟨⟨hn1, hn2, hn3⟩, ⟨hp1, hp2⟩, hr, hc, hj, ht⟩, he, hi⟩ := hR
  intro f
  unfold q_Law_piece q_Face_piece q_Roads_size
  by_cases hab : isTwo a b n
  · refine r_two1 hn1 z2 hab (b1 ⟨fun h1 => Or.inl ⟨rfl, m_piece (m_two hn3 z2 (fun _ => m_in0 (Or.inl h1) (b0 (okX hR0 (by decide)))) (fun h => absurd hab h))⟩, fun h1 => ⟨fun h2 => ?_, fun h2 => Or.inl ⟨rfl, m_piece (m_two hn3 z2 (fun _ => m_in0 (Or.inr (Int32.not_le.mp h2)) (b0 (okX hR0 (by decide)))) (fun h => absurd hab h))⟩⟩⟩)
    have h2' : ¬ 100 < t := fun h => Int32.not_le.mpr h h2
    rw [hp1]
    refine ⟨fun h3 => ?_, fun h3 => Or.inr ⟨rfl, m_piece (m_two hn3 z2 (fun _ => m_in1 h1 h2' (b1 ⟨fun _ => okX hR0 (by decide), fun h => absurd ?_ h⟩)) (fun h => absurd hab h))⟩⟩
    · have h4 : np < 30 := (nI_ltI (a := np) (b := 30) (by omega) (by omega)).mp h3
      refine r_padd hp1 h4 ?_
      have hab0 := hab
      obtain ⟨⟨u, hu, rfl⟩, ⟨v, hv, rfl⟩, hne⟩ := hab0
      obtain ⟨w, hw2, rfl⟩ := nI_of2 (M := 100) (n := 100) rfl (fun h => h1 (Int32.lt_trans h (by decide))) h2
      have hw1 : 1 ≤ w := by
        rcases Nat.lt_or_ge w 1 with h | h
        · exact absurd (nI_lt (a := w) (b := 1) h (by omega)) h1
        · exact h
      refine g_short (u := u) (v := v) (t := w) (E := oE n np (σ 2 1) (σ 2 2) (σ 2 3) (σ 2 4)) (E' := oE n (np + 1) (upd (σ 2 1) np (nI u)) (upd (σ 2 2) np (nI v)) (upd (σ 2 3) np (nI w)) (σ 2 4)) hn2 z2 h4 pk_us pk_us pk_us hu hv hw1 hw2 oE_E (oE_new hu hv hw1 hw2 z2 (hi.2.1.2.1.2 np (Nat.le_refl _))) hi.2.1.2.2 (fun τ hS hL => ?_)
      refine m_pc1 hn3 z2 hab h1 h2' hp2 h4 (okB rfl ?_ rfl)
      have f1 : τ 1 = upd (σ 2 1) np (nI u) := hS 1 (by decide)
      have f2 : τ 2 = upd (σ 2 2) np (nI v) := hS 2 (by decide)
      have f3 : τ 3 = upd (σ 2 3) np (nI w) := hS 3 (by decide)
      have f4 : τ 4 = σ 2 4 := hS 4 (by decide)
      refine ⟨n, np + 1, nr, nc, nj, ⟨z1, z2, by omega, z4, z5, z6⟩, ⟨⟨hn1, (congrFun (hS 0 (by decide)) 0).trans hn2, hn3⟩, ⟨(congrFun (hS 0 (by decide)) 6).trans rfl, rfl⟩, hr, hc, hj, ht⟩, ⟨he.1, ⟨f1.trans ?_, f2.trans ?_, f3.trans ?_, f4.trans he.2.1.2.2.2⟩, he.2.2⟩, hi.1, ⟨?_, ?_, ?_⟩, ⟨?_, hi.2.2.1.2⟩, hi.2.2.2⟩
      · show upd (σ 2 1) np _ = upd (μ 3) np _
        rw [he.2.1.1]
      · show upd (σ 2 2) np _ = upd (μ 4) np _
        rw [he.2.1.2.1]
      · show upd (σ 2 3) np _ = upd (μ 5) np _
        rw [he.2.1.2.2.1]
      · show gPc n (np + 1) (τ 1) (τ 2) (τ 3)
        rw [f1, f2, f3]
        intro k hk
        by_cases e : k = np
        · subst e; exact ⟨u, v, w, hu, hv, hw1, hw2, pk_us, pk_us, pk_us⟩
        · rw [pk_un e, pk_un e, pk_un e]; exact hi.2.1.1 k (by omega)
      · show gCl (np + 1) (τ 4)
        rw [f4]
        exact ⟨hi.2.1.2.1.1, fun k hk => hi.2.1.2.1.2 k (by omega)⟩
      · show gLt n (np + 1) (τ 1) (τ 2) (τ 3) (τ 4) (τ 5)
        rw [f1, f2, f3, f4]; exact hL
      · obtain ⟨g1, g2, g3⟩ := hi.2.2.1.1
        refine ⟨g1, fun c hc => ?_, g3⟩
        rcases g2 c hc with h | ⟨k, hk, e⟩
        · exact Or.inl h
        · exact Or.inr ⟨k, by omega, e⟩
    · have h4 : ¬ np < 30 := fun h => h3 (nI_lt (b := 30) h (by omega))
      rw [hp2, show np = 30 by omega]; rfl
  · exact r_two0 hn1 z2 hab (b0 (Or.inl ⟨rfl, m_piece (m_two hn3 z2 (fun h => absurd h hab) (fun _ => okX hR0 (by decide)))⟩))
