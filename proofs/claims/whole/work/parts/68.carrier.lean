/-! carrier -/
theorem r_isFull {σ : SG} {n nc p : Nat} {Q : Int32 → Prop} (hc : σ 4 0 7 = nI nc) (z5 : nc ≤ 6) (z2 : n ≤ 10) (hp : p < n) (h1 : ¬ nI (cnt (σ 4 1) (nI p) nc) < σ 1 1 p → Q 1) (h0 : nI (cnt (σ 4 1) (nI p) nc) < σ 1 1 p → Q 0) : q_Face_isFull (nI p) σ Q := by
  unfold q_Face_isFull q_Points_placesOf
  refine r_boundFor hc z5 ⟨vi (by omega), ?_⟩
  rw [ck (by omega)]
  exact ⟨h0, h1⟩
theorem r_fadd {σ : Sg} {nc : Nat} {a b : Int32} {Q : Int32 → Sg → Prop} (hc : σ 0 7 = nI nc) (h : nc < 6) (hq : Q (nI nc) (sto (sto (sto (sto (sto (sto σ 1 nc a) 2 nc (-1)) 3 nc (-1)) 4 nc (-1)) 5 nc b) 0 7 (nI (nc + 1)))) : q_Fleet_add a b σ Q := by
  unfold q_Fleet_add
  show vp_in (σ 0 7) 6 ∧ vp_in (σ 0 7) 6 ∧ vp_in (σ 0 7) 6 ∧ vp_in (σ 0 7) 6 ∧ vp_in (σ 0 7) 6 ∧ Q (σ 0 7) (sto (sto (sto (sto (sto (sto σ 1 (σ 0 7).toNatClampNeg a) 2 (σ 0 7).toNatClampNeg (-1)) 3 (σ 0 7).toNatClampNeg (-1)) 4 (σ 0 7).toNatClampNeg (-1)) 5 (σ 0 7).toNatClampNeg b) 0 7 (σ 0 7 + 1))
  rw [hc, ck (by omega), nI_1]
  exact ⟨vi h, vi h, vi h, vi h, vi h, hq⟩
theorem m_carrier {a b : Int32} {μ : Sg} {Q : Int32 → Sg → Prop} (h : q_Model_carrier_b0 (q_Model_carrier_j Q 3999) Q a b μ) : q_Model_carrier a b μ Q := h
theorem m_car1 {μ : Sg} {n nc p : Nat} {b : Int32} {Q : Int32 → Sg → Prop} (hn : μ 0 1 = nI n) (z : n ≤ 10) (hp : p < n) (b0' : ¬ b < 0) (b1' : ¬ 1000 < b) (hc : μ 0 11 = nI nc) (h : nc < 6)
    (hy : nI (cnt (μ 8) (nI p) nc) < μ 1 p → Q (nI nc) (sto (sto (sto (sto (sto (sto μ 0 0 0) 8 nc (nI p)) 9 nc (-1)) 11 nc (-1)) 12 nc b) 0 11 (nI (nc + 1))))
    (hn' : ¬ nI (cnt (μ 8) (nI p) nc) < μ 1 p → Q (-1) (sto μ 0 0 0)) : q_Model_carrier (nI p) b μ Q := by
  refine m_carrier (m_pt1 hn z hp (b1 (m_in1 b0' b1' (b1 ⟨fun h5 => ?_, fun _ => ?_⟩))))
  · rw [hc] at h5
    have := (nI_eq (a := nc) (b := 6) (by omega) (by omega)).mp h5
    omega
  · refine r_standing (σ := sto μ 0 0 0) hc (by omega) ⟨vi (by omega), ?_⟩
    rw [ck (by omega)]
    refine ⟨fun h1 => ?_, fun h1 => hn' h1⟩
    show vp_in (μ 0 11) 6 ∧ vp_in (μ 0 11) 6 ∧ vp_in (μ 0 11) 6 ∧ vp_in (μ 0 11) 6 ∧ Q (μ 0 11 + 1 - 1) (sto (sto (sto (sto (sto (sto μ 0 0 0) 8 (μ 0 11).toNatClampNeg (nI p)) 9 (μ 0 11).toNatClampNeg (-1)) 11 (μ 0 11).toNatClampNeg (-1)) 12 (μ 0 11).toNatClampNeg b) 0 11 (μ 0 11 + 1))
    rw [hc, ck (by omega), nI_1, nI_pred]
    exact ⟨vi h, vi h, vi h, vi h, hy h1⟩
theorem lt_upd {f : Nat → Int32} {n : Nat} {v : Int32} {P : Nat → Int32 → Prop} (hf : ∀ c, c < n → P c (f c)) (hv : P n v) : ∀ c, c < n + 1 → P c (upd f n v c) := by
  intro c hc
  by_cases e : c = n
  · subst e; rw [pk_us]; exact hv
  · rw [pk_un e]; exact hf c (by omega)
theorem fl_add {n np nc nj p q : Nat} {fa fo fh fc st : Nat → Int32} (h : gFl n np nc nj fa fo fh fc st) (hp : p < n) (hq : q ≤ 1000) : gFl n np (nc + 1) nj (upd fa nc (nI p)) (upd fo nc (-1)) (upd fh nc (-1)) (upd fc nc (nI q)) st := by
  obtain ⟨g1, g2, g3, g4, g5⟩ := h
  refine ⟨lt_upd (P := fun _ x => ∃ p, p < n ∧ x = nI p) g1 ⟨p, hp, rfl⟩, lt_upd (P := fun _ x => x = -1 ∨ ∃ k, k < np ∧ x = nI k) g2 (Or.inl rfl), lt_upd (P := fun _ x => ∃ q, q ≤ 1000 ∧ x = nI q) g3 ⟨q, hq, rfl⟩, lt_upd (P := fun _ x => x = -1 ∨ ∃ j, j < nj ∧ x = nI j ∧ (st j = 1 ∨ st j = 2)) g4 (Or.inl rfl), ?_⟩
  intro c d hc hd e hne
  by_cases ec : c = nc
  · subst ec; rw [pk_us] at hne; exact absurd rfl hne
  · rw [pk_un ec] at e hne
    by_cases ed : d = nc
    · subst ed; rw [pk_us] at e; exact absurd e hne
    · rw [pk_un ed] at e
      exact g5 c d (by omega) (by omega) e hne
theorem s_carrier {a b : Int32} {σ : SG} {μ : Sg} (hR : r_R σ μ) : ls_carrier a b σ μ r_R := by
  have hR0 := hR
  obtain ⟨n, np, nr, nc, nj, ⟨z1, z2, z3, z4, z5, z6⟩, ⟨⟨hn1, hn2, hn3⟩, hp, hr, ⟨hc1, hc2⟩, hj, ht⟩, he, hi⟩ := hR
  intro f
  unfold q_Law_carrier q_Face_carrier q_Fleet_size
  by_cases hv : isIx a n
  · obtain ⟨p, hpn, rfl⟩ := hv
    refine r_has1 hn1 z2 hpn (b1 ⟨fun h1 => Or.inl ⟨rfl, m_carrier (m_pt1 hn3 z2 hpn (b1 (m_in0 (Or.inl h1) (b0 (okX hR0 (by decide))))))⟩, fun h1 => ⟨fun h2 => ?_, fun h2 => Or.inl ⟨rfl, m_carrier (m_pt1 hn3 z2 hpn (b1 (m_in0 (Or.inr (Int32.not_le.mp h2)) (b0 (okX hR0 (by decide))))))⟩⟩⟩)
    have h2' : ¬ 1000 < b := fun h => Int32.not_le.mpr h h2
    rw [hc1]
    refine ⟨fun h3 => ?_, fun h3 => Or.inr ⟨rfl, m_carrier (m_pt1 hn3 z2 hpn (b1 (m_in1 h1 h2' (b1 ⟨fun _ => okX hR0 (by decide), fun h => absurd ?_ h⟩))))⟩⟩
    · have h4 : nc < 6 := (nI_ltI (a := nc) (b := 6) (by omega) (by omega)).mp h3
      have ea : σ 4 1 = μ 8 := he.2.2.2.1.1
      have ep : σ 1 1 = μ 1 := he.1.1
      refine r_isFull hc1 z5 z2 hpn (fun h5 => b1 ?_) (fun h5 => b0 ?_)
      · refine m_car1 hn3 z2 hpn h1 h2' hc2 h4 (fun h6 => absurd ?_ h5) (fun _ => okB rfl (r_thr hR0) rfl)
        rw [ea, ep]; exact h6
      · refine r_fadd hc1 h4 (m_car1 hn3 z2 hpn h1 h2' hc2 h4 (fun _ => okB rfl ?_ rfl) (fun h6 => absurd ?_ h6))
        · obtain ⟨q, hq, rfl⟩ := nI_of2 (M := 1000) (n := 1000) rfl h1 h2
          refine ⟨n, np, nr, nc + 1, nj, ⟨z1, z2, z3, z4, by omega, z6⟩, ⟨⟨hn1, hn2, hn3⟩, hp, hr, ⟨rfl, rfl⟩, hj, ht⟩, ⟨he.1, he.2.1, he.2.2.1, ⟨?_, ?_, ?_, ?_, he.2.2.2.1.2.2.2.2⟩, he.2.2.2.2⟩, hi.1, hi.2.1, ⟨?_, ?_⟩, hi.2.2.2.1, ?_, hi.2.2.2.2.2⟩
          · show upd (σ 4 1) nc (nI p) = upd (μ 8) nc (nI p)
            rw [ea]
          · show upd (σ 4 2) nc (-1) = upd (μ 9) nc (-1)
            rw [he.2.2.2.1.2.1]
          · show upd (σ 4 4) nc (-1) = upd (μ 11) nc (-1)
            rw [he.2.2.2.1.2.2.1]
          · show upd (σ 4 5) nc (nI q) = upd (μ 12) nc (nI q)
            rw [he.2.2.2.1.2.2.2.1]
          · exact fl_add hi.2.2.1.1 hpn hq
          · show gAr (nc + 1) (upd (σ 4 2) nc (-1)) (upd (σ 4 3) nc (-1)) (μ 10)
            intro c hc
            by_cases e : c = nc
            · subst e; rw [pk_us, pk_us, if_pos rfl]
            · rw [pk_un e, pk_un e]; exact hi.2.2.1.2 c (by omega)
          · show gDn (nc + 1) nj (σ 4 6) (σ 5 3)
            refine ⟨?_, fun c hc => hi.2.2.2.2.1.2 c (by omega)⟩
            show sumf (σ 4 6) nc + σ 4 6 nc = _
            rw [hi.2.2.2.2.1.2 nc (Nat.le_refl _), Int32.add_zero]
            exact hi.2.2.2.2.1.1
        · rw [← ea, ← ep]; exact h5
    · have h4 : ¬ nc < 6 := fun h => h3 (nI_lt (b := 6) h (by omega))
      rw [hc2, show nc = 6 by omega]; rfl
  · exact r_has0 hn1 z2 hv (b0 (Or.inl ⟨rfl, m_carrier (m_pt0 hn3 z2 hv (b0 (okX hR0 (by decide))))⟩))
