/-! count, both -/
theorem ite_br {c A B : Prop} [Decidable c] {x y : Int32} {P : Int32 → Prop} (h : P (if c then x else y)) (k1 : P x → A) (k2 : P y → B) : (c → A) ∧ (¬ c → B) :=
  ⟨fun hc => k1 (by rw [if_pos hc] at h; exact h), fun hc => k2 (by rw [if_neg hc] at h; exact h)⟩
def cval (v a0 a1 a2 a3 a4 a5 a6 a7 : Int32) : Int32 :=
  if v = 0 then a0 else if v = 1 then a1 else if v = 2 then a2 else if v = 3 then a3 else if v = 4 then a4 else if v = 5 then a5 else if v = 6 then a6 else if v = 7 then a7 else -1
theorem r_all8 {σ : SG} {v : Int32} {nc nj : Nat} {Q : Int32 → Prop} (hc : σ 4 0 7 = nI nc) (z5 : nc ≤ 6) (hj : σ 5 0 4 = nI nj) (z6 : nj ≤ 12)
    (h : Q (cval v (σ 1 0 0) (σ 2 0 6) (σ 4 0 7) (σ 5 0 4) (σ 0 0 6) (nI (cnt (σ 5 3) 3 nj)) (nI (cnm (σ 4 2) nc)) (σ 3 0 1))) : q_Face_countInAll v σ Q :=
  ite_br (P := Q) h id (fun h => ite_br (P := Q) h id (fun h => ite_br (P := Q) h id (fun h => ite_br (P := Q) h id (fun h => ite_br (P := Q) h id (fun h => ite_br (P := Q) h (r_ended hj z6) (fun h => ite_br (P := Q) h (r_onp hc z5) (fun h => ite_br (P := Q) h id id)))))))
theorem m_all8 {μ : Sg} {v : Int32} {nc : Nat} {Q : Int32 → Sg → Prop} (hc : μ 0 11 = nI nc) (z5 : nc ≤ 6)
    (h : Q (cval v (μ 0 1) (μ 0 4) (μ 0 11) (μ 0 19) (μ 0 24) (sumf (μ 13) nc) (nI (cnm (μ 9) nc)) (μ 0 9)) μ) : q_Model_count_j Q 3999 1 v 0 0 0 μ :=
  m_cnt hc z5 (ite_br (P := fun r => Q r μ) h id (fun h => ite_br (P := fun r => Q r μ) h id (fun h => ite_br (P := fun r => Q r μ) h id (fun h => ite_br (P := fun r => Q r μ) h id (fun h => ite_br (P := fun r => Q r μ) h id (fun h => ite_br (P := fun r => Q r μ) h id (fun h => ite_br (P := fun r => Q r μ) h id (fun h => ite_br (P := fun r => Q r μ) h id id))))))))
theorem m_count {a : Int32} {μ : Sg} {Q : Int32 → Sg → Prop} (h : q_Model_count_b0 (q_Model_count_j Q 3999) Q a 0 0 0 μ) : q_Model_count a μ Q := h
theorem cval_no {v a0 a1 a2 a3 a4 a5 a6 a7 : Int32} (h : v < 0) : cval v a0 a1 a2 a3 a4 a5 a6 a7 = -1 := by
  unfold cval
  have ne : ∀ k : Int32, ¬ k < 0 → ¬ v = k := fun k hk e => hk (e ▸ h)
  rw [if_neg (ne 0 (by decide)), if_neg (ne 1 (by decide)), if_neg (ne 2 (by decide)), if_neg (ne 3 (by decide)), if_neg (ne 4 (by decide)), if_neg (ne 5 (by decide)), if_neg (ne 6 (by decide)), if_neg (ne 7 (by decide))]
theorem lt_k {w k : Nat} (h : w < k) (hk : k < 2000) : nI w < nI k := nI_lt h (by omega)
theorem nlt_k {w k : Nat} (h : k ≤ w) (hw : w < 2000) : ¬ nI w < nI k := nI_nlt h (by omega)
theorem le_k {w k : Nat} (h : k ≤ w) (hw : w < 2000) : nI k ≤ nI w := nI_le h (by omega)
theorem nle_k {w k : Nat} (h : w < k) (hk : k < 2000) : ¬ nI k ≤ nI w := nI_ge h (by omega)
theorem s_count {a : Int32} {σ : SG} {μ : Sg} (hR : r_R σ μ) : ls_count a σ μ r_R := by
  have hR0 := hR
  obtain ⟨n, np, nr, nc, nj, ⟨z1, z2, z3, z4, z5, z6⟩, ⟨⟨hn1, hn2, hn3⟩, ⟨hp1, hp2⟩, ⟨hr1, hr2⟩, ⟨hc1, hc2⟩, ⟨hj1, hj2⟩, ht⟩, he, hi⟩ := hR
  have ea : σ 4 1 = μ 8 := he.2.2.2.1.1
  have ep : σ 1 1 = μ 1 := he.1.1
  unfold ls_count q_Face_count
  by_cases hv : isIx a 50
  · obtain ⟨w, hw, rfl⟩ := hv
    have q0 : w / 10 = 0 ∨ w / 10 = 1 ∨ w / 10 = 2 ∨ w / 10 = 3 ∨ w / 10 = 4 := by omega
    have em : nI w - nI w / 10 * 10 = nI (w % 10) := by rw [show (10 : Int32) = nI 10 from rfl, pk_rem (by omega) (by decide) (by decide)]
    have m10 : w % 10 < 10 := Nat.mod_lt _ (by decide)
    refine fm_at hw (fd_at hw ?_)
    rcases q0 with e | e | e | e | e
    · rw [e, show w % 10 = w by omega]
      refine ⟨fun _ => ?_, fun h => absurd rfl h⟩
      refine r_all8 hc1 z5 hj1 z6 (m_count ⟨fun _ => ⟨fun _ => m_all8 (μ := sto μ 0 0 0) hc2 z5 ⟨?_, r_thr hR0⟩, fun h => absurd (lt_k (k := 10) (by omega) (by decide)) h⟩, fun h => absurd (lt_k (k := 20) (by omega) (by decide)) h⟩)
      show cval (nI w) (σ 1 0 0) (σ 2 0 6) (σ 4 0 7) (σ 5 0 4) (σ 0 0 6) (nI (cnt (σ 5 3) 3 nj)) (nI (cnm (σ 4 2) nc)) (σ 3 0 1) = cval (nI w) (μ 0 1) (μ 0 4) (μ 0 11) (μ 0 19) (μ 0 24) (sumf (μ 13) nc) (nI (cnm (μ 9) nc)) (μ 0 9)
      rw [hn1, hn3, hp1, hp2, hc1, hc2, hj1, hj2, ht, hr1, hr2, ← he.2.2.2.1.2.1, ← he.2.2.2.1.2.2.2.2.1, hi.2.2.2.2.1.1]
    · rw [e]
      refine ⟨fun h => absurd h (by decide), fun _ => ⟨fun _ => ?_, fun h => absurd rfl h⟩⟩
      have e10 : nI w - 10 = nI (w % 10) := by rw [show (10 : Int32) = nI 10 from rfl, pk_sub (by omega), show w - 10 = w % 10 by omega]
      by_cases hr : w % 10 < nr
      · refine has_y (P := True) hr1 (by omega) hr (b1 ⟨vi (by omega), ?_⟩)
        rw [ck (by omega)]
        refine r_free hn1 z2 hc1 z5 (m_count ⟨fun _ => ⟨fun h => absurd h (nlt_k (k := 10) (by omega) (by omega)), fun _ => ?_⟩, fun h => absurd (lt_k (k := 20) (by omega) (by decide)) h⟩)
        rw [e10]
        refine ⟨fun h => absurd h (le_at hr2 (by omega) hr), fun _ => m_free (μ := sto μ 0 0 0) hn3 z2 hc2 z5 hr z4 ⟨?_, r_thr hR0⟩⟩
        show frs (σ 3 1 (w % 10)) (σ 1 1) (σ 4 1) nc n = frs (μ 7 (w % 10)) (μ 1) (μ 8) nc n
        rw [ea, ep, he.2.2.1]
      · have hno : ¬ isIx (nI (w % 10)) nr := by
          rintro ⟨p, hp, e⟩
          have := (nI_eq (by omega) (by omega)).mp e
          omega
        refine has_n hr1 (by omega) hno (b0 (m_count ⟨fun _ => ⟨fun h => absurd h (nlt_k (k := 10) (by omega) (by omega)), fun _ => ?_⟩, fun h => absurd (lt_k (k := 20) (by omega) (by decide)) h⟩))
        rw [e10]
        refine ⟨fun _ => ⟨rfl, r_thr hR0⟩, fun h => absurd ?_ h⟩
        show μ 0 9 ≤ _
        rw [hr2]; exact nI_le (by omega) (by omega)
    all_goals
      have mo : ∀ {Q : Int32 → Sg → Prop}, q_Model_ofPoint (nI w) (sto μ 0 0 0) (fun r => Q r (sto μ 0 0 0)) → q_Model_count (nI w) μ Q := fun h0 => m_count ⟨fun h => absurd h (nlt_k (k := 20) (by omega) (by omega)), fun _ => ⟨fun h => absurd h (nle_k (k := 50) (by omega) (by decide)), fun _ => h0⟩⟩
    · rw [e]
      refine ⟨fun h => absurd h (by decide), fun _ => ⟨fun h => absurd h (by decide), fun _ => ⟨fun _ => ?_, fun h => absurd rfl h⟩⟩⟩
      by_cases hr : w % 10 < n
      · refine r_has1 hn1 z2 hr (b1 ⟨vi m10, mo ?_⟩)
        unfold q_Model_ofPoint
        rw [em]
        refine m_pt1 (σ := sto μ 0 0 0) hn3 z2 hr (b1 ⟨fun h => absurd h (nle_k (k := 30) (by omega) (by decide)), fun _ => ⟨vi m10, congrFun ep _, r_thr hR0⟩⟩)
      · have hno : ¬ isIx (nI (w % 10)) n := by
          rintro ⟨p, hp, e⟩
          have := (nI_eq (by omega) (by omega)).mp e
          omega
        refine r_has0 hn1 z2 hno (b0 (mo ?_))
        unfold q_Model_ofPoint
        rw [em]
        exact m_pt0 (σ := sto μ 0 0 0) hn3 z2 hno (b0 ⟨rfl, r_thr hR0⟩)
    · rw [e]
      refine ⟨fun h => absurd h (by decide), fun _ => ⟨fun h => absurd h (by decide), fun _ => ⟨fun h => absurd h (by decide), fun _ => ⟨fun _ => ?_, fun h => absurd rfl h⟩⟩⟩⟩
      by_cases hr : w % 10 < n
      · refine r_has1 hn1 z2 hr (b1 (r_boundFor hc1 z5 (mo ?_)))
        unfold q_Model_ofPoint
        rw [em]
        refine m_pt1 (σ := sto μ 0 0 0) hn3 z2 hr (b1 ⟨fun _ => ⟨fun h => absurd h (nle_k (k := 40) (by omega) (by decide)), fun _ => r_standing (σ := sto μ 0 0 0) hc2 z5 ⟨?_, r_thr hR0⟩⟩, fun h => absurd (le_k (k := 30) (by omega) (by omega)) h⟩)
        show nI (cnt (σ 4 1) _ _) = nI (cnt (μ 8) _ _)
        rw [ea]
      · have hno : ¬ isIx (nI (w % 10)) n := by
          rintro ⟨p, hp, e⟩
          have := (nI_eq (by omega) (by omega)).mp e
          omega
        refine r_has0 hn1 z2 hno (b0 (mo ?_))
        unfold q_Model_ofPoint
        rw [em]
        exact m_pt0 (σ := sto μ 0 0 0) hn3 z2 hno (b0 ⟨rfl, r_thr hR0⟩)
    · rw [e]
      refine ⟨fun h => absurd h (by decide), fun _ => ⟨fun h => absurd h (by decide), fun _ => ⟨fun h => absurd h (by decide), fun _ => ⟨fun h => absurd h (by decide), fun _ => ⟨fun _ => ?_, fun h => absurd rfl h⟩⟩⟩⟩⟩
      by_cases hr : w % 10 < n
      · refine r_has1 hn1 z2 hr (b1 ⟨vi m10, nbz (hi.1 _), ?_⟩)
        refine ⟨fun h1 => mo ?_, fun h1 => mo ?_⟩
        · unfold q_Model_ofPoint
          rw [em]
          refine m_pt1 (σ := sto μ 0 0 0) hn3 z2 hr (b1 ⟨fun _ => ⟨fun _ => ⟨vi m10, fun _ => ⟨rfl, r_thr hR0⟩, fun h => absurd ((congrFun he.1.2 _).symm.trans h1) h⟩, fun h => absurd (le_k (k := 40) (by omega) (by omega)) h⟩, fun h => absurd (le_k (k := 30) (by omega) (by omega)) h⟩)
        · unfold q_Model_ofPoint
          rw [em]
          refine m_pt1 (σ := sto μ 0 0 0) hn3 z2 hr (b1 ⟨fun _ => ⟨fun _ => ⟨vi m10, fun h => absurd ((congrFun he.1.2 _).trans h) h1, fun _ => ⟨rfl, r_thr hR0⟩⟩, fun h => absurd (le_k (k := 40) (by omega) (by omega)) h⟩, fun h => absurd (le_k (k := 30) (by omega) (by omega)) h⟩)
      · have hno : ¬ isIx (nI (w % 10)) n := by
          rintro ⟨p, hp, e⟩
          have := (nI_eq (by omega) (by omega)).mp e
          omega
        refine r_has0 hn1 z2 hno (b0 (mo ?_))
        unfold q_Model_ofPoint
        rw [em]
        exact m_pt0 (σ := sto μ 0 0 0) hn3 z2 hno (b0 ⟨rfl, r_thr hR0⟩)
  · have hv' := ix_no (by decide) hv
    refine fm_any (fun r1 => fd_out hv' (fun r2 h2 => ?_))
    have ne : ∀ k : Int32, ¬ k < 0 → ¬ 4 < k → ¬ r2 = k := fun k h3 h4 e => h2.elim (fun h => h3 (e ▸ h)) (fun h => h4 (e ▸ h))
    refine ⟨fun h => absurd h (ne _ (by decide) (by decide)), fun _ => ⟨fun h => absurd h (ne _ (by decide) (by decide)), fun _ => ⟨fun h => absurd h (ne _ (by decide) (by decide)), fun _ => ⟨fun h => absurd h (ne _ (by decide) (by decide)), fun _ => ⟨fun h => absurd h (ne _ (by decide) (by decide)), fun _ => ?_⟩⟩⟩⟩⟩
    refine m_count ?_
    rcases hv' with h | h
    · refine ⟨fun _ => ⟨fun _ => m_all8 (μ := sto μ 0 0 0) hc2 z5 ⟨?_, r_thr hR0⟩, fun h' => absurd (Int32.lt_trans h (by decide)) h'⟩, fun h' => absurd (Int32.lt_trans h (by decide)) h'⟩
      rw [cval_no h]
    · refine ⟨fun h' => absurd (Int32.lt_of_le_of_lt h h') (by decide), fun _ => ⟨fun _ => ⟨rfl, r_thr hR0⟩, fun h' => absurd h h'⟩⟩
