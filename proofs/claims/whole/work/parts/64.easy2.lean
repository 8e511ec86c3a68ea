/-! charger, look, of, charge -/
theorem z1_upd {f : Nat → Int32} {k : Nat} {v : Int32} (h : gZ1 f) (hv : v = 0 ∨ v = 1) : gZ1 (upd f k v) := by
  intro j
  by_cases hj : j = k
  · subst hj; rw [pk_us]; exact hv
  · rw [pk_un hj]; exact h j
theorem zz (b : Int32) : (if b = 0 then (0 : Int32) else 1) = 0 ∨ (if b = 0 then (0 : Int32) else 1) = 1 := by by_cases h : b = 0 <;> simp [h]
theorem out6 {v : Int32} (h0 : ¬ v = 0) (h1 : ¬ v = 1) (h2 : ¬ v = 2) (h3 : ¬ v = 3) (h4 : ¬ v = 4) (h5 : ¬ v = 5) (h6 : ¬ v = 6) : v < 0 ∨ 6 < v := by
  have e0 := lv_neT h0 (a := 0) (by decide); have e1 := lv_neT h1 (a := 1) (by decide); have e2 := lv_neT h2 (a := 2) (by decide); have e3 := lv_neT h3 (a := 3) (by decide)
  have e4 := lv_neT h4 (a := 4) (by decide); have e5 := lv_neT h5 (a := 5) (by decide); have e6 := lv_neT h6 (a := 6) (by decide)
  rw [Int32.lt_iff_toInt_lt, Int32.lt_iff_toInt_lt, show (0 : Int32).toInt = 0 from rfl, show (6 : Int32).toInt = 6 from rfl]
  omega
theorem out3 {v : Int32} (h0 : ¬ v = 0) (h1 : ¬ v = 1) (h2 : ¬ v = 2) (h3 : ¬ v = 3) : v < 0 ∨ 3 < v := by
  have e0 := lv_neT h0 (a := 0) (by decide); have e1 := lv_neT h1 (a := 1) (by decide); have e2 := lv_neT h2 (a := 2) (by decide); have e3 := lv_neT h3 (a := 3) (by decide)
  rw [Int32.lt_iff_toInt_lt, Int32.lt_iff_toInt_lt, show (0 : Int32).toInt = 0 from rfl, show (3 : Int32).toInt = 3 from rfl]
  omega
theorem out2 {v : Int32} (h0 : ¬ v = 0) (h1 : ¬ v = 1) (h2 : ¬ v = 2) : v < 0 ∨ 2 < v := by
  have e0 := lv_neT h0 (a := 0) (by decide); have e1 := lv_neT h1 (a := 1) (by decide); have e2 := lv_neT h2 (a := 2) (by decide)
  rw [Int32.lt_iff_toInt_lt, Int32.lt_iff_toInt_lt, show (0 : Int32).toInt = 0 from rfl, show (2 : Int32).toInt = 2 from rfl]
  omega
theorem s_charger {a b : Int32} {σ : SG} {μ : Sg} (hR : r_R σ μ) : ls_charger a b σ μ r_R := by
  have hR0 := hR
  obtain ⟨n, np, nr, nc, nj, ⟨z1, z2, z3, z4, z5, z6⟩, ⟨⟨hn1, hn2, hn3⟩, hm⟩, he, hi⟩ := hR
  unfold ls_charger q_Face_charger q_Model_charger
  have hz := zz b
  generalize (if b = 0 then (0 : Int32) else 1) = z at hz ⊢
  by_cases hv : isIx a n
  · obtain ⟨p, hpn, rfl⟩ := hv
    refine r_has1 hn1 z2 hpn (b1 ⟨vi (by omega), nbz (hi.1 _), fun h1 => ?_, fun h1 => ⟨vi (by omega), ?_⟩⟩)
    · refine m_pt1 (σ := sto μ 0 0 0) hn3 z2 hpn (b1 ⟨vi (by omega), fun _ => ⟨rfl, r_thr hR0⟩, fun h2 => absurd ?_ h2⟩)
      show μ 2 _ = z
      rw [← he.1.2]; exact h1
    · refine m_pt1 (σ := sto μ 0 0 0) hn3 z2 hpn (b1 ⟨vi (by omega), fun h2 => absurd ?_ h1, fun _ => ⟨vi (by omega), rfl, n, np, nr, nc, nj, ⟨z1, z2, z3, z4, z5, z6⟩, ⟨⟨hn1, hn2, hn3⟩, hm⟩, ⟨⟨he.1.1, ?_⟩, he.2⟩, ?_, hi.2⟩⟩)
      · rw [he.1.2]; exact h2
      · show upd (σ 1 2) _ _ = upd (μ 2) _ _
        rw [he.1.2]
      · exact z1_upd hi.1 (by rw [vnz hz]; exact hz)
  · exact r_has0 hn1 z2 hv (b0 (m_pt0 (σ := sto μ 0 0 0) hn3 z2 hv (b0 ⟨rfl, r_thr hR0⟩)))
theorem f_has1 {σ : Sg} {n p : Nat} {Q : Int32 → Prop} (hn : σ 0 7 = nI n) (h : n ≤ 6) (hp : p < n) (hq : Q 1) : q_Fleet_has (nI p) σ Q := has_y (P := True) hn (by omega) hp hq
theorem f_has0 {σ : Sg} {n : Nat} {v : Int32} {Q : Int32 → Prop} (hn : σ 0 7 = nI n) (h : n ≤ 6) (hp : ¬ isIx v n) (hq : Q 0) : q_Fleet_has v σ Q := has_n hn (by omega) hp hq
theorem m_ca1 {σ : Sg} {n p : Nat} {Q : Int32 → Prop} (hn : σ 0 11 = nI n) (h : n ≤ 6) (hp : p < n) (hq : Q 1) : q_Model_isCarrier (nI p) σ Q := has_y (P := True) hn (by omega) hp hq
theorem m_ca0 {σ : Sg} {n : Nat} {v : Int32} {Q : Int32 → Prop} (hn : σ 0 11 = nI n) (h : n ≤ 6) (hp : ¬ isIx v n) (hq : Q 0) : q_Model_isCarrier v σ Q := has_n hn (by omega) hp hq
theorem j_has1 {σ : Sg} {n p : Nat} {Q : Int32 → Prop} (hn : σ 0 4 = nI n) (h : n ≤ 12) (hp : p < n) (hq : Q 1) : q_Jobs_has (nI p) σ Q := has_y (P := True) hn (by omega) hp hq
theorem j_has0 {σ : Sg} {n : Nat} {v : Int32} {Q : Int32 → Prop} (hn : σ 0 4 = nI n) (h : n ≤ 12) (hp : ¬ isIx v n) (hq : Q 0) : q_Jobs_has v σ Q := has_n hn (by omega) hp hq
/-- an answer that both give -/
theorem okA {σ : SG} {μ : Sg} {f : Nat → Int64} {x y : Int32} (hR : r_R σ μ) (e : x = y) : q_Model_thrown (sto μ 0 0 0) (fun t => t = 0 ∧ ((0 : Int32) = 0 → vp_updL f 0 x.toInt64 0 = y.toInt64) ∧ r_R σ (sto μ 0 0 0)) := ⟨rfl, fun _ => by rw [← e]; rfl, r_thr hR⟩
/-- a throw of both -/
theorem okX {σ : SG} {μ : Sg} {f : Nat → Int64} {k y : Int32} (hR : r_R σ μ) (hk : ¬ k = 0) : q_Model_thrown (sto μ 0 0 k) (fun t => t = k ∧ (k = 0 → f 0 = y.toInt64) ∧ r_R σ (sto μ 0 0 k)) := ⟨rfl, fun h => absurd h hk, r_thr hR⟩
theorem m_look {a b : Int32} {μ : Sg} {Q : Int32 → Sg → Prop} (h : q_Model_look_b0 (q_Model_look_j Q 3999) Q a b μ) : q_Model_look a b μ Q := h
theorem s_look {a b : Int32} {σ : SG} {μ : Sg} (hR : r_R σ μ) : ls_look a b σ μ r_R := by
  have hR0 := hR
  obtain ⟨n, np, nr, nc, nj, ⟨z1, z2, z3, z4, z5, z6⟩, ⟨hn, hp, hr, ⟨hc1, hc2⟩, hj, ht⟩, he, hi⟩ := hR
  intro f
  unfold q_Law_look q_Face_look
  by_cases hv : isIx a nc
  · obtain ⟨c, hcn, rfl⟩ := hv
    have c6 : c < 6 := by omega
    refine f_has1 hc1 z5 hcn (b1 ⟨fun e => ⟨vi c6, ?_⟩, fun e0 => ⟨fun e => ⟨vi c6, ?_⟩, fun e1 => ⟨fun e => ⟨vi c6, ?_⟩, fun e2 => ⟨fun e => ⟨vi c6, ?_⟩, fun e3 => ⟨fun e => ⟨vi c6, ?_⟩, fun e4 => ⟨fun e => ⟨vi c6, ?_⟩, fun e5 => ⟨fun e => ⟨vi c6, ?_⟩, fun e6 => ⟨rfl, ?_⟩⟩⟩⟩⟩⟩⟩⟩)
    · subst e
      refine m_look ?_
      unfold q_Model_look_b0
      refine m_ca1 hc2 z5 hcn (b1 (m_in1 (by decide) (by decide) (b1 ⟨fun _ => ⟨vi c6, okA hR0 (congrFun he.2.2.2.1.1 _)⟩, fun h => absurd rfl h⟩)))
    · subst e
      refine m_look ?_
      unfold q_Model_look_b0
      refine m_ca1 hc2 z5 hcn (b1 (m_in1 (by decide) (by decide) (b1 ⟨fun h => absurd h (by decide), fun _ => ⟨fun _ => ⟨vi c6, okA hR0 (congrFun he.2.2.2.1.2.1 _)⟩, fun h => absurd rfl h⟩⟩)))
    · subst e
      refine m_look ?_
      unfold q_Model_look_b0
      refine m_ca1 hc2 z5 hcn (b1 (m_in1 (by decide) (by decide) (b1 ⟨fun h => absurd h (by decide), fun _ => ⟨fun h => absurd h (by decide), fun _ => ⟨fun _ => ⟨vi c6, fun h => okA hR0 ?_, fun h => ⟨vi c6, okA hR0 ?_⟩⟩, fun h => absurd rfl h⟩⟩⟩)))
      · rw [ck (by omega)] at h ⊢
        rw [hi.2.2.1.2 c hcn, if_pos]
        rw [he.2.2.2.1.2.1]; exact h
      · rw [ck (by omega)] at h ⊢
        rw [hi.2.2.1.2 c hcn, if_neg]
        · rfl
        · rw [he.2.2.2.1.2.1]; exact h
    · subst e
      refine m_look ?_
      unfold q_Model_look_b0
      refine m_ca1 hc2 z5 hcn (b1 (m_in1 (by decide) (by decide) (b1 ⟨fun h => absurd h (by decide), fun _ => ⟨fun h => absurd h (by decide), fun _ => ⟨fun h => absurd h (by decide), fun _ => ⟨fun _ => ⟨vi c6, okA hR0 (congrFun he.2.2.2.1.2.2.1 _)⟩, fun h => absurd rfl h⟩⟩⟩⟩)))
    · subst e
      refine m_look ?_
      unfold q_Model_look_b0
      refine m_ca1 hc2 z5 hcn (b1 (m_in1 (by decide) (by decide) (b1 ⟨fun h => absurd h (by decide), fun _ => ⟨fun h => absurd h (by decide), fun _ => ⟨fun h => absurd h (by decide), fun _ => ⟨fun h => absurd h (by decide), fun _ => ⟨fun _ => ⟨vi c6, okA hR0 (congrFun he.2.2.2.1.2.2.2.1 _)⟩, fun h => absurd rfl h⟩⟩⟩⟩⟩)))
    · subst e
      refine m_look ?_
      unfold q_Model_look_b0
      refine m_ca1 hc2 z5 hcn (b1 (m_in1 (by decide) (by decide) (b1 ⟨fun h => absurd h (by decide), fun _ => ⟨fun h => absurd h (by decide), fun _ => ⟨fun h => absurd h (by decide), fun _ => ⟨fun h => absurd h (by decide), fun _ => ⟨fun h => absurd h (by decide), fun _ => ⟨fun _ => ⟨vi c6, okA hR0 (congrFun he.2.2.2.1.2.2.2.2.1 _)⟩, fun h => absurd rfl h⟩⟩⟩⟩⟩⟩)))
    · subst e
      refine m_look ?_
      unfold q_Model_look_b0
      refine m_ca1 hc2 z5 hcn (b1 (m_in1 (by decide) (by decide) (b1 ⟨fun h => absurd h (by decide), fun _ => ⟨fun h => absurd h (by decide), fun _ => ⟨fun h => absurd h (by decide), fun _ => ⟨fun h => absurd h (by decide), fun _ => ⟨fun h => absurd h (by decide), fun _ => ⟨fun h => absurd h (by decide), fun _ => ⟨vi c6, okA hR0 (congrFun he.2.2.2.1.2.2.2.2.2 _)⟩⟩⟩⟩⟩⟩⟩)))
    · refine m_look ?_
      unfold q_Model_look_b0
      exact m_ca1 hc2 z5 hcn (b1 (m_in0 (out6 e0 e1 e2 e3 e4 e5 e6) (b0 (okX hR0 (by decide)))))
  · refine f_has0 hc1 z5 hv (b0 ⟨rfl, m_look ?_⟩)
    unfold q_Model_look_b0
    exact m_ca0 hc2 z5 hv (b0 (okX hR0 (by decide)))
theorem s_of {a b : Int32} {σ : SG} {μ : Sg} (hR : r_R σ μ) : ls_of a b σ μ r_R := by
  have hR0 := hR
  obtain ⟨n, np, nr, nc, nj, ⟨z1, z2, z3, z4, z5, z6⟩, ⟨hn, hp, hr, hc, ⟨hj1, hj2⟩, ht⟩, he, hi⟩ := hR
  intro f
  unfold q_Law_of q_Face_of
  by_cases hv : isIx a nj
  · obtain ⟨c, hcn, rfl⟩ := hv
    have c6 : c < 12 := by omega
    refine j_has1 hj1 z6 hcn (b1 ⟨fun e => ⟨vi c6, ?_⟩, fun e0 => ⟨fun e => ⟨vi c6, ?_⟩, fun e1 => ⟨fun e => ⟨vi c6, ?_⟩, fun e2 => ⟨fun e => ⟨vi c6, ?_⟩, fun e3 => ⟨rfl, ?_⟩⟩⟩⟩⟩)
    · subst e
      exact has_y (P := True) hj2 (by omega) hcn (m_in1 (by decide) (by decide) (b1 ⟨fun _ => ⟨vi c6, okA hR0 (congrFun he.2.2.2.2.1 _)⟩, fun h => absurd rfl h⟩))
    · subst e
      exact has_y (P := True) hj2 (by omega) hcn (m_in1 (by decide) (by decide) (b1 ⟨fun h => absurd h (by decide), fun _ => ⟨fun _ => ⟨vi c6, okA hR0 (congrFun he.2.2.2.2.2.1 _)⟩, fun h => absurd rfl h⟩⟩))
    · subst e
      exact has_y (P := True) hj2 (by omega) hcn (m_in1 (by decide) (by decide) (b1 ⟨fun h => absurd h (by decide), fun _ => ⟨fun h => absurd h (by decide), fun _ => ⟨fun _ => ⟨vi c6, okA hR0 (congrFun he.2.2.2.2.2.2.1 _)⟩, fun h => absurd rfl h⟩⟩⟩))
    · subst e
      exact has_y (P := True) hj2 (by omega) hcn (m_in1 (by decide) (by decide) (b1 ⟨fun h => absurd h (by decide), fun _ => ⟨fun h => absurd h (by decide), fun _ => ⟨fun h => absurd h (by decide), fun _ => ⟨vi c6, okA hR0 (congrFun he.2.2.2.2.2.2.2 _)⟩⟩⟩⟩))
    · exact has_y (P := True) hj2 (by omega) hcn (m_in0 (out3 e0 e1 e2 e3) (b0 (okX hR0 (by decide))))
  · exact j_has0 hj1 z6 hv (b0 ⟨rfl, has_n hj2 (by omega) hv (okX hR0 (by decide))⟩)
