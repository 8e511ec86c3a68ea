/-! ring, job, carrier -/
theorem and_split (v m : Int32) : v &&& (m ^^^ (-1)) = 0 ↔ v &&& m = v := by
  rw [← Int32.toBitVec_inj, ← Int32.toBitVec_inj, Int32.toBitVec_and, Int32.toBitVec_and, Int32.toBitVec_xor, show (-1 : Int32).toBitVec = BitVec.allOnes 32 from rfl, show (0 : Int32).toBitVec = 0#32 from rfl]
  constructor
  · intro h
    apply BitVec.eq_of_getLsbD_eq
    intro i hi
    have := congrArg (fun x => x.getLsbD i) h
    simp only [BitVec.getLsbD_and, BitVec.getLsbD_xor, BitVec.getLsbD_allOnes, BitVec.getLsbD_zero, hi, decide_true] at this
    rw [BitVec.getLsbD_and]
    revert this
    cases v.toBitVec.getLsbD i <;> cases m.toBitVec.getLsbD i <;> decide
  · intro h
    apply BitVec.eq_of_getLsbD_eq
    intro i hi
    have := congrArg (fun x => x.getLsbD i) h
    simp only [BitVec.getLsbD_and] at this
    simp only [BitVec.getLsbD_and, BitVec.getLsbD_xor, BitVec.getLsbD_allOnes, BitVec.getLsbD_zero, hi, decide_true]
    revert this
    cases v.toBitVec.getLsbD i <;> cases m.toBitVec.getLsbD i <;> decide
theorem pw2 : ∀ n, n < 11 → (1 : Int32) <<< (nI n &&& 31) = nI (2 ^ n) := by decide
theorem pw1 : ∀ n, n < 11 → (nI (2 ^ n) - 1).toBitVec.toNat = 2 ^ n - 1 := by decide
theorem pw0 : ∀ n, n < 11 → 2 ^ n < 2000 := by decide
theorem set_y {v : Int32} {n : Nat} (hn : n ≤ 10) (h : v &&& ((nI (2 ^ n) - 1) ^^^ (-1)) = 0) : isIx v (2 ^ n) := by
  rw [and_split, pk_and v n (pw1 n (by omega))] at h
  exact ⟨_, Nat.mod_lt _ (Nat.two_pow_pos n), h.symm⟩
theorem set_n {k n : Nat} (hn : n ≤ 10) (hk : k < 2 ^ n) : nI k &&& ((nI (2 ^ n) - 1) ^^^ (-1)) = 0 := by
  have := pw0 n (by omega)
  rw [and_split, pk_andN (by omega) n (pw1 n (by omega)), Nat.mod_eq_of_lt hk]
theorem m_ring {a : Int32} {μ : Sg} {Q : Int32 → Sg → Prop} (h : q_Model_ring_b0 (q_Model_ring_j Q 3999) Q a μ) : q_Model_ring a μ Q := h
theorem r_radd {σ : Sg} {nr : Nat} {a : Int32} {Q : Int32 → Sg → Prop} (hr : σ 0 1 = nI nr) (h : nr < 4) (hq : Q (nI (nr + 1)) (sto (sto σ 1 nr a) 0 1 (nI (nr + 1)))) : q_Rings_add a σ Q := by
  unfold q_Rings_add
  show vp_in (σ 0 1) 4 ∧ Q (σ 0 1 + 1) (sto (sto σ 1 (σ 0 1).toNatClampNeg a) 0 1 (σ 0 1 + 1))
  rw [hr, ck (by omega), nI_1]
  exact ⟨vi h, hq⟩
theorem m_ring1 {μ : Sg} {nr : Nat} {a : Int32} {Q : Int32 → Sg → Prop} (k1 : ¬ a < 1) (k2 : a < (1 : Int32) <<< (μ 0 1 &&& 31)) (hr : μ 0 9 = nI nr) (h : nr < 4) (hq : Q (nI (nr + 1)) (sto (sto (sto μ 0 0 0) 7 nr a) 0 9 (nI (nr + 1)))) : q_Model_ring a μ Q := by
  refine m_ring ⟨fun h => absurd h k1, fun _ => ⟨fun _ => ⟨fun h5 => ?_, fun _ => ?_⟩, fun h => absurd k2 h⟩⟩
  · rw [hr] at h5
    have := (nI_eq (a := nr) (b := 4) (by omega) (by omega)).mp h5
    omega
  · show vp_in (μ 0 9) 4 ∧ Q (μ 0 9 + 1) (sto (sto (sto μ 0 0 0) 7 (μ 0 9).toNatClampNeg a) 0 9 (μ 0 9 + 1))
    rw [hr, ck (by omega), nI_1]
    exact ⟨vi h, hq⟩
theorem s_ring {a : Int32} {σ : SG} {μ : Sg} (hR : r_R σ μ) : ls_ring a σ μ r_R := by
  have hR0 := hR
  obtain ⟨n, np, nr, nc, nj, ⟨z1, z2, z3, z4, z5, z6⟩, ⟨⟨hn1, hn2, hn3⟩, hp, ⟨hr1, hr2⟩, hc, hj, ht⟩, he, hi⟩ := hR
  intro f
  have w0 := pw0 n (by omega)
  have w2 : (1 : Int32) <<< (μ 0 1 &&& 31) = nI (2 ^ n) := by rw [hn3]; exact pw2 n (by omega)
  have bad : ¬ isIx a (2 ^ n) ∨ a = 0 → q_Model_ring a μ (fun r v => q_Model_thrown v (fun t => t = 1 ∧ ((1 : Int32) = 0 → f 0 = r.toInt64) ∧ r_R σ v)) := by
    intro h
    refine m_ring ⟨fun _ => okX hR0 (by decide), fun h1 => ⟨fun h2 => ?_, fun _ => okX hR0 (by decide)⟩⟩
    rw [w2] at h2
    rcases h with h | h
    · rcases ix_no (by omega) h with h3 | h3
      · exact absurd (Int32.lt_trans h3 (by decide)) h1
      · exact absurd h2 (Int32.not_lt.mpr h3)
    · rw [h] at h1; exact absurd (by decide) h1
  unfold q_Law_ring q_Face_ring q_Points_asBits q_Rings_size
  rw [hn1, pw2 n (by omega)]
  refine ⟨fun h1 => Or.inl ⟨rfl, bad (Or.inr h1)⟩, fun h1 => ⟨fun h2 => ?_, fun h2 => Or.inl ⟨rfl, bad (Or.inl (fun ⟨k, hk, e⟩ => h2 (by rw [e]; exact set_n z2 hk)))⟩⟩⟩
  obtain ⟨k, hk, e⟩ := set_y z2 h2
  have k1 : ¬ a < 1 := by
    rw [e]; intro h
    have := (nI_ltI (a := k) (b := 1) (by omega) (by omega)).mp h
    exact h1 (by rw [e, show k = 0 by omega]; rfl)
  have k2 : a < (1 : Int32) <<< (μ 0 1 &&& 31) := by rw [w2, e]; exact nI_lt hk (by omega)
  rw [hr1]
  refine ⟨fun h3 => ?_, fun h3 => Or.inr ⟨rfl, m_ring ⟨fun h => absurd h k1, fun _ => ⟨fun _ => ⟨fun _ => okX hR0 (by decide), fun h4 => absurd ?_ h4⟩, fun h => absurd k2 h⟩⟩⟩⟩
  · have h4 : nr < 4 := (nI_ltI (a := nr) (b := 4) (by omega) (by omega)).mp h3
    refine r_radd hr1 h4 (m_ring1 k1 k2 hr2 h4 (okB rfl ?_ rfl))
    refine ⟨n, np, nr + 1, nc, nj, ⟨z1, z2, z3, by omega, z5, z6⟩, ⟨⟨hn1, hn2, hn3⟩, hp, ⟨rfl, rfl⟩, hc, hj, ht⟩, ⟨he.1, he.2.1, ?_, he.2.2.2⟩, hi⟩
    show upd (σ 3 1) nr a = upd (μ 7) nr a
    rw [he.2.2.1]
  · have h4 : ¬ nr < 4 := fun h => h3 (nI_lt (b := 4) h (by omega))
    rw [hr2, show nr = 4 by omega]; rfl
def isTwo (a b : Int32) (n : Nat) : Prop := isIx a n ∧ isIx b n ∧ ¬ a = b
theorem r_two1 {a b : Int32} {σ : Sg} {n : Nat} {Q : Int32 → Prop} (hn : σ 0 0 = nI n) (h : n ≤ 10) (hab : isTwo a b n) (hq : Q 1) : q_Points_areTwo a b σ Q := by
  obtain ⟨⟨p, hp, rfl⟩, ⟨q, hq', rfl⟩, hne⟩ := hab
  exact r_has1 hn h hp (b1 (r_has1 hn h hq' (b1 ⟨fun e => absurd e hne, fun _ => hq⟩)))
theorem r_two0 {a b : Int32} {σ : Sg} {n : Nat} {Q : Int32 → Prop} (hn : σ 0 0 = nI n) (h : n ≤ 10) (hab : ¬ isTwo a b n) (hq : Q 0) : q_Points_areTwo a b σ Q := by
  by_cases ha : isIx a n
  · have ha' := ha
    obtain ⟨p, hp, rfl⟩ := ha
    refine r_has1 hn h hp (b1 ?_)
    by_cases hb : isIx b n
    · have hb' := hb
      obtain ⟨q, hq', rfl⟩ := hb
      exact r_has1 hn h hq' (b1 ⟨fun _ => hq, fun hne => absurd ⟨ha', hb', hne⟩ hab⟩)
    · exact r_has0 hn h hb (b0 hq)
  · exact r_has0 hn h ha (b0 hq)
theorem m_two {a b : Int32} {σ : Sg} {n : Nat} {A B : Prop} (hn : σ 0 1 = nI n) (h : n ≤ 10) (h1 : isTwo a b n → B) (h0 : ¬ isTwo a b n → A) :
    q_Model_isPoint a σ (fun r1 => ((r1 = 0 → A) ∧ (¬ r1 = 0 → q_Model_isPoint b σ (fun r2 => ((r2 = 0 → A) ∧ (¬ r2 = 0 → ((a = b → A) ∧ (¬ a = b → B)))))))) := by
  by_cases ha : isIx a n
  · have ha' := ha
    obtain ⟨p, hp, rfl⟩ := ha
    refine m_pt1 hn h hp (b1 ?_)
    by_cases hb : isIx b n
    · have hb' := hb
      obtain ⟨q, hq', rfl⟩ := hb
      exact m_pt1 hn h hq' (b1 ⟨fun e => h0 (fun t => t.2.2 e), fun hne => h1 ⟨ha', hb', hne⟩⟩)
    · exact m_pt0 hn h hb (b0 (h0 (fun t => hb t.2.1)))
  · exact m_pt0 hn h ha (b0 (h0 (fun t => ha t.1)))
theorem r_jadd {σ : Sg} {nj : Nat} {a b : Int32} {Q : Int32 → Sg → Prop} (hj : σ 0 4 = nI nj) (h : nj < 12) (hq : Q (nI nj) (sto (sto (sto (sto (sto σ 1 nj a) 2 nj b) 3 nj 0) 4 nj (-1)) 0 4 (nI (nj + 1)))) : q_Jobs_add a b σ Q := by
  unfold q_Jobs_add
  show vp_in (σ 0 4) 12 ∧ vp_in (σ 0 4) 12 ∧ vp_in (σ 0 4) 12 ∧ vp_in (σ 0 4) 12 ∧ Q (σ 0 4) (sto (sto (sto (sto (sto σ 1 (σ 0 4).toNatClampNeg a) 2 (σ 0 4).toNatClampNeg b) 3 (σ 0 4).toNatClampNeg 0) 4 (σ 0 4).toNatClampNeg (-1)) 0 4 (σ 0 4 + 1))
  rw [hj, ck (by omega), nI_1]
  exact ⟨vi h, vi h, vi h, vi h, hq⟩
theorem m_job {a b : Int32} {μ : Sg} {Q : Int32 → Sg → Prop} (h : q_Model_job_b0 (q_Model_job_j Q 3999) Q a b μ) : q_Model_job a b μ Q := h
theorem m_job1 {μ : Sg} {n nj : Nat} {a b : Int32} {Q : Int32 → Sg → Prop} (hn : μ 0 1 = nI n) (z : n ≤ 10) (hab : isTwo a b n) (hj : μ 0 19 = nI nj) (h : nj < 12) (hq : Q (nI nj) (sto (sto (sto (sto (sto μ 0 0 0) 15 nj a) 16 nj b) 18 nj (-1)) 0 19 (nI (nj + 1)))) : q_Model_job a b μ Q := by
  refine m_job (m_two hn z (fun _ => ⟨fun h5 => ?_, fun _ => ?_⟩) (fun h => absurd hab h))
  · rw [hj] at h5
    have := (nI_eq (a := nj) (b := 12) (by omega) (by omega)).mp h5
    omega
  · show vp_in (μ 0 19) 12 ∧ vp_in (μ 0 19) 12 ∧ vp_in (μ 0 19) 12 ∧ Q (μ 0 19 + 1 - 1) (sto (sto (sto (sto (sto μ 0 0 0) 15 (μ 0 19).toNatClampNeg a) 16 (μ 0 19).toNatClampNeg b) 18 (μ 0 19).toNatClampNeg (-1)) 0 19 (μ 0 19 + 1))
    rw [hj, ck (by omega), nI_1, nI_pred]
    exact ⟨vi h, vi h, vi h, hq⟩
theorem upd_id {f : Nat → Int32} {k : Nat} {v : Int32} (h : f k = v) : upd f k v = f := by
  funext j
  by_cases e : j = k
  · subst e; rw [pk_us, h]
  · rw [pk_un e]
theorem upd_eq {f : Nat → Int32} {k j : Nat} {v : Int32} : upd f k v j = if j = k then v else f j := by
  by_cases e : j = k
  · subst e; rw [pk_us, if_pos rfl]
  · rw [pk_un e, if_neg e]
theorem jb_add {n nj : Nat} {a b : Int32} {fr to st : Nat → Int32} (h : gJb n nj fr to st) (ha : isIx a n) (hb : isIx b n) : gJb n (nj + 1) (upd fr nj a) (upd to nj b) st := by
  refine ⟨fun j hj => ?_, fun j hj => ?_, fun j hj => ?_, fun j hj => h.2.2.2 j (by omega)⟩
  · by_cases e : j = nj
    · subst e; rw [pk_us]; exact ha
    · rw [pk_un e]; exact h.1 j (by omega)
  · by_cases e : j = nj
    · subst e; rw [pk_us]; exact hb
    · rw [pk_un e]; exact h.2.1 j (by omega)
  · by_cases e : j = nj
    · exact Or.inl (h.2.2.2 j (by omega))
    · exact h.2.2.1 j (by omega)
theorem s_job {a b : Int32} {σ : SG} {μ : Sg} (hR : r_R σ μ) : ls_job a b σ μ r_R := by
  have hR0 := hR
  obtain ⟨n, np, nr, nc, nj, ⟨z1, z2, z3, z4, z5, z6⟩, ⟨⟨hn1, hn2, hn3⟩, hp, hr, hc, ⟨hj1, hj2⟩, ht⟩, he, hi⟩ := hR
  intro f
  unfold q_Law_job q_Face_job q_Jobs_size
  by_cases hab : isTwo a b n
  · refine r_two1 hn1 z2 hab (b1 ?_)
    rw [hj1]
    refine ⟨fun h3 => ?_, fun h3 => Or.inr ⟨rfl, m_job (m_two hn3 z2 (fun _ => ⟨fun _ => okX hR0 (by decide), fun h => absurd ?_ h⟩) (fun h => absurd hab h))⟩⟩
    · have h4 : nj < 12 := (nI_ltI (a := nj) (b := 12) (by omega) (by omega)).mp h3
      refine r_jadd hj1 h4 (m_job1 hn3 z2 hab hj2 h4 (okB rfl ?_ rfl))
      have e3 : upd (σ 5 3) nj 0 = σ 5 3 := upd_id (hi.2.2.2.1.2.2.2 nj (Nat.le_refl _))
      refine ⟨n, np, nr, nc, nj + 1, ⟨z1, z2, z3, z4, z5, by omega⟩, ⟨⟨hn1, hn2, hn3⟩, hp, hr, hc, ⟨rfl, rfl⟩, ht⟩, ⟨he.1, he.2.1, he.2.2.1, he.2.2.2.1, ?_, ?_, ?_, ?_⟩, hi.1, hi.2.1, ⟨?_, hi.2.2.1.2⟩, ?_, ?_, fun i h => hi.2.2.2.2.2 i (by omega)⟩
      · show upd (σ 5 1) nj a = upd (μ 15) nj a
        rw [he.2.2.2.2.1]
      · show upd (σ 5 2) nj b = upd (μ 16) nj b
        rw [he.2.2.2.2.2.1]
      · show upd (σ 5 3) nj 0 = μ 17
        rw [e3]; exact he.2.2.2.2.2.2.1
      · show upd (σ 5 4) nj (-1) = upd (μ 18) nj (-1)
        rw [he.2.2.2.2.2.2.2]
      · show gFl n np nc (nj + 1) (σ 4 1) (σ 4 2) (σ 4 4) (σ 4 5) (upd (σ 5 3) nj 0)
        rw [e3]
        obtain ⟨g1, g2, g3, g4, g5⟩ := hi.2.2.1.1
        refine ⟨g1, g2, g3, fun c hc => ?_, g5⟩
        rcases g4 c hc with h | ⟨j, h1, h2⟩
        · exact Or.inl h
        · exact Or.inr ⟨j, by omega, h2⟩
      · show gJb n (nj + 1) (upd (σ 5 1) nj a) (upd (σ 5 2) nj b) (upd (σ 5 3) nj 0)
        rw [e3]; exact jb_add hi.2.2.2.1 hab.1 hab.2.1
      · show gDn nc (nj + 1) (σ 4 6) (upd (σ 5 3) nj 0)
        rw [e3]
        refine ⟨?_, hi.2.2.2.2.1.2⟩
        rw [cnt_n (by rw [hi.2.2.2.1.2.2.2 nj (Nat.le_refl _)]; decide)]
        exact hi.2.2.2.2.1.1
    · have h4 : ¬ nj < 12 := fun h => h3 (nI_lt (b := 12) h (by omega))
      rw [hj2, show nj = 12 by omega]; rfl
  · exact r_two0 hn1 z2 hab (b0 (Or.inl ⟨rfl, m_job (m_two hn3 z2 (fun h => absurd h hab) (fun _ => okX hR0 (by decide)))⟩))
