/-! count -/
theorem xor10 {v : Int32} : (0 ≤ (v ^^^ 10)) ↔ 0 ≤ v := by
  rw [Int32.le_iff_toInt_le, Int32.le_iff_toInt_le, show (0 : Int32).toInt = 0 from rfl]
  have h1 := BitVec.msb_eq_toInt (x := (v ^^^ 10).toBitVec)
  have h2 := BitVec.msb_eq_toInt (x := v.toBitVec)
  rw [Int32.toBitVec_xor, BitVec.msb_xor, show (10 : Int32).toBitVec.msb = false from rfl, Bool.xor_false, h2, decide_eq_decide] at h1
  have e1 : (v ^^^ 10).toInt = (v.toBitVec ^^^ (10 : Int32).toBitVec).toInt := by rw [← Int32.toBitVec_xor]; rfl
  have e2 : v.toInt = v.toBitVec.toInt := rfl
  omega
theorem fm_any {v : Int32} {Q : Int32 → Prop} (h : ∀ r, Q r) : q_Math_floorMod v 10 Q := ⟨by decide, fun _ => h _, fun _ => ⟨fun _ => h _, fun _ => h _⟩⟩
theorem fm_at {w : Nat} {Q : Int32 → Prop} (hw : w < 50) (h : Q (nI (w % 10))) : q_Math_floorMod (nI w) 10 Q := by
  refine ⟨by decide, fun _ => ?_, fun h1 => absurd (xor10.mpr (nI_pos' (by omega))) h1⟩
  rw [show (10 : Int32) = nI 10 from rfl, pk_rem (by omega) (by decide) (by decide)]; exact h
theorem fd_at {w : Nat} {Q : Int32 → Prop} (hw : w < 50) (h : Q (nI (w / 10))) : q_Math_floorDiv (nI w) 10 Q := by
  refine ⟨by decide, fun _ => ?_, fun h1 => absurd (xor10.mpr (nI_pos' (by omega))) h1⟩
  rw [show (10 : Int32) = nI 10 from rfl, pk_div (by omega) (by decide) (by decide)]; exact h
theorem td_neg {z : Int} (h : z < 0) : z.tdiv 10 = -((-z) / 10) := by
  rw [← Int.tdiv_eq_ediv_of_nonneg (by omega), Int.neg_tdiv, Int.neg_neg]
theorem fd_out {v : Int32} {Q : Int32 → Prop} (hv : v < 0 ∨ 50 ≤ v) (h : ∀ r : Int32, r < 0 ∨ 4 < r → Q r) : q_Math_floorDiv v 10 Q := by
  have ed : (v / 10).toInt = v.toInt.tdiv 10 := Int32.toInt_div_of_ne_right v 10 (by decide)
  have e1 := v.toInt_lt
  have e2 := v.le_toInt
  refine ⟨by decide, fun h1 => h _ ?_, fun h1 => ⟨fun h2 => h _ ?_, fun h2 => h _ ?_⟩⟩
  · rw [xor10] at h1
    rcases hv with hv | hv
    · exact absurd hv (Int32.not_lt.mpr h1)
    · refine Or.inr ?_
      rw [Int32.le_iff_toInt_le, show (50 : Int32).toInt = 50 from rfl] at hv
      rw [Int32.lt_iff_toInt_lt, show (4 : Int32).toInt = 4 from rfl, ed, Int.tdiv_eq_ediv_of_nonneg (by omega)]
      omega
  · rw [xor10] at h1
    have h3 := Int32.not_le.mp h1
    rw [Int32.lt_iff_toInt_lt, show (0 : Int32).toInt = 0 from rfl] at h3
    refine Or.inl ?_
    have h4 := congrArg Int32.toInt h2
    rw [td_neg h3] at ed
    rw [Int32.lt_iff_toInt_lt, show (0 : Int32).toInt = 0 from rfl, ed]
    rw [Int32.toInt_mul, ed, show (10 : Int32).toInt = 10 from rfl, Int.bmod_eq_of_le (by omega) (by omega)] at h4
    omega
  · rw [xor10] at h1
    have h3 := Int32.not_le.mp h1
    rw [Int32.lt_iff_toInt_lt, show (0 : Int32).toInt = 0 from rfl] at h3
    refine Or.inl ?_
    rw [td_neg h3] at ed
    rw [Int32.lt_iff_toInt_lt, show (0 : Int32).toInt = 0 from rfl, Int32.toInt_sub, ed, show (1 : Int32).toInt = 1 from rfl, Int.bmod_eq_of_le (by omega) (by omega)]
    omega
/-- a point's bit in a set: both ways to look at it -/
theorem bit_a {x : Int32} {p : Nat} (hp : p < 11) : x &&& ((1 : Int32) <<< (nI p &&& 31)) = 0 ↔ x.toBitVec.getLsbD p = false := by
  rw [pw2 p hp, ← Int32.toBitVec_inj, Int32.toBitVec_and, show (nI (2 ^ p)).toBitVec = BitVec.twoPow 32 p from (by revert p; decide), BitVec.and_twoPow, show (0 : Int32).toBitVec = 0#32 from rfl]
  have ne : BitVec.twoPow 32 p ≠ 0#32 := by revert p; decide
  cases x.toBitVec.getLsbD p with
  | false => simp
  | true => simpa using ne
theorem bit_s : ∀ p, p < 11 → ((nI p &&& 31).toBitVec.smod 32).toNat = p := by decide
theorem bit_b {x : Int32} {p : Nat} (hp : p < 11) : (x >>> (nI p &&& 31)) &&& 1 = 1 ↔ x.toBitVec.getLsbD p = true := by
  have hg : (x >>> (nI p &&& 31)).toBitVec.getLsbD 0 = x.toBitVec.getLsbD p := by
    rw [Int32.toBitVec_shiftRight]
    show (x.toBitVec.sshiftRight ((nI p &&& 31).toBitVec.smod 32).toNat).getLsbD 0 = _
    rw [bit_s p hp, BitVec.getLsbD_sshiftRight]
    simp
    omega
  rw [← Int32.toBitVec_inj, Int32.toBitVec_and, show (1 : Int32).toBitVec = BitVec.twoPow 32 0 from rfl, BitVec.and_twoPow, hg]
  cases x.toBitVec.getLsbD p with
  | false => simp; decide
  | true => simp
/-- the free places of a set, of the first points -/
noncomputable def frs (x : Int32) (pl at_ : Nat → Int32) (nc : Nat) : Nat → Int32
  | 0 => 0
  | p + 1 => if x.toBitVec.getLsbD p = true then frs x pl at_ nc p + (pl p - nI (cnt at_ (nI p) nc)) else frs x pl at_ nc p
theorem frs_y {x : Int32} {pl at_ : Nat → Int32} {nc p : Nat} (h : x.toBitVec.getLsbD p = true) : frs x pl at_ nc (p + 1) = frs x pl at_ nc p + (pl p - nI (cnt at_ (nI p) nc)) := by show (if _ then _ else _) = _; rw [if_pos h]
theorem frs_n {x : Int32} {pl at_ : Nat → Int32} {nc p : Nat} (h : ¬ x.toBitVec.getLsbD p = true) : frs x pl at_ nc (p + 1) = frs x pl at_ nc p := by show (if _ then _ else _) = _; rw [if_neg h]
theorem r_free {σ : SG} {n nc : Nat} {x : Int32} {Q : Int32 → Prop} (hn : σ 1 0 0 = nI n) (z2 : n ≤ 10) (hc : σ 4 0 7 = nI nc) (z5 : nc ≤ 6) (h : Q (frs x (σ 1 1) (σ 4 1) nc n)) : q_Face_freePlaces x σ Q := by
  have key : ∀ k fuel i, i + k = n → k < fuel → q_Face_freePlaces_j Q σ fuel 1 x (frs x (σ 1 1) (σ 4 1) nc i) (nI i) := by
    intro k
    induction k with
    | zero =>
      intro fuel i hi hf
      obtain ⟨f, rfl, -⟩ := fu hf
      obtain rfl : i = n := hi
      exact ⟨fun _ => h, fun h' => absurd (le_end hn (by omega)) h'⟩
    | succ k ih =>
      intro fuel i hi hf
      obtain ⟨f, rfl, hf⟩ := fu hf
      refine ⟨fun h' => absurd h' (le_at hn (by omega) (by omega)), fun _ => ⟨fun e => b0 ?_, fun e => b1 ⟨vi (by omega), ?_⟩⟩⟩
      · have := ih f (i + 1) (by omega) (by omega)
        rw [bit_a (by omega)] at e
        rw [frs_n (by rw [e]; decide)] at this
        rw [nI_1]; exact this
      · rw [ck (by omega)]
        refine r_boundFor hc z5 ?_
        have := ih f (i + 1) (by omega) (by omega)
        rw [bit_a (by omega)] at e
        rw [frs_y (by simpa using e)] at this
        rw [nI_1]; exact this
  exact key n 3999 0 (by omega) (by omega)
theorem m_free {μ : Sg} {n nr nc r : Nat} {Q : Int32 → Prop} (hn : μ 0 1 = nI n) (z2 : n ≤ 10) (hc : μ 0 11 = nI nc) (z5 : nc ≤ 6) (hr : r < nr) (z4 : nr ≤ 4) (h : Q (frs (μ 7 r) (μ 1) (μ 8) nc n)) : q_Model_freeIn (nI r) μ Q := by
  have key : ∀ k fuel i, i + k = n → k < fuel → q_Model_freeIn_j Q μ fuel 1 (nI r) (frs (μ 7 r) (μ 1) (μ 8) nc i) (nI i) := by
    intro k
    induction k with
    | zero =>
      intro fuel i hi hf
      obtain ⟨f, rfl, -⟩ := fu hf
      obtain rfl : i = n := hi
      exact ⟨fun _ => h, fun h' => absurd (le_end hn (by omega)) h'⟩
    | succ k ih =>
      intro fuel i hi hf
      obtain ⟨f, rfl, hf⟩ := fu hf
      have := ih f (i + 1) (by omega) (by omega)
      refine ⟨fun h' => absurd h' (le_at hn (by omega) (by omega)), fun _ => ⟨vi (by omega), ?_⟩⟩
      rw [ck (k := r) (by omega), ck (k := i) (by omega), bit_b (by omega), nI_1]
      refine ⟨fun e => ⟨vi (by omega), r_standing hc z5 ?_⟩, fun e => ?_⟩
      · rw [frs_y e] at this
        exact this
      · rw [frs_n e] at this
        rw [Int32.add_zero]; exact this
  exact key n 3999 0 (by omega) (by omega)
theorem r_ended {σ : Sg} {nj : Nat} {Q : Int32 → Prop} (hn : σ 0 4 = nI nj) (h6 : nj ≤ 12) (h : Q (nI (cnt (σ 3) 3 nj))) : q_Jobs_ended σ Q := by
  have key : ∀ k fuel i, i + k = nj → k < fuel → q_Jobs_ended_j Q σ fuel 1 (nI (cnt (σ 3) 3 i)) (nI i) := by
    intro k
    induction k with
    | zero =>
      intro fuel i hi hf
      obtain ⟨f, rfl, -⟩ := fu hf
      obtain rfl : i = nj := hi
      exact ⟨fun _ => h, fun h' => absurd (le_end hn (by omega)) h'⟩
    | succ k ih =>
      intro fuel i hi hf
      obtain ⟨f, rfl, hf⟩ := fu hf
      refine ⟨fun h' => absurd h' (le_at hn (by omega) (by omega)), fun _ => ⟨vi (by omega), ?_⟩⟩
      rw [ck (by omega), nI_1 i]
      refine ⟨fun e => ?_, fun e => ?_⟩
      · rw [cnt_y e]; exact ih f (i + 1) (by omega) (by omega)
      · have := ih f (i + 1) (by omega) (by omega)
        rwa [cnt_n e] at this
  exact key nj 3999 0 (by omega) (by omega)
/-- how many of the first k places do not hold -1 -/
def cnm (f : Nat → Int32) : Nat → Nat
  | 0 => 0
  | k + 1 => cnm f k + (if f k = -1 then 0 else 1)
theorem cnm_y {f : Nat → Int32} {k : Nat} (h : ¬ f k = -1) : nI (cnm f k) + 1 = nI (cnm f (k + 1)) := by rw [nI_1]; show _ = nI (cnm f k + (if f k = -1 then 0 else 1)); rw [if_neg h]
theorem cnm_n {f : Nat → Int32} {k : Nat} (h : f k = -1) : cnm f (k + 1) = cnm f k := by show cnm f k + (if f k = -1 then 0 else 1) = _; rw [if_pos h]; rfl
theorem r_onp {σ : Sg} {nc : Nat} {Q : Int32 → Prop} (hn : σ 0 7 = nI nc) (h6 : nc ≤ 6) (h : Q (nI (cnm (σ 2) nc))) : q_Fleet_onPieces σ Q := by
  have key : ∀ k fuel i, i + k = nc → k < fuel → q_Fleet_onPieces_j Q σ fuel 1 (nI (cnm (σ 2) i)) (nI i) := by
    intro k
    induction k with
    | zero =>
      intro fuel i hi hf
      obtain ⟨f, rfl, -⟩ := fu hf
      obtain rfl : i = nc := hi
      exact ⟨fun _ => h, fun h' => absurd (le_end hn (by omega)) h'⟩
    | succ k ih =>
      intro fuel i hi hf
      obtain ⟨f, rfl, hf⟩ := fu hf
      have := ih f (i + 1) (by omega) (by omega)
      refine ⟨fun h' => absurd h' (le_at hn (by omega) (by omega)), fun _ => ⟨vi (by omega), ?_⟩⟩
      rw [ck (by omega), nI_1 i]
      refine ⟨fun e => b0 ?_, fun e => b1 ?_⟩
      · rwa [cnm_n e] at this
      · rw [cnm_y e]; exact this
  exact key nc 3999 0 (by omega) (by omega)
theorem m_cnt {μ : Sg} {nc : Nat} {v : Int32} {Q : Int32 → Sg → Prop} (hn : μ 0 11 = nI nc) (h6 : nc ≤ 6)
    (h : (v = 0 → Q (μ 0 1) μ) ∧ (¬ v = 0 → ((v = 1 → Q (μ 0 4) μ) ∧ (¬ v = 1 → ((v = 2 → Q (μ 0 11) μ) ∧ (¬ v = 2 → ((v = 3 → Q (μ 0 19) μ) ∧ (¬ v = 3 → ((v = 4 → Q (μ 0 24) μ) ∧ (¬ v = 4 → ((v = 5 → Q (sumf (μ 13) nc) μ) ∧ (¬ v = 5 → ((v = 6 → Q (nI (cnm (μ 9) nc)) μ) ∧ (¬ v = 6 → ((v = 7 → Q (μ 0 9) μ) ∧ (¬ v = 7 → Q (-1) μ)))))))))))))))) : q_Model_count_j Q 3999 1 v 0 0 0 μ := by
  have key : ∀ k fuel i, i + k = nc → k < fuel → q_Model_count_j Q fuel 1 v (nI (cnm (μ 9) i)) (sumf (μ 13) i) (nI i) μ := by
    intro k
    induction k with
    | zero =>
      intro fuel i hi hf
      obtain ⟨f, rfl, -⟩ := fu hf
      obtain rfl : i = nc := hi
      exact ⟨fun _ => h, fun h' => absurd (le_end hn (by omega)) h'⟩
    | succ k ih =>
      intro fuel i hi hf
      obtain ⟨f, rfl, hf⟩ := fu hf
      have := ih f (i + 1) (by omega) (by omega)
      refine ⟨fun h' => absurd h' (le_at hn (by omega) (by omega)), fun _ => ⟨vi (by omega), ?_⟩⟩
      rw [ck (by omega), nI_1 i]
      refine ⟨fun e => ⟨vi (by omega), ?_⟩, fun e => ⟨vi (by omega), ?_⟩⟩
      · rw [cnm_n e] at this
        rw [Int32.add_zero]; exact this
      · rw [cnm_y e]; exact this
  exact key nc 3999 0 (by omega) (by omega)
