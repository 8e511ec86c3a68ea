/-! count -/
theorem xor10 {v : Int32} : (0 ≤ (v ^^^ 10)) ↔ 0 ≤ v := by
  rw [Int32.le_iff_toInt_le, Int32.le_iff_toInt_le, show (0 : Int32).toInt = 0 from rfl]
  have h1 := BitVec.msb_eq_toInt (x := (v ^^^ 10).toBitVec)
  have h2 := BitVec.msb_eq_toInt (x := v.toBitVec)
  rw [Int32.toBitVec_xor, BitVec.msb_xor, show (10 : Int32).toBitVec.msb = false from rfl, Bool.xor_false, h2, decide_eq_decide] at h1
  have e1 : (v ^^^ 10).toInt = (v.toBitVec ^^^ (10 : Int32).toBitVec).toInt := by rw [← Int32.toBitVec_xor]; rfl
  have e2 : v.toInt = v.toBitVec.toInt := rfl
  omega
theorem fm_any {v : Int32} {Q : Int32 → Prop} (h : ∀ r, Q r) : q_Math_floorMod v 10 Q := ⟨by decide, fun _ => h _, fun _ => ⟨fun _ => h _, fun _ => h _⟩⟩
theorem fm_at {w : Nat} {Q : Int32 → Prop} (hw : w < 50) (h : Q (nI (w % 10))) : q_Math_floorMod (nI w) 10 Q := by
  refine ⟨by decide, fun _ => ?_, fun h1 => absurd (xor10.mpr (nI_pos' (by omega))) h1⟩
  rw [show (10 : Int32) = nI 10 from rfl, pk_rem (by omega) (by decide) (by decide)]; exact h
theorem fd_at {w : Nat} {Q : Int32 → Prop} (hw : w < 50) (h : Q (nI (w / 10))) : q_Math_floorDiv (nI w) 10 Q := by
  refine ⟨by decide, fun _ => ?_, fun h1 => absurd (xor10.mpr (nI_pos' (by omega))) h1⟩
  rw [show (10 : Int32) = nI 10 from rfl, pk_div (by omega) (by decide) (by decide)]; exact h
theorem fd_out {v : Int32} {Q : Int32 → Prop} (hv : v < 0 ∨ 50 ≤ v) (h : ∀ r : Int32, r < 0 ∨ 4 < r → Q r) : q_Math_floorDiv v 10 Q := by
  have ed : (v / 10).toInt = v.toInt.tdiv 10 := Int32.toInt_div_of_ne_right v 10 (by decide)
  have e1 := v.toInt_lt
  have e2 := v.le_toInt
  refine ⟨by decide, fun h1 => h _ ?_, fun h1 => ⟨fun h2 => h _ ?_, fun h2 => h _ ?_⟩⟩
  · rw [xor10] at h1
    rcases hv with hv | hv
    · exact absurd hv (Int32.not_lt.mpr h1)
    · refine Or.inr ?_
      rw [Int32.le_iff_toInt_le, show (50 : Int32).toInt = 50 from rfl] at hv
      rw [Int32.lt_iff_toInt_lt, show (4 : Int32).toInt = 4 from rfl, ed]
      omega
  · rw [xor10] at h1
    have h3 := Int32.not_le.mp h1
    rw [Int32.lt_iff_toInt_lt, show (0 : Int32).toInt = 0 from rfl] at h3
    refine Or.inl ?_
    rw [Int32.lt_iff_toInt_lt, show (0 : Int32).toInt = 0 from rfl, ed]
    have h4 := congrArg Int32.toInt h2
    rw [Int32.toInt_mul, ed, show (10 : Int32).toInt = 10 from rfl] at h4
    have : v.toInt.tdiv 10 ≤ 0 := by omega
    by_cases h5 : v.toInt.tdiv 10 = 0
    · rw [h5] at h4
      simp at h4
      omega
    · omega
  · rw [xor10] at h1
    have h3 := Int32.not_le.mp h1
    rw [Int32.lt_iff_toInt_lt, show (0 : Int32).toInt = 0 from rfl] at h3
    refine Or.inl ?_
    rw [Int32.lt_iff_toInt_lt, show (0 : Int32).toInt = 0 from rfl, Int32.toInt_sub_of_not_subOverflow, ed]
    · show v.toInt.tdiv 10 - 1 < 0
      omega
    · unfold BitVec.ssubOverflow
      show ¬ (decide ((v / 10).toInt - 1 ≥ 2 ^ 31) || decide ((v / 10).toInt - 1 < - 2 ^ 31)) = true
      rw [ed]
      simp
      omega
