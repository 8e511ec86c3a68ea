/-! RULES: what a predicate of a small method asks, at numbers that are places -/
theorem vi {k N : Nat} (h : k < N) (hN : N < 2000 := by decide) : vp_in (nI k) N := vp_in_nI h (by omega)
theorem ck {k : Nat} (h : k < 2000) : (nI k).toNatClampNeg = k := nI_clamp (by omega)
theorem nb0 : narrow .boolean (.int 0) = .int 0 := by decide
theorem nb1 : narrow .boolean (.int 1) = .int 1 := by decide
theorem nbz {x : Int32} (h : x = 0 ∨ x = 1) : narrow .boolean (.int x) = .int x := by rcases h with rfl | rfl <;> decide
theorem vnz {x : Int32} (h : x = 0 ∨ x = 1) : vp_nar .boolean x = x := by rcases h with rfl | rfl <;> decide
/-- a number is one of the first n -/
def isIx (v : Int32) (n : Nat) : Prop := ∃ p, p < n ∧ v = nI p
theorem ix_no {v : Int32} {n : Nat} (hn : n < 2000) (h : ¬ isIx v n) : v < 0 ∨ nI n ≤ v := by
  rcases pk_ix v (n := n) (by omega) with h1 | h1 | ⟨j, hj, e⟩
  · exact Or.inl h1
  · exact Or.inr h1
  · exact absurd ⟨j, hj, e⟩ h
theorem has_y {P A B : Prop} {m : Int32} {n p : Nat} (hm : m = nI n) (hn : n < 2000) (hp : p < n) (h : B) : (nI p < 0 → A) ∧ (¬ nI p < 0 → ((m ≤ nI p → A) ∧ (¬ m ≤ nI p → B))) :=
  ⟨fun h1 => absurd h1 (nI_pos (by omega)), fun _ => ⟨fun h1 => absurd h1 (by rw [hm]; exact nI_ge hp (by omega)), fun _ => h⟩⟩
theorem has_n {A B : Prop} {m v : Int32} {n : Nat} (hm : m = nI n) (hn : n < 2000) (hv : ¬ isIx v n) (h : A) : (v < 0 → A) ∧ (¬ v < 0 → ((m ≤ v → A) ∧ (¬ m ≤ v → B))) :=
  ⟨fun _ => h, fun h1 => ⟨fun _ => h, fun h2 => absurd ((ix_no hn hv).resolve_left h1) (by rw [← hm]; exact h2)⟩⟩
/-- how many of the first k places hold v -/
def cnt (f : Nat → Int32) (v : Int32) : Nat → Nat
  | 0 => 0
  | k + 1 => cnt f v k + (if f k = v then 1 else 0)
theorem cnt_le (f : Nat → Int32) (v : Int32) : ∀ k, cnt f v k ≤ k
  | 0 => Nat.le_refl _
  | k + 1 => by
    have := cnt_le f v k
    unfold cnt
    by_cases h : f k = v <;> simp [h] <;> omega
theorem cnt_y {f : Nat → Int32} {v : Int32} {k : Nat} (h : f k = v) : nI (cnt f v k) + 1 = nI (cnt f v (k + 1)) := by rw [nI_1]; show _ = nI (cnt f v k + (if f k = v then 1 else 0)); rw [if_pos h]
theorem cnt_n {f : Nat → Int32} {v : Int32} {k : Nat} (h : ¬ f k = v) : cnt f v (k + 1) = cnt f v k := by show cnt f v k + (if f k = v then 1 else 0) = _; rw [if_neg h]; rfl
theorem le_at {m : Int32} {n i : Nat} (hm : m = nI n) (hn : n < 2000) (hi : i < n) : ¬ m ≤ nI i := by rw [hm]; exact nI_ge hi (by omega)
theorem le_end {m : Int32} {n : Nat} (hm : m = nI n) (hn : n < 2000) : m ≤ nI n := by rw [hm]; exact nI_le (Nat.le_refl _) (by omega)
theorem fu {fuel k : Nat} (h : k < fuel) : ∃ f, fuel = f + 1 ∧ k ≤ f := ⟨fuel - 1, by omega, by omega⟩
theorem r_boundFor {σ : Sg} {nc : Nat} {v : Int32} {Q : Int32 → Prop} (hn : σ 0 7 = nI nc) (h6 : nc ≤ 6) (h : Q (nI (cnt (σ 1) v nc))) : q_Fleet_boundFor v σ Q := by
  have key : ∀ k fuel i, i + k = nc → k < fuel → q_Fleet_boundFor_j Q σ fuel 1 v (nI (cnt (σ 1) v i)) (nI i) := by
    intro k
    induction k with
    | zero =>
      intro fuel i hi hf
      obtain ⟨f, rfl, -⟩ := fu hf
      obtain rfl : i = nc := hi
      exact ⟨fun _ => h, fun h' => absurd (le_end hn (by omega)) h'⟩
    | succ k ih =>
      intro fuel i hi hf
      obtain ⟨f, rfl, hf⟩ := fu hf
      refine ⟨fun h' => absurd h' (le_at hn (by omega) (by omega)), fun _ => ⟨vi (by omega), ?_⟩⟩
      rw [ck (by omega), nI_1 i]
      refine ⟨fun e => ?_, fun e => ?_⟩
      · rw [cnt_y e]; exact ih f (i + 1) (by omega) (by omega)
      · have := ih f (i + 1) (by omega) (by omega)
        rwa [cnt_n e] at this
  exact key nc 3999 0 (by omega) (by omega)
theorem r_standing {σ : Sg} {nc : Nat} {v : Int32} {Q : Int32 → Prop} (hn : σ 0 11 = nI nc) (h6 : nc ≤ 6) (h : Q (nI (cnt (σ 8) v nc))) : q_Model_standing v σ Q := by
  have key : ∀ k fuel i, i + k = nc → k < fuel → q_Model_standing_j Q σ fuel 1 v (nI (cnt (σ 8) v i)) (nI i) := by
    intro k
    induction k with
    | zero =>
      intro fuel i hi hf
      obtain ⟨f, rfl, -⟩ := fu hf
      obtain rfl : i = nc := hi
      exact ⟨fun _ => h, fun h' => absurd (le_end hn (by omega)) h'⟩
    | succ k ih =>
      intro fuel i hi hf
      obtain ⟨f, rfl, hf⟩ := fu hf
      refine ⟨fun h' => absurd h' (le_at hn (by omega) (by omega)), fun _ => ⟨vi (by omega), ?_⟩⟩
      rw [ck (by omega), nI_1 i]
      refine ⟨fun e => ?_, fun e => ?_⟩
      · rw [cnt_y e]; exact ih f (i + 1) (by omega) (by omega)
      · have := ih f (i + 1) (by omega) (by omega)
        rw [cnt_n e] at this
        rw [show nI (cnt (σ 8) v i) + 0 = nI (cnt (σ 8) v i) from Int32.add_zero _]
        exact this
  exact key nc 3999 0 (by omega) (by omega)
