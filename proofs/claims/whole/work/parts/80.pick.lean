/-! the choice, without the machine: the best worth of the last r jobs where a set s of carriers is taken; a given job is worth K less its travel -/
noncomputable def rowc (K : Nat) (o : Nat → Prop) (t : Nat → Nat) (prev : Nat → Nat) (s : Nat) : Nat → Nat
  | 0 => prev s
  | c + 1 => @ite _ (o c ∧ s.testBit c = false) (Classical.propDecidable _) (max (rowc K o t prev s c) (K - t c + prev (s ||| 2 ^ c))) (rowc K o t prev s c)
noncomputable def bst (K nc nj : Nat) (o : Nat → Nat → Prop) (t : Nat → Nat → Nat) : Nat → Nat → Nat
  | 0 => fun _ => 0
  | r + 1 => fun s => rowc K (o (nj - (r + 1))) (t (nj - (r + 1))) (bst K nc nj o t r) s nc
theorem rowc_y {K : Nat} {o : Nat → Prop} {t prev : Nat → Nat} {s c : Nat} (h : o c) (hb : s.testBit c = false) : rowc K o t prev s (c + 1) = max (rowc K o t prev s c) (K - t c + prev (s ||| 2 ^ c)) := if_pos ⟨h, hb⟩
theorem rowc_n {K : Nat} {o : Nat → Prop} {t prev : Nat → Nat} {s c : Nat} (h : ¬ (o c ∧ s.testBit c = false)) : rowc K o t prev s (c + 1) = rowc K o t prev s c := if_neg h
theorem bst_s {K nc nj : Nat} {o : Nat → Nat → Prop} {t : Nat → Nat → Nat} {j s : Nat} (hj : j < nj) : bst K nc nj o t (nj - j) s = rowc K (o j) (t j) (bst K nc nj o t (nj - (j + 1))) s nc := by
  obtain ⟨r, hr⟩ : ∃ r, nj - j = r + 1 := ⟨nj - j - 1, by omega⟩
  rw [hr, show nj - (j + 1) = r by omega]
  show rowc K (o (nj - (r + 1))) (t (nj - (r + 1))) (bst K nc nj o t r) s nc = _
  rw [show nj - (r + 1) = j by omega]
/-- how many carriers a set has -/
def pc (s : Nat) : Nat := s % 2 + s / 2 % 2 + s / 4 % 2 + s / 8 % 2 + s / 16 % 2 + s / 32 % 2
theorem pc_le (s : Nat) : pc s ≤ 6 := by unfold pc; omega
theorem pc_or : ∀ s, s < 64 → ∀ c, c < 6 → s.testBit c = false → pc (s ||| 2 ^ c) = pc s + 1 := by decide +kernel
theorem or_lt : ∀ s, s < 64 → ∀ c, c < 6 → s ||| 2 ^ c < 64 := by decide +kernel
/-- the same choice's worth by both: k jobs given, travel t -/
def Rel (m x y : Nat) : Prop := ∃ k t, k ≤ m ∧ t ≤ 900 * k ∧ x + t = 6000 * k ∧ y + t = 100000 * k
theorem rel_le {m x y x' y' : Nat} (hm : m ≤ 6) (h : Rel m x y) (h' : Rel m x' y') : x ≤ x' ↔ y ≤ y' := by
  obtain ⟨k, t, h1, h2, h3, h4⟩ := h
  obtain ⟨k', t', g1, g2, g3, g4⟩ := h'
  omega
theorem rel_eq {m x y x' y' : Nat} (hm : m ≤ 6) (h : Rel m x y) (h' : Rel m x' y') : x = x' ↔ y = y' := by
  have h1 := rel_le hm h h'
  have h2 := rel_le hm h' h
  omega
theorem rel_max {m x y x' y' : Nat} (hm : m ≤ 6) (h : Rel m x y) (h' : Rel m x' y') : Rel m (max x x') (max y y') := by
  have h1 := rel_le hm h h'
  by_cases hx : x ≤ x'
  · rw [Nat.max_eq_right hx, Nat.max_eq_right (h1.mp hx)]; exact h'
  · rw [Nat.max_eq_left (by omega), Nat.max_eq_left (by omega)]; exact h
theorem rel_add {m x y t : Nat} (ht : t ≤ 900) (h : Rel m x y) : Rel (m + 1) (6000 - t + x) (100000 - t + y) := by
  obtain ⟨k, w, h1, h2, h3, h4⟩ := h
  exact ⟨k + 1, w + t, by omega, by omega, by omega, by omega⟩
theorem rel_up {m m' x y : Nat} (hm : m ≤ m') (h : Rel m x y) : Rel m' x y := by
  obtain ⟨k, w, h1, h2⟩ := h
  exact ⟨k, w, by omega, h2⟩
theorem rel_bd {m x y : Nat} (hm : m ≤ 6) (h : Rel m x y) : x ≤ 36000 ∧ y ≤ 600000 := by
  obtain ⟨k, w, h1, h2, h3, h4⟩ := h
  omega
theorem rel_with {s c t : Nat} {p p' : Nat → Nat} (hs : s < 64) (hc : c < 6) (hb : s.testBit c = false) (ht : t ≤ 900) (hp : ∀ s, s < 64 → Rel (6 - pc s) (p s) (p' s)) : Rel (6 - pc s) (6000 - t + p (s ||| 2 ^ c)) (100000 - t + p' (s ||| 2 ^ c)) := by
  have h1 := pc_or s hs c hc hb
  have h2 := pc_le (s ||| 2 ^ c)
  have h3 := hp (s ||| 2 ^ c) (or_lt s hs c hc)
  have h4 := rel_add ht h3
  rw [show 6 - pc (s ||| 2 ^ c) + 1 = 6 - pc s by omega] at h4
  exact h4
theorem rel_row {nc s : Nat} {o : Nat → Prop} {t p p' : Nat → Nat} (hs : s < 64) (h6 : nc ≤ 6) (ht : ∀ c, c < nc → o c → t c ≤ 900) (hp : ∀ s, s < 64 → Rel (6 - pc s) (p s) (p' s)) : ∀ c, c ≤ nc → Rel (6 - pc s) (rowc 6000 o t p s c) (rowc 100000 o t p' s c) := by
  intro c
  induction c with
  | zero => intro _; exact hp s hs
  | succ c ih =>
    intro hc
    by_cases h : o c ∧ s.testBit c = false
    · rw [rowc_y h.1 h.2, rowc_y h.1 h.2]
      exact rel_max (by omega) (ih (by omega)) (rel_with hs (by omega) h.2 (ht c (by omega) h.1) hp)
    · rw [rowc_n h, rowc_n h]; exact ih (by omega)
theorem rel_bst {nc nj : Nat} {o : Nat → Nat → Prop} {t : Nat → Nat → Nat} (h6 : nc ≤ 6) (ht : ∀ j c, j < nj → c < nc → o j c → t j c ≤ 900) : ∀ r, r ≤ nj → ∀ s, s < 64 → Rel (6 - pc s) (bst 6000 nc nj o t r s) (bst 100000 nc nj o t r s) := by
  intro r
  induction r with
  | zero => intro _ s _; exact ⟨0, 0, by omega, by omega, rfl, rfl⟩
  | succ r ih =>
    intro hr s hs
    exact rel_row hs h6 (fun c hc => ht (nj - (r + 1)) c (by omega) hc) (ih (by omega)) nc (Nat.le_refl _)
/-- carrier c reaches the best for job j where s is taken -/
def pP (K nc nj : Nat) (o : Nat → Nat → Prop) (t : Nat → Nat → Nat) (j s c : Nat) : Prop := o j c ∧ s.testBit c = false ∧ K - t j c + bst K nc nj o t (nj - (j + 1)) (s ||| 2 ^ c) = bst K nc nj o t (nj - j) s
theorem pP_same {nc nj : Nat} {o : Nat → Nat → Prop} {t : Nat → Nat → Nat} (h6 : nc ≤ 6) (ht : ∀ j c, j < nj → c < nc → o j c → t j c ≤ 900) {j s c : Nat} (hj : j < nj) (hs : s < 64) (hc : c < nc) : pP 6000 nc nj o t j s c ↔ pP 100000 nc nj o t j s c := by
  unfold pP
  constructor
  · rintro ⟨h1, h2, h3⟩
    exact ⟨h1, h2, (rel_eq (by omega) (rel_with hs (by omega) h2 (ht j c hj hc h1) (rel_bst h6 ht _ (by omega))) (rel_bst h6 ht _ (by omega) s hs)).mp h3⟩
  · rintro ⟨h1, h2, h3⟩
    exact ⟨h1, h2, (rel_eq (by omega) (rel_with hs (by omega) h2 (ht j c hj hc h1) (rel_bst h6 ht _ (by omega))) (rel_bst h6 ht _ (by omega) s hs)).mpr h3⟩
theorem fst_iff {P P' : Nat → Prop} {np : Nat} {r : Int32} (h : ∀ k, k < np → (P k ↔ P' k)) (hr : isFst P np r) : isFst P' np r := by
  rcases hr with ⟨h1, h2⟩ | ⟨k, h1, h2, h3, h4⟩
  · exact Or.inl ⟨h1, fun k hk hp => h2 k hk ((h k hk).mpr hp)⟩
  · exact Or.inr ⟨k, h1, h2, (h k h1).mp h3, fun j hj hp => h4 j hj ((h j (by omega)).mpr hp)⟩
/-! the sets as bits -/
theorem bt_a : ∀ s, s < 64 → ∀ c, c < 6 → (nI s &&& ((1 : Int32) <<< (nI c &&& 31)) = 0 ↔ s.testBit c = false) := by decide +kernel
theorem bt_o : ∀ s, s < 64 → ∀ c, c < 6 → nI s ||| ((1 : Int32) <<< (nI c &&& 31)) = nI (s ||| 2 ^ c) := by decide +kernel
theorem bt_m : ∀ s, s < 64 → ∀ c, c < 6 → (((nI s >>> (nI c &&& 31)) &&& 1 = 1) ↔ (63 - s).testBit c = false) := by decide +kernel
theorem bt_d : ∀ s, s < 64 → ∀ c, c < 6 → nI s &&& (((1 : Int32) <<< (nI c &&& 31)) ^^^ (-1)) = nI (63 - ((63 - s) ||| 2 ^ c)) := by decide +kernel
theorem bt_s : ∀ s, s < 64 → ∀ a, a < 64 → (nI s &&& (nI a ^^^ (-1)) = 0 ↔ s &&& a = s) := by decide +kernel
theorem bt_so : ∀ s, s < 64 → ∀ a, a < 64 → ∀ c, c < 6 → s &&& a = s → a.testBit c = true → (s ||| 2 ^ c) &&& a = (s ||| 2 ^ c) := by decide +kernel
theorem bt_self : ∀ s, s < 64 → ∀ c, c < 6 → (s ||| 2 ^ c).testBit c = true := by decide +kernel
theorem bt_keep1 : ∀ s, s < 64 → ∀ c, c < 6 → ∀ d, d < 6 → (s ||| 2 ^ c).testBit d = false → s.testBit d = false := by decide +kernel
theorem bt_keep {s c d : Nat} (hs : s < 64) (hc : c < 6) (hd : d < 6) (h : (s ||| 2 ^ c).testBit d = false) : s.testBit d = false ∧ d ≠ c :=
  ⟨bt_keep1 s hs c hc d hd h, fun e => by rw [e, bt_self s hs c hc] at h; exact absurd h (by decide)⟩
theorem ix64 : ∀ j, j < 13 → nI j <<< ((6 : Int32) &&& 31) = nI (j * 64) := by decide +kernel
theorem ix6 {a b : Nat} : nI a * 6 + nI b = nI (a * 6 + b) := by
  rw [show (6 : Int32) = nI 6 from rfl, pk_mul, nI_add]
theorem ix46 {a b : Nat} : (64 : Int32) * nI a + nI b = nI (64 * a + b) := by
  rw [show (64 : Int32) = nI 64 from rfl, pk_mul, nI_add]
