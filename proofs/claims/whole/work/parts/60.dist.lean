/-! LEAST TIMES: a table of least times over a set E of pieces (a, c, t), capped at F: what it is, that there is one only, that a piece more is one look at each pair -/
def ds_ok (n F : Nat) (E : Nat → Nat → Nat → Prop) (D : Nat → Nat → Nat) : Prop :=
  (∀ a, a < n → D a a = 0) ∧ (∀ a b, a < n → b < n → D a b ≤ F) ∧
  (∀ a c t b, E a c t → b < n → D a b ≤ t + D c b) ∧
  (∀ a b, a < n → b < n → a ≠ b → D a b < F → ∃ c t, E a c t ∧ D a b = t + D c b)
def ds_E (n : Nat) (E : Nat → Nat → Nat → Prop) : Prop := ∀ a c t, E a c t → a < n ∧ c < n ∧ 1 ≤ t ∧ t ≤ 100
theorem ds_le {n F : Nat} {E : Nat → Nat → Nat → Prop} {D D' : Nat → Nat → Nat} (hE : ds_E n E) (h : ds_ok n F E D) (h' : ds_ok n F E D') :
    ∀ (k a b : Nat), a < n → b < n → D' a b ≤ k → D a b ≤ D' a b := by
  intro k
  induction k with
  | zero =>
    intro a b ha hb hk
    by_cases hab : a = b
    · subst hab; rw [h.1 a ha]; exact Nat.zero_le _
    · by_cases hF : D' a b < F
      · obtain ⟨c, t, he, heq⟩ := h'.2.2.2 a b ha hb hab hF
        have := (hE a c t he).2.2.1
        omega
      · have := h.2.1 a b ha hb
        omega
  | succ k ih =>
    intro a b ha hb hk
    by_cases hab : a = b
    · subst hab; rw [h.1 a ha]; exact Nat.zero_le _
    · by_cases hF : D' a b < F
      · obtain ⟨c, t, he, heq⟩ := h'.2.2.2 a b ha hb hab hF
        have h1 := hE a c t he
        have h2 := ih c b h1.2.1 hb (by omega)
        have h3 := h.2.2.1 a c t b he hb
        omega
      · have := h.2.1 a b ha hb
        omega
theorem ds_one {n F : Nat} {E : Nat → Nat → Nat → Prop} {D D' : Nat → Nat → Nat} (hE : ds_E n E) (h : ds_ok n F E D) (h' : ds_ok n F E D') {a b : Nat} (ha : a < n) (hb : b < n) : D a b = D' a b :=
  Nat.le_antisymm (ds_le hE h h' _ a b ha hb (Nat.le_refl _)) (ds_le hE h' h _ a b ha hb (Nat.le_refl _))
def ds_via (D : Nat → Nat → Nat) (u v t : Nat) (a b : Nat) : Nat := min (D a b) (D a u + t + D v b)
theorem ds_add {n F : Nat} {E : Nat → Nat → Nat → Prop} {D : Nat → Nat → Nat} {u v t : Nat} (hE : ds_E n E) (h : ds_ok n F E D) (hu : u < n) (hv : v < n) :
    ds_ok n F (fun a c w => E a c w ∨ (a = u ∧ c = v ∧ w = t)) (ds_via D u v t) := by
  obtain ⟨h0, hF, hT, hA⟩ := h
  have tri : ∀ a c w b, (E a c w ∨ (a = u ∧ c = v ∧ w = t)) → b < n → ds_via D u v t a b ≤ w + ds_via D u v t c b := by
    intro a c w b he hb
    unfold ds_via
    rcases he with he | ⟨rfl, rfl, rfl⟩
    · have h1 := hT a c w b he hb
      have h2 := hT a c w u he hu
      omega
    · have h1 := h0 a hu
      omega
  refine ⟨fun a ha => ?_, fun a b ha hb => ?_, tri, fun a b ha hb hab hlt => ?_⟩
  · unfold ds_via; rw [h0 a ha]; omega
  · have := hF a b ha hb
    unfold ds_via; omega
  · by_cases hc : D a b ≤ D a u + t + D v b
    · have he : ds_via D u v t a b = D a b := by unfold ds_via; omega
      obtain ⟨c, w, h1, h2⟩ := hA a b ha hb hab (by omega)
      have h3 := tri a c w b (Or.inl h1) hb
      have h4 : ds_via D u v t c b ≤ D c b := by unfold ds_via; omega
      exact ⟨c, w, Or.inl h1, by omega⟩
    · have he : ds_via D u v t a b = D a u + t + D v b := by unfold ds_via; omega
      by_cases hau : a = u
      · subst hau
        have h3 := tri a v t b (Or.inr ⟨rfl, rfl, rfl⟩) hb
        have h4 : ds_via D a v t v b ≤ D v b := by unfold ds_via; omega
        have h5 := h0 a ha
        exact ⟨v, t, Or.inr ⟨rfl, rfl, rfl⟩, by omega⟩
      · obtain ⟨c, w, h1, h2⟩ := hA a u ha hu hau (by omega)
        have h3 := tri a c w b (Or.inl h1) hb
        have h4 : ds_via D u v t c b ≤ D c u + t + D v b := by unfold ds_via; omega
        exact ⟨c, w, Or.inl h1, by omega⟩
theorem ds_none {n F : Nat} (hF : 0 < F) : ds_ok n F (fun _ _ _ => False) (fun a b => if a = b then 0 else F) := by
  refine ⟨fun a _ => by simp, fun a b _ _ => ?_, fun _ _ _ _ h => h.elim, fun a b _ _ hab h => ?_⟩
  · by_cases h : a = b <;> simp [h]
  · simp [hab] at h
theorem ds_ext {n F : Nat} {E E' : Nat → Nat → Nat → Prop} {D D' : Nat → Nat → Nat} (h : ds_ok n F E D) (he : ∀ a c t, E a c t ↔ E' a c t) (hE : ds_E n E) (hd : ∀ a b, a < n → b < n → D a b = D' a b) : ds_ok n F E' D' := by
  refine ⟨fun a ha => by rw [← hd a a ha ha]; exact h.1 a ha, fun a b ha hb => by rw [← hd a b ha hb]; exact h.2.1 a b ha hb, fun a c t b he' hb => ?_, fun a b ha hb hab hlt => ?_⟩
  · have h1 := (he a c t).mpr he'
    have h2 := hE a c t h1
    rw [← hd a b h2.1 hb, ← hd c b h2.2.1 hb]
    exact h.2.2.1 a c t b h1 hb
  · rw [← hd a b ha hb] at hlt
    obtain ⟨c, t, h1, h2⟩ := h.2.2.2 a b ha hb hab hlt
    have h3 := hE a c t h1
    exact ⟨c, t, (he a c t).mp h1, by rw [← hd a b ha hb, ← hd c b h3.2.1 hb]; exact h2⟩
/-- how many of the first n points come ahead of x on the way to b -/
def ds_rk (D : Nat → Nat → Nat) (b x : Nat) : Nat → Nat
  | 0 => 0
  | p + 1 => ds_rk D b x p + (if D p b < x then 1 else 0)
theorem ds_rk_le (D : Nat → Nat → Nat) (b : Nat) {x y : Nat} (h : x ≤ y) : ∀ n, ds_rk D b x n ≤ ds_rk D b y n := by
  intro n
  induction n with
  | zero => exact Nat.le_refl _
  | succ n ih =>
    unfold ds_rk
    by_cases h1 : D n b < x
    · rw [if_pos h1, if_pos (by omega)]; omega
    · rw [if_neg h1]; omega
theorem ds_rk_lt (D : Nat → Nat → Nat) (b : Nat) {x y c : Nat} (h : x ≤ y) (hx : ¬ D c b < x) (hy : D c b < y) : ∀ n, c < n → ds_rk D b x n + 1 ≤ ds_rk D b y n := by
  intro n
  induction n with
  | zero => intro h; omega
  | succ n ih =>
    intro hc
    unfold ds_rk
    by_cases hcn : c = n
    · subst hcn
      have := ds_rk_le D b h c
      rw [if_neg hx, if_pos hy]; omega
    · have := ih (by omega)
      by_cases h1 : D n b < x
      · rw [if_pos h1, if_pos (by omega)]; omega
      · rw [if_neg h1]; omega
theorem ds_rk_n (D : Nat → Nat → Nat) (b x : Nat) : ∀ n, ds_rk D b x n ≤ n := by
  intro n
  induction n with
  | zero => exact Nat.le_refl _
  | succ n ih => unfold ds_rk; by_cases h1 : D n b < x <;> simp [h1] <;> omega
theorem ds_rk_own (D : Nat → Nat → Nat) (b : Nat) {a x : Nat} (h : ¬ D a b < x) : ∀ n, a < n → ds_rk D b x n + 1 ≤ n := by
  intro n
  induction n with
  | zero => intro h; omega
  | succ n ih =>
    intro ha
    unfold ds_rk
    by_cases han : a = n
    · subst han
      have := ds_rk_n D b x a
      rw [if_neg h]; omega
    · have := ih (by omega)
      by_cases h1 : D n b < x <;> simp [h1] <;> omega
theorem ds_cap {n F : Nat} {E : Nat → Nat → Nat → Prop} {D : Nat → Nat → Nat} (hE : ds_E n E) (h : ds_ok n F E D) :
    ∀ (k a b : Nat), a < n → b < n → D a b ≤ k → D a b < F → D a b ≤ 100 * ds_rk D b (D a b) n := by
  intro k
  induction k with
  | zero => intro a b _ _ hk _; omega
  | succ k ih =>
    intro a b ha hb hk hF
    by_cases hab : a = b
    · subst hab; rw [h.1 a ha]; exact Nat.zero_le _
    · obtain ⟨c, t, he, heq⟩ := h.2.2.2 a b ha hb hab hF
      have h1 := hE a c t he
      have h2 := ih c b h1.2.1 hb (by omega) (by omega)
      have h3 := ds_rk_lt D b (x := D c b) (y := D a b) (c := c) (by omega) (by omega) (by omega) n h1.2.1
      omega
/-- a way takes less than 100 a point -/
theorem ds_small {n F : Nat} {E : Nat → Nat → Nat → Prop} {D : Nat → Nat → Nat} (hE : ds_E n E) (h : ds_ok n F E D) {a b : Nat} (ha : a < n) (hb : b < n) (hF : D a b < F) : D a b + 100 ≤ 100 * n := by
  have h1 := ds_cap hE h _ a b ha hb (Nat.le_refl _) hF
  have h2 := ds_rk_own D b (a := a) (x := D a b) (Nat.lt_irrefl _) n ha
  omega
