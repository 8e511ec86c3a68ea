/-! THE LAW'S WORLD: the program's, the reference's, the array 'out' -/
def W_L (ad : Nat → Nat → Nat) (am : Nat → Nat) (oa : Nat) (cI cZ cJ : ClassId) (σ : SG) (μ : Sg) (f : Nat → Int64) : va_W := W_Face ad cI cZ σ ++ (W_Model am cI cZ μ ++ [(oa, .inl (cJ, 1, .inr (.inl f)))])
def lA (ad : Nat → Nat → Nat) (am : Nat → Nat) (oa : Nat) : Nat → Nat := fun i => if i < 29 then fA ad i else if i < 50 then am (i - 29) else oa
theorem lA_F {ad : Nat → Nat → Nat} {am : Nat → Nat} {oa i : Nat} (h : i < 29) : lA ad am oa i = fA ad i := by unfold lA; rw [if_pos h]
theorem lA_M {ad : Nat → Nat → Nat} {am : Nat → Nat} {oa i : Nat} (h : i < 21) : lA ad am oa (29 + i) = am i := by unfold lA; rw [if_neg (by omega), if_pos (by omega)]; congr 1; omega
theorem lA_o {ad : Nat → Nat → Nat} {am : Nat → Nat} {oa : Nat} : lA ad am oa 50 = oa := rfl
def lE (D : va_G) (cI cZ cJ : ClassId) (ad : Nat → Nat → Nat) (am : Nat → Nat) (oa : Nat) (s : State) : Prop := va_K D classes (tysL cI cZ cJ) s ∧ Inj (lA ad am oa) 51 ∧ (∀ i, i < 51 → s.heap.size ≤ lA ad am oa i) ∧ xTh s ∧ va_Nc "java/lang/IllegalStateException" "java/lang/IllegalArgumentException" s
section LE
variable {D : va_G} {cI cZ cJ : ClassId} {ad : Nat → Nat → Nat} {am : Nat → Nat} {oa : Nat} {s : State}
theorem lE.iF (h : lE D cI cZ cJ ad am oa s) : Inj (fA ad) 29 := fun i j hi hj e => h.2.1 i j (by omega) (by omega) (by rw [lA_F hi, lA_F hj, e])
theorem lE.iM (h : lE D cI cZ cJ ad am oa s) : Inj am 21 := fun i j hi hj e => by
  have := h.2.1 (29 + i) (29 + j) (by omega) (by omega) (by rw [lA_M hi, lA_M hj, e])
  omega
theorem lE.no (h : lE D cI cZ cJ ad am oa s) : ¬ inA (fA ad) 29 oa := fun ⟨k, hk, e⟩ => by
  have := h.2.1 50 k (by omega) (by omega) (by rw [lA_F hk, lA_o, e])
  omega
theorem lE.sF (h : lE D cI cZ cJ ad am oa s) {q : Nat} (hq : inA (fA ad) 29 q) : s.heap.size ≤ q := by
  obtain ⟨k, hk, rfl⟩ := hq
  rw [← lA_F (ad := ad) (am := am) (oa := oa) hk]; exact h.2.2.1 k (by omega)
theorem lE.sM (h : lE D cI cZ cJ ad am oa s) {q : Nat} (hq : inA am 21 q) : s.heap.size ≤ q := by
  obtain ⟨k, hk, rfl⟩ := hq
  rw [← lA_M (ad := ad) (am := am) (oa := oa) hk]; exact h.2.2.1 (29 + k) (by omega)
theorem lE.sX (h : lE D cI cZ cJ ad am oa s) {q : Nat} (hq : A2 ad oa q) : s.heap.size ≤ q := by
  rcases hq with hq | rfl
  · exact h.sF hq
  · exact h.2.2.1 50 (by omega)
theorem at_L {σ : SG} {μ : Sg} {f : Nat → Int64} {k : Nat} {q : Nat × va_E} (h : (W_L ad am oa cI cZ cJ σ μ f)[k]? = some q) : k < 51 ∧ q.1 = lA ad am oa k := at_of rfl h
end LE
theorem l_F {D : va_G} {cI cZ cJ : ClassId} {ad : Nat → Nat → Nat} {am : Nat → Nat} {oa : Nat} {σ : SG} {μ : Sg} {f : Nat → Int64} {H : Heap} (hP : va_P D classes (W_L ad am oa cI cZ cJ σ μ f) H) : va_P D classes (W_Face ad cI cZ σ) H := hP.sub [0, 1, 2, 3, 4, 5, 6, 7, 8, 9, 10, 11, 12, 13, 14, 15, 16, 17, 18, 19, 20, 21, 22, 23, 24, 25, 26, 27, 28] rfl
theorem l_M {D : va_G} {cI cZ cJ : ClassId} {ad : Nat → Nat → Nat} {am : Nat → Nat} {oa : Nat} {σ : SG} {μ : Sg} {f : Nat → Int64} {H : Heap} (hP : va_P D classes (W_L ad am oa cI cZ cJ σ μ f) H) : va_P D classes (W_Model am cI cZ μ) H := hP.sub [29, 30, 31, 32, 33, 34, 35, 36, 37, 38, 39, 40, 41, 42, 43, 44, 45, 46, 47, 48, 49] rfl
theorem l_X {D : va_G} {cI cZ cJ : ClassId} {ad : Nat → Nat → Nat} {am : Nat → Nat} {oa : Nat} {σ : SG} {μ : Sg} {f : Nat → Int64} {H : Heap} (hP : va_P D classes (W_L ad am oa cI cZ cJ σ μ f) H) : va_P D classes (W_X2 ad cI cZ σ oa cJ f) H := hP.sub [0, 1, 2, 3, 4, 5, 6, 7, 8, 9, 10, 11, 12, 13, 14, 15, 16, 17, 18, 19, 20, 21, 22, 23, 24, 25, 26, 27, 28, 50] rfl
theorem lj_F {cI cZ cJ : ClassId} {ad : Nat → Nat → Nat} {am : Nat → Nat} {oa : Nat} {σ u : SG} {μ : Sg} {f : Nat → Int64} : ∀ k : Nat, ¬ k < 29 → (W_L ad am oa cI cZ cJ u μ f)[k]? = (W_L ad am oa cI cZ cJ σ μ f)[k]?
  | 0, h => absurd (by decide) h
  | 1, h => absurd (by decide) h
  | 2, h => absurd (by decide) h
  | 3, h => absurd (by decide) h
  | 4, h => absurd (by decide) h
  | 5, h => absurd (by decide) h
  | 6, h => absurd (by decide) h
  | 7, h => absurd (by decide) h
  | 8, h => absurd (by decide) h
  | 9, h => absurd (by decide) h
  | 10, h => absurd (by decide) h
  | 11, h => absurd (by decide) h
  | 12, h => absurd (by decide) h
  | 13, h => absurd (by decide) h
  | 14, h => absurd (by decide) h
  | 15, h => absurd (by decide) h
  | 16, h => absurd (by decide) h
  | 17, h => absurd (by decide) h
  | 18, h => absurd (by decide) h
  | 19, h => absurd (by decide) h
  | 20, h => absurd (by decide) h
  | 21, h => absurd (by decide) h
  | 22, h => absurd (by decide) h
  | 23, h => absurd (by decide) h
  | 24, h => absurd (by decide) h
  | 25, h => absurd (by decide) h
  | 26, h => absurd (by decide) h
  | 27, h => absurd (by decide) h
  | 28, h => absurd (by decide) h
  | 29, h => rfl
  | 30, h => rfl
  | 31, h => rfl
  | 32, h => rfl
  | 33, h => rfl
  | 34, h => rfl
  | 35, h => rfl
  | 36, h => rfl
  | 37, h => rfl
  | 38, h => rfl
  | 39, h => rfl
  | 40, h => rfl
  | 41, h => rfl
  | 42, h => rfl
  | 43, h => rfl
  | 44, h => rfl
  | 45, h => rfl
  | 46, h => rfl
  | 47, h => rfl
  | 48, h => rfl
  | 49, h => rfl
  | 50, h => rfl
  | _ + 51, _ => rfl
theorem lj_M {cI cZ cJ : ClassId} {ad : Nat → Nat → Nat} {am : Nat → Nat} {oa : Nat} {σ : SG} {μ v : Sg} {f : Nat → Int64} : ∀ k : Nat, ¬ (29 ≤ k ∧ k < 50) → (W_L ad am oa cI cZ cJ σ v f)[k]? = (W_L ad am oa cI cZ cJ σ μ f)[k]?
  | 0, h => rfl
  | 1, h => rfl
  | 2, h => rfl
  | 3, h => rfl
  | 4, h => rfl
  | 5, h => rfl
  | 6, h => rfl
  | 7, h => rfl
  | 8, h => rfl
  | 9, h => rfl
  | 10, h => rfl
  | 11, h => rfl
  | 12, h => rfl
  | 13, h => rfl
  | 14, h => rfl
  | 15, h => rfl
  | 16, h => rfl
  | 17, h => rfl
  | 18, h => rfl
  | 19, h => rfl
  | 20, h => rfl
  | 21, h => rfl
  | 22, h => rfl
  | 23, h => rfl
  | 24, h => rfl
  | 25, h => rfl
  | 26, h => rfl
  | 27, h => rfl
  | 28, h => rfl
  | 29, h => absurd (by decide) h
  | 30, h => absurd (by decide) h
  | 31, h => absurd (by decide) h
  | 32, h => absurd (by decide) h
  | 33, h => absurd (by decide) h
  | 34, h => absurd (by decide) h
  | 35, h => absurd (by decide) h
  | 36, h => absurd (by decide) h
  | 37, h => absurd (by decide) h
  | 38, h => absurd (by decide) h
  | 39, h => absurd (by decide) h
  | 40, h => absurd (by decide) h
  | 41, h => absurd (by decide) h
  | 42, h => absurd (by decide) h
  | 43, h => absurd (by decide) h
  | 44, h => absurd (by decide) h
  | 45, h => absurd (by decide) h
  | 46, h => absurd (by decide) h
  | 47, h => absurd (by decide) h
  | 48, h => absurd (by decide) h
  | 49, h => absurd (by decide) h
  | 50, h => rfl
  | _ + 51, _ => rfl
theorem lj_X {cI cZ cJ : ClassId} {ad : Nat → Nat → Nat} {am : Nat → Nat} {oa : Nat} {σ u : SG} {μ : Sg} {f g : Nat → Int64} : ∀ k : Nat, ¬ (k < 29 ∨ k = 50) → (W_L ad am oa cI cZ cJ u μ g)[k]? = (W_L ad am oa cI cZ cJ σ μ f)[k]?
  | 0, h => absurd (by decide) h
  | 1, h => absurd (by decide) h
  | 2, h => absurd (by decide) h
  | 3, h => absurd (by decide) h
  | 4, h => absurd (by decide) h
  | 5, h => absurd (by decide) h
  | 6, h => absurd (by decide) h
  | 7, h => absurd (by decide) h
  | 8, h => absurd (by decide) h
  | 9, h => absurd (by decide) h
  | 10, h => absurd (by decide) h
  | 11, h => absurd (by decide) h
  | 12, h => absurd (by decide) h
  | 13, h => absurd (by decide) h
  | 14, h => absurd (by decide) h
  | 15, h => absurd (by decide) h
  | 16, h => absurd (by decide) h
  | 17, h => absurd (by decide) h
  | 18, h => absurd (by decide) h
  | 19, h => absurd (by decide) h
  | 20, h => absurd (by decide) h
  | 21, h => absurd (by decide) h
  | 22, h => absurd (by decide) h
  | 23, h => absurd (by decide) h
  | 24, h => absurd (by decide) h
  | 25, h => absurd (by decide) h
  | 26, h => absurd (by decide) h
  | 27, h => absurd (by decide) h
  | 28, h => absurd (by decide) h
  | 29, h => rfl
  | 30, h => rfl
  | 31, h => rfl
  | 32, h => rfl
  | 33, h => rfl
  | 34, h => rfl
  | 35, h => rfl
  | 36, h => rfl
  | 37, h => rfl
  | 38, h => rfl
  | 39, h => rfl
  | 40, h => rfl
  | 41, h => rfl
  | 42, h => rfl
  | 43, h => rfl
  | 44, h => rfl
  | 45, h => rfl
  | 46, h => rfl
  | 47, h => rfl
  | 48, h => rfl
  | 49, h => rfl
  | 50, h => absurd (by decide) h
  | _ + 51, _ => rfl
theorem lm_F {cI cZ cJ : ClassId} {ad : Nat → Nat → Nat} {am : Nat → Nat} {oa : Nat} {u : SG} {μ : Sg} {f : Nat → Int64} : ∀ k : Nat, k < 29 → (W_L ad am oa cI cZ cJ u μ f)[k]? = (W_Face ad cI cZ u)[k]?
  | 0, _ => rfl
  | 1, _ => rfl
  | 2, _ => rfl
  | 3, _ => rfl
  | 4, _ => rfl
  | 5, _ => rfl
  | 6, _ => rfl
  | 7, _ => rfl
  | 8, _ => rfl
  | 9, _ => rfl
  | 10, _ => rfl
  | 11, _ => rfl
  | 12, _ => rfl
  | 13, _ => rfl
  | 14, _ => rfl
  | 15, _ => rfl
  | 16, _ => rfl
  | 17, _ => rfl
  | 18, _ => rfl
  | 19, _ => rfl
  | 20, _ => rfl
  | 21, _ => rfl
  | 22, _ => rfl
  | 23, _ => rfl
  | 24, _ => rfl
  | 25, _ => rfl
  | 26, _ => rfl
  | 27, _ => rfl
  | 28, _ => rfl
  | k + 29, h => absurd h (by omega)
theorem lm_M {cI cZ cJ : ClassId} {ad : Nat → Nat → Nat} {am : Nat → Nat} {oa : Nat} {σ : SG} {v : Sg} {f : Nat → Int64} : ∀ k : Nat, k < 21 → (W_L ad am oa cI cZ cJ σ v f)[29 + k]? = (W_Model am cI cZ v)[k]?
  | 0, _ => rfl
  | 1, _ => rfl
  | 2, _ => rfl
  | 3, _ => rfl
  | 4, _ => rfl
  | 5, _ => rfl
  | 6, _ => rfl
  | 7, _ => rfl
  | 8, _ => rfl
  | 9, _ => rfl
  | 10, _ => rfl
  | 11, _ => rfl
  | 12, _ => rfl
  | 13, _ => rfl
  | 14, _ => rfl
  | 15, _ => rfl
  | 16, _ => rfl
  | 17, _ => rfl
  | 18, _ => rfl
  | 19, _ => rfl
  | 20, _ => rfl
  | k + 21, h => absurd h (by omega)
theorem lm_X {cI cZ cJ : ClassId} {ad : Nat → Nat → Nat} {am : Nat → Nat} {oa : Nat} {u : SG} {μ : Sg} {g : Nat → Int64} : ∀ k : Nat, k < 29 → (W_L ad am oa cI cZ cJ u μ g)[k]? = (W_X2 ad cI cZ u oa cJ g)[k]?
  | 0, _ => rfl
  | 1, _ => rfl
  | 2, _ => rfl
  | 3, _ => rfl
  | 4, _ => rfl
  | 5, _ => rfl
  | 6, _ => rfl
  | 7, _ => rfl
  | 8, _ => rfl
  | 9, _ => rfl
  | 10, _ => rfl
  | 11, _ => rfl
  | 12, _ => rfl
  | 13, _ => rfl
  | 14, _ => rfl
  | 15, _ => rfl
  | 16, _ => rfl
  | 17, _ => rfl
  | 18, _ => rfl
  | 19, _ => rfl
  | 20, _ => rfl
  | 21, _ => rfl
  | 22, _ => rfl
  | 23, _ => rfl
  | 24, _ => rfl
  | 25, _ => rfl
  | 26, _ => rfl
  | 27, _ => rfl
  | 28, _ => rfl
  | k + 29, h => absurd h (by omega)
theorem jL_F {D : va_G} {cI cZ cJ : ClassId} {ad : Nat → Nat → Nat} {am : Nat → Nat} {oa : Nat} {s : State} {σ u : SG} {μ : Sg} {f : Nat → Int64} {H H1 : Heap} (E : lE D cI cZ cJ ad am oa s) (hP : va_P D classes (W_L ad am oa cI cZ cJ σ μ f) H) (hP1 : va_P D classes (W_Face ad cI cZ u) H1) (hk1 : ∀ q : Nat, q < H.size → ¬ inA (fA ad) 29 q → H1[q]? = H[q]?) : va_P D classes (W_L ad am oa cI cZ cJ u μ f) H1 := by
  intro k q hk
  by_cases hr : k < 29
  · rw [lm_F k hr] at hk
    exact hP1 k q hk
  · rw [lj_F (σ := σ) k hr] at hk
    refine (hP k q hk).kept (hk1 q.1 (hP k q hk).lt (fun hin => ?_))
    obtain ⟨h1, h2⟩ := at_L hk
    obtain ⟨j, hj, h3⟩ := hin
    have h4 := E.2.1 k j h1 (by omega) (by rw [lA_F hj, ← h2, h3])
    omega
theorem jL_M {D : va_G} {cI cZ cJ : ClassId} {ad : Nat → Nat → Nat} {am : Nat → Nat} {oa : Nat} {s : State} {σ : SG} {μ v : Sg} {f : Nat → Int64} {H H1 : Heap} (E : lE D cI cZ cJ ad am oa s) (hP : va_P D classes (W_L ad am oa cI cZ cJ σ μ f) H) (hP1 : va_P D classes (W_Model am cI cZ v) H1) (hk1 : ∀ q : Nat, q < H.size → ¬ inA am 21 q → H1[q]? = H[q]?) : va_P D classes (W_L ad am oa cI cZ cJ σ v f) H1 := by
  intro k q hk
  by_cases hr : 29 ≤ k ∧ k < 50
  · obtain ⟨j, rfl⟩ : ∃ j, k = 29 + j := ⟨k - 29, by omega⟩
    rw [lm_M j (by omega)] at hk
    exact hP1 j q hk
  · rw [lj_M (μ := μ) k hr] at hk
    refine (hP k q hk).kept (hk1 q.1 (hP k q hk).lt (fun hin => ?_))
    obtain ⟨h1, h2⟩ := at_L hk
    obtain ⟨j, hj, h3⟩ := hin
    have h4 := E.2.1 k (29 + j) h1 (by omega) (by rw [lA_M hj, ← h2, h3])
    omega
theorem jL_X {D : va_G} {cI cZ cJ : ClassId} {ad : Nat → Nat → Nat} {am : Nat → Nat} {oa : Nat} {s : State} {σ u : SG} {μ : Sg} {f g : Nat → Int64} {H H1 : Heap} (E : lE D cI cZ cJ ad am oa s) (hP : va_P D classes (W_L ad am oa cI cZ cJ σ μ f) H) (hP1 : va_P D classes (W_X2 ad cI cZ u oa cJ g) H1) (hk1 : ∀ q : Nat, q < H.size → ¬ A2 ad oa q → H1[q]? = H[q]?) : va_P D classes (W_L ad am oa cI cZ cJ u μ g) H1 := by
  intro k q hk
  by_cases hr : k < 29 ∨ k = 50
  · rcases hr with hr | rfl
    · rw [lm_X k hr] at hk
      exact hP1 k q hk
    · exact hP1 29 q hk
  · rw [lj_X (σ := σ) (f := f) k hr] at hk
    refine (hP k q hk).kept (hk1 q.1 (hP k q hk).lt (fun hin => ?_))
    obtain ⟨h1, h2⟩ := at_L hk
    rcases hin with ⟨j, hj, h3⟩ | h3
    · have h4 := E.2.1 k j h1 (by omega) (by rw [lA_F hj, ← h2, h3])
      omega
    · have h4 := E.2.1 k 50 h1 (by omega) (by rw [lA_o, ← h2, h3])
      omega
