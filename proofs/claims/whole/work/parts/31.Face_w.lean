theorem at_of {ad : Nat → Nat} {n : Nat} {ws : va_W} (hm : ws.map Prod.fst = (List.range n).map ad) {i : Nat} {p : Nat × va_E} (hi : ws[i]? = some p) : i < n ∧ p.1 = ad i := by
  have h1 : (ws.map Prod.fst)[i]? = some p.1 := by rw [List.getElem?_map, hi]; rfl
  rw [hm, List.getElem?_map] at h1
  by_cases hn : i < n
  · rw [List.getElem?_range hn] at h1
    exact ⟨hn, (Option.some.inj h1).symm⟩
  · rw [List.getElem?_eq_none (by rw [List.length_range]; omega)] at h1
    cases h1
abbrev SG : Type := Nat → Sg
def setc (σ : SG) (c : Nat) (u : Sg) : SG := fun j => if j = c then u else σ j
def fA (ad : Nat → Nat → Nat) : Nat → Nat := fun i => if i < 1 then ad 0 0 else if i < 4 then ad 1 (i - 1) else if i < 10 then ad 2 (i - 4) else if i < 12 then ad 3 (i - 10) else if i < 20 then ad 4 (i - 12) else if i < 25 then ad 5 (i - 20) else ad 6 (i - 25)
def W_Face (ad : Nat → Nat → Nat) (cI cZ : ClassId) (σ : SG) : va_W :=
  (ad 0 0, .inr (6, [.ref (ad 1 0), .ref (ad 2 0), .ref (ad 3 0), .ref (ad 4 0), .ref (ad 5 0), .ref (ad 6 0), .int (σ 0 0 6)])) :: (W_Points (ad 1) cI cZ (σ 1) ++ (W_Roads (ad 2) cI cZ (σ 2) ++ (W_Rings (ad 3) cI cZ (σ 3) ++ (W_Fleet (ad 4) cI cZ (σ 4) ++ (W_Jobs (ad 5) cI cZ (σ 5) ++ (W_Choice (ad 6) cI cZ (σ 6)))))))
theorem D_Face {ad : Nat → Nat → Nat} {cI cZ : ClassId} {σ : SG} (inj : Inj (fA ad) 29) : va_D (inA (fA ad) 29) (W_Face ad cI cZ σ) := D_of inj rfl
theorem at_Face {ad : Nat → Nat → Nat} {cI cZ : ClassId} {σ : SG} {k : Nat} {q : Nat × va_E} (h : (W_Face ad cI cZ σ)[k]? = some q) : k < 29 ∧ q.1 = fA ad k := at_of rfl h
theorem up_Face_f6 {D : va_G} {ad : Nat → Nat → Nat} {cI cZ : ClassId} {σ : SG} {H : Heap} {v : Int32} (h : va_P D classes ((W_Face ad cI cZ σ).set 0 (ad 0 0, .inr (6, ([.ref (ad 1 0), .ref (ad 2 0), .ref (ad 3 0), .ref (ad 4 0), .ref (ad 5 0), .ref (ad 6 0), .int (σ 0 0 6)] : List Value).set 6 (.int v)))) H) : va_P D classes (W_Face ad cI cZ (setc σ 0 (sto (σ 0) 0 6 v))) H := h
theorem fA_Points {ad : Nat → Nat → Nat} {i : Nat} (h : i < 3) : fA ad (1 + i) = ad 1 i := by
  rcases (show i = 0 ∨ i = 1 ∨ i = 2 by omega) with rfl | rfl | rfl <;> rfl
theorem inj_Points {ad : Nat → Nat → Nat} (inj : Inj (fA ad) 29) : Inj (ad 1) 3 := fun i j hi hj h => by
  have h1 := inj (1 + i) (1 + j) (by omega) (by omega) (by rw [fA_Points hi, fA_Points hj]; exact h)
  omega
theorem sub_Points {ad : Nat → Nat → Nat} {q : Nat} (h : inA (ad 1) 3 q) : inA (fA ad) 29 q := by
  obtain ⟨k, hk, rfl⟩ := h
  exact ⟨1 + k, by omega, (fA_Points hk).symm⟩
theorem pt_Points {D : va_G} {ad : Nat → Nat → Nat} {cI cZ : ClassId} {σ : SG} {H : Heap} (hP : va_P D classes (W_Face ad cI cZ σ) H) : va_P D classes (W_Points (ad 1) cI cZ (σ 1)) H := hP.sub [1, 2, 3] rfl
theorem jn_Points {ad : Nat → Nat → Nat} {cI cZ : ClassId} {σ : SG} {u : Sg} : ∀ k : Nat, ¬ (1 ≤ k ∧ k < 4) → (W_Face ad cI cZ (setc σ 1 u))[k]? = (W_Face ad cI cZ σ)[k]?
  | 0, h => rfl
  | 1, h => absurd (by decide) h
  | 2, h => absurd (by decide) h
  | 3, h => absurd (by decide) h
  | 4, h => rfl
  | 5, h => rfl
  | 6, h => rfl
  | 7, h => rfl
  | 8, h => rfl
  | 9, h => rfl
  | 10, h => rfl
  | 11, h => rfl
  | 12, h => rfl
  | 13, h => rfl
  | 14, h => rfl
  | 15, h => rfl
  | 16, h => rfl
  | 17, h => rfl
  | 18, h => rfl
  | 19, h => rfl
  | 20, h => rfl
  | 21, h => rfl
  | 22, h => rfl
  | 23, h => rfl
  | 24, h => rfl
  | 25, h => rfl
  | 26, h => rfl
  | 27, h => rfl
  | 28, h => rfl
  | _ + 29, _ => rfl
theorem jm_Points {ad : Nat → Nat → Nat} {cI cZ : ClassId} {σ : SG} {u : Sg} : ∀ k : Nat, k < 3 → (W_Face ad cI cZ (setc σ 1 u))[1 + k]? = (W_Points (ad 1) cI cZ u)[k]?
  | 0, _ => rfl
  | 1, _ => rfl
  | 2, _ => rfl
  | k + 3, h => absurd h (by omega)
theorem join_Points {D : va_G} {ad : Nat → Nat → Nat} {cI cZ : ClassId} {σ : SG} {u : Sg} {H H1 : Heap} (inj : Inj (fA ad) 29) (hP : va_P D classes (W_Face ad cI cZ σ) H) (hP1 : va_P D classes (W_Points (ad 1) cI cZ u) H1) (hk1 : ∀ q : Nat, q < H.size → ¬ inA (ad 1) 3 q → H1[q]? = H[q]?) : va_P D classes (W_Face ad cI cZ (setc σ 1 u)) H1 := by
  intro k q hk
  by_cases hr : 1 ≤ k ∧ k < 4
  · obtain ⟨j, rfl⟩ : ∃ j, k = 1 + j := ⟨k - 1, by omega⟩
    rw [jm_Points j (by omega)] at hk
    exact hP1 j q hk
  · rw [jn_Points k hr] at hk
    refine (hP k q hk).kept (hk1 q.1 (hP k q hk).lt (fun hin => ?_))
    obtain ⟨h1, h2⟩ := at_Face hk
    obtain ⟨j, hj, h3⟩ := hin
    have h4 := inj k (1 + j) h1 (by omega) (by rw [fA_Points hj, ← h2, h3])
    omega
theorem fA_Roads {ad : Nat → Nat → Nat} {i : Nat} (h : i < 6) : fA ad (4 + i) = ad 2 i := by
  rcases (show i = 0 ∨ i = 1 ∨ i = 2 ∨ i = 3 ∨ i = 4 ∨ i = 5 by omega) with rfl | rfl | rfl | rfl | rfl | rfl <;> rfl
theorem inj_Roads {ad : Nat → Nat → Nat} (inj : Inj (fA ad) 29) : Inj (ad 2) 6 := fun i j hi hj h => by
  have h1 := inj (4 + i) (4 + j) (by omega) (by omega) (by rw [fA_Roads hi, fA_Roads hj]; exact h)
  omega
theorem sub_Roads {ad : Nat → Nat → Nat} {q : Nat} (h : inA (ad 2) 6 q) : inA (fA ad) 29 q := by
  obtain ⟨k, hk, rfl⟩ := h
  exact ⟨4 + k, by omega, (fA_Roads hk).symm⟩
theorem pt_Roads {D : va_G} {ad : Nat → Nat → Nat} {cI cZ : ClassId} {σ : SG} {H : Heap} (hP : va_P D classes (W_Face ad cI cZ σ) H) : va_P D classes (W_Roads (ad 2) cI cZ (σ 2)) H := hP.sub [4, 5, 6, 7, 8, 9] rfl
theorem jn_Roads {ad : Nat → Nat → Nat} {cI cZ : ClassId} {σ : SG} {u : Sg} : ∀ k : Nat, ¬ (4 ≤ k ∧ k < 10) → (W_Face ad cI cZ (setc σ 2 u))[k]? = (W_Face ad cI cZ σ)[k]?
  | 0, h => rfl
  | 1, h => rfl
  | 2, h => rfl
  | 3, h => rfl
  | 4, h => absurd (by decide) h
  | 5, h => absurd (by decide) h
  | 6, h => absurd (by decide) h
  | 7, h => absurd (by decide) h
  | 8, h => absurd (by decide) h
  | 9, h => absurd (by decide) h
  | 10, h => rfl
  | 11, h => rfl
  | 12, h => rfl
  | 13, h => rfl
  | 14, h => rfl
  | 15, h => rfl
  | 16, h => rfl
  | 17, h => rfl
  | 18, h => rfl
  | 19, h => rfl
  | 20, h => rfl
  | 21, h => rfl
  | 22, h => rfl
  | 23, h => rfl
  | 24, h => rfl
  | 25, h => rfl
  | 26, h => rfl
  | 27, h => rfl
  | 28, h => rfl
  | _ + 29, _ => rfl
theorem jm_Roads {ad : Nat → Nat → Nat} {cI cZ : ClassId} {σ : SG} {u : Sg} : ∀ k : Nat, k < 6 → (W_Face ad cI cZ (setc σ 2 u))[4 + k]? = (W_Roads (ad 2) cI cZ u)[k]?
  | 0, _ => rfl
  | 1, _ => rfl
  | 2, _ => rfl
  | 3, _ => rfl
  | 4, _ => rfl
  | 5, _ => rfl
  | k + 6, h => absurd h (by omega)
theorem join_Roads {D : va_G} {ad : Nat → Nat → Nat} {cI cZ : ClassId} {σ : SG} {u : Sg} {H H1 : Heap} (inj : Inj (fA ad) 29) (hP : va_P D classes (W_Face ad cI cZ σ) H) (hP1 : va_P D classes (W_Roads (ad 2) cI cZ u) H1) (hk1 : ∀ q : Nat, q < H.size → ¬ inA (ad 2) 6 q → H1[q]? = H[q]?) : va_P D classes (W_Face ad cI cZ (setc σ 2 u)) H1 := by
  intro k q hk
  by_cases hr : 4 ≤ k ∧ k < 10
  · obtain ⟨j, rfl⟩ : ∃ j, k = 4 + j := ⟨k - 4, by omega⟩
    rw [jm_Roads j (by omega)] at hk
    exact hP1 j q hk
  · rw [jn_Roads k hr] at hk
    refine (hP k q hk).kept (hk1 q.1 (hP k q hk).lt (fun hin => ?_))
    obtain ⟨h1, h2⟩ := at_Face hk
    obtain ⟨j, hj, h3⟩ := hin
    have h4 := inj k (4 + j) h1 (by omega) (by rw [fA_Roads hj, ← h2, h3])
    omega
theorem fA_Rings {ad : Nat → Nat → Nat} {i : Nat} (h : i < 2) : fA ad (10 + i) = ad 3 i := by
  rcases (show i = 0 ∨ i = 1 by omega) with rfl | rfl <;> rfl
theorem inj_Rings {ad : Nat → Nat → Nat} (inj : Inj (fA ad) 29) : Inj (ad 3) 2 := fun i j hi hj h => by
  have h1 := inj (10 + i) (10 + j) (by omega) (by omega) (by rw [fA_Rings hi, fA_Rings hj]; exact h)
  omega
theorem sub_Rings {ad : Nat → Nat → Nat} {q : Nat} (h : inA (ad 3) 2 q) : inA (fA ad) 29 q := by
  obtain ⟨k, hk, rfl⟩ := h
  exact ⟨10 + k, by omega, (fA_Rings hk).symm⟩
theorem pt_Rings {D : va_G} {ad : Nat → Nat → Nat} {cI cZ : ClassId} {σ : SG} {H : Heap} (hP : va_P D classes (W_Face ad cI cZ σ) H) : va_P D classes (W_Rings (ad 3) cI cZ (σ 3)) H := hP.sub [10, 11] rfl
theorem jn_Rings {ad : Nat → Nat → Nat} {cI cZ : ClassId} {σ : SG} {u : Sg} : ∀ k : Nat, ¬ (10 ≤ k ∧ k < 12) → (W_Face ad cI cZ (setc σ 3 u))[k]? = (W_Face ad cI cZ σ)[k]?
  | 0, h => rfl
  | 1, h => rfl
  | 2, h => rfl
  | 3, h => rfl
  | 4, h => rfl
  | 5, h => rfl
  | 6, h => rfl
  | 7, h => rfl
  | 8, h => rfl
  | 9, h => rfl
  | 10, h => absurd (by decide) h
  | 11, h => absurd (by decide) h
  | 12, h => rfl
  | 13, h => rfl
  | 14, h => rfl
  | 15, h => rfl
  | 16, h => rfl
  | 17, h => rfl
  | 18, h => rfl
  | 19, h => rfl
  | 20, h => rfl
  | 21, h => rfl
  | 22, h => rfl
  | 23, h => rfl
  | 24, h => rfl
  | 25, h => rfl
  | 26, h => rfl
  | 27, h => rfl
  | 28, h => rfl
  | _ + 29, _ => rfl
theorem jm_Rings {ad : Nat → Nat → Nat} {cI cZ : ClassId} {σ : SG} {u : Sg} : ∀ k : Nat, k < 2 → (W_Face ad cI cZ (setc σ 3 u))[10 + k]? = (W_Rings (ad 3) cI cZ u)[k]?
  | 0, _ => rfl
  | 1, _ => rfl
  | k + 2, h => absurd h (by omega)
theorem join_Rings {D : va_G} {ad : Nat → Nat → Nat} {cI cZ : ClassId} {σ : SG} {u : Sg} {H H1 : Heap} (inj : Inj (fA ad) 29) (hP : va_P D classes (W_Face ad cI cZ σ) H) (hP1 : va_P D classes (W_Rings (ad 3) cI cZ u) H1) (hk1 : ∀ q : Nat, q < H.size → ¬ inA (ad 3) 2 q → H1[q]? = H[q]?) : va_P D classes (W_Face ad cI cZ (setc σ 3 u)) H1 := by
  intro k q hk
  by_cases hr : 10 ≤ k ∧ k < 12
  · obtain ⟨j, rfl⟩ : ∃ j, k = 10 + j := ⟨k - 10, by omega⟩
    rw [jm_Rings j (by omega)] at hk
    exact hP1 j q hk
  · rw [jn_Rings k hr] at hk
    refine (hP k q hk).kept (hk1 q.1 (hP k q hk).lt (fun hin => ?_))
    obtain ⟨h1, h2⟩ := at_Face hk
    obtain ⟨j, hj, h3⟩ := hin
    have h4 := inj k (10 + j) h1 (by omega) (by rw [fA_Rings hj, ← h2, h3])
    omega
theorem fA_Fleet {ad : Nat → Nat → Nat} {i : Nat} (h : i < 8) : fA ad (12 + i) = ad 4 i := by
  rcases (show i = 0 ∨ i = 1 ∨ i = 2 ∨ i = 3 ∨ i = 4 ∨ i = 5 ∨ i = 6 ∨ i = 7 by omega) with rfl | rfl | rfl | rfl | rfl | rfl | rfl | rfl <;> rfl
theorem inj_Fleet {ad : Nat → Nat → Nat} (inj : Inj (fA ad) 29) : Inj (ad 4) 8 := fun i j hi hj h => by
  have h1 := inj (12 + i) (12 + j) (by omega) (by omega) (by rw [fA_Fleet hi, fA_Fleet hj]; exact h)
  omega
theorem sub_Fleet {ad : Nat → Nat → Nat} {q : Nat} (h : inA (ad 4) 8 q) : inA (fA ad) 29 q := by
  obtain ⟨k, hk, rfl⟩ := h
  exact ⟨12 + k, by omega, (fA_Fleet hk).symm⟩
theorem pt_Fleet {D : va_G} {ad : Nat → Nat → Nat} {cI cZ : ClassId} {σ : SG} {H : Heap} (hP : va_P D classes (W_Face ad cI cZ σ) H) : va_P D classes (W_Fleet (ad 4) cI cZ (σ 4)) H := hP.sub [12, 13, 14, 15, 16, 17, 18, 19] rfl
theorem jn_Fleet {ad : Nat → Nat → Nat} {cI cZ : ClassId} {σ : SG} {u : Sg} : ∀ k : Nat, ¬ (12 ≤ k ∧ k < 20) → (W_Face ad cI cZ (setc σ 4 u))[k]? = (W_Face ad cI cZ σ)[k]?
  | 0, h => rfl
  | 1, h => rfl
  | 2, h => rfl
  | 3, h => rfl
  | 4, h => rfl
  | 5, h => rfl
  | 6, h => rfl
  | 7, h => rfl
  | 8, h => rfl
  | 9, h => rfl
  | 10, h => rfl
  | 11, h => rfl
  | 12, h => absurd (by decide) h
  | 13, h => absurd (by decide) h
  | 14, h => absurd (by decide) h
  | 15, h => absurd (by decide) h
  | 16, h => absurd (by decide) h
  | 17, h => absurd (by decide) h
  | 18, h => absurd (by decide) h
  | 19, h => absurd (by decide) h
  | 20, h => rfl
  | 21, h => rfl
  | 22, h => rfl
  | 23, h => rfl
  | 24, h => rfl
  | 25, h => rfl
  | 26, h => rfl
  | 27, h => rfl
  | 28, h => rfl
  | _ + 29, _ => rfl
theorem jm_Fleet {ad : Nat → Nat → Nat} {cI cZ : ClassId} {σ : SG} {u : Sg} : ∀ k : Nat, k < 8 → (W_Face ad cI cZ (setc σ 4 u))[12 + k]? = (W_Fleet (ad 4) cI cZ u)[k]?
  | 0, _ => rfl
  | 1, _ => rfl
  | 2, _ => rfl
  | 3, _ => rfl
  | 4, _ => rfl
  | 5, _ => rfl
  | 6, _ => rfl
  | 7, _ => rfl
  | k + 8, h => absurd h (by omega)
theorem join_Fleet {D : va_G} {ad : Nat → Nat → Nat} {cI cZ : ClassId} {σ : SG} {u : Sg} {H H1 : Heap} (inj : Inj (fA ad) 29) (hP : va_P D classes (W_Face ad cI cZ σ) H) (hP1 : va_P D classes (W_Fleet (ad 4) cI cZ u) H1) (hk1 : ∀ q : Nat, q < H.size → ¬ inA (ad 4) 8 q → H1[q]? = H[q]?) : va_P D classes (W_Face ad cI cZ (setc σ 4 u)) H1 := by
  intro k q hk
  by_cases hr : 12 ≤ k ∧ k < 20
  · obtain ⟨j, rfl⟩ : ∃ j, k = 12 + j := ⟨k - 12, by omega⟩
    rw [jm_Fleet j (by omega)] at hk
    exact hP1 j q hk
  · rw [jn_Fleet k hr] at hk
    refine (hP k q hk).kept (hk1 q.1 (hP k q hk).lt (fun hin => ?_))
    obtain ⟨h1, h2⟩ := at_Face hk
    obtain ⟨j, hj, h3⟩ := hin
    have h4 := inj k (12 + j) h1 (by omega) (by rw [fA_Fleet hj, ← h2, h3])
    omega
theorem fA_Jobs {ad : Nat → Nat → Nat} {i : Nat} (h : i < 5) : fA ad (20 + i) = ad 5 i := by
  rcases (show i = 0 ∨ i = 1 ∨ i = 2 ∨ i = 3 ∨ i = 4 by omega) with rfl | rfl | rfl | rfl | rfl <;> rfl
theorem inj_Jobs {ad : Nat → Nat → Nat} (inj : Inj (fA ad) 29) : Inj (ad 5) 5 := fun i j hi hj h => by
  have h1 := inj (20 + i) (20 + j) (by omega) (by omega) (by rw [fA_Jobs hi, fA_Jobs hj]; exact h)
  omega
theorem sub_Jobs {ad : Nat → Nat → Nat} {q : Nat} (h : inA (ad 5) 5 q) : inA (fA ad) 29 q := by
  obtain ⟨k, hk, rfl⟩ := h
  exact ⟨20 + k, by omega, (fA_Jobs hk).symm⟩
theorem pt_Jobs {D : va_G} {ad : Nat → Nat → Nat} {cI cZ : ClassId} {σ : SG} {H : Heap} (hP : va_P D classes (W_Face ad cI cZ σ) H) : va_P D classes (W_Jobs (ad 5) cI cZ (σ 5)) H := hP.sub [20, 21, 22, 23, 24] rfl
theorem jn_Jobs {ad : Nat → Nat → Nat} {cI cZ : ClassId} {σ : SG} {u : Sg} : ∀ k : Nat, ¬ (20 ≤ k ∧ k < 25) → (W_Face ad cI cZ (setc σ 5 u))[k]? = (W_Face ad cI cZ σ)[k]?
  | 0, h => rfl
  | 1, h => rfl
  | 2, h => rfl
  | 3, h => rfl
  | 4, h => rfl
  | 5, h => rfl
  | 6, h => rfl
  | 7, h => rfl
  | 8, h => rfl
  | 9, h => rfl
  | 10, h => rfl
  | 11, h => rfl
  | 12, h => rfl
  | 13, h => rfl
  | 14, h => rfl
  | 15, h => rfl
  | 16, h => rfl
  | 17, h => rfl
  | 18, h => rfl
  | 19, h => rfl
  | 20, h => absurd (by decide) h
  | 21, h => absurd (by decide) h
  | 22, h => absurd (by decide) h
  | 23, h => absurd (by decide) h
  | 24, h => absurd (by decide) h
  | 25, h => rfl
  | 26, h => rfl
  | 27, h => rfl
  | 28, h => rfl
  | _ + 29, _ => rfl
theorem jm_Jobs {ad : Nat → Nat → Nat} {cI cZ : ClassId} {σ : SG} {u : Sg} : ∀ k : Nat, k < 5 → (W_Face ad cI cZ (setc σ 5 u))[20 + k]? = (W_Jobs (ad 5) cI cZ u)[k]?
  | 0, _ => rfl
  | 1, _ => rfl
  | 2, _ => rfl
  | 3, _ => rfl
  | 4, _ => rfl
  | k + 5, h => absurd h (by omega)
theorem join_Jobs {D : va_G} {ad : Nat → Nat → Nat} {cI cZ : ClassId} {σ : SG} {u : Sg} {H H1 : Heap} (inj : Inj (fA ad) 29) (hP : va_P D classes (W_Face ad cI cZ σ) H) (hP1 : va_P D classes (W_Jobs (ad 5) cI cZ u) H1) (hk1 : ∀ q : Nat, q < H.size → ¬ inA (ad 5) 5 q → H1[q]? = H[q]?) : va_P D classes (W_Face ad cI cZ (setc σ 5 u)) H1 := by
  intro k q hk
  by_cases hr : 20 ≤ k ∧ k < 25
  · obtain ⟨j, rfl⟩ : ∃ j, k = 20 + j := ⟨k - 20, by omega⟩
    rw [jm_Jobs j (by omega)] at hk
    exact hP1 j q hk
  · rw [jn_Jobs k hr] at hk
    refine (hP k q hk).kept (hk1 q.1 (hP k q hk).lt (fun hin => ?_))
    obtain ⟨h1, h2⟩ := at_Face hk
    obtain ⟨j, hj, h3⟩ := hin
    have h4 := inj k (20 + j) h1 (by omega) (by rw [fA_Jobs hj, ← h2, h3])
    omega
theorem fA_Choice {ad : Nat → Nat → Nat} {i : Nat} (h : i < 4) : fA ad (25 + i) = ad 6 i := by
  rcases (show i = 0 ∨ i = 1 ∨ i = 2 ∨ i = 3 by omega) with rfl | rfl | rfl | rfl <;> rfl
theorem inj_Choice {ad : Nat → Nat → Nat} (inj : Inj (fA ad) 29) : Inj (ad 6) 4 := fun i j hi hj h => by
  have h1 := inj (25 + i) (25 + j) (by omega) (by omega) (by rw [fA_Choice hi, fA_Choice hj]; exact h)
  omega
theorem sub_Choice {ad : Nat → Nat → Nat} {q : Nat} (h : inA (ad 6) 4 q) : inA (fA ad) 29 q := by
  obtain ⟨k, hk, rfl⟩ := h
  exact ⟨25 + k, by omega, (fA_Choice hk).symm⟩
theorem pt_Choice {D : va_G} {ad : Nat → Nat → Nat} {cI cZ : ClassId} {σ : SG} {H : Heap} (hP : va_P D classes (W_Face ad cI cZ σ) H) : va_P D classes (W_Choice (ad 6) cI cZ (σ 6)) H := hP.sub [25, 26, 27, 28] rfl
theorem jn_Choice {ad : Nat → Nat → Nat} {cI cZ : ClassId} {σ : SG} {u : Sg} : ∀ k : Nat, ¬ (25 ≤ k ∧ k < 29) → (W_Face ad cI cZ (setc σ 6 u))[k]? = (W_Face ad cI cZ σ)[k]?
  | 0, h => rfl
  | 1, h => rfl
  | 2, h => rfl
  | 3, h => rfl
  | 4, h => rfl
  | 5, h => rfl
  | 6, h => rfl
  | 7, h => rfl
  | 8, h => rfl
  | 9, h => rfl
  | 10, h => rfl
  | 11, h => rfl
  | 12, h => rfl
  | 13, h => rfl
  | 14, h => rfl
  | 15, h => rfl
  | 16, h => rfl
  | 17, h => rfl
  | 18, h => rfl
  | 19, h => rfl
  | 20, h => rfl
  | 21, h => rfl
  | 22, h => rfl
  | 23, h => rfl
  | 24, h => rfl
  | 25, h => absurd (by decide) h
  | 26, h => absurd (by decide) h
  | 27, h => absurd (by decide) h
  | 28, h => absurd (by decide) h
  | _ + 29, _ => rfl
theorem jm_Choice {ad : Nat → Nat → Nat} {cI cZ : ClassId} {σ : SG} {u : Sg} : ∀ k : Nat, k < 4 → (W_Face ad cI cZ (setc σ 6 u))[25 + k]? = (W_Choice (ad 6) cI cZ u)[k]?
  | 0, _ => rfl
  | 1, _ => rfl
  | 2, _ => rfl
  | 3, _ => rfl
  | k + 4, h => absurd h (by omega)
theorem join_Choice {D : va_G} {ad : Nat → Nat → Nat} {cI cZ : ClassId} {σ : SG} {u : Sg} {H H1 : Heap} (inj : Inj (fA ad) 29) (hP : va_P D classes (W_Face ad cI cZ σ) H) (hP1 : va_P D classes (W_Choice (ad 6) cI cZ u) H1) (hk1 : ∀ q : Nat, q < H.size → ¬ inA (ad 6) 4 q → H1[q]? = H[q]?) : va_P D classes (W_Face ad cI cZ (setc σ 6 u)) H1 := by
  intro k q hk
  by_cases hr : 25 ≤ k ∧ k < 29
  · obtain ⟨j, rfl⟩ : ∃ j, k = 25 + j := ⟨k - 25, by omega⟩
    rw [jm_Choice j (by omega)] at hk
    exact hP1 j q hk
  · rw [jn_Choice k hr] at hk
    refine (hP k q hk).kept (hk1 q.1 (hP k q hk).lt (fun hin => ?_))
    obtain ⟨h1, h2⟩ := at_Face hk
    obtain ⟨j, hj, h3⟩ := hin
    have h4 := inj k (25 + j) h1 (by omega) (by rw [fA_Choice hj, ← h2, h3])
    omega
