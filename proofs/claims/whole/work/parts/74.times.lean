/-! the reference's least times to a point -/
def mFar (d : Nat) : Nat := if d < 1000000 then d else 1000000000
/-- what the reference holds is no less than the least, and a way's own -/
def bfG (n : Nat) (D : Nat → Nat → Nat) (b : Nat) (X : Nat → Nat) : Prop := X b = 0 ∧ ∀ a, a < n → X a ≤ 1000000000 ∧ (X a < 1000000000 → D a b ≤ X a ∧ D a b < 1000000)
def bfR (n : Nat) (D : Nat → Nat → Nat) (b r : Nat) (X : Nat → Nat) : Prop := ∀ a, a < n → D a b < 1000000 → ds_rk D b (D a b) n < r → X a ≤ D a b
def bfP (n : Nat) (D : Nat → Nat → Nat) (b r i : Nat) (bg en tm cl : Nat → Int32) (X : Nat → Nat) : Prop := ∀ k, k < i → cl k = 0 → ∀ a c t, a < n → c < n → t ≤ 100 → bg k = nI a → en k = nI c → tm k = nI t → D c b < 1000000 → ds_rk D b (D c b) n < r → X a ≤ D c b + t
theorem bf_next {n np b r : Nat} {D : Nat → Nat → Nat} {bg en tm cl : Nat → Int32} {X : Nat → Nat} (hb : b < n) (ok : ds_ok n 1000000 (oE n np bg en tm cl) D) (hG : bfG n D b X) (hP : bfP n D b r np bg en tm cl X) : bfR n D b (r + 1) X := by
  intro a ha hF hr
  by_cases hab : a = b
  · subst hab; rw [hG.1]; exact Nat.zero_le _
  · obtain ⟨c, t, he, heq⟩ := ok.2.2.2 a b ha hb hab hF
    obtain ⟨_, hc, h1, h2, k, hk, k0, k1, k2, k3⟩ := he
    have h3 := ds_rk_lt D b (x := D c b) (y := D a b) (c := c) (by omega) (by omega) (by omega) n hc
    have := hP k hk k0 a c t ha hc h2 k1 k2 k3 (by omega) (by omega)
    omega
theorem bf_end {n np b : Nat} {D : Nat → Nat → Nat} {bg en tm cl : Nat → Int32} {X : Nat → Nat} {a : Nat} (ha : a < n) (hG : bfG n D b X) (hR : bfR n D b n X) : X a = mFar (D a b) := by
  obtain ⟨h1, h2⟩ := hG.2 a ha
  unfold mFar
  by_cases hF : D a b < 1000000
  · rw [if_pos hF]
    have h3 := ds_rk_own D b (a := a) (x := D a b) (Nat.lt_irrefl _) n ha
    have h4 := hR a ha hF (by omega)
    have h5 := h2 (by omega)
    omega
  · rw [if_neg hF]
    by_cases h6 : X a < 1000000000
    · exact absurd (h2 h6).2 hF
    · omega
theorem up_self {X : Nat → Nat} {u x : Nat} : (fun a => if a = u then x else X a) u = x := by simp
theorem m_times {μ : Sg} {n np b : Nat} {D : Nat → Nat → Nat} {Q : Sg → Prop} (hn : μ 0 1 = nI n) (z : n ≤ 10) (hp : μ 0 4 = nI np) (z3 : np ≤ 30) (hb : b < n) (hpc : gPc n np (μ 3) (μ 4) (μ 5)) (ok : ds_ok n 1000000 (oE n np (μ 3) (μ 4) (μ 5) (μ 6)) D)
    (h : ∀ τ : Sg, (∀ k, k ≠ 19 → τ k = μ k) → (∀ a, a < n → τ 19 a = nI (mFar (D a b))) → Q τ) : q_Model_timesTo (nI b) μ Q := by
  have inner : ∀ (F r : Nat), (∀ f' (τ' : Sg) X, F ≤ f' → (∀ k, k ≠ 19 → τ' k = μ k) → (∀ a, a < n → τ' 19 a = nI (X a)) → bfG n D b X → bfR n D b (r + 1) X → q_Model_timesTo_j Q f' 2 (nI b) (nI (r + 1)) 0 τ') →
      ∀ k fuel i (τ : Sg) X, i + k = np → F + k < fuel → (∀ k, k ≠ 19 → τ k = μ k) → (∀ a, a < n → τ 19 a = nI (X a)) → bfG n D b X → bfR n D b r X → bfP n D b r i (μ 3) (μ 4) (μ 5) (μ 6) X → q_Model_timesTo_j Q fuel 3 (nI b) (nI r) (nI i) τ := by
    intro F r hout k
    induction k with
    | zero =>
      intro fuel i τ X hi hf hS hX hG hR hP
      obtain ⟨f, rfl, -⟩ := fu hf
      obtain rfl : i = np := hi
      have e0 : τ 0 4 = nI i := by rw [hS 0 (by decide)]; exact hp
      refine ⟨fun _ => ?_, fun h' => absurd (le_end e0 (by omega)) h'⟩
      rw [nI_1]
      exact hout f τ X (by omega) hS hX hG (bf_next hb ok hG hP)
    | succ k ih =>
      intro fuel i τ X hi hf hS hX hG hR hP
      obtain ⟨f, rfl, hf⟩ := fu hf
      have e0 : τ 0 4 = nI np := by rw [hS 0 (by decide)]; exact hp
      obtain ⟨u, v, t, hu, hv, t1, t2, e1, e2, e3⟩ := hpc i (by omega)
      have i30 : i < 30 := by omega
      refine ⟨fun h' => absurd h' (le_at e0 (by omega) (by omega)), fun _ => ⟨vi i30, ?_⟩⟩
      rw [ck (k := i) (by omega), nI_1, hS 3 (by decide), hS 4 (by decide), hS 5 (by decide), hS 6 (by decide), e1, e2, e3, ck (k := u) (by omega), ck (k := v) (by omega), hX u hu, hX v hv, nI_add]
      obtain ⟨gu1, gu2⟩ := hG.2 u hu
      obtain ⟨gv1, gv2⟩ := hG.2 v hv
      have go : (μ 6 i = 0 → ds_rk D b (D v b) n < r → D v b < 1000000 → X u ≤ D v b + t) → q_Model_timesTo_j Q f 3 (nI b) (nI r) (nI (i + 1)) τ := by
        intro hnew
        refine ih f (i + 1) τ X (by omega) (by omega) hS hX hG hR (fun k hk k0 a c w ha hc hw k1 k2 k3 hF hr => ?_)
        by_cases hki : k = i
        · subst hki
          have ea := (nI_eq (by omega) (by omega)).mp (k1.symm.trans e1)
          have ec := (nI_eq (by omega) (by omega)).mp (k2.symm.trans e2)
          have et := (nI_eq (by omega) (by omega)).mp (k3.symm.trans e3)
          subst ea; subst ec; subst et
          exact hnew k0 hr hF
        · exact hP k (by omega) k0 a c w ha hc hw k1 k2 k3 hF hr
      refine ⟨fun c0 => ⟨vi i30, vi (by omega), fun h1 => go (fun _ hr hF => ?_), fun h1 => ⟨vi i30, vi (by omega), vi i30, vi i30, vi (by omega), fun h2 => go (fun _ hr hF => ?_), fun h2 => ⟨vi i30, vi i30, vi (by omega), vi i30, vi (by omega), ?_⟩⟩⟩, fun c0 => go (fun h => absurd h c0)⟩
      · have h3 := (nI_leI (a := 1000000000) (b := X v) (by omega) (by omega)).mp h1
        have h4 := hR v hv hF hr
        omega
      · have h3 := (nI_leI (a := X u) (b := X v + t) (by omega) (by omega)).mp h2
        have h4 := hR v hv hF hr
        omega
      · have h3 : X v < 1000000000 := by
          rcases Nat.lt_or_ge (X v) 1000000000 with h | h
          · exact h
          · exact absurd (nI_le h (by omega)) h1
        have h4 : X v + t < X u := by
          rcases Nat.lt_or_ge (X v + t) (X u) with h | h
          · exact h
          · exact absurd (nI_le h (by omega)) h2
        obtain ⟨g1, g2⟩ := gv2 h3
        have g3 := ds_small oE_E ok hv hb g2
        have g4 := ok.2.2.1 u v t b ⟨hu, hv, t1, t2, i, by omega, c0, e1, e2, e3⟩ hb
        have le : ∀ a, (fun a => if a = u then X v + t else X a) a ≤ X a := by
          intro a
          show (if a = u then X v + t else X a) ≤ X a
          by_cases e : a = u
          · subst e; rw [if_pos rfl]; omega
          · rw [if_neg e]; exact Nat.le_refl _
        refine ih f (i + 1) _ (fun a => if a = u then X v + t else X a) (by omega) (by omega) (fun k hk => by rw [sto_ne hk]; exact hS k hk) (fun a ha => ?_) ⟨?_, fun a ha => ?_⟩ (fun a ha hF hr => Nat.le_trans (le a) (hR a ha hF hr)) (fun k hk k0 a c w ha hc hw k1 k2 k3 hF hr => ?_)
        · rw [sto_sto rfl]
          by_cases e : a = u
          · subst e; rw [pk_us, if_pos rfl]
          · rw [pk_un e, if_neg e]; exact hX a ha
        · have := le b
          have := hG.1
          omega
        · show (if a = u then X v + t else X a) ≤ 1000000000 ∧ ((if a = u then X v + t else X a) < 1000000000 → D a b ≤ (if a = u then X v + t else X a) ∧ D a b < 1000000)
          by_cases e : a = u
          · subst e; rw [if_pos rfl]; exact ⟨by omega, fun _ => ⟨by omega, by omega⟩⟩
          · rw [if_neg e]; exact hG.2 a ha
        · by_cases hki : k = i
          · subst hki
            have ea := (nI_eq (by omega) (by omega)).mp (k1.symm.trans e1)
            have ec := (nI_eq (by omega) (by omega)).mp (k2.symm.trans e2)
            have et := (nI_eq (by omega) (by omega)).mp (k3.symm.trans e3)
            subst ea; subst ec; subst et
            have := hR c hc hF hr
            show (if a = a then X c + w else X a) ≤ D c b + w
            rw [if_pos rfl]; omega
          · exact Nat.le_trans (le a) (hP k (by omega) k0 a c w ha hc hw k1 k2 k3 hF hr)
  have outer : ∀ k fuel r (τ : Sg) X, r + k = n → k * 40 < fuel → (∀ k, k ≠ 19 → τ k = μ k) → (∀ a, a < n → τ 19 a = nI (X a)) → bfG n D b X → bfR n D b r X → q_Model_timesTo_j Q fuel 2 (nI b) (nI r) 0 τ := by
    intro k
    induction k with
    | zero =>
      intro fuel r τ X hi hf hS hX hG hR
      obtain ⟨f, rfl, -⟩ := fu hf
      obtain rfl : r = n := hi
      have e0 : τ 0 1 = nI r := by rw [hS 0 (by decide)]; exact hn
      refine ⟨fun _ => h τ hS (fun a ha => ?_), fun h' => absurd (le_end e0 (by omega)) h'⟩
      rw [hX a ha, bf_end (np := np) (bg := μ 3) (en := μ 4) (tm := μ 5) (cl := μ 6) ha hG hR]
    | succ k ih =>
      intro fuel r τ X hi hf hS hX hG hR
      obtain ⟨f, rfl, hf⟩ := fu hf
      have e0 : τ 0 1 = nI n := by rw [hS 0 (by decide)]; exact hn
      refine ⟨fun h' => absurd h' (le_at e0 (by omega) (by omega)), fun _ => ?_⟩
      exact inner (k * 40 + 1) r (fun f' τ' X' hf' hS' hX' hG' hR' => ih f' (r + 1) τ' X' (by omega) (by omega) hS' hX' hG' hR') np f 0 τ X (by omega) (by omega) hS hX hG hR (fun k hk => absurd hk (by omega))
  have first : ∀ k fuel i (τ : Sg), i + k = n → 500 + k < fuel → (∀ k, k ≠ 19 → τ k = μ k) → (∀ a, a < i → τ 19 a = nI (if a = b then 0 else 1000000000)) → q_Model_timesTo_j Q fuel 1 (nI b) (nI i) 0 τ := by
    intro k
    induction k with
    | zero =>
      intro fuel i τ hi hf hS hX
      obtain ⟨f, rfl, -⟩ := fu hf
      obtain rfl : i = n := hi
      have e0 : τ 0 1 = nI i := by rw [hS 0 (by decide)]; exact hn
      refine ⟨fun _ => outer i f 0 τ (fun a => if a = b then 0 else 1000000000) (by omega) (by omega) hS hX ⟨if_pos rfl, fun a ha => ?_⟩ (fun a _ _ hr => absurd hr (by omega)), fun h' => absurd (le_end e0 (by omega)) h'⟩
      show (if a = b then 0 else 1000000000) ≤ 1000000000 ∧ ((if a = b then 0 else 1000000000) < 1000000000 → D a b ≤ (if a = b then 0 else 1000000000) ∧ D a b < 1000000)
      by_cases e : a = b
      · subst e; rw [if_pos rfl, ok.1 a ha]; exact ⟨by omega, fun _ => ⟨by omega, by omega⟩⟩
      · rw [if_neg e]; exact ⟨by omega, fun h => absurd h (by omega)⟩
    | succ k ih =>
      intro fuel i τ hi hf hS hX
      obtain ⟨f, rfl, hf⟩ := fu hf
      have e0 : τ 0 1 = nI n := by rw [hS 0 (by decide)]; exact hn
      have nx : ∀ x : Int32, x = nI (if i = b then 0 else 1000000000) → q_Model_timesTo_j Q f 1 (nI b) (nI (i + 1)) 0 (sto τ 19 i x) := by
        intro x hx
        refine ih f (i + 1) _ (by omega) (by omega) (fun k hk => by rw [sto_ne hk]; exact hS k hk) (fun a ha => ?_)
        rw [sto_sto rfl]
        by_cases e : a = i
        · subst e; rw [pk_us, hx]
        · rw [pk_un e]; exact hX a (by omega)
      refine ⟨fun h' => absurd h' (le_at e0 (by omega) (by omega)), fun _ => ?_⟩
      rw [ck (k := i) (by omega), nI_1]
      refine ⟨fun e => ⟨vi (by omega), nx 0 ?_⟩, fun e => ⟨vi (by omega), nx 1000000000 ?_⟩⟩
      · have := (nI_eq (by omega) (by omega)).mp e
        rw [if_pos this]; rfl
      · rw [if_neg (fun h => e (by rw [h]))]; rfl
  exact first n 3999 0 μ (by omega) (by omega) (fun _ _ => rfl) (fun a ha => absurd ha (by omega))
