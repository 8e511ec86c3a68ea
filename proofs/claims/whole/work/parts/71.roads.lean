/-! the program's table of least times: one piece more, and all anew -/
theorem ix10 {a b : Nat} (ha : a < 10) (hb : b < 10) : nI a * 10 + nI b = nI (a * 10 + b) := by
  rw [show (10 : Int32) = nI 10 from rfl, pk_mul, nI_add]
theorem ltm {σ : Sg} {a b : Nat} {x : Int32} {Q : Int32 → Prop} (ha : a < 10) (hb : b < 10) (e : σ 5 (a * 10 + b) = x) (h : Q x) : q_Roads_leastTime (nI a) (nI b) σ Q := by
  unfold q_Roads_leastTime
  rw [ix10 ha hb, ck (by omega), e]
  exact ⟨vi (by omega), h⟩
theorem min32 {x y : Nat} (hx : x < 2 ^ 31) (hy : y < 2 ^ 31) : (if nI x < nI y then nI x else nI y) = nI (min y x) := by
  by_cases h : x < y
  · rw [if_pos (nI_lt h (by omega)), Nat.min_eq_right (by omega)]
  · rw [if_neg (nI_nlt (by omega) (by omega)), Nat.min_eq_left (by omega)]
theorem ds_via_v {D : Nat → Nat → Nat} {u v t b : Nat} : ds_via D u v t v b = D v b := by unfold ds_via; omega
/-- the table while it is gone through -/
def tb (n : Nat) (D : Nat → Nat → Nat) (u v t i j : Nat) (f : Nat → Int32) : Prop := ∀ x y, x < n → y < n → f (x * 10 + y) = nI (if x < i ∨ (x = i ∧ y < j) then ds_via D u v t x y else D x y)
theorem r_short {σ : Sg} {n p u v t : Nat} {D : Nat → Nat → Nat} {Q : Sg → Prop} (hn : σ 0 0 = nI n) (z : n ≤ 10) (hp : p < 30) (e1 : σ 1 p = nI u) (e2 : σ 2 p = nI v) (e3 : σ 3 p = nI t) (hu : u < n) (hv : v < n) (ht : t ≤ 100)
    (hD : ∀ a b, a < n → b < n → σ 5 (a * 10 + b) = nI (D a b)) (hF : ∀ a b, a < n → b < n → D a b ≤ 1000000)
    (h : ∀ τ : Sg, (∀ k, k ≠ 5 → τ k = σ k) → (∀ a b, a < n → b < n → τ 5 (a * 10 + b) = nI (ds_via D u v t a b)) → Q τ) : q_Roads_shortenBy (nI p) σ Q := by
  have inner : ∀ (F i : Nat), i < n → (∀ f' τ', F ≤ f' → (∀ k, k ≠ 5 → τ' k = σ k) → tb n D u v t (i + 1) 0 (τ' 5) → q_Roads_shortenBy_j Q f' 1 (nI p) (nI (i + 1)) 0 0 τ') →
      ∀ k fuel j (τ : Sg), j + k = n → F + k < fuel → (∀ k, k ≠ 5 → τ k = σ k) → tb n D u v t i j (τ 5) → q_Roads_shortenBy_j Q fuel 2 (nI p) (nI i) (nI (D i u) + nI t) (nI j) τ := by
    intro F i hi hout k
    induction k with
    | zero =>
      intro fuel j τ hj hf hS hT
      obtain ⟨f, rfl, -⟩ := fu hf
      obtain rfl : j = n := hj
      have e0 : τ 0 0 = nI j := by rw [hS 0 (by decide)]; exact hn
      refine ⟨fun _ => ?_, fun h' => absurd (le_end e0 (by omega)) h'⟩
      rw [nI_1]
      refine hout f τ (by omega) hS (fun x y hx hy => ?_)
      rw [hT x y hx hy]
      by_cases hc : x < i ∨ (x = i ∧ y < j)
      · rw [if_pos hc, if_pos (by omega)]
      · rw [if_neg hc, if_neg (by omega)]
    | succ k ih =>
      intro fuel j τ hj hf hS hT
      obtain ⟨f, rfl, hf⟩ := fu hf
      have e0 : τ 0 0 = nI n := by rw [hS 0 (by decide)]; exact hn
      have ij := hT i j hi (by omega)
      rw [if_neg (by omega)] at ij
      have vj : τ 5 (v * 10 + j) = nI (D v j) := by
        rw [hT v j hv (by omega)]
        by_cases hc : v < i ∨ (v = i ∧ j < j)
        · rw [if_pos hc, ds_via_v]
        · rw [if_neg hc]
      refine ⟨fun h' => absurd h' (le_at e0 (by omega) (by omega)), fun _ => ltm (by omega) (by omega) ij ⟨vi hp, ?_⟩⟩
      rw [ck (k := p) (by omega), hS 2 (by decide), e2]
      refine ltm (by omega) (by omega) vj ?_
      have b1 := hF i u hi hu
      have b2 := hF v j hv (by omega)
      have b3 := hF i j hi (by omega)
      rw [ix10 (by omega) (by omega), ck (k := i * 10 + j) (by omega), nI_add, nI_add, min32 (by omega) (by omega), nI_1]
      refine ⟨vi (by omega), ?_⟩
      rw [← nI_add (D i u)]
      refine ih f (j + 1) _ (by omega) (by omega) (fun k hk => by rw [sto_ne hk]; exact hS k hk) (fun x y hx hy => ?_)
      rw [sto_sto rfl]
      by_cases hxy : x = i ∧ y = j
      · obtain ⟨rfl, rfl⟩ := hxy
        rw [pk_us, if_pos (by omega)]; rfl
      · rw [pk_un (by omega), hT x y hx hy]
        by_cases hc : x < i ∨ (x = i ∧ y < j)
        · rw [if_pos hc, if_pos (by omega)]
        · rw [if_neg hc, if_neg (by omega)]
  have outer : ∀ k fuel i (τ : Sg), i + k = n → k * 20 < fuel → (∀ k, k ≠ 5 → τ k = σ k) → tb n D u v t i 0 (τ 5) → q_Roads_shortenBy_j Q fuel 1 (nI p) (nI i) 0 0 τ := by
    intro k
    induction k with
    | zero =>
      intro fuel i τ hi hf hS hT
      obtain ⟨f, rfl, -⟩ := fu hf
      obtain rfl : i = n := hi
      have e0 : τ 0 0 = nI i := by rw [hS 0 (by decide)]; exact hn
      refine ⟨fun _ => h τ hS (fun x y hx hy => ?_), fun h' => absurd (le_end e0 (by omega)) h'⟩
      rw [hT x y hx hy, if_pos (by omega)]
    | succ k ih =>
      intro fuel i τ hi hf hS hT
      obtain ⟨f, rfl, hf⟩ := fu hf
      have e0 : τ 0 0 = nI n := by rw [hS 0 (by decide)]; exact hn
      have iu := hT i u (by omega) hu
      rw [if_neg (by omega)] at iu
      refine ⟨fun h' => absurd h' (le_at e0 (by omega) (by omega)), fun _ => ⟨vi hp, ?_⟩⟩
      rw [ck (k := p) (by omega), hS 1 (by decide), e1]
      refine ltm (by omega) (by omega) iu ⟨vi hp, ?_⟩
      rw [hS 3 (by decide), e3]
      exact inner (k * 20 + 1) i (by omega) (fun f' τ' hf' hS' hT' => ih f' (i + 1) τ' (by omega) (by omega) hS' hT') n f 0 τ (by omega) (by omega) hS hT
  exact outer n 3999 0 σ (by omega) (by omega) (fun _ _ => rfl) (fun x y hx hy => by rw [if_neg (by omega)]; exact hD x y hx hy)
theorem r_forget {σ : Sg} {Q : Sg → Prop} (h : ∀ τ : Sg, (∀ k, k ≠ 5 → τ k = σ k) → (∀ a b, a < 10 → b < 10 → τ 5 (a * 10 + b) = nI (if a = b then 0 else 1000000)) → Q τ) : q_Roads_forgetTimes σ Q := by
  have inner : ∀ (F i : Nat), i < 10 → (∀ f' (τ' : Sg), F ≤ f' → (∀ k, k ≠ 5 → τ' k = σ k) → (∀ a b, a < i + 1 → b < 10 → τ' 5 (a * 10 + b) = nI (if a = b then 0 else 1000000)) → q_Roads_forgetTimes_j Q f' 1 (nI (i + 1)) 0 τ') →
      ∀ k fuel j (τ : Sg), j + k = 10 → F + k < fuel → (∀ k, k ≠ 5 → τ k = σ k) → (∀ a b, a < 10 → b < 10 → (a < i ∨ (a = i ∧ b < j)) → τ 5 (a * 10 + b) = nI (if a = b then 0 else 1000000)) → q_Roads_forgetTimes_j Q fuel 2 (nI i) (nI j) τ := by
    intro F i hi hout k
    induction k with
    | zero =>
      intro fuel j τ hj hf hS hT
      obtain ⟨f, rfl, -⟩ := fu hf
      obtain rfl : j = 10 := hj
      refine ⟨fun _ => ?_, fun h' => absurd (nI_le (a := 10) (b := 10) (by omega) (by omega)) h'⟩
      rw [nI_1]
      exact hout f τ (by omega) hS (fun a b ha hb => hT a b (by omega) hb (by omega))
    | succ k ih =>
      intro fuel j τ hj hf hS hT
      obtain ⟨f, rfl, hf⟩ := fu hf
      refine ⟨fun h' => absurd h' (nle_k (k := 10) (by omega) (by omega)), fun _ => ?_⟩
      rw [ix10 (by omega) (by omega), ck (k := i * 10 + j) (by omega), nI_1]
      have nx : ∀ x : Int32, x = nI (if i = j then 0 else 1000000) → q_Roads_forgetTimes_j Q f 2 (nI i) (nI (j + 1)) (sto τ 5 (i * 10 + j) x) := by
        intro x hx
        refine ih f (j + 1) _ (by omega) (by omega) (fun k hk => by rw [sto_ne hk]; exact hS k hk) (fun a b ha hb hab => ?_)
        rw [sto_sto rfl]
        by_cases hxy : a = i ∧ b = j
        · obtain ⟨rfl, rfl⟩ := hxy
          rw [pk_us, hx]
        · rw [pk_un (by omega)]
          exact hT a b ha hb (by omega)
      refine ⟨fun e => ⟨vi (by omega), nx 0 ?_⟩, fun e => ⟨vi (by omega), nx 1000000 ?_⟩⟩
      · have := (nI_eq (by omega) (by omega)).mp e
        rw [if_pos this]; rfl
      · rw [if_neg (fun h => e (by rw [h]))]; rfl
  have outer : ∀ k fuel i (τ : Sg), i + k = 10 → k * 20 < fuel → (∀ k, k ≠ 5 → τ k = σ k) → (∀ a b, a < i → b < 10 → τ 5 (a * 10 + b) = nI (if a = b then 0 else 1000000)) → q_Roads_forgetTimes_j Q fuel 1 (nI i) 0 τ := by
    intro k
    induction k with
    | zero =>
      intro fuel i τ hi hf hS hT
      obtain ⟨f, rfl, -⟩ := fu hf
      obtain rfl : i = 10 := hi
      exact ⟨fun _ => h τ hS hT, fun h' => absurd (nI_le (a := 10) (b := 10) (by omega) (by omega)) h'⟩
    | succ k ih =>
      intro fuel i τ hi hf hS hT
      obtain ⟨f, rfl, hf⟩ := fu hf
      refine ⟨fun h' => absurd h' (nle_k (k := 10) (by omega) (by omega)), fun _ => ?_⟩
      exact inner (k * 20 + 1) i (by omega) (fun f' τ' hf' hS' hT' => ih f' (i + 1) τ' (by omega) (by omega) hS' hT') 10 f 0 τ (by omega) (by omega) hS (fun a b ha hb hab => hT a b (by omega) hb)
  exact outer 10 3999 0 σ (by omega) (by omega) (fun _ _ => rfl) (fun a b ha => absurd ha (by omega))
/-! what the table says -/
def gTb (n : Nat) (E : Nat → Nat → Nat → Prop) (lt : Nat → Int32) : Prop := ∃ D : Nat → Nat → Nat, (∀ a b, a < n → b < n → lt (a * 10 + b) = nI (D a b)) ∧ ds_ok n 1000000 E D
theorem oE_E {n np : Nat} {bg en tm cl : Nat → Int32} : ds_E n (oE n np bg en tm cl) := fun _ _ _ h => ⟨h.1, h.2.1, h.2.2.1, h.2.2.2.1⟩
theorem g_short {σ : Sg} {n p u v t : Nat} {E E' : Nat → Nat → Nat → Prop} {Q : Sg → Prop} (hn : σ 0 0 = nI n) (z : n ≤ 10) (hp : p < 30) (e1 : σ 1 p = nI u) (e2 : σ 2 p = nI v) (e3 : σ 3 p = nI t) (hu : u < n) (hv : v < n) (h1 : 1 ≤ t) (ht : t ≤ 100)
    (hE : ds_E n E) (hE' : ∀ a c w, E' a c w ↔ (E a c w ∨ (a = u ∧ c = v ∧ w = t))) (hL : gTb n E (σ 5))
    (h : ∀ τ : Sg, (∀ k, k ≠ 5 → τ k = σ k) → gTb n E' (τ 5) → Q τ) : q_Roads_shortenBy (nI p) σ Q := by
  obtain ⟨D, hD, ok⟩ := hL
  refine r_short hn z hp e1 e2 e3 hu hv ht hD ok.2.1 (fun τ hS hT => h τ hS ⟨ds_via D u v t, hT, ?_⟩)
  refine ds_ext (ds_add hE ok hu hv) (fun a c w => (hE' a c w).symm) (fun a c w hw => ?_) (fun a b _ _ => rfl)
  rcases hw with hw | ⟨rfl, rfl, rfl⟩
  · exact hE a c w hw
  · exact ⟨hu, hv, h1, ht⟩
theorem oE_open {n i u v t : Nat} {bg en tm cl : Nat → Int32} (hu : u < n) (hv : v < n) (h1 : 1 ≤ t) (ht : t ≤ 100) (z : n ≤ 10) (e0 : cl i = 0) (e1 : bg i = nI u) (e2 : en i = nI v) (e3 : tm i = nI t) (a c w : Nat) :
    oE n (i + 1) bg en tm cl a c w ↔ (oE n i bg en tm cl a c w ∨ (a = u ∧ c = v ∧ w = t)) := by
  constructor
  · rintro ⟨ha, hc, hw, hw', k, hk, k0, k1, k2, k3⟩
    by_cases hki : k = i
    · subst hki
      refine Or.inr ⟨?_, ?_, ?_⟩
      · exact (nI_eq (by omega) (by omega)).mp (k1.symm.trans e1)
      · exact (nI_eq (by omega) (by omega)).mp (k2.symm.trans e2)
      · exact (nI_eq (by omega) (by omega)).mp (k3.symm.trans e3)
    · exact Or.inl ⟨ha, hc, hw, hw', k, by omega, k0, k1, k2, k3⟩
  · rintro (⟨ha, hc, hw, hw', k, hk, k0⟩ | ⟨rfl, rfl, rfl⟩)
    · exact ⟨ha, hc, hw, hw', k, by omega, k0⟩
    · exact ⟨hu, hv, h1, ht, i, by omega, e0, e1, e2, e3⟩
theorem oE_shut {n i : Nat} {bg en tm cl : Nat → Int32} (e0 : ¬ cl i = 0) (a c w : Nat) : oE n i bg en tm cl a c w ↔ oE n (i + 1) bg en tm cl a c w := by
  constructor
  · rintro ⟨ha, hc, hw, hw', k, hk, k0⟩
    exact ⟨ha, hc, hw, hw', k, by omega, k0⟩
  · rintro ⟨ha, hc, hw, hw', k, hk, k0, k1⟩
    by_cases hki : k = i
    · subst hki; exact absurd k0 e0
    · exact ⟨ha, hc, hw, hw', k, by omega, k0, k1⟩
theorem g_measure {σ : Sg} {n np : Nat} {Q : Sg → Prop} (hn : σ 0 0 = nI n) (z : n ≤ 10) (hnp : σ 0 6 = nI np) (z3 : np ≤ 30) (hpc : gPc n np (σ 1) (σ 2) (σ 3))
    (h : ∀ τ : Sg, (∀ k, k ≠ 5 → τ k = σ k) → gLt n np (σ 1) (σ 2) (σ 3) (σ 4) (τ 5) → Q τ) : q_Roads_measureAnew σ Q := by
  have key : ∀ k fuel i (τ : Sg), i + k = np → k < fuel → (∀ k, k ≠ 5 → τ k = σ k) → gLt n i (σ 1) (σ 2) (σ 3) (σ 4) (τ 5) → q_Roads_measureAnew_j Q fuel 1 (nI i) τ := by
    intro k
    induction k with
    | zero =>
      intro fuel i τ hi hf hS hT
      obtain ⟨f, rfl, -⟩ := fu hf
      obtain rfl : i = np := hi
      have e0 : τ 0 6 = nI i := by rw [hS 0 (by decide)]; exact hnp
      exact ⟨fun _ => h τ hS hT, fun h' => absurd (le_end e0 (by omega)) h'⟩
    | succ k ih =>
      intro fuel i τ hi hf hS hT
      obtain ⟨f, rfl, hf⟩ := fu hf
      have e0 : τ 0 6 = nI np := by rw [hS 0 (by decide)]; exact hnp
      refine ⟨fun h' => absurd h' (le_at e0 (by omega) (by omega)), fun _ => ⟨vi (by omega), ?_⟩⟩
      rw [ck (k := i) (by omega), nI_1, hS 4 (by decide)]
      refine ⟨fun ec => ?_, fun ec => ?_⟩
      · obtain ⟨u, v, t, hu, hv, h1, ht, e1, e2, e3⟩ := hpc i (by omega)
        refine g_short (u := u) (v := v) (t := t) (by rw [hS 0 (by decide)]; exact hn) z (by omega) (by rw [hS 1 (by decide)]; exact e1) (by rw [hS 2 (by decide)]; exact e2) (by rw [hS 3 (by decide)]; exact e3) hu hv h1 ht oE_E (oE_open hu hv h1 ht z ec e1 e2 e3) hT (fun τ' hS' hT' => ?_)
        exact ih f (i + 1) τ' (by omega) (by omega) (fun k hk => (hS' k hk).trans (hS k hk)) hT'
      · obtain ⟨D, hD, ok⟩ := hT
        exact ih f (i + 1) τ (by omega) (by omega) hS ⟨D, hD, ds_ext ok (oE_shut ec) oE_E (fun _ _ _ _ => rfl)⟩
  refine r_forget (fun τ hS hT => key np 3999 0 τ (by omega) (by omega) hS ⟨_, fun a b ha hb => hT a b (by omega) (by omega), ?_⟩)
  exact ds_ext (ds_none (by decide)) (fun a c t => ⟨fun h => h.elim, fun h => by obtain ⟨_, _, _, _, k, hk, _⟩ := h; omega⟩) (fun _ _ _ h => h.elim) (fun _ _ _ _ => rfl)
