/-! the program settles: the best worths, then who takes what -/
theorem max32 {x y : Nat} (hx : x < 2 ^ 31) (hy : y < 2 ^ 31) : (if nI x < nI y then nI y else nI x) = nI (max x y) := by
  by_cases h : x < y
  · rw [if_pos (nI_lt h (by omega)), Nat.max_eq_right (by omega)]
  · rw [if_neg (nI_nlt (by omega) (by omega)), Nat.max_eq_left (by omega)]
/-- what the program's choice knows once all is offered -/
def chK (nj nc A : Nat) (o : Nat → Nat → Prop) (t : Nat → Nat → Nat) (τ : Sg) : Prop := (nj ≤ 12) ∧ (nc ≤ 6) ∧ (A < 64) ∧ (τ 0 3 = nI nj) ∧ (τ 0 4 = nI nc) ∧ (τ 0 5 = nI A) ∧ (∀ j c, j < nj → c < nc → o j c → A.testBit c = true) ∧ (∀ j c, j < nj → c < nc → o j c → t j c ≤ 900) ∧ (∀ j c, j < nj → c < nc → o j c → τ 1 (j * 6 + c) = nI (6000 - t j c)) ∧ (∀ j c, j < nj → c < nc → ¬ o j c → τ 1 (j * 6 + c) = 0)
theorem chK.zj {nj nc A : Nat} {o : Nat → Nat → Prop} {t : Nat → Nat → Nat} {τ : Sg} (h : chK nj nc A o t τ) : nj ≤ 12 := h.1
theorem chK.zc {nj nc A : Nat} {o : Nat → Nat → Prop} {t : Nat → Nat → Nat} {τ : Sg} (h : chK nj nc A o t τ) : nc ≤ 6 := h.2.1
theorem chK.zA {nj nc A : Nat} {o : Nat → Nat → Prop} {t : Nat → Nat → Nat} {τ : Sg} (h : chK nj nc A o t τ) : A < 64 := h.2.2.1
theorem chK.hj {nj nc A : Nat} {o : Nat → Nat → Prop} {t : Nat → Nat → Nat} {τ : Sg} (h : chK nj nc A o t τ) : τ 0 3 = nI nj := h.2.2.2.1
theorem chK.hc {nj nc A : Nat} {o : Nat → Nat → Prop} {t : Nat → Nat → Nat} {τ : Sg} (h : chK nj nc A o t τ) : τ 0 4 = nI nc := h.2.2.2.2.1
theorem chK.hA {nj nc A : Nat} {o : Nat → Nat → Prop} {t : Nat → Nat → Nat} {τ : Sg} (h : chK nj nc A o t τ) : τ 0 5 = nI A := h.2.2.2.2.2.1
theorem chK.ab {nj nc A : Nat} {o : Nat → Nat → Prop} {t : Nat → Nat → Nat} {τ : Sg} (h : chK nj nc A o t τ) : ∀ j c, j < nj → c < nc → o j c → A.testBit c = true := h.2.2.2.2.2.2.1
theorem chK.ht {nj nc A : Nat} {o : Nat → Nat → Prop} {t : Nat → Nat → Nat} {τ : Sg} (h : chK nj nc A o t τ) : ∀ j c, j < nj → c < nc → o j c → t j c ≤ 900 := h.2.2.2.2.2.2.2.1
theorem chK.w1 {nj nc A : Nat} {o : Nat → Nat → Prop} {t : Nat → Nat → Nat} {τ : Sg} (h : chK nj nc A o t τ) : ∀ j c, j < nj → c < nc → o j c → τ 1 (j * 6 + c) = nI (6000 - t j c) := h.2.2.2.2.2.2.2.2.1
theorem chK.w0 {nj nc A : Nat} {o : Nat → Nat → Prop} {t : Nat → Nat → Nat} {τ : Sg} (h : chK nj nc A o t τ) : ∀ j c, j < nj → c < nc → ¬ o j c → τ 1 (j * 6 + c) = 0 := h.2.2.2.2.2.2.2.2.2
theorem chK_w {nj nc A : Nat} {o : Nat → Nat → Prop} {t : Nat → Nat → Nat} {τ τ' : Sg} (h : chK nj nc A o t τ) (h0 : τ' 0 = τ 0) (h1 : τ' 1 = τ 1) : chK nj nc A o t τ' :=
  ⟨h.zj, h.zc, h.zA, by rw [h0]; exact h.hj, by rw [h0]; exact h.hc, by rw [h0]; exact h.hA, h.ab, h.ht, by rw [h1]; exact h.w1, by rw [h1]; exact h.w0⟩
theorem r_can {nj nc A j c s : Nat} {o : Nat → Nat → Prop} {t : Nat → Nat → Nat} {τ : Sg} {Q : Int32 → Prop} (K : chK nj nc A o t τ) (hj : j < nj) (hc : c < nc) (hs : s < 64) (h1 : o j c → s.testBit c = false → Q 1) (h0 : ¬ (o j c ∧ s.testBit c = false) → Q 0) : q_Choice_canTake (nI j) (nI c) (nI s) τ Q := by
  have z1 := K.zj
  have z2 := K.zc
  unfold q_Choice_canTake q_Choice_worthOf
  rw [ix6, ck (by omega), bt_a s hs c (by omega)]
  refine ⟨vi (by omega), ?_⟩
  by_cases ho : o j c
  · have := K.ht j c hj hc ho
    rw [K.w1 j c hj hc ho]
    exact ⟨fun h => absurd h (nI_nle (by omega) (by omega)), fun _ => ⟨fun hb => h1 ho hb, fun hb => h0 (fun h => hb h.2)⟩⟩
  · rw [K.w0 j c hj hc ho]
    exact ⟨fun _ => h0 (fun h => ho h.1), fun h => absurd (by decide) h⟩
theorem r_bf {τ : Sg} {j s : Nat} {x : Int32} {Q : Int32 → Prop} (hj : j < 13) (hs : s < 64) (e : τ 2 (j * 64 + s) = x) (h : Q x) : q_Choice_bestFrom (nI j) (nI s) τ Q := by
  unfold q_Choice_bestFrom
  rw [ix64 j hj, nI_add, ck (by omega), e]
  exact ⟨vi (by omega), h⟩
theorem r_with {nj nc A j c s x : Nat} {o : Nat → Nat → Prop} {t : Nat → Nat → Nat} {τ : Sg} {Q : Int32 → Prop} (K : chK nj nc A o t τ) (hj : j < nj) (hc : c < nc) (hs : s < 64) (ho : o j c) (e : τ 2 ((j + 1) * 64 + (s ||| 2 ^ c)) = nI x) (h : Q (nI (6000 - t j c + x))) : q_Choice_worthWith (nI j) (nI c) (nI s) τ Q := by
  have z1 := K.zj
  have z2 := K.zc
  unfold q_Choice_worthWith q_Choice_worthOf
  rw [ix6, ck (by omega), K.w1 j c hj hc ho, bt_o s hs c (by omega), nI_1]
  refine ⟨vi (by omega), r_bf (by omega) (or_lt s hs c (by omega)) e ?_⟩
  rw [nI_add]; exact h
/-- row j of the best worths, at the sets that matter -/
def brow (A j : Nat) (f : Nat → Int32) (p : Nat → Nat) : Prop := ∀ s, s < 64 → s &&& A = s → f (j * 64 + s) = nI (p s)
theorem mw_b0 {σ : Sg} {v1 v2 : Int32} {Q : Int32 → Prop} (h : q_Choice_mostWorth_b0 (q_Choice_mostWorth_j Q σ 3999) Q v1 v2 0 0 σ) : q_Choice_mostWorth v1 v2 σ Q := h
theorem r_most {nj nc A j s : Nat} {o : Nat → Nat → Prop} {t : Nat → Nat → Nat} {p : Nat → Nat} {τ : Sg} {Q : Int32 → Prop} (K : chK nj nc A o t τ) (hj : j < nj) (hs : s < 64) (hsA : s &&& A = s) (hp : brow A (j + 1) (τ 2) p) (hb : ∀ s, s < 64 → p s ≤ 36000) (hr : ∀ c, c ≤ nc → rowc 6000 (o j) (t j) p s c ≤ 36000)
    (h : Q (nI (rowc 6000 (o j) (t j) p s nc))) : q_Choice_mostWorth (nI j) (nI s) τ Q := by
  have z1 := K.zj
  have z2 := K.zc
  have key : ∀ k fuel c, c + k = nc → k < fuel → q_Choice_mostWorth_j Q τ fuel 1 (nI j) (nI s) (nI (rowc 6000 (o j) (t j) p s c)) (nI c) := by
    intro k
    induction k with
    | zero =>
      intro fuel c hc hf
      obtain ⟨f, rfl, -⟩ := fu hf
      obtain rfl : c = nc := hc
      exact ⟨fun _ => h, fun h' => absurd (le_end K.hc (by omega)) h'⟩
    | succ k ih =>
      intro fuel c hc hf
      obtain ⟨f, rfl, hf⟩ := fu hf
      have ih' := ih f (c + 1) (by omega) (by omega)
      refine ⟨fun h' => absurd h' (le_at K.hc (by omega) (by omega)), fun _ => r_can K hj (show c < nc by omega) hs (fun ho hbit => b1 ?_) (fun hno => b0 ?_)⟩
      · have e := hp (s ||| 2 ^ c) (or_lt s hs c (by omega)) (bt_so s hs A K.zA c (by omega) hsA (K.ab j c hj (by omega) ho))
        refine r_with K hj (by omega) hs ho e ?_
        have h1 := hr c (by omega)
        have h2 := hb (s ||| 2 ^ c) (or_lt s hs c (by omega))
        rw [max32 (by omega) (by omega), ← rowc_y ho hbit, nI_1]
        exact ih'
      · rw [rowc_n hno] at ih'
        rw [nI_1]; exact ih'
  refine mw_b0 ?_
  unfold q_Choice_mostWorth_b0
  rw [nI_1]
  exact r_bf (by omega) hs (hp s hs hsA) (key nc 3999 0 (by omega) (by omega))
theorem r_find {nj nc A j : Nat} {o : Nat → Nat → Prop} {t : Nat → Nat → Nat} {p : Nat → Nat} {τ : Sg} {Q : Sg → Prop} (K : chK nj nc A o t τ) (hj : j < nj) (hp : brow A (j + 1) (τ 2) p) (hb : ∀ s, s < 64 → p s ≤ 36000) (hr : ∀ s, s < 64 → ∀ c, c ≤ nc → rowc 6000 (o j) (t j) p s c ≤ 36000)
    (h : ∀ τ' : Sg, (∀ k, k ≠ 2 → τ' k = τ k) → (∀ i, (i < j * 64 ∨ j * 64 + 64 ≤ i) → τ' 2 i = τ 2 i) → brow A j (τ' 2) (fun s => rowc 6000 (o j) (t j) p s nc) → Q τ') : q_Choice_findBest (nI j) τ Q := by
  have z1 := K.zj
  have z2 := K.zc
  have zA := K.zA
  have key : ∀ k fuel i (υ : Sg), i + k = A + 1 → k < fuel → (∀ k, k ≠ 2 → υ k = τ k) → (∀ i, (i < j * 64 ∨ j * 64 + 64 ≤ i) → υ 2 i = τ 2 i) → (∀ s, s < i → s < 64 → s &&& A = s → υ 2 (j * 64 + s) = nI (rowc 6000 (o j) (t j) p s nc)) → q_Choice_findBest_j Q fuel 1 (nI j) (nI i) υ := by
    intro k
    induction k with
    | zero =>
      intro fuel i υ hi hf hS hO hT
      obtain ⟨f, rfl, -⟩ := fu hf
      obtain rfl : i = A + 1 := hi
      have eA : υ 0 5 = nI A := by rw [hS 0 (by decide)]; exact K.hA
      refine ⟨fun _ => h υ hS hO (fun s hs hsA => hT s ?_ hs hsA), fun h' => absurd (by rw [eA]; exact nI_lt (by omega) (by omega)) h'⟩
      have : s &&& A ≤ A := Nat.and_le_right
      omega
    | succ k ih =>
      intro fuel i υ hi hf hS hO hT
      obtain ⟨f, rfl, hf⟩ := fu hf
      have eA : υ 0 5 = nI A := by rw [hS 0 (by decide)]; exact K.hA
      have K' : chK nj nc A o t υ := chK_w K (hS 0 (by decide)) (hS 1 (by decide))
      have hp' : brow A (j + 1) (υ 2) p := fun s hs hsA => by rw [hO ((j + 1) * 64 + s) (by omega)]; exact hp s hs hsA
      show (υ 0 5 < nI i → _) ∧ _
      rw [eA, bt_s i (by omega) A zA, nI_1]
      refine ⟨fun h' => absurd h' (nI_nlt (by omega) (by omega)), fun _ => ⟨fun hsub => ?_, fun hsub => ?_⟩⟩
      · refine r_most K' hj (by omega) hsub hp' hb (hr i (by omega)) ?_
        rw [ix64 j (by omega), nI_add, ck (k := j * 64 + i) (by omega)]
        refine ⟨vi (by omega), ih f (i + 1) _ (by omega) (by omega) (fun k hk => by rw [sto_ne hk]; exact hS k hk) (fun m hm => ?_) (fun s hs hs' hsA => ?_)⟩
        · rw [sto_sto rfl, pk_un (by omega)]; exact hO m hm
        · rw [sto_sto rfl]
          by_cases e : s = i
          · subst e; exact pk_us
          · rw [pk_un (by omega)]; exact hT s (by omega) hs' hsA
      · refine ih f (i + 1) υ (by omega) (by omega) hS hO (fun s hs hs' hsA => ?_)
        by_cases e : s = i
        · subst e; exact absurd hsA hsub
        · exact hT s (by omega) hs' hsA
  exact key (A + 1) 3999 0 τ (by omega) (by omega) (fun _ _ => rfl) (fun _ _ => rfl) (fun s hs => absurd hs (by omega))
theorem r_least {nj nc A j s : Nat} {o : Nat → Nat → Prop} {t : Nat → Nat → Nat} {τ : Sg} {Q : Int32 → Prop} (K : chK nj nc A o t τ) (hj : j < nj) (hs : s < 64) (hsA : s &&& A = s) (hp : ∀ j, j ≤ nj → brow A j (τ 2) (bst 6000 nc nj o t (nj - j)))
    (h : ∀ r, isFst (pP 6000 nc nj o t j s) nc r → Q r) : q_Choice_leastCarrier (nI j) (nI s) τ Q := by
  have z1 := K.zj
  have z2 := K.zc
  have rb := rel_bst K.zc K.ht
  have key : ∀ k fuel c, c + k = nc → k < fuel → (∀ d, d < c → ¬ pP 6000 nc nj o t j s d) → q_Choice_leastCarrier_j Q τ fuel 1 (nI j) (nI s) (nI c) := by
    intro k
    induction k with
    | zero =>
      intro fuel c hc hf hno
      obtain ⟨f, rfl, -⟩ := fu hf
      obtain rfl : c = nc := hc
      exact ⟨fun _ => h _ (Or.inl ⟨rfl, hno⟩), fun h' => absurd (le_end K.hc (by omega)) h'⟩
    | succ k ih =>
      intro fuel c hc hf hno
      obtain ⟨f, rfl, hf⟩ := fu hf
      have go : ¬ pP 6000 nc nj o t j s c → q_Choice_leastCarrier_j Q τ f 1 (nI j) (nI s) (nI c + 1) := by
        intro hn
        rw [nI_1]
        refine ih f (c + 1) (by omega) (by omega) (fun d hd => ?_)
        by_cases e : d = c
        · subst e; exact hn
        · exact hno d (by omega)
      refine ⟨fun h' => absurd h' (le_at K.hc (by omega) (by omega)), fun _ => r_can K hj (show c < nc by omega) hs (fun ho hbit => b1 ?_) (fun hn => b0 (go (fun hp => hn ⟨hp.1, hp.2.1⟩)))⟩
      have l1 := or_lt s hs c (by omega)
      have e := hp (j + 1) (by omega) (s ||| 2 ^ c) l1 (bt_so s hs A K.zA c (by omega) hsA (K.ab j c hj (by omega) ho))
      have bd1 := (rel_bd (by omega) (rb (nj - (j + 1)) (by omega) (s ||| 2 ^ c) l1)).1
      have bd2 := (rel_bd (by omega) (rb (nj - j) (by omega) s hs)).1
      refine r_with K hj (by omega) hs ho e (r_bf (by omega) hs (hp j (by omega) s hs hsA) ⟨fun e1 => h _ (Or.inr ⟨c, by omega, rfl, ⟨ho, hbit, (nI_eq (by omega) (by omega)).mp e1⟩, hno⟩), fun e1 => go (fun hq => e1 (by rw [hq.2.2]))⟩)
  exact key nc 3999 0 (by omega) (by omega) (fun d hd => absurd hd (by omega))
/-- the sets taken, job by job, and who is chosen -/
def chS (nc nj : Nat) (o : Nat → Nat → Prop) (t : Nat → Nat → Nat) (i : Nat) (S : Nat → Nat) (ch : Nat → Int32) : Prop := S 0 = 0 ∧ ∀ j, j < i → S j < 64 ∧ isFst (pP 6000 nc nj o t j (S j)) nc (ch j) ∧ (ch j = -1 → S (j + 1) = S j) ∧ (∀ c, c < nc → ch j = nI c → S (j + 1) = S j ||| 2 ^ c)
theorem se_1 {Q : Sg → Prop} {f : Nat} {v a b : Int32} {σ : Sg} (h : (v < 0 → q_Choice_settle_j Q f 2 0 0 0 σ) ∧ (¬ v < 0 → (q_Choice_findBest v σ (fun u1 => q_Choice_settle_j Q f 1 (v + (-1)) 0 0 u1)))) : q_Choice_settle_j Q (f + 1) 1 v a b σ := by
  unfold q_Choice_settle_j q_Choice_settle_b1; exact h
theorem se_0 {Q : Sg → Prop} {σ : Sg} (h : q_Choice_settle_b0 (q_Choice_settle_j Q 3999) Q 0 0 0 σ) : q_Choice_settle σ Q := h
theorem r_settle {nj nc A : Nat} {o : Nat → Nat → Prop} {t : Nat → Nat → Nat} {τ : Sg} {Q : Sg → Prop} (K : chK nj nc A o t τ) (hz : gBs nj (τ 2))
    (h : ∀ (τ' : Sg) S, gBs nj (τ' 2) → chS nc nj o t nj S (τ' 3) → Q τ') : q_Choice_settle τ Q := by
  have z1 := K.zj
  have z2 := K.zc
  have zA := K.zA
  have rb := rel_bst K.zc K.ht
  have second : ∀ k fuel i s S (υ : Sg), i + k = nj → k < fuel → chK nj nc A o t υ → (∀ j, j ≤ nj → brow A j (υ 2) (bst 6000 nc nj o t (nj - j))) → gBs nj (υ 2) → s < 64 → s &&& A = s → S i = s → chS nc nj o t i S (υ 3) → q_Choice_settle_j Q fuel 2 (nI s) (nI i) 0 υ := by
    intro k
    induction k with
    | zero =>
      intro fuel i s S υ hi hf K' hp hz' hs hsA hSi hC
      obtain ⟨f, rfl, -⟩ := fu hf
      obtain rfl : i = nj := hi
      exact ⟨fun _ => h υ S hz' hC, fun h' => absurd (le_end K'.hj (by omega)) h'⟩
    | succ k ih =>
      intro fuel i s S υ hi hf K' hp hz' hs hsA hSi hC
      obtain ⟨f, rfl, hf⟩ := fu hf
      refine ⟨fun h' => absurd h' (le_at K'.hj (by omega) (by omega)), fun _ => r_least K' (show i < nj by omega) hs hsA hp (fun r hr => ⟨vi (by omega), ?_⟩)⟩
      rw [ck (k := i) (by omega), nI_1]
      have nxt : ∀ s', s' < 64 → s' &&& A = s' → (r = -1 → s' = s) → (∀ c, c < nc → r = nI c → s' = s ||| 2 ^ c) → q_Choice_settle_j Q f 2 (nI s') (nI (i + 1)) 0 (sto υ 3 i r) := by
        intro s' hs' hsA' h1 h2
        refine ih f (i + 1) s' (fun m => if m = i + 1 then s' else S m) _ (by omega) (by omega) (chK_w K' (sto_ne (by decide)) (sto_ne (by decide))) (by rw [sto_ne (by decide)]; exact hp) (by rw [sto_ne (by decide)]; exact hz') hs' hsA' (if_pos rfl) ⟨?_, fun j hj => ?_⟩
        · show (if 0 = i + 1 then s' else S 0) = 0
          rw [if_neg (by omega)]; exact hC.1
        · show (if j = i + 1 then s' else S j) < 64 ∧ isFst (pP 6000 nc nj o t j (if j = i + 1 then s' else S j)) nc ((sto υ 3 i r) 3 j) ∧ ((sto υ 3 i r) 3 j = -1 → (if j + 1 = i + 1 then s' else S (j + 1)) = (if j = i + 1 then s' else S j)) ∧ (∀ c, c < nc → (sto υ 3 i r) 3 j = nI c → (if j + 1 = i + 1 then s' else S (j + 1)) = (if j = i + 1 then s' else S j) ||| 2 ^ c)
          rw [if_neg (show ¬ j = i + 1 by omega), sto_sto rfl]
          by_cases e : j = i
          · subst e
            rw [pk_us, if_pos rfl, hSi]
            exact ⟨hs, hr, h1, h2⟩
          · rw [pk_un e, if_neg (by omega)]
            exact hC.2 j (by omega)
      refine ⟨fun e => ?_, fun e => ?_⟩
      · rw [Int32.or_zero]
        exact nxt s hs hsA (fun _ => rfl) (fun c hc hc' => absurd (hc'.symm.trans e) (ne_m1 (by omega)))
      · rcases hr with ⟨h1, _⟩ | ⟨c, hc, rfl, hP, _⟩
        · exact absurd h1 e
        · rw [bt_o s hs c (by omega)]
          refine nxt _ (or_lt s hs c (by omega)) (bt_so s hs A zA c (by omega) hsA (K'.ab i c (by omega) hc hP.1)) (fun h => absurd h e) (fun d hd hd' => ?_)
          rw [(nI_eq (by omega) (by omega)).mp hd']
  have first : ∀ i fuel (υ : Sg), i ≤ nj → i + 20 < fuel → (∀ k, k ≠ 2 → υ k = τ k) → gBs nj (υ 2) → (∀ j, i ≤ j → j ≤ nj → brow A j (υ 2) (bst 6000 nc nj o t (nj - j))) → q_Choice_settle_j Q fuel 1 (nI i - 1) 0 0 υ := by
    intro i
    induction i with
    | zero =>
      intro fuel υ hi hf hS hz' hp
      obtain ⟨f, rfl, -⟩ := fu hf
      refine se_1 ⟨fun _ => ?_, fun h' => absurd (by decide) h'⟩
      exact second nj f 0 0 (fun _ => 0) υ (by omega) (by omega) (chK_w K (hS 0 (by decide)) (hS 1 (by decide))) (fun j hj => hp j (by omega) hj) hz' (by omega) (Nat.zero_and A) rfl ⟨rfl, fun j hj => absurd hj (by omega)⟩
    | succ i ih =>
      intro fuel υ hi hf hS hz' hp
      obtain ⟨f, rfl, hf⟩ := fu hf
      rw [nI_pred]
      refine se_1 ⟨fun h' => absurd h' (nI_pos (by omega)), fun _ => ?_⟩
      refine r_find (chK_w K (hS 0 (by decide)) (hS 1 (by decide))) (show i < nj by omega) (hp (i + 1) (by omega) (by omega)) (fun s hs => (rel_bd (by omega) (rb _ (by omega) s hs)).1) (fun s hs c hc => ?_) (fun υ' hS' hO hT => ?_)
      · exact (rel_bd (by omega) (rel_row hs K.zc (fun c hc ho => K.ht i c (by omega) hc ho) (rb _ (by omega)) c hc)).1
      · rw [show nI i + (-1) = nI i - 1 from by rw [Int32.sub_eq_add_neg]]
        refine ih f υ' (by omega) (by omega) (fun k hk => (hS' k hk).trans (hS k hk)) (fun m hm => by rw [hO m (by omega)]; exact hz' m hm) (fun j hj hj' => ?_)
        by_cases e : j = i
        · subst e
          intro s hs hsA
          rw [bst_s (by omega)]; exact hT s hs hsA
        · intro s hs hsA
          rw [hO (j * 64 + s) (by omega)]
          exact hp j (by omega) hj' s hs hsA
  refine se_0 ?_
  unfold q_Choice_settle_b0
  rw [K.hj]
  refine first nj 3999 τ (Nat.le_refl _) (by omega) (fun _ _ => rfl) hz (fun j hj hj' => ?_)
  obtain rfl : j = nj := by omega
  intro s hs _
  rw [hz (j * 64 + s) (by omega), Nat.sub_self]
  rfl
