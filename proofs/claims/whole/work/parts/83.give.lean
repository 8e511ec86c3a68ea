/-! who is chosen gets the job: what both sides write -/
def stI (ch st : Nat → Int32) : Nat → (Nat → Int32)
  | 0 => st
  | i + 1 => if ch i = -1 then stI ch st i else upd (stI ch st i) i 1
def hdI (ch hd : Nat → Int32) : Nat → (Nat → Int32)
  | 0 => hd
  | i + 1 => if ch i = -1 then hdI ch hd i else upd (hdI ch hd i) i (ch i)
def fhI (ch fh : Nat → Int32) : Nat → (Nat → Int32)
  | 0 => fh
  | i + 1 => if ch i = -1 then fhI ch fh i else upd (fhI ch fh i) (ch i).toNatClampNeg (nI i)
def tvI (ch : Nat → Int32) (t : Nat → Nat → Nat) : Nat → Int32
  | 0 => 0
  | i + 1 => if ch i = -1 then tvI ch t i else tvI ch t i + nI (t i (ch i).toNatClampNeg)
def gvI (ch : Nat → Int32) : Nat → Nat
  | 0 => 0
  | i + 1 => if ch i = -1 then gvI ch i else gvI ch i + 1
theorem stI_n {ch st : Nat → Int32} {i : Nat} (h : ch i = -1) : stI ch st (i + 1) = stI ch st i := if_pos h
theorem stI_y {ch st : Nat → Int32} {i : Nat} (h : ¬ ch i = -1) : stI ch st (i + 1) = upd (stI ch st i) i 1 := if_neg h
theorem hdI_n {ch st : Nat → Int32} {i : Nat} (h : ch i = -1) : hdI ch st (i + 1) = hdI ch st i := if_pos h
theorem hdI_y {ch st : Nat → Int32} {i : Nat} (h : ¬ ch i = -1) : hdI ch st (i + 1) = upd (hdI ch st i) i (ch i) := if_neg h
theorem fhI_n {ch st : Nat → Int32} {i : Nat} (h : ch i = -1) : fhI ch st (i + 1) = fhI ch st i := if_pos h
theorem fhI_y {ch st : Nat → Int32} {i c : Nat} (h : ch i = nI c) (hc : c < 6) : fhI ch st (i + 1) = upd (fhI ch st i) c (nI i) := by
  have : ¬ ch i = -1 := by rw [h]; exact ne_m1 (by omega)
  show (if ch i = -1 then _ else _) = _
  rw [if_neg this, h, ck (by omega)]
theorem tvI_n {ch : Nat → Int32} {t : Nat → Nat → Nat} {i : Nat} (h : ch i = -1) : tvI ch t (i + 1) = tvI ch t i := if_pos h
theorem tvI_y {ch : Nat → Int32} {t : Nat → Nat → Nat} {i c : Nat} (h : ch i = nI c) (hc : c < 6) : tvI ch t (i + 1) = tvI ch t i + nI (t i c) := by
  have : ¬ ch i = -1 := by rw [h]; exact ne_m1 (by omega)
  show (if ch i = -1 then _ else _) = _
  rw [if_neg this, h, ck (by omega)]
theorem gvI_n {ch : Nat → Int32} {i : Nat} (h : ch i = -1) : gvI ch (i + 1) = gvI ch i := if_pos h
theorem gvI_y {ch : Nat → Int32} {i : Nat} (h : ¬ ch i = -1) : gvI ch (i + 1) = gvI ch i + 1 := if_neg h
theorem ch_c {P : Nat → Prop} {nc : Nat} {r : Int32} (h : isFst P nc r) (hne : ¬ r = -1) : ∃ c, c < nc ∧ r = nI c ∧ P c := by
  rcases h with ⟨h1, _⟩ | ⟨c, h1, h2, h3, _⟩
  · exact absurd h1 hne
  · exact ⟨c, h1, h2, h3⟩
/-- what the giving keeps -/
theorem give_inv {n np nc nj : Nat} {D : Nat → Nat → Nat} {S : Nat → Nat} {fa fo fh fc fr to st ch : Nat → Int32} (z5 : nc ≤ 6) (z6 : nj ≤ 12) (hC : chS nc nj (offd D fa fo fh fr st) (trv D fa fr) nj S ch) (g : gFl n np nc nj fa fo fh fc st) (b : gJb n nj fr to st) :
    ∀ i, i ≤ nj → gFl n np nc nj fa fo (fhI ch fh i) fc (stI ch st i) ∧ gJb n nj fr to (stI ch st i) ∧ cnt (stI ch st i) 3 nj = cnt st 3 nj ∧ (∀ m, i ≤ m → stI ch st i m = st m) ∧ (∀ c, c < nc → (S i).testBit c = false → fhI ch fh i c = fh c) := by
  intro i
  induction i with
  | zero => intro _; exact ⟨g, b, rfl, fun _ _ => rfl, fun _ _ _ => rfl⟩
  | succ i ih =>
    intro hi
    obtain ⟨⟨g1, g2, g3, g4, g5⟩, ib, ic, im, ik⟩ := ih (by omega)
    obtain ⟨s1, s2, s3, s4⟩ := hC.2 i (by omega)
    by_cases e : ch i = -1
    · rw [fhI_n e, stI_n e, s3 e]
      exact ⟨⟨g1, g2, g3, g4, g5⟩, ib, ic, fun m hm => im m (by omega), ik⟩
    · obtain ⟨c, hc, ec, ho, hbit, _⟩ := ch_c s2 e
      have st0 : stI ch st i i = 0 := by rw [im i (Nat.le_refl _)]; exact ho.1
      have fh0 : fhI ch fh i c = -1 := by rw [ik c hc hbit]; exact ho.2.2.1
      rw [fhI_y ec (by omega), stI_y e, s4 c hc ec]
      refine ⟨⟨g1, g2, g3, fun d hd => ?_, fun d d' hd hd' => ?_⟩, jb_st ib (by omega) (by decide), ?_, fun m hm => ?_, fun d hd hb => ?_⟩
      · by_cases ed : d = c
        · subst ed
          exact Or.inr ⟨i, by omega, pk_us, Or.inl pk_us⟩
        · rw [pk_un ed]
          rcases g4 d hd with h | ⟨j', hj', ej', es'⟩
          · exact Or.inl h
          · refine Or.inr ⟨j', hj', ej', ?_⟩
            have : j' ≠ i := by
              intro h
              rw [h, st0] at es'
              rcases es' with h | h <;> exact absurd h (by decide)
            rw [pk_un this]; exact es'
      · have other : ∀ x, x < nc → x ≠ c → fhI ch fh i x = nI i → False := by
          intro x hx hxc hxi
          rcases g4 x hx with h | ⟨j', hj', ej', es'⟩
          · exact ne_m1 (by omega) (hxi.symm.trans h)
          · have := (nI_eq (by omega) (by omega)).mp (ej'.symm.trans hxi)
            rw [this, st0] at es'
            rcases es' with h | h <;> exact absurd h (by decide)
        by_cases ed : d = c
        · by_cases ed' : d' = c
          · intro _ _; rw [ed, ed']
          · subst ed
            rw [pk_us, pk_un ed']
            intro h _
            exact (other d' hd' ed' h.symm).elim
        · by_cases ed' : d' = c
          · subst ed'
            rw [pk_us, pk_un ed]
            intro h _
            exact (other d hd ed h).elim
          · rw [pk_un ed, pk_un ed']; exact g5 d d' hd hd'
      · rw [cnt_same (by rw [st0]; decide) (by decide)]; exact ic
      · rw [pk_un (by omega)]; exact im m (by omega)
      · obtain ⟨h1, h2⟩ := bt_keep s1 (show c < 6 by omega) (show d < 6 by omega) hb
        rw [pk_un h2]; exact ik d hd h1
theorem r_give {σ : SG} {n nc nj : Nat} {D : Nat → Nat → Nat} {P : Nat → Nat → Prop} {Q : Int32 → SG → Prop} (z2 : n ≤ 10) (z5 : nc ≤ 6) (z6 : nj ≤ 12) (hj1 : σ 5 0 4 = nI nj) (g1 : ∀ c, c < nc → ∃ p, p < n ∧ σ 4 1 c = nI p) (g2 : ∀ j, j < nj → ∃ p, p < n ∧ σ 5 1 j = nI p)
    (hD : ∀ a b, a < n → b < n → σ 2 5 (a * 10 + b) = nI (D a b)) (hch : ∀ j, j < nj → isFst (P j) nc (σ 6 3 j))
    (h : ∀ u : SG, (∀ m, m ≠ 4 → m ≠ 5 → u m = σ m) → (∀ k, k ≠ 4 → u 4 k = σ 4 k) → u 4 4 = fhI (σ 6 3) (σ 4 4) nj → (∀ k, k ≠ 3 → k ≠ 4 → u 5 k = σ 5 k) → u 5 3 = stI (σ 6 3) (σ 5 3) nj → u 5 4 = hdI (σ 6 3) (σ 5 4) nj →
      ((nI (gvI (σ 6 3) nj) = 0 → Q (-1) u) ∧ (¬ nI (gvI (σ 6 3) nj) = 0 → Q (tvI (σ 6 3) (trv D (σ 4 1) (σ 5 1)) nj) u))) : q_Face_giveOut σ Q := by
  have key : ∀ k fuel i (u : SG), i + k = nj → k < fuel → (∀ m, m ≠ 4 → m ≠ 5 → u m = σ m) → (∀ k, k ≠ 4 → u 4 k = σ 4 k) → u 4 4 = fhI (σ 6 3) (σ 4 4) i → (∀ k, k ≠ 3 → k ≠ 4 → u 5 k = σ 5 k) → u 5 3 = stI (σ 6 3) (σ 5 3) i → u 5 4 = hdI (σ 6 3) (σ 5 4) i →
      q_Face_giveOut_j Q fuel 1 (tvI (σ 6 3) (trv D (σ 4 1) (σ 5 1)) i) (nI (gvI (σ 6 3) i)) (nI i) 0 u := by
    intro k
    induction k with
    | zero =>
      intro fuel i u hi hf a1 a2 a3 a4 a5 a6
      obtain ⟨f, rfl, -⟩ := fu hf
      obtain rfl : i = nj := hi
      have e0 : u 5 0 4 = nI i := by rw [a4 0 (by decide) (by decide)]; exact hj1
      exact ⟨fun _ => h u a1 a2 a3 a4 a5 a6, fun h' => absurd (le_end e0 (by omega)) h'⟩
    | succ k ih =>
      intro fuel i u hi hf a1 a2 a3 a4 a5 a6
      obtain ⟨f, rfl, hf⟩ := fu hf
      have e0 : u 5 0 4 = nI nj := by rw [a4 0 (by decide) (by decide)]; exact hj1
      refine ⟨fun h' => absurd h' (le_at e0 (by omega) (by omega)), fun _ => ⟨vi (by omega), ?_⟩⟩
      rw [ck (k := i) (by omega), nI_1, a1 6 (by decide) (by decide)]
      refine ⟨fun e => ?_, fun e => ?_⟩
      · have ih' := ih f (i + 1) u (by omega) (by omega) a1 a2 (by rw [fhI_n e]; exact a3) a4 (by rw [stI_n e]; exact a5) (by rw [hdI_n e]; exact a6)
        rw [tvI_n e, gvI_n e] at ih'
        exact ih'
      · obtain ⟨c, hc, ec, _⟩ := ch_c (hch i (by omega)) e
        have c6 : c < 6 := by omega
        have i12 : i < 12 := by omega
        rw [ec]
        refine ⟨vi i12, vi i12, vi c6, ?_⟩
        rw [ck (k := i) (by omega), ck (k := c) (by omega)]
        refine r_trav (n := n) (nc := nc) (nj := nj) (D := D) z2 z5 z6 (show i < nj by omega) hc ?_ ?_ ?_ ?_
        · intro d hd
          show ∃ p, p < n ∧ u 4 1 d = nI p
          rw [a2 1 (by decide)]; exact g1 d hd
        · intro d hd
          show ∃ p, p < n ∧ u 5 1 d = nI p
          rw [a4 1 (by decide) (by decide)]; exact g2 d hd
        · intro a b ha hb
          show u 2 5 _ = _
          rw [a1 2 (by decide) (by decide)]; exact hD a b ha hb
        · have t1 : trv D (u 4 1) (u 5 1) i c = trv D (σ 4 1) (σ 5 1) i c := by rw [a2 1 (by decide), a4 1 (by decide) (by decide)]
          have ih' := ih f (i + 1) (setc (setc u 5 (sto (sto (u 5) 3 i 1) 4 i (nI c))) 4 (sto (u 4) 4 c (nI i))) (by omega) (by omega) (fun m m4 m5 => (if_neg m4).trans ((if_neg m5).trans (a1 m m4 m5))) (fun k hk => (sto_ne hk).trans (a2 k hk)) ?_ (fun k h3 h4 => (sto_ne h4).trans ((sto_ne h3).trans (a4 k h3 h4))) ?_ ?_
          · rw [tvI_y ec c6, gvI_y e] at ih'
            rw [nI_1]
            show q_Face_giveOut_j Q f 1 (tvI (σ 6 3) (trv D (σ 4 1) (σ 5 1)) i + nI (trv D (u 4 1) (u 5 1) i c)) _ _ 0 _
            rw [t1]
            exact ih'
          · rw [fhI_y ec c6]
            show upd (u 4 4) c (nI i) = _
            rw [a3]
          · rw [stI_y e]
            show upd (u 5 3) i 1 = _
            rw [a5]
          · rw [hdI_y e, ec]
            show upd (u 5 4) i (nI c) = _
            rw [a6]
  exact key nj 3999 0 σ (by omega) (by omega) (fun _ _ _ => rfl) (fun _ _ => rfl) rfl (fun _ _ _ => rfl) rfl rfl
