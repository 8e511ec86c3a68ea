/-! charge, tick -/
theorem okZ {σ : SG} {μ : Sg} {f : Nat → Int64} {x y : Int32} {v : Sg} (hv : v 0 0 = 0) (hR : r_R σ v) (e : x = y) : q_Model_thrown v (fun t => t = 0 ∧ ((0 : Int32) = 0 → vp_updL f 0 (if x = 0 then 0 else 1) 0 = (if y = 0 then (0 : Int64) else 1)) ∧ r_R σ v) := ⟨hv, fun _ => by rw [← e]; rfl, hR⟩
theorem okB {σ : SG} {f : Nat → Int64} {x y : Int32} {v : Sg} (hv : v 0 0 = 0) (hR : r_R σ v) (e : x = y) : q_Model_thrown v (fun t => t = 0 ∧ ((0 : Int32) = 0 → vp_updL f 0 x.toInt64 0 = y.toInt64) ∧ r_R σ v) := ⟨hv, fun _ => by rw [← e]; rfl, hR⟩
theorem fl_fc {n np nc nj c q : Nat} {fa fo fh fc st : Nat → Int32} (h : gFl n np nc nj fa fo fh fc st) (hq : q ≤ 1000) : gFl n np nc nj fa fo fh (upd fc c (nI q)) st := by
  refine ⟨h.1, h.2.1, fun d hd => ?_, h.2.2.2⟩
  by_cases e : d = c
  · subst e; exact ⟨q, hq, pk_us⟩
  · rw [pk_un e]; exact h.2.2.1 d hd
theorem s_charge {a : Int32} {σ : SG} {μ : Sg} (hR : r_R σ μ) : ls_charge a σ μ r_R := by
  have hR0 := hR
  obtain ⟨n, np, nr, nc, nj, ⟨z1, z2, z3, z4, z5, z6⟩, ⟨hn, hp, hr, ⟨hc1, hc2⟩, hj, ht⟩, he, hi⟩ := hR
  intro f
  unfold q_Law_charge q_Face_charge q_Model_charge
  by_cases hv : isIx a nc
  · obtain ⟨c, hcn, rfl⟩ := hv
    have c6 : c < 6 := by omega
    obtain ⟨p, hpn, ep⟩ := hi.2.2.1.1.1 c hcn
    have eo : σ 4 2 = μ 9 := he.2.2.2.1.2.1
    have ea : σ 4 1 = μ 8 := he.2.2.2.1.1
    have eg : σ 1 2 = μ 2 := he.1.2
    refine f_has1 hc1 z5 hcn (b1 ⟨vi c6, ?_⟩)
    rw [ck (by omega)]
    refine ⟨fun h1 => b0 ⟨vi c6, ?_⟩, fun h1 => b1 ?_⟩
    · rw [ck (by omega), ep]
      refine ⟨vi (by omega), nbz (hi.1 _), ?_⟩
      rw [ck (by omega)]
      refine ⟨fun h2 => ?_, fun h2 => ⟨vi c6, ?_⟩⟩
      · refine m_ca1 hc2 z5 hcn (b1 ⟨fun h => absurd h (show ¬ (0 : Int32) < 0 by decide), fun _ => ⟨vi c6, ?_⟩⟩)
        rw [show (sto μ 0 0 0) 9 = σ 4 2 from eo.symm, show (sto μ 0 0 0) 8 = σ 4 1 from ea.symm, show (sto μ 0 0 0) 2 = σ 1 2 from eg.symm, ep]
        refine ⟨fun _ => ⟨vi c6, vi (by omega), ?_⟩, fun h => absurd h1 h⟩
        rw [ck (by omega)]
        exact ⟨fun _ => okZ (μ := μ) rfl (r_thr hR0) rfl, fun h => absurd h2 h⟩
      · refine m_ca1 hc2 z5 hcn (b1 ⟨fun h => absurd h (show ¬ (0 : Int32) < 0 by decide), fun _ => ⟨vi c6, ?_⟩⟩)
        rw [show (sto μ 0 0 0) 9 = σ 4 2 from eo.symm, show (sto μ 0 0 0) 8 = σ 4 1 from ea.symm, show (sto μ 0 0 0) 2 = σ 1 2 from eg.symm, ep]
        refine ⟨fun _ => ⟨vi c6, vi (by omega), ?_⟩, fun h => absurd h1 h⟩
        rw [ck (by omega)]
        refine ⟨fun h => absurd h h2, fun _ => ⟨vi c6, okZ (μ := μ) rfl ?_ rfl⟩⟩
        refine ⟨n, np, nr, nc, nj, ⟨z1, z2, z3, z4, z5, z6⟩, ⟨hn, hp, hr, ⟨hc1, hc2⟩, hj, ht⟩, ⟨he.1, he.2.1, he.2.2.1, ⟨he.2.2.2.1.1, he.2.2.2.1.2.1, he.2.2.2.1.2.2.1, ?_, he.2.2.2.1.2.2.2.2⟩, he.2.2.2.2⟩, hi.1, hi.2.1, ⟨?_, hi.2.2.1.2⟩, hi.2.2.2⟩
        · show upd (σ 4 5) (nI c).toNatClampNeg 1000 = upd (μ 12) c 1000
          rw [ck (by omega), he.2.2.2.1.2.2.2.1]
        · exact fl_fc (q := 1000) hi.2.2.1.1 (Nat.le_refl _)
    · refine m_ca1 hc2 z5 hcn (b1 ⟨fun h => absurd h (show ¬ (0 : Int32) < 0 by decide), fun _ => ⟨vi c6, ?_⟩⟩)
      rw [show (sto μ 0 0 0) 9 = σ 4 2 from eo.symm]
      exact ⟨fun h => absurd h h1, fun _ => okZ (μ := μ) rfl (r_thr hR0) rfl⟩
  · refine f_has0 hc1 z5 hv (b0 ⟨rfl, m_ca0 hc2 z5 hv (b0 ⟨fun _ => ?_, fun h => absurd (show (0 : Int32) < 1 by decide) h⟩)⟩)
    exact ⟨rfl, fun h => absurd h (by decide), r_thr hR0⟩
/-- who has come by v, among the first i -/
def tkC (on un : Nat → Int32) (v : Int32) (i : Nat) : Prop := ¬ on i = -1 ∧ ¬ v < un i
noncomputable def tkO (on un : Nat → Int32) (v : Int32) (g : Nat → Int32) : Nat → (Nat → Int32)
  | 0 => g
  | i + 1 => if (¬ on i = -1 ∧ ¬ v < un i) then upd (tkO on un v g i) i (-1) else tkO on un v g i
def tkN (on un : Nat → Int32) (v : Int32) : Nat → Nat
  | 0 => 0
  | i + 1 => tkN on un v i + (if (¬ on i = -1 ∧ ¬ v < un i) then 1 else 0)
theorem tkO_y {on un : Nat → Int32} {v : Int32} {g : Nat → Int32} {i : Nat} (h : ¬ on i = -1 ∧ ¬ v < un i) : tkO on un v g (i + 1) = upd (tkO on un v g i) i (-1) := by show (if _ then _ else _) = _; rw [if_pos h]
theorem tkO_n {on un : Nat → Int32} {v : Int32} {g : Nat → Int32} {i : Nat} (h : ¬ (¬ on i = -1 ∧ ¬ v < un i)) : tkO on un v g (i + 1) = tkO on un v g i := by show (if _ then _ else _) = _; rw [if_neg h]
theorem tkN_y {on un : Nat → Int32} {v : Int32} {i : Nat} (h : ¬ on i = -1 ∧ ¬ v < un i) : nI (tkN on un v i) + 1 = nI (tkN on un v (i + 1)) := by rw [nI_1]; show _ = nI (tkN on un v i + (if _ then 1 else 0)); rw [if_pos h]
theorem tkN_n {on un : Nat → Int32} {v : Int32} {i : Nat} (h : ¬ (¬ on i = -1 ∧ ¬ v < un i)) : tkN on un v (i + 1) = tkN on un v i := by show tkN on un v i + (if _ then 1 else 0) = _; rw [if_neg h]; rfl
theorem tkO_ge {on un : Nat → Int32} {v : Int32} {g : Nat → Int32} : ∀ (i j : Nat), i ≤ j → tkO on un v g i j = g j
  | 0, _, _ => rfl
  | i + 1, j, h => by
    by_cases hc : ¬ on i = -1 ∧ ¬ v < un i
    · rw [tkO_y hc, pk_un (by omega)]; exact tkO_ge i j (by omega)
    · rw [tkO_n hc]; exact tkO_ge i j (by omega)
theorem tkO_lt {on un : Nat → Int32} {v : Int32} {g : Nat → Int32} : ∀ (i j : Nat), j < i → tkO on un v g i j = if (¬ on j = -1 ∧ ¬ v < un j) then -1 else g j
  | 0, _, h => absurd h (by omega)
  | i + 1, j, h => by
    by_cases hj : j = i
    · subst hj
      by_cases hc : ¬ on j = -1 ∧ ¬ v < un j
      · rw [tkO_y hc, pk_us, if_pos hc]
      · rw [tkO_n hc, if_neg hc]; exact tkO_ge j j (Nat.le_refl _)
    · by_cases hc : ¬ on i = -1 ∧ ¬ v < un i
      · rw [tkO_y hc, pk_un hj]; exact tkO_lt i j (by omega)
      · rw [tkO_n hc]; exact tkO_lt i j (by omega)
theorem sto_sto {σ : Sg} {k i : Nat} {v : Int32} {a : Nat → Int32} (h : σ k = a) : (sto σ k i v) k = upd a i v := by unfold sto; rw [if_pos rfl, h]
theorem sto_ne {σ : Sg} {k i j : Nat} {v : Int32} (h : j ≠ k) : (sto σ k i v) j = σ j := by unfold sto; rw [if_neg h]
/-- the state of the carriers while they come -/
def tkS (σ τ : Sg) (on ar : Nat → Int32) : Prop := τ 2 = on ∧ τ 3 = ar ∧ ∀ j, j ≠ 2 → j ≠ 3 → τ j = σ j
theorem r_arrive {σ : Sg} {nc : Nat} {v : Int32} {un : Nat → Int32} {Q : Int32 → Sg → Prop} (hn : σ 0 7 = nI nc) (h6 : nc ≤ 6) (har : gAr nc (σ 2) (σ 3) un)
    (h : ∀ τ, tkS σ τ (tkO (σ 2) un v (σ 2) nc) (tkO (σ 2) un v (σ 3) nc) → Q (nI (tkN (σ 2) un v nc)) τ) : q_Fleet_arrive v σ Q := by
  have key : ∀ k fuel i τ, i + k = nc → k < fuel → tkS σ τ (tkO (σ 2) un v (σ 2) i) (tkO (σ 2) un v (σ 3) i) → q_Fleet_arrive_j Q fuel 1 v (nI (tkN (σ 2) un v i)) (nI i) τ := by
    intro k
    induction k with
    | zero =>
      intro fuel i τ hi hf hS
      obtain ⟨f, rfl, -⟩ := fu hf
      obtain rfl : i = nc := hi
      have e0 : τ 0 7 = nI i := by rw [hS.2.2 0 (by decide) (by decide)]; exact hn
      exact ⟨fun _ => h τ hS, fun h' => absurd (le_end e0 (by omega)) h'⟩
    | succ k ih =>
      intro fuel i τ hi hf hS
      obtain ⟨f, rfl, hf⟩ := fu hf
      have e0 : τ 0 7 = nI nc := by rw [hS.2.2 0 (by decide) (by decide)]; exact hn
      refine ⟨fun h' => absurd h' (le_at e0 (by omega) (by omega)), fun _ => ⟨vi (by omega), ?_⟩⟩
      have eo : τ 2 i = σ 2 i := by rw [hS.1]; exact tkO_ge i i (Nat.le_refl _)
      have ea : τ 3 i = σ 3 i := by rw [hS.2.1]; exact tkO_ge i i (Nat.le_refl _)
      rw [ck (by omega), nI_1 i, eo]
      refine ⟨fun h1 => b0 ?_, fun h1 => b1 ⟨vi (by omega), ?_⟩⟩
      · have hc : ¬ (¬ σ 2 i = -1 ∧ ¬ v < un i) := fun h => h.1 h1
        have := ih f (i + 1) τ (by omega) (by omega) (by rw [tkO_n hc, tkO_n hc]; exact hS)
        rwa [tkN_n hc] at this
      · have e3 : σ 3 i = un i := by rw [har i (by omega), if_neg h1]
        rw [ea, e3]
        refine ⟨fun h2 => ?_, fun h2 => ⟨vi (by omega), vi (by omega), ?_⟩⟩
        · have hc : ¬ (¬ σ 2 i = -1 ∧ ¬ v < un i) := fun h => h.2 h2
          have := ih f (i + 1) τ (by omega) (by omega) (by rw [tkO_n hc, tkO_n hc]; exact hS)
          rwa [tkN_n hc] at this
        · have hc : ¬ σ 2 i = -1 ∧ ¬ v < un i := ⟨h1, h2⟩
          rw [tkN_y hc]
          refine ih f (i + 1) _ (by omega) (by omega) ⟨?_, ?_, fun j h2 h3 => ?_⟩
          · rw [sto_ne (by decide), tkO_y hc]; exact sto_sto hS.1
          · rw [tkO_y hc]; exact sto_sto (by rw [sto_ne (by decide)]; exact hS.2.1)
          · rw [sto_ne h3, sto_ne h2]; exact hS.2.2 j h2 h3
  exact key nc 3999 0 σ (by omega) (by omega) ⟨rfl, rfl, fun _ _ _ => rfl⟩
