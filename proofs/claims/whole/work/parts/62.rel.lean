/-! THE RELATION between the program's state and the reference's -/
/-- the pieces that aren't closed -/
def oE (n np : Nat) (bg en tm cl : Nat → Int32) : Nat → Nat → Nat → Prop := fun a c t => a < n ∧ c < n ∧ 1 ≤ t ∧ t ≤ 100 ∧ ∃ k, k < np ∧ cl k = 0 ∧ bg k = nI a ∧ en k = nI c ∧ tm k = nI t
def gPc (n np : Nat) (bg en tm : Nat → Int32) : Prop := ∀ k, k < np → ∃ a b t, a < n ∧ b < n ∧ 1 ≤ t ∧ t ≤ 100 ∧ bg k = nI a ∧ en k = nI b ∧ tm k = nI t
def gLt (n np : Nat) (bg en tm cl lt : Nat → Int32) : Prop := ∃ D : Nat → Nat → Nat, (∀ a b, a < n → b < n → lt (a * 10 + b) = nI (D a b)) ∧ ds_ok n 1000000 (oE n np bg en tm cl) D
def gCl (np : Nat) (cl : Nat → Int32) : Prop := (∀ k, cl k = 0 ∨ cl k = 1) ∧ ∀ k, np ≤ k → cl k = 0
def gZ1 (f : Nat → Int32) : Prop := ∀ k, f k = 0 ∨ f k = 1
/-- the carriers: where they are, what they hold -/
def gFl (n np nc nj : Nat) (fa fo fh fc st : Nat → Int32) : Prop :=
  (∀ c, c < nc → ∃ p, p < n ∧ fa c = nI p) ∧ (∀ c, c < nc → fo c = -1 ∨ ∃ k, k < np ∧ fo c = nI k) ∧ (∀ c, c < nc → ∃ q, q ≤ 1000 ∧ fc c = nI q) ∧
  (∀ c, c < nc → fh c = -1 ∨ ∃ j, j < nj ∧ fh c = nI j ∧ (st j = 1 ∨ st j = 2)) ∧ (∀ c d, c < nc → d < nc → fh c = fh d → fh c ≠ -1 → c = d)
/-- when they come: kept by both alike where one is under way -/
def gAr (nc : Nat) (fo ar un : Nat → Int32) : Prop := ∀ c, c < nc → ar c = if fo c = -1 then -1 else un c
def gJb (n nj : Nat) (fr to st : Nat → Int32) : Prop := (∀ j, j < nj → ∃ p, p < n ∧ fr j = nI p) ∧ (∀ j, j < nj → ∃ p, p < n ∧ to j = nI p) ∧ (∀ j, j < nj → st j = 0 ∨ st j = 1 ∨ st j = 2 ∨ st j = 3) ∧ ∀ j, nj ≤ j → st j = 0
def sumf (f : Nat → Int32) : Nat → Int32
  | 0 => 0
  | k + 1 => sumf f k + f k
def gDn (nc nj : Nat) (dn st : Nat → Int32) : Prop := sumf dn nc = nI (cnt st 3 nj) ∧ ∀ c, nc ≤ c → dn c = 0
def gBs (nj : Nat) (bs : Nat → Int32) : Prop := ∀ i, 64 * nj ≤ i → bs i = 0
def gSz (n np nr nc nj : Nat) : Prop := 2 ≤ n ∧ n ≤ 10 ∧ np ≤ 30 ∧ nr ≤ 4 ∧ nc ≤ 6 ∧ nj ≤ 12
def gNm (n np nr nc nj : Nat) (σ : SG) (μ : Sg) : Prop :=
  (σ 1 0 0 = nI n ∧ σ 2 0 0 = nI n ∧ μ 0 1 = nI n) ∧ (σ 2 0 6 = nI np ∧ μ 0 4 = nI np) ∧ (σ 3 0 1 = nI nr ∧ μ 0 9 = nI nr) ∧ (σ 4 0 7 = nI nc ∧ μ 0 11 = nI nc) ∧ (σ 5 0 4 = nI nj ∧ μ 0 19 = nI nj) ∧ σ 0 0 6 = μ 0 24
def gEq (σ : SG) (μ : Sg) : Prop :=
  (σ 1 1 = μ 1 ∧ σ 1 2 = μ 2) ∧ (σ 2 1 = μ 3 ∧ σ 2 2 = μ 4 ∧ σ 2 3 = μ 5 ∧ σ 2 4 = μ 6) ∧ σ 3 1 = μ 7 ∧ (σ 4 1 = μ 8 ∧ σ 4 2 = μ 9 ∧ σ 4 4 = μ 11 ∧ σ 4 5 = μ 12 ∧ σ 4 6 = μ 13 ∧ σ 4 7 = μ 14) ∧ (σ 5 1 = μ 15 ∧ σ 5 2 = μ 16 ∧ σ 5 3 = μ 17 ∧ σ 5 4 = μ 18)
def gIn (n np nc nj : Nat) (σ : SG) (μ : Sg) : Prop :=
  gZ1 (σ 1 2) ∧ (gPc n np (σ 2 1) (σ 2 2) (σ 2 3) ∧ gCl np (σ 2 4) ∧ gLt n np (σ 2 1) (σ 2 2) (σ 2 3) (σ 2 4) (σ 2 5)) ∧ (gFl n np nc nj (σ 4 1) (σ 4 2) (σ 4 4) (σ 4 5) (σ 5 3) ∧ gAr nc (σ 4 2) (σ 4 3) (μ 10)) ∧ gJb n nj (σ 5 1) (σ 5 2) (σ 5 3) ∧ gDn nc nj (σ 4 6) (σ 5 3) ∧ gBs nj (σ 6 2)
def r_R (σ : SG) (μ : Sg) : Prop := ∃ n np nr nc nj : Nat, gSz n np nr nc nj ∧ gNm n np nr nc nj σ μ ∧ gEq σ μ ∧ gIn n np nc nj σ μ
/-- the reference's answer tells its throw in cell 0, place 0: nothing else of R reads it -/
theorem r_thr {σ : SG} {μ : Sg} {v : Int32} (h : r_R σ μ) : r_R σ (sto μ 0 0 v) := h
