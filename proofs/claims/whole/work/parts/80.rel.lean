def r_R (σ : SG) (μ : Sg) : Prop := σ 0 0 6 = μ 0 11
theorem r_all : lAll r_R := sorry
theorem r_init : ∀ v : Int32, q_Face_init v (fun σ => q_Model_init v (fun μ => r_R σ μ)) := sorry
