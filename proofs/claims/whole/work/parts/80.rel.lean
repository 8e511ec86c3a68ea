theorem r_all : lAll r_R := sorry
theorem r_init : ∀ v : Int32, q_Face_init v (fun σ => q_Model_init v (fun μ => r_R σ μ)) := sorry
