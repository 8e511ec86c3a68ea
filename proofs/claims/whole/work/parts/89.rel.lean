theorem r_all : lAll r_R := sorry
