theorem e_first : sx_twoBI 12000 53 177 [] = true := by decide +kernel
