theorem e_siege : sx_twoBI 6000 92 210 [] = true := by decide +kernel
