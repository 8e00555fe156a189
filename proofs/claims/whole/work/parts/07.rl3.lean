theorem fr_rl_432 : ((k206.drop 432).take 48).all (fr_ch fr_law) = true := by decide +kernel
theorem fr_rl_480 : ((k206.drop 480).take 48).all (fr_ch fr_law) = true := by decide +kernel
theorem fr_rl_528 : ((k206.drop 528).take 48).all (fr_ch fr_law) = true := by decide +kernel
