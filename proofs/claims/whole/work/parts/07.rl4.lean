theorem fr_rl_576 : ((k206.drop 576).take 48).all (fr_ch fr_law) = true := by decide +kernel
theorem fr_rl_624 : ((k206.drop 624).take 9).all (fr_ch fr_law) = true := by decide +kernel
