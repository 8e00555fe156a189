theorem fr_rl_288 : ((k206.drop 288).take 48).all (fr_ch fr_law) = true := by decide +kernel
theorem fr_rl_336 : ((k206.drop 336).take 48).all (fr_ch fr_law) = true := by decide +kernel
theorem fr_rl_384 : ((k206.drop 384).take 48).all (fr_ch fr_law) = true := by decide +kernel
