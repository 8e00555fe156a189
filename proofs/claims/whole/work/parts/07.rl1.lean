theorem fr_rl_144 : ((k206.drop 144).take 48).all (fr_ch fr_law) = true := by decide +kernel
theorem fr_rl_192 : ((k206.drop 192).take 48).all (fr_ch fr_law) = true := by decide +kernel
theorem fr_rl_240 : ((k206.drop 240).take 48).all (fr_ch fr_law) = true := by decide +kernel
