def fr_law : fr_T := (13, ⟨"FallRowsLaw", "law", "([I)Z"⟩, code, 4, (some .boolean), k206, { frames := 7, cells := 119, slots := 24412, locals := 160 }, 3, 1)
theorem fr_rl_0 : ((k206.drop 0).take 48).all (fr_ch fr_law) = true := by decide +kernel
theorem fr_rl_48 : ((k206.drop 48).take 48).all (fr_ch fr_law) = true := by decide +kernel
theorem fr_rl_96 : ((k206.drop 96).take 48).all (fr_ch fr_law) = true := by decide +kernel
