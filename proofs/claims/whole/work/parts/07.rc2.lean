theorem fr_rc_136 : ((fr_tab.drop 136).take 9).all fr_rcc = true := by decide +kernel
theorem fr_rc_145 : ((fr_tab.drop 145).take 4).all fr_rcc = true := by decide +kernel
theorem fr_rc_149 : ((fr_tab.drop 149).take 6).all fr_rcc = true := by decide +kernel
theorem fr_rc_155 : ((fr_tab.drop 155).take 6).all fr_rcc = true := by decide +kernel
theorem fr_rc_161 : ((fr_tab.drop 161).take 5).all fr_rcc = true := by decide +kernel
theorem fr_rc_166 : ((fr_tab.drop 166).take 5).all fr_rcc = true := by decide +kernel
theorem fr_rc_171 : ((fr_tab.drop 171).take 3).all fr_rcc = true := by decide +kernel
theorem fr_rc_174 : ((fr_tab.drop 174).take 5).all fr_rcc = true := by decide +kernel
