theorem fr_rc_179 : ((fr_tab.drop 179).take 2).all fr_rcc = true := by decide +kernel
theorem fr_rc_181 : ((fr_tab.drop 181).take 6).all fr_rcc = true := by decide +kernel
theorem fr_rc_187 : ((fr_tab.drop 187).take 2).all fr_rcc = true := by decide +kernel
theorem fr_rc_189 : ((fr_tab.drop 189).take 6).all fr_rcc = true := by decide +kernel
theorem fr_rc_195 : ((fr_tab.drop 195).take 3).all fr_rcc = true := by decide +kernel
theorem fr_rc_198 : ((fr_tab.drop 198).take 5).all fr_rcc = true := by decide +kernel
theorem fr_rc_203 : ((fr_tab.drop 203).take 3).all fr_rcc = true := by decide +kernel
