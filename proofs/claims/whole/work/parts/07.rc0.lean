theorem fr_rc_0 : ((fr_tab.drop 0).take 12).all fr_rcc = true := by decide +kernel
theorem fr_rc_12 : ((fr_tab.drop 12).take 7).all fr_rcc = true := by decide +kernel
theorem fr_rc_19 : ((fr_tab.drop 19).take 6).all fr_rcc = true := by decide +kernel
theorem fr_rc_25 : ((fr_tab.drop 25).take 7).all fr_rcc = true := by decide +kernel
theorem fr_rc_32 : ((fr_tab.drop 32).take 7).all fr_rcc = true := by decide +kernel
theorem fr_rc_39 : ((fr_tab.drop 39).take 9).all fr_rcc = true := by decide +kernel
theorem fr_rc_48 : ((fr_tab.drop 48).take 12).all fr_rcc = true := by decide +kernel
theorem fr_rc_60 : ((fr_tab.drop 60).take 10).all fr_rcc = true := by decide +kernel
