theorem fr_rc_70 : ((fr_tab.drop 70).take 10).all fr_rcc = true := by decide +kernel
theorem fr_rc_80 : ((fr_tab.drop 80).take 12).all fr_rcc = true := by decide +kernel
theorem fr_rc_92 : ((fr_tab.drop 92).take 5).all fr_rcc = true := by decide +kernel
theorem fr_rc_97 : ((fr_tab.drop 97).take 9).all fr_rcc = true := by decide +kernel
theorem fr_rc_106 : ((fr_tab.drop 106).take 5).all fr_rcc = true := by decide +kernel
theorem fr_rc_111 : ((fr_tab.drop 111).take 8).all fr_rcc = true := by decide +kernel
theorem fr_rc_119 : ((fr_tab.drop 119).take 6).all fr_rcc = true := by decide +kernel
theorem fr_rc_125 : ((fr_tab.drop 125).take 11).all fr_rcc = true := by decide +kernel
