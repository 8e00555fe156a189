theorem fr_rc_all : fr_tab.all fr_rcc = true := sorry
