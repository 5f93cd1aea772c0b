theorem tabWd : allB chkW [45, 46, 47, 48, 49, 50, 51, 52, 53, 54, 55] = true := by decide +kernel
theorem tabPd : allB chkP [45, 46, 47, 48, 49, 50, 51, 52, 53, 54, 55] = true := by decide +kernel
