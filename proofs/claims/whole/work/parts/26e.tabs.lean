theorem tabWe : allB chkW [56, 57, 58, 59, 60, 61, 62, 63] = true := by decide +kernel
theorem tabPe : allB chkP [56, 57, 58, 59, 60, 61, 62, 63] = true := by decide +kernel
