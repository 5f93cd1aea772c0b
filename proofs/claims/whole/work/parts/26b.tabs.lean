theorem t_U : allQ chkU FT = true := by decide +kernel
