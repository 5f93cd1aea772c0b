theorem tabP_0 : allB chkP [1, 2, 3, 4, 5, 6, 7, 8, 9, 10, 11, 12, 13, 14, 15, 16, 17, 18, 19, 20, 21, 22, 23, 24, 25, 26, 27, 28, 29, 30] = true := by decide +kernel
theorem tabP_1 : allB chkP [31, 32, 33, 34, 35, 36, 37, 38] = true := by decide +kernel
theorem tabP_2 : allB chkP [39, 40] = true := by decide +kernel
theorem tabP_3 : allB chkP [41, 42, 43, 44] = true := by decide +kernel
theorem tabP_4 : allB chkP [45, 46, 47] = true := by decide +kernel
theorem tabP_5 : allB chkP [48] = true := by decide +kernel
theorem tabP_6 : allB chkP [49, 50, 51] = true := by decide +kernel
theorem tabP_7 : allB chkP [52, 53, 54] = true := by decide +kernel
