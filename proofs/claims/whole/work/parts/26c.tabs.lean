theorem tabW_0 : allB chkW [1, 2, 3, 4, 5, 6, 7, 8, 9, 10, 11, 12, 13, 14, 15, 16, 17, 18, 19, 20, 21, 22, 23, 24, 25, 26, 27, 28, 29, 30] = true := by decide +kernel
theorem tabW_1 : allB chkW [31, 32, 33, 34, 35, 36, 37, 38] = true := by decide +kernel
theorem tabW_2 : allB chkW [39, 40] = true := by decide +kernel
theorem tabW_3 : allB chkW [41, 42, 43, 44] = true := by decide +kernel
theorem tabW_4 : allB chkW [45, 46, 47] = true := by decide +kernel
theorem tabW_5 : allB chkW [48] = true := by decide +kernel
theorem tabW_6 : allB chkW [49, 50, 51] = true := by decide +kernel
theorem tabW_7 : allB chkW [52, 53, 54] = true := by decide +kernel
