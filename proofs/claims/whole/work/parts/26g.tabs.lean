theorem tabPow_0 : allB chkPow [1, 2, 3, 4, 5] = true := by decide +kernel
theorem tabPow_1 : allB chkPow [6, 7, 8, 9, 10] = true := by decide +kernel
theorem tabPow_2 : allB chkPow [11, 12, 13, 14, 15] = true := by decide +kernel
theorem tabPow_3 : allB chkPow [16, 17, 18, 19, 20] = true := by decide +kernel
theorem tabPow_4 : allB chkPow [21, 22, 23, 24, 25] = true := by decide +kernel
theorem tabPow_5 : allB chkPow [26, 27, 28, 29, 30] = true := by decide +kernel
theorem tabPow_6 : allB chkPow [31, 32, 33, 34, 35] = true := by decide +kernel
theorem tabPow_7 : allB chkPow [36, 37, 38, 39, 40] = true := by decide +kernel
theorem tabPow_8 : allB chkPow [41, 42, 43, 44, 45] = true := by decide +kernel
theorem tabPow_9 : allB chkPow [46, 47, 48, 49, 50] = true := by decide +kernel
theorem tabPow_10 : allB chkPow [51, 52, 53, 54, 55] = true := by decide +kernel
theorem tabPow_11 : allB chkPow [56, 57, 58, 59, 60] = true := by decide +kernel
theorem tabPow_12 : allB chkPow [61, 62, 63] = true := by decide +kernel
theorem tabPow_sp : ∀ m ∈ M63, m = 0 ∨ m ∈ [1, 2, 3, 4, 5] ∨ m ∈ [6, 7, 8, 9, 10] ∨ m ∈ [11, 12, 13, 14, 15] ∨ m ∈ [16, 17, 18, 19, 20] ∨ m ∈ [21, 22, 23, 24, 25] ∨ m ∈ [26, 27, 28, 29, 30] ∨ m ∈ [31, 32, 33, 34, 35] ∨ m ∈ [36, 37, 38, 39, 40] ∨ m ∈ [41, 42, 43, 44, 45] ∨ m ∈ [46, 47, 48, 49, 50] ∨ m ∈ [51, 52, 53, 54, 55] ∨ m ∈ [56, 57, 58, 59, 60] ∨ m ∈ [61, 62, 63] := by decide +kernel
theorem t_Pow {m : Nat} (h1 : 1 ≤ m) (h2 : m ≤ 63) : chkPow m = true := by
  rcases tabPow_sp m (mem63 h2) with h | h | h | h | h | h | h | h | h | h | h | h | h | h
  · omega
  · exact allB_mem tabPow_0 m h
  · exact allB_mem tabPow_1 m h
  · exact allB_mem tabPow_2 m h
  · exact allB_mem tabPow_3 m h
  · exact allB_mem tabPow_4 m h
  · exact allB_mem tabPow_5 m h
  · exact allB_mem tabPow_6 m h
  · exact allB_mem tabPow_7 m h
  · exact allB_mem tabPow_8 m h
  · exact allB_mem tabPow_9 m h
  · exact allB_mem tabPow_10 m h
  · exact allB_mem tabPow_11 m h
  · exact allB_mem tabPow_12 m h
