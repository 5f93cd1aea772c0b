theorem tabPowa : allB chkPow [1, 2, 3, 4, 5, 6, 7, 8, 9, 10, 11, 12, 13, 14, 15, 16, 17, 18, 19, 20, 21, 22, 23, 24, 25, 26, 27, 28, 29, 30, 31, 32, 33, 34, 35, 36, 37, 38, 39, 40] = true := by decide +kernel
theorem tabPowb : allB chkPow [41, 42, 43, 44, 45, 46, 47, 48, 49, 50, 51, 52, 53, 54] = true := by decide +kernel
theorem tabPowc : allB chkPow [55, 56, 57, 58, 59, 60, 61, 62, 63] = true := by decide +kernel
theorem split63 : ∀ m ∈ M63, m = 0 ∨ m ∈ [1, 2, 3, 4, 5, 6, 7, 8, 9, 10, 11, 12, 13, 14, 15, 16, 17, 18, 19, 20, 21, 22, 23, 24, 25, 26, 27, 28, 29, 30, 31, 32, 33, 34, 35, 36, 37, 38, 39, 40, 41, 42, 43, 44] ∨ m ∈ [45, 46, 47, 48, 49, 50, 51, 52, 53, 54, 55] ∨ m ∈ [56, 57, 58, 59, 60, 61, 62, 63] := by decide +kernel
theorem split63p : ∀ m ∈ M63, m = 0 ∨ m ∈ [1, 2, 3, 4, 5, 6, 7, 8, 9, 10, 11, 12, 13, 14, 15, 16, 17, 18, 19, 20, 21, 22, 23, 24, 25, 26, 27, 28, 29, 30, 31, 32, 33, 34, 35, 36, 37, 38, 39, 40] ∨ m ∈ [41, 42, 43, 44, 45, 46, 47, 48, 49, 50, 51, 52, 53, 54] ∨ m ∈ [55, 56, 57, 58, 59, 60, 61, 62, 63] := by decide +kernel
theorem t_W {m : Nat} (h1 : 1 ≤ m) (h2 : m ≤ 63) : chkW m = true := by
  rcases split63 m (mem63 h2) with h | h | h | h
  · omega
  · exact allB_mem tabWc m h
  · exact allB_mem tabWd m h
  · exact allB_mem tabWe m h
theorem t_P {m : Nat} (h1 : 1 ≤ m) (h2 : m ≤ 63) : chkP m = true := by
  rcases split63 m (mem63 h2) with h | h | h | h
  · omega
  · exact allB_mem tabPc m h
  · exact allB_mem tabPd m h
  · exact allB_mem tabPe m h
theorem t_Pow {m : Nat} (h1 : 1 ≤ m) (h2 : m ≤ 63) : chkPow m = true := by
  rcases split63p m (mem63 h2) with h | h | h | h
  · omega
  · exact allB_mem tabPowa m h
  · exact allB_mem tabPowb m h
  · exact allB_mem tabPowc m h
