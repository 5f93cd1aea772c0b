theorem tabP_8 : allB chkP [55] = true := by decide +kernel
theorem tabP_9 : allB chkP [56] = true := by decide +kernel
theorem tabP_10 : allB chkP [57] = true := by decide +kernel
theorem tabP_11 : allB chkP [58, 59] = true := by decide +kernel
theorem tabP_12 : allB chkP [60] = true := by decide +kernel
theorem tabP_13 : allB chkP [61, 62] = true := by decide +kernel
theorem tabP_14 : allB chkP [63] = true := by decide +kernel
theorem tabP_sp : ∀ m ∈ M63, m = 0 ∨ m ∈ [1, 2, 3, 4, 5, 6, 7, 8, 9, 10, 11, 12, 13, 14, 15, 16, 17, 18, 19, 20, 21, 22, 23, 24, 25, 26, 27, 28, 29, 30] ∨ m ∈ [31, 32, 33, 34, 35, 36, 37, 38] ∨ m ∈ [39, 40] ∨ m ∈ [41, 42, 43, 44] ∨ m ∈ [45, 46, 47] ∨ m ∈ [48] ∨ m ∈ [49, 50, 51] ∨ m ∈ [52, 53, 54] ∨ m ∈ [55] ∨ m ∈ [56] ∨ m ∈ [57] ∨ m ∈ [58, 59] ∨ m ∈ [60] ∨ m ∈ [61, 62] ∨ m ∈ [63] := by decide +kernel
theorem t_P {m : Nat} (h1 : 1 ≤ m) (h2 : m ≤ 63) : chkP m = true := by
  rcases tabP_sp m (mem63 h2) with h | h | h | h | h | h | h | h | h | h | h | h | h | h | h | h
  · omega
  · exact allB_mem tabP_0 m h
  · exact allB_mem tabP_1 m h
  · exact allB_mem tabP_2 m h
  · exact allB_mem tabP_3 m h
  · exact allB_mem tabP_4 m h
  · exact allB_mem tabP_5 m h
  · exact allB_mem tabP_6 m h
  · exact allB_mem tabP_7 m h
  · exact allB_mem tabP_8 m h
  · exact allB_mem tabP_9 m h
  · exact allB_mem tabP_10 m h
  · exact allB_mem tabP_11 m h
  · exact allB_mem tabP_12 m h
  · exact allB_mem tabP_13 m h
  · exact allB_mem tabP_14 m h
