theorem tabW_8 : allB chkW [55] = true := by decide +kernel
theorem tabW_9 : allB chkW [56] = true := by decide +kernel
theorem tabW_10 : allB chkW [57] = true := by decide +kernel
theorem tabW_11 : allB chkW [58, 59] = true := by decide +kernel
theorem tabW_12 : allB chkW [60] = true := by decide +kernel
theorem tabW_13 : allB chkW [61, 62] = true := by decide +kernel
theorem tabW_14 : allB chkW [63] = true := by decide +kernel
theorem tabW_sp : ∀ m ∈ M63, m = 0 ∨ m ∈ [1, 2, 3, 4, 5, 6, 7, 8, 9, 10, 11, 12, 13, 14, 15, 16, 17, 18, 19, 20, 21, 22, 23, 24, 25, 26, 27, 28, 29, 30] ∨ m ∈ [31, 32, 33, 34, 35, 36, 37, 38] ∨ m ∈ [39, 40] ∨ m ∈ [41, 42, 43, 44] ∨ m ∈ [45, 46, 47] ∨ m ∈ [48] ∨ m ∈ [49, 50, 51] ∨ m ∈ [52, 53, 54] ∨ m ∈ [55] ∨ m ∈ [56] ∨ m ∈ [57] ∨ m ∈ [58, 59] ∨ m ∈ [60] ∨ m ∈ [61, 62] ∨ m ∈ [63] := by decide +kernel
theorem t_W {m : Nat} (h1 : 1 ≤ m) (h2 : m ≤ 63) : chkW m = true := by
  rcases tabW_sp m (mem63 h2) with h | h | h | h | h | h | h | h | h | h | h | h | h | h | h | h
  · omega
  · exact allB_mem tabW_0 m h
  · exact allB_mem tabW_1 m h
  · exact allB_mem tabW_2 m h
  · exact allB_mem tabW_3 m h
  · exact allB_mem tabW_4 m h
  · exact allB_mem tabW_5 m h
  · exact allB_mem tabW_6 m h
  · exact allB_mem tabW_7 m h
  · exact allB_mem tabW_8 m h
  · exact allB_mem tabW_9 m h
  · exact allB_mem tabW_10 m h
  · exact allB_mem tabW_11 m h
  · exact allB_mem tabW_12 m h
  · exact allB_mem tabW_13 m h
  · exact allB_mem tabW_14 m h
