theorem tabDa : allB (fun m => allB (chkD m) (SUBT m)) [1, 2, 3, 4, 5, 6, 7, 8, 9, 10, 11, 12, 13, 14, 15, 16, 17, 18, 19, 20, 21, 22, 23, 24, 25, 26, 27, 28, 29, 30, 31, 32, 33, 34, 35, 36, 37, 38, 39, 40, 41, 42] = true := by decide +kernel
theorem tabDb : allB (fun m => allB (chkD m) (SUBT m)) [43, 44, 45, 46, 47, 48, 49, 50, 51, 52, 53, 54, 55] = true := by decide +kernel
theorem tabDc : allB (fun m => allB (chkD m) (SUBT m)) [56, 57, 58, 59, 60, 61, 62, 63] = true := by decide +kernel
theorem split63d : ∀ m ∈ M63, m = 0 ∨ m ∈ [1, 2, 3, 4, 5, 6, 7, 8, 9, 10, 11, 12, 13, 14, 15, 16, 17, 18, 19, 20, 21, 22, 23, 24, 25, 26, 27, 28, 29, 30, 31, 32, 33, 34, 35, 36, 37, 38, 39, 40, 41, 42] ∨ m ∈ [43, 44, 45, 46, 47, 48, 49, 50, 51, 52, 53, 54, 55] ∨ m ∈ [56, 57, 58, 59, 60, 61, 62, 63] := by decide +kernel
theorem t_D {m g : Nat} (h1 : 1 ≤ m) (h2 : m ≤ 63) (hg : g ∈ SUBT m) : chkD m g = true := by
  rcases split63d m (mem63 h2) with h | h | h | h
  · omega
  · exact allB_mem (allB_mem tabDa m h) g hg
  · exact allB_mem (allB_mem tabDb m h) g hg
  · exact allB_mem (allB_mem tabDc m h) g hg
theorem FT_sub : allQ (fun m g => memB (SUBT m) g) FT = true := by decide +kernel
