theorem tabE_0 : ∀ x, allB (fun m => chkE m x) [1, 2, 3, 4, 5, 6, 7, 8, 9, 10, 11, 12, 13, 14, 15, 16, 17, 18, 19, 20, 21, 22, 23, 24, 25, 26, 27, 28, 29, 30] = true := eps_all (fun x => allB (fun m => chkE m x) [1, 2, 3, 4, 5, 6, 7, 8, 9, 10, 11, 12, 13, 14, 15, 16, 17, 18, 19, 20, 21, 22, 23, 24, 25, 26, 27, 28, 29, 30]) (by decide +kernel)
theorem tabE_1 : ∀ x, allB (fun m => chkE m x) [31, 32, 33, 34, 35, 36, 37, 38, 39] = true := eps_all (fun x => allB (fun m => chkE m x) [31, 32, 33, 34, 35, 36, 37, 38, 39]) (by decide +kernel)
theorem tabE_2 : ∀ x, allB (fun m => chkE m x) [40, 41, 42, 43, 44, 45] = true := eps_all (fun x => allB (fun m => chkE m x) [40, 41, 42, 43, 44, 45]) (by decide +kernel)
theorem tabE_3 : ∀ x, allB (fun m => chkE m x) [46, 47, 48] = true := eps_all (fun x => allB (fun m => chkE m x) [46, 47, 48]) (by decide +kernel)
theorem tabE_4 : ∀ x, allB (fun m => chkE m x) [49, 50, 51, 52] = true := eps_all (fun x => allB (fun m => chkE m x) [49, 50, 51, 52]) (by decide +kernel)
theorem tabE_5 : ∀ x, allB (fun m => chkE m x) [53, 54, 55] = true := eps_all (fun x => allB (fun m => chkE m x) [53, 54, 55]) (by decide +kernel)
theorem tabE_6 : ∀ x, allB (fun m => chkE m x) [56] = true := eps_all (fun x => allB (fun m => chkE m x) [56]) (by decide +kernel)
theorem tabE_7 : ∀ x, allB (fun m => chkE m x) [57, 58, 59] = true := eps_all (fun x => allB (fun m => chkE m x) [57, 58, 59]) (by decide +kernel)
theorem tabE_8 : ∀ x, allB (fun m => chkE m x) [60, 61] = true := eps_all (fun x => allB (fun m => chkE m x) [60, 61]) (by decide +kernel)
theorem tabE_9 : ∀ x, allB (fun m => chkE m x) [62, 63] = true := eps_all (fun x => allB (fun m => chkE m x) [62, 63]) (by decide +kernel)
theorem tabBE_sp : ∀ m ∈ M63, m = 0 ∨ m ∈ [1, 2, 3, 4, 5, 6, 7, 8, 9, 10, 11, 12, 13, 14, 15, 16, 17, 18, 19, 20, 21, 22, 23, 24, 25, 26, 27, 28, 29, 30] ∨ m ∈ [31, 32, 33, 34, 35, 36, 37, 38, 39] ∨ m ∈ [40, 41, 42, 43, 44, 45] ∨ m ∈ [46, 47, 48] ∨ m ∈ [49, 50, 51, 52] ∨ m ∈ [53, 54, 55] ∨ m ∈ [56] ∨ m ∈ [57, 58, 59] ∨ m ∈ [60, 61] ∨ m ∈ [62, 63] := by decide +kernel
theorem t_B {m : Nat} (h1 : 1 ≤ m) (h2 : m ≤ 63) : ∀ x, chkB m x = true := by
  intro x
  rcases tabBE_sp m (mem63 h2) with h | h | h | h | h | h | h | h | h | h | h
  · omega
  · exact allB_mem (tabB_0 x) m h
  · exact allB_mem (tabB_1 x) m h
  · exact allB_mem (tabB_2 x) m h
  · exact allB_mem (tabB_3 x) m h
  · exact allB_mem (tabB_4 x) m h
  · exact allB_mem (tabB_5 x) m h
  · exact allB_mem (tabB_6 x) m h
  · exact allB_mem (tabB_7 x) m h
  · exact allB_mem (tabB_8 x) m h
  · exact allB_mem (tabB_9 x) m h
theorem t_E {m : Nat} (h1 : 1 ≤ m) (h2 : m ≤ 63) : ∀ x, chkE m x = true := by
  intro x
  rcases tabBE_sp m (mem63 h2) with h | h | h | h | h | h | h | h | h | h | h
  · omega
  · exact allB_mem (tabE_0 x) m h
  · exact allB_mem (tabE_1 x) m h
  · exact allB_mem (tabE_2 x) m h
  · exact allB_mem (tabE_3 x) m h
  · exact allB_mem (tabE_4 x) m h
  · exact allB_mem (tabE_5 x) m h
  · exact allB_mem (tabE_6 x) m h
  · exact allB_mem (tabE_7 x) m h
  · exact allB_mem (tabE_8 x) m h
  · exact allB_mem (tabE_9 x) m h
