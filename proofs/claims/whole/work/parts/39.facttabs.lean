/-! how the RESTS are put together of cycles -/
noncomputable def chkFa (m : Nat) (x : Nat → Nat) : Bool := wO (np_X2_find x 0 m) fun R => (Nat.ble R.2 4) && ((wO (np_X8_many (ALLT m)) fun v => wO (lpN (fun q : (Nat × Nat) => ns_X8_factor_27 m 0 v q.1 q.2) pfFU (0, 2)) fun mo => Nat.ble mo 4) && allB (fun k => wO (np_X2_above1 R.1 R.2 k) fun a => eqO (np_X8_factor m k) (some a)) [0, 1, 2, 3])
theorem tabFa_0 : ∀ x, allB (fun m => chkFa m x) [1, 2, 3, 4, 5, 6, 7, 8, 9, 10, 11, 12, 13, 14] = true := eps_all (fun x => allB (fun m => chkFa m x) [1, 2, 3, 4, 5, 6, 7, 8, 9, 10, 11, 12, 13, 14]) (by decide +kernel)
theorem tabFa_1 : ∀ x, allB (fun m => chkFa m x) [15, 16, 17, 18, 19, 20, 21, 22, 23, 24] = true := eps_all (fun x => allB (fun m => chkFa m x) [15, 16, 17, 18, 19, 20, 21, 22, 23, 24]) (by decide +kernel)
theorem tabFa_2 : ∀ x, allB (fun m => chkFa m x) [25, 26, 27, 28, 29, 30, 31] = true := eps_all (fun x => allB (fun m => chkFa m x) [25, 26, 27, 28, 29, 30, 31]) (by decide +kernel)
theorem tabFa_3 : ∀ x, allB (fun m => chkFa m x) [32, 33, 34, 35, 36, 37] = true := eps_all (fun x => allB (fun m => chkFa m x) [32, 33, 34, 35, 36, 37]) (by decide +kernel)
theorem tabFa_4 : ∀ x, allB (fun m => chkFa m x) [38, 39, 40, 41, 42] = true := eps_all (fun x => allB (fun m => chkFa m x) [38, 39, 40, 41, 42]) (by decide +kernel)
theorem tabFa_5 : ∀ x, allB (fun m => chkFa m x) [43, 44, 45, 46, 47] = true := eps_all (fun x => allB (fun m => chkFa m x) [43, 44, 45, 46, 47]) (by decide +kernel)
theorem tabFa_6 : ∀ x, allB (fun m => chkFa m x) [48, 49, 50, 51] = true := eps_all (fun x => allB (fun m => chkFa m x) [48, 49, 50, 51]) (by decide +kernel)
theorem tabFa_7 : ∀ x, allB (fun m => chkFa m x) [52, 53, 54, 55] = true := eps_all (fun x => allB (fun m => chkFa m x) [52, 53, 54, 55]) (by decide +kernel)
theorem tabFa_8 : ∀ x, allB (fun m => chkFa m x) [56, 57, 58, 59] = true := eps_all (fun x => allB (fun m => chkFa m x) [56, 57, 58, 59]) (by decide +kernel)
theorem tabFa_9 : ∀ x, allB (fun m => chkFa m x) [60, 61, 62, 63] = true := eps_all (fun x => allB (fun m => chkFa m x) [60, 61, 62, 63]) (by decide +kernel)
theorem tabFa_sp : ∀ m ∈ M63, m = 0 ∨ m ∈ [1, 2, 3, 4, 5, 6, 7, 8, 9, 10, 11, 12, 13, 14] ∨ m ∈ [15, 16, 17, 18, 19, 20, 21, 22, 23, 24] ∨ m ∈ [25, 26, 27, 28, 29, 30, 31] ∨ m ∈ [32, 33, 34, 35, 36, 37] ∨ m ∈ [38, 39, 40, 41, 42] ∨ m ∈ [43, 44, 45, 46, 47] ∨ m ∈ [48, 49, 50, 51] ∨ m ∈ [52, 53, 54, 55] ∨ m ∈ [56, 57, 58, 59] ∨ m ∈ [60, 61, 62, 63] := by decide +kernel
theorem t_Fa {m : Nat} (h1 : 1 ≤ m) (h2 : m ≤ 63) : ∀ x, chkFa m x = true := by
  intro x
  rcases tabFa_sp m (mem63 h2) with h | h | h | h | h | h | h | h | h | h | h
  · omega
  · exact allB_mem (tabFa_0 x) m h
  · exact allB_mem (tabFa_1 x) m h
  · exact allB_mem (tabFa_2 x) m h
  · exact allB_mem (tabFa_3 x) m h
  · exact allB_mem (tabFa_4 x) m h
  · exact allB_mem (tabFa_5 x) m h
  · exact allB_mem (tabFa_6 x) m h
  · exact allB_mem (tabFa_7 x) m h
  · exact allB_mem (tabFa_8 x) m h
  · exact allB_mem (tabFa_9 x) m h
