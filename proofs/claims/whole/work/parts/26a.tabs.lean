theorem t_L : all63 (fun a => all63 (fun b => chkL a b)) = true := by decide +kernel
theorem t_A : all63 chkA = true := by decide +kernel
theorem t_K : all63 (fun m => allB (chkK m) (SUBT m)) = true := by decide +kernel
