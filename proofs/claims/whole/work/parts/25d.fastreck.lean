noncomputable def qe_X8_reckons_418 (f_sums : (Nat → Nat)) (f_numbers : (Nat → Nat)) : Option (Nat × ((Nat → Nat) × (Nat → Nat))) :=
  some (1, (f_sums, f_numbers))
theorem k_e_X8_reckons_418 (f_sums : (Nat → Nat)) (f_numbers : (Nat → Nat)) : e_X8_reckons_418 (nB f_sums) (nB f_numbers) = Option.map (cP nI (cP nB nB)) (qe_X8_reckons_418 f_sums f_numbers) := by
  unfold e_X8_reckons_418 qe_X8_reckons_418
  exact rfl
noncomputable def qs_X8_reckons_378 (x3 : Nat) (x9 : Nat) (x10 : Nat) (f_sums : (Nat → Nat)) (f_numbers : (Nat → Nat)) : Option ((Nat × (Nat → Nat)) ⊕ (Nat → Nat)) :=
  (bif nltI x9 x10 then some (Sum.inr f_numbers) else (bif nain x10 9 then (bif nleJ (f_numbers (nix x10)) (ndivJ x3 2) then some (Sum.inl ((x10 + 1), f_numbers)) else (bif nain x10 9 then (bif nain x10 9 then some (Sum.inl ((x10 + 1), (nupd f_numbers (nix x10) (nsubJ (f_numbers (nix x10)) x3)))) else none) else none)) else none))
theorem k_s_X8_reckons_378 (x3 : Nat) (x9 : Nat) (x10 : Nat) (f_sums : (Nat → Nat)) (f_numbers : (Nat → Nat)) : s_X8_reckons_378 (lN x3) (nI x9) (nI x10) (nB f_sums) (nB f_numbers) = Option.map (Sum.map (cP nI nB) nB) (qs_X8_reckons_378 x3 x9 x10 f_sums f_numbers) := by
  unfold s_X8_reckons_378 qs_X8_reckons_378
  exact (hm_if (hc_ltI rfl rfl) rfl (hm_if (hc_ain rfl) (hm_if (hc_leJ (ho_rdJ rfl (ho_ix rfl)) (ho_divJ rfl rfl)) (congrArg some (congrArg Sum.inl (ho_pair (ho_addI rfl rfl) rfl))) (hm_if (hc_ain rfl) (hm_if (hc_ain rfl) (congrArg some (congrArg Sum.inl (ho_pair (ho_addI rfl rfl) (ho_updJ rfl (ho_ix rfl) (ho_subJ (ho_rdJ rfl (ho_ix rfl)) rfl))))) rfl) rfl)) rfl))
noncomputable def qa_X8_reckons_378 (f_sums : (Nat → Nat)) (b : (Nat → Nat)) : Option (Nat × ((Nat → Nat) × (Nat → Nat))) := (fun q : (Nat → Nat) => qe_X8_reckons_418 f_sums q) b
theorem k_a_X8_reckons_378 (f_sums : (Nat → Nat)) (b : (Nat → Nat)) : a_X8_reckons_378 (nB f_sums) (nB b) = Option.map (cP nI (cP nB nB)) (qa_X8_reckons_378 f_sums b) := k_e_X8_reckons_418 f_sums b
noncomputable def qg_X8_reckons_378 (x3 : Nat) (x9 : Nat) (x10 : Nat) (f_sums : (Nat → Nat)) (f_numbers : (Nat → Nat)) : Option (Nat × ((Nat → Nat) × (Nat → Nat))) := (lpN (fun q : (Nat × (Nat → Nat)) => qs_X8_reckons_378 x3 x9 q.1 f_sums q.2) pfFU (x10, f_numbers)).bind (qa_X8_reckons_378 f_sums)
theorem k_g_X8_reckons_378 (x3 : Nat) (x9 : Nat) (x10 : Nat) (f_sums : (Nat → Nat)) (f_numbers : (Nat → Nat)) : g_X8_reckons_378 (lN x3) (nI x9) (nI x10) (nB f_sums) (nB f_numbers) = Option.map (cP nI (cP nB nB)) (qg_X8_reckons_378 x3 x9 x10 f_sums f_numbers) := by
  unfold g_X8_reckons_378 qg_X8_reckons_378
  exact hm_bind (lp_hom (cP nI nB) nB (fun q => k_s_X8_reckons_378 x3 x9 q.1 f_sums q.2) pfFU (x10, f_numbers)) (fun b => k_a_X8_reckons_378 f_sums b)
noncomputable def qe_X8_reckons_375 (x3 : Nat) (x9 : Nat) (f_sums : (Nat → Nat)) (f_numbers : (Nat → Nat)) : Option (Nat × ((Nat → Nat) × (Nat → Nat))) :=
  qg_X8_reckons_378 x3 x9 0 f_sums f_numbers
theorem k_e_X8_reckons_375 (x3 : Nat) (x9 : Nat) (f_sums : (Nat → Nat)) (f_numbers : (Nat → Nat)) : e_X8_reckons_375 (lN x3) (nI x9) (nB f_sums) (nB f_numbers) = Option.map (cP nI (cP nB nB)) (qe_X8_reckons_375 x3 x9 f_sums f_numbers) := by
  unfold e_X8_reckons_375 qe_X8_reckons_375
  exact (k_g_X8_reckons_378 x3 x9 0 f_sums f_numbers)
noncomputable def qe_X8_reckons_369 (x3 : Nat) (x9 : Nat) (x10 : Nat) (f_sums : (Nat → Nat)) (f_numbers : (Nat → Nat)) : Option ((Nat × (Nat → Nat)) ⊕ (Nat → Nat)) :=
  some (Sum.inl ((x10 + 1), f_numbers))
theorem k_e_X8_reckons_369 (x3 : Nat) (x9 : Nat) (x10 : Nat) (f_sums : (Nat → Nat)) (f_numbers : (Nat → Nat)) : e_X8_reckons_369 (lN x3) (nI x9) (nI x10) (nB f_sums) (nB f_numbers) = Option.map (Sum.map (cP nI nB) nB) (qe_X8_reckons_369 x3 x9 x10 f_sums f_numbers) := by
  unfold e_X8_reckons_369 qe_X8_reckons_369
  exact (congrArg some (congrArg Sum.inl (ho_pair (ho_addI rfl rfl) rfl)))
noncomputable def qs_X8_reckons_307 (x3 : Nat) (x9 : Nat) (x10 : Nat) (x11 : Nat) (f_sums : (Nat → Nat)) (f_numbers : (Nat → Nat)) : Option ((Nat × (Nat → Nat)) ⊕ (Nat → Nat)) :=
  (bif nltI x11 0 then some (Sum.inr f_numbers) else (bif nain x10 8 then (bif nain x11 9 then (bif neqJ x3 0 then none else ((some (njremL ((nsubJ x3 (f_sums (nix x10))) * (f_numbers (nix x11))) x3)).bind fun w331 => (bif nleI x11 0 then (bif neqJ x3 0 then none else (bif nain x11 9 then some (Sum.inl ((x11 + 4294967295), (nupd f_numbers (nix x11) (njremL (0 + w331) x3)))) else none)) else (bif nain (nsubI x11 1) 9 then (bif neqJ x3 0 then none else (bif nain x11 9 then some (Sum.inl ((x11 + 4294967295), (nupd f_numbers (nix x11) (njremL ((f_numbers (nix (nsubI x11 1))) + w331) x3)))) else none)) else none)))) else none) else none))
theorem k_s_X8_reckons_307 (x3 : Nat) (x9 : Nat) (x10 : Nat) (x11 : Nat) (f_sums : (Nat → Nat)) (f_numbers : (Nat → Nat)) : s_X8_reckons_307 (lN x3) (nI x9) (nI x10) (nI x11) (nB f_sums) (nB f_numbers) = Option.map (Sum.map (cP nI nB) nB) (qs_X8_reckons_307 x3 x9 x10 x11 f_sums f_numbers) := by
  unfold s_X8_reckons_307 qs_X8_reckons_307
  exact (hm_if (hc_ltI rfl rfl) rfl (hm_if (hc_ain rfl) (hm_if (hc_ain rfl) (hm_if (hc_eqJ rfl rfl) rfl (hm_bind (show some _ = Option.map lN (some (njremL ((nsubJ x3 (f_sums (nix x10))) * (f_numbers (nix x11))) x3)) from (congrArg some (ho_jremL (ho_mulJ (ho_subJ rfl (ho_rdJ rfl (ho_ix rfl))) (ho_rdJ rfl (ho_ix rfl))) rfl))) (fun w331 => (hm_if (hc_leI rfl rfl) (hm_if (hc_eqJ rfl rfl) rfl (hm_if (hc_ain rfl) (congrArg some (congrArg Sum.inl (ho_pair (ho_addI rfl rfl) (ho_updJ rfl (ho_ix rfl) (ho_jremL (ho_addJ rfl rfl) rfl))))) rfl)) (hm_if (hc_ain (ho_subI rfl rfl)) (hm_if (hc_eqJ rfl rfl) rfl (hm_if (hc_ain rfl) (congrArg some (congrArg Sum.inl (ho_pair (ho_addI rfl rfl) (ho_updJ rfl (ho_ix rfl) (ho_jremL (ho_addJ (ho_rdJ rfl (ho_ix (ho_subI rfl rfl))) rfl) rfl))))) rfl)) rfl))))) rfl) rfl))
noncomputable def qa_X8_reckons_307 (x3 : Nat) (x9 : Nat) (x10 : Nat) (f_sums : (Nat → Nat)) (b : (Nat → Nat)) : Option ((Nat × (Nat → Nat)) ⊕ (Nat → Nat)) := (fun q : (Nat → Nat) => qe_X8_reckons_369 x3 x9 x10 f_sums q) b
theorem k_a_X8_reckons_307 (x3 : Nat) (x9 : Nat) (x10 : Nat) (f_sums : (Nat → Nat)) (b : (Nat → Nat)) : a_X8_reckons_307 (lN x3) (nI x9) (nI x10) (nB f_sums) (nB b) = Option.map (Sum.map (cP nI nB) nB) (qa_X8_reckons_307 x3 x9 x10 f_sums b) := k_e_X8_reckons_369 x3 x9 x10 f_sums b
noncomputable def qg_X8_reckons_307 (x3 : Nat) (x9 : Nat) (x10 : Nat) (x11 : Nat) (f_sums : (Nat → Nat)) (f_numbers : (Nat → Nat)) : Option ((Nat × (Nat → Nat)) ⊕ (Nat → Nat)) := (lpN (fun q : (Nat × (Nat → Nat)) => qs_X8_reckons_307 x3 x9 x10 q.1 f_sums q.2) pfFU (x11, f_numbers)).bind (qa_X8_reckons_307 x3 x9 x10 f_sums)
theorem k_g_X8_reckons_307 (x3 : Nat) (x9 : Nat) (x10 : Nat) (x11 : Nat) (f_sums : (Nat → Nat)) (f_numbers : (Nat → Nat)) : g_X8_reckons_307 (lN x3) (nI x9) (nI x10) (nI x11) (nB f_sums) (nB f_numbers) = Option.map (Sum.map (cP nI nB) nB) (qg_X8_reckons_307 x3 x9 x10 x11 f_sums f_numbers) := by
  unfold g_X8_reckons_307 qg_X8_reckons_307
  exact hm_bind (lp_hom (cP nI nB) nB (fun q => k_s_X8_reckons_307 x3 x9 x10 q.1 f_sums q.2) pfFU (x11, f_numbers)) (fun b => k_a_X8_reckons_307 x3 x9 x10 f_sums b)
noncomputable def qs_X8_reckons_294 (x3 : Nat) (x9 : Nat) (x10 : Nat) (f_sums : (Nat → Nat)) (f_numbers : (Nat → Nat)) : Option ((Nat × (Nat → Nat)) ⊕ (Nat → Nat)) :=
  (bif nleI x9 x10 then some (Sum.inr f_numbers) else qg_X8_reckons_307 x3 x9 x10 (x10 + 1) f_sums f_numbers)
theorem k_s_X8_reckons_294 (x3 : Nat) (x9 : Nat) (x10 : Nat) (f_sums : (Nat → Nat)) (f_numbers : (Nat → Nat)) : s_X8_reckons_294 (lN x3) (nI x9) (nI x10) (nB f_sums) (nB f_numbers) = Option.map (Sum.map (cP nI nB) nB) (qs_X8_reckons_294 x3 x9 x10 f_sums f_numbers) := by
  unfold s_X8_reckons_294 qs_X8_reckons_294
  exact (hm_if (hc_leI rfl rfl) rfl (Eq.trans (congr (congr (congr (congr (congr (congrArg g_X8_reckons_307 rfl) rfl) rfl) (ho_addI rfl rfl)) rfl) rfl) (k_g_X8_reckons_307 x3 x9 x10 (x10 + 1) f_sums f_numbers)))
noncomputable def qa_X8_reckons_294 (x3 : Nat) (x9 : Nat) (f_sums : (Nat → Nat)) (b : (Nat → Nat)) : Option (Nat × ((Nat → Nat) × (Nat → Nat))) := (fun q : (Nat → Nat) => qe_X8_reckons_375 x3 x9 f_sums q) b
theorem k_a_X8_reckons_294 (x3 : Nat) (x9 : Nat) (f_sums : (Nat → Nat)) (b : (Nat → Nat)) : a_X8_reckons_294 (lN x3) (nI x9) (nB f_sums) (nB b) = Option.map (cP nI (cP nB nB)) (qa_X8_reckons_294 x3 x9 f_sums b) := k_e_X8_reckons_375 x3 x9 f_sums b
noncomputable def qg_X8_reckons_294 (x3 : Nat) (x9 : Nat) (x10 : Nat) (f_sums : (Nat → Nat)) (f_numbers : (Nat → Nat)) : Option (Nat × ((Nat → Nat) × (Nat → Nat))) := (lpN (fun q : (Nat × (Nat → Nat)) => qs_X8_reckons_294 x3 x9 q.1 f_sums q.2) pfFU (x10, f_numbers)).bind (qa_X8_reckons_294 x3 x9 f_sums)
theorem k_g_X8_reckons_294 (x3 : Nat) (x9 : Nat) (x10 : Nat) (f_sums : (Nat → Nat)) (f_numbers : (Nat → Nat)) : g_X8_reckons_294 (lN x3) (nI x9) (nI x10) (nB f_sums) (nB f_numbers) = Option.map (cP nI (cP nB nB)) (qg_X8_reckons_294 x3 x9 x10 f_sums f_numbers) := by
  unfold g_X8_reckons_294 qg_X8_reckons_294
  exact hm_bind (lp_hom (cP nI nB) nB (fun q => k_s_X8_reckons_294 x3 x9 q.1 f_sums q.2) pfFU (x10, f_numbers)) (fun b => k_a_X8_reckons_294 x3 x9 f_sums b)
noncomputable def qe_X8_reckons_284 (x3 : Nat) (x9 : Nat) (f_sums : (Nat → Nat)) (f_numbers : (Nat → Nat)) : Option (Nat × ((Nat → Nat) × (Nat → Nat))) :=
  qg_X8_reckons_294 x3 x9 0 f_sums (nupd f_numbers (nix 0) 1)
theorem k_e_X8_reckons_284 (x3 : Nat) (x9 : Nat) (f_sums : (Nat → Nat)) (f_numbers : (Nat → Nat)) : e_X8_reckons_284 (lN x3) (nI x9) (nB f_sums) (nB f_numbers) = Option.map (cP nI (cP nB nB)) (qe_X8_reckons_284 x3 x9 f_sums f_numbers) := by
  unfold e_X8_reckons_284 qe_X8_reckons_284
  exact (Eq.trans (congr (congr (congr (congr (congrArg g_X8_reckons_294 rfl) rfl) rfl) rfl) (ho_updJ rfl (ho_ix rfl) rfl)) (k_g_X8_reckons_294 x3 x9 0 f_sums (nupd f_numbers (nix 0) 1)))
noncomputable def qs_X8_reckons_263 (x3 : Nat) (x9 : Nat) (x10 : Nat) (f_sums : (Nat → Nat)) (f_numbers : (Nat → Nat)) : Option ((Nat × (Nat → Nat)) ⊕ (Nat → Nat)) :=
  (bif nleI 9 x10 then some (Sum.inr f_numbers) else (bif nain x10 9 then some (Sum.inl ((x10 + 1), (nupd f_numbers (nix x10) 0))) else none))
theorem k_s_X8_reckons_263 (x3 : Nat) (x9 : Nat) (x10 : Nat) (f_sums : (Nat → Nat)) (f_numbers : (Nat → Nat)) : s_X8_reckons_263 (lN x3) (nI x9) (nI x10) (nB f_sums) (nB f_numbers) = Option.map (Sum.map (cP nI nB) nB) (qs_X8_reckons_263 x3 x9 x10 f_sums f_numbers) := by
  unfold s_X8_reckons_263 qs_X8_reckons_263
  exact (hm_if (hc_leI rfl rfl) rfl (hm_if (hc_ain rfl) (congrArg some (congrArg Sum.inl (ho_pair (ho_addI rfl rfl) (ho_updJ rfl (ho_ix rfl) rfl)))) rfl))
noncomputable def qa_X8_reckons_263 (x3 : Nat) (x9 : Nat) (f_sums : (Nat → Nat)) (b : (Nat → Nat)) : Option (Nat × ((Nat → Nat) × (Nat → Nat))) := (fun q : (Nat → Nat) => qe_X8_reckons_284 x3 x9 f_sums q) b
theorem k_a_X8_reckons_263 (x3 : Nat) (x9 : Nat) (f_sums : (Nat → Nat)) (b : (Nat → Nat)) : a_X8_reckons_263 (lN x3) (nI x9) (nB f_sums) (nB b) = Option.map (cP nI (cP nB nB)) (qa_X8_reckons_263 x3 x9 f_sums b) := k_e_X8_reckons_284 x3 x9 f_sums b
noncomputable def qg_X8_reckons_263 (x3 : Nat) (x9 : Nat) (x10 : Nat) (f_sums : (Nat → Nat)) (f_numbers : (Nat → Nat)) : Option (Nat × ((Nat → Nat) × (Nat → Nat))) := (lpN (fun q : (Nat × (Nat → Nat)) => qs_X8_reckons_263 x3 x9 q.1 f_sums q.2) pfFU (x10, f_numbers)).bind (qa_X8_reckons_263 x3 x9 f_sums)
theorem k_g_X8_reckons_263 (x3 : Nat) (x9 : Nat) (x10 : Nat) (f_sums : (Nat → Nat)) (f_numbers : (Nat → Nat)) : g_X8_reckons_263 (lN x3) (nI x9) (nI x10) (nB f_sums) (nB f_numbers) = Option.map (cP nI (cP nB nB)) (qg_X8_reckons_263 x3 x9 x10 f_sums f_numbers) := by
  unfold g_X8_reckons_263 qg_X8_reckons_263
  exact hm_bind (lp_hom (cP nI nB) nB (fun q => k_s_X8_reckons_263 x3 x9 q.1 f_sums q.2) pfFU (x10, f_numbers)) (fun b => k_a_X8_reckons_263 x3 x9 f_sums b)
noncomputable def qe_X8_reckons_260 (x3 : Nat) (x9 : Nat) (f_sums : (Nat → Nat)) (f_numbers : (Nat → Nat)) : Option (Nat × ((Nat → Nat) × (Nat → Nat))) :=
  qg_X8_reckons_263 x3 x9 0 f_sums f_numbers
theorem k_e_X8_reckons_260 (x3 : Nat) (x9 : Nat) (f_sums : (Nat → Nat)) (f_numbers : (Nat → Nat)) : e_X8_reckons_260 (lN x3) (nI x9) (nB f_sums) (nB f_numbers) = Option.map (cP nI (cP nB nB)) (qe_X8_reckons_260 x3 x9 f_sums f_numbers) := by
  unfold e_X8_reckons_260 qe_X8_reckons_260
  exact (k_g_X8_reckons_263 x3 x9 0 f_sums f_numbers)
noncomputable def qe_X8_reckons_254 (x3 : Nat) (x9 : Nat) (x10 : Nat) (f_sums : (Nat → Nat)) (f_numbers : (Nat → Nat)) : Option (Nat ⊕ (Unit ⊕ Unit)) :=
  some (Sum.inl (x10 + 1))
theorem k_e_X8_reckons_254 (x3 : Nat) (x9 : Nat) (x10 : Nat) (f_sums : (Nat → Nat)) (f_numbers : (Nat → Nat)) : e_X8_reckons_254 (lN x3) (nI x9) (nI x10) (nB f_sums) (nB f_numbers) = Option.map (Sum.map nI (Sum.map id id)) (qe_X8_reckons_254 x3 x9 x10 f_sums f_numbers) := by
  unfold e_X8_reckons_254 qe_X8_reckons_254
  exact (congrArg some (congrArg Sum.inl (ho_addI rfl rfl)))
noncomputable def qe_X8_reckons_246 (f_sums : (Nat → Nat)) (f_numbers : (Nat → Nat)) : Option (Nat × ((Nat → Nat) × (Nat → Nat))) :=
  some (0, (f_sums, f_numbers))
theorem k_e_X8_reckons_246 (f_sums : (Nat → Nat)) (f_numbers : (Nat → Nat)) : e_X8_reckons_246 (nB f_sums) (nB f_numbers) = Option.map (cP nI (cP nB nB)) (qe_X8_reckons_246 f_sums f_numbers) := by
  unfold e_X8_reckons_246 qe_X8_reckons_246
  exact rfl
noncomputable def qe_X8_reckons_246_211 (f_sums : (Nat → Nat)) (f_numbers : (Nat → Nat)) : Option (Nat ⊕ (Unit ⊕ Unit)) :=
  some (Sum.inr (Sum.inl ()))
theorem k_e_X8_reckons_246_211 (f_sums : (Nat → Nat)) (f_numbers : (Nat → Nat)) : e_X8_reckons_246_211 (nB f_sums) (nB f_numbers) = Option.map (Sum.map nI (Sum.map id id)) (qe_X8_reckons_246_211 f_sums f_numbers) := by
  unfold e_X8_reckons_246_211 qe_X8_reckons_246_211
  exact rfl
noncomputable def qs_X8_reckons_221 (x3 : Nat) (x9 : Nat) (x10 : Nat) (x11 : Nat) (f_sums : (Nat → Nat)) (f_numbers : (Nat → Nat)) : Option (Nat ⊕ (Unit ⊕ Unit)) :=
  (bif nleI x10 x11 then some (Sum.inr (Sum.inr ())) else (bif nain x10 8 then (bif nain x11 8 then (bif neqJ (f_sums (nix x10)) (f_sums (nix x11)) then some (Sum.inr (Sum.inl ())) else some (Sum.inl (x11 + 1))) else none) else none))
theorem k_s_X8_reckons_221 (x3 : Nat) (x9 : Nat) (x10 : Nat) (x11 : Nat) (f_sums : (Nat → Nat)) (f_numbers : (Nat → Nat)) : s_X8_reckons_221 (lN x3) (nI x9) (nI x10) (nI x11) (nB f_sums) (nB f_numbers) = Option.map (Sum.map nI (Sum.map id id)) (qs_X8_reckons_221 x3 x9 x10 x11 f_sums f_numbers) := by
  unfold s_X8_reckons_221 qs_X8_reckons_221
  exact (hm_if (hc_leI rfl rfl) rfl (hm_if (hc_ain rfl) (hm_if (hc_ain rfl) (hm_if (hc_eqJ (ho_rdJ rfl (ho_ix rfl)) (ho_rdJ rfl (ho_ix rfl))) rfl (congrArg some (congrArg Sum.inl (ho_addI rfl rfl)))) rfl) rfl))
noncomputable def qa_X8_reckons_221 (x3 : Nat) (x9 : Nat) (x10 : Nat) (f_sums : (Nat → Nat)) (f_numbers : (Nat → Nat)) (b : (Unit ⊕ Unit)) : Option (Nat ⊕ (Unit ⊕ Unit)) := Sum.elim (fun q : Unit => qe_X8_reckons_246_211 f_sums f_numbers) (fun q : Unit => qe_X8_reckons_254 x3 x9 x10 f_sums f_numbers) b
theorem k_a_X8_reckons_221 (x3 : Nat) (x9 : Nat) (x10 : Nat) (f_sums : (Nat → Nat)) (f_numbers : (Nat → Nat)) (b : (Unit ⊕ Unit)) : a_X8_reckons_221 (lN x3) (nI x9) (nI x10) (nB f_sums) (nB f_numbers) ((Sum.map id id) b) = Option.map (Sum.map nI (Sum.map id id)) (qa_X8_reckons_221 x3 x9 x10 f_sums f_numbers b) := by
  cases b with
  | inl q => exact k_e_X8_reckons_246_211 f_sums f_numbers
  | inr q => exact k_e_X8_reckons_254 x3 x9 x10 f_sums f_numbers
noncomputable def qg_X8_reckons_221 (x3 : Nat) (x9 : Nat) (x10 : Nat) (x11 : Nat) (f_sums : (Nat → Nat)) (f_numbers : (Nat → Nat)) : Option (Nat ⊕ (Unit ⊕ Unit)) := (lpN (fun q : Nat => qs_X8_reckons_221 x3 x9 x10 q f_sums f_numbers) pfFU x11).bind (qa_X8_reckons_221 x3 x9 x10 f_sums f_numbers)
theorem k_g_X8_reckons_221 (x3 : Nat) (x9 : Nat) (x10 : Nat) (x11 : Nat) (f_sums : (Nat → Nat)) (f_numbers : (Nat → Nat)) : g_X8_reckons_221 (lN x3) (nI x9) (nI x10) (nI x11) (nB f_sums) (nB f_numbers) = Option.map (Sum.map nI (Sum.map id id)) (qg_X8_reckons_221 x3 x9 x10 x11 f_sums f_numbers) := by
  unfold g_X8_reckons_221 qg_X8_reckons_221
  exact hm_bind (lp_hom nI (Sum.map id id) (fun q => k_s_X8_reckons_221 x3 x9 x10 q f_sums f_numbers) pfFU x11) (fun b => k_a_X8_reckons_221 x3 x9 x10 f_sums f_numbers b)
noncomputable def qs_X8_reckons_211 (x3 : Nat) (x9 : Nat) (x10 : Nat) (f_sums : (Nat → Nat)) (f_numbers : (Nat → Nat)) : Option (Nat ⊕ (Unit ⊕ Unit)) :=
  (bif nleI x9 x10 then some (Sum.inr (Sum.inr ())) else qg_X8_reckons_221 x3 x9 x10 0 f_sums f_numbers)
theorem k_s_X8_reckons_211 (x3 : Nat) (x9 : Nat) (x10 : Nat) (f_sums : (Nat → Nat)) (f_numbers : (Nat → Nat)) : s_X8_reckons_211 (lN x3) (nI x9) (nI x10) (nB f_sums) (nB f_numbers) = Option.map (Sum.map nI (Sum.map id id)) (qs_X8_reckons_211 x3 x9 x10 f_sums f_numbers) := by
  unfold s_X8_reckons_211 qs_X8_reckons_211
  exact (hm_if (hc_leI rfl rfl) rfl (k_g_X8_reckons_221 x3 x9 x10 0 f_sums f_numbers))
noncomputable def qa_X8_reckons_211 (x3 : Nat) (x9 : Nat) (f_sums : (Nat → Nat)) (f_numbers : (Nat → Nat)) (b : (Unit ⊕ Unit)) : Option (Nat × ((Nat → Nat) × (Nat → Nat))) := Sum.elim (fun q : Unit => qe_X8_reckons_246 f_sums f_numbers) (fun q : Unit => qe_X8_reckons_260 x3 x9 f_sums f_numbers) b
theorem k_a_X8_reckons_211 (x3 : Nat) (x9 : Nat) (f_sums : (Nat → Nat)) (f_numbers : (Nat → Nat)) (b : (Unit ⊕ Unit)) : a_X8_reckons_211 (lN x3) (nI x9) (nB f_sums) (nB f_numbers) ((Sum.map id id) b) = Option.map (cP nI (cP nB nB)) (qa_X8_reckons_211 x3 x9 f_sums f_numbers b) := by
  cases b with
  | inl q => exact k_e_X8_reckons_246 f_sums f_numbers
  | inr q => exact k_e_X8_reckons_260 x3 x9 f_sums f_numbers
noncomputable def qg_X8_reckons_211 (x3 : Nat) (x9 : Nat) (x10 : Nat) (f_sums : (Nat → Nat)) (f_numbers : (Nat → Nat)) : Option (Nat × ((Nat → Nat) × (Nat → Nat))) := (lpN (fun q : Nat => qs_X8_reckons_211 x3 x9 q f_sums f_numbers) pfFU x10).bind (qa_X8_reckons_211 x3 x9 f_sums f_numbers)
theorem k_g_X8_reckons_211 (x3 : Nat) (x9 : Nat) (x10 : Nat) (f_sums : (Nat → Nat)) (f_numbers : (Nat → Nat)) : g_X8_reckons_211 (lN x3) (nI x9) (nI x10) (nB f_sums) (nB f_numbers) = Option.map (cP nI (cP nB nB)) (qg_X8_reckons_211 x3 x9 x10 f_sums f_numbers) := by
  unfold g_X8_reckons_211 qg_X8_reckons_211
  exact hm_bind (lp_hom nI (Sum.map id id) (fun q => k_s_X8_reckons_211 x3 x9 q f_sums f_numbers) pfFU x10) (fun b => k_a_X8_reckons_211 x3 x9 f_sums f_numbers b)
noncomputable def qe_X8_reckons_208 (x3 : Nat) (x9 : Nat) (f_sums : (Nat → Nat)) (f_numbers : (Nat → Nat)) : Option (Nat × ((Nat → Nat) × (Nat → Nat))) :=
  qg_X8_reckons_211 x3 x9 0 f_sums f_numbers
theorem k_e_X8_reckons_208 (x3 : Nat) (x9 : Nat) (f_sums : (Nat → Nat)) (f_numbers : (Nat → Nat)) : e_X8_reckons_208 (lN x3) (nI x9) (nB f_sums) (nB f_numbers) = Option.map (cP nI (cP nB nB)) (qe_X8_reckons_208 x3 x9 f_sums f_numbers) := by
  unfold e_X8_reckons_208 qe_X8_reckons_208
  exact (k_g_X8_reckons_211 x3 x9 0 f_sums f_numbers)
noncomputable def qe_X8_reckons_202 (x1 : Nat) (x2 : Nat) (x3 : Nat) (x5 : Nat) (x7 : Nat) (x9 : Nat) (f_bits : (Nat → Nat)) (f_sums : (Nat → Nat)) (f_numbers : (Nat → Nat)) : Option ((Nat × (Nat × (Nat → Nat))) ⊕ (Nat × (Nat → Nat))) :=
  some (Sum.inl (x7, ((x9 + 1), f_sums)))
theorem k_e_X8_reckons_202 (x1 : Nat) (x2 : Nat) (x3 : Nat) (x5 : Nat) (x7 : Nat) (x9 : Nat) (f_bits : (Nat → Nat)) (f_sums : (Nat → Nat)) (f_numbers : (Nat → Nat)) : e_X8_reckons_202 (nI x1) (nI x2) (lN x3) (lN x5) (lN x7) (nI x9) (nB f_bits) (nB f_sums) (nB f_numbers) = Option.map (Sum.map (cP lN (cP nI nB)) (cP nI nB)) (qe_X8_reckons_202 x1 x2 x3 x5 x7 x9 f_bits f_sums f_numbers) := by
  unfold e_X8_reckons_202 qe_X8_reckons_202
  exact (congrArg some (congrArg Sum.inl (ho_pair rfl (ho_pair (ho_addI rfl rfl) rfl))))
noncomputable def qs_X8_reckons_152 (x1 : Nat) (x2 : Nat) (x3 : Nat) (x5 : Nat) (x7 : Nat) (x9 : Nat) (x11 : Nat) (x13 : Nat) (f_bits : (Nat → Nat)) (f_sums : (Nat → Nat)) (f_numbers : (Nat → Nat)) : Option ((Nat × (Nat → Nat)) ⊕ (Nat → Nat)) :=
  (bif nleI x2 x13 then some (Sum.inr f_sums) else (bif neqJ ((njshr x11 x13) &&& 1) 1 then (bif nain x9 8 then ((np_X8_powerBy x5 (ni2l x13) x3).bind fun v189 => (bif neqJ x3 0 then none else (bif nain x9 8 then some (Sum.inl ((x13 + 1), (nupd f_sums (nix x9) (njremL ((f_sums (nix x9)) + v189) x3)))) else none))) else none) else some (Sum.inl ((x13 + 1), f_sums))))
theorem k_s_X8_reckons_152 (x1 : Nat) (x2 : Nat) (x3 : Nat) (x5 : Nat) (x7 : Nat) (x9 : Nat) (x11 : Nat) (x13 : Nat) (f_bits : (Nat → Nat)) (f_sums : (Nat → Nat)) (f_numbers : (Nat → Nat)) : s_X8_reckons_152 (nI x1) (nI x2) (lN x3) (lN x5) (lN x7) (nI x9) (lN x11) (nI x13) (nB f_bits) (nB f_sums) (nB f_numbers) = Option.map (Sum.map (cP nI nB) nB) (qs_X8_reckons_152 x1 x2 x3 x5 x7 x9 x11 x13 f_bits f_sums f_numbers) := by
  unfold s_X8_reckons_152 qs_X8_reckons_152
  exact (hm_if (hc_leI rfl rfl) rfl (hm_if (hc_eqJ (ho_andJ (ho_jshr rfl rfl) rfl) rfl) (hm_if (hc_ain rfl) (hm_bind (Eq.trans (congr (congr (congrArg p_X8_powerBy rfl) (ho_i2l rfl)) rfl) (h_p_X8_powerBy x5 (ni2l x13) x3)) (fun v189 => (hm_if (hc_eqJ rfl rfl) rfl (hm_if (hc_ain rfl) (congrArg some (congrArg Sum.inl (ho_pair (ho_addI rfl rfl) (ho_updJ rfl (ho_ix rfl) (ho_jremL (ho_addJ (ho_rdJ rfl (ho_ix rfl)) rfl) rfl))))) rfl)))) rfl) (congrArg some (congrArg Sum.inl (ho_pair (ho_addI rfl rfl) rfl)))))
noncomputable def qa_X8_reckons_152 (x1 : Nat) (x2 : Nat) (x3 : Nat) (x5 : Nat) (x7 : Nat) (x9 : Nat) (f_bits : (Nat → Nat)) (f_numbers : (Nat → Nat)) (b : (Nat → Nat)) : Option ((Nat × (Nat × (Nat → Nat))) ⊕ (Nat × (Nat → Nat))) := (fun q : (Nat → Nat) => qe_X8_reckons_202 x1 x2 x3 x5 x7 x9 f_bits q f_numbers) b
theorem k_a_X8_reckons_152 (x1 : Nat) (x2 : Nat) (x3 : Nat) (x5 : Nat) (x7 : Nat) (x9 : Nat) (f_bits : (Nat → Nat)) (f_numbers : (Nat → Nat)) (b : (Nat → Nat)) : a_X8_reckons_152 (nI x1) (nI x2) (lN x3) (lN x5) (lN x7) (nI x9) (nB f_bits) (nB f_numbers) (nB b) = Option.map (Sum.map (cP lN (cP nI nB)) (cP nI nB)) (qa_X8_reckons_152 x1 x2 x3 x5 x7 x9 f_bits f_numbers b) := k_e_X8_reckons_202 x1 x2 x3 x5 x7 x9 f_bits b f_numbers
noncomputable def qg_X8_reckons_152 (x1 : Nat) (x2 : Nat) (x3 : Nat) (x5 : Nat) (x7 : Nat) (x9 : Nat) (x11 : Nat) (x13 : Nat) (f_bits : (Nat → Nat)) (f_sums : (Nat → Nat)) (f_numbers : (Nat → Nat)) : Option ((Nat × (Nat × (Nat → Nat))) ⊕ (Nat × (Nat → Nat))) := (lpN (fun q : (Nat × (Nat → Nat)) => qs_X8_reckons_152 x1 x2 x3 x5 x7 x9 x11 q.1 f_bits q.2 f_numbers) pfFU (x13, f_sums)).bind (qa_X8_reckons_152 x1 x2 x3 x5 x7 x9 f_bits f_numbers)
theorem k_g_X8_reckons_152 (x1 : Nat) (x2 : Nat) (x3 : Nat) (x5 : Nat) (x7 : Nat) (x9 : Nat) (x11 : Nat) (x13 : Nat) (f_bits : (Nat → Nat)) (f_sums : (Nat → Nat)) (f_numbers : (Nat → Nat)) : g_X8_reckons_152 (nI x1) (nI x2) (lN x3) (lN x5) (lN x7) (nI x9) (lN x11) (nI x13) (nB f_bits) (nB f_sums) (nB f_numbers) = Option.map (Sum.map (cP lN (cP nI nB)) (cP nI nB)) (qg_X8_reckons_152 x1 x2 x3 x5 x7 x9 x11 x13 f_bits f_sums f_numbers) := by
  unfold g_X8_reckons_152 qg_X8_reckons_152
  exact hm_bind (lp_hom (cP nI nB) nB (fun q => k_s_X8_reckons_152 x1 x2 x3 x5 x7 x9 x11 q.1 f_bits q.2 f_numbers) pfFU (x13, f_sums)) (fun b => k_a_X8_reckons_152 x1 x2 x3 x5 x7 x9 f_bits f_numbers b)
noncomputable def qe_X8_reckons_116 (x1 : Nat) (x2 : Nat) (x3 : Nat) (x5 : Nat) (x7 : Nat) (x9 : Nat) (x10 : Nat) (f_bits : (Nat → Nat)) (f_sums : (Nat → Nat)) (f_numbers : (Nat → Nat)) : Option ((Nat × (Nat × (Nat → Nat))) ⊕ (Nat × (Nat → Nat))) :=
  (bif nain x1 160 then ((np_X8_times x2 (f_bits (nix x1)) x10).bind fun v125 => (bif nain x9 8 then qg_X8_reckons_152 x1 x2 x3 x5 (x7 &&& (v125 ^^^ 18446744073709551615)) x9 v125 0 f_bits (nupd f_sums (nix x9) 0) f_numbers else none)) else none)
theorem k_e_X8_reckons_116 (x1 : Nat) (x2 : Nat) (x3 : Nat) (x5 : Nat) (x7 : Nat) (x9 : Nat) (x10 : Nat) (f_bits : (Nat → Nat)) (f_sums : (Nat → Nat)) (f_numbers : (Nat → Nat)) : e_X8_reckons_116 (nI x1) (nI x2) (lN x3) (lN x5) (lN x7) (nI x9) (nI x10) (nB f_bits) (nB f_sums) (nB f_numbers) = Option.map (Sum.map (cP lN (cP nI nB)) (cP nI nB)) (qe_X8_reckons_116 x1 x2 x3 x5 x7 x9 x10 f_bits f_sums f_numbers) := by
  unfold e_X8_reckons_116 qe_X8_reckons_116
  exact (hm_if (hc_ain rfl) (hm_bind (Eq.trans (congr (congr (congrArg p_X8_times rfl) (ho_rdJ rfl (ho_ix rfl))) rfl) (h_p_X8_times x2 (f_bits (nix x1)) x10)) (fun v125 => (hm_if (hc_ain rfl) (Eq.trans (congr (congr (congr (congr (congr (congr (congr (congr (congr (congr (congrArg g_X8_reckons_152 rfl) rfl) rfl) rfl) (ho_andJ rfl (ho_xorJ rfl rfl))) rfl) rfl) rfl) rfl) (ho_updJ rfl (ho_ix rfl) rfl)) rfl) (k_g_X8_reckons_152 x1 x2 x3 x5 (x7 &&& (v125 ^^^ 18446744073709551615)) x9 v125 0 f_bits (nupd f_sums (nix x9) 0) f_numbers)) rfl))) rfl)
noncomputable def qs_X8_reckons_98 (x1 : Nat) (x2 : Nat) (x3 : Nat) (x5 : Nat) (x7 : Nat) (x9 : Nat) (x10 : Nat) (f_bits : (Nat → Nat)) (f_sums : (Nat → Nat)) (f_numbers : (Nat → Nat)) : Option (Nat ⊕ Nat) :=
  (bif neqJ ((njshr x7 x10) &&& 1) 0 then some (Sum.inl (x10 + 1)) else some (Sum.inr x10))
theorem k_s_X8_reckons_98 (x1 : Nat) (x2 : Nat) (x3 : Nat) (x5 : Nat) (x7 : Nat) (x9 : Nat) (x10 : Nat) (f_bits : (Nat → Nat)) (f_sums : (Nat → Nat)) (f_numbers : (Nat → Nat)) : s_X8_reckons_98 (nI x1) (nI x2) (lN x3) (lN x5) (lN x7) (nI x9) (nI x10) (nB f_bits) (nB f_sums) (nB f_numbers) = Option.map (Sum.map nI nI) (qs_X8_reckons_98 x1 x2 x3 x5 x7 x9 x10 f_bits f_sums f_numbers) := by
  unfold s_X8_reckons_98 qs_X8_reckons_98
  exact (hm_if (hc_eqJ (ho_andJ (ho_jshr rfl rfl) rfl) rfl) (congrArg some (congrArg Sum.inl (ho_addI rfl rfl))) rfl)
noncomputable def qa_X8_reckons_98 (x1 : Nat) (x2 : Nat) (x3 : Nat) (x5 : Nat) (x7 : Nat) (x9 : Nat) (f_bits : (Nat → Nat)) (f_sums : (Nat → Nat)) (f_numbers : (Nat → Nat)) (b : Nat) : Option ((Nat × (Nat × (Nat → Nat))) ⊕ (Nat × (Nat → Nat))) := (fun q : Nat => qe_X8_reckons_116 x1 x2 x3 x5 x7 x9 q f_bits f_sums f_numbers) b
theorem k_a_X8_reckons_98 (x1 : Nat) (x2 : Nat) (x3 : Nat) (x5 : Nat) (x7 : Nat) (x9 : Nat) (f_bits : (Nat → Nat)) (f_sums : (Nat → Nat)) (f_numbers : (Nat → Nat)) (b : Nat) : a_X8_reckons_98 (nI x1) (nI x2) (lN x3) (lN x5) (lN x7) (nI x9) (nB f_bits) (nB f_sums) (nB f_numbers) (nI b) = Option.map (Sum.map (cP lN (cP nI nB)) (cP nI nB)) (qa_X8_reckons_98 x1 x2 x3 x5 x7 x9 f_bits f_sums f_numbers b) := k_e_X8_reckons_116 x1 x2 x3 x5 x7 x9 b f_bits f_sums f_numbers
noncomputable def qg_X8_reckons_98 (x1 : Nat) (x2 : Nat) (x3 : Nat) (x5 : Nat) (x7 : Nat) (x9 : Nat) (x10 : Nat) (f_bits : (Nat → Nat)) (f_sums : (Nat → Nat)) (f_numbers : (Nat → Nat)) : Option ((Nat × (Nat × (Nat → Nat))) ⊕ (Nat × (Nat → Nat))) := (lpN (fun q : Nat => qs_X8_reckons_98 x1 x2 x3 x5 x7 x9 q f_bits f_sums f_numbers) pfFU x10).bind (qa_X8_reckons_98 x1 x2 x3 x5 x7 x9 f_bits f_sums f_numbers)
theorem k_g_X8_reckons_98 (x1 : Nat) (x2 : Nat) (x3 : Nat) (x5 : Nat) (x7 : Nat) (x9 : Nat) (x10 : Nat) (f_bits : (Nat → Nat)) (f_sums : (Nat → Nat)) (f_numbers : (Nat → Nat)) : g_X8_reckons_98 (nI x1) (nI x2) (lN x3) (lN x5) (lN x7) (nI x9) (nI x10) (nB f_bits) (nB f_sums) (nB f_numbers) = Option.map (Sum.map (cP lN (cP nI nB)) (cP nI nB)) (qg_X8_reckons_98 x1 x2 x3 x5 x7 x9 x10 f_bits f_sums f_numbers) := by
  unfold g_X8_reckons_98 qg_X8_reckons_98
  exact hm_bind (lp_hom nI nI (fun q => k_s_X8_reckons_98 x1 x2 x3 x5 x7 x9 q f_bits f_sums f_numbers) pfFU x10) (fun b => k_a_X8_reckons_98 x1 x2 x3 x5 x7 x9 f_bits f_sums f_numbers b)
noncomputable def qs_X8_reckons_88 (x1 : Nat) (x2 : Nat) (x3 : Nat) (x5 : Nat) (x7 : Nat) (x9 : Nat) (f_bits : (Nat → Nat)) (f_sums : (Nat → Nat)) (f_numbers : (Nat → Nat)) : Option ((Nat × (Nat × (Nat → Nat))) ⊕ (Nat × (Nat → Nat))) :=
  (bif neqJ x7 0 then some (Sum.inr (x9, f_sums)) else qg_X8_reckons_98 x1 x2 x3 x5 x7 x9 0 f_bits f_sums f_numbers)
theorem k_s_X8_reckons_88 (x1 : Nat) (x2 : Nat) (x3 : Nat) (x5 : Nat) (x7 : Nat) (x9 : Nat) (f_bits : (Nat → Nat)) (f_sums : (Nat → Nat)) (f_numbers : (Nat → Nat)) : s_X8_reckons_88 (nI x1) (nI x2) (lN x3) (lN x5) (lN x7) (nI x9) (nB f_bits) (nB f_sums) (nB f_numbers) = Option.map (Sum.map (cP lN (cP nI nB)) (cP nI nB)) (qs_X8_reckons_88 x1 x2 x3 x5 x7 x9 f_bits f_sums f_numbers) := by
  unfold s_X8_reckons_88 qs_X8_reckons_88
  exact (hm_if (hc_eqJ rfl rfl) rfl (k_g_X8_reckons_98 x1 x2 x3 x5 x7 x9 0 f_bits f_sums f_numbers))
noncomputable def qa_X8_reckons_88 (x3 : Nat) (f_numbers : (Nat → Nat)) (b : (Nat × (Nat → Nat))) : Option (Nat × ((Nat → Nat) × (Nat → Nat))) := (fun q : (Nat × (Nat → Nat)) => qe_X8_reckons_208 x3 q.1 q.2 f_numbers) b
theorem k_a_X8_reckons_88 (x3 : Nat) (f_numbers : (Nat → Nat)) (b : (Nat × (Nat → Nat))) : a_X8_reckons_88 (lN x3) (nB f_numbers) ((cP nI nB) b) = Option.map (cP nI (cP nB nB)) (qa_X8_reckons_88 x3 f_numbers b) := k_e_X8_reckons_208 x3 b.1 b.2 f_numbers
noncomputable def qg_X8_reckons_88 (x1 : Nat) (x2 : Nat) (x3 : Nat) (x5 : Nat) (x7 : Nat) (x9 : Nat) (f_bits : (Nat → Nat)) (f_sums : (Nat → Nat)) (f_numbers : (Nat → Nat)) : Option (Nat × ((Nat → Nat) × (Nat → Nat))) := (lpN (fun q : (Nat × (Nat × (Nat → Nat))) => qs_X8_reckons_88 x1 x2 x3 x5 q.1 q.2.1 f_bits q.2.2 f_numbers) pfFU (x7, x9, f_sums)).bind (qa_X8_reckons_88 x3 f_numbers)
theorem k_g_X8_reckons_88 (x1 : Nat) (x2 : Nat) (x3 : Nat) (x5 : Nat) (x7 : Nat) (x9 : Nat) (f_bits : (Nat → Nat)) (f_sums : (Nat → Nat)) (f_numbers : (Nat → Nat)) : g_X8_reckons_88 (nI x1) (nI x2) (lN x3) (lN x5) (lN x7) (nI x9) (nB f_bits) (nB f_sums) (nB f_numbers) = Option.map (cP nI (cP nB nB)) (qg_X8_reckons_88 x1 x2 x3 x5 x7 x9 f_bits f_sums f_numbers) := by
  unfold g_X8_reckons_88 qg_X8_reckons_88
  exact hm_bind (lp_hom (cP lN (cP nI nB)) (cP nI nB) (fun q => k_s_X8_reckons_88 x1 x2 x3 x5 q.1 q.2.1 f_bits q.2.2 f_numbers) pfFU (x7, x9, f_sums)) (fun b => k_a_X8_reckons_88 x3 f_numbers b)
noncomputable def qe_X8_reckons_72 (x1 : Nat) (x2 : Nat) (x3 : Nat) (f_bits : (Nat → Nat)) (f_sums : (Nat → Nat)) (f_numbers : (Nat → Nat)) : Option (Nat × ((Nat → Nat) × (Nat → Nat))) :=
  ((np_X8_root x2 x3).bind fun v74 => ((np_X8_all x2).bind fun v80 => qg_X8_reckons_88 x1 x2 x3 v74 v80 0 f_bits f_sums f_numbers))
theorem k_e_X8_reckons_72 (x1 : Nat) (x2 : Nat) (x3 : Nat) (f_bits : (Nat → Nat)) (f_sums : (Nat → Nat)) (f_numbers : (Nat → Nat)) : e_X8_reckons_72 (nI x1) (nI x2) (lN x3) (nB f_bits) (nB f_sums) (nB f_numbers) = Option.map (cP nI (cP nB nB)) (qe_X8_reckons_72 x1 x2 x3 f_bits f_sums f_numbers) := by
  unfold e_X8_reckons_72 qe_X8_reckons_72
  exact (hm_bind (h_p_X8_root x2 x3) (fun v74 => (hm_bind (h_p_X8_all x2) (fun v80 => (k_g_X8_reckons_88 x1 x2 x3 v74 v80 0 f_bits f_sums f_numbers)))))
noncomputable def qs_X8_reckons_49 (x1 : Nat) (x2 : Nat) (x3 : Nat) (f_bits : (Nat → Nat)) (f_sums : (Nat → Nat)) (f_numbers : (Nat → Nat)) : Option (Nat ⊕ Nat) :=
  (bif nleJ x3 1500000000 then some (Sum.inl (x3 + (ni2l x2))) else ((qp_X8_isGreatPrime x3).bind fun v58 => (bif neqI v58 0 then some (Sum.inl (x3 + (ni2l x2))) else some (Sum.inr x3))))
theorem k_s_X8_reckons_49 (x1 : Nat) (x2 : Nat) (x3 : Nat) (f_bits : (Nat → Nat)) (f_sums : (Nat → Nat)) (f_numbers : (Nat → Nat)) : s_X8_reckons_49 (nI x1) (nI x2) (lN x3) (nB f_bits) (nB f_sums) (nB f_numbers) = Option.map (Sum.map lN lN) (qs_X8_reckons_49 x1 x2 x3 f_bits f_sums f_numbers) := by
  unfold s_X8_reckons_49 qs_X8_reckons_49
  exact (hm_if (hc_leJ rfl rfl) (congrArg some (congrArg Sum.inl (ho_addJ rfl (ho_i2l rfl)))) (hm_bind (k_p_X8_isGreatPrime x3) (fun v58 => (hm_if (hc_eqI rfl rfl) (congrArg some (congrArg Sum.inl (ho_addJ rfl (ho_i2l rfl)))) rfl))))
noncomputable def qa_X8_reckons_49 (x1 : Nat) (x2 : Nat) (f_bits : (Nat → Nat)) (f_sums : (Nat → Nat)) (f_numbers : (Nat → Nat)) (b : Nat) : Option (Nat × ((Nat → Nat) × (Nat → Nat))) := (fun q : Nat => qe_X8_reckons_72 x1 x2 q f_bits f_sums f_numbers) b
theorem k_a_X8_reckons_49 (x1 : Nat) (x2 : Nat) (f_bits : (Nat → Nat)) (f_sums : (Nat → Nat)) (f_numbers : (Nat → Nat)) (b : Nat) : a_X8_reckons_49 (nI x1) (nI x2) (nB f_bits) (nB f_sums) (nB f_numbers) (lN b) = Option.map (cP nI (cP nB nB)) (qa_X8_reckons_49 x1 x2 f_bits f_sums f_numbers b) := k_e_X8_reckons_72 x1 x2 b f_bits f_sums f_numbers
noncomputable def qg_X8_reckons_49 (x1 : Nat) (x2 : Nat) (x3 : Nat) (f_bits : (Nat → Nat)) (f_sums : (Nat → Nat)) (f_numbers : (Nat → Nat)) : Option (Nat × ((Nat → Nat) × (Nat → Nat))) := (lpN (fun q : Nat => qs_X8_reckons_49 x1 x2 q f_bits f_sums f_numbers) pfFU x3).bind (qa_X8_reckons_49 x1 x2 f_bits f_sums f_numbers)
theorem k_g_X8_reckons_49 (x1 : Nat) (x2 : Nat) (x3 : Nat) (f_bits : (Nat → Nat)) (f_sums : (Nat → Nat)) (f_numbers : (Nat → Nat)) : g_X8_reckons_49 (nI x1) (nI x2) (lN x3) (nB f_bits) (nB f_sums) (nB f_numbers) = Option.map (cP nI (cP nB nB)) (qg_X8_reckons_49 x1 x2 x3 f_bits f_sums f_numbers) := by
  unfold g_X8_reckons_49 qg_X8_reckons_49
  exact hm_bind (lp_hom lN lN (fun q => k_s_X8_reckons_49 x1 x2 q f_bits f_sums f_numbers) pfFU x3) (fun b => k_a_X8_reckons_49 x1 x2 f_bits f_sums f_numbers b)
noncomputable def qp_X8_reckons (f_bar : (Nat → Nat)) (f_bits : (Nat → Nat)) (f_made : (Nat → Nat)) (f_sums : (Nat → Nat)) (f_numbers : (Nat → Nat)) (y1 : Nat) : Option (Nat × ((Nat → Nat) × (Nat → Nat))) :=
  ((np_X8_isField f_made y1).bind fun v2 => (bif neqI v2 0 then some (0, (f_sums, f_numbers)) else (bif nain y1 160 then (bif nain y1 160 then ((np_X8_degree (f_bar (nix y1)) (f_bits (nix y1))).bind fun v20 => (bif nleI v20 8 then (bif nain y1 160 then (bif neqJ (ni2l (f_bar (nix y1))) 0 then none else ((some (((ndivJ 1500000000 (ni2l (f_bar (nix y1)))) * (ni2l (f_bar (nix y1)))) + 1)).bind fun w48 => qg_X8_reckons_49 y1 (f_bar (nix y1)) w48 f_bits f_sums f_numbers)) else none) else some (0, (f_sums, f_numbers)))) else none) else none)))
theorem k_p_X8_reckons (f_bar : (Nat → Nat)) (f_bits : (Nat → Nat)) (f_made : (Nat → Nat)) (f_sums : (Nat → Nat)) (f_numbers : (Nat → Nat)) (y1 : Nat) : p_X8_reckons (nA f_bar) (nB f_bits) (nA f_made) (nB f_sums) (nB f_numbers) (nI y1) = Option.map (cP nI (cP nB nB)) (qp_X8_reckons f_bar f_bits f_made f_sums f_numbers y1) := by
  unfold p_X8_reckons qp_X8_reckons
  exact (hm_bind (h_p_X8_isField f_made y1) (fun v2 => (hm_if (hc_eqI rfl rfl) rfl (hm_if (hc_ain rfl) (hm_if (hc_ain rfl) (hm_bind (Eq.trans (congr (congrArg p_X8_degree (ho_rdI rfl (ho_ix rfl))) (ho_rdJ rfl (ho_ix rfl))) (h_p_X8_degree (f_bar (nix y1)) (f_bits (nix y1)))) (fun v20 => (hm_if (hc_leI rfl rfl) (hm_if (hc_ain rfl) (hm_if (hc_eqJ (ho_i2l (ho_rdI rfl (ho_ix rfl))) rfl) rfl (hm_bind (show some _ = Option.map lN (some (((ndivJ 1500000000 (ni2l (f_bar (nix y1)))) * (ni2l (f_bar (nix y1)))) + 1)) from (congrArg some (ho_addJ (ho_mulJ (ho_divJ rfl (ho_i2l (ho_rdI rfl (ho_ix rfl)))) (ho_i2l (ho_rdI rfl (ho_ix rfl)))) rfl))) (fun w48 => (Eq.trans (congr (congr (congr (congr (congr (congrArg g_X8_reckons_49 rfl) (ho_rdI rfl (ho_ix rfl))) rfl) rfl) rfl) rfl) (k_g_X8_reckons_49 y1 (f_bar (nix y1)) w48 f_bits f_sums f_numbers))))) rfl) rfl))) rfl) rfl))))
