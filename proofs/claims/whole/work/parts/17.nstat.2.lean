noncomputable def ne_X8_powerBy_61 (x6 : Nat) : Option Nat :=
  some x6
theorem h_e_X8_powerBy_61 (x6 : Nat) : e_X8_powerBy_61 (lN x6) = Option.map lN (ne_X8_powerBy_61 x6) := by
  unfold e_X8_powerBy_61 ne_X8_powerBy_61
  exact rfl
noncomputable def ns_X8_powerBy_12 (x4 : Nat) (x6 : Nat) (x8 : Nat) (x10 : Nat) : Option ((Nat × (Nat × Nat)) ⊕ Nat) :=
  (bif nleJ x10 0 then some (Sum.inr x6) else (bif neqJ (njremL x10 2) 1 then (bif neqJ x4 0 then none else (bif neqJ x4 0 then none else some (Sum.inl ((njremL (x6 * x8) x4), ((njremL (x8 * x8) x4), (ndivJ x10 2)))))) else (bif neqJ x4 0 then none else some (Sum.inl (x6, ((njremL (x8 * x8) x4), (ndivJ x10 2)))))))
theorem h_s_X8_powerBy_12 (x4 : Nat) (x6 : Nat) (x8 : Nat) (x10 : Nat) : s_X8_powerBy_12 (lN x4) (lN x6) (lN x8) (lN x10) = Option.map (Sum.map (cP lN (cP lN lN)) lN) (ns_X8_powerBy_12 x4 x6 x8 x10) := by
  unfold s_X8_powerBy_12 ns_X8_powerBy_12
  exact (hm_if (hc_leJ rfl rfl) rfl (hm_if (hc_eqJ (ho_jremL rfl rfl) rfl) (hm_if (hc_eqJ rfl rfl) rfl (hm_if (hc_eqJ rfl rfl) rfl (congrArg some (congrArg Sum.inl (ho_pair (ho_jremL (ho_mulJ rfl rfl) rfl) (ho_pair (ho_jremL (ho_mulJ rfl rfl) rfl) (ho_divJ rfl rfl))))))) (hm_if (hc_eqJ rfl rfl) rfl (congrArg some (congrArg Sum.inl (ho_pair rfl (ho_pair (ho_jremL (ho_mulJ rfl rfl) rfl) (ho_divJ rfl rfl))))))))
noncomputable def na_X8_powerBy_12 (b : Nat) : Option Nat := (fun q : Nat => ne_X8_powerBy_61 q) b
theorem h_a_X8_powerBy_12 (b : Nat) : a_X8_powerBy_12 (lN b) = Option.map lN (na_X8_powerBy_12 b) := h_e_X8_powerBy_61 b
noncomputable def ng_X8_powerBy_12 (x4 : Nat) (x6 : Nat) (x8 : Nat) (x10 : Nat) : Option Nat := (lpN (fun q : (Nat × (Nat × Nat)) => ns_X8_powerBy_12 x4 q.1 q.2.1 q.2.2) pfFU (x6, x8, x10)).bind (na_X8_powerBy_12 )
theorem h_g_X8_powerBy_12 (x4 : Nat) (x6 : Nat) (x8 : Nat) (x10 : Nat) : g_X8_powerBy_12 (lN x4) (lN x6) (lN x8) (lN x10) = Option.map lN (ng_X8_powerBy_12 x4 x6 x8 x10) := by
  unfold g_X8_powerBy_12 ng_X8_powerBy_12
  exact hm_bind (lp_hom (cP lN (cP lN lN)) lN (fun q => h_s_X8_powerBy_12 x4 q.1 q.2.1 q.2.2) pfFU (x6, x8, x10)) (fun b => h_a_X8_powerBy_12  b)
noncomputable def np_X8_powerBy (y0 : Nat) (y2 : Nat) (y4 : Nat) : Option Nat :=
  (bif neqJ y4 0 then none else ng_X8_powerBy_12 y4 1 (njremL y0 y4) y2)
theorem h_p_X8_powerBy (y0 : Nat) (y2 : Nat) (y4 : Nat) : p_X8_powerBy (lN y0) (lN y2) (lN y4) = Option.map lN (np_X8_powerBy y0 y2 y4) := by
  unfold p_X8_powerBy np_X8_powerBy
  exact (hm_if (hc_eqJ rfl rfl) rfl (Eq.trans (congr (congr (congr (congrArg g_X8_powerBy_12 rfl) rfl) (ho_jremL rfl rfl)) rfl) (h_g_X8_powerBy_12 y4 1 (njremL y0 y4) y2)))
noncomputable def ne_X8_root_73 (x5 : Nat) : Option Nat :=
  some x5
theorem h_e_X8_root_73 (x5 : Nat) : e_X8_root_73 (lN x5) = Option.map lN (ne_X8_root_73 x5) := by
  unfold e_X8_root_73 ne_X8_root_73
  exact rfl
noncomputable def ne_X8_root_68 (x0 : Nat) (x1 : Nat) (x3 : Nat) (x5 : Nat) (x7 : Nat) : Option (Nat ⊕ Nat) :=
  (bif neqI x7 0 then some (Sum.inl (x3 + 1)) else some (Sum.inr x5))
theorem h_e_X8_root_68 (x0 : Nat) (x1 : Nat) (x3 : Nat) (x5 : Nat) (x7 : Nat) : e_X8_root_68 (nI x0) (lN x1) (lN x3) (lN x5) (nI x7) = Option.map (Sum.map lN lN) (ne_X8_root_68 x0 x1 x3 x5 x7) := by
  unfold e_X8_root_68 ne_X8_root_68
  exact (hm_if (hc_eqI rfl rfl) (congrArg some (congrArg Sum.inl (ho_addJ rfl rfl))) rfl)
noncomputable def ns_X8_root_23 (x0 : Nat) (x1 : Nat) (x3 : Nat) (x5 : Nat) (x7 : Nat) (x8 : Nat) : Option ((Nat × Nat) ⊕ Nat) :=
  (bif nleI x0 x8 then some (Sum.inr x7) else (bif neqI x7 0 then some (Sum.inr x7) else (bif neqI x8 0 then none else (bif neqI (njrem x0 x8) 0 then ((np_X8_powerBy x5 (ni2l x8) x1).bind fun v47 => (bif neqJ v47 1 then some (Sum.inl (0, (x8 + 1))) else some (Sum.inl (1, (x8 + 1))))) else some (Sum.inl (1, (x8 + 1)))))))
theorem h_s_X8_root_23 (x0 : Nat) (x1 : Nat) (x3 : Nat) (x5 : Nat) (x7 : Nat) (x8 : Nat) : s_X8_root_23 (nI x0) (lN x1) (lN x3) (lN x5) (nI x7) (nI x8) = Option.map (Sum.map (cP nI nI) nI) (ns_X8_root_23 x0 x1 x3 x5 x7 x8) := by
  unfold s_X8_root_23 ns_X8_root_23
  exact (hm_if (hc_leI rfl rfl) rfl (hm_if (hc_eqI rfl rfl) rfl (hm_if (hc_eqI rfl rfl) rfl (hm_if (hc_eqI (ho_jrem rfl rfl) rfl) (hm_bind (Eq.trans (congr (congr (congrArg p_X8_powerBy rfl) (ho_i2l rfl)) rfl) (h_p_X8_powerBy x5 (ni2l x8) x1)) (fun v47 => (hm_if (hc_eqJ rfl rfl) (congrArg some (congrArg Sum.inl (ho_pair rfl (ho_addI rfl rfl)))) (congrArg some (congrArg Sum.inl (ho_pair rfl (ho_addI rfl rfl))))))) (congrArg some (congrArg Sum.inl (ho_pair rfl (ho_addI rfl rfl))))))))
noncomputable def na_X8_root_23 (x0 : Nat) (x1 : Nat) (x3 : Nat) (x5 : Nat) (b : Nat) : Option (Nat ⊕ Nat) := (fun q : Nat => ne_X8_root_68 x0 x1 x3 x5 q) b
theorem h_a_X8_root_23 (x0 : Nat) (x1 : Nat) (x3 : Nat) (x5 : Nat) (b : Nat) : a_X8_root_23 (nI x0) (lN x1) (lN x3) (lN x5) (nI b) = Option.map (Sum.map lN lN) (na_X8_root_23 x0 x1 x3 x5 b) := h_e_X8_root_68 x0 x1 x3 x5 b
noncomputable def ng_X8_root_23 (x0 : Nat) (x1 : Nat) (x3 : Nat) (x5 : Nat) (x7 : Nat) (x8 : Nat) : Option (Nat ⊕ Nat) := (lpN (fun q : (Nat × Nat) => ns_X8_root_23 x0 x1 x3 x5 q.1 q.2) pfFU (x7, x8)).bind (na_X8_root_23 x0 x1 x3 x5)
theorem h_g_X8_root_23 (x0 : Nat) (x1 : Nat) (x3 : Nat) (x5 : Nat) (x7 : Nat) (x8 : Nat) : g_X8_root_23 (nI x0) (lN x1) (lN x3) (lN x5) (nI x7) (nI x8) = Option.map (Sum.map lN lN) (ng_X8_root_23 x0 x1 x3 x5 x7 x8) := by
  unfold g_X8_root_23 ng_X8_root_23
  exact hm_bind (lp_hom (cP nI nI) nI (fun q => h_s_X8_root_23 x0 x1 x3 x5 q.1 q.2) pfFU (x7, x8)) (fun b => h_a_X8_root_23 x0 x1 x3 x5 b)
noncomputable def ns_X8_root_4 (x0 : Nat) (x1 : Nat) (x3 : Nat) : Option (Nat ⊕ Nat) :=
  (bif neqJ (ni2l x0) 0 then none else ((np_X8_powerBy x3 (ndivJ (nsubJ x1 1) (ni2l x0)) x1).bind fun v12 => ng_X8_root_23 x0 x1 x3 v12 1 1))
theorem h_s_X8_root_4 (x0 : Nat) (x1 : Nat) (x3 : Nat) : s_X8_root_4 (nI x0) (lN x1) (lN x3) = Option.map (Sum.map lN lN) (ns_X8_root_4 x0 x1 x3) := by
  unfold s_X8_root_4 ns_X8_root_4
  exact (hm_if (hc_eqJ (ho_i2l rfl) rfl) rfl (hm_bind (Eq.trans (congr (congr (congrArg p_X8_powerBy rfl) (ho_divJ (ho_subJ rfl rfl) (ho_i2l rfl))) rfl) (h_p_X8_powerBy x3 (ndivJ (nsubJ x1 1) (ni2l x0)) x1)) (fun v12 => (h_g_X8_root_23 x0 x1 x3 v12 1 1))))
noncomputable def na_X8_root_4 (b : Nat) : Option Nat := (fun q : Nat => ne_X8_root_73 q) b
theorem h_a_X8_root_4 (b : Nat) : a_X8_root_4 (lN b) = Option.map lN (na_X8_root_4 b) := h_e_X8_root_73 b
noncomputable def ng_X8_root_4 (x0 : Nat) (x1 : Nat) (x3 : Nat) : Option Nat := (lpN (fun q : Nat => ns_X8_root_4 x0 x1 q) pfFU x3).bind (na_X8_root_4 )
theorem h_g_X8_root_4 (x0 : Nat) (x1 : Nat) (x3 : Nat) : g_X8_root_4 (nI x0) (lN x1) (lN x3) = Option.map lN (ng_X8_root_4 x0 x1 x3) := by
  unfold g_X8_root_4 ng_X8_root_4
  exact hm_bind (lp_hom lN lN (fun q => h_s_X8_root_4 x0 x1 q) pfFU x3) (fun b => h_a_X8_root_4  b)
noncomputable def np_X8_root (y0 : Nat) (y1 : Nat) : Option Nat :=
  ng_X8_root_4 y0 y1 2
theorem h_p_X8_root (y0 : Nat) (y1 : Nat) : p_X8_root (nI y0) (lN y1) = Option.map lN (np_X8_root y0 y1) := by
  unfold p_X8_root np_X8_root
  exact (h_g_X8_root_4 y0 y1 2)
noncomputable def np_J9_floorMod_f86c9 (y0 : Nat) (y2 : Nat) : Option Nat :=
  (bif neqJ y2 0 then none else (bif nleJ 0 (y0 ^^^ y2) then some (njremL y0 y2) else (bif neqJ (njremL y0 y2) 0 then some (njremL y0 y2) else some ((njremL y0 y2) + y2))))
theorem h_p_J9_floorMod_f86c9 (y0 : Nat) (y2 : Nat) : p_J9_floorMod_f86c9 (lN y0) (lN y2) = Option.map lN (np_J9_floorMod_f86c9 y0 y2) := by
  unfold p_J9_floorMod_f86c9 np_J9_floorMod_f86c9
  exact (hm_if (hc_eqJ rfl rfl) rfl (hm_if (hc_leJ rfl (ho_xorJ rfl rfl)) (congrArg some (ho_jremL rfl rfl)) (hm_if (hc_eqJ (ho_jremL rfl rfl) rfl) (congrArg some (ho_jremL rfl rfl)) (congrArg some (ho_addJ (ho_jremL rfl rfl) rfl)))))
