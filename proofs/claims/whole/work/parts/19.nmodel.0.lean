noncomputable def np_X8_rests (y1 : Nat) : Option Nat :=
  ((np_X8_isM y1).bind fun v1 => (bif neqI v1 0 then some 4294967295 else ((np_X8_all y1).bind fun v8 => ((np_X8_many v8).bind fun v11 => some v11))))
theorem h_p_X8_rests (y1 : Nat) : p_X8_rests (nI y1) = Option.map nI (np_X8_rests y1) := by
  unfold p_X8_rests np_X8_rests
  exact (hm_bind (h_p_X8_isM y1) (fun v1 => (hm_if (hc_eqI rfl rfl) rfl (hm_bind (h_p_X8_all y1) (fun v8 => (hm_bind (h_p_X8_many v8) (fun v11 => rfl)))))))
noncomputable def ne_X8_order_37 (x3 : Nat) : Option Nat :=
  some x3
theorem h_e_X8_order_37 (x3 : Nat) : e_X8_order_37 (nI x3) = Option.map nI (ne_X8_order_37 x3) := by
  unfold e_X8_order_37 ne_X8_order_37
  exact rfl
noncomputable def ns_X8_order_19 (x1 : Nat) (x2 : Nat) (x3 : Nat) : Option (Nat ⊕ Nat) :=
  ((np_X8_power x1 x2 x3).bind fun v22 => (bif neqI x1 0 then none else (bif neqI v22 (njrem 1 x1) then some (Sum.inr x3) else some (Sum.inl (x3 + 1)))))
theorem h_s_X8_order_19 (x1 : Nat) (x2 : Nat) (x3 : Nat) : s_X8_order_19 (nI x1) (nI x2) (nI x3) = Option.map (Sum.map nI nI) (ns_X8_order_19 x1 x2 x3) := by
  unfold s_X8_order_19 ns_X8_order_19
  exact (hm_bind (h_p_X8_power x1 x2 x3) (fun v22 => (hm_if (hc_eqI rfl rfl) rfl (hm_if (hc_eqI rfl (ho_jrem rfl rfl)) rfl (congrArg some (congrArg Sum.inl (ho_addI rfl rfl)))))))
noncomputable def na_X8_order_19 (b : Nat) : Option Nat := (fun q : Nat => ne_X8_order_37 q) b
theorem h_a_X8_order_19 (b : Nat) : a_X8_order_19 (nI b) = Option.map nI (na_X8_order_19 b) := h_e_X8_order_37 b
noncomputable def ng_X8_order_19 (x1 : Nat) (x2 : Nat) (x3 : Nat) : Option Nat := (lpN (fun q : Nat => ns_X8_order_19 x1 x2 q) pfFU x3).bind (na_X8_order_19 )
theorem h_g_X8_order_19 (x1 : Nat) (x2 : Nat) (x3 : Nat) : g_X8_order_19 (nI x1) (nI x2) (nI x3) = Option.map nI (ng_X8_order_19 x1 x2 x3) := by
  unfold g_X8_order_19 ng_X8_order_19
  exact hm_bind (lp_hom nI nI (fun q => h_s_X8_order_19 x1 x2 q) pfFU x3) (fun b => h_a_X8_order_19  b)
noncomputable def np_X8_order (y1 : Nat) (y2 : Nat) : Option Nat :=
  ((np_X8_isM y1).bind fun v1 => (bif neqI v1 0 then some 4294967295 else ((np_X8_isRest y1 y2).bind fun v9 => (bif neqI v9 0 then some 4294967295 else ng_X8_order_19 y1 y2 1))))
theorem h_p_X8_order (y1 : Nat) (y2 : Nat) : p_X8_order (nI y1) (nI y2) = Option.map nI (np_X8_order y1 y2) := by
  unfold p_X8_order np_X8_order
  exact (hm_bind (h_p_X8_isM y1) (fun v1 => (hm_if (hc_eqI rfl rfl) rfl (hm_bind (h_p_X8_isRest y1 y2) (fun v9 => (hm_if (hc_eqI rfl rfl) rfl (h_g_X8_order_19 y1 y2 1)))))))
noncomputable def ne_X8_factor_154 (x6 : Nat) : Option Nat :=
  some x6
theorem h_e_X8_factor_154 (x6 : Nat) : e_X8_factor_154 (nI x6) = Option.map nI (ne_X8_factor_154 x6) := by
  unfold e_X8_factor_154 ne_X8_factor_154
  exact rfl
noncomputable def ne_X8_factor_148 (x1 : Nat) (x3 : Nat) (x5 : Nat) (x6 : Nat) (x7 : Nat) : Option ((Nat × Nat) ⊕ Nat) :=
  some (Sum.inl (x6, (x7 + 1)))
theorem h_e_X8_factor_148 (x1 : Nat) (x3 : Nat) (x5 : Nat) (x6 : Nat) (x7 : Nat) : e_X8_factor_148 (nI x1) (nI x3) (nI x5) (nI x6) (nI x7) = Option.map (Sum.map (cP nI nI) nI) (ne_X8_factor_148 x1 x3 x5 x6 x7) := by
  unfold e_X8_factor_148 ne_X8_factor_148
  exact (congrArg some (congrArg Sum.inl (ho_pair rfl (ho_addI rfl rfl))))
noncomputable def ns_X8_factor_122 (x1 : Nat) (x3 : Nat) (x5 : Nat) (x6 : Nat) (x7 : Nat) (x8 : Nat) : Option ((Nat × Nat) ⊕ Nat) :=
  ((np_X8_cycles x1 x7 x8).bind fun v127 => (bif nltI v127 x5 then some (Sum.inr x6) else some (Sum.inl ((x6 * x7), (x8 + 1)))))
theorem h_s_X8_factor_122 (x1 : Nat) (x3 : Nat) (x5 : Nat) (x6 : Nat) (x7 : Nat) (x8 : Nat) : s_X8_factor_122 (nI x1) (nI x3) (nI x5) (nI x6) (nI x7) (nI x8) = Option.map (Sum.map (cP nI nI) nI) (ns_X8_factor_122 x1 x3 x5 x6 x7 x8) := by
  unfold s_X8_factor_122 ns_X8_factor_122
  exact (hm_bind (h_p_X8_cycles x1 x7 x8) (fun v127 => (hm_if (hc_ltI rfl rfl) rfl (congrArg some (congrArg Sum.inl (ho_pair (ho_mulI rfl rfl) (ho_addI rfl rfl)))))))
noncomputable def na_X8_factor_122 (x1 : Nat) (x3 : Nat) (x5 : Nat) (x7 : Nat) (b : Nat) : Option ((Nat × Nat) ⊕ Nat) := (fun q : Nat => ne_X8_factor_148 x1 x3 x5 q x7) b
theorem h_a_X8_factor_122 (x1 : Nat) (x3 : Nat) (x5 : Nat) (x7 : Nat) (b : Nat) : a_X8_factor_122 (nI x1) (nI x3) (nI x5) (nI x7) (nI b) = Option.map (Sum.map (cP nI nI) nI) (na_X8_factor_122 x1 x3 x5 x7 b) := h_e_X8_factor_148 x1 x3 x5 b x7
noncomputable def ng_X8_factor_122 (x1 : Nat) (x3 : Nat) (x5 : Nat) (x6 : Nat) (x7 : Nat) (x8 : Nat) : Option ((Nat × Nat) ⊕ Nat) := (lpN (fun q : (Nat × Nat) => ns_X8_factor_122 x1 x3 x5 q.1 x7 q.2) pfFU (x6, x8)).bind (na_X8_factor_122 x1 x3 x5 x7)
theorem h_g_X8_factor_122 (x1 : Nat) (x3 : Nat) (x5 : Nat) (x6 : Nat) (x7 : Nat) (x8 : Nat) : g_X8_factor_122 (nI x1) (nI x3) (nI x5) (nI x6) (nI x7) (nI x8) = Option.map (Sum.map (cP nI nI) nI) (ng_X8_factor_122 x1 x3 x5 x6 x7 x8) := by
  unfold g_X8_factor_122 ng_X8_factor_122
  exact hm_bind (lp_hom (cP nI nI) nI (fun q => h_s_X8_factor_122 x1 x3 x5 q.1 x7 q.2) pfFU (x6, x8)) (fun b => h_a_X8_factor_122 x1 x3 x5 x7 b)
noncomputable def ns_X8_factor_95 (x1 : Nat) (x3 : Nat) (x5 : Nat) (x6 : Nat) (x7 : Nat) : Option ((Nat × Nat) ⊕ Nat) :=
  (bif nltI x3 x7 then some (Sum.inr x6) else ((np_X8_isPrime x7).bind fun v103 => (bif neqI v103 0 then some (Sum.inl (x6, (x7 + 1))) else (bif neqI x7 0 then none else (bif neqI (njrem x3 x7) 0 then ng_X8_factor_122 x1 x3 x5 x6 x7 1 else some (Sum.inl (x6, (x7 + 1))))))))
theorem h_s_X8_factor_95 (x1 : Nat) (x3 : Nat) (x5 : Nat) (x6 : Nat) (x7 : Nat) : s_X8_factor_95 (nI x1) (nI x3) (nI x5) (nI x6) (nI x7) = Option.map (Sum.map (cP nI nI) nI) (ns_X8_factor_95 x1 x3 x5 x6 x7) := by
  unfold s_X8_factor_95 ns_X8_factor_95
  exact (hm_if (hc_ltI rfl rfl) rfl (hm_bind (h_p_X8_isPrime x7) (fun v103 => (hm_if (hc_eqI rfl rfl) (congrArg some (congrArg Sum.inl (ho_pair rfl (ho_addI rfl rfl)))) (hm_if (hc_eqI rfl rfl) rfl (hm_if (hc_eqI (ho_jrem rfl rfl) rfl) (h_g_X8_factor_122 x1 x3 x5 x6 x7 1) (congrArg some (congrArg Sum.inl (ho_pair rfl (ho_addI rfl rfl))))))))))
noncomputable def na_X8_factor_95 (b : Nat) : Option Nat := (fun q : Nat => ne_X8_factor_154 q) b
theorem h_a_X8_factor_95 (b : Nat) : a_X8_factor_95 (nI b) = Option.map nI (na_X8_factor_95 b) := h_e_X8_factor_154 b
noncomputable def ng_X8_factor_95 (x1 : Nat) (x3 : Nat) (x5 : Nat) (x6 : Nat) (x7 : Nat) : Option Nat := (lpN (fun q : (Nat × Nat) => ns_X8_factor_95 x1 x3 x5 q.1 q.2) pfFU (x6, x7)).bind (na_X8_factor_95 )
theorem h_g_X8_factor_95 (x1 : Nat) (x3 : Nat) (x5 : Nat) (x6 : Nat) (x7 : Nat) : g_X8_factor_95 (nI x1) (nI x3) (nI x5) (nI x6) (nI x7) = Option.map nI (ng_X8_factor_95 x1 x3 x5 x6 x7) := by
  unfold g_X8_factor_95 ng_X8_factor_95
  exact hm_bind (lp_hom (cP nI nI) nI (fun q => h_s_X8_factor_95 x1 x3 x5 q.1 q.2) pfFU (x6, x7)) (fun b => h_a_X8_factor_95  b)
noncomputable def ne_X8_factor_75 (x1 : Nat) (x2 : Nat) (x3 : Nat) (x4 : Nat) : Option Nat :=
  (bif nltI x2 x4 then ng_X8_factor_95 x1 x3 (nsubI x4 x2) 1 2 else some 4294967295)
theorem h_e_X8_factor_75 (x1 : Nat) (x2 : Nat) (x3 : Nat) (x4 : Nat) : e_X8_factor_75 (nI x1) (nI x2) (nI x3) (nI x4) = Option.map nI (ne_X8_factor_75 x1 x2 x3 x4) := by
  unfold e_X8_factor_75 ne_X8_factor_75
  exact (hm_if (hc_ltI rfl rfl) (Eq.trans (congr (congr (congr (congr (congrArg g_X8_factor_95 rfl) rfl) (ho_subI rfl rfl)) rfl) rfl) (h_g_X8_factor_95 x1 x3 (nsubI x4 x2) 1 2)) rfl)
noncomputable def ns_X8_factor_27 (x1 : Nat) (x2 : Nat) (x3 : Nat) (x4 : Nat) (x5 : Nat) : Option ((Nat × Nat) ⊕ Nat) :=
  (bif nltI x3 x5 then some (Sum.inr x4) else ((np_X8_isPrime x5).bind fun v35 => (bif neqI v35 0 then some (Sum.inl (x4, (x5 + 1))) else (bif neqI x5 0 then none else (bif neqI (njrem x3 x5) 0 then ((np_X8_cycles x1 x5 1).bind fun v52 => (bif nleI v52 x4 then some (Sum.inl (x4, (x5 + 1))) else ((np_X8_cycles x1 x5 1).bind fun v64 => some (Sum.inl (v64, (x5 + 1)))))) else some (Sum.inl (x4, (x5 + 1))))))))
theorem h_s_X8_factor_27 (x1 : Nat) (x2 : Nat) (x3 : Nat) (x4 : Nat) (x5 : Nat) : s_X8_factor_27 (nI x1) (nI x2) (nI x3) (nI x4) (nI x5) = Option.map (Sum.map (cP nI nI) nI) (ns_X8_factor_27 x1 x2 x3 x4 x5) := by
  unfold s_X8_factor_27 ns_X8_factor_27
  exact (hm_if (hc_ltI rfl rfl) rfl (hm_bind (h_p_X8_isPrime x5) (fun v35 => (hm_if (hc_eqI rfl rfl) (congrArg some (congrArg Sum.inl (ho_pair rfl (ho_addI rfl rfl)))) (hm_if (hc_eqI rfl rfl) rfl (hm_if (hc_eqI (ho_jrem rfl rfl) rfl) (hm_bind (h_p_X8_cycles x1 x5 1) (fun v52 => (hm_if (hc_leI rfl rfl) (congrArg some (congrArg Sum.inl (ho_pair rfl (ho_addI rfl rfl)))) (hm_bind (h_p_X8_cycles x1 x5 1) (fun v64 => (congrArg some (congrArg Sum.inl (ho_pair rfl (ho_addI rfl rfl))))))))) (congrArg some (congrArg Sum.inl (ho_pair rfl (ho_addI rfl rfl))))))))))
noncomputable def na_X8_factor_27 (x1 : Nat) (x2 : Nat) (x3 : Nat) (b : Nat) : Option Nat := (fun q : Nat => ne_X8_factor_75 x1 x2 x3 q) b
theorem h_a_X8_factor_27 (x1 : Nat) (x2 : Nat) (x3 : Nat) (b : Nat) : a_X8_factor_27 (nI x1) (nI x2) (nI x3) (nI b) = Option.map nI (na_X8_factor_27 x1 x2 x3 b) := h_e_X8_factor_75 x1 x2 x3 b
noncomputable def ng_X8_factor_27 (x1 : Nat) (x2 : Nat) (x3 : Nat) (x4 : Nat) (x5 : Nat) : Option Nat := (lpN (fun q : (Nat × Nat) => ns_X8_factor_27 x1 x2 x3 q.1 q.2) pfFU (x4, x5)).bind (na_X8_factor_27 x1 x2 x3)
theorem h_g_X8_factor_27 (x1 : Nat) (x2 : Nat) (x3 : Nat) (x4 : Nat) (x5 : Nat) : g_X8_factor_27 (nI x1) (nI x2) (nI x3) (nI x4) (nI x5) = Option.map nI (ng_X8_factor_27 x1 x2 x3 x4 x5) := by
  unfold g_X8_factor_27 ng_X8_factor_27
  exact hm_bind (lp_hom (cP nI nI) nI (fun q => h_s_X8_factor_27 x1 x2 x3 q.1 q.2) pfFU (x4, x5)) (fun b => h_a_X8_factor_27 x1 x2 x3 b)
noncomputable def np_X8_factor (y1 : Nat) (y2 : Nat) : Option Nat :=
  ((np_X8_isM y1).bind fun v1 => (bif neqI v1 0 then some 4294967295 else (bif nleI 0 y2 then ((np_X8_all y1).bind fun v14 => ((np_X8_many v14).bind fun v17 => ng_X8_factor_27 y1 y2 v17 0 2)) else some 4294967295)))
theorem h_p_X8_factor (y1 : Nat) (y2 : Nat) : p_X8_factor (nI y1) (nI y2) = Option.map nI (np_X8_factor y1 y2) := by
  unfold p_X8_factor np_X8_factor
  exact (hm_bind (h_p_X8_isM y1) (fun v1 => (hm_if (hc_eqI rfl rfl) rfl (hm_if (hc_leI rfl rfl) (hm_bind (h_p_X8_all y1) (fun v14 => (hm_bind (h_p_X8_many v14) (fun v17 => (h_g_X8_factor_27 y1 y2 v17 0 2))))) rfl))))
noncomputable def ne_X8_keeps_64 (x4 : Nat) (x5 : Nat) (f_bar : (Nat → Nat)) (f_bits : (Nat → Nat)) (f_made : (Nat → Nat)) : Option (Nat × ((Nat → Nat) × ((Nat → Nat) × (Nat → Nat)))) :=
  (bif neqI (f_made (nix 0)) 40 then some (4294967295, (f_bar, (f_bits, f_made))) else (bif nain (f_made (nix 0)) 160 then (bif nain (f_made (nix 0)) 160 then some ((nsubI ((nupd f_made (nix 0) ((f_made (nix 0)) + 1)) (nix 0)) 1), ((nupd f_bar (nix (f_made (nix 0))) x4), ((nupd f_bits (nix (f_made (nix 0))) x5), (nupd f_made (nix 0) ((f_made (nix 0)) + 1))))) else none) else none))
theorem h_e_X8_keeps_64 (x4 : Nat) (x5 : Nat) (f_bar : (Nat → Nat)) (f_bits : (Nat → Nat)) (f_made : (Nat → Nat)) : e_X8_keeps_64 (nI x4) (lN x5) (nA f_bar) (nB f_bits) (nA f_made) = Option.map (cP nI (cP nA (cP nB nA))) (ne_X8_keeps_64 x4 x5 f_bar f_bits f_made) := by
  unfold e_X8_keeps_64 ne_X8_keeps_64
  exact (hm_if (hc_eqI (ho_rdI rfl (ho_ix rfl)) rfl) rfl (hm_if (hc_ain (ho_rdI rfl (ho_ix rfl))) (hm_if (hc_ain (ho_rdI rfl (ho_ix rfl))) (congrArg some (ho_pair (ho_subI (ho_rdI (ho_updI rfl (ho_ix rfl) (ho_addI (ho_rdI rfl (ho_ix rfl)) rfl)) (ho_ix rfl)) rfl) (ho_pair (ho_updI rfl (ho_ix (ho_rdI rfl (ho_ix rfl))) rfl) (ho_pair (ho_updJ rfl (ho_ix (ho_rdI rfl (ho_ix rfl))) rfl) (ho_updI rfl (ho_ix rfl) (ho_addI (ho_rdI rfl (ho_ix rfl)) rfl)))))) rfl) rfl))
noncomputable def ne_X8_keeps_55 (x7 : Nat) (f_bar : (Nat → Nat)) (f_bits : (Nat → Nat)) (f_made : (Nat → Nat)) : Option (Nat × ((Nat → Nat) × ((Nat → Nat) × (Nat → Nat)))) :=
  some (x7, (f_bar, (f_bits, f_made)))
theorem h_e_X8_keeps_55 (x7 : Nat) (f_bar : (Nat → Nat)) (f_bits : (Nat → Nat)) (f_made : (Nat → Nat)) : e_X8_keeps_55 (nI x7) (nA f_bar) (nB f_bits) (nA f_made) = Option.map (cP nI (cP nA (cP nB nA))) (ne_X8_keeps_55 x7 f_bar f_bits f_made) := by
  unfold e_X8_keeps_55 ne_X8_keeps_55
  exact rfl
noncomputable def ns_X8_keeps_19 (x4 : Nat) (x5 : Nat) (x7 : Nat) (f_bar : (Nat → Nat)) (f_bits : (Nat → Nat)) (f_made : (Nat → Nat)) : Option (Nat ⊕ (Nat ⊕ Unit)) :=
  (bif nleI (f_made (nix 0)) x7 then some (Sum.inr (Sum.inr ())) else (bif nain x7 160 then (bif neqI (f_bar (nix x7)) x4 then (bif nain x7 160 then (bif neqJ (f_bits (nix x7)) x5 then some (Sum.inr (Sum.inl x7)) else some (Sum.inl (x7 + 1))) else none) else some (Sum.inl (x7 + 1))) else none))
theorem h_s_X8_keeps_19 (x4 : Nat) (x5 : Nat) (x7 : Nat) (f_bar : (Nat → Nat)) (f_bits : (Nat → Nat)) (f_made : (Nat → Nat)) : s_X8_keeps_19 (nI x4) (lN x5) (nI x7) (nA f_bar) (nB f_bits) (nA f_made) = Option.map (Sum.map nI (Sum.map nI id)) (ns_X8_keeps_19 x4 x5 x7 f_bar f_bits f_made) := by
  unfold s_X8_keeps_19 ns_X8_keeps_19
  exact (hm_if (hc_leI (ho_rdI rfl (ho_ix rfl)) rfl) rfl (hm_if (hc_ain rfl) (hm_if (hc_eqI (ho_rdI rfl (ho_ix rfl)) rfl) (hm_if (hc_ain rfl) (hm_if (hc_eqJ (ho_rdJ rfl (ho_ix rfl)) rfl) rfl (congrArg some (congrArg Sum.inl (ho_addI rfl rfl)))) rfl) (congrArg some (congrArg Sum.inl (ho_addI rfl rfl)))) rfl))
noncomputable def na_X8_keeps_19 (x4 : Nat) (x5 : Nat) (f_bar : (Nat → Nat)) (f_bits : (Nat → Nat)) (f_made : (Nat → Nat)) (b : (Nat ⊕ Unit)) : Option (Nat × ((Nat → Nat) × ((Nat → Nat) × (Nat → Nat)))) := Sum.elim (fun q : Nat => ne_X8_keeps_55 q f_bar f_bits f_made) (fun q : Unit => ne_X8_keeps_64 x4 x5 f_bar f_bits f_made) b
theorem h_a_X8_keeps_19 (x4 : Nat) (x5 : Nat) (f_bar : (Nat → Nat)) (f_bits : (Nat → Nat)) (f_made : (Nat → Nat)) (b : (Nat ⊕ Unit)) : a_X8_keeps_19 (nI x4) (lN x5) (nA f_bar) (nB f_bits) (nA f_made) ((Sum.map nI id) b) = Option.map (cP nI (cP nA (cP nB nA))) (na_X8_keeps_19 x4 x5 f_bar f_bits f_made b) := by
  cases b with
  | inl q => exact h_e_X8_keeps_55 q f_bar f_bits f_made
  | inr q => exact h_e_X8_keeps_64 x4 x5 f_bar f_bits f_made
noncomputable def ng_X8_keeps_19 (x4 : Nat) (x5 : Nat) (x7 : Nat) (f_bar : (Nat → Nat)) (f_bits : (Nat → Nat)) (f_made : (Nat → Nat)) : Option (Nat × ((Nat → Nat) × ((Nat → Nat) × (Nat → Nat)))) := (lpN (fun q : Nat => ns_X8_keeps_19 x4 x5 q f_bar f_bits f_made) pfFU x7).bind (na_X8_keeps_19 x4 x5 f_bar f_bits f_made)
theorem h_g_X8_keeps_19 (x4 : Nat) (x5 : Nat) (x7 : Nat) (f_bar : (Nat → Nat)) (f_bits : (Nat → Nat)) (f_made : (Nat → Nat)) : g_X8_keeps_19 (nI x4) (lN x5) (nI x7) (nA f_bar) (nB f_bits) (nA f_made) = Option.map (cP nI (cP nA (cP nB nA))) (ng_X8_keeps_19 x4 x5 x7 f_bar f_bits f_made) := by
  unfold g_X8_keeps_19 ng_X8_keeps_19
  exact hm_bind (lp_hom nI (Sum.map nI id) (fun q => h_s_X8_keeps_19 x4 x5 q f_bar f_bits f_made) pfFU x7) (fun b => h_a_X8_keeps_19 x4 x5 f_bar f_bits f_made b)
noncomputable def np_X8_keeps (f_bar : (Nat → Nat)) (f_bits : (Nat → Nat)) (f_made : (Nat → Nat)) (y1 : Nat) (y2 : Nat) : Option (Nat × ((Nat → Nat) × ((Nat → Nat) × (Nat → Nat)))) :=
  ((np_X8_barOf y1 y2).bind fun v2 => ((np_X8_down y1 y2 v2).bind fun v11 => ng_X8_keeps_19 v2 v11 0 f_bar f_bits f_made))
theorem h_p_X8_keeps (f_bar : (Nat → Nat)) (f_bits : (Nat → Nat)) (f_made : (Nat → Nat)) (y1 : Nat) (y2 : Nat) : p_X8_keeps (nA f_bar) (nB f_bits) (nA f_made) (nI y1) (lN y2) = Option.map (cP nI (cP nA (cP nB nA))) (np_X8_keeps f_bar f_bits f_made y1 y2) := by
  unfold p_X8_keeps np_X8_keeps
  exact (hm_bind (h_p_X8_barOf y1 y2) (fun v2 => (hm_bind (h_p_X8_down y1 y2 v2) (fun v11 => (h_g_X8_keeps_19 v2 v11 0 f_bar f_bits f_made)))))
noncomputable def np_X8_make (f_bar : (Nat → Nat)) (f_bits : (Nat → Nat)) (f_made : (Nat → Nat)) (y1 : Nat) (y2 : Nat) : Option (Nat × ((Nat → Nat) × ((Nat → Nat) × (Nat → Nat)))) :=
  ((np_X8_isM y1).bind fun v1 => (bif neqI v1 0 then some (4294967295, (f_bar, (f_bits, f_made))) else ((np_X8_all y1).bind fun v9 => (bif neqJ (y2 &&& (v9 ^^^ 18446744073709551615)) 0 then ((np_X8_one y1).bind fun v28 => ((np_X8_product y1 v28 y2).bind fun v32 => ((np_X8_keeps f_bar f_bits f_made y1 v32).bind fun v35 => some (v35.1, (v35.2.1, (v35.2.2.1, v35.2.2.2)))))) else some (4294967295, (f_bar, (f_bits, f_made)))))))
theorem h_p_X8_make (f_bar : (Nat → Nat)) (f_bits : (Nat → Nat)) (f_made : (Nat → Nat)) (y1 : Nat) (y2 : Nat) : p_X8_make (nA f_bar) (nB f_bits) (nA f_made) (nI y1) (lN y2) = Option.map (cP nI (cP nA (cP nB nA))) (np_X8_make f_bar f_bits f_made y1 y2) := by
  unfold p_X8_make np_X8_make
  exact (hm_bind (h_p_X8_isM y1) (fun v1 => (hm_if (hc_eqI rfl rfl) rfl (hm_bind (h_p_X8_all y1) (fun v9 => (hm_if (hc_eqJ (ho_andJ rfl (ho_xorJ rfl rfl)) rfl) (hm_bind (h_p_X8_one y1) (fun v28 => (hm_bind (h_p_X8_product y1 v28 y2) (fun v32 => (hm_bind (h_p_X8_keeps f_bar f_bits f_made y1 v32) (fun v35 => rfl)))))) rfl))))))
noncomputable def ne_X8_powers_57 (x1 : Nat) (x3 : Nat) (f_bar : (Nat → Nat)) (f_bits : (Nat → Nat)) (f_made : (Nat → Nat)) : Option (Nat × ((Nat → Nat) × ((Nat → Nat) × (Nat → Nat)))) :=
  ((np_X8_keeps f_bar f_bits f_made x1 x3).bind fun v60 => some (v60.1, (v60.2.1, (v60.2.2.1, v60.2.2.2))))
theorem h_e_X8_powers_57 (x1 : Nat) (x3 : Nat) (f_bar : (Nat → Nat)) (f_bits : (Nat → Nat)) (f_made : (Nat → Nat)) : e_X8_powers_57 (nI x1) (lN x3) (nA f_bar) (nB f_bits) (nA f_made) = Option.map (cP nI (cP nA (cP nB nA))) (ne_X8_powers_57 x1 x3 f_bar f_bits f_made) := by
  unfold e_X8_powers_57 ne_X8_powers_57
  exact (hm_bind (h_p_X8_keeps f_bar f_bits f_made x1 x3) (fun v60 => rfl))
noncomputable def ns_X8_powers_24 (x1 : Nat) (x2 : Nat) (x3 : Nat) (x5 : Nat) (f_bar : (Nat → Nat)) (f_bits : (Nat → Nat)) (f_made : (Nat → Nat)) : Option ((Nat × Nat) ⊕ Nat) :=
  (bif nleI x1 x5 then some (Sum.inr x3) else ((np_X8_isRest x1 x5).bind fun v33 => (bif neqI v33 0 then some (Sum.inl (x3, (x5 + 1))) else ((np_X8_power x1 x5 x2).bind fun v45 => some (Sum.inl ((x3 ||| (njshl 1 v45)), (x5 + 1)))))))
theorem h_s_X8_powers_24 (x1 : Nat) (x2 : Nat) (x3 : Nat) (x5 : Nat) (f_bar : (Nat → Nat)) (f_bits : (Nat → Nat)) (f_made : (Nat → Nat)) : s_X8_powers_24 (nI x1) (nI x2) (lN x3) (nI x5) (nA f_bar) (nB f_bits) (nA f_made) = Option.map (Sum.map (cP lN nI) lN) (ns_X8_powers_24 x1 x2 x3 x5 f_bar f_bits f_made) := by
  unfold s_X8_powers_24 ns_X8_powers_24
  exact (hm_if (hc_leI rfl rfl) rfl (hm_bind (h_p_X8_isRest x1 x5) (fun v33 => (hm_if (hc_eqI rfl rfl) (congrArg some (congrArg Sum.inl (ho_pair rfl (ho_addI rfl rfl)))) (hm_bind (h_p_X8_power x1 x5 x2) (fun v45 => (congrArg some (congrArg Sum.inl (ho_pair (ho_orJ rfl (ho_jshl rfl rfl)) (ho_addI rfl rfl))))))))))
noncomputable def na_X8_powers_24 (x1 : Nat) (f_bar : (Nat → Nat)) (f_bits : (Nat → Nat)) (f_made : (Nat → Nat)) (b : Nat) : Option (Nat × ((Nat → Nat) × ((Nat → Nat) × (Nat → Nat)))) := (fun q : Nat => ne_X8_powers_57 x1 q f_bar f_bits f_made) b
theorem h_a_X8_powers_24 (x1 : Nat) (f_bar : (Nat → Nat)) (f_bits : (Nat → Nat)) (f_made : (Nat → Nat)) (b : Nat) : a_X8_powers_24 (nI x1) (nA f_bar) (nB f_bits) (nA f_made) (lN b) = Option.map (cP nI (cP nA (cP nB nA))) (na_X8_powers_24 x1 f_bar f_bits f_made b) := h_e_X8_powers_57 x1 b f_bar f_bits f_made
noncomputable def ng_X8_powers_24 (x1 : Nat) (x2 : Nat) (x3 : Nat) (x5 : Nat) (f_bar : (Nat → Nat)) (f_bits : (Nat → Nat)) (f_made : (Nat → Nat)) : Option (Nat × ((Nat → Nat) × ((Nat → Nat) × (Nat → Nat)))) := (lpN (fun q : (Nat × Nat) => ns_X8_powers_24 x1 x2 q.1 q.2 f_bar f_bits f_made) pfFU (x3, x5)).bind (na_X8_powers_24 x1 f_bar f_bits f_made)
theorem h_g_X8_powers_24 (x1 : Nat) (x2 : Nat) (x3 : Nat) (x5 : Nat) (f_bar : (Nat → Nat)) (f_bits : (Nat → Nat)) (f_made : (Nat → Nat)) : g_X8_powers_24 (nI x1) (nI x2) (lN x3) (nI x5) (nA f_bar) (nB f_bits) (nA f_made) = Option.map (cP nI (cP nA (cP nB nA))) (ng_X8_powers_24 x1 x2 x3 x5 f_bar f_bits f_made) := by
  unfold g_X8_powers_24 ng_X8_powers_24
  exact hm_bind (lp_hom (cP lN nI) lN (fun q => h_s_X8_powers_24 x1 x2 q.1 q.2 f_bar f_bits f_made) pfFU (x3, x5)) (fun b => h_a_X8_powers_24 x1 f_bar f_bits f_made b)
noncomputable def np_X8_powers (f_bar : (Nat → Nat)) (f_bits : (Nat → Nat)) (f_made : (Nat → Nat)) (y1 : Nat) (y2 : Nat) : Option (Nat × ((Nat → Nat) × ((Nat → Nat) × (Nat → Nat)))) :=
  ((np_X8_isM y1).bind fun v1 => (bif neqI v1 0 then some (4294967295, (f_bar, (f_bits, f_made))) else ((np_X8_isIn y2 1 60).bind fun v11 => (bif neqI v11 0 then some (4294967295, (f_bar, (f_bits, f_made))) else ng_X8_powers_24 y1 y2 0 0 f_bar f_bits f_made))))
theorem h_p_X8_powers (f_bar : (Nat → Nat)) (f_bits : (Nat → Nat)) (f_made : (Nat → Nat)) (y1 : Nat) (y2 : Nat) : p_X8_powers (nA f_bar) (nB f_bits) (nA f_made) (nI y1) (nI y2) = Option.map (cP nI (cP nA (cP nB nA))) (np_X8_powers f_bar f_bits f_made y1 y2) := by
  unfold p_X8_powers np_X8_powers
  exact (hm_bind (h_p_X8_isM y1) (fun v1 => (hm_if (hc_eqI rfl rfl) rfl (hm_bind (h_p_X8_isIn y2 1 60) (fun v11 => (hm_if (hc_eqI rfl rfl) rfl (h_g_X8_powers_24 y1 y2 0 0 f_bar f_bits f_made)))))))
noncomputable def np_X8_isField (f_made : (Nat → Nat)) (y1 : Nat) : Option Nat :=
  ((np_X8_isIn y1 0 (nsubI (f_made (nix 0)) 1)).bind fun v10 => (bif nbool v10 then some v10 else none))
theorem h_p_X8_isField (f_made : (Nat → Nat)) (y1 : Nat) : p_X8_isField (nA f_made) (nI y1) = Option.map nI (np_X8_isField f_made y1) := by
  unfold p_X8_isField np_X8_isField
  exact (hm_bind (Eq.trans (congr (congr (congrArg p_X8_isIn rfl) rfl) (ho_subI (ho_rdI rfl (ho_ix rfl)) rfl)) (h_p_X8_isIn y1 0 (nsubI (f_made (nix 0)) 1))) (fun v10 => (hm_if (hc_bool rfl) rfl rfl)))
noncomputable def np_X8_join (f_bar : (Nat → Nat)) (f_bits : (Nat → Nat)) (f_made : (Nat → Nat)) (y1 : Nat) (y2 : Nat) : Option (Nat × ((Nat → Nat) × ((Nat → Nat) × (Nat → Nat)))) :=
  ((np_X8_isField f_made y1).bind fun v2 => (bif neqI v2 0 then some (4294967295, (f_bar, (f_bits, f_made))) else ((np_X8_isField f_made y2).bind fun v10 => (bif neqI v10 0 then some (4294967295, (f_bar, (f_bits, f_made))) else (bif nain y1 160 then (bif nain y2 160 then ((np_X8_multiple (f_bar (nix y1)) (f_bar (nix y2))).bind fun v28 => (bif nleI v28 63 then (bif nain y1 160 then (bif nain y2 160 then ((np_X8_multiple (f_bar (nix y1)) (f_bar (nix y2))).bind fun v50 => (bif nain y1 160 then (bif nain y1 160 then ((np_X8_up (f_bar (nix y1)) (f_bits (nix y1)) v50).bind fun v69 => (bif nain y2 160 then (bif nain y2 160 then ((np_X8_up (f_bar (nix y2)) (f_bits (nix y2)) v50).bind fun v85 => ((np_X8_keeps f_bar f_bits f_made v50 (v69 &&& v85)).bind fun v89 => some (v89.1, (v89.2.1, (v89.2.2.1, v89.2.2.2))))) else none) else none)) else none) else none)) else none) else none) else some (4294967295, (f_bar, (f_bits, f_made))))) else none) else none)))))
theorem h_p_X8_join (f_bar : (Nat → Nat)) (f_bits : (Nat → Nat)) (f_made : (Nat → Nat)) (y1 : Nat) (y2 : Nat) : p_X8_join (nA f_bar) (nB f_bits) (nA f_made) (nI y1) (nI y2) = Option.map (cP nI (cP nA (cP nB nA))) (np_X8_join f_bar f_bits f_made y1 y2) := by
  unfold p_X8_join np_X8_join
  exact (hm_bind (h_p_X8_isField f_made y1) (fun v2 => (hm_if (hc_eqI rfl rfl) rfl (hm_bind (h_p_X8_isField f_made y2) (fun v10 => (hm_if (hc_eqI rfl rfl) rfl (hm_if (hc_ain rfl) (hm_if (hc_ain rfl) (hm_bind (Eq.trans (congr (congrArg p_X8_multiple (ho_rdI rfl (ho_ix rfl))) (ho_rdI rfl (ho_ix rfl))) (h_p_X8_multiple (f_bar (nix y1)) (f_bar (nix y2)))) (fun v28 => (hm_if (hc_leI rfl rfl) (hm_if (hc_ain rfl) (hm_if (hc_ain rfl) (hm_bind (Eq.trans (congr (congrArg p_X8_multiple (ho_rdI rfl (ho_ix rfl))) (ho_rdI rfl (ho_ix rfl))) (h_p_X8_multiple (f_bar (nix y1)) (f_bar (nix y2)))) (fun v50 => (hm_if (hc_ain rfl) (hm_if (hc_ain rfl) (hm_bind (Eq.trans (congr (congr (congrArg p_X8_up (ho_rdI rfl (ho_ix rfl))) (ho_rdJ rfl (ho_ix rfl))) rfl) (h_p_X8_up (f_bar (nix y1)) (f_bits (nix y1)) v50)) (fun v69 => (hm_if (hc_ain rfl) (hm_if (hc_ain rfl) (hm_bind (Eq.trans (congr (congr (congrArg p_X8_up (ho_rdI rfl (ho_ix rfl))) (ho_rdJ rfl (ho_ix rfl))) rfl) (h_p_X8_up (f_bar (nix y2)) (f_bits (nix y2)) v50)) (fun v85 => (hm_bind (Eq.trans (congr (congr (congr (congr (congrArg p_X8_keeps rfl) rfl) rfl) rfl) (ho_andJ rfl rfl)) (h_p_X8_keeps f_bar f_bits f_made v50 (v69 &&& v85))) (fun v89 => rfl)))) rfl) rfl))) rfl) rfl))) rfl) rfl) rfl))) rfl) rfl)))))))
noncomputable def np_X8_meet (f_bar : (Nat → Nat)) (f_bits : (Nat → Nat)) (f_made : (Nat → Nat)) (y1 : Nat) (y2 : Nat) : Option (Nat × ((Nat → Nat) × ((Nat → Nat) × (Nat → Nat)))) :=
  ((np_X8_isField f_made y1).bind fun v2 => (bif neqI v2 0 then some (4294967295, (f_bar, (f_bits, f_made))) else ((np_X8_isField f_made y2).bind fun v10 => (bif neqI v10 0 then some (4294967295, (f_bar, (f_bits, f_made))) else (bif nain y1 160 then (bif nain y2 160 then ((np_X8_multiple (f_bar (nix y1)) (f_bar (nix y2))).bind fun v28 => (bif nleI v28 63 then (bif nain y1 160 then (bif nain y2 160 then ((np_X8_multiple (f_bar (nix y1)) (f_bar (nix y2))).bind fun v50 => (bif nain y1 160 then (bif nain y1 160 then ((np_X8_up (f_bar (nix y1)) (f_bits (nix y1)) v50).bind fun v70 => (bif nain y2 160 then (bif nain y2 160 then ((np_X8_up (f_bar (nix y2)) (f_bits (nix y2)) v50).bind fun v86 => ((np_X8_product v50 v70 v86).bind fun v89 => ((np_X8_keeps f_bar f_bits f_made v50 v89).bind fun v92 => some (v92.1, (v92.2.1, (v92.2.2.1, v92.2.2.2)))))) else none) else none)) else none) else none)) else none) else none) else some (4294967295, (f_bar, (f_bits, f_made))))) else none) else none)))))
theorem h_p_X8_meet (f_bar : (Nat → Nat)) (f_bits : (Nat → Nat)) (f_made : (Nat → Nat)) (y1 : Nat) (y2 : Nat) : p_X8_meet (nA f_bar) (nB f_bits) (nA f_made) (nI y1) (nI y2) = Option.map (cP nI (cP nA (cP nB nA))) (np_X8_meet f_bar f_bits f_made y1 y2) := by
  unfold p_X8_meet np_X8_meet
  exact (hm_bind (h_p_X8_isField f_made y1) (fun v2 => (hm_if (hc_eqI rfl rfl) rfl (hm_bind (h_p_X8_isField f_made y2) (fun v10 => (hm_if (hc_eqI rfl rfl) rfl (hm_if (hc_ain rfl) (hm_if (hc_ain rfl) (hm_bind (Eq.trans (congr (congrArg p_X8_multiple (ho_rdI rfl (ho_ix rfl))) (ho_rdI rfl (ho_ix rfl))) (h_p_X8_multiple (f_bar (nix y1)) (f_bar (nix y2)))) (fun v28 => (hm_if (hc_leI rfl rfl) (hm_if (hc_ain rfl) (hm_if (hc_ain rfl) (hm_bind (Eq.trans (congr (congrArg p_X8_multiple (ho_rdI rfl (ho_ix rfl))) (ho_rdI rfl (ho_ix rfl))) (h_p_X8_multiple (f_bar (nix y1)) (f_bar (nix y2)))) (fun v50 => (hm_if (hc_ain rfl) (hm_if (hc_ain rfl) (hm_bind (Eq.trans (congr (congr (congrArg p_X8_up (ho_rdI rfl (ho_ix rfl))) (ho_rdJ rfl (ho_ix rfl))) rfl) (h_p_X8_up (f_bar (nix y1)) (f_bits (nix y1)) v50)) (fun v70 => (hm_if (hc_ain rfl) (hm_if (hc_ain rfl) (hm_bind (Eq.trans (congr (congr (congrArg p_X8_up (ho_rdI rfl (ho_ix rfl))) (ho_rdJ rfl (ho_ix rfl))) rfl) (h_p_X8_up (f_bar (nix y2)) (f_bits (nix y2)) v50)) (fun v86 => (hm_bind (h_p_X8_product v50 v70 v86) (fun v89 => (hm_bind (h_p_X8_keeps f_bar f_bits f_made v50 v89) (fun v92 => rfl)))))) rfl) rfl))) rfl) rfl))) rfl) rfl) rfl))) rfl) rfl)))))))
noncomputable def np_X8_liesIn (f_bar : (Nat → Nat)) (f_bits : (Nat → Nat)) (f_made : (Nat → Nat)) (y1 : Nat) (y2 : Nat) : Option Nat :=
  ((np_X8_isField f_made y1).bind fun v2 => (bif neqI v2 0 then some 0 else ((np_X8_isField f_made y2).bind fun v10 => (bif neqI v10 0 then some 0 else (bif nain y2 160 then (bif nain y1 160 then (bif neqI (f_bar (nix y1)) 0 then none else (bif neqI (njrem (f_bar (nix y2)) (f_bar (nix y1))) 0 then (bif nain y2 160 then (bif nain y1 160 then (bif nain y1 160 then (bif nain y2 160 then ((np_X8_up (f_bar (nix y1)) (f_bits (nix y1)) (f_bar (nix y2))).bind fun v58 => (bif neqJ ((f_bits (nix y2)) &&& (v58 ^^^ 18446744073709551615)) 0 then some 1 else some 0)) else none) else none) else none) else none) else some 0)) else none) else none)))))
theorem h_p_X8_liesIn (f_bar : (Nat → Nat)) (f_bits : (Nat → Nat)) (f_made : (Nat → Nat)) (y1 : Nat) (y2 : Nat) : p_X8_liesIn (nA f_bar) (nB f_bits) (nA f_made) (nI y1) (nI y2) = Option.map nI (np_X8_liesIn f_bar f_bits f_made y1 y2) := by
  unfold p_X8_liesIn np_X8_liesIn
  exact (hm_bind (h_p_X8_isField f_made y1) (fun v2 => (hm_if (hc_eqI rfl rfl) rfl (hm_bind (h_p_X8_isField f_made y2) (fun v10 => (hm_if (hc_eqI rfl rfl) rfl (hm_if (hc_ain rfl) (hm_if (hc_ain rfl) (hm_if (hc_eqI (ho_rdI rfl (ho_ix rfl)) rfl) rfl (hm_if (hc_eqI (ho_jrem (ho_rdI rfl (ho_ix rfl)) (ho_rdI rfl (ho_ix rfl))) rfl) (hm_if (hc_ain rfl) (hm_if (hc_ain rfl) (hm_if (hc_ain rfl) (hm_if (hc_ain rfl) (hm_bind (Eq.trans (congr (congr (congrArg p_X8_up (ho_rdI rfl (ho_ix rfl))) (ho_rdJ rfl (ho_ix rfl))) (ho_rdI rfl (ho_ix rfl))) (h_p_X8_up (f_bar (nix y1)) (f_bits (nix y1)) (f_bar (nix y2)))) (fun v58 => (hm_if (hc_eqJ (ho_andJ (ho_rdJ rfl (ho_ix rfl)) (ho_xorJ rfl rfl)) rfl) rfl rfl))) rfl) rfl) rfl) rfl) rfl)) rfl) rfl)))))))
noncomputable def ne_X8_isFound_42 (x3 : Nat) : Option Nat :=
  (bif nbool x3 then some x3 else none)
theorem h_e_X8_isFound_42 (x3 : Nat) : e_X8_isFound_42 (nI x3) = Option.map nI (ne_X8_isFound_42 x3) := by
  unfold e_X8_isFound_42 ne_X8_isFound_42
  exact (hm_if (hc_bool rfl) rfl rfl)
noncomputable def ns_X8_isFound_5 (x1 : Nat) (x3 : Nat) (x4 : Nat) (f_groups : (Nat → Nat)) (f_found : Nat) : Option ((Nat × Nat) ⊕ Nat) :=
  (bif nleI f_found x4 then some (Sum.inr x3) else (bif neqI x3 0 then (bif nain x4 128 then (bif neqJ (f_groups (nix x4)) x1 then some (Sum.inl (1, (x4 + 1))) else some (Sum.inl (0, (x4 + 1)))) else none) else some (Sum.inl (1, (x4 + 1)))))
theorem h_s_X8_isFound_5 (x1 : Nat) (x3 : Nat) (x4 : Nat) (f_groups : (Nat → Nat)) (f_found : Nat) : s_X8_isFound_5 (lN x1) (nI x3) (nI x4) (nB f_groups) (nI f_found) = Option.map (Sum.map (cP nI nI) nI) (ns_X8_isFound_5 x1 x3 x4 f_groups f_found) := by
  unfold s_X8_isFound_5 ns_X8_isFound_5
  exact (hm_if (hc_leI rfl rfl) rfl (hm_if (hc_eqI rfl rfl) (hm_if (hc_ain rfl) (hm_if (hc_eqJ (ho_rdJ rfl (ho_ix rfl)) rfl) (congrArg some (congrArg Sum.inl (ho_pair rfl (ho_addI rfl rfl)))) (congrArg some (congrArg Sum.inl (ho_pair rfl (ho_addI rfl rfl))))) rfl) (congrArg some (congrArg Sum.inl (ho_pair rfl (ho_addI rfl rfl))))))
noncomputable def na_X8_isFound_5 (b : Nat) : Option Nat := (fun q : Nat => ne_X8_isFound_42 q) b
theorem h_a_X8_isFound_5 (b : Nat) : a_X8_isFound_5 (nI b) = Option.map nI (na_X8_isFound_5 b) := h_e_X8_isFound_42 b
noncomputable def ng_X8_isFound_5 (x1 : Nat) (x3 : Nat) (x4 : Nat) (f_groups : (Nat → Nat)) (f_found : Nat) : Option Nat := (lpN (fun q : (Nat × Nat) => ns_X8_isFound_5 x1 q.1 q.2 f_groups f_found) pfFU (x3, x4)).bind (na_X8_isFound_5 )
theorem h_g_X8_isFound_5 (x1 : Nat) (x3 : Nat) (x4 : Nat) (f_groups : (Nat → Nat)) (f_found : Nat) : g_X8_isFound_5 (lN x1) (nI x3) (nI x4) (nB f_groups) (nI f_found) = Option.map nI (ng_X8_isFound_5 x1 x3 x4 f_groups f_found) := by
  unfold g_X8_isFound_5 ng_X8_isFound_5
  exact hm_bind (lp_hom (cP nI nI) nI (fun q => h_s_X8_isFound_5 x1 q.1 q.2 f_groups f_found) pfFU (x3, x4)) (fun b => h_a_X8_isFound_5  b)
noncomputable def np_X8_isFound (f_groups : (Nat → Nat)) (f_found : Nat) (y1 : Nat) : Option Nat :=
  ng_X8_isFound_5 y1 0 0 f_groups f_found
theorem h_p_X8_isFound (f_groups : (Nat → Nat)) (f_found : Nat) (y1 : Nat) : p_X8_isFound (nB f_groups) (nI f_found) (lN y1) = Option.map nI (np_X8_isFound f_groups f_found y1) := by
  unfold p_X8_isFound np_X8_isFound
  exact (h_g_X8_isFound_5 y1 0 0 f_groups f_found)
noncomputable def ne_X8_between_105 (f_groups : (Nat → Nat)) (f_found : Nat) : Option ((Nat → Nat) × Nat) :=
  some (f_groups, f_found)
theorem h_e_X8_between_105 (f_groups : (Nat → Nat)) (f_found : Nat) : e_X8_between_105 (nB f_groups) (nI f_found) = Option.map (cP nB nI) (ne_X8_between_105 f_groups f_found) := by
  unfold e_X8_between_105 ne_X8_between_105
  exact rfl
noncomputable def ne_X8_between_99 (x1 : Nat) (x4 : Nat) (f_groups : (Nat → Nat)) (f_found : Nat) : Option ((Nat × ((Nat → Nat) × Nat)) ⊕ ((Nat → Nat) × Nat)) :=
  some (Sum.inl ((x4 + 1), (f_groups, f_found)))
theorem h_e_X8_between_99 (x1 : Nat) (x4 : Nat) (f_groups : (Nat → Nat)) (f_found : Nat) : e_X8_between_99 (nI x1) (nI x4) (nB f_groups) (nI f_found) = Option.map (Sum.map (cP nI (cP nB nI)) (cP nB nI)) (ne_X8_between_99 x1 x4 f_groups f_found) := by
  unfold e_X8_between_99 ne_X8_between_99
  exact (congrArg some (congrArg Sum.inl (ho_pair (ho_addI rfl rfl) rfl)))
noncomputable def ns_X8_between_27 (x1 : Nat) (x4 : Nat) (x5 : Nat) (f_groups : (Nat → Nat)) (f_found : Nat) : Option ((Nat × ((Nat → Nat) × Nat)) ⊕ ((Nat → Nat) × Nat)) :=
  (bif nleI x1 x5 then some (Sum.inr (f_groups, f_found)) else ((np_X8_isRest x1 x5).bind fun v36 => (bif neqI v36 0 then some (Sum.inl ((x5 + 1), (f_groups, f_found))) else (bif nain x4 128 then ((np_X8_with x1 (f_groups (nix x4)) x5).bind fun v55 => ((np_X8_isFound f_groups f_found v55).bind fun v63 => (bif neqI v63 0 then (bif nain f_found 128 then some (Sum.inl ((x5 + 1), ((nupd f_groups (nix f_found) v55), (f_found + 1)))) else none) else some (Sum.inl ((x5 + 1), (f_groups, f_found)))))) else none))))
theorem h_s_X8_between_27 (x1 : Nat) (x4 : Nat) (x5 : Nat) (f_groups : (Nat → Nat)) (f_found : Nat) : s_X8_between_27 (nI x1) (nI x4) (nI x5) (nB f_groups) (nI f_found) = Option.map (Sum.map (cP nI (cP nB nI)) (cP nB nI)) (ns_X8_between_27 x1 x4 x5 f_groups f_found) := by
  unfold s_X8_between_27 ns_X8_between_27
  exact (hm_if (hc_leI rfl rfl) rfl (hm_bind (h_p_X8_isRest x1 x5) (fun v36 => (hm_if (hc_eqI rfl rfl) (congrArg some (congrArg Sum.inl (ho_pair (ho_addI rfl rfl) rfl))) (hm_if (hc_ain rfl) (hm_bind (Eq.trans (congr (congr (congrArg p_X8_with rfl) (ho_rdJ rfl (ho_ix rfl))) rfl) (h_p_X8_with x1 (f_groups (nix x4)) x5)) (fun v55 => (hm_bind (h_p_X8_isFound f_groups f_found v55) (fun v63 => (hm_if (hc_eqI rfl rfl) (hm_if (hc_ain rfl) (congrArg some (congrArg Sum.inl (ho_pair (ho_addI rfl rfl) (ho_pair (ho_updJ rfl (ho_ix rfl) rfl) (ho_addI rfl rfl))))) rfl) (congrArg some (congrArg Sum.inl (ho_pair (ho_addI rfl rfl) rfl)))))))) rfl)))))
noncomputable def na_X8_between_27 (x1 : Nat) (x4 : Nat) (b : ((Nat → Nat) × Nat)) : Option ((Nat × ((Nat → Nat) × Nat)) ⊕ ((Nat → Nat) × Nat)) := (fun q : ((Nat → Nat) × Nat) => ne_X8_between_99 x1 x4 q.1 q.2) b
theorem h_a_X8_between_27 (x1 : Nat) (x4 : Nat) (b : ((Nat → Nat) × Nat)) : a_X8_between_27 (nI x1) (nI x4) ((cP nB nI) b) = Option.map (Sum.map (cP nI (cP nB nI)) (cP nB nI)) (na_X8_between_27 x1 x4 b) := h_e_X8_between_99 x1 x4 b.1 b.2
noncomputable def ng_X8_between_27 (x1 : Nat) (x4 : Nat) (x5 : Nat) (f_groups : (Nat → Nat)) (f_found : Nat) : Option ((Nat × ((Nat → Nat) × Nat)) ⊕ ((Nat → Nat) × Nat)) := (lpN (fun q : (Nat × ((Nat → Nat) × Nat)) => ns_X8_between_27 x1 x4 q.1 q.2.1 q.2.2) pfFU (x5, f_groups, f_found)).bind (na_X8_between_27 x1 x4)
theorem h_g_X8_between_27 (x1 : Nat) (x4 : Nat) (x5 : Nat) (f_groups : (Nat → Nat)) (f_found : Nat) : g_X8_between_27 (nI x1) (nI x4) (nI x5) (nB f_groups) (nI f_found) = Option.map (Sum.map (cP nI (cP nB nI)) (cP nB nI)) (ng_X8_between_27 x1 x4 x5 f_groups f_found) := by
  unfold g_X8_between_27 ng_X8_between_27
  exact hm_bind (lp_hom (cP nI (cP nB nI)) (cP nB nI) (fun q => h_s_X8_between_27 x1 x4 q.1 q.2.1 q.2.2) pfFU (x5, f_groups, f_found)) (fun b => h_a_X8_between_27 x1 x4 b)
noncomputable def ns_X8_between_15 (x1 : Nat) (x4 : Nat) (f_groups : (Nat → Nat)) (f_found : Nat) : Option ((Nat × ((Nat → Nat) × Nat)) ⊕ ((Nat → Nat) × Nat)) :=
  (bif nleI f_found x4 then some (Sum.inr (f_groups, f_found)) else ng_X8_between_27 x1 x4 0 f_groups f_found)
theorem h_s_X8_between_15 (x1 : Nat) (x4 : Nat) (f_groups : (Nat → Nat)) (f_found : Nat) : s_X8_between_15 (nI x1) (nI x4) (nB f_groups) (nI f_found) = Option.map (Sum.map (cP nI (cP nB nI)) (cP nB nI)) (ns_X8_between_15 x1 x4 f_groups f_found) := by
  unfold s_X8_between_15 ns_X8_between_15
  exact (hm_if (hc_leI rfl rfl) rfl (h_g_X8_between_27 x1 x4 0 f_groups f_found))
noncomputable def na_X8_between_15 (b : ((Nat → Nat) × Nat)) : Option ((Nat → Nat) × Nat) := (fun q : ((Nat → Nat) × Nat) => ne_X8_between_105 q.1 q.2) b
theorem h_a_X8_between_15 (b : ((Nat → Nat) × Nat)) : a_X8_between_15 ((cP nB nI) b) = Option.map (cP nB nI) (na_X8_between_15 b) := h_e_X8_between_105 b.1 b.2
noncomputable def ng_X8_between_15 (x1 : Nat) (x4 : Nat) (f_groups : (Nat → Nat)) (f_found : Nat) : Option ((Nat → Nat) × Nat) := (lpN (fun q : (Nat × ((Nat → Nat) × Nat)) => ns_X8_between_15 x1 q.1 q.2.1 q.2.2) pfFU (x4, f_groups, f_found)).bind (na_X8_between_15 )
theorem h_g_X8_between_15 (x1 : Nat) (x4 : Nat) (f_groups : (Nat → Nat)) (f_found : Nat) : g_X8_between_15 (nI x1) (nI x4) (nB f_groups) (nI f_found) = Option.map (cP nB nI) (ng_X8_between_15 x1 x4 f_groups f_found) := by
  unfold g_X8_between_15 ng_X8_between_15
  exact hm_bind (lp_hom (cP nI (cP nB nI)) (cP nB nI) (fun q => h_s_X8_between_15 x1 q.1 q.2.1 q.2.2) pfFU (x4, f_groups, f_found)) (fun b => h_a_X8_between_15  b)
noncomputable def np_X8_between (f_groups : (Nat → Nat)) (f_found : Nat) (y1 : Nat) (y2 : Nat) : Option ((Nat → Nat) × Nat) :=
  ng_X8_between_15 y1 0 (nupd f_groups (nix 0) y2) 1
theorem h_p_X8_between (f_groups : (Nat → Nat)) (f_found : Nat) (y1 : Nat) (y2 : Nat) : p_X8_between (nB f_groups) (nI f_found) (nI y1) (lN y2) = Option.map (cP nB nI) (np_X8_between f_groups f_found y1 y2) := by
  unfold p_X8_between np_X8_between
  exact (Eq.trans (congr (congr (congr (congrArg g_X8_between_15 rfl) rfl) (ho_updJ rfl (ho_ix rfl) rfl)) rfl) (h_g_X8_between_15 y1 0 (nupd f_groups (nix 0) y2) 1))
noncomputable def np_X8_tell (f_bar : (Nat → Nat)) (f_bits : (Nat → Nat)) (f_made : (Nat → Nat)) (f_groups : (Nat → Nat)) (f_found : Nat) (y1 : Nat) (y2 : Nat) : Option (Nat × ((Nat → Nat) × Nat)) :=
  ((np_X8_isField f_made y1).bind fun v2 => (bif neqI v2 0 then some (4294967287, (f_groups, f_found)) else (bif nain y1 160 then (bif nain y1 160 then (bif neqI y2 0 then some ((f_bar (nix y1)), (f_groups, f_found)) else (bif neqI y2 1 then ((np_X8_degree (f_bar (nix y1)) (f_bits (nix y1))).bind fun v69 => some (v69, (f_groups, f_found))) else (bif neqI y2 2 then ((np_X8_isReal (f_bar (nix y1)) (f_bits (nix y1))).bind fun v76 => (bif neqI v76 0 then some (0, (f_groups, f_found)) else some (1, (f_groups, f_found)))) else (bif neqI y2 3 then ((np_X8_isCyclic (f_bar (nix y1)) (f_bits (nix y1))).bind fun v91 => (bif neqI v91 0 then some (0, (f_groups, f_found)) else some (1, (f_groups, f_found)))) else (bif neqI y2 4 then ((np_X8_isReal (f_bar (nix y1)) (f_bits (nix y1))).bind fun v106 => (bif neqI v106 0 then ((np_X8_degree (f_bar (nix y1)) (f_bits (nix y1))).bind fun v115 => (bif neqI (njrem (ndivI v115 2) 2) 1 then some (4294967295, (f_groups, f_found)) else some (1, (f_groups, f_found)))) else some (1, (f_groups, f_found)))) else (bif neqI y2 5 then ((np_X8_between f_groups f_found (f_bar (nix y1)) (f_bits (nix y1))).bind fun v136 => some (v136.2, (v136.1, v136.2))) else some (4294967287, (f_groups, f_found)))))))) else none) else none)))
theorem h_p_X8_tell (f_bar : (Nat → Nat)) (f_bits : (Nat → Nat)) (f_made : (Nat → Nat)) (f_groups : (Nat → Nat)) (f_found : Nat) (y1 : Nat) (y2 : Nat) : p_X8_tell (nA f_bar) (nB f_bits) (nA f_made) (nB f_groups) (nI f_found) (nI y1) (nI y2) = Option.map (cP nI (cP nB nI)) (np_X8_tell f_bar f_bits f_made f_groups f_found y1 y2) := by
  unfold p_X8_tell np_X8_tell
  exact (hm_bind (h_p_X8_isField f_made y1) (fun v2 => (hm_if (hc_eqI rfl rfl) rfl (hm_if (hc_ain rfl) (hm_if (hc_ain rfl) (hm_if (hc_eqI rfl rfl) (congrArg some (ho_pair (ho_rdI rfl (ho_ix rfl)) rfl)) (hm_if (hc_eqI rfl rfl) (hm_bind (Eq.trans (congr (congrArg p_X8_degree (ho_rdI rfl (ho_ix rfl))) (ho_rdJ rfl (ho_ix rfl))) (h_p_X8_degree (f_bar (nix y1)) (f_bits (nix y1)))) (fun v69 => rfl)) (hm_if (hc_eqI rfl rfl) (hm_bind (Eq.trans (congr (congrArg p_X8_isReal (ho_rdI rfl (ho_ix rfl))) (ho_rdJ rfl (ho_ix rfl))) (h_p_X8_isReal (f_bar (nix y1)) (f_bits (nix y1)))) (fun v76 => (hm_if (hc_eqI rfl rfl) rfl rfl))) (hm_if (hc_eqI rfl rfl) (hm_bind (Eq.trans (congr (congrArg p_X8_isCyclic (ho_rdI rfl (ho_ix rfl))) (ho_rdJ rfl (ho_ix rfl))) (h_p_X8_isCyclic (f_bar (nix y1)) (f_bits (nix y1)))) (fun v91 => (hm_if (hc_eqI rfl rfl) rfl rfl))) (hm_if (hc_eqI rfl rfl) (hm_bind (Eq.trans (congr (congrArg p_X8_isReal (ho_rdI rfl (ho_ix rfl))) (ho_rdJ rfl (ho_ix rfl))) (h_p_X8_isReal (f_bar (nix y1)) (f_bits (nix y1)))) (fun v106 => (hm_if (hc_eqI rfl rfl) (hm_bind (Eq.trans (congr (congrArg p_X8_degree (ho_rdI rfl (ho_ix rfl))) (ho_rdJ rfl (ho_ix rfl))) (h_p_X8_degree (f_bar (nix y1)) (f_bits (nix y1)))) (fun v115 => (hm_if (hc_eqI (ho_jrem (ho_divI rfl rfl) rfl) rfl) rfl rfl))) rfl))) (hm_if (hc_eqI rfl rfl) (hm_bind (Eq.trans (congr (congr (congr (congrArg p_X8_between rfl) rfl) (ho_rdI rfl (ho_ix rfl))) (ho_rdJ rfl (ho_ix rfl))) (h_p_X8_between f_groups f_found (f_bar (nix y1)) (f_bits (nix y1)))) (fun v136 => rfl)) rfl)))))) rfl) rfl))))
noncomputable def np_X8_group (f_bits : (Nat → Nat)) (f_made : (Nat → Nat)) (y1 : Nat) : Option Nat :=
  ((np_X8_isField f_made y1).bind fun v2 => (bif neqI v2 0 then some 18446744073709551615 else (bif nain y1 160 then some (f_bits (nix y1)) else none)))
theorem h_p_X8_group (f_bits : (Nat → Nat)) (f_made : (Nat → Nat)) (y1 : Nat) : p_X8_group (nB f_bits) (nA f_made) (nI y1) = Option.map lN (np_X8_group f_bits f_made y1) := by
  unfold p_X8_group np_X8_group
  exact (hm_bind (h_p_X8_isField f_made y1) (fun v2 => (hm_if (hc_eqI rfl rfl) rfl (hm_if (hc_ain rfl) (congrArg some (ho_rdJ rfl (ho_ix rfl))) rfl))))
noncomputable def ne_X8_parts_132 (x1 : Nat) (x3 : Nat) (x4 : Nat) (x8 : Nat) (x9 : Nat) (f_bits : (Nat → Nat)) : Option Nat :=
  (bif neqI x3 0 then some x8 else (bif neqI x3 1 then some x9 else (bif nain x1 160 then ((np_X8_degree x4 (f_bits (nix x1))).bind fun v159 => (bif neqI (x8 * x9) 0 then none else some (ndivI v159 (x8 * x9)))) else none)))
theorem h_e_X8_parts_132 (x1 : Nat) (x3 : Nat) (x4 : Nat) (x8 : Nat) (x9 : Nat) (f_bits : (Nat → Nat)) : e_X8_parts_132 (nI x1) (nI x3) (nI x4) (nI x8) (nI x9) (nB f_bits) = Option.map nI (ne_X8_parts_132 x1 x3 x4 x8 x9 f_bits) := by
  unfold e_X8_parts_132 ne_X8_parts_132
  exact (hm_if (hc_eqI rfl rfl) rfl (hm_if (hc_eqI rfl rfl) rfl (hm_if (hc_ain rfl) (hm_bind (Eq.trans (congr (congrArg p_X8_degree rfl) (ho_rdJ rfl (ho_ix rfl))) (h_p_X8_degree x4 (f_bits (nix x1)))) (fun v159 => (hm_if (hc_eqI (ho_mulI rfl rfl) rfl) rfl (congrArg some (ho_divI rfl (ho_mulI rfl rfl)))))) rfl)))
noncomputable def ns_X8_parts_100 (x1 : Nat) (x2 : Nat) (x3 : Nat) (x4 : Nat) (x5 : Nat) (x6 : Nat) (x8 : Nat) (x9 : Nat) (x10 : Nat) (f_bits : (Nat → Nat)) : Option ((Nat × Nat) ⊕ Nat) :=
  ((np_X8_isAmong x4 x5 x10 x6).bind fun v108 => (bif neqI v108 0 then (bif neqI x5 0 then none else (bif neqI x5 0 then none else some (Sum.inl ((x9 + 1), (njrem (x10 * (njrem x2 x5)) x5))))) else some (Sum.inr x9)))
theorem h_s_X8_parts_100 (x1 : Nat) (x2 : Nat) (x3 : Nat) (x4 : Nat) (x5 : Nat) (x6 : Nat) (x8 : Nat) (x9 : Nat) (x10 : Nat) (f_bits : (Nat → Nat)) : s_X8_parts_100 (nI x1) (nI x2) (nI x3) (nI x4) (nI x5) (lN x6) (nI x8) (nI x9) (nI x10) (nB f_bits) = Option.map (Sum.map (cP nI nI) nI) (ns_X8_parts_100 x1 x2 x3 x4 x5 x6 x8 x9 x10 f_bits) := by
  unfold s_X8_parts_100 ns_X8_parts_100
  exact (hm_bind (h_p_X8_isAmong x4 x5 x10 x6) (fun v108 => (hm_if (hc_eqI rfl rfl) (hm_if (hc_eqI rfl rfl) rfl (hm_if (hc_eqI rfl rfl) rfl (congrArg some (congrArg Sum.inl (ho_pair (ho_addI rfl rfl) (ho_jrem (ho_mulI rfl (ho_jrem rfl rfl)) rfl)))))) rfl)))
noncomputable def na_X8_parts_100 (x1 : Nat) (x3 : Nat) (x4 : Nat) (x8 : Nat) (f_bits : (Nat → Nat)) (b : Nat) : Option Nat := (fun q : Nat => ne_X8_parts_132 x1 x3 x4 x8 q f_bits) b
theorem h_a_X8_parts_100 (x1 : Nat) (x3 : Nat) (x4 : Nat) (x8 : Nat) (f_bits : (Nat → Nat)) (b : Nat) : a_X8_parts_100 (nI x1) (nI x3) (nI x4) (nI x8) (nB f_bits) (nI b) = Option.map nI (na_X8_parts_100 x1 x3 x4 x8 f_bits b) := h_e_X8_parts_132 x1 x3 x4 x8 b f_bits
noncomputable def ng_X8_parts_100 (x1 : Nat) (x2 : Nat) (x3 : Nat) (x4 : Nat) (x5 : Nat) (x6 : Nat) (x8 : Nat) (x9 : Nat) (x10 : Nat) (f_bits : (Nat → Nat)) : Option Nat := (lpN (fun q : (Nat × Nat) => ns_X8_parts_100 x1 x2 x3 x4 x5 x6 x8 q.1 q.2 f_bits) pfFU (x9, x10)).bind (na_X8_parts_100 x1 x3 x4 x8 f_bits)
theorem h_g_X8_parts_100 (x1 : Nat) (x2 : Nat) (x3 : Nat) (x4 : Nat) (x5 : Nat) (x6 : Nat) (x8 : Nat) (x9 : Nat) (x10 : Nat) (f_bits : (Nat → Nat)) : g_X8_parts_100 (nI x1) (nI x2) (nI x3) (nI x4) (nI x5) (lN x6) (nI x8) (nI x9) (nI x10) (nB f_bits) = Option.map nI (ng_X8_parts_100 x1 x2 x3 x4 x5 x6 x8 x9 x10 f_bits) := by
  unfold g_X8_parts_100 ng_X8_parts_100
  exact hm_bind (lp_hom (cP nI nI) nI (fun q => h_s_X8_parts_100 x1 x2 x3 x4 x5 x6 x8 q.1 q.2 f_bits) pfFU (x9, x10)) (fun b => h_a_X8_parts_100 x1 x3 x4 x8 f_bits b)
noncomputable def ne_X8_parts_54 (x1 : Nat) (x2 : Nat) (x3 : Nat) (x4 : Nat) (x5 : Nat) (f_bits : (Nat → Nat)) : Option Nat :=
  (bif nain x1 160 then ((np_X8_onesBy x4 x5).bind fun v66 => ((np_X8_product x4 (f_bits (nix x1)) v66).bind fun v69 => ((np_X8_many v69).bind fun v76 => (bif nain x1 160 then ((np_X8_many (f_bits (nix x1))).bind fun v85 => (bif neqI v85 0 then none else (bif neqI x5 0 then none else ng_X8_parts_100 x1 x2 x3 x4 x5 v69 (ndivI v76 v85) 1 (njrem x2 x5) f_bits))) else none)))) else none)
theorem h_e_X8_parts_54 (x1 : Nat) (x2 : Nat) (x3 : Nat) (x4 : Nat) (x5 : Nat) (f_bits : (Nat → Nat)) : e_X8_parts_54 (nI x1) (nI x2) (nI x3) (nI x4) (nI x5) (nB f_bits) = Option.map nI (ne_X8_parts_54 x1 x2 x3 x4 x5 f_bits) := by
  unfold e_X8_parts_54 ne_X8_parts_54
  exact (hm_if (hc_ain rfl) (hm_bind (h_p_X8_onesBy x4 x5) (fun v66 => (hm_bind (Eq.trans (congr (congr (congrArg p_X8_product rfl) (ho_rdJ rfl (ho_ix rfl))) rfl) (h_p_X8_product x4 (f_bits (nix x1)) v66)) (fun v69 => (hm_bind (h_p_X8_many v69) (fun v76 => (hm_if (hc_ain rfl) (hm_bind (Eq.trans (congrArg p_X8_many (ho_rdJ rfl (ho_ix rfl))) (h_p_X8_many (f_bits (nix x1)))) (fun v85 => (hm_if (hc_eqI rfl rfl) rfl (hm_if (hc_eqI rfl rfl) rfl (Eq.trans (congr (congr (congr (congr (congr (congr (congr (congr (congr (congrArg g_X8_parts_100 rfl) rfl) rfl) rfl) rfl) rfl) (ho_divI rfl rfl)) rfl) (ho_jrem rfl rfl)) rfl) (h_g_X8_parts_100 x1 x2 x3 x4 x5 v69 (ndivI v76 v85) 1 (njrem x2 x5) f_bits)))))) rfl))))))) rfl)
noncomputable def ns_X8_parts_38 (x1 : Nat) (x2 : Nat) (x3 : Nat) (x4 : Nat) (x5 : Nat) (f_bits : (Nat → Nat)) : Option (Nat ⊕ Nat) :=
  (bif neqI x2 0 then none else (bif neqI (njrem x5 x2) 0 then (bif neqI x2 0 then none else some (Sum.inl (ndivI x5 x2))) else some (Sum.inr x5)))
theorem h_s_X8_parts_38 (x1 : Nat) (x2 : Nat) (x3 : Nat) (x4 : Nat) (x5 : Nat) (f_bits : (Nat → Nat)) : s_X8_parts_38 (nI x1) (nI x2) (nI x3) (nI x4) (nI x5) (nB f_bits) = Option.map (Sum.map nI nI) (ns_X8_parts_38 x1 x2 x3 x4 x5 f_bits) := by
  unfold s_X8_parts_38 ns_X8_parts_38
  exact (hm_if (hc_eqI rfl rfl) rfl (hm_if (hc_eqI (ho_jrem rfl rfl) rfl) (hm_if (hc_eqI rfl rfl) rfl (congrArg some (congrArg Sum.inl (ho_divI rfl rfl)))) rfl))
noncomputable def na_X8_parts_38 (x1 : Nat) (x2 : Nat) (x3 : Nat) (x4 : Nat) (f_bits : (Nat → Nat)) (b : Nat) : Option Nat := (fun q : Nat => ne_X8_parts_54 x1 x2 x3 x4 q f_bits) b
theorem h_a_X8_parts_38 (x1 : Nat) (x2 : Nat) (x3 : Nat) (x4 : Nat) (f_bits : (Nat → Nat)) (b : Nat) : a_X8_parts_38 (nI x1) (nI x2) (nI x3) (nI x4) (nB f_bits) (nI b) = Option.map nI (na_X8_parts_38 x1 x2 x3 x4 f_bits b) := h_e_X8_parts_54 x1 x2 x3 x4 b f_bits
noncomputable def ng_X8_parts_38 (x1 : Nat) (x2 : Nat) (x3 : Nat) (x4 : Nat) (x5 : Nat) (f_bits : (Nat → Nat)) : Option Nat := (lpN (fun q : Nat => ns_X8_parts_38 x1 x2 x3 x4 q f_bits) pfFU x5).bind (na_X8_parts_38 x1 x2 x3 x4 f_bits)
theorem h_g_X8_parts_38 (x1 : Nat) (x2 : Nat) (x3 : Nat) (x4 : Nat) (x5 : Nat) (f_bits : (Nat → Nat)) : g_X8_parts_38 (nI x1) (nI x2) (nI x3) (nI x4) (nI x5) (nB f_bits) = Option.map nI (ng_X8_parts_38 x1 x2 x3 x4 x5 f_bits) := by
  unfold g_X8_parts_38 ng_X8_parts_38
  exact hm_bind (lp_hom nI nI (fun q => h_s_X8_parts_38 x1 x2 x3 x4 q f_bits) pfFU x5) (fun b => h_a_X8_parts_38 x1 x2 x3 x4 f_bits b)
noncomputable def np_X8_parts (f_bar : (Nat → Nat)) (f_bits : (Nat → Nat)) (f_made : (Nat → Nat)) (y1 : Nat) (y2 : Nat) (y3 : Nat) : Option Nat :=
  ((np_X8_isField f_made y1).bind fun v2 => (bif neqI v2 0 then some 4294967295 else ((np_X8_isAsked y2).bind fun v9 => (bif neqI v9 0 then some 4294967295 else ((np_X8_isIn y3 0 2).bind fun v18 => (bif neqI v18 0 then some 4294967295 else (bif nain y1 160 then ng_X8_parts_38 y1 y2 y3 (f_bar (nix y1)) (f_bar (nix y1)) f_bits else none)))))))
theorem h_p_X8_parts (f_bar : (Nat → Nat)) (f_bits : (Nat → Nat)) (f_made : (Nat → Nat)) (y1 : Nat) (y2 : Nat) (y3 : Nat) : p_X8_parts (nA f_bar) (nB f_bits) (nA f_made) (nI y1) (nI y2) (nI y3) = Option.map nI (np_X8_parts f_bar f_bits f_made y1 y2 y3) := by
  unfold p_X8_parts np_X8_parts
  exact (hm_bind (h_p_X8_isField f_made y1) (fun v2 => (hm_if (hc_eqI rfl rfl) rfl (hm_bind (h_p_X8_isAsked y2) (fun v9 => (hm_if (hc_eqI rfl rfl) rfl (hm_bind (h_p_X8_isIn y3 0 2) (fun v18 => (hm_if (hc_eqI rfl rfl) rfl (hm_if (hc_ain rfl) (Eq.trans (congr (congr (congr (congr (congr (congrArg g_X8_parts_38 rfl) rfl) rfl) (ho_rdI rfl (ho_ix rfl))) (ho_rdI rfl (ho_ix rfl))) rfl) (h_g_X8_parts_38 y1 y2 y3 (f_bar (nix y1)) (f_bar (nix y1)) f_bits)) rfl))))))))))
noncomputable def ne_X8_discriminant_125 (x4 : Nat) (f_groups : (Nat → Nat)) (f_found : Nat) : Option (Nat × ((Nat → Nat) × Nat)) :=
  some (x4, (f_groups, f_found))
theorem h_e_X8_discriminant_125 (x4 : Nat) (f_groups : (Nat → Nat)) (f_found : Nat) : e_X8_discriminant_125 (nI x4) (nB f_groups) (nI f_found) = Option.map (cP nI (cP nB nI)) (ne_X8_discriminant_125 x4 f_groups f_found) := by
  unfold e_X8_discriminant_125 ne_X8_discriminant_125
  exact rfl
noncomputable def ne_X8_discriminant_119 (x2 : Nat) (x3 : Nat) (x4 : Nat) (x5 : Nat) (f_groups : (Nat → Nat)) (f_found : Nat) : Option ((Nat × Nat) ⊕ Nat) :=
  some (Sum.inl (x4, (x5 + 1)))
theorem h_e_X8_discriminant_119 (x2 : Nat) (x3 : Nat) (x4 : Nat) (x5 : Nat) (f_groups : (Nat → Nat)) (f_found : Nat) : e_X8_discriminant_119 (nI x2) (nI x3) (nI x4) (nI x5) (nB f_groups) (nI f_found) = Option.map (Sum.map (cP nI nI) nI) (ne_X8_discriminant_119 x2 x3 x4 x5 f_groups f_found) := by
  unfold e_X8_discriminant_119 ne_X8_discriminant_119
  exact (congrArg some (congrArg Sum.inl (ho_pair rfl (ho_addI rfl rfl))))
noncomputable def ns_X8_discriminant_96 (x2 : Nat) (x3 : Nat) (x4 : Nat) (x5 : Nat) (x6 : Nat) (x7 : Nat) (f_groups : (Nat → Nat)) (f_found : Nat) : Option ((Nat × Nat) ⊕ Nat) :=
  (bif neqI x2 0 then none else (bif neqI (njrem x7 x2) 0 then (bif neqI x2 0 then none else some (Sum.inl ((x4 + x6), (ndivI x7 x2)))) else some (Sum.inr x4)))
theorem h_s_X8_discriminant_96 (x2 : Nat) (x3 : Nat) (x4 : Nat) (x5 : Nat) (x6 : Nat) (x7 : Nat) (f_groups : (Nat → Nat)) (f_found : Nat) : s_X8_discriminant_96 (nI x2) (nI x3) (nI x4) (nI x5) (nI x6) (nI x7) (nB f_groups) (nI f_found) = Option.map (Sum.map (cP nI nI) nI) (ns_X8_discriminant_96 x2 x3 x4 x5 x6 x7 f_groups f_found) := by
  unfold s_X8_discriminant_96 ns_X8_discriminant_96
  exact (hm_if (hc_eqI rfl rfl) rfl (hm_if (hc_eqI (ho_jrem rfl rfl) rfl) (hm_if (hc_eqI rfl rfl) rfl (congrArg some (congrArg Sum.inl (ho_pair (ho_addI rfl rfl) (ho_divI rfl rfl))))) rfl))
noncomputable def na_X8_discriminant_96 (x2 : Nat) (x3 : Nat) (x5 : Nat) (f_groups : (Nat → Nat)) (f_found : Nat) (b : Nat) : Option ((Nat × Nat) ⊕ Nat) := (fun q : Nat => ne_X8_discriminant_119 x2 x3 q x5 f_groups f_found) b
theorem h_a_X8_discriminant_96 (x2 : Nat) (x3 : Nat) (x5 : Nat) (f_groups : (Nat → Nat)) (f_found : Nat) (b : Nat) : a_X8_discriminant_96 (nI x2) (nI x3) (nI x5) (nB f_groups) (nI f_found) (nI b) = Option.map (Sum.map (cP nI nI) nI) (na_X8_discriminant_96 x2 x3 x5 f_groups f_found b) := h_e_X8_discriminant_119 x2 x3 b x5 f_groups f_found
noncomputable def ng_X8_discriminant_96 (x2 : Nat) (x3 : Nat) (x4 : Nat) (x5 : Nat) (x6 : Nat) (x7 : Nat) (f_groups : (Nat → Nat)) (f_found : Nat) : Option ((Nat × Nat) ⊕ Nat) := (lpN (fun q : (Nat × Nat) => ns_X8_discriminant_96 x2 x3 q.1 x5 x6 q.2 f_groups f_found) pfFU (x4, x7)).bind (na_X8_discriminant_96 x2 x3 x5 f_groups f_found)
theorem h_g_X8_discriminant_96 (x2 : Nat) (x3 : Nat) (x4 : Nat) (x5 : Nat) (x6 : Nat) (x7 : Nat) (f_groups : (Nat → Nat)) (f_found : Nat) : g_X8_discriminant_96 (nI x2) (nI x3) (nI x4) (nI x5) (nI x6) (nI x7) (nB f_groups) (nI f_found) = Option.map (Sum.map (cP nI nI) nI) (ng_X8_discriminant_96 x2 x3 x4 x5 x6 x7 f_groups f_found) := by
  unfold g_X8_discriminant_96 ng_X8_discriminant_96
  exact hm_bind (lp_hom (cP nI nI) nI (fun q => h_s_X8_discriminant_96 x2 x3 q.1 x5 x6 q.2 f_groups f_found) pfFU (x4, x7)) (fun b => h_a_X8_discriminant_96 x2 x3 x5 f_groups f_found b)
noncomputable def ns_X8_discriminant_41 (x2 : Nat) (x3 : Nat) (x4 : Nat) (x5 : Nat) (f_groups : (Nat → Nat)) (f_found : Nat) : Option ((Nat × Nat) ⊕ Nat) :=
  (bif nleI f_found x5 then some (Sum.inr x4) else (bif nain x5 128 then ((np_X8_isCyclic x3 (f_groups (nix x5))).bind fun v58 => (bif neqI v58 0 then some (Sum.inl (x4, (x5 + 1))) else (bif nain x5 128 then ((np_X8_degree x3 (f_groups (nix x5))).bind fun v75 => ((np_X8_prime0 v75).bind fun v78 => (bif nain x5 128 then ((np_X8_barOf x3 (f_groups (nix x5))).bind fun v91 => ng_X8_discriminant_96 x2 x3 x4 x5 v78 v91 f_groups f_found) else none))) else none))) else none))
theorem h_s_X8_discriminant_41 (x2 : Nat) (x3 : Nat) (x4 : Nat) (x5 : Nat) (f_groups : (Nat → Nat)) (f_found : Nat) : s_X8_discriminant_41 (nI x2) (nI x3) (nI x4) (nI x5) (nB f_groups) (nI f_found) = Option.map (Sum.map (cP nI nI) nI) (ns_X8_discriminant_41 x2 x3 x4 x5 f_groups f_found) := by
  unfold s_X8_discriminant_41 ns_X8_discriminant_41
  exact (hm_if (hc_leI rfl rfl) rfl (hm_if (hc_ain rfl) (hm_bind (Eq.trans (congr (congrArg p_X8_isCyclic rfl) (ho_rdJ rfl (ho_ix rfl))) (h_p_X8_isCyclic x3 (f_groups (nix x5)))) (fun v58 => (hm_if (hc_eqI rfl rfl) (congrArg some (congrArg Sum.inl (ho_pair rfl (ho_addI rfl rfl)))) (hm_if (hc_ain rfl) (hm_bind (Eq.trans (congr (congrArg p_X8_degree rfl) (ho_rdJ rfl (ho_ix rfl))) (h_p_X8_degree x3 (f_groups (nix x5)))) (fun v75 => (hm_bind (h_p_X8_prime0 v75) (fun v78 => (hm_if (hc_ain rfl) (hm_bind (Eq.trans (congr (congrArg p_X8_barOf rfl) (ho_rdJ rfl (ho_ix rfl))) (h_p_X8_barOf x3 (f_groups (nix x5)))) (fun v91 => (h_g_X8_discriminant_96 x2 x3 x4 x5 v78 v91 f_groups f_found))) rfl))))) rfl)))) rfl))
noncomputable def na_X8_discriminant_41 (f_groups : (Nat → Nat)) (f_found : Nat) (b : Nat) : Option (Nat × ((Nat → Nat) × Nat)) := (fun q : Nat => ne_X8_discriminant_125 q f_groups f_found) b
theorem h_a_X8_discriminant_41 (f_groups : (Nat → Nat)) (f_found : Nat) (b : Nat) : a_X8_discriminant_41 (nB f_groups) (nI f_found) (nI b) = Option.map (cP nI (cP nB nI)) (na_X8_discriminant_41 f_groups f_found b) := h_e_X8_discriminant_125 b f_groups f_found
noncomputable def ng_X8_discriminant_41 (x2 : Nat) (x3 : Nat) (x4 : Nat) (x5 : Nat) (f_groups : (Nat → Nat)) (f_found : Nat) : Option (Nat × ((Nat → Nat) × Nat)) := (lpN (fun q : (Nat × Nat) => ns_X8_discriminant_41 x2 x3 q.1 q.2 f_groups f_found) pfFU (x4, x5)).bind (na_X8_discriminant_41 f_groups f_found)
theorem h_g_X8_discriminant_41 (x2 : Nat) (x3 : Nat) (x4 : Nat) (x5 : Nat) (f_groups : (Nat → Nat)) (f_found : Nat) : g_X8_discriminant_41 (nI x2) (nI x3) (nI x4) (nI x5) (nB f_groups) (nI f_found) = Option.map (cP nI (cP nB nI)) (ng_X8_discriminant_41 x2 x3 x4 x5 f_groups f_found) := by
  unfold g_X8_discriminant_41 ng_X8_discriminant_41
  exact hm_bind (lp_hom (cP nI nI) nI (fun q => h_s_X8_discriminant_41 x2 x3 q.1 q.2 f_groups f_found) pfFU (x4, x5)) (fun b => h_a_X8_discriminant_41 f_groups f_found b)
noncomputable def np_X8_discriminant (f_bar : (Nat → Nat)) (f_bits : (Nat → Nat)) (f_made : (Nat → Nat)) (f_groups : (Nat → Nat)) (f_found : Nat) (y1 : Nat) (y2 : Nat) : Option (Nat × ((Nat → Nat) × Nat)) :=
  ((np_X8_isField f_made y1).bind fun v2 => (bif neqI v2 0 then some (4294967295, (f_groups, f_found)) else ((np_X8_isAsked y2).bind fun v9 => (bif neqI v9 0 then some (4294967295, (f_groups, f_found)) else (bif nain y1 160 then (bif nain y1 160 then ((np_X8_between f_groups f_found (f_bar (nix y1)) (f_bits (nix y1))).bind fun v32 => ng_X8_discriminant_41 y2 (f_bar (nix y1)) 0 0 v32.1 v32.2) else none) else none)))))
theorem h_p_X8_discriminant (f_bar : (Nat → Nat)) (f_bits : (Nat → Nat)) (f_made : (Nat → Nat)) (f_groups : (Nat → Nat)) (f_found : Nat) (y1 : Nat) (y2 : Nat) : p_X8_discriminant (nA f_bar) (nB f_bits) (nA f_made) (nB f_groups) (nI f_found) (nI y1) (nI y2) = Option.map (cP nI (cP nB nI)) (np_X8_discriminant f_bar f_bits f_made f_groups f_found y1 y2) := by
  unfold p_X8_discriminant np_X8_discriminant
  exact (hm_bind (h_p_X8_isField f_made y1) (fun v2 => (hm_if (hc_eqI rfl rfl) rfl (hm_bind (h_p_X8_isAsked y2) (fun v9 => (hm_if (hc_eqI rfl rfl) rfl (hm_if (hc_ain rfl) (hm_if (hc_ain rfl) (hm_bind (Eq.trans (congr (congr (congr (congrArg p_X8_between rfl) rfl) (ho_rdI rfl (ho_ix rfl))) (ho_rdJ rfl (ho_ix rfl))) (h_p_X8_between f_groups f_found (f_bar (nix y1)) (f_bits (nix y1)))) (fun v32 => (Eq.trans (congr (congr (congr (congr (congr (congrArg g_X8_discriminant_41 rfl) (ho_rdI rfl (ho_ix rfl))) rfl) rfl) rfl) rfl) (h_g_X8_discriminant_41 y2 (f_bar (nix y1)) 0 0 v32.1 v32.2)))) rfl) rfl)))))))
noncomputable def ne_X8_passes_154 (f_groups : (Nat → Nat)) (f_found : Nat) (f_passed : Nat) (f_looked : Nat) : Option ((Nat → Nat) × (Nat × (Nat × Nat))) :=
  some (f_groups, (f_found, (f_passed, f_looked)))
theorem h_e_X8_passes_154 (f_groups : (Nat → Nat)) (f_found : Nat) (f_passed : Nat) (f_looked : Nat) : e_X8_passes_154 (nB f_groups) (nI f_found) (nI f_passed) (lN f_looked) = Option.map (cP nB (cP nI (cP nI lN))) (ne_X8_passes_154 f_groups f_found f_passed f_looked) := by
  unfold e_X8_passes_154 ne_X8_passes_154
  exact rfl
noncomputable def ne_X8_passes_101 (x1 : Nat) (x2 : Nat) (x3 : Nat) (x4 : Nat) (x7 : Nat) (f_groups : (Nat → Nat)) (f_found : Nat) (f_passed : Nat) (f_looked : Nat) : Option ((Nat × (Nat × (Nat × Nat))) ⊕ (Nat × Nat)) :=
  (bif nltJ x7 0 then some (Sum.inl (x4, (0, (f_passed, f_looked)))) else (bif neqI f_passed x3 then some (Sum.inl (x7, (1, ((f_passed + 1), x7)))) else some (Sum.inl (x7, (1, ((f_passed + 1), f_looked))))))
theorem h_e_X8_passes_101 (x1 : Nat) (x2 : Nat) (x3 : Nat) (x4 : Nat) (x7 : Nat) (f_groups : (Nat → Nat)) (f_found : Nat) (f_passed : Nat) (f_looked : Nat) : e_X8_passes_101 (nI x1) (nI x2) (nI x3) (lN x4) (lN x7) (nB f_groups) (nI f_found) (nI f_passed) (lN f_looked) = Option.map (Sum.map (cP lN (cP nI (cP nI lN))) (cP nI lN)) (ne_X8_passes_101 x1 x2 x3 x4 x7 f_groups f_found f_passed f_looked) := by
  unfold e_X8_passes_101 ne_X8_passes_101
  exact (hm_if (hc_ltJ rfl rfl) rfl (hm_if (hc_eqI rfl rfl) (congrArg some (congrArg Sum.inl (ho_pair rfl (ho_pair rfl (ho_pair (ho_addI rfl rfl) rfl))))) (congrArg some (congrArg Sum.inl (ho_pair rfl (ho_pair rfl (ho_pair (ho_addI rfl rfl) rfl)))))))
noncomputable def ns_X8_passes_30 (x1 : Nat) (x2 : Nat) (x3 : Nat) (x4 : Nat) (x7 : Nat) (x9 : Nat) (f_groups : (Nat → Nat)) (f_found : Nat) (f_passed : Nat) (f_looked : Nat) : Option ((Nat × Nat) ⊕ Nat) :=
  (bif nleI f_found x9 then some (Sum.inr x7) else (bif nain x9 128 then (bif nleJ (f_groups (nix x9)) x4 then some (Sum.inl (x7, (x9 + 1))) else (bif nltJ x7 0 then ((np_X8_degree x2 (f_groups (nix x9))).bind fun v74 => (bif neqI v74 x1 then ((np_X8_barOf x2 (f_groups (nix x9))).bind fun v84 => (bif neqI v84 x2 then some (Sum.inl ((f_groups (nix x9)), (x9 + 1))) else some (Sum.inl (x7, (x9 + 1))))) else some (Sum.inl (x7, (x9 + 1))))) else (bif nleJ x7 (f_groups (nix x9)) then some (Sum.inl (x7, (x9 + 1))) else ((np_X8_degree x2 (f_groups (nix x9))).bind fun v74 => (bif neqI v74 x1 then ((np_X8_barOf x2 (f_groups (nix x9))).bind fun v84 => (bif neqI v84 x2 then some (Sum.inl ((f_groups (nix x9)), (x9 + 1))) else some (Sum.inl (x7, (x9 + 1))))) else some (Sum.inl (x7, (x9 + 1)))))))) else none))
theorem h_s_X8_passes_30 (x1 : Nat) (x2 : Nat) (x3 : Nat) (x4 : Nat) (x7 : Nat) (x9 : Nat) (f_groups : (Nat → Nat)) (f_found : Nat) (f_passed : Nat) (f_looked : Nat) : s_X8_passes_30 (nI x1) (nI x2) (nI x3) (lN x4) (lN x7) (nI x9) (nB f_groups) (nI f_found) (nI f_passed) (lN f_looked) = Option.map (Sum.map (cP lN nI) lN) (ns_X8_passes_30 x1 x2 x3 x4 x7 x9 f_groups f_found f_passed f_looked) := by
  unfold s_X8_passes_30 ns_X8_passes_30
  exact (hm_if (hc_leI rfl rfl) rfl (hm_if (hc_ain rfl) (hm_if (hc_leJ (ho_rdJ rfl (ho_ix rfl)) rfl) (congrArg some (congrArg Sum.inl (ho_pair rfl (ho_addI rfl rfl)))) (hm_if (hc_ltJ rfl rfl) (hm_bind (Eq.trans (congr (congrArg p_X8_degree rfl) (ho_rdJ rfl (ho_ix rfl))) (h_p_X8_degree x2 (f_groups (nix x9)))) (fun v74 => (hm_if (hc_eqI rfl rfl) (hm_bind (Eq.trans (congr (congrArg p_X8_barOf rfl) (ho_rdJ rfl (ho_ix rfl))) (h_p_X8_barOf x2 (f_groups (nix x9)))) (fun v84 => (hm_if (hc_eqI rfl rfl) (congrArg some (congrArg Sum.inl (ho_pair (ho_rdJ rfl (ho_ix rfl)) (ho_addI rfl rfl)))) (congrArg some (congrArg Sum.inl (ho_pair rfl (ho_addI rfl rfl))))))) (congrArg some (congrArg Sum.inl (ho_pair rfl (ho_addI rfl rfl))))))) (hm_if (hc_leJ rfl (ho_rdJ rfl (ho_ix rfl))) (congrArg some (congrArg Sum.inl (ho_pair rfl (ho_addI rfl rfl)))) (hm_bind (Eq.trans (congr (congrArg p_X8_degree rfl) (ho_rdJ rfl (ho_ix rfl))) (h_p_X8_degree x2 (f_groups (nix x9)))) (fun v74 => (hm_if (hc_eqI rfl rfl) (hm_bind (Eq.trans (congr (congrArg p_X8_barOf rfl) (ho_rdJ rfl (ho_ix rfl))) (h_p_X8_barOf x2 (f_groups (nix x9)))) (fun v84 => (hm_if (hc_eqI rfl rfl) (congrArg some (congrArg Sum.inl (ho_pair (ho_rdJ rfl (ho_ix rfl)) (ho_addI rfl rfl)))) (congrArg some (congrArg Sum.inl (ho_pair rfl (ho_addI rfl rfl))))))) (congrArg some (congrArg Sum.inl (ho_pair rfl (ho_addI rfl rfl)))))))))) rfl))
