noncomputable def ne_X8_count_41 (x1 : Nat) (x2 : Nat) (f_made : (Nat → Nat)) : Option Nat :=
  (bif neqI x1 0 then some (f_made (nix 0)) else (bif neqI x1 1 then some x2 else some 4294967295))
theorem h_e_X8_count_41 (x1 : Nat) (x2 : Nat) (f_made : (Nat → Nat)) : e_X8_count_41 (nI x1) (nI x2) (nA f_made) = Option.map nI (ne_X8_count_41 x1 x2 f_made) := by
  unfold e_X8_count_41 ne_X8_count_41
  exact (hm_if (hc_eqI rfl rfl) (congrArg some (ho_rdI rfl (ho_ix rfl))) (hm_if (hc_eqI rfl rfl) rfl rfl))
noncomputable def ns_X8_count_4 (x1 : Nat) (x2 : Nat) (x3 : Nat) (f_bar : (Nat → Nat)) (f_made : (Nat → Nat)) : Option ((Nat × Nat) ⊕ Nat) :=
  (bif nleI (f_made (nix 0)) x3 then some (Sum.inr x2) else (bif nain x3 160 then (bif nleI (f_bar (nix x3)) x2 then some (Sum.inl (x2, (x3 + 1))) else (bif nain x3 160 then some (Sum.inl ((f_bar (nix x3)), (x3 + 1))) else none)) else none))
theorem h_s_X8_count_4 (x1 : Nat) (x2 : Nat) (x3 : Nat) (f_bar : (Nat → Nat)) (f_made : (Nat → Nat)) : s_X8_count_4 (nI x1) (nI x2) (nI x3) (nA f_bar) (nA f_made) = Option.map (Sum.map (cP nI nI) nI) (ns_X8_count_4 x1 x2 x3 f_bar f_made) := by
  unfold s_X8_count_4 ns_X8_count_4
  exact (hm_if (hc_leI (ho_rdI rfl (ho_ix rfl)) rfl) rfl (hm_if (hc_ain rfl) (hm_if (hc_leI (ho_rdI rfl (ho_ix rfl)) rfl) (congrArg some (congrArg Sum.inl (ho_pair rfl (ho_addI rfl rfl)))) (hm_if (hc_ain rfl) (congrArg some (congrArg Sum.inl (ho_pair (ho_rdI rfl (ho_ix rfl)) (ho_addI rfl rfl)))) rfl)) rfl))
noncomputable def na_X8_count_4 (x1 : Nat) (f_made : (Nat → Nat)) (b : Nat) : Option Nat := (fun q : Nat => ne_X8_count_41 x1 q f_made) b
theorem h_a_X8_count_4 (x1 : Nat) (f_made : (Nat → Nat)) (b : Nat) : a_X8_count_4 (nI x1) (nA f_made) (nI b) = Option.map nI (na_X8_count_4 x1 f_made b) := h_e_X8_count_41 x1 b f_made
noncomputable def ng_X8_count_4 (x1 : Nat) (x2 : Nat) (x3 : Nat) (f_bar : (Nat → Nat)) (f_made : (Nat → Nat)) : Option Nat := (lpN (fun q : (Nat × Nat) => ns_X8_count_4 x1 q.1 q.2 f_bar f_made) pfFU (x2, x3)).bind (na_X8_count_4 x1 f_made)
theorem h_g_X8_count_4 (x1 : Nat) (x2 : Nat) (x3 : Nat) (f_bar : (Nat → Nat)) (f_made : (Nat → Nat)) : g_X8_count_4 (nI x1) (nI x2) (nI x3) (nA f_bar) (nA f_made) = Option.map nI (ng_X8_count_4 x1 x2 x3 f_bar f_made) := by
  unfold g_X8_count_4 ng_X8_count_4
  exact hm_bind (lp_hom (cP nI nI) nI (fun q => h_s_X8_count_4 x1 q.1 q.2 f_bar f_made) pfFU (x2, x3)) (fun b => h_a_X8_count_4 x1 f_made b)
noncomputable def np_X8_count (f_bar : (Nat → Nat)) (f_made : (Nat → Nat)) (y1 : Nat) : Option Nat :=
  ng_X8_count_4 y1 0 0 f_bar f_made
theorem h_p_X8_count (f_bar : (Nat → Nat)) (f_made : (Nat → Nat)) (y1 : Nat) : p_X8_count (nA f_bar) (nA f_made) (nI y1) = Option.map nI (np_X8_count f_bar f_made y1) := by
  unfold p_X8_count np_X8_count
  exact (h_g_X8_count_4 y1 0 0 f_bar f_made)
noncomputable def np_X8_clear (f_made : (Nat → Nat)) : Option (Nat → Nat) :=
  some (nupd f_made (nix 0) 0)
theorem h_p_X8_clear (f_made : (Nat → Nat)) : p_X8_clear (nA f_made) = Option.map nA (np_X8_clear f_made) := by
  unfold p_X8_clear np_X8_clear
  exact (congrArg some (ho_updI rfl (ho_ix rfl) rfl))
noncomputable def ne_X8_image_84 (f_bar : (Nat → Nat)) (f_bits : (Nat → Nat)) (f_made : (Nat → Nat)) (f_has : (Nat → Nat)) : Option (Nat × ((Nat → Nat) × ((Nat → Nat) × ((Nat → Nat) × (Nat → Nat))))) :=
  some (1, (f_bar, (f_bits, (f_made, f_has))))
theorem h_e_X8_image_84 (f_bar : (Nat → Nat)) (f_bits : (Nat → Nat)) (f_made : (Nat → Nat)) (f_has : (Nat → Nat)) : e_X8_image_84 (nA f_bar) (nB f_bits) (nA f_made) (nA f_has) = Option.map (cP nI (cP nA (cP nB (cP nA nA)))) (ne_X8_image_84 f_bar f_bits f_made f_has) := by
  unfold e_X8_image_84 ne_X8_image_84
  exact rfl
noncomputable def ns_X8_image_34 (x1 : Nat) (x2 : Nat) (f_bar : (Nat → Nat)) (f_bits : (Nat → Nat)) (f_made : (Nat → Nat)) (f_has : (Nat → Nat)) : Option ((Nat × ((Nat → Nat) × (Nat → Nat))) ⊕ ((Nat → Nat) × (Nat → Nat))) :=
  (bif nleI 40 x2 then some (Sum.inr (f_bar, f_bits)) else (bif nain x2 160 then (bif nain ((40 * (x1 + 1)) + x2) 160 then (bif nain x2 160 then (bif nain ((40 * (x1 + 1)) + x2) 160 then some (Sum.inl ((x2 + 1), ((nupd f_bar (nix ((40 * (x1 + 1)) + x2)) (f_bar (nix x2))), (nupd f_bits (nix ((40 * (x1 + 1)) + x2)) (f_bits (nix x2)))))) else none) else none) else none) else none))
theorem h_s_X8_image_34 (x1 : Nat) (x2 : Nat) (f_bar : (Nat → Nat)) (f_bits : (Nat → Nat)) (f_made : (Nat → Nat)) (f_has : (Nat → Nat)) : s_X8_image_34 (nI x1) (nI x2) (nA f_bar) (nB f_bits) (nA f_made) (nA f_has) = Option.map (Sum.map (cP nI (cP nA nB)) (cP nA nB)) (ns_X8_image_34 x1 x2 f_bar f_bits f_made f_has) := by
  unfold s_X8_image_34 ns_X8_image_34
  exact (hm_if (hc_leI rfl rfl) rfl (hm_if (hc_ain rfl) (hm_if (hc_ain (ho_addI (ho_mulI rfl (ho_addI rfl rfl)) rfl)) (hm_if (hc_ain rfl) (hm_if (hc_ain (ho_addI (ho_mulI rfl (ho_addI rfl rfl)) rfl)) (congrArg some (congrArg Sum.inl (ho_pair (ho_addI rfl rfl) (ho_pair (ho_updI rfl (ho_ix (ho_addI (ho_mulI rfl (ho_addI rfl rfl)) rfl)) (ho_rdI rfl (ho_ix rfl))) (ho_updJ rfl (ho_ix (ho_addI (ho_mulI rfl (ho_addI rfl rfl)) rfl)) (ho_rdJ rfl (ho_ix rfl))))))) rfl) rfl) rfl) rfl))
noncomputable def na_X8_image_34 (f_made : (Nat → Nat)) (f_has : (Nat → Nat)) (b : ((Nat → Nat) × (Nat → Nat))) : Option (Nat × ((Nat → Nat) × ((Nat → Nat) × ((Nat → Nat) × (Nat → Nat))))) := (fun q : ((Nat → Nat) × (Nat → Nat)) => ne_X8_image_84 q.1 q.2 f_made f_has) b
theorem h_a_X8_image_34 (f_made : (Nat → Nat)) (f_has : (Nat → Nat)) (b : ((Nat → Nat) × (Nat → Nat))) : a_X8_image_34 (nA f_made) (nA f_has) ((cP nA nB) b) = Option.map (cP nI (cP nA (cP nB (cP nA nA)))) (na_X8_image_34 f_made f_has b) := h_e_X8_image_84 b.1 b.2 f_made f_has
noncomputable def ng_X8_image_34 (x1 : Nat) (x2 : Nat) (f_bar : (Nat → Nat)) (f_bits : (Nat → Nat)) (f_made : (Nat → Nat)) (f_has : (Nat → Nat)) : Option (Nat × ((Nat → Nat) × ((Nat → Nat) × ((Nat → Nat) × (Nat → Nat))))) := (lpN (fun q : (Nat × ((Nat → Nat) × (Nat → Nat))) => ns_X8_image_34 x1 q.1 q.2.1 q.2.2 f_made f_has) pfFU (x2, f_bar, f_bits)).bind (na_X8_image_34 f_made f_has)
theorem h_g_X8_image_34 (x1 : Nat) (x2 : Nat) (f_bar : (Nat → Nat)) (f_bits : (Nat → Nat)) (f_made : (Nat → Nat)) (f_has : (Nat → Nat)) : g_X8_image_34 (nI x1) (nI x2) (nA f_bar) (nB f_bits) (nA f_made) (nA f_has) = Option.map (cP nI (cP nA (cP nB (cP nA nA)))) (ng_X8_image_34 x1 x2 f_bar f_bits f_made f_has) := by
  unfold g_X8_image_34 ng_X8_image_34
  exact hm_bind (lp_hom (cP nI (cP nA nB)) (cP nA nB) (fun q => h_s_X8_image_34 x1 q.1 q.2.1 q.2.2 f_made f_has) pfFU (x2, f_bar, f_bits)) (fun b => h_a_X8_image_34 f_made f_has b)
noncomputable def np_X8_image (f_bar : (Nat → Nat)) (f_bits : (Nat → Nat)) (f_made : (Nat → Nat)) (f_has : (Nat → Nat)) (y1 : Nat) : Option (Nat × ((Nat → Nat) × ((Nat → Nat) × ((Nat → Nat) × (Nat → Nat))))) :=
  ((np_X8_isIn y1 0 2).bind fun v3 => (bif neqI v3 0 then some (0, (f_bar, (f_bits, (f_made, f_has)))) else (bif nain y1 3 then (bif nain (y1 + 1) 4 then ng_X8_image_34 y1 0 f_bar f_bits (nupd f_made (nix (y1 + 1)) (f_made (nix 0))) (nupd f_has (nix y1) (nnarZ 1)) else none) else none)))
theorem h_p_X8_image (f_bar : (Nat → Nat)) (f_bits : (Nat → Nat)) (f_made : (Nat → Nat)) (f_has : (Nat → Nat)) (y1 : Nat) : p_X8_image (nA f_bar) (nB f_bits) (nA f_made) (nA f_has) (nI y1) = Option.map (cP nI (cP nA (cP nB (cP nA nA)))) (np_X8_image f_bar f_bits f_made f_has y1) := by
  unfold p_X8_image np_X8_image
  exact (hm_bind (h_p_X8_isIn y1 0 2) (fun v3 => (hm_if (hc_eqI rfl rfl) rfl (hm_if (hc_ain rfl) (hm_if (hc_ain (ho_addI rfl rfl)) (Eq.trans (congr (congr (congr (congr (congr (congrArg g_X8_image_34 rfl) rfl) rfl) rfl) (ho_updI rfl (ho_ix (ho_addI rfl rfl)) (ho_rdI rfl (ho_ix rfl)))) (ho_updI rfl (ho_ix rfl) (ho_narZ rfl))) (h_g_X8_image_34 y1 0 f_bar f_bits (nupd f_made (nix (y1 + 1)) (f_made (nix 0))) (nupd f_has (nix y1) (nnarZ 1)))) rfl) rfl))))
noncomputable def ne_X8_again_86 (f_bar : (Nat → Nat)) (f_bits : (Nat → Nat)) (f_made : (Nat → Nat)) : Option (Nat × ((Nat → Nat) × ((Nat → Nat) × (Nat → Nat)))) :=
  some (1, (f_bar, (f_bits, f_made)))
theorem h_e_X8_again_86 (f_bar : (Nat → Nat)) (f_bits : (Nat → Nat)) (f_made : (Nat → Nat)) : e_X8_again_86 (nA f_bar) (nB f_bits) (nA f_made) = Option.map (cP nI (cP nA (cP nB nA))) (ne_X8_again_86 f_bar f_bits f_made) := by
  unfold e_X8_again_86 ne_X8_again_86
  exact rfl
noncomputable def ns_X8_again_36 (x1 : Nat) (x2 : Nat) (f_bar : (Nat → Nat)) (f_bits : (Nat → Nat)) (f_made : (Nat → Nat)) : Option ((Nat × ((Nat → Nat) × (Nat → Nat))) ⊕ ((Nat → Nat) × (Nat → Nat))) :=
  (bif nleI 40 x2 then some (Sum.inr (f_bar, f_bits)) else (bif nain ((40 * (x1 + 1)) + x2) 160 then (bif nain x2 160 then (bif nain ((40 * (x1 + 1)) + x2) 160 then (bif nain x2 160 then some (Sum.inl ((x2 + 1), ((nupd f_bar (nix x2) (f_bar (nix ((40 * (x1 + 1)) + x2)))), (nupd f_bits (nix x2) (f_bits (nix ((40 * (x1 + 1)) + x2))))))) else none) else none) else none) else none))
theorem h_s_X8_again_36 (x1 : Nat) (x2 : Nat) (f_bar : (Nat → Nat)) (f_bits : (Nat → Nat)) (f_made : (Nat → Nat)) : s_X8_again_36 (nI x1) (nI x2) (nA f_bar) (nB f_bits) (nA f_made) = Option.map (Sum.map (cP nI (cP nA nB)) (cP nA nB)) (ns_X8_again_36 x1 x2 f_bar f_bits f_made) := by
  unfold s_X8_again_36 ns_X8_again_36
  exact (hm_if (hc_leI rfl rfl) rfl (hm_if (hc_ain (ho_addI (ho_mulI rfl (ho_addI rfl rfl)) rfl)) (hm_if (hc_ain rfl) (hm_if (hc_ain (ho_addI (ho_mulI rfl (ho_addI rfl rfl)) rfl)) (hm_if (hc_ain rfl) (congrArg some (congrArg Sum.inl (ho_pair (ho_addI rfl rfl) (ho_pair (ho_updI rfl (ho_ix rfl) (ho_rdI rfl (ho_ix (ho_addI (ho_mulI rfl (ho_addI rfl rfl)) rfl)))) (ho_updJ rfl (ho_ix rfl) (ho_rdJ rfl (ho_ix (ho_addI (ho_mulI rfl (ho_addI rfl rfl)) rfl)))))))) rfl) rfl) rfl) rfl))
noncomputable def na_X8_again_36 (f_made : (Nat → Nat)) (b : ((Nat → Nat) × (Nat → Nat))) : Option (Nat × ((Nat → Nat) × ((Nat → Nat) × (Nat → Nat)))) := (fun q : ((Nat → Nat) × (Nat → Nat)) => ne_X8_again_86 q.1 q.2 f_made) b
theorem h_a_X8_again_36 (f_made : (Nat → Nat)) (b : ((Nat → Nat) × (Nat → Nat))) : a_X8_again_36 (nA f_made) ((cP nA nB) b) = Option.map (cP nI (cP nA (cP nB nA))) (na_X8_again_36 f_made b) := h_e_X8_again_86 b.1 b.2 f_made
noncomputable def ng_X8_again_36 (x1 : Nat) (x2 : Nat) (f_bar : (Nat → Nat)) (f_bits : (Nat → Nat)) (f_made : (Nat → Nat)) : Option (Nat × ((Nat → Nat) × ((Nat → Nat) × (Nat → Nat)))) := (lpN (fun q : (Nat × ((Nat → Nat) × (Nat → Nat))) => ns_X8_again_36 x1 q.1 q.2.1 q.2.2 f_made) pfFU (x2, f_bar, f_bits)).bind (na_X8_again_36 f_made)
theorem h_g_X8_again_36 (x1 : Nat) (x2 : Nat) (f_bar : (Nat → Nat)) (f_bits : (Nat → Nat)) (f_made : (Nat → Nat)) : g_X8_again_36 (nI x1) (nI x2) (nA f_bar) (nB f_bits) (nA f_made) = Option.map (cP nI (cP nA (cP nB nA))) (ng_X8_again_36 x1 x2 f_bar f_bits f_made) := by
  unfold g_X8_again_36 ng_X8_again_36
  exact hm_bind (lp_hom (cP nI (cP nA nB)) (cP nA nB) (fun q => h_s_X8_again_36 x1 q.1 q.2.1 q.2.2 f_made) pfFU (x2, f_bar, f_bits)) (fun b => h_a_X8_again_36 f_made b)
noncomputable def np_X8_again (f_bar : (Nat → Nat)) (f_bits : (Nat → Nat)) (f_made : (Nat → Nat)) (f_has : (Nat → Nat)) (y1 : Nat) : Option (Nat × ((Nat → Nat) × ((Nat → Nat) × (Nat → Nat)))) :=
  ((np_X8_isIn y1 0 2).bind fun v3 => (bif neqI v3 0 then some (0, (f_bar, (f_bits, f_made))) else (bif nain y1 3 then (bif neqI (f_has (nix y1)) 0 then some (0, (f_bar, (f_bits, f_made))) else (bif nain (y1 + 1) 4 then ng_X8_again_36 y1 0 f_bar f_bits (nupd f_made (nix 0) (f_made (nix (y1 + 1)))) else none)) else none)))
theorem h_p_X8_again (f_bar : (Nat → Nat)) (f_bits : (Nat → Nat)) (f_made : (Nat → Nat)) (f_has : (Nat → Nat)) (y1 : Nat) : p_X8_again (nA f_bar) (nB f_bits) (nA f_made) (nA f_has) (nI y1) = Option.map (cP nI (cP nA (cP nB nA))) (np_X8_again f_bar f_bits f_made f_has y1) := by
  unfold p_X8_again np_X8_again
  exact (hm_bind (h_p_X8_isIn y1 0 2) (fun v3 => (hm_if (hc_eqI rfl rfl) rfl (hm_if (hc_ain rfl) (hm_if (hc_eqI (ho_rdI rfl (ho_ix rfl)) rfl) rfl (hm_if (hc_ain (ho_addI rfl rfl)) (Eq.trans (congr (congr (congr (congr (congrArg g_X8_again_36 rfl) rfl) rfl) rfl) (ho_updI rfl (ho_ix rfl) (ho_rdI rfl (ho_ix (ho_addI rfl rfl))))) (h_g_X8_again_36 y1 0 f_bar f_bits (nupd f_made (nix 0) (f_made (nix (y1 + 1)))))) rfl)) rfl))))
