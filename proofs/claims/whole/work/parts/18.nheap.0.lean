noncomputable def np_X0_size (f_size : Nat) : Option Nat :=
  some f_size
theorem h_p_X0_size (f_size : Nat) : p_X0_size (nI f_size) = Option.map nI (np_X0_size f_size) := by
  unfold p_X0_size np_X0_size
  exact rfl
noncomputable def np_X0_at (f_found : (Nat → Nat)) (f_size : Nat) (y1 : Nat) : Option Nat :=
  (bif nltI y1 0 then some 0 else (bif nleI f_size y1 then some 0 else (bif nleI 64 y1 then some 0 else (bif nain y1 64 then some (f_found (nix y1)) else none))))
theorem h_p_X0_at (f_found : (Nat → Nat)) (f_size : Nat) (y1 : Nat) : p_X0_at (nB f_found) (nI f_size) (nI y1) = Option.map lN (np_X0_at f_found f_size y1) := by
  unfold p_X0_at np_X0_at
  exact (hm_if (hc_ltI rfl rfl) rfl (hm_if (hc_leI rfl rfl) rfl (hm_if (hc_leI rfl rfl) rfl (hm_if (hc_ain rfl) (congrArg some (ho_rdJ rfl (ho_ix rfl))) rfl))))
noncomputable def ne_X0_add_34 (x1 : Nat) (f_found : (Nat → Nat)) (f_size : Nat) : Option ((Nat → Nat) × Nat) :=
  (bif nltI f_size 0 then some (f_found, f_size) else (bif nleI 64 f_size then some (f_found, f_size) else (bif nain f_size 64 then some ((nupd f_found (nix f_size) x1), (f_size + 1)) else none)))
theorem h_e_X0_add_34 (x1 : Nat) (f_found : (Nat → Nat)) (f_size : Nat) : e_X0_add_34 (lN x1) (nB f_found) (nI f_size) = Option.map (cP nB nI) (ne_X0_add_34 x1 f_found f_size) := by
  unfold e_X0_add_34 ne_X0_add_34
  exact (hm_if (hc_ltI rfl rfl) rfl (hm_if (hc_leI rfl rfl) rfl (hm_if (hc_ain rfl) (congrArg some (ho_pair (ho_updJ rfl (ho_ix rfl) rfl) (ho_addI rfl rfl))) rfl)))
noncomputable def ne_X0_add_27 (f_found : (Nat → Nat)) (f_size : Nat) : Option ((Nat → Nat) × Nat) :=
  some (f_found, f_size)
theorem h_e_X0_add_27 (f_found : (Nat → Nat)) (f_size : Nat) : e_X0_add_27 (nB f_found) (nI f_size) = Option.map (cP nB nI) (ne_X0_add_27 f_found f_size) := by
  unfold e_X0_add_27 ne_X0_add_27
  exact rfl
noncomputable def ns_X0_add_2 (x1 : Nat) (x3 : Nat) (f_found : (Nat → Nat)) (f_size : Nat) : Option (Nat ⊕ (Unit ⊕ Unit)) :=
  (bif nleI f_size x3 then some (Sum.inr (Sum.inr ())) else (bif nleI 64 x3 then some (Sum.inr (Sum.inr ())) else (bif nain x3 64 then (bif neqJ (f_found (nix x3)) x1 then some (Sum.inr (Sum.inl ())) else some (Sum.inl (x3 + 1))) else none)))
theorem h_s_X0_add_2 (x1 : Nat) (x3 : Nat) (f_found : (Nat → Nat)) (f_size : Nat) : s_X0_add_2 (lN x1) (nI x3) (nB f_found) (nI f_size) = Option.map (Sum.map nI (Sum.map id id)) (ns_X0_add_2 x1 x3 f_found f_size) := by
  unfold s_X0_add_2 ns_X0_add_2
  exact (hm_if (hc_leI rfl rfl) rfl (hm_if (hc_leI rfl rfl) rfl (hm_if (hc_ain rfl) (hm_if (hc_eqJ (ho_rdJ rfl (ho_ix rfl)) rfl) rfl (congrArg some (congrArg Sum.inl (ho_addI rfl rfl)))) rfl)))
noncomputable def na_X0_add_2 (x1 : Nat) (f_found : (Nat → Nat)) (f_size : Nat) (b : (Unit ⊕ Unit)) : Option ((Nat → Nat) × Nat) := Sum.elim (fun q : Unit => ne_X0_add_27 f_found f_size) (fun q : Unit => ne_X0_add_34 x1 f_found f_size) b
theorem h_a_X0_add_2 (x1 : Nat) (f_found : (Nat → Nat)) (f_size : Nat) (b : (Unit ⊕ Unit)) : a_X0_add_2 (lN x1) (nB f_found) (nI f_size) ((Sum.map id id) b) = Option.map (cP nB nI) (na_X0_add_2 x1 f_found f_size b) := by
  cases b with
  | inl q => exact h_e_X0_add_27 f_found f_size
  | inr q => exact h_e_X0_add_34 x1 f_found f_size
noncomputable def ng_X0_add_2 (x1 : Nat) (x3 : Nat) (f_found : (Nat → Nat)) (f_size : Nat) : Option ((Nat → Nat) × Nat) := (lpN (fun q : Nat => ns_X0_add_2 x1 q f_found f_size) pfFU x3).bind (na_X0_add_2 x1 f_found f_size)
theorem h_g_X0_add_2 (x1 : Nat) (x3 : Nat) (f_found : (Nat → Nat)) (f_size : Nat) : g_X0_add_2 (lN x1) (nI x3) (nB f_found) (nI f_size) = Option.map (cP nB nI) (ng_X0_add_2 x1 x3 f_found f_size) := by
  unfold g_X0_add_2 ng_X0_add_2
  exact hm_bind (lp_hom nI (Sum.map id id) (fun q => h_s_X0_add_2 x1 q f_found f_size) pfFU x3) (fun b => h_a_X0_add_2 x1 f_found f_size b)
noncomputable def np_X0_add (f_found : (Nat → Nat)) (f_size : Nat) (y1 : Nat) : Option ((Nat → Nat) × Nat) :=
  ng_X0_add_2 y1 0 f_found f_size
theorem h_p_X0_add (f_found : (Nat → Nat)) (f_size : Nat) (y1 : Nat) : p_X0_add (nB f_found) (nI f_size) (lN y1) = Option.map (cP nB nI) (np_X0_add f_found f_size y1) := by
  unfold p_X0_add np_X0_add
  exact (h_g_X0_add_2 y1 0 f_found f_size)
noncomputable def ne_X0_addNextTo_64 (f_found : (Nat → Nat)) (f_size : Nat) : Option ((Nat → Nat) × Nat) :=
  some (f_found, f_size)
theorem h_e_X0_addNextTo_64 (f_found : (Nat → Nat)) (f_size : Nat) : e_X0_addNextTo_64 (nB f_found) (nI f_size) = Option.map (cP nB nI) (ne_X0_addNextTo_64 f_found f_size) := by
  unfold e_X0_addNextTo_64 ne_X0_addNextTo_64
  exact rfl
noncomputable def ns_X0_addNextTo_15 (x1 : Nat) (x3 : Nat) (x4 : Nat) (x6 : Nat) (f_found : (Nat → Nat)) (f_size : Nat) : Option ((Nat × (Nat × ((Nat → Nat) × Nat))) ⊕ ((Nat → Nat) × Nat)) :=
  (bif nleI x3 x6 then some (Sum.inr (f_found, f_size)) else ((np_X3_has x4 x6).bind fun v25 => (bif neqI v25 0 then some (Sum.inl (x4, ((x6 + 1), (f_found, f_size)))) else ((np_X3_with x1 x6 x3).bind fun v36 => ((np_X0_add f_found f_size v36).bind fun v39 => ((np_X3_times x1 x6 x3).bind fun v48 => some (Sum.inl ((x4 &&& (v48 ^^^ 18446744073709551615)), ((x6 + 1), (v39.1, v39.2))))))))))
theorem h_s_X0_addNextTo_15 (x1 : Nat) (x3 : Nat) (x4 : Nat) (x6 : Nat) (f_found : (Nat → Nat)) (f_size : Nat) : s_X0_addNextTo_15 (lN x1) (nI x3) (lN x4) (nI x6) (nB f_found) (nI f_size) = Option.map (Sum.map (cP lN (cP nI (cP nB nI))) (cP nB nI)) (ns_X0_addNextTo_15 x1 x3 x4 x6 f_found f_size) := by
  unfold s_X0_addNextTo_15 ns_X0_addNextTo_15
  exact (hm_if (hc_leI rfl rfl) rfl (hm_bind (h_p_X3_has x4 x6) (fun v25 => (hm_if (hc_eqI rfl rfl) (congrArg some (congrArg Sum.inl (ho_pair rfl (ho_pair (ho_addI rfl rfl) rfl)))) (hm_bind (h_p_X3_with x1 x6 x3) (fun v36 => (hm_bind (h_p_X0_add f_found f_size v36) (fun v39 => (hm_bind (h_p_X3_times x1 x6 x3) (fun v48 => (congrArg some (congrArg Sum.inl (ho_pair (ho_andJ rfl (ho_xorJ rfl rfl)) (ho_pair (ho_addI rfl rfl) rfl))))))))))))))
noncomputable def na_X0_addNextTo_15 (b : ((Nat → Nat) × Nat)) : Option ((Nat → Nat) × Nat) := (fun q : ((Nat → Nat) × Nat) => ne_X0_addNextTo_64 q.1 q.2) b
theorem h_a_X0_addNextTo_15 (b : ((Nat → Nat) × Nat)) : a_X0_addNextTo_15 ((cP nB nI) b) = Option.map (cP nB nI) (na_X0_addNextTo_15 b) := h_e_X0_addNextTo_64 b.1 b.2
noncomputable def ng_X0_addNextTo_15 (x1 : Nat) (x3 : Nat) (x4 : Nat) (x6 : Nat) (f_found : (Nat → Nat)) (f_size : Nat) : Option ((Nat → Nat) × Nat) := (lpN (fun q : (Nat × (Nat × ((Nat → Nat) × Nat))) => ns_X0_addNextTo_15 x1 x3 q.1 q.2.1 q.2.2.1 q.2.2.2) pfFU (x4, x6, f_found, f_size)).bind (na_X0_addNextTo_15 )
theorem h_g_X0_addNextTo_15 (x1 : Nat) (x3 : Nat) (x4 : Nat) (x6 : Nat) (f_found : (Nat → Nat)) (f_size : Nat) : g_X0_addNextTo_15 (lN x1) (nI x3) (lN x4) (nI x6) (nB f_found) (nI f_size) = Option.map (cP nB nI) (ng_X0_addNextTo_15 x1 x3 x4 x6 f_found f_size) := by
  unfold g_X0_addNextTo_15 ng_X0_addNextTo_15
  exact hm_bind (lp_hom (cP lN (cP nI (cP nB nI))) (cP nB nI) (fun q => h_s_X0_addNextTo_15 x1 x3 q.1 q.2.1 q.2.2.1 q.2.2.2) pfFU (x4, x6, f_found, f_size)) (fun b => h_a_X0_addNextTo_15  b)
noncomputable def np_X0_addNextTo (f_found : (Nat → Nat)) (f_size : Nat) (y1 : Nat) (y3 : Nat) : Option ((Nat → Nat) × Nat) :=
  ((np_X3_all y3).bind fun v1 => ng_X0_addNextTo_15 y1 y3 (v1 &&& (y1 ^^^ 18446744073709551615)) 0 f_found f_size)
theorem h_p_X0_addNextTo (f_found : (Nat → Nat)) (f_size : Nat) (y1 : Nat) (y3 : Nat) : p_X0_addNextTo (nB f_found) (nI f_size) (lN y1) (nI y3) = Option.map (cP nB nI) (np_X0_addNextTo f_found f_size y1 y3) := by
  unfold p_X0_addNextTo np_X0_addNextTo
  exact (hm_bind (h_p_X3_all y3) (fun v1 => (Eq.trans (congr (congr (congr (congr (congr (congrArg g_X0_addNextTo_15 rfl) rfl) (ho_andJ rfl (ho_xorJ rfl rfl))) rfl) rfl) rfl) (h_g_X0_addNextTo_15 y1 y3 (v1 &&& (y1 ^^^ 18446744073709551615)) 0 f_found f_size))))
noncomputable def ne_X0_find_47 (f_found : (Nat → Nat)) (f_size : Nat) : Option ((Nat → Nat) × Nat) :=
  some (f_found, f_size)
theorem h_e_X0_find_47 (f_found : (Nat → Nat)) (f_size : Nat) : e_X0_find_47 (nB f_found) (nI f_size) = Option.map (cP nB nI) (ne_X0_find_47 f_found f_size) := by
  unfold e_X0_find_47 ne_X0_find_47
  exact rfl
noncomputable def ns_X0_find_13 (x3 : Nat) (x4 : Nat) (f_found : (Nat → Nat)) (f_size : Nat) : Option ((Nat × ((Nat → Nat) × Nat)) ⊕ ((Nat → Nat) × Nat)) :=
  (bif nleI f_size x4 then some (Sum.inr (f_found, f_size)) else (bif nleI 64 x4 then some (Sum.inr (f_found, f_size)) else (bif nain x4 64 then ((np_X0_addNextTo f_found f_size (f_found (nix x4)) x3).bind fun v38 => some (Sum.inl ((x4 + 1), (v38.1, v38.2)))) else none)))
theorem h_s_X0_find_13 (x3 : Nat) (x4 : Nat) (f_found : (Nat → Nat)) (f_size : Nat) : s_X0_find_13 (nI x3) (nI x4) (nB f_found) (nI f_size) = Option.map (Sum.map (cP nI (cP nB nI)) (cP nB nI)) (ns_X0_find_13 x3 x4 f_found f_size) := by
  unfold s_X0_find_13 ns_X0_find_13
  exact (hm_if (hc_leI rfl rfl) rfl (hm_if (hc_leI rfl rfl) rfl (hm_if (hc_ain rfl) (hm_bind (Eq.trans (congr (congr (congr (congrArg p_X0_addNextTo rfl) rfl) (ho_rdJ rfl (ho_ix rfl))) rfl) (h_p_X0_addNextTo f_found f_size (f_found (nix x4)) x3)) (fun v38 => (congrArg some (congrArg Sum.inl (ho_pair (ho_addI rfl rfl) rfl))))) rfl)))
noncomputable def na_X0_find_13 (b : ((Nat → Nat) × Nat)) : Option ((Nat → Nat) × Nat) := (fun q : ((Nat → Nat) × Nat) => ne_X0_find_47 q.1 q.2) b
theorem h_a_X0_find_13 (b : ((Nat → Nat) × Nat)) : a_X0_find_13 ((cP nB nI) b) = Option.map (cP nB nI) (na_X0_find_13 b) := h_e_X0_find_47 b.1 b.2
noncomputable def ng_X0_find_13 (x3 : Nat) (x4 : Nat) (f_found : (Nat → Nat)) (f_size : Nat) : Option ((Nat → Nat) × Nat) := (lpN (fun q : (Nat × ((Nat → Nat) × Nat)) => ns_X0_find_13 x3 q.1 q.2.1 q.2.2) pfFU (x4, f_found, f_size)).bind (na_X0_find_13 )
theorem h_g_X0_find_13 (x3 : Nat) (x4 : Nat) (f_found : (Nat → Nat)) (f_size : Nat) : g_X0_find_13 (nI x3) (nI x4) (nB f_found) (nI f_size) = Option.map (cP nB nI) (ng_X0_find_13 x3 x4 f_found f_size) := by
  unfold g_X0_find_13 ng_X0_find_13
  exact hm_bind (lp_hom (cP nI (cP nB nI)) (cP nB nI) (fun q => h_s_X0_find_13 x3 q.1 q.2.1 q.2.2) pfFU (x4, f_found, f_size)) (fun b => h_a_X0_find_13  b)
noncomputable def np_X0_find (f_found : (Nat → Nat)) (f_size : Nat) (y1 : Nat) (y3 : Nat) : Option ((Nat → Nat) × Nat) :=
  ((np_X0_add f_found 0 y1).bind fun v7 => ng_X0_find_13 y3 0 v7.1 v7.2)
theorem h_p_X0_find (f_found : (Nat → Nat)) (f_size : Nat) (y1 : Nat) (y3 : Nat) : p_X0_find (nB f_found) (nI f_size) (lN y1) (nI y3) = Option.map (cP nB nI) (np_X0_find f_found f_size y1 y3) := by
  unfold p_X0_find np_X0_find
  exact (hm_bind (h_p_X0_add f_found 0 y1) (fun v7 => (h_g_X0_find_13 y3 0 v7.1 v7.2)))
noncomputable def np_X2_add (f_lengths : (Nat → Nat)) (f_size : Nat) (y1 : Nat) : Option ((Nat → Nat) × Nat) :=
  (bif nltI f_size 0 then some (f_lengths, f_size) else (bif nleI 4 f_size then some (f_lengths, f_size) else (bif nain f_size 4 then some ((nupd f_lengths (nix f_size) y1), (f_size + 1)) else none)))
theorem h_p_X2_add (f_lengths : (Nat → Nat)) (f_size : Nat) (y1 : Nat) : p_X2_add (nA f_lengths) (nI f_size) (nI y1) = Option.map (cP nA nI) (np_X2_add f_lengths f_size y1) := by
  unfold p_X2_add np_X2_add
  exact (hm_if (hc_ltI rfl rfl) rfl (hm_if (hc_leI rfl rfl) rfl (hm_if (hc_ain rfl) (congrArg some (ho_pair (ho_updI rfl (ho_ix rfl) rfl) (ho_addI rfl rfl))) rfl)))
noncomputable def np_X2_addThoseBy (f_lengths : (Nat → Nat)) (f_size : Nat) (y1 : Nat) (y2 : Nat) : Option ((Nat → Nat) × Nat) :=
  ((np_X3_all y2).bind fun v1 => ((np_X3_size v1).bind fun v4 => (bif neqI y1 2 then (bif nleI y2 4 then ((np_X2_add f_lengths f_size v4).bind fun v37 => some (v37.1, v37.2)) else ((np_X2_add f_lengths f_size 2).bind fun v20 => ((np_X6_quotient v4 2).bind fun v26 => ((np_X2_add v20.1 v20.2 v26).bind fun v29 => some (v29.1, v29.2))))) else ((np_X2_add f_lengths f_size v4).bind fun v37 => some (v37.1, v37.2)))))
theorem h_p_X2_addThoseBy (f_lengths : (Nat → Nat)) (f_size : Nat) (y1 : Nat) (y2 : Nat) : p_X2_addThoseBy (nA f_lengths) (nI f_size) (nI y1) (nI y2) = Option.map (cP nA nI) (np_X2_addThoseBy f_lengths f_size y1 y2) := by
  unfold p_X2_addThoseBy np_X2_addThoseBy
  exact (hm_bind (h_p_X3_all y2) (fun v1 => (hm_bind (h_p_X3_size v1) (fun v4 => (hm_if (hc_eqI rfl rfl) (hm_if (hc_leI rfl rfl) (hm_bind (h_p_X2_add f_lengths f_size v4) (fun v37 => rfl)) (hm_bind (h_p_X2_add f_lengths f_size 2) (fun v20 => (hm_bind (h_p_X6_quotient v4 2) (fun v26 => (hm_bind (h_p_X2_add v20.1 v20.2 v26) (fun v29 => rfl))))))) (hm_bind (h_p_X2_add f_lengths f_size v4) (fun v37 => rfl)))))))
noncomputable def np_X2_split (f_lengths : (Nat → Nat)) (y1 : Nat) (y2 : Nat) : Option (Nat → Nat) :=
  (bif nltI y1 0 then some f_lengths else (bif nltI y2 0 then some f_lengths else (bif nleI 4 y1 then some f_lengths else (bif nltI y2 4 then (bif nain y1 4 then (bif nain y2 4 then ((np_X6_greatestDivisor (f_lengths (nix y1)) (f_lengths (nix y2))).bind fun v31 => (bif nain y1 4 then (bif nain y2 4 then ((np_X6_leastMultiple (f_lengths (nix y1)) (f_lengths (nix y2))).bind fun v47 => (bif nain y1 4 then (bif nain y2 4 then some (nupd (nupd f_lengths (nix y1) v31) (nix y2) v47) else none) else none)) else none) else none)) else none) else none) else some f_lengths))))
theorem h_p_X2_split (f_lengths : (Nat → Nat)) (y1 : Nat) (y2 : Nat) : p_X2_split (nA f_lengths) (nI y1) (nI y2) = Option.map nA (np_X2_split f_lengths y1 y2) := by
  unfold p_X2_split np_X2_split
  exact (hm_if (hc_ltI rfl rfl) rfl (hm_if (hc_ltI rfl rfl) rfl (hm_if (hc_leI rfl rfl) rfl (hm_if (hc_ltI rfl rfl) (hm_if (hc_ain rfl) (hm_if (hc_ain rfl) (hm_bind (Eq.trans (congr (congrArg p_X6_greatestDivisor (ho_rdI rfl (ho_ix rfl))) (ho_rdI rfl (ho_ix rfl))) (h_p_X6_greatestDivisor (f_lengths (nix y1)) (f_lengths (nix y2)))) (fun v31 => (hm_if (hc_ain rfl) (hm_if (hc_ain rfl) (hm_bind (Eq.trans (congr (congrArg p_X6_leastMultiple (ho_rdI rfl (ho_ix rfl))) (ho_rdI rfl (ho_ix rfl))) (h_p_X6_leastMultiple (f_lengths (nix y1)) (f_lengths (nix y2)))) (fun v47 => (hm_if (hc_ain rfl) (hm_if (hc_ain rfl) (congrArg some (ho_updI (ho_updI rfl (ho_ix rfl) rfl) (ho_ix rfl) rfl)) rfl) rfl))) rfl) rfl))) rfl) rfl) rfl))))
noncomputable def ne_X2_find_87 (f_lengths : (Nat → Nat)) (f_size : Nat) : Option ((Nat → Nat) × Nat) :=
  some (f_lengths, f_size)
theorem h_e_X2_find_87 (f_lengths : (Nat → Nat)) (f_size : Nat) : e_X2_find_87 (nA f_lengths) (nI f_size) = Option.map (cP nA nI) (ne_X2_find_87 f_lengths f_size) := by
  unfold e_X2_find_87 ne_X2_find_87
  exact rfl
noncomputable def ne_X2_find_81 (x2 : Nat) (f_lengths : (Nat → Nat)) (f_size : Nat) : Option ((Nat × (Nat → Nat)) ⊕ (Nat → Nat)) :=
  some (Sum.inl ((x2 + 1), f_lengths))
theorem h_e_X2_find_81 (x2 : Nat) (f_lengths : (Nat → Nat)) (f_size : Nat) : e_X2_find_81 (nI x2) (nA f_lengths) (nI f_size) = Option.map (Sum.map (cP nI nA) nA) (ne_X2_find_81 x2 f_lengths f_size) := by
  unfold e_X2_find_81 ne_X2_find_81
  exact (congrArg some (congrArg Sum.inl (ho_pair (ho_addI rfl rfl) rfl)))
noncomputable def ns_X2_find_61 (x2 : Nat) (x3 : Nat) (f_lengths : (Nat → Nat)) (f_size : Nat) : Option ((Nat × (Nat → Nat)) ⊕ (Nat → Nat)) :=
  (bif nleI f_size x3 then some (Sum.inr f_lengths) else ((np_X2_split f_lengths x2 x3).bind fun v72 => some (Sum.inl ((x3 + 1), v72))))
theorem h_s_X2_find_61 (x2 : Nat) (x3 : Nat) (f_lengths : (Nat → Nat)) (f_size : Nat) : s_X2_find_61 (nI x2) (nI x3) (nA f_lengths) (nI f_size) = Option.map (Sum.map (cP nI nA) nA) (ns_X2_find_61 x2 x3 f_lengths f_size) := by
  unfold s_X2_find_61 ns_X2_find_61
  exact (hm_if (hc_leI rfl rfl) rfl (hm_bind (h_p_X2_split f_lengths x2 x3) (fun v72 => (congrArg some (congrArg Sum.inl (ho_pair (ho_addI rfl rfl) rfl))))))
noncomputable def na_X2_find_61 (x2 : Nat) (f_size : Nat) (b : (Nat → Nat)) : Option ((Nat × (Nat → Nat)) ⊕ (Nat → Nat)) := (fun q : (Nat → Nat) => ne_X2_find_81 x2 q f_size) b
theorem h_a_X2_find_61 (x2 : Nat) (f_size : Nat) (b : (Nat → Nat)) : a_X2_find_61 (nI x2) (nI f_size) (nA b) = Option.map (Sum.map (cP nI nA) nA) (na_X2_find_61 x2 f_size b) := h_e_X2_find_81 x2 b f_size
noncomputable def ng_X2_find_61 (x2 : Nat) (x3 : Nat) (f_lengths : (Nat → Nat)) (f_size : Nat) : Option ((Nat × (Nat → Nat)) ⊕ (Nat → Nat)) := (lpN (fun q : (Nat × (Nat → Nat)) => ns_X2_find_61 x2 q.1 q.2 f_size) pfFU (x3, f_lengths)).bind (na_X2_find_61 x2 f_size)
theorem h_g_X2_find_61 (x2 : Nat) (x3 : Nat) (f_lengths : (Nat → Nat)) (f_size : Nat) : g_X2_find_61 (nI x2) (nI x3) (nA f_lengths) (nI f_size) = Option.map (Sum.map (cP nI nA) nA) (ng_X2_find_61 x2 x3 f_lengths f_size) := by
  unfold g_X2_find_61 ng_X2_find_61
  exact hm_bind (lp_hom (cP nI nA) nA (fun q => h_s_X2_find_61 x2 q.1 q.2 f_size) pfFU (x3, f_lengths)) (fun b => h_a_X2_find_61 x2 f_size b)
noncomputable def ns_X2_find_49 (x2 : Nat) (f_lengths : (Nat → Nat)) (f_size : Nat) : Option ((Nat × (Nat → Nat)) ⊕ (Nat → Nat)) :=
  (bif nleI f_size x2 then some (Sum.inr f_lengths) else ng_X2_find_61 x2 (x2 + 1) f_lengths f_size)
theorem h_s_X2_find_49 (x2 : Nat) (f_lengths : (Nat → Nat)) (f_size : Nat) : s_X2_find_49 (nI x2) (nA f_lengths) (nI f_size) = Option.map (Sum.map (cP nI nA) nA) (ns_X2_find_49 x2 f_lengths f_size) := by
  unfold s_X2_find_49 ns_X2_find_49
  exact (hm_if (hc_leI rfl rfl) rfl (Eq.trans (congr (congr (congr (congrArg g_X2_find_61 rfl) (ho_addI rfl rfl)) rfl) rfl) (h_g_X2_find_61 x2 (x2 + 1) f_lengths f_size)))
noncomputable def na_X2_find_49 (f_size : Nat) (b : (Nat → Nat)) : Option ((Nat → Nat) × Nat) := (fun q : (Nat → Nat) => ne_X2_find_87 q f_size) b
theorem h_a_X2_find_49 (f_size : Nat) (b : (Nat → Nat)) : a_X2_find_49 (nI f_size) (nA b) = Option.map (cP nA nI) (na_X2_find_49 f_size b) := h_e_X2_find_87 b f_size
noncomputable def ng_X2_find_49 (x2 : Nat) (f_lengths : (Nat → Nat)) (f_size : Nat) : Option ((Nat → Nat) × Nat) := (lpN (fun q : (Nat × (Nat → Nat)) => ns_X2_find_49 q.1 q.2 f_size) pfFU (x2, f_lengths)).bind (na_X2_find_49 f_size)
theorem h_g_X2_find_49 (x2 : Nat) (f_lengths : (Nat → Nat)) (f_size : Nat) : g_X2_find_49 (nI x2) (nA f_lengths) (nI f_size) = Option.map (cP nA nI) (ng_X2_find_49 x2 f_lengths f_size) := by
  unfold g_X2_find_49 ng_X2_find_49
  exact hm_bind (lp_hom (cP nI nA) nA (fun q => h_s_X2_find_49 q.1 q.2 f_size) pfFU (x2, f_lengths)) (fun b => h_a_X2_find_49 f_size b)
noncomputable def ne_X2_find_47 (f_lengths : (Nat → Nat)) (f_size : Nat) : Option ((Nat → Nat) × Nat) :=
  ng_X2_find_49 0 f_lengths f_size
theorem h_e_X2_find_47 (f_lengths : (Nat → Nat)) (f_size : Nat) : e_X2_find_47 (nA f_lengths) (nI f_size) = Option.map (cP nA nI) (ne_X2_find_47 f_lengths f_size) := by
  unfold e_X2_find_47 ne_X2_find_47
  exact (h_g_X2_find_49 0 f_lengths f_size)
noncomputable def ns_X2_find_7 (x1 : Nat) (x2 : Nat) (f_lengths : (Nat → Nat)) (f_size : Nat) : Option ((Nat × ((Nat → Nat) × Nat)) ⊕ ((Nat → Nat) × Nat)) :=
  (bif nltI x1 x2 then some (Sum.inr (f_lengths, f_size)) else ((np_X6_goesInto x2 x1).bind fun v14 => (bif neqI v14 0 then some (Sum.inl ((x2 + 1), (f_lengths, f_size))) else ((np_X6_isPrime x2).bind fun v21 => (bif neqI v21 0 then some (Sum.inl ((x2 + 1), (f_lengths, f_size))) else ((np_X6_without x1 x2).bind fun v32 => ((np_X6_quotient x1 v32).bind fun v35 => ((np_X2_addThoseBy f_lengths f_size x2 v35).bind fun v38 => some (Sum.inl ((x2 + 1), (v38.1, v38.2)))))))))))
theorem h_s_X2_find_7 (x1 : Nat) (x2 : Nat) (f_lengths : (Nat → Nat)) (f_size : Nat) : s_X2_find_7 (nI x1) (nI x2) (nA f_lengths) (nI f_size) = Option.map (Sum.map (cP nI (cP nA nI)) (cP nA nI)) (ns_X2_find_7 x1 x2 f_lengths f_size) := by
  unfold s_X2_find_7 ns_X2_find_7
  exact (hm_if (hc_ltI rfl rfl) rfl (hm_bind (h_p_X6_goesInto x2 x1) (fun v14 => (hm_if (hc_eqI rfl rfl) (congrArg some (congrArg Sum.inl (ho_pair (ho_addI rfl rfl) rfl))) (hm_bind (h_p_X6_isPrime x2) (fun v21 => (hm_if (hc_eqI rfl rfl) (congrArg some (congrArg Sum.inl (ho_pair (ho_addI rfl rfl) rfl))) (hm_bind (h_p_X6_without x1 x2) (fun v32 => (hm_bind (h_p_X6_quotient x1 v32) (fun v35 => (hm_bind (h_p_X2_addThoseBy f_lengths f_size x2 v35) (fun v38 => (congrArg some (congrArg Sum.inl (ho_pair (ho_addI rfl rfl) rfl))))))))))))))))
noncomputable def na_X2_find_7 (b : ((Nat → Nat) × Nat)) : Option ((Nat → Nat) × Nat) := (fun q : ((Nat → Nat) × Nat) => ne_X2_find_47 q.1 q.2) b
theorem h_a_X2_find_7 (b : ((Nat → Nat) × Nat)) : a_X2_find_7 ((cP nA nI) b) = Option.map (cP nA nI) (na_X2_find_7 b) := h_e_X2_find_47 b.1 b.2
noncomputable def ng_X2_find_7 (x1 : Nat) (x2 : Nat) (f_lengths : (Nat → Nat)) (f_size : Nat) : Option ((Nat → Nat) × Nat) := (lpN (fun q : (Nat × ((Nat → Nat) × Nat)) => ns_X2_find_7 x1 q.1 q.2.1 q.2.2) pfFU (x2, f_lengths, f_size)).bind (na_X2_find_7 )
theorem h_g_X2_find_7 (x1 : Nat) (x2 : Nat) (f_lengths : (Nat → Nat)) (f_size : Nat) : g_X2_find_7 (nI x1) (nI x2) (nA f_lengths) (nI f_size) = Option.map (cP nA nI) (ng_X2_find_7 x1 x2 f_lengths f_size) := by
  unfold g_X2_find_7 ng_X2_find_7
  exact hm_bind (lp_hom (cP nI (cP nA nI)) (cP nA nI) (fun q => h_s_X2_find_7 x1 q.1 q.2.1 q.2.2) pfFU (x2, f_lengths, f_size)) (fun b => h_a_X2_find_7  b)
noncomputable def np_X2_find (f_lengths : (Nat → Nat)) (f_size : Nat) (y1 : Nat) : Option ((Nat → Nat) × Nat) :=
  ng_X2_find_7 y1 2 f_lengths 0
theorem h_p_X2_find (f_lengths : (Nat → Nat)) (f_size : Nat) (y1 : Nat) : p_X2_find (nA f_lengths) (nI f_size) (nI y1) = Option.map (cP nA nI) (np_X2_find f_lengths f_size y1) := by
  unfold p_X2_find np_X2_find
  exact (h_g_X2_find_7 y1 2 f_lengths 0)
noncomputable def ne_X2_above1_48  : Option Nat :=
  some 4294967295
theorem h_e_X2_above1_48  : e_X2_above1_48  = Option.map nI (ne_X2_above1_48 ) := by
  unfold e_X2_above1_48 ne_X2_above1_48
  exact rfl
noncomputable def ne_X2_above1_32 (x3 : Nat) (f_lengths : (Nat → Nat)) : Option Nat :=
  (bif nain x3 4 then some (f_lengths (nix x3)) else none)
theorem h_e_X2_above1_32 (x3 : Nat) (f_lengths : (Nat → Nat)) : e_X2_above1_32 (nI x3) (nA f_lengths) = Option.map nI (ne_X2_above1_32 x3 f_lengths) := by
  unfold e_X2_above1_32 ne_X2_above1_32
  exact (hm_if (hc_ain rfl) (congrArg some (ho_rdI rfl (ho_ix rfl))) rfl)
noncomputable def ns_X2_above1_4 (x1 : Nat) (x2 : Nat) (x3 : Nat) (f_lengths : (Nat → Nat)) (f_size : Nat) : Option ((Nat × Nat) ⊕ (Nat ⊕ Unit)) :=
  (bif nleI f_size x3 then some (Sum.inr (Sum.inr ())) else (bif nleI 4 x3 then some (Sum.inr (Sum.inr ())) else (bif nain x3 4 then (bif nleI (f_lengths (nix x3)) 1 then some (Sum.inl (x2, (x3 + 1))) else (bif neqI x2 x1 then some (Sum.inr (Sum.inl x3)) else some (Sum.inl ((x2 + 1), (x3 + 1))))) else none)))
theorem h_s_X2_above1_4 (x1 : Nat) (x2 : Nat) (x3 : Nat) (f_lengths : (Nat → Nat)) (f_size : Nat) : s_X2_above1_4 (nI x1) (nI x2) (nI x3) (nA f_lengths) (nI f_size) = Option.map (Sum.map (cP nI nI) (Sum.map nI id)) (ns_X2_above1_4 x1 x2 x3 f_lengths f_size) := by
  unfold s_X2_above1_4 ns_X2_above1_4
  exact (hm_if (hc_leI rfl rfl) rfl (hm_if (hc_leI rfl rfl) rfl (hm_if (hc_ain rfl) (hm_if (hc_leI (ho_rdI rfl (ho_ix rfl)) rfl) (congrArg some (congrArg Sum.inl (ho_pair rfl (ho_addI rfl rfl)))) (hm_if (hc_eqI rfl rfl) rfl (congrArg some (congrArg Sum.inl (ho_pair (ho_addI rfl rfl) (ho_addI rfl rfl)))))) rfl)))
noncomputable def na_X2_above1_4 (f_lengths : (Nat → Nat)) (b : (Nat ⊕ Unit)) : Option Nat := Sum.elim (fun q : Nat => ne_X2_above1_32 q f_lengths) (fun q : Unit => ne_X2_above1_48 ) b
theorem h_a_X2_above1_4 (f_lengths : (Nat → Nat)) (b : (Nat ⊕ Unit)) : a_X2_above1_4 (nA f_lengths) ((Sum.map nI id) b) = Option.map nI (na_X2_above1_4 f_lengths b) := by
  cases b with
  | inl q => exact h_e_X2_above1_32 q f_lengths
  | inr q => exact h_e_X2_above1_48 
noncomputable def ng_X2_above1_4 (x1 : Nat) (x2 : Nat) (x3 : Nat) (f_lengths : (Nat → Nat)) (f_size : Nat) : Option Nat := (lpN (fun q : (Nat × Nat) => ns_X2_above1_4 x1 q.1 q.2 f_lengths f_size) pfFU (x2, x3)).bind (na_X2_above1_4 f_lengths)
theorem h_g_X2_above1_4 (x1 : Nat) (x2 : Nat) (x3 : Nat) (f_lengths : (Nat → Nat)) (f_size : Nat) : g_X2_above1_4 (nI x1) (nI x2) (nI x3) (nA f_lengths) (nI f_size) = Option.map nI (ng_X2_above1_4 x1 x2 x3 f_lengths f_size) := by
  unfold g_X2_above1_4 ng_X2_above1_4
  exact hm_bind (lp_hom (cP nI nI) (Sum.map nI id) (fun q => h_s_X2_above1_4 x1 q.1 q.2 f_lengths f_size) pfFU (x2, x3)) (fun b => h_a_X2_above1_4 f_lengths b)
noncomputable def np_X2_above1 (f_lengths : (Nat → Nat)) (f_size : Nat) (y1 : Nat) : Option Nat :=
  ng_X2_above1_4 y1 0 0 f_lengths f_size
theorem h_p_X2_above1 (f_lengths : (Nat → Nat)) (f_size : Nat) (y1 : Nat) : p_X2_above1 (nA f_lengths) (nI f_size) (nI y1) = Option.map nI (np_X2_above1 f_lengths f_size y1) := by
  unfold p_X2_above1 np_X2_above1
  exact (h_g_X2_above1_4 y1 0 0 f_lengths f_size)
noncomputable def np_X4_size (f_size : Nat) : Option Nat :=
  some f_size
theorem h_p_X4_size (f_size : Nat) : p_X4_size (nI f_size) = Option.map nI (np_X4_size f_size) := by
  unfold p_X4_size np_X4_size
  exact rfl
noncomputable def np_X4_holds (f_size : Nat) (y1 : Nat) : Option Nat :=
  (bif nltI y1 0 then some 0 else (bif nleI f_size y1 then some 0 else (bif nleI 40 y1 then some 0 else some 1)))
theorem h_p_X4_holds (f_size : Nat) (y1 : Nat) : p_X4_holds (nI f_size) (nI y1) = Option.map nI (np_X4_holds f_size y1) := by
  unfold p_X4_holds np_X4_holds
  exact (hm_if (hc_ltI rfl rfl) rfl (hm_if (hc_leI rfl rfl) rfl (hm_if (hc_leI rfl rfl) rfl rfl)))
noncomputable def np_X4_barOf (f_bars : (Nat → Nat)) (f_size : Nat) (y1 : Nat) : Option Nat :=
  ((np_X4_holds f_size y1).bind fun v2 => (bif neqI v2 0 then some 4294967295 else (bif nain y1 40 then some (f_bars (nix y1)) else none)))
theorem h_p_X4_barOf (f_bars : (Nat → Nat)) (f_size : Nat) (y1 : Nat) : p_X4_barOf (nA f_bars) (nI f_size) (nI y1) = Option.map nI (np_X4_barOf f_bars f_size y1) := by
  unfold p_X4_barOf np_X4_barOf
  exact (hm_bind (h_p_X4_holds f_size y1) (fun v2 => (hm_if (hc_eqI rfl rfl) rfl (hm_if (hc_ain rfl) (congrArg some (ho_rdI rfl (ho_ix rfl))) rfl))))
noncomputable def np_X4_bitsOf (f_groups : (Nat → Nat)) (f_size : Nat) (y1 : Nat) : Option Nat :=
  ((np_X4_holds f_size y1).bind fun v2 => (bif neqI v2 0 then some 0 else (bif nain y1 40 then some (f_groups (nix y1)) else none)))
theorem h_p_X4_bitsOf (f_groups : (Nat → Nat)) (f_size : Nat) (y1 : Nat) : p_X4_bitsOf (nB f_groups) (nI f_size) (nI y1) = Option.map lN (np_X4_bitsOf f_groups f_size y1) := by
  unfold p_X4_bitsOf np_X4_bitsOf
  exact (hm_bind (h_p_X4_holds f_size y1) (fun v2 => (hm_if (hc_eqI rfl rfl) rfl (hm_if (hc_ain rfl) (congrArg some (ho_rdJ rfl (ho_ix rfl))) rfl))))
noncomputable def np_X4_bitsBy (f_bars : (Nat → Nat)) (f_groups : (Nat → Nat)) (f_size : Nat) (y1 : Nat) (y2 : Nat) : Option Nat :=
  ((np_X4_bitsOf f_groups f_size y1).bind fun v2 => ((np_X4_barOf f_bars f_size y1).bind fun v7 => ((np_X3_lifted v2 v7 y2).bind fun v11 => some v11)))
theorem h_p_X4_bitsBy (f_bars : (Nat → Nat)) (f_groups : (Nat → Nat)) (f_size : Nat) (y1 : Nat) (y2 : Nat) : p_X4_bitsBy (nA f_bars) (nB f_groups) (nI f_size) (nI y1) (nI y2) = Option.map lN (np_X4_bitsBy f_bars f_groups f_size y1 y2) := by
  unfold p_X4_bitsBy np_X4_bitsBy
  exact (hm_bind (h_p_X4_bitsOf f_groups f_size y1) (fun v2 => (hm_bind (h_p_X4_barOf f_bars f_size y1) (fun v7 => (hm_bind (h_p_X3_lifted v2 v7 y2) (fun v11 => rfl))))))
noncomputable def ne_X4_put_51 (x1 : Nat) (x2 : Nat) (f_bars : (Nat → Nat)) (f_groups : (Nat → Nat)) (f_size : Nat) : Option (Nat × ((Nat → Nat) × ((Nat → Nat) × Nat))) :=
  (bif nltI f_size 0 then some (4294967295, (f_bars, (f_groups, f_size))) else (bif nltI f_size 40 then (bif nain f_size 40 then (bif nain f_size 40 then some ((nsubI (f_size + 1) 1), ((nupd f_bars (nix f_size) x1), ((nupd f_groups (nix f_size) x2), (f_size + 1)))) else none) else none) else some (4294967295, (f_bars, (f_groups, f_size)))))
theorem h_e_X4_put_51 (x1 : Nat) (x2 : Nat) (f_bars : (Nat → Nat)) (f_groups : (Nat → Nat)) (f_size : Nat) : e_X4_put_51 (nI x1) (lN x2) (nA f_bars) (nB f_groups) (nI f_size) = Option.map (cP nI (cP nA (cP nB nI))) (ne_X4_put_51 x1 x2 f_bars f_groups f_size) := by
  unfold e_X4_put_51 ne_X4_put_51
  exact (hm_if (hc_ltI rfl rfl) rfl (hm_if (hc_ltI rfl rfl) (hm_if (hc_ain rfl) (hm_if (hc_ain rfl) (congrArg some (ho_pair (ho_subI (ho_addI rfl rfl) rfl) (ho_pair (ho_updI rfl (ho_ix rfl) rfl) (ho_pair (ho_updJ rfl (ho_ix rfl) rfl) (ho_addI rfl rfl))))) rfl) rfl) rfl))
noncomputable def ne_X4_put_42 (x4 : Nat) (f_bars : (Nat → Nat)) (f_groups : (Nat → Nat)) (f_size : Nat) : Option (Nat × ((Nat → Nat) × ((Nat → Nat) × Nat))) :=
  some (x4, (f_bars, (f_groups, f_size)))
theorem h_e_X4_put_42 (x4 : Nat) (f_bars : (Nat → Nat)) (f_groups : (Nat → Nat)) (f_size : Nat) : e_X4_put_42 (nI x4) (nA f_bars) (nB f_groups) (nI f_size) = Option.map (cP nI (cP nA (cP nB nI))) (ne_X4_put_42 x4 f_bars f_groups f_size) := by
  unfold e_X4_put_42 ne_X4_put_42
  exact rfl
noncomputable def ns_X4_put_3 (x1 : Nat) (x2 : Nat) (x4 : Nat) (f_bars : (Nat → Nat)) (f_groups : (Nat → Nat)) (f_size : Nat) : Option (Nat ⊕ (Nat ⊕ Unit)) :=
  (bif nleI f_size x4 then some (Sum.inr (Sum.inr ())) else (bif nleI 40 x4 then some (Sum.inr (Sum.inr ())) else (bif nain x4 40 then (bif neqI (f_bars (nix x4)) x1 then (bif nain x4 40 then (bif neqJ (f_groups (nix x4)) x2 then some (Sum.inr (Sum.inl x4)) else some (Sum.inl (x4 + 1))) else none) else some (Sum.inl (x4 + 1))) else none)))
theorem h_s_X4_put_3 (x1 : Nat) (x2 : Nat) (x4 : Nat) (f_bars : (Nat → Nat)) (f_groups : (Nat → Nat)) (f_size : Nat) : s_X4_put_3 (nI x1) (lN x2) (nI x4) (nA f_bars) (nB f_groups) (nI f_size) = Option.map (Sum.map nI (Sum.map nI id)) (ns_X4_put_3 x1 x2 x4 f_bars f_groups f_size) := by
  unfold s_X4_put_3 ns_X4_put_3
  exact (hm_if (hc_leI rfl rfl) rfl (hm_if (hc_leI rfl rfl) rfl (hm_if (hc_ain rfl) (hm_if (hc_eqI (ho_rdI rfl (ho_ix rfl)) rfl) (hm_if (hc_ain rfl) (hm_if (hc_eqJ (ho_rdJ rfl (ho_ix rfl)) rfl) rfl (congrArg some (congrArg Sum.inl (ho_addI rfl rfl)))) rfl) (congrArg some (congrArg Sum.inl (ho_addI rfl rfl)))) rfl)))
noncomputable def na_X4_put_3 (x1 : Nat) (x2 : Nat) (f_bars : (Nat → Nat)) (f_groups : (Nat → Nat)) (f_size : Nat) (b : (Nat ⊕ Unit)) : Option (Nat × ((Nat → Nat) × ((Nat → Nat) × Nat))) := Sum.elim (fun q : Nat => ne_X4_put_42 q f_bars f_groups f_size) (fun q : Unit => ne_X4_put_51 x1 x2 f_bars f_groups f_size) b
theorem h_a_X4_put_3 (x1 : Nat) (x2 : Nat) (f_bars : (Nat → Nat)) (f_groups : (Nat → Nat)) (f_size : Nat) (b : (Nat ⊕ Unit)) : a_X4_put_3 (nI x1) (lN x2) (nA f_bars) (nB f_groups) (nI f_size) ((Sum.map nI id) b) = Option.map (cP nI (cP nA (cP nB nI))) (na_X4_put_3 x1 x2 f_bars f_groups f_size b) := by
  cases b with
  | inl q => exact h_e_X4_put_42 q f_bars f_groups f_size
  | inr q => exact h_e_X4_put_51 x1 x2 f_bars f_groups f_size
noncomputable def ng_X4_put_3 (x1 : Nat) (x2 : Nat) (x4 : Nat) (f_bars : (Nat → Nat)) (f_groups : (Nat → Nat)) (f_size : Nat) : Option (Nat × ((Nat → Nat) × ((Nat → Nat) × Nat))) := (lpN (fun q : Nat => ns_X4_put_3 x1 x2 q f_bars f_groups f_size) pfFU x4).bind (na_X4_put_3 x1 x2 f_bars f_groups f_size)
theorem h_g_X4_put_3 (x1 : Nat) (x2 : Nat) (x4 : Nat) (f_bars : (Nat → Nat)) (f_groups : (Nat → Nat)) (f_size : Nat) : g_X4_put_3 (nI x1) (lN x2) (nI x4) (nA f_bars) (nB f_groups) (nI f_size) = Option.map (cP nI (cP nA (cP nB nI))) (ng_X4_put_3 x1 x2 x4 f_bars f_groups f_size) := by
  unfold g_X4_put_3 ng_X4_put_3
  exact hm_bind (lp_hom nI (Sum.map nI id) (fun q => h_s_X4_put_3 x1 x2 q f_bars f_groups f_size) pfFU x4) (fun b => h_a_X4_put_3 x1 x2 f_bars f_groups f_size b)
noncomputable def np_X4_put (f_bars : (Nat → Nat)) (f_groups : (Nat → Nat)) (f_size : Nat) (y1 : Nat) (y2 : Nat) : Option (Nat × ((Nat → Nat) × ((Nat → Nat) × Nat))) :=
  ng_X4_put_3 y1 y2 0 f_bars f_groups f_size
theorem h_p_X4_put (f_bars : (Nat → Nat)) (f_groups : (Nat → Nat)) (f_size : Nat) (y1 : Nat) (y2 : Nat) : p_X4_put (nA f_bars) (nB f_groups) (nI f_size) (nI y1) (lN y2) = Option.map (cP nI (cP nA (cP nB nI))) (np_X4_put f_bars f_groups f_size y1 y2) := by
  unfold p_X4_put np_X4_put
  exact (h_g_X4_put_3 y1 y2 0 f_bars f_groups f_size)
noncomputable def ne_X4_greatestBar_35 (x1 : Nat) : Option Nat :=
  some x1
theorem h_e_X4_greatestBar_35 (x1 : Nat) : e_X4_greatestBar_35 (nI x1) = Option.map nI (ne_X4_greatestBar_35 x1) := by
  unfold e_X4_greatestBar_35 ne_X4_greatestBar_35
  exact rfl
noncomputable def ns_X4_greatestBar_4 (x1 : Nat) (x2 : Nat) (f_bars : (Nat → Nat)) (f_size : Nat) : Option ((Nat × Nat) ⊕ Nat) :=
  (bif nleI f_size x2 then some (Sum.inr x1) else (bif nleI 40 x2 then some (Sum.inr x1) else (bif nain x2 40 then ((some (bif nltI x1 (f_bars (nix x2)) then (f_bars (nix x2)) else x1)).bind fun w28 => some (Sum.inl (w28, (x2 + 1)))) else none)))
theorem h_s_X4_greatestBar_4 (x1 : Nat) (x2 : Nat) (f_bars : (Nat → Nat)) (f_size : Nat) : s_X4_greatestBar_4 (nI x1) (nI x2) (nA f_bars) (nI f_size) = Option.map (Sum.map (cP nI nI) nI) (ns_X4_greatestBar_4 x1 x2 f_bars f_size) := by
  unfold s_X4_greatestBar_4 ns_X4_greatestBar_4
  exact (hm_if (hc_leI rfl rfl) rfl (hm_if (hc_leI rfl rfl) rfl (hm_if (hc_ain rfl) (hm_bind (show some _ = Option.map nI (some (bif nltI x1 (f_bars (nix x2)) then (f_bars (nix x2)) else x1)) from (congrArg some (ho_iteI (hc_ltI rfl (ho_rdI rfl (ho_ix rfl))) (ho_rdI rfl (ho_ix rfl)) rfl))) (fun w28 => (congrArg some (congrArg Sum.inl (ho_pair rfl (ho_addI rfl rfl)))))) rfl)))
noncomputable def na_X4_greatestBar_4 (b : Nat) : Option Nat := (fun q : Nat => ne_X4_greatestBar_35 q) b
theorem h_a_X4_greatestBar_4 (b : Nat) : a_X4_greatestBar_4 (nI b) = Option.map nI (na_X4_greatestBar_4 b) := h_e_X4_greatestBar_35 b
noncomputable def ng_X4_greatestBar_4 (x1 : Nat) (x2 : Nat) (f_bars : (Nat → Nat)) (f_size : Nat) : Option Nat := (lpN (fun q : (Nat × Nat) => ns_X4_greatestBar_4 q.1 q.2 f_bars f_size) pfFU (x1, x2)).bind (na_X4_greatestBar_4 )
theorem h_g_X4_greatestBar_4 (x1 : Nat) (x2 : Nat) (f_bars : (Nat → Nat)) (f_size : Nat) : g_X4_greatestBar_4 (nI x1) (nI x2) (nA f_bars) (nI f_size) = Option.map nI (ng_X4_greatestBar_4 x1 x2 f_bars f_size) := by
  unfold g_X4_greatestBar_4 ng_X4_greatestBar_4
  exact hm_bind (lp_hom (cP nI nI) nI (fun q => h_s_X4_greatestBar_4 q.1 q.2 f_bars f_size) pfFU (x1, x2)) (fun b => h_a_X4_greatestBar_4  b)
noncomputable def np_X4_greatestBar (f_bars : (Nat → Nat)) (f_size : Nat) : Option Nat :=
  ng_X4_greatestBar_4 0 0 f_bars f_size
theorem h_p_X4_greatestBar (f_bars : (Nat → Nat)) (f_size : Nat) : p_X4_greatestBar (nA f_bars) (nI f_size) = Option.map nI (np_X4_greatestBar f_bars f_size) := by
  unfold p_X4_greatestBar np_X4_greatestBar
  exact (h_g_X4_greatestBar_4 0 0 f_bars f_size)
noncomputable def np_X4_empty (f_size : Nat) : Option Nat :=
  some 0
theorem h_p_X4_empty (f_size : Nat) : p_X4_empty (nI f_size) = Option.map nI (np_X4_empty f_size) := by
  unfold p_X4_empty np_X4_empty
  exact rfl
noncomputable def ne_X4_copyFrom_43 (f_bars : (Nat → Nat)) (f_groups : (Nat → Nat)) (f_o_size : Nat) : Option ((Nat → Nat) × ((Nat → Nat) × Nat)) :=
  some (f_bars, (f_groups, f_o_size))
theorem h_e_X4_copyFrom_43 (f_bars : (Nat → Nat)) (f_groups : (Nat → Nat)) (f_o_size : Nat) : e_X4_copyFrom_43 (nA f_bars) (nB f_groups) (nI f_o_size) = Option.map (cP nA (cP nB nI)) (ne_X4_copyFrom_43 f_bars f_groups f_o_size) := by
  unfold e_X4_copyFrom_43 ne_X4_copyFrom_43
  exact rfl
noncomputable def ns_X4_copyFrom_7 (x2 : Nat) (f_bars : (Nat → Nat)) (f_groups : (Nat → Nat)) (f_o_bars : (Nat → Nat)) (f_o_groups : (Nat → Nat)) (f_o_size : Nat) : Option ((Nat × ((Nat → Nat) × (Nat → Nat))) ⊕ ((Nat → Nat) × (Nat → Nat))) :=
  (bif nleI 40 x2 then some (Sum.inr (f_bars, f_groups)) else (bif nain x2 40 then (bif nain x2 40 then (bif nain x2 40 then (bif nain x2 40 then some (Sum.inl ((x2 + 1), ((nupd f_bars (nix x2) (f_o_bars (nix x2))), (nupd f_groups (nix x2) (f_o_groups (nix x2)))))) else none) else none) else none) else none))
theorem h_s_X4_copyFrom_7 (x2 : Nat) (f_bars : (Nat → Nat)) (f_groups : (Nat → Nat)) (f_o_bars : (Nat → Nat)) (f_o_groups : (Nat → Nat)) (f_o_size : Nat) : s_X4_copyFrom_7 (nI x2) (nA f_bars) (nB f_groups) (nA f_o_bars) (nB f_o_groups) (nI f_o_size) = Option.map (Sum.map (cP nI (cP nA nB)) (cP nA nB)) (ns_X4_copyFrom_7 x2 f_bars f_groups f_o_bars f_o_groups f_o_size) := by
  unfold s_X4_copyFrom_7 ns_X4_copyFrom_7
  exact (hm_if (hc_leI rfl rfl) rfl (hm_if (hc_ain rfl) (hm_if (hc_ain rfl) (hm_if (hc_ain rfl) (hm_if (hc_ain rfl) (congrArg some (congrArg Sum.inl (ho_pair (ho_addI rfl rfl) (ho_pair (ho_updI rfl (ho_ix rfl) (ho_rdI rfl (ho_ix rfl))) (ho_updJ rfl (ho_ix rfl) (ho_rdJ rfl (ho_ix rfl))))))) rfl) rfl) rfl) rfl))
noncomputable def na_X4_copyFrom_7 (f_o_size : Nat) (b : ((Nat → Nat) × (Nat → Nat))) : Option ((Nat → Nat) × ((Nat → Nat) × Nat)) := (fun q : ((Nat → Nat) × (Nat → Nat)) => ne_X4_copyFrom_43 q.1 q.2 f_o_size) b
theorem h_a_X4_copyFrom_7 (f_o_size : Nat) (b : ((Nat → Nat) × (Nat → Nat))) : a_X4_copyFrom_7 (nI f_o_size) ((cP nA nB) b) = Option.map (cP nA (cP nB nI)) (na_X4_copyFrom_7 f_o_size b) := h_e_X4_copyFrom_43 b.1 b.2 f_o_size
noncomputable def ng_X4_copyFrom_7 (x2 : Nat) (f_bars : (Nat → Nat)) (f_groups : (Nat → Nat)) (f_o_bars : (Nat → Nat)) (f_o_groups : (Nat → Nat)) (f_o_size : Nat) : Option ((Nat → Nat) × ((Nat → Nat) × Nat)) := (lpN (fun q : (Nat × ((Nat → Nat) × (Nat → Nat))) => ns_X4_copyFrom_7 q.1 q.2.1 q.2.2 f_o_bars f_o_groups f_o_size) pfFU (x2, f_bars, f_groups)).bind (na_X4_copyFrom_7 f_o_size)
theorem h_g_X4_copyFrom_7 (x2 : Nat) (f_bars : (Nat → Nat)) (f_groups : (Nat → Nat)) (f_o_bars : (Nat → Nat)) (f_o_groups : (Nat → Nat)) (f_o_size : Nat) : g_X4_copyFrom_7 (nI x2) (nA f_bars) (nB f_groups) (nA f_o_bars) (nB f_o_groups) (nI f_o_size) = Option.map (cP nA (cP nB nI)) (ng_X4_copyFrom_7 x2 f_bars f_groups f_o_bars f_o_groups f_o_size) := by
  unfold g_X4_copyFrom_7 ng_X4_copyFrom_7
  exact hm_bind (lp_hom (cP nI (cP nA nB)) (cP nA nB) (fun q => h_s_X4_copyFrom_7 q.1 q.2.1 q.2.2 f_o_bars f_o_groups f_o_size) pfFU (x2, f_bars, f_groups)) (fun b => h_a_X4_copyFrom_7 f_o_size b)
noncomputable def np_X4_copyFrom (f_bars : (Nat → Nat)) (f_groups : (Nat → Nat)) (f_size : Nat) (f_o_bars : (Nat → Nat)) (f_o_groups : (Nat → Nat)) (f_o_size : Nat) : Option ((Nat → Nat) × ((Nat → Nat) × Nat)) :=
  ng_X4_copyFrom_7 0 f_bars f_groups f_o_bars f_o_groups f_o_size
theorem h_p_X4_copyFrom (f_bars : (Nat → Nat)) (f_groups : (Nat → Nat)) (f_size : Nat) (f_o_bars : (Nat → Nat)) (f_o_groups : (Nat → Nat)) (f_o_size : Nat) : p_X4_copyFrom (nA f_bars) (nB f_groups) (nI f_size) (nA f_o_bars) (nB f_o_groups) (nI f_o_size) = Option.map (cP nA (cP nB nI)) (np_X4_copyFrom f_bars f_groups f_size f_o_bars f_o_groups f_o_size) := by
  unfold p_X4_copyFrom np_X4_copyFrom
  exact (h_g_X4_copyFrom_7 0 f_bars f_groups f_o_bars f_o_groups f_o_size)
noncomputable def np_X5_degree (f_degree : Nat) : Option Nat :=
  some f_degree
theorem h_p_X5_degree (f_degree : Nat) : p_X5_degree (nI f_degree) = Option.map nI (np_X5_degree f_degree) := by
  unfold p_X5_degree np_X5_degree
  exact rfl
noncomputable def np_X5_numberAt (f_numbers : (Nat → Nat)) (f_degree : Nat) (y1 : Nat) : Option Nat :=
  (bif nltI (nsubI f_degree y1) 0 then some 0 else (bif nleI 9 (nsubI f_degree y1) then some 0 else (bif nain (nsubI f_degree y1) 9 then some (f_numbers (nix (nsubI f_degree y1))) else none)))
theorem h_p_X5_numberAt (f_numbers : (Nat → Nat)) (f_degree : Nat) (y1 : Nat) : p_X5_numberAt (nB f_numbers) (nI f_degree) (nI y1) = Option.map lN (np_X5_numberAt f_numbers f_degree y1) := by
  unfold p_X5_numberAt np_X5_numberAt
  exact (hm_if (hc_ltI (ho_subI rfl rfl) rfl) rfl (hm_if (hc_leI rfl (ho_subI rfl rfl)) rfl (hm_if (hc_ain (ho_subI rfl rfl)) (congrArg some (ho_rdJ rfl (ho_ix (ho_subI rfl rfl)))) rfl)))
noncomputable def ne_X5_fillTraces_96 (f_traces : (Nat → Nat)) : Option (Nat → Nat) :=
  some f_traces
theorem h_e_X5_fillTraces_96 (f_traces : (Nat → Nat)) : e_X5_fillTraces_96 (nB f_traces) = Option.map nB (ne_X5_fillTraces_96 f_traces) := by
  unfold e_X5_fillTraces_96 ne_X5_fillTraces_96
  exact rfl
noncomputable def ne_X5_fillTraces_90 (x1 : Nat) (x2 : Nat) (f_traces : (Nat → Nat)) : Option ((Nat × (Nat → Nat)) ⊕ (Nat → Nat)) :=
  some (Sum.inl ((x2 + 1), f_traces))
theorem h_e_X5_fillTraces_90 (x1 : Nat) (x2 : Nat) (f_traces : (Nat → Nat)) : e_X5_fillTraces_90 (nI x1) (nI x2) (nB f_traces) = Option.map (Sum.map (cP nI nB) nB) (ne_X5_fillTraces_90 x1 x2 f_traces) := by
  unfold e_X5_fillTraces_90 ne_X5_fillTraces_90
  exact (congrArg some (congrArg Sum.inl (ho_pair (ho_addI rfl rfl) rfl)))
noncomputable def ns_X5_fillTraces_54 (x1 : Nat) (x2 : Nat) (x3 : Nat) (x5 : Nat) (f_traces : (Nat → Nat)) : Option ((Nat × (Nat → Nat)) ⊕ (Nat → Nat)) :=
  (bif nleI x1 x5 then some (Sum.inr f_traces) else (bif nleI 63 x5 then some (Sum.inr f_traces) else (bif nain x5 63 then (bif nain x5 63 then some (Sum.inl ((x5 + x2), (nupd f_traces (nix x5) ((f_traces (nix x5)) + x3)))) else none) else none)))
theorem h_s_X5_fillTraces_54 (x1 : Nat) (x2 : Nat) (x3 : Nat) (x5 : Nat) (f_traces : (Nat → Nat)) : s_X5_fillTraces_54 (nI x1) (nI x2) (lN x3) (nI x5) (nB f_traces) = Option.map (Sum.map (cP nI nB) nB) (ns_X5_fillTraces_54 x1 x2 x3 x5 f_traces) := by
  unfold s_X5_fillTraces_54 ns_X5_fillTraces_54
  exact (hm_if (hc_leI rfl rfl) rfl (hm_if (hc_leI rfl rfl) rfl (hm_if (hc_ain rfl) (hm_if (hc_ain rfl) (congrArg some (congrArg Sum.inl (ho_pair (ho_addI rfl rfl) (ho_updJ rfl (ho_ix rfl) (ho_addJ (ho_rdJ rfl (ho_ix rfl)) rfl))))) rfl) rfl)))
noncomputable def na_X5_fillTraces_54 (x1 : Nat) (x2 : Nat) (b : (Nat → Nat)) : Option ((Nat × (Nat → Nat)) ⊕ (Nat → Nat)) := (fun q : (Nat → Nat) => ne_X5_fillTraces_90 x1 x2 q) b
theorem h_a_X5_fillTraces_54 (x1 : Nat) (x2 : Nat) (b : (Nat → Nat)) : a_X5_fillTraces_54 (nI x1) (nI x2) (nB b) = Option.map (Sum.map (cP nI nB) nB) (na_X5_fillTraces_54 x1 x2 b) := h_e_X5_fillTraces_90 x1 x2 b
noncomputable def ng_X5_fillTraces_54 (x1 : Nat) (x2 : Nat) (x3 : Nat) (x5 : Nat) (f_traces : (Nat → Nat)) : Option ((Nat × (Nat → Nat)) ⊕ (Nat → Nat)) := (lpN (fun q : (Nat × (Nat → Nat)) => ns_X5_fillTraces_54 x1 x2 x3 q.1 q.2) pfFU (x5, f_traces)).bind (na_X5_fillTraces_54 x1 x2)
theorem h_g_X5_fillTraces_54 (x1 : Nat) (x2 : Nat) (x3 : Nat) (x5 : Nat) (f_traces : (Nat → Nat)) : g_X5_fillTraces_54 (nI x1) (nI x2) (lN x3) (nI x5) (nB f_traces) = Option.map (Sum.map (cP nI nB) nB) (ng_X5_fillTraces_54 x1 x2 x3 x5 f_traces) := by
  unfold g_X5_fillTraces_54 ng_X5_fillTraces_54
  exact hm_bind (lp_hom (cP nI nB) nB (fun q => h_s_X5_fillTraces_54 x1 x2 x3 q.1 q.2) pfFU (x5, f_traces)) (fun b => h_a_X5_fillTraces_54 x1 x2 b)
noncomputable def ns_X5_fillTraces_26 (x1 : Nat) (x2 : Nat) (f_traces : (Nat → Nat)) : Option ((Nat × (Nat → Nat)) ⊕ (Nat → Nat)) :=
  (bif nltI x1 x2 then some (Sum.inr f_traces) else ((np_X6_goesInto x2 x1).bind fun v33 => (bif neqI v33 0 then some (Sum.inl ((x2 + 1), f_traces)) else ((np_X6_quotient x1 x2).bind fun v42 => ((np_X6_signOfPrimes v42).bind fun v45 => ng_X5_fillTraces_54 x1 x2 (ni2l (x2 * v45)) 0 f_traces)))))
theorem h_s_X5_fillTraces_26 (x1 : Nat) (x2 : Nat) (f_traces : (Nat → Nat)) : s_X5_fillTraces_26 (nI x1) (nI x2) (nB f_traces) = Option.map (Sum.map (cP nI nB) nB) (ns_X5_fillTraces_26 x1 x2 f_traces) := by
  unfold s_X5_fillTraces_26 ns_X5_fillTraces_26
  exact (hm_if (hc_ltI rfl rfl) rfl (hm_bind (h_p_X6_goesInto x2 x1) (fun v33 => (hm_if (hc_eqI rfl rfl) (congrArg some (congrArg Sum.inl (ho_pair (ho_addI rfl rfl) rfl))) (hm_bind (h_p_X6_quotient x1 x2) (fun v42 => (hm_bind (h_p_X6_signOfPrimes v42) (fun v45 => (Eq.trans (congr (congr (congr (congr (congrArg g_X5_fillTraces_54 rfl) rfl) (ho_i2l (ho_mulI rfl rfl))) rfl) rfl) (h_g_X5_fillTraces_54 x1 x2 (ni2l (x2 * v45)) 0 f_traces))))))))))
noncomputable def na_X5_fillTraces_26 (b : (Nat → Nat)) : Option (Nat → Nat) := (fun q : (Nat → Nat) => ne_X5_fillTraces_96 q) b
theorem h_a_X5_fillTraces_26 (b : (Nat → Nat)) : a_X5_fillTraces_26 (nB b) = Option.map nB (na_X5_fillTraces_26 b) := h_e_X5_fillTraces_96 b
noncomputable def ng_X5_fillTraces_26 (x1 : Nat) (x2 : Nat) (f_traces : (Nat → Nat)) : Option (Nat → Nat) := (lpN (fun q : (Nat × (Nat → Nat)) => ns_X5_fillTraces_26 x1 q.1 q.2) pfFU (x2, f_traces)).bind (na_X5_fillTraces_26 )
theorem h_g_X5_fillTraces_26 (x1 : Nat) (x2 : Nat) (f_traces : (Nat → Nat)) : g_X5_fillTraces_26 (nI x1) (nI x2) (nB f_traces) = Option.map nB (ng_X5_fillTraces_26 x1 x2 f_traces) := by
  unfold g_X5_fillTraces_26 ng_X5_fillTraces_26
  exact hm_bind (lp_hom (cP nI nB) nB (fun q => h_s_X5_fillTraces_26 x1 q.1 q.2) pfFU (x2, f_traces)) (fun b => h_a_X5_fillTraces_26  b)
noncomputable def ne_X5_fillTraces_24 (x1 : Nat) (f_traces : (Nat → Nat)) : Option (Nat → Nat) :=
  ng_X5_fillTraces_26 x1 1 f_traces
theorem h_e_X5_fillTraces_24 (x1 : Nat) (f_traces : (Nat → Nat)) : e_X5_fillTraces_24 (nI x1) (nB f_traces) = Option.map nB (ne_X5_fillTraces_24 x1 f_traces) := by
  unfold e_X5_fillTraces_24 ne_X5_fillTraces_24
  exact (h_g_X5_fillTraces_26 x1 1 f_traces)
noncomputable def ns_X5_fillTraces_2 (x1 : Nat) (x2 : Nat) (f_traces : (Nat → Nat)) : Option ((Nat × (Nat → Nat)) ⊕ (Nat → Nat)) :=
  (bif nleI 63 x2 then some (Sum.inr f_traces) else (bif nain x2 63 then some (Sum.inl ((x2 + 1), (nupd f_traces (nix x2) 0))) else none))
theorem h_s_X5_fillTraces_2 (x1 : Nat) (x2 : Nat) (f_traces : (Nat → Nat)) : s_X5_fillTraces_2 (nI x1) (nI x2) (nB f_traces) = Option.map (Sum.map (cP nI nB) nB) (ns_X5_fillTraces_2 x1 x2 f_traces) := by
  unfold s_X5_fillTraces_2 ns_X5_fillTraces_2
  exact (hm_if (hc_leI rfl rfl) rfl (hm_if (hc_ain rfl) (congrArg some (congrArg Sum.inl (ho_pair (ho_addI rfl rfl) (ho_updJ rfl (ho_ix rfl) rfl)))) rfl))
noncomputable def na_X5_fillTraces_2 (x1 : Nat) (b : (Nat → Nat)) : Option (Nat → Nat) := (fun q : (Nat → Nat) => ne_X5_fillTraces_24 x1 q) b
theorem h_a_X5_fillTraces_2 (x1 : Nat) (b : (Nat → Nat)) : a_X5_fillTraces_2 (nI x1) (nB b) = Option.map nB (na_X5_fillTraces_2 x1 b) := h_e_X5_fillTraces_24 x1 b
noncomputable def ng_X5_fillTraces_2 (x1 : Nat) (x2 : Nat) (f_traces : (Nat → Nat)) : Option (Nat → Nat) := (lpN (fun q : (Nat × (Nat → Nat)) => ns_X5_fillTraces_2 x1 q.1 q.2) pfFU (x2, f_traces)).bind (na_X5_fillTraces_2 x1)
theorem h_g_X5_fillTraces_2 (x1 : Nat) (x2 : Nat) (f_traces : (Nat → Nat)) : g_X5_fillTraces_2 (nI x1) (nI x2) (nB f_traces) = Option.map nB (ng_X5_fillTraces_2 x1 x2 f_traces) := by
  unfold g_X5_fillTraces_2 ng_X5_fillTraces_2
  exact hm_bind (lp_hom (cP nI nB) nB (fun q => h_s_X5_fillTraces_2 x1 q.1 q.2) pfFU (x2, f_traces)) (fun b => h_a_X5_fillTraces_2 x1 b)
noncomputable def np_X5_fillTraces (f_traces : (Nat → Nat)) (y1 : Nat) : Option (Nat → Nat) :=
  ng_X5_fillTraces_2 y1 0 f_traces
theorem h_p_X5_fillTraces (f_traces : (Nat → Nat)) (y1 : Nat) : p_X5_fillTraces (nB f_traces) (nI y1) = Option.map nB (np_X5_fillTraces f_traces y1) := by
  unfold p_X5_fillTraces np_X5_fillTraces
  exact (h_g_X5_fillTraces_2 y1 0 f_traces)
noncomputable def np_X5_traceAt (f_traces : (Nat → Nat)) (y1 : Nat) : Option Nat :=
  (bif nltI y1 0 then some 0 else (bif nleI 63 y1 then some 0 else (bif nain y1 63 then some (f_traces (nix y1)) else none)))
theorem h_p_X5_traceAt (f_traces : (Nat → Nat)) (y1 : Nat) : p_X5_traceAt (nB f_traces) (nI y1) = Option.map lN (np_X5_traceAt f_traces y1) := by
  unfold p_X5_traceAt np_X5_traceAt
  exact (hm_if (hc_ltI rfl rfl) rfl (hm_if (hc_leI rfl rfl) rfl (hm_if (hc_ain rfl) (congrArg some (ho_rdJ rfl (ho_ix rfl))) rfl)))
noncomputable def ne_X5_pairs_75 (x6 : Nat) : Option Nat :=
  some x6
theorem h_e_X5_pairs_75 (x6 : Nat) : e_X5_pairs_75 (lN x6) = Option.map lN (ne_X5_pairs_75 x6) := by
  unfold e_X5_pairs_75 ne_X5_pairs_75
  exact rfl
noncomputable def ne_X5_pairs_69 (x1 : Nat) (x3 : Nat) (x5 : Nat) (x6 : Nat) (x8 : Nat) (f_traces : (Nat → Nat)) : Option ((Nat × Nat) ⊕ Nat) :=
  some (Sum.inl (x6, (x8 + 1)))
theorem h_e_X5_pairs_69 (x1 : Nat) (x3 : Nat) (x5 : Nat) (x6 : Nat) (x8 : Nat) (f_traces : (Nat → Nat)) : e_X5_pairs_69 (lN x1) (lN x3) (nI x5) (lN x6) (nI x8) (nB f_traces) = Option.map (Sum.map (cP lN nI) lN) (ne_X5_pairs_69 x1 x3 x5 x6 x8 f_traces) := by
  unfold e_X5_pairs_69 ne_X5_pairs_69
  exact (congrArg some (congrArg Sum.inl (ho_pair rfl (ho_addI rfl rfl))))
noncomputable def ns_X5_pairs_25 (x1 : Nat) (x3 : Nat) (x5 : Nat) (x6 : Nat) (x8 : Nat) (x9 : Nat) (f_traces : (Nat → Nat)) : Option ((Nat × Nat) ⊕ Nat) :=
  (bif nleI x5 x9 then some (Sum.inr x6) else ((np_X3_has x3 x9).bind fun v35 => (bif neqI v35 0 then some (Sum.inl (x6, (x9 + 1))) else ((np_X6_rest ((nsubI x8 x9) + x5) x5).bind fun v54 => ((np_X5_traceAt f_traces v54).bind fun v57 => some (Sum.inl ((x6 + v57), (x9 + 1))))))))
theorem h_s_X5_pairs_25 (x1 : Nat) (x3 : Nat) (x5 : Nat) (x6 : Nat) (x8 : Nat) (x9 : Nat) (f_traces : (Nat → Nat)) : s_X5_pairs_25 (lN x1) (lN x3) (nI x5) (lN x6) (nI x8) (nI x9) (nB f_traces) = Option.map (Sum.map (cP lN nI) lN) (ns_X5_pairs_25 x1 x3 x5 x6 x8 x9 f_traces) := by
  unfold s_X5_pairs_25 ns_X5_pairs_25
  exact (hm_if (hc_leI rfl rfl) rfl (hm_bind (h_p_X3_has x3 x9) (fun v35 => (hm_if (hc_eqI rfl rfl) (congrArg some (congrArg Sum.inl (ho_pair rfl (ho_addI rfl rfl)))) (hm_bind (Eq.trans (congr (congrArg p_X6_rest (ho_addI (ho_subI rfl rfl) rfl)) rfl) (h_p_X6_rest ((nsubI x8 x9) + x5) x5)) (fun v54 => (hm_bind (h_p_X5_traceAt f_traces v54) (fun v57 => (congrArg some (congrArg Sum.inl (ho_pair (ho_addJ rfl rfl) (ho_addI rfl rfl))))))))))))
noncomputable def na_X5_pairs_25 (x1 : Nat) (x3 : Nat) (x5 : Nat) (x8 : Nat) (f_traces : (Nat → Nat)) (b : Nat) : Option ((Nat × Nat) ⊕ Nat) := (fun q : Nat => ne_X5_pairs_69 x1 x3 x5 q x8 f_traces) b
theorem h_a_X5_pairs_25 (x1 : Nat) (x3 : Nat) (x5 : Nat) (x8 : Nat) (f_traces : (Nat → Nat)) (b : Nat) : a_X5_pairs_25 (lN x1) (lN x3) (nI x5) (nI x8) (nB f_traces) (lN b) = Option.map (Sum.map (cP lN nI) lN) (na_X5_pairs_25 x1 x3 x5 x8 f_traces b) := h_e_X5_pairs_69 x1 x3 x5 b x8 f_traces
noncomputable def ng_X5_pairs_25 (x1 : Nat) (x3 : Nat) (x5 : Nat) (x6 : Nat) (x8 : Nat) (x9 : Nat) (f_traces : (Nat → Nat)) : Option ((Nat × Nat) ⊕ Nat) := (lpN (fun q : (Nat × Nat) => ns_X5_pairs_25 x1 x3 x5 q.1 x8 q.2 f_traces) pfFU (x6, x9)).bind (na_X5_pairs_25 x1 x3 x5 x8 f_traces)
theorem h_g_X5_pairs_25 (x1 : Nat) (x3 : Nat) (x5 : Nat) (x6 : Nat) (x8 : Nat) (x9 : Nat) (f_traces : (Nat → Nat)) : g_X5_pairs_25 (lN x1) (lN x3) (nI x5) (lN x6) (nI x8) (nI x9) (nB f_traces) = Option.map (Sum.map (cP lN nI) lN) (ng_X5_pairs_25 x1 x3 x5 x6 x8 x9 f_traces) := by
  unfold g_X5_pairs_25 ng_X5_pairs_25
  exact hm_bind (lp_hom (cP lN nI) lN (fun q => h_s_X5_pairs_25 x1 x3 x5 q.1 x8 q.2 f_traces) pfFU (x6, x9)) (fun b => h_a_X5_pairs_25 x1 x3 x5 x8 f_traces b)
noncomputable def ns_X5_pairs_6 (x1 : Nat) (x3 : Nat) (x5 : Nat) (x6 : Nat) (x8 : Nat) (f_traces : (Nat → Nat)) : Option ((Nat × Nat) ⊕ Nat) :=
  (bif nleI x5 x8 then some (Sum.inr x6) else ((np_X3_has x1 x8).bind fun v16 => (bif neqI v16 0 then some (Sum.inl (x6, (x8 + 1))) else ng_X5_pairs_25 x1 x3 x5 x6 x8 0 f_traces)))
theorem h_s_X5_pairs_6 (x1 : Nat) (x3 : Nat) (x5 : Nat) (x6 : Nat) (x8 : Nat) (f_traces : (Nat → Nat)) : s_X5_pairs_6 (lN x1) (lN x3) (nI x5) (lN x6) (nI x8) (nB f_traces) = Option.map (Sum.map (cP lN nI) lN) (ns_X5_pairs_6 x1 x3 x5 x6 x8 f_traces) := by
  unfold s_X5_pairs_6 ns_X5_pairs_6
  exact (hm_if (hc_leI rfl rfl) rfl (hm_bind (h_p_X3_has x1 x8) (fun v16 => (hm_if (hc_eqI rfl rfl) (congrArg some (congrArg Sum.inl (ho_pair rfl (ho_addI rfl rfl)))) (h_g_X5_pairs_25 x1 x3 x5 x6 x8 0 f_traces)))))
noncomputable def na_X5_pairs_6 (b : Nat) : Option Nat := (fun q : Nat => ne_X5_pairs_75 q) b
theorem h_a_X5_pairs_6 (b : Nat) : a_X5_pairs_6 (lN b) = Option.map lN (na_X5_pairs_6 b) := h_e_X5_pairs_75 b
noncomputable def ng_X5_pairs_6 (x1 : Nat) (x3 : Nat) (x5 : Nat) (x6 : Nat) (x8 : Nat) (f_traces : (Nat → Nat)) : Option Nat := (lpN (fun q : (Nat × Nat) => ns_X5_pairs_6 x1 x3 x5 q.1 q.2 f_traces) pfFU (x6, x8)).bind (na_X5_pairs_6 )
theorem h_g_X5_pairs_6 (x1 : Nat) (x3 : Nat) (x5 : Nat) (x6 : Nat) (x8 : Nat) (f_traces : (Nat → Nat)) : g_X5_pairs_6 (lN x1) (lN x3) (nI x5) (lN x6) (nI x8) (nB f_traces) = Option.map lN (ng_X5_pairs_6 x1 x3 x5 x6 x8 f_traces) := by
  unfold g_X5_pairs_6 ng_X5_pairs_6
  exact hm_bind (lp_hom (cP lN nI) lN (fun q => h_s_X5_pairs_6 x1 x3 x5 q.1 q.2 f_traces) pfFU (x6, x8)) (fun b => h_a_X5_pairs_6  b)
noncomputable def np_X5_pairs (f_traces : (Nat → Nat)) (y1 : Nat) (y3 : Nat) (y5 : Nat) : Option Nat :=
  ng_X5_pairs_6 y1 y3 y5 0 0 f_traces
theorem h_p_X5_pairs (f_traces : (Nat → Nat)) (y1 : Nat) (y3 : Nat) (y5 : Nat) : p_X5_pairs (nB f_traces) (lN y1) (lN y3) (nI y5) = Option.map lN (np_X5_pairs f_traces y1 y3 y5) := by
  unfold p_X5_pairs np_X5_pairs
  exact (h_g_X5_pairs_6 y1 y3 y5 0 0 f_traces)
noncomputable def ne_X5_hasAlike_82  : Option Nat :=
  some 0
theorem h_e_X5_hasAlike_82  : e_X5_hasAlike_82  = Option.map nI (ne_X5_hasAlike_82 ) := by
  unfold e_X5_hasAlike_82 ne_X5_hasAlike_82
  exact rfl
noncomputable def ne_X5_hasAlike_63  : Option Nat :=
  some 1
theorem h_e_X5_hasAlike_63  : e_X5_hasAlike_63  = Option.map nI (ne_X5_hasAlike_63 ) := by
  unfold e_X5_hasAlike_63 ne_X5_hasAlike_63
  exact rfl
noncomputable def ns_X5_hasAlike_24 (x1 : Nat) (x3 : Nat) (x4 : Nat) (x6 : Nat) (x8 : Nat) (f_traces : (Nat → Nat)) : Option ((Nat × Nat) ⊕ (Unit ⊕ Unit)) :=
  (bif nleI x3 x8 then some (Sum.inr (Sum.inr ())) else ((np_X3_has x6 x8).bind fun v34 => (bif neqI v34 0 then some (Sum.inl (x6, (x8 + 1))) else ((np_X3_times x1 x8 x3).bind fun v44 => ((np_X5_pairs f_traces x1 v44 x3).bind fun v56 => (bif neqJ x4 v56 then some (Sum.inr (Sum.inl ())) else some (Sum.inl ((x6 &&& (v44 ^^^ 18446744073709551615)), (x8 + 1)))))))))
theorem h_s_X5_hasAlike_24 (x1 : Nat) (x3 : Nat) (x4 : Nat) (x6 : Nat) (x8 : Nat) (f_traces : (Nat → Nat)) : s_X5_hasAlike_24 (lN x1) (nI x3) (lN x4) (lN x6) (nI x8) (nB f_traces) = Option.map (Sum.map (cP lN nI) (Sum.map id id)) (ns_X5_hasAlike_24 x1 x3 x4 x6 x8 f_traces) := by
  unfold s_X5_hasAlike_24 ns_X5_hasAlike_24
  exact (hm_if (hc_leI rfl rfl) rfl (hm_bind (h_p_X3_has x6 x8) (fun v34 => (hm_if (hc_eqI rfl rfl) (congrArg some (congrArg Sum.inl (ho_pair rfl (ho_addI rfl rfl)))) (hm_bind (h_p_X3_times x1 x8 x3) (fun v44 => (hm_bind (h_p_X5_pairs f_traces x1 v44 x3) (fun v56 => (hm_if (hc_eqJ rfl rfl) rfl (congrArg some (congrArg Sum.inl (ho_pair (ho_andJ rfl (ho_xorJ rfl rfl)) (ho_addI rfl rfl)))))))))))))
noncomputable def na_X5_hasAlike_24 (b : (Unit ⊕ Unit)) : Option Nat := Sum.elim (fun q : Unit => ne_X5_hasAlike_63 ) (fun q : Unit => ne_X5_hasAlike_82 ) b
theorem h_a_X5_hasAlike_24 (b : (Unit ⊕ Unit)) : a_X5_hasAlike_24 ((Sum.map id id) b) = Option.map nI (na_X5_hasAlike_24 b) := by
  cases b with
  | inl q => exact h_e_X5_hasAlike_63 
  | inr q => exact h_e_X5_hasAlike_82 
noncomputable def ng_X5_hasAlike_24 (x1 : Nat) (x3 : Nat) (x4 : Nat) (x6 : Nat) (x8 : Nat) (f_traces : (Nat → Nat)) : Option Nat := (lpN (fun q : (Nat × Nat) => ns_X5_hasAlike_24 x1 x3 x4 q.1 q.2 f_traces) pfFU (x6, x8)).bind (na_X5_hasAlike_24 )
theorem h_g_X5_hasAlike_24 (x1 : Nat) (x3 : Nat) (x4 : Nat) (x6 : Nat) (x8 : Nat) (f_traces : (Nat → Nat)) : g_X5_hasAlike_24 (lN x1) (nI x3) (lN x4) (lN x6) (nI x8) (nB f_traces) = Option.map nI (ng_X5_hasAlike_24 x1 x3 x4 x6 x8 f_traces) := by
  unfold g_X5_hasAlike_24 ng_X5_hasAlike_24
  exact hm_bind (lp_hom (cP lN nI) (Sum.map id id) (fun q => h_s_X5_hasAlike_24 x1 x3 x4 q.1 q.2 f_traces) pfFU (x6, x8)) (fun b => h_a_X5_hasAlike_24  b)
noncomputable def np_X5_hasAlike (f_traces : (Nat → Nat)) (y1 : Nat) (y3 : Nat) : Option Nat :=
  ((np_X5_pairs f_traces y1 y1 y3).bind fun v4 => ((np_X3_all y3).bind fun v10 => ng_X5_hasAlike_24 y1 y3 v4 (v10 &&& (y1 ^^^ 18446744073709551615)) 0 f_traces))
theorem h_p_X5_hasAlike (f_traces : (Nat → Nat)) (y1 : Nat) (y3 : Nat) : p_X5_hasAlike (nB f_traces) (lN y1) (nI y3) = Option.map nI (np_X5_hasAlike f_traces y1 y3) := by
  unfold p_X5_hasAlike np_X5_hasAlike
  exact (hm_bind (h_p_X5_pairs f_traces y1 y1 y3) (fun v4 => (hm_bind (h_p_X3_all y3) (fun v10 => (Eq.trans (congr (congr (congr (congr (congr (congrArg g_X5_hasAlike_24 rfl) rfl) rfl) (ho_andJ rfl (ho_xorJ rfl rfl))) rfl) rfl) (h_g_X5_hasAlike_24 y1 y3 v4 (v10 &&& (y1 ^^^ 18446744073709551615)) 0 f_traces))))))
noncomputable def np_X5_powerAt (f_power : (Nat → Nat)) (y1 : Nat) : Option Nat :=
  (bif nltI y1 0 then some 0 else (bif nleI 63 y1 then some 0 else (bif nain y1 63 then some (f_power (nix y1)) else none)))
theorem h_p_X5_powerAt (f_power : (Nat → Nat)) (y1 : Nat) : p_X5_powerAt (nB f_power) (nI y1) = Option.map lN (np_X5_powerAt f_power y1) := by
  unfold p_X5_powerAt np_X5_powerAt
  exact (hm_if (hc_ltI rfl rfl) rfl (hm_if (hc_leI rfl rfl) rfl (hm_if (hc_ain rfl) (congrArg some (ho_rdJ rfl (ho_ix rfl))) rfl)))
noncomputable def ne_X5_multiply_120 (f_power : (Nat → Nat)) (f_next : (Nat → Nat)) : Option ((Nat → Nat) × (Nat → Nat)) :=
  some (f_power, f_next)
theorem h_e_X5_multiply_120 (f_power : (Nat → Nat)) (f_next : (Nat → Nat)) : e_X5_multiply_120 (nB f_power) (nB f_next) = Option.map (cP nB nB) (ne_X5_multiply_120 f_power f_next) := by
  unfold e_X5_multiply_120 ne_X5_multiply_120
  exact rfl
noncomputable def ns_X5_multiply_84 (x3 : Nat) (x4 : Nat) (f_power : (Nat → Nat)) (f_next : (Nat → Nat)) : Option ((Nat × (Nat → Nat)) ⊕ (Nat → Nat)) :=
  (bif nleI x3 x4 then some (Sum.inr f_power) else (bif nleI 63 x4 then some (Sum.inr f_power) else (bif nain x4 63 then (bif nain x4 63 then some (Sum.inl ((x4 + 1), (nupd f_power (nix x4) (f_next (nix x4))))) else none) else none)))
theorem h_s_X5_multiply_84 (x3 : Nat) (x4 : Nat) (f_power : (Nat → Nat)) (f_next : (Nat → Nat)) : s_X5_multiply_84 (nI x3) (nI x4) (nB f_power) (nB f_next) = Option.map (Sum.map (cP nI nB) nB) (ns_X5_multiply_84 x3 x4 f_power f_next) := by
  unfold s_X5_multiply_84 ns_X5_multiply_84
  exact (hm_if (hc_leI rfl rfl) rfl (hm_if (hc_leI rfl rfl) rfl (hm_if (hc_ain rfl) (hm_if (hc_ain rfl) (congrArg some (congrArg Sum.inl (ho_pair (ho_addI rfl rfl) (ho_updJ rfl (ho_ix rfl) (ho_rdJ rfl (ho_ix rfl)))))) rfl) rfl)))
noncomputable def na_X5_multiply_84 (f_next : (Nat → Nat)) (b : (Nat → Nat)) : Option ((Nat → Nat) × (Nat → Nat)) := (fun q : (Nat → Nat) => ne_X5_multiply_120 q f_next) b
theorem h_a_X5_multiply_84 (f_next : (Nat → Nat)) (b : (Nat → Nat)) : a_X5_multiply_84 (nB f_next) (nB b) = Option.map (cP nB nB) (na_X5_multiply_84 f_next b) := h_e_X5_multiply_120 b f_next
noncomputable def ng_X5_multiply_84 (x3 : Nat) (x4 : Nat) (f_power : (Nat → Nat)) (f_next : (Nat → Nat)) : Option ((Nat → Nat) × (Nat → Nat)) := (lpN (fun q : (Nat × (Nat → Nat)) => ns_X5_multiply_84 x3 q.1 q.2 f_next) pfFU (x4, f_power)).bind (na_X5_multiply_84 f_next)
theorem h_g_X5_multiply_84 (x3 : Nat) (x4 : Nat) (f_power : (Nat → Nat)) (f_next : (Nat → Nat)) : g_X5_multiply_84 (nI x3) (nI x4) (nB f_power) (nB f_next) = Option.map (cP nB nB) (ng_X5_multiply_84 x3 x4 f_power f_next) := by
  unfold g_X5_multiply_84 ng_X5_multiply_84
  exact hm_bind (lp_hom (cP nI nB) nB (fun q => h_s_X5_multiply_84 x3 q.1 q.2 f_next) pfFU (x4, f_power)) (fun b => h_a_X5_multiply_84 f_next b)
noncomputable def ne_X5_multiply_81 (x3 : Nat) (f_power : (Nat → Nat)) (f_next : (Nat → Nat)) : Option ((Nat → Nat) × (Nat → Nat)) :=
  ng_X5_multiply_84 x3 0 f_power f_next
theorem h_e_X5_multiply_81 (x3 : Nat) (f_power : (Nat → Nat)) (f_next : (Nat → Nat)) : e_X5_multiply_81 (nI x3) (nB f_power) (nB f_next) = Option.map (cP nB nB) (ne_X5_multiply_81 x3 f_power f_next) := by
  unfold e_X5_multiply_81 ne_X5_multiply_81
  exact (h_g_X5_multiply_84 x3 0 f_power f_next)
noncomputable def ne_X5_multiply_66 (x1 : Nat) (x3 : Nat) (x4 : Nat) (x5 : Nat) (f_power : (Nat → Nat)) (f_next : (Nat → Nat)) : Option ((Nat × (Nat → Nat)) ⊕ (Nat → Nat)) :=
  (bif nain x4 63 then some (Sum.inl ((x4 + 1), (nupd f_next (nix x4) x5))) else none)
theorem h_e_X5_multiply_66 (x1 : Nat) (x3 : Nat) (x4 : Nat) (x5 : Nat) (f_power : (Nat → Nat)) (f_next : (Nat → Nat)) : e_X5_multiply_66 (lN x1) (nI x3) (nI x4) (lN x5) (nB f_power) (nB f_next) = Option.map (Sum.map (cP nI nB) nB) (ne_X5_multiply_66 x1 x3 x4 x5 f_power f_next) := by
  unfold e_X5_multiply_66 ne_X5_multiply_66
  exact (hm_if (hc_ain rfl) (congrArg some (congrArg Sum.inl (ho_pair (ho_addI rfl rfl) (ho_updJ rfl (ho_ix rfl) rfl)))) rfl)
