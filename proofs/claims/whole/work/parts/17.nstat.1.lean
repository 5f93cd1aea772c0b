noncomputable def ng_X6_signOfPrimes_4 (x0 : Nat) (x1 : Nat) (x2 : Nat) : Option Nat := (lpN (fun q : (Nat × Nat) => ns_X6_signOfPrimes_4 x0 q.1 q.2) pfFU (x1, x2)).bind (na_X6_signOfPrimes_4 )
theorem h_g_X6_signOfPrimes_4 (x0 : Nat) (x1 : Nat) (x2 : Nat) : g_X6_signOfPrimes_4 (nI x0) (nI x1) (nI x2) = Option.map nI (ng_X6_signOfPrimes_4 x0 x1 x2) := by
  unfold g_X6_signOfPrimes_4 ng_X6_signOfPrimes_4
  exact hm_bind (lp_hom (cP nI nI) (Sum.map id nI) (fun q => h_s_X6_signOfPrimes_4 x0 q.1 q.2) pfFU (x1, x2)) (fun b => h_a_X6_signOfPrimes_4  b)
noncomputable def np_X6_signOfPrimes (y0 : Nat) : Option Nat :=
  ng_X6_signOfPrimes_4 y0 1 2
theorem h_p_X6_signOfPrimes (y0 : Nat) : p_X6_signOfPrimes (nI y0) = Option.map nI (np_X6_signOfPrimes y0) := by
  unfold p_X6_signOfPrimes np_X6_signOfPrimes
  exact (h_g_X6_signOfPrimes_4 y0 1 2)
noncomputable def np_X7_isM (y0 : Nat) : Option Nat :=
  (bif nltI y0 1 then some 0 else (bif nltI 63 y0 then some 0 else some 1))
theorem h_p_X7_isM (y0 : Nat) : p_X7_isM (nI y0) = Option.map nI (np_X7_isM y0) := by
  unfold p_X7_isM np_X7_isM
  exact (hm_if (hc_ltI rfl rfl) rfl (hm_if (hc_ltI rfl rfl) rfl rfl))
noncomputable def np_X7_isDegree (y0 : Nat) : Option Nat :=
  (bif nltI y0 1 then some 0 else (bif nltI 8 y0 then some 0 else some 1))
theorem h_p_X7_isDegree (y0 : Nat) : p_X7_isDegree (nI y0) = Option.map nI (np_X7_isDegree y0) := by
  unfold p_X7_isDegree np_X7_isDegree
  exact (hm_if (hc_ltI rfl rfl) rfl (hm_if (hc_ltI rfl rfl) rfl rfl))
noncomputable def np_X8_isIn (y0 : Nat) (y1 : Nat) (y2 : Nat) : Option Nat :=
  (bif nltI y0 y1 then some 0 else (bif nltI y2 y0 then some 0 else some 1))
theorem h_p_X8_isIn (y0 : Nat) (y1 : Nat) (y2 : Nat) : p_X8_isIn (nI y0) (nI y1) (nI y2) = Option.map nI (np_X8_isIn y0 y1 y2) := by
  unfold p_X8_isIn np_X8_isIn
  exact (hm_if (hc_ltI rfl rfl) rfl (hm_if (hc_ltI rfl rfl) rfl rfl))
noncomputable def ne_X8_divisor_21 (x2 : Nat) : Option Nat :=
  some x2
theorem h_e_X8_divisor_21 (x2 : Nat) : e_X8_divisor_21 (nI x2) = Option.map nI (ne_X8_divisor_21 x2) := by
  unfold e_X8_divisor_21 ne_X8_divisor_21
  exact rfl
noncomputable def ns_X8_divisor_4 (x2 : Nat) (x3 : Nat) : Option ((Nat × Nat) ⊕ Nat) :=
  (bif nleI x3 0 then some (Sum.inr x2) else (bif neqI x3 0 then none else some (Sum.inl (x3, (njrem x2 x3)))))
theorem h_s_X8_divisor_4 (x2 : Nat) (x3 : Nat) : s_X8_divisor_4 (nI x2) (nI x3) = Option.map (Sum.map (cP nI nI) nI) (ns_X8_divisor_4 x2 x3) := by
  unfold s_X8_divisor_4 ns_X8_divisor_4
  exact (hm_if (hc_leI rfl rfl) rfl (hm_if (hc_eqI rfl rfl) rfl (congrArg some (congrArg Sum.inl (ho_pair rfl (ho_jrem rfl rfl))))))
noncomputable def na_X8_divisor_4 (b : Nat) : Option Nat := (fun q : Nat => ne_X8_divisor_21 q) b
theorem h_a_X8_divisor_4 (b : Nat) : a_X8_divisor_4 (nI b) = Option.map nI (na_X8_divisor_4 b) := h_e_X8_divisor_21 b
noncomputable def ng_X8_divisor_4 (x2 : Nat) (x3 : Nat) : Option Nat := (lpN (fun q : (Nat × Nat) => ns_X8_divisor_4 q.1 q.2) pfFU (x2, x3)).bind (na_X8_divisor_4 )
theorem h_g_X8_divisor_4 (x2 : Nat) (x3 : Nat) : g_X8_divisor_4 (nI x2) (nI x3) = Option.map nI (ng_X8_divisor_4 x2 x3) := by
  unfold g_X8_divisor_4 ng_X8_divisor_4
  exact hm_bind (lp_hom (cP nI nI) nI (fun q => h_s_X8_divisor_4 q.1 q.2) pfFU (x2, x3)) (fun b => h_a_X8_divisor_4  b)
noncomputable def n0p_X8_divisor (y0 : Nat) (y1 : Nat) : Option Nat :=
  ng_X8_divisor_4 y0 y1
theorem h0_p_X8_divisor (y0 : Nat) (y1 : Nat) : p_X8_divisor (nI y0) (nI y1) = Option.map nI (n0p_X8_divisor y0 y1) := by
  unfold p_X8_divisor n0p_X8_divisor
  exact (h_g_X8_divisor_4 y0 y1)
theorem z_p_X8_divisor (y0 : Nat) (y1 : Nat) (hd : (Nat.ble y0 2147483647 && Nat.ble y1 65535) = true) : n0p_X8_divisor y0 y1 = some (Nat.gcd y0 y1) := by
  obtain ⟨q1, q2⟩ := nf_and hd
  have q1 := nf_le q1
  have q2 := nf_le q2
  have key : ∀ (n y x : Nat), y < n → x < 2147483648 → y < 2147483648 → lpN (fun q : (Nat × Nat) => ns_X8_divisor_4 q.1 q.2) n (x, y) = some (Nat.gcd x y) := by
    intro n
    induction n with
    | zero => intro y x h; omega
    | succ n ih =>
      intro y x h hx hy
      rcases Nat.eq_zero_or_pos y with h0 | h0
      · subst h0
        rw [lpN_inr (b := x)]
        · rw [Nat.gcd_zero_right]
        · show ns_X8_divisor_4 x 0 = _
          unfold ns_X8_divisor_4
          rw [nleI_t (Nat.le_refl 0) (by decide)]; rfl
      · have hm := Nat.mod_lt x h0
        rw [lpN_inl (s' := (y, x % y))]
        · rw [ih (x % y) y (by omega) hy (by omega), Nat.gcd_comm x y, Nat.gcd_rec y x, Nat.gcd_comm (x % y) y]
        · show ns_X8_divisor_4 x y = _
          unfold ns_X8_divisor_4
          rw [nleI_f h0 hy, neqI_f (by omega) (by omega) (by decide), njrem_n hx h0 hy]; rfl
  show (lpN _ pfFU (y0, y1)).bind _ = _
  rw [key pfFU y1 y0 (by have := pf_FU; omega) (by omega) (by omega)]
  rfl
noncomputable def np_X8_divisor (y0 : Nat) (y1 : Nat) : Option Nat := bif Nat.ble y0 2147483647 && Nat.ble y1 65535 then some (Nat.gcd y0 y1) else n0p_X8_divisor y0 y1
theorem h_p_X8_divisor (y0 : Nat) (y1 : Nat) : p_X8_divisor (nI y0) (nI y1) = Option.map nI (np_X8_divisor y0 y1) := by
  rw [h0_p_X8_divisor]
  unfold np_X8_divisor
  exact congrArg _ (nf_fast (fun h => z_p_X8_divisor y0 y1 h) rfl)
noncomputable def np_X8_multiple (y0 : Nat) (y1 : Nat) : Option Nat :=
  ((np_X8_divisor y0 y1).bind fun v3 => (bif neqI v3 0 then none else some ((ndivI y0 v3) * y1)))
theorem h_p_X8_multiple (y0 : Nat) (y1 : Nat) : p_X8_multiple (nI y0) (nI y1) = Option.map nI (np_X8_multiple y0 y1) := by
  unfold p_X8_multiple np_X8_multiple
  exact (hm_bind (h_p_X8_divisor y0 y1) (fun v3 => (hm_if (hc_eqI rfl rfl) rfl (congrArg some (ho_mulI (ho_divI rfl rfl) rfl)))))
noncomputable def np_X8_isM (y0 : Nat) : Option Nat :=
  ((np_X8_isIn y0 1 63).bind fun v4 => (bif nbool v4 then some v4 else none))
theorem h_p_X8_isM (y0 : Nat) : p_X8_isM (nI y0) = Option.map nI (np_X8_isM y0) := by
  unfold p_X8_isM np_X8_isM
  exact (hm_bind (h_p_X8_isIn y0 1 63) (fun v4 => (hm_if (hc_bool rfl) rfl rfl)))
noncomputable def np_X8_isRest (y0 : Nat) (y1 : Nat) : Option Nat :=
  (bif neqI y0 1 then (bif neqI y1 0 then some 1 else some 0) else ((np_X8_isIn y1 1 (nsubI y0 1)).bind fun v22 => (bif neqI v22 0 then some 0 else ((np_X8_divisor y1 y0).bind fun v30 => (bif neqI v30 1 then some 1 else some 0)))))
theorem h_p_X8_isRest (y0 : Nat) (y1 : Nat) : p_X8_isRest (nI y0) (nI y1) = Option.map nI (np_X8_isRest y0 y1) := by
  unfold p_X8_isRest np_X8_isRest
  exact (hm_if (hc_eqI rfl rfl) (hm_if (hc_eqI rfl rfl) rfl rfl) (hm_bind (Eq.trans (congr (congr (congrArg p_X8_isIn rfl) rfl) (ho_subI rfl rfl)) (h_p_X8_isIn y1 1 (nsubI y0 1))) (fun v22 => (hm_if (hc_eqI rfl rfl) rfl (hm_bind (h_p_X8_divisor y1 y0) (fun v30 => (hm_if (hc_eqI rfl rfl) rfl rfl)))))))
noncomputable def ne_X8_all_29 (x1 : Nat) : Option Nat :=
  some x1
theorem h_e_X8_all_29 (x1 : Nat) : e_X8_all_29 (lN x1) = Option.map lN (ne_X8_all_29 x1) := by
  unfold e_X8_all_29 ne_X8_all_29
  exact rfl
noncomputable def ns_X8_all_4 (x0 : Nat) (x1 : Nat) (x3 : Nat) : Option ((Nat × Nat) ⊕ Nat) :=
  (bif nleI x0 x3 then some (Sum.inr x1) else ((np_X8_isRest x0 x3).bind fun v11 => (bif neqI v11 0 then some (Sum.inl (x1, (x3 + 1))) else some (Sum.inl ((x1 ||| (njshl 1 x3)), (x3 + 1))))))
theorem h_s_X8_all_4 (x0 : Nat) (x1 : Nat) (x3 : Nat) : s_X8_all_4 (nI x0) (lN x1) (nI x3) = Option.map (Sum.map (cP lN nI) lN) (ns_X8_all_4 x0 x1 x3) := by
  unfold s_X8_all_4 ns_X8_all_4
  exact (hm_if (hc_leI rfl rfl) rfl (hm_bind (h_p_X8_isRest x0 x3) (fun v11 => (hm_if (hc_eqI rfl rfl) (congrArg some (congrArg Sum.inl (ho_pair rfl (ho_addI rfl rfl)))) (congrArg some (congrArg Sum.inl (ho_pair (ho_orJ rfl (ho_jshl rfl rfl)) (ho_addI rfl rfl))))))))
noncomputable def na_X8_all_4 (b : Nat) : Option Nat := (fun q : Nat => ne_X8_all_29 q) b
theorem h_a_X8_all_4 (b : Nat) : a_X8_all_4 (lN b) = Option.map lN (na_X8_all_4 b) := h_e_X8_all_29 b
noncomputable def ng_X8_all_4 (x0 : Nat) (x1 : Nat) (x3 : Nat) : Option Nat := (lpN (fun q : (Nat × Nat) => ns_X8_all_4 x0 q.1 q.2) pfFU (x1, x3)).bind (na_X8_all_4 )
theorem h_g_X8_all_4 (x0 : Nat) (x1 : Nat) (x3 : Nat) : g_X8_all_4 (nI x0) (lN x1) (nI x3) = Option.map lN (ng_X8_all_4 x0 x1 x3) := by
  unfold g_X8_all_4 ng_X8_all_4
  exact hm_bind (lp_hom (cP lN nI) lN (fun q => h_s_X8_all_4 x0 q.1 q.2) pfFU (x1, x3)) (fun b => h_a_X8_all_4  b)
noncomputable def n0p_X8_all (y0 : Nat) : Option Nat :=
  ng_X8_all_4 y0 0 0
theorem h0_p_X8_all (y0 : Nat) : p_X8_all (nI y0) = Option.map lN (n0p_X8_all y0) := by
  unfold p_X8_all n0p_X8_all
  exact (h_g_X8_all_4 y0 0 0)
theorem z_p_X8_all : (List.range 64).all (fun m => Nat.beq m 0 || decide (n0p_X8_all m = some (ALLT m))) = true := by decide +kernel
noncomputable def np_X8_all (y0 : Nat) : Option Nat := bif Nat.ble 1 y0 && Nat.ble y0 63 then some (ALLT y0) else n0p_X8_all y0
theorem h_p_X8_all (y0 : Nat) : p_X8_all (nI y0) = Option.map lN (np_X8_all y0) := by
  rw [h0_p_X8_all]
  unfold np_X8_all
  refine congrArg _ (nf_fast (fun h => ?_) rfl)
  obtain ⟨q0, q1⟩ := nf_and h
  have q0 := nf_le q0
  have q1 := nf_le q1
  have := List.all_eq_true.mp z_p_X8_all y0 (List.mem_range.mpr (by omega))
  rw [beq_f (show y0 ≠ 0 by omega)] at this
  exact of_decide_eq_true this
noncomputable def ne_X8_many_25 (x2 : Nat) : Option Nat :=
  some x2
theorem h_e_X8_many_25 (x2 : Nat) : e_X8_many_25 (nI x2) = Option.map nI (ne_X8_many_25 x2) := by
  unfold e_X8_many_25 ne_X8_many_25
  exact rfl
noncomputable def ns_X8_many_4 (x0 : Nat) (x2 : Nat) (x3 : Nat) : Option ((Nat × Nat) ⊕ Nat) :=
  (bif nleI 63 x3 then some (Sum.inr x2) else some (Sum.inl ((x2 + ((njshr x0 x3) &&& 1)), (x3 + 1))))
theorem h_s_X8_many_4 (x0 : Nat) (x2 : Nat) (x3 : Nat) : s_X8_many_4 (lN x0) (nI x2) (nI x3) = Option.map (Sum.map (cP nI nI) nI) (ns_X8_many_4 x0 x2 x3) := by
  unfold s_X8_many_4 ns_X8_many_4
  exact (hm_if (hc_leI rfl rfl) rfl (congrArg some (congrArg Sum.inl (ho_pair (ho_addI rfl (ho_l2i (ho_andJ (ho_jshr rfl rfl) rfl))) (ho_addI rfl rfl)))))
noncomputable def na_X8_many_4 (b : Nat) : Option Nat := (fun q : Nat => ne_X8_many_25 q) b
theorem h_a_X8_many_4 (b : Nat) : a_X8_many_4 (nI b) = Option.map nI (na_X8_many_4 b) := h_e_X8_many_25 b
noncomputable def ng_X8_many_4 (x0 : Nat) (x2 : Nat) (x3 : Nat) : Option Nat := (lpN (fun q : (Nat × Nat) => ns_X8_many_4 x0 q.1 q.2) pfFU (x2, x3)).bind (na_X8_many_4 )
theorem h_g_X8_many_4 (x0 : Nat) (x2 : Nat) (x3 : Nat) : g_X8_many_4 (lN x0) (nI x2) (nI x3) = Option.map nI (ng_X8_many_4 x0 x2 x3) := by
  unfold g_X8_many_4 ng_X8_many_4
  exact hm_bind (lp_hom (cP nI nI) nI (fun q => h_s_X8_many_4 x0 q.1 q.2) pfFU (x2, x3)) (fun b => h_a_X8_many_4  b)
noncomputable def n0p_X8_many (y0 : Nat) : Option Nat :=
  ng_X8_many_4 y0 0 0
theorem h0_p_X8_many (y0 : Nat) : p_X8_many (lN y0) = Option.map nI (n0p_X8_many y0) := by
  unfold p_X8_many n0p_X8_many
  exact (h_g_X8_many_4 y0 0 0)
theorem z_p_X8_many (y0 : Nat) (hd : (Nat.ble y0 9223372036854775807) = true) : n0p_X8_many y0 = some (popN y0 63) := by
  have q0 := nf_le hd
  have key := (ln_for (f := fun q : (Nat × Nat) => ns_X8_many_4 y0 q.1 q.2) (fun i t => (t, i)) (fun s v => v + ((y0 >>> s) &&& 1)) (fun t => t) 63 (fun _ => True) ?_ ?_ 63 0 0 pfFU (by omega) (by have := pf_FU; omega) trivial).1
  · have key : lpN (fun q : (Nat × Nat) => ns_X8_many_4 y0 q.1 q.2) pfFU (0, 0) = some (itF (fun s v => v + ((y0 >>> s) &&& 1)) 0 63 0) := key
    unfold n0p_X8_many ng_X8_many_4
    rw [key, popN_it]; rfl
  · intro i t hi _
    refine ⟨?_, trivial⟩
    show ns_X8_many_4 y0 t i = _
    unfold ns_X8_many_4
    rw [nleI_f hi (by omega), njshr_n (by omega) (by omega)]; rfl
  · intro t _
    show ns_X8_many_4 y0 t 63 = _
    unfold ns_X8_many_4
    rw [nleI_t (Nat.le_refl _) (by omega)]; rfl
noncomputable def np_X8_many (y0 : Nat) : Option Nat := bif Nat.ble y0 9223372036854775807 then some (popN y0 63) else n0p_X8_many y0
theorem h_p_X8_many (y0 : Nat) : p_X8_many (lN y0) = Option.map nI (np_X8_many y0) := by
  rw [h0_p_X8_many]
  unfold np_X8_many
  exact congrArg _ (nf_fast (fun h => z_p_X8_many y0 h) rfl)
noncomputable def ne_X8_power_25 (x3 : Nat) : Option Nat :=
  some x3
theorem h_e_X8_power_25 (x3 : Nat) : e_X8_power_25 (nI x3) = Option.map nI (ne_X8_power_25 x3) := by
  unfold e_X8_power_25 ne_X8_power_25
  exact rfl
noncomputable def ns_X8_power_7 (x0 : Nat) (x1 : Nat) (x2 : Nat) (x3 : Nat) (x4 : Nat) : Option ((Nat × Nat) ⊕ Nat) :=
  (bif nleI x2 x4 then some (Sum.inr x3) else (bif neqI x0 0 then none else some (Sum.inl ((njrem (x3 * x1) x0), (x4 + 1)))))
theorem h_s_X8_power_7 (x0 : Nat) (x1 : Nat) (x2 : Nat) (x3 : Nat) (x4 : Nat) : s_X8_power_7 (nI x0) (nI x1) (nI x2) (nI x3) (nI x4) = Option.map (Sum.map (cP nI nI) nI) (ns_X8_power_7 x0 x1 x2 x3 x4) := by
  unfold s_X8_power_7 ns_X8_power_7
  exact (hm_if (hc_leI rfl rfl) rfl (hm_if (hc_eqI rfl rfl) rfl (congrArg some (congrArg Sum.inl (ho_pair (ho_jrem (ho_mulI rfl rfl) rfl) (ho_addI rfl rfl))))))
noncomputable def na_X8_power_7 (b : Nat) : Option Nat := (fun q : Nat => ne_X8_power_25 q) b
theorem h_a_X8_power_7 (b : Nat) : a_X8_power_7 (nI b) = Option.map nI (na_X8_power_7 b) := h_e_X8_power_25 b
noncomputable def ng_X8_power_7 (x0 : Nat) (x1 : Nat) (x2 : Nat) (x3 : Nat) (x4 : Nat) : Option Nat := (lpN (fun q : (Nat × Nat) => ns_X8_power_7 x0 x1 x2 q.1 q.2) pfFU (x3, x4)).bind (na_X8_power_7 )
theorem h_g_X8_power_7 (x0 : Nat) (x1 : Nat) (x2 : Nat) (x3 : Nat) (x4 : Nat) : g_X8_power_7 (nI x0) (nI x1) (nI x2) (nI x3) (nI x4) = Option.map nI (ng_X8_power_7 x0 x1 x2 x3 x4) := by
  unfold g_X8_power_7 ng_X8_power_7
  exact hm_bind (lp_hom (cP nI nI) nI (fun q => h_s_X8_power_7 x0 x1 x2 q.1 q.2) pfFU (x3, x4)) (fun b => h_a_X8_power_7  b)
noncomputable def n0p_X8_power (y0 : Nat) (y1 : Nat) (y2 : Nat) : Option Nat :=
  (bif neqI y0 0 then none else ng_X8_power_7 y0 y1 y2 (njrem 1 y0) 0)
theorem h0_p_X8_power (y0 : Nat) (y1 : Nat) (y2 : Nat) : p_X8_power (nI y0) (nI y1) (nI y2) = Option.map nI (n0p_X8_power y0 y1 y2) := by
  unfold p_X8_power n0p_X8_power
  exact (hm_if (hc_eqI rfl rfl) rfl (Eq.trans (congr (congr (congr (congr (congrArg g_X8_power_7 rfl) rfl) rfl) (ho_jrem rfl rfl)) rfl) (h_g_X8_power_7 y0 y1 y2 (njrem 1 y0) 0)))
theorem z_p_X8_power (y0 : Nat) (y1 : Nat) (y2 : Nat) (hd : ((Nat.ble 1 y0 && Nat.ble y0 63) && (Nat.ble y1 63 && Nat.ble y2 65000)) = true) : n0p_X8_power y0 y1 y2 = some (Nat.mod (Nat.pow y1 y2) y0) := by
  obtain ⟨q1, q2⟩ := nf_and hd
  obtain ⟨q0, q1⟩ := nf_and q1
  obtain ⟨q2, q3⟩ := nf_and q2
  have q0 := nf_le q0
  have q1 := nf_le q1
  have q2 := nf_le q2
  have q3 := nf_le q3
  have key := (ln_for (f := fun q : (Nat × Nat) => ns_X8_power_7 y0 y1 y2 q.1 q.2) (fun i t => (t, i)) (fun _ v => v * y1 % y0) (fun t => t) y2 (fun t => t < 63) ?_ ?_ y2 0 (1 % y0) pfFU (by omega) (by have := pf_FU; omega) (by have := Nat.mod_lt 1 (show 0 < y0 by omega); omega)).1
  · unfold n0p_X8_power
    rw [neqI_f (show y0 ≠ 0 by omega) (by omega) (by decide), njrem_n (by decide) (by omega) (by omega)]
    show (lpN _ pfFU (1 % y0, 0)).bind _ = _
    rw [key, powN_it]; rfl
  · intro i t hi ht
    have hmul : t * y1 < 2147483648 := Nat.lt_of_le_of_lt (Nat.mul_le_mul (show t ≤ 63 by omega) q2) (by decide)
    have hmod := Nat.mod_lt (t * y1) (show 0 < y0 by omega)
    refine ⟨?_, by show t * y1 % y0 < 63; omega⟩
    show ns_X8_power_7 y0 y1 y2 t i = _
    unfold ns_X8_power_7
    rw [nleI_f hi (by omega), neqI_f (show y0 ≠ 0 by omega) (by omega) (by decide), njrem_n hmul (by omega) (by omega)]; rfl
  · intro t _
    show ns_X8_power_7 y0 y1 y2 t y2 = _
    unfold ns_X8_power_7
    rw [nleI_t (Nat.le_refl _) (by omega)]; rfl
noncomputable def np_X8_power (y0 : Nat) (y1 : Nat) (y2 : Nat) : Option Nat := bif (Nat.ble 1 y0 && Nat.ble y0 63) && (Nat.ble y1 63 && Nat.ble y2 65000) then some (Nat.mod (Nat.pow y1 y2) y0) else n0p_X8_power y0 y1 y2
theorem h_p_X8_power (y0 : Nat) (y1 : Nat) (y2 : Nat) : p_X8_power (nI y0) (nI y1) (nI y2) = Option.map nI (np_X8_power y0 y1 y2) := by
  rw [h0_p_X8_power]
  unfold np_X8_power
  exact congrArg _ (nf_fast (fun h => z_p_X8_power y0 y1 y2 h) rfl)
noncomputable def ne_X8_killed_43 (x2 : Nat) : Option Nat :=
  some x2
theorem h_e_X8_killed_43 (x2 : Nat) : e_X8_killed_43 (nI x2) = Option.map nI (ne_X8_killed_43 x2) := by
  unfold e_X8_killed_43 ne_X8_killed_43
  exact rfl
noncomputable def ns_X8_killed_4 (x0 : Nat) (x1 : Nat) (x2 : Nat) (x3 : Nat) : Option ((Nat × Nat) ⊕ Nat) :=
  (bif nleI x0 x3 then some (Sum.inr x2) else ((np_X8_isRest x0 x3).bind fun v12 => (bif neqI v12 0 then some (Sum.inl ((x2 + 0), (x3 + 1))) else ((np_X8_power x0 x3 x1).bind fun v21 => (bif neqI x0 0 then none else (bif neqI v21 (njrem 1 x0) then some (Sum.inl ((x2 + 1), (x3 + 1))) else some (Sum.inl ((x2 + 0), (x3 + 1)))))))))
theorem h_s_X8_killed_4 (x0 : Nat) (x1 : Nat) (x2 : Nat) (x3 : Nat) : s_X8_killed_4 (nI x0) (nI x1) (nI x2) (nI x3) = Option.map (Sum.map (cP nI nI) nI) (ns_X8_killed_4 x0 x1 x2 x3) := by
  unfold s_X8_killed_4 ns_X8_killed_4
  exact (hm_if (hc_leI rfl rfl) rfl (hm_bind (h_p_X8_isRest x0 x3) (fun v12 => (hm_if (hc_eqI rfl rfl) (congrArg some (congrArg Sum.inl (ho_pair (ho_addI rfl rfl) (ho_addI rfl rfl)))) (hm_bind (h_p_X8_power x0 x3 x1) (fun v21 => (hm_if (hc_eqI rfl rfl) rfl (hm_if (hc_eqI rfl (ho_jrem rfl rfl)) (congrArg some (congrArg Sum.inl (ho_pair (ho_addI rfl rfl) (ho_addI rfl rfl)))) (congrArg some (congrArg Sum.inl (ho_pair (ho_addI rfl rfl) (ho_addI rfl rfl))))))))))))
noncomputable def na_X8_killed_4 (b : Nat) : Option Nat := (fun q : Nat => ne_X8_killed_43 q) b
theorem h_a_X8_killed_4 (b : Nat) : a_X8_killed_4 (nI b) = Option.map nI (na_X8_killed_4 b) := h_e_X8_killed_43 b
noncomputable def ng_X8_killed_4 (x0 : Nat) (x1 : Nat) (x2 : Nat) (x3 : Nat) : Option Nat := (lpN (fun q : (Nat × Nat) => ns_X8_killed_4 x0 x1 q.1 q.2) pfFU (x2, x3)).bind (na_X8_killed_4 )
theorem h_g_X8_killed_4 (x0 : Nat) (x1 : Nat) (x2 : Nat) (x3 : Nat) : g_X8_killed_4 (nI x0) (nI x1) (nI x2) (nI x3) = Option.map nI (ng_X8_killed_4 x0 x1 x2 x3) := by
  unfold g_X8_killed_4 ng_X8_killed_4
  exact hm_bind (lp_hom (cP nI nI) nI (fun q => h_s_X8_killed_4 x0 x1 q.1 q.2) pfFU (x2, x3)) (fun b => h_a_X8_killed_4  b)
noncomputable def np_X8_killed (y0 : Nat) (y1 : Nat) : Option Nat :=
  ng_X8_killed_4 y0 y1 0 0
theorem h_p_X8_killed (y0 : Nat) (y1 : Nat) : p_X8_killed (nI y0) (nI y1) = Option.map nI (np_X8_killed y0 y1) := by
  unfold p_X8_killed np_X8_killed
  exact (h_g_X8_killed_4 y0 y1 0 0)
noncomputable def ne_X8_cycles_57 (x4 : Nat) : Option Nat :=
  some x4
theorem h_e_X8_cycles_57 (x4 : Nat) : e_X8_cycles_57 (nI x4) = Option.map nI (ne_X8_cycles_57 x4) := by
  unfold e_X8_cycles_57 ne_X8_cycles_57
  exact rfl
noncomputable def ns_X8_cycles_39 (x1 : Nat) (x4 : Nat) (x5 : Nat) : Option ((Nat × Nat) ⊕ Nat) :=
  (bif nleI x5 1 then some (Sum.inr x4) else (bif neqI x1 0 then none else some (Sum.inl ((x4 + 1), (ndivI x5 x1)))))
theorem h_s_X8_cycles_39 (x1 : Nat) (x4 : Nat) (x5 : Nat) : s_X8_cycles_39 (nI x1) (nI x4) (nI x5) = Option.map (Sum.map (cP nI nI) nI) (ns_X8_cycles_39 x1 x4 x5) := by
  unfold s_X8_cycles_39 ns_X8_cycles_39
  exact (hm_if (hc_leI rfl rfl) rfl (hm_if (hc_eqI rfl rfl) rfl (congrArg some (congrArg Sum.inl (ho_pair (ho_addI rfl rfl) (ho_divI rfl rfl))))))
noncomputable def na_X8_cycles_39 (b : Nat) : Option Nat := (fun q : Nat => ne_X8_cycles_57 q) b
theorem h_a_X8_cycles_39 (b : Nat) : a_X8_cycles_39 (nI b) = Option.map nI (na_X8_cycles_39 b) := h_e_X8_cycles_57 b
noncomputable def ng_X8_cycles_39 (x1 : Nat) (x4 : Nat) (x5 : Nat) : Option Nat := (lpN (fun q : (Nat × Nat) => ns_X8_cycles_39 x1 q.1 q.2) pfFU (x4, x5)).bind (na_X8_cycles_39 )
theorem h_g_X8_cycles_39 (x1 : Nat) (x4 : Nat) (x5 : Nat) : g_X8_cycles_39 (nI x1) (nI x4) (nI x5) = Option.map nI (ng_X8_cycles_39 x1 x4 x5) := by
  unfold g_X8_cycles_39 ng_X8_cycles_39
  exact hm_bind (lp_hom (cP nI nI) nI (fun q => h_s_X8_cycles_39 x1 q.1 q.2) pfFU (x4, x5)) (fun b => h_a_X8_cycles_39  b)
noncomputable def ne_X8_cycles_21 (x0 : Nat) (x1 : Nat) (x3 : Nat) : Option Nat :=
  ((np_X8_killed x0 (x3 * x1)).bind fun v28 => ((np_X8_killed x0 x3).bind fun v33 => (bif neqI v33 0 then none else ng_X8_cycles_39 x1 0 (ndivI v28 v33))))
theorem h_e_X8_cycles_21 (x0 : Nat) (x1 : Nat) (x3 : Nat) : e_X8_cycles_21 (nI x0) (nI x1) (nI x3) = Option.map nI (ne_X8_cycles_21 x0 x1 x3) := by
  unfold e_X8_cycles_21 ne_X8_cycles_21
  exact (hm_bind (Eq.trans (congr (congrArg p_X8_killed rfl) (ho_mulI rfl rfl)) (h_p_X8_killed x0 (x3 * x1))) (fun v28 => (hm_bind (h_p_X8_killed x0 x3) (fun v33 => (hm_if (hc_eqI rfl rfl) rfl (Eq.trans (congr (congr (congrArg g_X8_cycles_39 rfl) rfl) (ho_divI rfl rfl)) (h_g_X8_cycles_39 x1 0 (ndivI v28 v33))))))))
noncomputable def ns_X8_cycles_5 (x0 : Nat) (x1 : Nat) (x2 : Nat) (x3 : Nat) (x4 : Nat) : Option ((Nat × Nat) ⊕ Nat) :=
  (bif nleI x2 x4 then some (Sum.inr x3) else some (Sum.inl ((x3 * x1), (x4 + 1))))
theorem h_s_X8_cycles_5 (x0 : Nat) (x1 : Nat) (x2 : Nat) (x3 : Nat) (x4 : Nat) : s_X8_cycles_5 (nI x0) (nI x1) (nI x2) (nI x3) (nI x4) = Option.map (Sum.map (cP nI nI) nI) (ns_X8_cycles_5 x0 x1 x2 x3 x4) := by
  unfold s_X8_cycles_5 ns_X8_cycles_5
  exact (hm_if (hc_leI rfl rfl) rfl (congrArg some (congrArg Sum.inl (ho_pair (ho_mulI rfl rfl) (ho_addI rfl rfl)))))
noncomputable def na_X8_cycles_5 (x0 : Nat) (x1 : Nat) (b : Nat) : Option Nat := (fun q : Nat => ne_X8_cycles_21 x0 x1 q) b
theorem h_a_X8_cycles_5 (x0 : Nat) (x1 : Nat) (b : Nat) : a_X8_cycles_5 (nI x0) (nI x1) (nI b) = Option.map nI (na_X8_cycles_5 x0 x1 b) := h_e_X8_cycles_21 x0 x1 b
noncomputable def ng_X8_cycles_5 (x0 : Nat) (x1 : Nat) (x2 : Nat) (x3 : Nat) (x4 : Nat) : Option Nat := (lpN (fun q : (Nat × Nat) => ns_X8_cycles_5 x0 x1 x2 q.1 q.2) pfFU (x3, x4)).bind (na_X8_cycles_5 x0 x1)
theorem h_g_X8_cycles_5 (x0 : Nat) (x1 : Nat) (x2 : Nat) (x3 : Nat) (x4 : Nat) : g_X8_cycles_5 (nI x0) (nI x1) (nI x2) (nI x3) (nI x4) = Option.map nI (ng_X8_cycles_5 x0 x1 x2 x3 x4) := by
  unfold g_X8_cycles_5 ng_X8_cycles_5
  exact hm_bind (lp_hom (cP nI nI) nI (fun q => h_s_X8_cycles_5 x0 x1 x2 q.1 q.2) pfFU (x3, x4)) (fun b => h_a_X8_cycles_5 x0 x1 b)
noncomputable def np_X8_cycles (y0 : Nat) (y1 : Nat) (y2 : Nat) : Option Nat :=
  ng_X8_cycles_5 y0 y1 y2 1 1
theorem h_p_X8_cycles (y0 : Nat) (y1 : Nat) (y2 : Nat) : p_X8_cycles (nI y0) (nI y1) (nI y2) = Option.map nI (np_X8_cycles y0 y1 y2) := by
  unfold p_X8_cycles np_X8_cycles
  exact (h_g_X8_cycles_5 y0 y1 y2 1 1)
noncomputable def ne_X8_isPrime_42 (x1 : Nat) : Option Nat :=
  (bif nbool x1 then some x1 else none)
theorem h_e_X8_isPrime_42 (x1 : Nat) : e_X8_isPrime_42 (nI x1) = Option.map nI (ne_X8_isPrime_42 x1) := by
  unfold e_X8_isPrime_42 ne_X8_isPrime_42
  exact (hm_if (hc_bool rfl) rfl rfl)
noncomputable def ns_X8_isPrime_13 (x0 : Nat) (x1 : Nat) (x2 : Nat) : Option ((Nat × Nat) ⊕ Nat) :=
  (bif nltI x0 (x2 * x2) then some (Sum.inr x1) else (bif neqI x1 0 then some (Sum.inr x1) else (bif neqI x2 0 then none else (bif neqI (njrem x0 x2) 0 then some (Sum.inl (0, (x2 + 1))) else some (Sum.inl (1, (x2 + 1)))))))
theorem h_s_X8_isPrime_13 (x0 : Nat) (x1 : Nat) (x2 : Nat) : s_X8_isPrime_13 (nI x0) (nI x1) (nI x2) = Option.map (Sum.map (cP nI nI) nI) (ns_X8_isPrime_13 x0 x1 x2) := by
  unfold s_X8_isPrime_13 ns_X8_isPrime_13
  exact (hm_if (hc_ltI rfl (ho_mulI rfl rfl)) rfl (hm_if (hc_eqI rfl rfl) rfl (hm_if (hc_eqI rfl rfl) rfl (hm_if (hc_eqI (ho_jrem rfl rfl) rfl) (congrArg some (congrArg Sum.inl (ho_pair rfl (ho_addI rfl rfl)))) (congrArg some (congrArg Sum.inl (ho_pair rfl (ho_addI rfl rfl))))))))
noncomputable def na_X8_isPrime_13 (b : Nat) : Option Nat := (fun q : Nat => ne_X8_isPrime_42 q) b
theorem h_a_X8_isPrime_13 (b : Nat) : a_X8_isPrime_13 (nI b) = Option.map nI (na_X8_isPrime_13 b) := h_e_X8_isPrime_42 b
noncomputable def ng_X8_isPrime_13 (x0 : Nat) (x1 : Nat) (x2 : Nat) : Option Nat := (lpN (fun q : (Nat × Nat) => ns_X8_isPrime_13 x0 q.1 q.2) pfFU (x1, x2)).bind (na_X8_isPrime_13 )
theorem h_g_X8_isPrime_13 (x0 : Nat) (x1 : Nat) (x2 : Nat) : g_X8_isPrime_13 (nI x0) (nI x1) (nI x2) = Option.map nI (ng_X8_isPrime_13 x0 x1 x2) := by
  unfold g_X8_isPrime_13 ng_X8_isPrime_13
  exact hm_bind (lp_hom (cP nI nI) nI (fun q => h_s_X8_isPrime_13 x0 q.1 q.2) pfFU (x1, x2)) (fun b => h_a_X8_isPrime_13  b)
noncomputable def np_X8_isPrime (y0 : Nat) : Option Nat :=
  (bif nleI y0 1 then ng_X8_isPrime_13 y0 0 2 else ng_X8_isPrime_13 y0 1 2)
theorem h_p_X8_isPrime (y0 : Nat) : p_X8_isPrime (nI y0) = Option.map nI (np_X8_isPrime y0) := by
  unfold p_X8_isPrime np_X8_isPrime
  exact (hm_if (hc_leI rfl rfl) (h_g_X8_isPrime_13 y0 0 2) (h_g_X8_isPrime_13 y0 1 2))
noncomputable def ne_X8_times_42 (x4 : Nat) : Option Nat :=
  some x4
theorem h_e_X8_times_42 (x4 : Nat) : e_X8_times_42 (lN x4) = Option.map lN (ne_X8_times_42 x4) := by
  unfold e_X8_times_42 ne_X8_times_42
  exact rfl
noncomputable def ns_X8_times_6 (x0 : Nat) (x1 : Nat) (x3 : Nat) (x4 : Nat) (x6 : Nat) : Option ((Nat × Nat) ⊕ Nat) :=
  (bif nleI x0 x6 then some (Sum.inr x4) else (bif neqJ ((njshr x1 x6) &&& 1) 1 then (bif neqI x0 0 then none else some (Sum.inl ((x4 ||| (njshl 1 (njrem (x6 * x3) x0))), (x6 + 1)))) else some (Sum.inl (x4, (x6 + 1)))))
theorem h_s_X8_times_6 (x0 : Nat) (x1 : Nat) (x3 : Nat) (x4 : Nat) (x6 : Nat) : s_X8_times_6 (nI x0) (lN x1) (nI x3) (lN x4) (nI x6) = Option.map (Sum.map (cP lN nI) lN) (ns_X8_times_6 x0 x1 x3 x4 x6) := by
  unfold s_X8_times_6 ns_X8_times_6
  exact (hm_if (hc_leI rfl rfl) rfl (hm_if (hc_eqJ (ho_andJ (ho_jshr rfl rfl) rfl) rfl) (hm_if (hc_eqI rfl rfl) rfl (congrArg some (congrArg Sum.inl (ho_pair (ho_orJ rfl (ho_jshl rfl (ho_jrem (ho_mulI rfl rfl) rfl))) (ho_addI rfl rfl))))) (congrArg some (congrArg Sum.inl (ho_pair rfl (ho_addI rfl rfl))))))
noncomputable def na_X8_times_6 (b : Nat) : Option Nat := (fun q : Nat => ne_X8_times_42 q) b
theorem h_a_X8_times_6 (b : Nat) : a_X8_times_6 (lN b) = Option.map lN (na_X8_times_6 b) := h_e_X8_times_42 b
noncomputable def ng_X8_times_6 (x0 : Nat) (x1 : Nat) (x3 : Nat) (x4 : Nat) (x6 : Nat) : Option Nat := (lpN (fun q : (Nat × Nat) => ns_X8_times_6 x0 x1 x3 q.1 q.2) pfFU (x4, x6)).bind (na_X8_times_6 )
theorem h_g_X8_times_6 (x0 : Nat) (x1 : Nat) (x3 : Nat) (x4 : Nat) (x6 : Nat) : g_X8_times_6 (nI x0) (lN x1) (nI x3) (lN x4) (nI x6) = Option.map lN (ng_X8_times_6 x0 x1 x3 x4 x6) := by
  unfold g_X8_times_6 ng_X8_times_6
  exact hm_bind (lp_hom (cP lN nI) lN (fun q => h_s_X8_times_6 x0 x1 x3 q.1 q.2) pfFU (x4, x6)) (fun b => h_a_X8_times_6  b)
noncomputable def n0p_X8_times (y0 : Nat) (y1 : Nat) (y3 : Nat) : Option Nat :=
  ng_X8_times_6 y0 y1 y3 0 0
theorem h0_p_X8_times (y0 : Nat) (y1 : Nat) (y3 : Nat) : p_X8_times (nI y0) (lN y1) (nI y3) = Option.map lN (n0p_X8_times y0 y1 y3) := by
  unfold p_X8_times n0p_X8_times
  exact (h_g_X8_times_6 y0 y1 y3 0 0)
theorem z_p_X8_times (y0 : Nat) (y1 : Nat) (y3 : Nat) (hd : ((Nat.ble 1 y0 && Nat.ble y0 63) && (Nat.ble y1 9223372036854775807 && Nat.ble y3 63)) = true) : n0p_X8_times y0 y1 y3 = some (timesN y0 y1 y3) := by
  obtain ⟨q1, q2⟩ := nf_and hd
  obtain ⟨q0, q1⟩ := nf_and q1
  obtain ⟨q2, q3⟩ := nf_and q2
  have q0 := nf_le q0
  have q1 := nf_le q1
  have q2 := nf_le q2
  have q3 := nf_le q3
  have key := (ln_for (f := fun q : (Nat × Nat) => ns_X8_times_6 y0 y1 y3 q.1 q.2) (fun i t => (t, i)) (fun s v => bif Nat.beq ((y1 >>> s) &&& 1) 1 then v ||| (1 <<< (s * y3 % y0)) else v) (fun t => t) y0 (fun _ => True) ?_ ?_ y0 0 0 pfFU (by omega) (by have := pf_FU; omega) trivial).1
  · show (lpN _ pfFU (0, 0)).bind _ = _
    rw [key, timesN_it]; rfl
  · intro i t hi _
    refine ⟨?_, trivial⟩
    have hmul : i * y3 < 2147483648 := Nat.lt_of_le_of_lt (Nat.mul_le_mul (show i ≤ 63 by omega) q3) (by decide)
    have hmod := Nat.mod_lt (i * y3) (show 0 < y0 by omega)
    have hb := and1_lt (y1 >>> i)
    show ns_X8_times_6 y0 y1 y3 t i = _
    unfold ns_X8_times_6
    rw [nleI_f hi (by omega), njshr_n (by omega) (by omega), neqJ_n (by omega) (by decide), neqI_f (by omega) (by omega) (by decide), njrem_n hmul (by omega) (by omega), njshl_n (by omega)]
    cases Nat.beq ((y1 >>> i) &&& 1) 1 <;> rfl
  · intro t _
    show ns_X8_times_6 y0 y1 y3 t y0 = _
    unfold ns_X8_times_6
    rw [nleI_t (Nat.le_refl _) (by omega)]; rfl
noncomputable def np_X8_times (y0 : Nat) (y1 : Nat) (y3 : Nat) : Option Nat := bif (Nat.ble 1 y0 && Nat.ble y0 63) && (Nat.ble y1 9223372036854775807 && Nat.ble y3 63) then some (timesN y0 y1 y3) else n0p_X8_times y0 y1 y3
theorem h_p_X8_times (y0 : Nat) (y1 : Nat) (y3 : Nat) : p_X8_times (nI y0) (lN y1) (nI y3) = Option.map lN (np_X8_times y0 y1 y3) := by
  rw [h0_p_X8_times]
  unfold np_X8_times
  exact congrArg _ (nf_fast (fun h => z_p_X8_times y0 y1 y3 h) rfl)
noncomputable def ne_X8_with_37 (x4 : Nat) : Option Nat :=
  some x4
theorem h_e_X8_with_37 (x4 : Nat) : e_X8_with_37 (lN x4) = Option.map lN (ne_X8_with_37 x4) := by
  unfold e_X8_with_37 ne_X8_with_37
  exact rfl
noncomputable def ns_X8_with_11 (x0 : Nat) (x1 : Nat) (x3 : Nat) (x4 : Nat) (x6 : Nat) : Option ((Nat × Nat) ⊕ Nat) :=
  (bif neqJ x6 x1 then some (Sum.inr x4) else ((np_X8_times x0 x6 x3).bind fun v29 => some (Sum.inl ((x4 ||| x6), v29))))
theorem h_s_X8_with_11 (x0 : Nat) (x1 : Nat) (x3 : Nat) (x4 : Nat) (x6 : Nat) : s_X8_with_11 (nI x0) (lN x1) (nI x3) (lN x4) (lN x6) = Option.map (Sum.map (cP lN lN) lN) (ns_X8_with_11 x0 x1 x3 x4 x6) := by
  unfold s_X8_with_11 ns_X8_with_11
  exact (hm_if (hc_eqJ rfl rfl) rfl (hm_bind (h_p_X8_times x0 x6 x3) (fun v29 => (congrArg some (congrArg Sum.inl (ho_pair (ho_orJ rfl rfl) rfl))))))
noncomputable def na_X8_with_11 (b : Nat) : Option Nat := (fun q : Nat => ne_X8_with_37 q) b
theorem h_a_X8_with_11 (b : Nat) : a_X8_with_11 (lN b) = Option.map lN (na_X8_with_11 b) := h_e_X8_with_37 b
noncomputable def ng_X8_with_11 (x0 : Nat) (x1 : Nat) (x3 : Nat) (x4 : Nat) (x6 : Nat) : Option Nat := (lpN (fun q : (Nat × Nat) => ns_X8_with_11 x0 x1 x3 q.1 q.2) pfFU (x4, x6)).bind (na_X8_with_11 )
theorem h_g_X8_with_11 (x0 : Nat) (x1 : Nat) (x3 : Nat) (x4 : Nat) (x6 : Nat) : g_X8_with_11 (nI x0) (lN x1) (nI x3) (lN x4) (lN x6) = Option.map lN (ng_X8_with_11 x0 x1 x3 x4 x6) := by
  unfold g_X8_with_11 ng_X8_with_11
  exact hm_bind (lp_hom (cP lN lN) lN (fun q => h_s_X8_with_11 x0 x1 x3 q.1 q.2) pfFU (x4, x6)) (fun b => h_a_X8_with_11  b)
noncomputable def np_X8_with (y0 : Nat) (y1 : Nat) (y3 : Nat) : Option Nat :=
  ((np_X8_times y0 y1 y3).bind fun v6 => ng_X8_with_11 y0 y1 y3 y1 v6)
theorem h_p_X8_with (y0 : Nat) (y1 : Nat) (y3 : Nat) : p_X8_with (nI y0) (lN y1) (nI y3) = Option.map lN (np_X8_with y0 y1 y3) := by
  unfold p_X8_with np_X8_with
  exact (hm_bind (h_p_X8_times y0 y1 y3) (fun v6 => (h_g_X8_with_11 y0 y1 y3 y1 v6)))
noncomputable def np_X8_one (y0 : Nat) : Option Nat :=
  (bif neqI y0 0 then none else some (njshl 1 (njrem 1 y0)))
theorem h_p_X8_one (y0 : Nat) : p_X8_one (nI y0) = Option.map lN (np_X8_one y0) := by
  unfold p_X8_one np_X8_one
  exact (hm_if (hc_eqI rfl rfl) rfl (congrArg some (ho_jshl rfl (ho_jrem rfl rfl))))
noncomputable def ne_X8_product_39 (x5 : Nat) : Option Nat :=
  some x5
theorem h_e_X8_product_39 (x5 : Nat) : e_X8_product_39 (lN x5) = Option.map lN (ne_X8_product_39 x5) := by
  unfold e_X8_product_39 ne_X8_product_39
  exact rfl
noncomputable def ns_X8_product_6 (x0 : Nat) (x3 : Nat) (x5 : Nat) (x7 : Nat) : Option ((Nat × Nat) ⊕ Nat) :=
  (bif nleI x0 x7 then some (Sum.inr x5) else (bif neqJ ((njshr x3 x7) &&& 1) 1 then ((np_X8_with x0 x5 x7).bind fun v28 => some (Sum.inl (v28, (x7 + 1)))) else some (Sum.inl (x5, (x7 + 1)))))
theorem h_s_X8_product_6 (x0 : Nat) (x3 : Nat) (x5 : Nat) (x7 : Nat) : s_X8_product_6 (nI x0) (lN x3) (lN x5) (nI x7) = Option.map (Sum.map (cP lN nI) lN) (ns_X8_product_6 x0 x3 x5 x7) := by
  unfold s_X8_product_6 ns_X8_product_6
  exact (hm_if (hc_leI rfl rfl) rfl (hm_if (hc_eqJ (ho_andJ (ho_jshr rfl rfl) rfl) rfl) (hm_bind (h_p_X8_with x0 x5 x7) (fun v28 => (congrArg some (congrArg Sum.inl (ho_pair rfl (ho_addI rfl rfl)))))) (congrArg some (congrArg Sum.inl (ho_pair rfl (ho_addI rfl rfl))))))
noncomputable def na_X8_product_6 (b : Nat) : Option Nat := (fun q : Nat => ne_X8_product_39 q) b
theorem h_a_X8_product_6 (b : Nat) : a_X8_product_6 (lN b) = Option.map lN (na_X8_product_6 b) := h_e_X8_product_39 b
noncomputable def ng_X8_product_6 (x0 : Nat) (x3 : Nat) (x5 : Nat) (x7 : Nat) : Option Nat := (lpN (fun q : (Nat × Nat) => ns_X8_product_6 x0 x3 q.1 q.2) pfFU (x5, x7)).bind (na_X8_product_6 )
theorem h_g_X8_product_6 (x0 : Nat) (x3 : Nat) (x5 : Nat) (x7 : Nat) : g_X8_product_6 (nI x0) (lN x3) (lN x5) (nI x7) = Option.map lN (ng_X8_product_6 x0 x3 x5 x7) := by
  unfold g_X8_product_6 ng_X8_product_6
  exact hm_bind (lp_hom (cP lN nI) lN (fun q => h_s_X8_product_6 x0 x3 q.1 q.2) pfFU (x5, x7)) (fun b => h_a_X8_product_6  b)
noncomputable def np_X8_product (y0 : Nat) (y1 : Nat) (y3 : Nat) : Option Nat :=
  ng_X8_product_6 y0 y3 y1 0
theorem h_p_X8_product (y0 : Nat) (y1 : Nat) (y3 : Nat) : p_X8_product (nI y0) (lN y1) (lN y3) = Option.map lN (np_X8_product y0 y1 y3) := by
  unfold p_X8_product np_X8_product
  exact (h_g_X8_product_6 y0 y3 y1 0)
noncomputable def ne_X8_onesBy_43 (x2 : Nat) : Option Nat :=
  some x2
theorem h_e_X8_onesBy_43 (x2 : Nat) : e_X8_onesBy_43 (lN x2) = Option.map lN (ne_X8_onesBy_43 x2) := by
  unfold e_X8_onesBy_43 ne_X8_onesBy_43
  exact rfl
noncomputable def ns_X8_onesBy_5 (x0 : Nat) (x1 : Nat) (x2 : Nat) (x4 : Nat) : Option ((Nat × Nat) ⊕ Nat) :=
  (bif nleI x0 x4 then some (Sum.inr x2) else ((np_X8_isRest x0 x4).bind fun v14 => (bif neqI v14 0 then some (Sum.inl (x2, (x4 + 1))) else (bif neqI x1 0 then none else (bif neqI x1 0 then none else (bif neqI (njrem x4 x1) (njrem 1 x1) then some (Sum.inl ((x2 ||| (njshl 1 x4)), (x4 + 1))) else some (Sum.inl (x2, (x4 + 1)))))))))
theorem h_s_X8_onesBy_5 (x0 : Nat) (x1 : Nat) (x2 : Nat) (x4 : Nat) : s_X8_onesBy_5 (nI x0) (nI x1) (lN x2) (nI x4) = Option.map (Sum.map (cP lN nI) lN) (ns_X8_onesBy_5 x0 x1 x2 x4) := by
  unfold s_X8_onesBy_5 ns_X8_onesBy_5
  exact (hm_if (hc_leI rfl rfl) rfl (hm_bind (h_p_X8_isRest x0 x4) (fun v14 => (hm_if (hc_eqI rfl rfl) (congrArg some (congrArg Sum.inl (ho_pair rfl (ho_addI rfl rfl)))) (hm_if (hc_eqI rfl rfl) rfl (hm_if (hc_eqI rfl rfl) rfl (hm_if (hc_eqI (ho_jrem rfl rfl) (ho_jrem rfl rfl)) (congrArg some (congrArg Sum.inl (ho_pair (ho_orJ rfl (ho_jshl rfl rfl)) (ho_addI rfl rfl)))) (congrArg some (congrArg Sum.inl (ho_pair rfl (ho_addI rfl rfl)))))))))))
noncomputable def na_X8_onesBy_5 (b : Nat) : Option Nat := (fun q : Nat => ne_X8_onesBy_43 q) b
theorem h_a_X8_onesBy_5 (b : Nat) : a_X8_onesBy_5 (lN b) = Option.map lN (na_X8_onesBy_5 b) := h_e_X8_onesBy_43 b
noncomputable def ng_X8_onesBy_5 (x0 : Nat) (x1 : Nat) (x2 : Nat) (x4 : Nat) : Option Nat := (lpN (fun q : (Nat × Nat) => ns_X8_onesBy_5 x0 x1 q.1 q.2) pfFU (x2, x4)).bind (na_X8_onesBy_5 )
theorem h_g_X8_onesBy_5 (x0 : Nat) (x1 : Nat) (x2 : Nat) (x4 : Nat) : g_X8_onesBy_5 (nI x0) (nI x1) (lN x2) (nI x4) = Option.map lN (ng_X8_onesBy_5 x0 x1 x2 x4) := by
  unfold g_X8_onesBy_5 ng_X8_onesBy_5
  exact hm_bind (lp_hom (cP lN nI) lN (fun q => h_s_X8_onesBy_5 x0 x1 q.1 q.2) pfFU (x2, x4)) (fun b => h_a_X8_onesBy_5  b)
noncomputable def np_X8_onesBy (y0 : Nat) (y1 : Nat) : Option Nat :=
  ng_X8_onesBy_5 y0 y1 0 0
theorem h_p_X8_onesBy (y0 : Nat) (y1 : Nat) : p_X8_onesBy (nI y0) (nI y1) = Option.map lN (np_X8_onesBy y0 y1) := by
  unfold p_X8_onesBy np_X8_onesBy
  exact (h_g_X8_onesBy_5 y0 y1 0 0)
noncomputable def ne_X8_barOf_41 (x0 : Nat) : Option Nat :=
  some x0
theorem h_e_X8_barOf_41 (x0 : Nat) : e_X8_barOf_41 (nI x0) = Option.map nI (ne_X8_barOf_41 x0) := by
  unfold e_X8_barOf_41 ne_X8_barOf_41
  exact rfl
noncomputable def ne_X8_barOf_33 (x3 : Nat) : Option Nat :=
  some x3
theorem h_e_X8_barOf_33 (x3 : Nat) : e_X8_barOf_33 (nI x3) = Option.map nI (ne_X8_barOf_33 x3) := by
  unfold e_X8_barOf_33 ne_X8_barOf_33
  exact rfl
noncomputable def ns_X8_barOf_2 (x0 : Nat) (x1 : Nat) (x3 : Nat) : Option (Nat ⊕ (Nat ⊕ Unit)) :=
  (bif nleI x0 x3 then some (Sum.inr (Sum.inr ())) else (bif neqI x3 0 then none else (bif neqI (njrem x0 x3) 0 then ((np_X8_onesBy x0 x3).bind fun v18 => (bif neqJ (v18 &&& x1) v18 then some (Sum.inr (Sum.inl x3)) else some (Sum.inl (x3 + 1)))) else some (Sum.inl (x3 + 1)))))
theorem h_s_X8_barOf_2 (x0 : Nat) (x1 : Nat) (x3 : Nat) : s_X8_barOf_2 (nI x0) (lN x1) (nI x3) = Option.map (Sum.map nI (Sum.map nI id)) (ns_X8_barOf_2 x0 x1 x3) := by
  unfold s_X8_barOf_2 ns_X8_barOf_2
  exact (hm_if (hc_leI rfl rfl) rfl (hm_if (hc_eqI rfl rfl) rfl (hm_if (hc_eqI (ho_jrem rfl rfl) rfl) (hm_bind (h_p_X8_onesBy x0 x3) (fun v18 => (hm_if (hc_eqJ (ho_andJ rfl rfl) rfl) rfl (congrArg some (congrArg Sum.inl (ho_addI rfl rfl)))))) (congrArg some (congrArg Sum.inl (ho_addI rfl rfl))))))
noncomputable def na_X8_barOf_2 (x0 : Nat) (b : (Nat ⊕ Unit)) : Option Nat := Sum.elim (fun q : Nat => ne_X8_barOf_33 q) (fun q : Unit => ne_X8_barOf_41 x0) b
theorem h_a_X8_barOf_2 (x0 : Nat) (b : (Nat ⊕ Unit)) : a_X8_barOf_2 (nI x0) ((Sum.map nI id) b) = Option.map nI (na_X8_barOf_2 x0 b) := by
  cases b with
  | inl q => exact h_e_X8_barOf_33 q
  | inr q => exact h_e_X8_barOf_41 x0
noncomputable def ng_X8_barOf_2 (x0 : Nat) (x1 : Nat) (x3 : Nat) : Option Nat := (lpN (fun q : Nat => ns_X8_barOf_2 x0 x1 q) pfFU x3).bind (na_X8_barOf_2 x0)
theorem h_g_X8_barOf_2 (x0 : Nat) (x1 : Nat) (x3 : Nat) : g_X8_barOf_2 (nI x0) (lN x1) (nI x3) = Option.map nI (ng_X8_barOf_2 x0 x1 x3) := by
  unfold g_X8_barOf_2 ng_X8_barOf_2
  exact hm_bind (lp_hom nI (Sum.map nI id) (fun q => h_s_X8_barOf_2 x0 x1 q) pfFU x3) (fun b => h_a_X8_barOf_2 x0 b)
noncomputable def np_X8_barOf (y0 : Nat) (y1 : Nat) : Option Nat :=
  ng_X8_barOf_2 y0 y1 1
theorem h_p_X8_barOf (y0 : Nat) (y1 : Nat) : p_X8_barOf (nI y0) (lN y1) = Option.map nI (np_X8_barOf y0 y1) := by
  unfold p_X8_barOf np_X8_barOf
  exact (h_g_X8_barOf_2 y0 y1 1)
noncomputable def ne_X8_down_40 (x4 : Nat) : Option Nat :=
  some x4
theorem h_e_X8_down_40 (x4 : Nat) : e_X8_down_40 (lN x4) = Option.map lN (ne_X8_down_40 x4) := by
  unfold e_X8_down_40 ne_X8_down_40
  exact rfl
noncomputable def ns_X8_down_6 (x0 : Nat) (x1 : Nat) (x3 : Nat) (x4 : Nat) (x6 : Nat) : Option ((Nat × Nat) ⊕ Nat) :=
  (bif nleI x0 x6 then some (Sum.inr x4) else (bif neqJ ((njshr x1 x6) &&& 1) 1 then (bif neqI x3 0 then none else some (Sum.inl ((x4 ||| (njshl 1 (njrem x6 x3))), (x6 + 1)))) else some (Sum.inl (x4, (x6 + 1)))))
theorem h_s_X8_down_6 (x0 : Nat) (x1 : Nat) (x3 : Nat) (x4 : Nat) (x6 : Nat) : s_X8_down_6 (nI x0) (lN x1) (nI x3) (lN x4) (nI x6) = Option.map (Sum.map (cP lN nI) lN) (ns_X8_down_6 x0 x1 x3 x4 x6) := by
  unfold s_X8_down_6 ns_X8_down_6
  exact (hm_if (hc_leI rfl rfl) rfl (hm_if (hc_eqJ (ho_andJ (ho_jshr rfl rfl) rfl) rfl) (hm_if (hc_eqI rfl rfl) rfl (congrArg some (congrArg Sum.inl (ho_pair (ho_orJ rfl (ho_jshl rfl (ho_jrem rfl rfl))) (ho_addI rfl rfl))))) (congrArg some (congrArg Sum.inl (ho_pair rfl (ho_addI rfl rfl))))))
noncomputable def na_X8_down_6 (b : Nat) : Option Nat := (fun q : Nat => ne_X8_down_40 q) b
theorem h_a_X8_down_6 (b : Nat) : a_X8_down_6 (lN b) = Option.map lN (na_X8_down_6 b) := h_e_X8_down_40 b
noncomputable def ng_X8_down_6 (x0 : Nat) (x1 : Nat) (x3 : Nat) (x4 : Nat) (x6 : Nat) : Option Nat := (lpN (fun q : (Nat × Nat) => ns_X8_down_6 x0 x1 x3 q.1 q.2) pfFU (x4, x6)).bind (na_X8_down_6 )
theorem h_g_X8_down_6 (x0 : Nat) (x1 : Nat) (x3 : Nat) (x4 : Nat) (x6 : Nat) : g_X8_down_6 (nI x0) (lN x1) (nI x3) (lN x4) (nI x6) = Option.map lN (ng_X8_down_6 x0 x1 x3 x4 x6) := by
  unfold g_X8_down_6 ng_X8_down_6
  exact hm_bind (lp_hom (cP lN nI) lN (fun q => h_s_X8_down_6 x0 x1 x3 q.1 q.2) pfFU (x4, x6)) (fun b => h_a_X8_down_6  b)
noncomputable def np_X8_down (y0 : Nat) (y1 : Nat) (y3 : Nat) : Option Nat :=
  ng_X8_down_6 y0 y1 y3 0 0
theorem h_p_X8_down (y0 : Nat) (y1 : Nat) (y3 : Nat) : p_X8_down (nI y0) (lN y1) (nI y3) = Option.map lN (np_X8_down y0 y1 y3) := by
  unfold p_X8_down np_X8_down
  exact (h_g_X8_down_6 y0 y1 y3 0 0)
noncomputable def ne_X8_up_49 (x4 : Nat) : Option Nat :=
  some x4
theorem h_e_X8_up_49 (x4 : Nat) : e_X8_up_49 (lN x4) = Option.map lN (ne_X8_up_49 x4) := by
  unfold e_X8_up_49 ne_X8_up_49
  exact rfl
noncomputable def ns_X8_up_6 (x0 : Nat) (x1 : Nat) (x3 : Nat) (x4 : Nat) (x6 : Nat) : Option ((Nat × Nat) ⊕ Nat) :=
  (bif nleI x3 x6 then some (Sum.inr x4) else ((np_X8_isRest x3 x6).bind fun v15 => (bif neqI v15 0 then some (Sum.inl (x4, (x6 + 1))) else (bif neqI x0 0 then none else (bif neqJ ((njshr x1 (njrem x6 x0)) &&& 1) 1 then some (Sum.inl ((x4 ||| (njshl 1 x6)), (x6 + 1))) else some (Sum.inl (x4, (x6 + 1))))))))
theorem h_s_X8_up_6 (x0 : Nat) (x1 : Nat) (x3 : Nat) (x4 : Nat) (x6 : Nat) : s_X8_up_6 (nI x0) (lN x1) (nI x3) (lN x4) (nI x6) = Option.map (Sum.map (cP lN nI) lN) (ns_X8_up_6 x0 x1 x3 x4 x6) := by
  unfold s_X8_up_6 ns_X8_up_6
  exact (hm_if (hc_leI rfl rfl) rfl (hm_bind (h_p_X8_isRest x3 x6) (fun v15 => (hm_if (hc_eqI rfl rfl) (congrArg some (congrArg Sum.inl (ho_pair rfl (ho_addI rfl rfl)))) (hm_if (hc_eqI rfl rfl) rfl (hm_if (hc_eqJ (ho_andJ (ho_jshr rfl (ho_jrem rfl rfl)) rfl) rfl) (congrArg some (congrArg Sum.inl (ho_pair (ho_orJ rfl (ho_jshl rfl rfl)) (ho_addI rfl rfl)))) (congrArg some (congrArg Sum.inl (ho_pair rfl (ho_addI rfl rfl))))))))))
noncomputable def na_X8_up_6 (b : Nat) : Option Nat := (fun q : Nat => ne_X8_up_49 q) b
theorem h_a_X8_up_6 (b : Nat) : a_X8_up_6 (lN b) = Option.map lN (na_X8_up_6 b) := h_e_X8_up_49 b
noncomputable def ng_X8_up_6 (x0 : Nat) (x1 : Nat) (x3 : Nat) (x4 : Nat) (x6 : Nat) : Option Nat := (lpN (fun q : (Nat × Nat) => ns_X8_up_6 x0 x1 x3 q.1 q.2) pfFU (x4, x6)).bind (na_X8_up_6 )
theorem h_g_X8_up_6 (x0 : Nat) (x1 : Nat) (x3 : Nat) (x4 : Nat) (x6 : Nat) : g_X8_up_6 (nI x0) (lN x1) (nI x3) (lN x4) (nI x6) = Option.map lN (ng_X8_up_6 x0 x1 x3 x4 x6) := by
  unfold g_X8_up_6 ng_X8_up_6
  exact hm_bind (lp_hom (cP lN nI) lN (fun q => h_s_X8_up_6 x0 x1 x3 q.1 q.2) pfFU (x4, x6)) (fun b => h_a_X8_up_6  b)
noncomputable def np_X8_up (y0 : Nat) (y1 : Nat) (y3 : Nat) : Option Nat :=
  ng_X8_up_6 y0 y1 y3 0 0
theorem h_p_X8_up (y0 : Nat) (y1 : Nat) (y3 : Nat) : p_X8_up (nI y0) (lN y1) (nI y3) = Option.map lN (np_X8_up y0 y1 y3) := by
  unfold p_X8_up np_X8_up
  exact (h_g_X8_up_6 y0 y1 y3 0 0)
noncomputable def np_X8_degree (y0 : Nat) (y1 : Nat) : Option Nat :=
  ((np_X8_all y0).bind fun v1 => ((np_X8_many v1).bind fun v4 => ((np_X8_many y1).bind fun v8 => (bif neqI v8 0 then none else some (ndivI v4 v8)))))
theorem h_p_X8_degree (y0 : Nat) (y1 : Nat) : p_X8_degree (nI y0) (lN y1) = Option.map nI (np_X8_degree y0 y1) := by
  unfold p_X8_degree np_X8_degree
  exact (hm_bind (h_p_X8_all y0) (fun v1 => (hm_bind (h_p_X8_many v1) (fun v4 => (hm_bind (h_p_X8_many y1) (fun v8 => (hm_if (hc_eqI rfl rfl) rfl (congrArg some (ho_divI rfl rfl)))))))))
noncomputable def ne_X8_isCyclic_51 (x3 : Nat) : Option Nat :=
  (bif nbool x3 then some x3 else none)
theorem h_e_X8_isCyclic_51 (x3 : Nat) : e_X8_isCyclic_51 (nI x3) = Option.map nI (ne_X8_isCyclic_51 x3) := by
  unfold e_X8_isCyclic_51 ne_X8_isCyclic_51
  exact (hm_if (hc_bool rfl) rfl rfl)
noncomputable def ns_X8_isCyclic_5 (x0 : Nat) (x1 : Nat) (x3 : Nat) (x4 : Nat) : Option ((Nat × Nat) ⊕ Nat) :=
  (bif nleI x0 x4 then some (Sum.inr x3) else (bif neqI x3 0 then ((np_X8_isRest x0 x4).bind fun v18 => (bif neqI v18 0 then some (Sum.inl (0, (x4 + 1))) else ((np_X8_with x0 x1 x4).bind fun v28 => ((np_X8_all x0).bind fun v32 => (bif neqJ v28 v32 then some (Sum.inl (1, (x4 + 1))) else some (Sum.inl (0, (x4 + 1)))))))) else some (Sum.inl (1, (x4 + 1)))))
theorem h_s_X8_isCyclic_5 (x0 : Nat) (x1 : Nat) (x3 : Nat) (x4 : Nat) : s_X8_isCyclic_5 (nI x0) (lN x1) (nI x3) (nI x4) = Option.map (Sum.map (cP nI nI) nI) (ns_X8_isCyclic_5 x0 x1 x3 x4) := by
  unfold s_X8_isCyclic_5 ns_X8_isCyclic_5
  exact (hm_if (hc_leI rfl rfl) rfl (hm_if (hc_eqI rfl rfl) (hm_bind (h_p_X8_isRest x0 x4) (fun v18 => (hm_if (hc_eqI rfl rfl) (congrArg some (congrArg Sum.inl (ho_pair rfl (ho_addI rfl rfl)))) (hm_bind (h_p_X8_with x0 x1 x4) (fun v28 => (hm_bind (h_p_X8_all x0) (fun v32 => (hm_if (hc_eqJ rfl rfl) (congrArg some (congrArg Sum.inl (ho_pair rfl (ho_addI rfl rfl)))) (congrArg some (congrArg Sum.inl (ho_pair rfl (ho_addI rfl rfl)))))))))))) (congrArg some (congrArg Sum.inl (ho_pair rfl (ho_addI rfl rfl))))))
noncomputable def na_X8_isCyclic_5 (b : Nat) : Option Nat := (fun q : Nat => ne_X8_isCyclic_51 q) b
theorem h_a_X8_isCyclic_5 (b : Nat) : a_X8_isCyclic_5 (nI b) = Option.map nI (na_X8_isCyclic_5 b) := h_e_X8_isCyclic_51 b
noncomputable def ng_X8_isCyclic_5 (x0 : Nat) (x1 : Nat) (x3 : Nat) (x4 : Nat) : Option Nat := (lpN (fun q : (Nat × Nat) => ns_X8_isCyclic_5 x0 x1 q.1 q.2) pfFU (x3, x4)).bind (na_X8_isCyclic_5 )
theorem h_g_X8_isCyclic_5 (x0 : Nat) (x1 : Nat) (x3 : Nat) (x4 : Nat) : g_X8_isCyclic_5 (nI x0) (lN x1) (nI x3) (nI x4) = Option.map nI (ng_X8_isCyclic_5 x0 x1 x3 x4) := by
  unfold g_X8_isCyclic_5 ng_X8_isCyclic_5
  exact hm_bind (lp_hom (cP nI nI) nI (fun q => h_s_X8_isCyclic_5 x0 x1 q.1 q.2) pfFU (x3, x4)) (fun b => h_a_X8_isCyclic_5  b)
noncomputable def np_X8_isCyclic (y0 : Nat) (y1 : Nat) : Option Nat :=
  ng_X8_isCyclic_5 y0 y1 0 0
theorem h_p_X8_isCyclic (y0 : Nat) (y1 : Nat) : p_X8_isCyclic (nI y0) (lN y1) = Option.map nI (np_X8_isCyclic y0 y1) := by
  unfold p_X8_isCyclic np_X8_isCyclic
  exact (h_g_X8_isCyclic_5 y0 y1 0 0)
noncomputable def np_X8_isReal (y0 : Nat) (y1 : Nat) : Option Nat :=
  (bif neqI y0 1 then some 1 else (bif neqJ ((njshr y1 (nsubI y0 1)) &&& 1) 1 then some 1 else some 0))
theorem h_p_X8_isReal (y0 : Nat) (y1 : Nat) : p_X8_isReal (nI y0) (lN y1) = Option.map nI (np_X8_isReal y0 y1) := by
  unfold p_X8_isReal np_X8_isReal
  exact (hm_if (hc_eqI rfl rfl) rfl (hm_if (hc_eqJ (ho_andJ (ho_jshr rfl (ho_subI rfl rfl)) rfl) rfl) rfl rfl))
noncomputable def np_X8_isAsked (y0 : Nat) : Option Nat :=
  ((np_X8_isIn y0 2 997).bind fun v5 => (bif neqI v5 0 then some 0 else ((np_X8_isPrime y0).bind fun v12 => (bif neqI v12 0 then some 0 else some 1))))
theorem h_p_X8_isAsked (y0 : Nat) : p_X8_isAsked (nI y0) = Option.map nI (np_X8_isAsked y0) := by
  unfold p_X8_isAsked np_X8_isAsked
  exact (hm_bind (h_p_X8_isIn y0 2 997) (fun v5 => (hm_if (hc_eqI rfl rfl) rfl (hm_bind (h_p_X8_isPrime y0) (fun v12 => (hm_if (hc_eqI rfl rfl) rfl rfl))))))
noncomputable def ne_X8_isAmong_49 (x5 : Nat) : Option Nat :=
  (bif nbool x5 then some x5 else none)
theorem h_e_X8_isAmong_49 (x5 : Nat) : e_X8_isAmong_49 (nI x5) = Option.map nI (ne_X8_isAmong_49 x5) := by
  unfold e_X8_isAmong_49 ne_X8_isAmong_49
  exact (hm_if (hc_bool rfl) rfl rfl)
noncomputable def ns_X8_isAmong_6 (x0 : Nat) (x1 : Nat) (x2 : Nat) (x3 : Nat) (x5 : Nat) (x6 : Nat) : Option ((Nat × Nat) ⊕ Nat) :=
  (bif nleI x0 x6 then some (Sum.inr x5) else (bif neqI x5 0 then (bif neqJ ((njshr x3 x6) &&& 1) 1 then (bif neqI x1 0 then none else (bif neqI (njrem x6 x1) x2 then some (Sum.inl (1, (x6 + 1))) else some (Sum.inl (0, (x6 + 1))))) else some (Sum.inl (0, (x6 + 1)))) else some (Sum.inl (1, (x6 + 1)))))
theorem h_s_X8_isAmong_6 (x0 : Nat) (x1 : Nat) (x2 : Nat) (x3 : Nat) (x5 : Nat) (x6 : Nat) : s_X8_isAmong_6 (nI x0) (nI x1) (nI x2) (lN x3) (nI x5) (nI x6) = Option.map (Sum.map (cP nI nI) nI) (ns_X8_isAmong_6 x0 x1 x2 x3 x5 x6) := by
  unfold s_X8_isAmong_6 ns_X8_isAmong_6
  exact (hm_if (hc_leI rfl rfl) rfl (hm_if (hc_eqI rfl rfl) (hm_if (hc_eqJ (ho_andJ (ho_jshr rfl rfl) rfl) rfl) (hm_if (hc_eqI rfl rfl) rfl (hm_if (hc_eqI (ho_jrem rfl rfl) rfl) (congrArg some (congrArg Sum.inl (ho_pair rfl (ho_addI rfl rfl)))) (congrArg some (congrArg Sum.inl (ho_pair rfl (ho_addI rfl rfl)))))) (congrArg some (congrArg Sum.inl (ho_pair rfl (ho_addI rfl rfl))))) (congrArg some (congrArg Sum.inl (ho_pair rfl (ho_addI rfl rfl))))))
noncomputable def na_X8_isAmong_6 (b : Nat) : Option Nat := (fun q : Nat => ne_X8_isAmong_49 q) b
theorem h_a_X8_isAmong_6 (b : Nat) : a_X8_isAmong_6 (nI b) = Option.map nI (na_X8_isAmong_6 b) := h_e_X8_isAmong_49 b
noncomputable def ng_X8_isAmong_6 (x0 : Nat) (x1 : Nat) (x2 : Nat) (x3 : Nat) (x5 : Nat) (x6 : Nat) : Option Nat := (lpN (fun q : (Nat × Nat) => ns_X8_isAmong_6 x0 x1 x2 x3 q.1 q.2) pfFU (x5, x6)).bind (na_X8_isAmong_6 )
theorem h_g_X8_isAmong_6 (x0 : Nat) (x1 : Nat) (x2 : Nat) (x3 : Nat) (x5 : Nat) (x6 : Nat) : g_X8_isAmong_6 (nI x0) (nI x1) (nI x2) (lN x3) (nI x5) (nI x6) = Option.map nI (ng_X8_isAmong_6 x0 x1 x2 x3 x5 x6) := by
  unfold g_X8_isAmong_6 ng_X8_isAmong_6
  exact hm_bind (lp_hom (cP nI nI) nI (fun q => h_s_X8_isAmong_6 x0 x1 x2 x3 q.1 q.2) pfFU (x5, x6)) (fun b => h_a_X8_isAmong_6  b)
noncomputable def n0p_X8_isAmong (y0 : Nat) (y1 : Nat) (y2 : Nat) (y3 : Nat) : Option Nat :=
  ng_X8_isAmong_6 y0 y1 y2 y3 0 0
theorem h0_p_X8_isAmong (y0 : Nat) (y1 : Nat) (y2 : Nat) (y3 : Nat) : p_X8_isAmong (nI y0) (nI y1) (nI y2) (lN y3) = Option.map nI (n0p_X8_isAmong y0 y1 y2 y3) := by
  unfold p_X8_isAmong n0p_X8_isAmong
  exact (h_g_X8_isAmong_6 y0 y1 y2 y3 0 0)
theorem z_p_X8_isAmong (y0 : Nat) (y1 : Nat) (y2 : Nat) (y3 : Nat) (hd : ((Nat.ble y0 63 && (Nat.ble 1 y1 && Nat.ble y1 63)) && (Nat.ble y2 63 && Nat.ble y3 9223372036854775807)) = true) : n0p_X8_isAmong y0 y1 y2 y3 = some (amongN y1 y2 y3 y0) := by
  obtain ⟨q1, q2⟩ := nf_and hd
  obtain ⟨q0, q1⟩ := nf_and q1
  obtain ⟨q1, q3⟩ := nf_and q1
  obtain ⟨q2, q4⟩ := nf_and q2
  have w0 := nf_le q0
  have w1 := nf_le q1
  have w2 := nf_le q2
  have w3 := nf_le q3
  have w4 := nf_le q4
  have key := (ln_for (f := fun q : (Nat × Nat) => ns_X8_isAmong_6 y0 y1 y2 y3 q.1 q.2) (fun i t => (t, i)) (fun r b => cond (Nat.beq b 0) (cond (Nat.beq ((y3 >>> r) &&& 1) 1) (cond (Nat.beq (r % y1) y2) 1 0) 0) 1) (fun t => t) y0 (fun t => t < 2) ?_ ?_ y0 0 0 pfFU (by omega) (by have := pf_FU; omega) (by decide))
  · have key : lpN (fun q : (Nat × Nat) => ns_X8_isAmong_6 y0 y1 y2 y3 q.1 q.2) pfFU (0, 0) = some (itF (fun r b => cond (Nat.beq b 0) (cond (Nat.beq ((y3 >>> r) &&& 1) 1) (cond (Nat.beq (r % y1) y2) 1 0) 0) 1) 0 y0 0) ∧ itF (fun r b => cond (Nat.beq b 0) (cond (Nat.beq ((y3 >>> r) &&& 1) 1) (cond (Nat.beq (r % y1) y2) 1 0) 0) 1) 0 y0 0 < 2 := key
    obtain ⟨key, key2⟩ := key
    rw [amongN_it] at key key2
    unfold n0p_X8_isAmong ng_X8_isAmong_6
    rw [key]
    rcases (show amongN y1 y2 y3 y0 = 0 ∨ amongN y1 y2 y3 y0 = 1 by omega) with e | e <;> rw [e] <;> rfl
  · intro i t hi ht
    have hmod := Nat.mod_lt i (show 0 < y1 by omega)
    have hb := and1_lt (y3 >>> i)
    refine ⟨?_, ?_⟩
    · show ns_X8_isAmong_6 y0 y1 y2 y3 t i = _
      unfold ns_X8_isAmong_6
      rw [nleI_f hi (by omega), neqI_n (by omega) (by decide), njshr_n (by omega) (by omega), neqJ_n (by omega) (by decide), neqI_f (show y1 ≠ 0 by omega) (by omega) (by decide), njrem_n (by omega) (by omega) (by omega), neqI_n (by omega) (by omega)]
      cases Nat.beq t 0 <;> cases Nat.beq ((y3 >>> i) &&& 1) 1 <;> cases Nat.beq (i % y1) y2 <;> rfl
    · show cond (Nat.beq t 0) (cond (Nat.beq ((y3 >>> i) &&& 1) 1) (cond (Nat.beq (i % y1) y2) 1 0) 0) 1 < 2
      cases Nat.beq t 0 <;> cases Nat.beq ((y3 >>> i) &&& 1) 1 <;> cases Nat.beq (i % y1) y2 <;> decide
  · intro t _
    show ns_X8_isAmong_6 y0 y1 y2 y3 t y0 = _
    unfold ns_X8_isAmong_6
    rw [nleI_t (Nat.le_refl _) (by omega)]; rfl
noncomputable def np_X8_isAmong (y0 : Nat) (y1 : Nat) (y2 : Nat) (y3 : Nat) : Option Nat := bif (Nat.ble y0 63 && (Nat.ble 1 y1 && Nat.ble y1 63)) && (Nat.ble y2 63 && Nat.ble y3 9223372036854775807) then some (amongN y1 y2 y3 y0) else n0p_X8_isAmong y0 y1 y2 y3
theorem h_p_X8_isAmong (y0 : Nat) (y1 : Nat) (y2 : Nat) (y3 : Nat) : p_X8_isAmong (nI y0) (nI y1) (nI y2) (lN y3) = Option.map nI (np_X8_isAmong y0 y1 y2 y3) := by
  rw [h0_p_X8_isAmong]
  unfold np_X8_isAmong
  exact congrArg _ (nf_fast (fun h => z_p_X8_isAmong y0 y1 y2 y3 h) rfl)
noncomputable def ne_X8_prime0_32 (x1 : Nat) : Option Nat :=
  some x1
theorem h_e_X8_prime0_32 (x1 : Nat) : e_X8_prime0_32 (nI x1) = Option.map nI (ne_X8_prime0_32 x1) := by
  unfold e_X8_prime0_32 ne_X8_prime0_32
  exact rfl
noncomputable def ns_X8_prime0_4 (x0 : Nat) (x1 : Nat) (x2 : Nat) : Option ((Nat × Nat) ⊕ Nat) :=
  (bif nltI x0 x2 then some (Sum.inr x1) else ((np_X8_divisor x2 x0).bind fun v12 => (bif neqI v12 1 then some (Sum.inl ((x1 + 1), (x2 + 1))) else some (Sum.inl ((x1 + 0), (x2 + 1))))))
theorem h_s_X8_prime0_4 (x0 : Nat) (x1 : Nat) (x2 : Nat) : s_X8_prime0_4 (nI x0) (nI x1) (nI x2) = Option.map (Sum.map (cP nI nI) nI) (ns_X8_prime0_4 x0 x1 x2) := by
  unfold s_X8_prime0_4 ns_X8_prime0_4
  exact (hm_if (hc_ltI rfl rfl) rfl (hm_bind (h_p_X8_divisor x2 x0) (fun v12 => (hm_if (hc_eqI rfl rfl) (congrArg some (congrArg Sum.inl (ho_pair (ho_addI rfl rfl) (ho_addI rfl rfl)))) (congrArg some (congrArg Sum.inl (ho_pair (ho_addI rfl rfl) (ho_addI rfl rfl))))))))
noncomputable def na_X8_prime0_4 (b : Nat) : Option Nat := (fun q : Nat => ne_X8_prime0_32 q) b
theorem h_a_X8_prime0_4 (b : Nat) : a_X8_prime0_4 (nI b) = Option.map nI (na_X8_prime0_4 b) := h_e_X8_prime0_32 b
noncomputable def ng_X8_prime0_4 (x0 : Nat) (x1 : Nat) (x2 : Nat) : Option Nat := (lpN (fun q : (Nat × Nat) => ns_X8_prime0_4 x0 q.1 q.2) pfFU (x1, x2)).bind (na_X8_prime0_4 )
theorem h_g_X8_prime0_4 (x0 : Nat) (x1 : Nat) (x2 : Nat) : g_X8_prime0_4 (nI x0) (nI x1) (nI x2) = Option.map nI (ng_X8_prime0_4 x0 x1 x2) := by
  unfold g_X8_prime0_4 ng_X8_prime0_4
  exact hm_bind (lp_hom (cP nI nI) nI (fun q => h_s_X8_prime0_4 x0 q.1 q.2) pfFU (x1, x2)) (fun b => h_a_X8_prime0_4  b)
noncomputable def np_X8_prime0 (y0 : Nat) : Option Nat :=
  ng_X8_prime0_4 y0 0 1
theorem h_p_X8_prime0 (y0 : Nat) : p_X8_prime0 (nI y0) = Option.map nI (np_X8_prime0 y0) := by
  unfold p_X8_prime0 np_X8_prime0
  exact (h_g_X8_prime0_4 y0 0 1)
noncomputable def np_X8_isList (y0 : Nat) (y1 : Nat) : Option Nat :=
  ((np_X8_isIn y0 1 8).bind fun v4 => (bif neqI v4 0 then some 0 else ((np_X8_isM y1).bind fun v11 => (bif neqI v11 0 then some 0 else some 1))))
theorem h_p_X8_isList (y0 : Nat) (y1 : Nat) : p_X8_isList (nI y0) (nI y1) = Option.map nI (np_X8_isList y0 y1) := by
  unfold p_X8_isList np_X8_isList
  exact (hm_bind (h_p_X8_isIn y0 1 8) (fun v4 => (hm_if (hc_eqI rfl rfl) rfl (hm_bind (h_p_X8_isM y1) (fun v11 => (hm_if (hc_eqI rfl rfl) rfl rfl))))))
noncomputable def ne_X8_isGreatPrime_39 (x2 : Nat) : Option Nat :=
  (bif nbool x2 then some x2 else none)
theorem h_e_X8_isGreatPrime_39 (x2 : Nat) : e_X8_isGreatPrime_39 (nI x2) = Option.map nI (ne_X8_isGreatPrime_39 x2) := by
  unfold e_X8_isGreatPrime_39 ne_X8_isGreatPrime_39
  exact (hm_if (hc_bool rfl) rfl rfl)
noncomputable def ns_X8_isGreatPrime_6 (x0 : Nat) (x2 : Nat) (x3 : Nat) : Option ((Nat × Nat) ⊕ Nat) :=
  (bif nltJ x0 (x3 * x3) then some (Sum.inr x2) else (bif neqI x2 0 then some (Sum.inr x2) else (bif neqJ x3 0 then none else (bif neqJ (njremL x0 x3) 0 then some (Sum.inl (0, (x3 + 1))) else some (Sum.inl (1, (x3 + 1)))))))
theorem h_s_X8_isGreatPrime_6 (x0 : Nat) (x2 : Nat) (x3 : Nat) : s_X8_isGreatPrime_6 (lN x0) (nI x2) (lN x3) = Option.map (Sum.map (cP nI lN) nI) (ns_X8_isGreatPrime_6 x0 x2 x3) := by
  unfold s_X8_isGreatPrime_6 ns_X8_isGreatPrime_6
  exact (hm_if (hc_ltJ rfl (ho_mulJ rfl rfl)) rfl (hm_if (hc_eqI rfl rfl) rfl (hm_if (hc_eqJ rfl rfl) rfl (hm_if (hc_eqJ (ho_jremL rfl rfl) rfl) (congrArg some (congrArg Sum.inl (ho_pair rfl (ho_addJ rfl rfl)))) (congrArg some (congrArg Sum.inl (ho_pair rfl (ho_addJ rfl rfl))))))))
noncomputable def na_X8_isGreatPrime_6 (b : Nat) : Option Nat := (fun q : Nat => ne_X8_isGreatPrime_39 q) b
theorem h_a_X8_isGreatPrime_6 (b : Nat) : a_X8_isGreatPrime_6 (nI b) = Option.map nI (na_X8_isGreatPrime_6 b) := h_e_X8_isGreatPrime_39 b
noncomputable def ng_X8_isGreatPrime_6 (x0 : Nat) (x2 : Nat) (x3 : Nat) : Option Nat := (lpN (fun q : (Nat × Nat) => ns_X8_isGreatPrime_6 x0 q.1 q.2) pfFU (x2, x3)).bind (na_X8_isGreatPrime_6 )
theorem h_g_X8_isGreatPrime_6 (x0 : Nat) (x2 : Nat) (x3 : Nat) : g_X8_isGreatPrime_6 (lN x0) (nI x2) (lN x3) = Option.map nI (ng_X8_isGreatPrime_6 x0 x2 x3) := by
  unfold g_X8_isGreatPrime_6 ng_X8_isGreatPrime_6
  exact hm_bind (lp_hom (cP nI lN) nI (fun q => h_s_X8_isGreatPrime_6 x0 q.1 q.2) pfFU (x2, x3)) (fun b => h_a_X8_isGreatPrime_6  b)
noncomputable def n0p_X8_isGreatPrime (y0 : Nat) : Option Nat :=
  ng_X8_isGreatPrime_6 y0 1 2
theorem h0_p_X8_isGreatPrime (y0 : Nat) : p_X8_isGreatPrime (lN y0) = Option.map nI (n0p_X8_isGreatPrime y0) := by
  unfold p_X8_isGreatPrime n0p_X8_isGreatPrime
  exact (h_g_X8_isGreatPrime_6 y0 1 2)
def gpSt (y0 d : Nat) : Prop := ns_X8_isGreatPrime_6 y0 1 d = some (Sum.inl (bif Nat.beq (y0 % d) 0 then 0 else 1, d + 1))
theorem z_p_X8_isGreatPrime (y0 : Nat) (hd : (Nat.ble y0 2147483647) = true) : n0p_X8_isGreatPrime y0 = some (bif gpR y0 16 2 then 1 else 0) := by
  have q0 := nf_le hd
  have sq : ∀ {d : Nat}, 46341 ≤ d → y0 < d * d := fun {d} h => by have := Nat.mul_le_mul h h; omega
  have hi2 : ∀ {d : Nat}, d ≤ 46342 → d * d < 9223372036854775808 := fun {d} h => by have := Nat.mul_le_mul h h; omega
  have stA : ∀ {d : Nat}, d ≤ 46342 → y0 < d * d → ∀ x, ns_X8_isGreatPrime_6 y0 x d = some (Sum.inr x) := by
    intro d h1 h2 x
    unfold ns_X8_isGreatPrime_6
    rw [nltJ_t h2 (hi2 h1)]; rfl
  have stB : ∀ {d : Nat}, 2 ≤ d → d ≤ 46342 → d * d ≤ y0 → gpSt y0 d := by
    intro d h0 h1 h2
    unfold gpSt ns_X8_isGreatPrime_6
    rw [nltJ_f h2 (by omega), neqI_f (show 1 ≠ 0 by decide) (by decide) (by decide), neqJ_n (by omega) (by decide), beq_f (show d ≠ 0 by omega), njremL_n (by omega) (by omega) (by omega), neqJ_n (by have := Nat.mod_lt y0 (show 0 < d by omega); omega) (by decide)]
    cases Nat.beq (y0 % d) 0 <;> rfl
  have keyA : ∀ (k d n : Nat), 2 ≤ d → d + k = 46341 → k < n → (∀ e, d ≤ e → e * e ≤ y0 → y0 % e ≠ 0) → lpN (fun q : (Nat × Nat) => ns_X8_isGreatPrime_6 y0 q.1 q.2) n (1, d) = some 1 := by
    intro k
    induction k with
    | zero =>
      intro d n h0 h1 h2 h3
      obtain ⟨n, rfl⟩ : ∃ k, n = k + 1 := ⟨n - 1, by omega⟩
      exact lpN_inr (stA (by omega) (sq (by omega)) 1)
    | succ k ih =>
      intro d n h0 h1 h2 h3
      obtain ⟨n, rfl⟩ : ∃ k, n = k + 1 := ⟨n - 1, by omega⟩
      rcases Nat.lt_or_ge y0 (d * d) with h4 | h4
      · exact lpN_inr (stA (by omega) h4 1)
      · have := stB h0 (by omega) h4
        unfold gpSt at this
        rw [beq_f (h3 d (Nat.le_refl _) h4)] at this
        rw [lpN_inl (s' := (1, d + 1)) this]
        exact ih (d + 1) n (by omega) (by omega) (by omega) (fun e h5 h6 => h3 e (by omega) h6)
  have keyB : ∀ (k d n : Nat), 2 ≤ d → d + k = 46341 → k + 1 < n → (∃ e, d ≤ e ∧ e * e ≤ y0 ∧ y0 % e = 0) → lpN (fun q : (Nat × Nat) => ns_X8_isGreatPrime_6 y0 q.1 q.2) n (1, d) = some 0 := by
    intro k
    induction k with
    | zero =>
      intro d n h0 h1 h2 ⟨e, h3, h4, h5⟩
      have := sq (d := e) (by omega)
      omega
    | succ k ih =>
      intro d n h0 h1 h2 ⟨e, h3, h4, h5⟩
      obtain ⟨n, rfl⟩ : ∃ k, n = k + 1 := ⟨n - 1, by omega⟩
      have hdd : d * d ≤ y0 := Nat.le_trans (Nat.mul_le_mul h3 h3) h4
      have := stB h0 (by omega) hdd
      unfold gpSt at this
      by_cases h6 : y0 % d = 0
      · rw [h6] at this
        rw [lpN_inl (s' := (0, d + 1)) this]
        obtain ⟨n, rfl⟩ : ∃ k, n = k + 1 := ⟨n - 1, by omega⟩
        refine lpN_inr ?_
        show ns_X8_isGreatPrime_6 y0 0 (d + 1) = _
        unfold ns_X8_isGreatPrime_6
        cases nltJ y0 ((d + 1) * (d + 1))
        · rfl
        · rfl
      · rw [beq_f h6] at this
        rw [lpN_inl (s' := (1, d + 1)) this]
        refine ih (d + 1) n (by omega) (by omega) (by omega) ⟨e, ?_, h4, h5⟩
        rcases Nat.eq_or_lt_of_le h3 with h7 | h7
        · subst h7; exact absurd h5 h6
        · omega
  have hfu := pf_FU
  show (lpN _ pfFU (1, 2)).bind _ = _
  cases hc : gpR y0 16 2 with
  | true =>
    have := (gpR_spec y0 16 2).mp hc
    rw [keyA 46339 2 pfFU (by decide) (by decide) (by omega) (fun e h1 h2 => this e h1 (by
      rcases Nat.lt_or_ge e (2 + 2 ^ 16) with h | h
      · exact h
      · have := sq (d := e) (by omega)
        omega) h2)]
    rfl
  | false =>
    have : ¬ ∀ e, 2 ≤ e → e < 2 + 2 ^ 16 → e * e ≤ y0 → y0 % e ≠ 0 := fun q => by rw [(gpR_spec y0 16 2).mpr q] at hc; simp at hc
    rw [keyB 46339 2 pfFU (by decide) (by decide) (by omega) (by
      apply Classical.byContradiction
      intro q
      exact this (fun e h1 h2 h3 h4 => q ⟨e, h1, h3, h4⟩))]
    rfl
noncomputable def np_X8_isGreatPrime (y0 : Nat) : Option Nat := bif Nat.ble y0 2147483647 then some (bif gpR y0 16 2 then 1 else 0) else n0p_X8_isGreatPrime y0
theorem h_p_X8_isGreatPrime (y0 : Nat) : p_X8_isGreatPrime (lN y0) = Option.map nI (np_X8_isGreatPrime y0) := by
  rw [h0_p_X8_isGreatPrime]
  unfold np_X8_isGreatPrime
  exact congrArg _ (nf_fast (fun h => z_p_X8_isGreatPrime y0 h) rfl)
