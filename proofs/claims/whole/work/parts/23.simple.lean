theorem t_rests : all63 (fun m => eqO (np_X7_rests m) (np_X8_rests m)) = true := by decide +kernel
theorem sim_rests : Sim_rests Inv := by
  intro bars groups size cl cs afd asz baf bas bb bg bd bs bf st sp sn sg sm sd mbar mbits mmade mhas mgroups mfound mpassed mlooked msums mnumbers im0 im1 im2 a0 hI
  rcases m_cases a0 with ⟨m, h1, h2, rfl, e1, e2⟩ | ⟨e1, e2⟩
  · obtain ⟨v, q1, q2⟩ := eqO_t (all63_t t_rests h1 h2)
    exact ⟨nI v, nI v, by rw [h_p_X7_rests, q1]; rfl, by rw [h_p_X8_rests, q2]; rfl, rfl, hI⟩
  · exact ⟨-1, -1, by unfold p_X7_rests; rw [e1]; rfl, by unfold p_X8_rests; rw [e2]; rfl, rfl, hI⟩
theorem t_order : all63 (fun m => allB (fun r => eqO (np_X7_order m r) (np_X8_order m r)) M63) = true := by decide +kernel
theorem sim_order : Sim_order Inv := by
  intro bars groups size cl cs afd asz baf bas bb bg bd bs bf st sp sn sg sm sd mbar mbits mmade mhas mgroups mfound mpassed mlooked msums mnumbers im0 im1 im2 a0 a1 hI
  rcases m_cases a0 with ⟨m, h1, h2, rfl, e1, e2⟩ | ⟨e1, e2⟩
  · have hall : ∃ v, p_X3_all (nI m) = some v := by
      rw [h_p_X3_all]
      unfold np_X3_all
      rw [show Nat.ble 1 m = true from Nat.ble_eq.mpr h1, show Nat.ble m 63 = true from Nat.ble_eq.mpr h2]
      exact ⟨_, rfl⟩
    obtain ⟨al, hall⟩ := hall
    have out : p_X3_has al a1 = some 0 → p_X8_isRest (nI m) a1 = some 0 → ∃ (r1 : Int32) (r2 : Int32), p_X7_order (nI m) a1 = some r1 ∧ p_X8_order (nI m) a1 = some r2 ∧ r1 = r2 ∧ Inv bars groups size im0 im1 im2 bb bg bd bs bf mbar mbits mmade mhas := by
      intro g1 g2
      exact ⟨-1, -1, by unfold p_X7_order; rw [e1, hall, Option.bind_some, if_neg (by decide), Option.bind_some, g1]; rfl, by unfold p_X8_order; rw [e2, Option.bind_some, if_neg (by decide), g2]; rfl, rfl, hI⟩
    by_cases h0 : a1 < 0
    · refine out (by unfold p_X3_has; rw [if_pos h0]) ?_
      unfold p_X8_isRest p_X8_isIn
      have h01 : a1 < 1 := by
        rw [Int32.lt_iff_toInt_lt] at h0 ⊢
        have e1 : (1 : Int32).toInt = 1 := rfl
        have e2 : (0 : Int32).toInt = 0 := rfl
        omega
      have h02 : ¬ a1 = 0 := by intro h; rw [h] at h0; exact absurd h0 (by decide)
      rw [if_neg h02, if_pos h01]
      split <;> rfl
    · obtain ⟨r, hr, rfl⟩ := nI_of h0
      rcases Nat.lt_or_ge r 63 with h3 | h3
      · obtain ⟨v, q1, q2⟩ := eqO_t (allB_mem (all63_t t_order h1 h2) r (mem63 (by omega)))
        exact ⟨nI v, nI v, by rw [h_p_X7_order, q1]; rfl, by rw [h_p_X8_order, q2]; rfl, rfl, hI⟩
      · refine out (by unfold p_X3_has; rw [if_neg h0, if_pos (show (63 : Int32) ≤ nI r from nI_le (a := 63) h3 hr)]) ?_
        unfold p_X8_isRest p_X8_isIn
        have h02 : ¬ nI r = 0 := by intro h; have := (nI_eq (a := r) (b := 0) hr (by decide)).mp h; omega
        have h03 : ¬ nI r < 1 := by intro h; rw [Int32.lt_iff_toInt_lt, nI_toInt hr] at h; have e1 : (1 : Int32).toInt = 1 := rfl; omega
        have h04 : nI m - 1 < nI r := by
          rw [Int32.lt_iff_toInt_lt, show (1 : Int32) = nI 1 from rfl, pk_sub_toInt (by omega) (by omega), nI_toInt hr]; omega
        rw [if_neg h02, if_neg h03, if_pos h04]
        split <;> rfl
  · exact ⟨-1, -1, by unfold p_X7_order; rw [e1]; rfl, by unfold p_X8_order; rw [e2]; rfl, rfl, hI⟩
theorem sim_group : Sim_group Inv := by
  intro bars groups size cl cs afd asz baf bas bb bg bd bs bf st sp sn sg sm sd mbar mbits mmade mhas mgroups mfound mpassed mlooked msums mnumbers im0 im1 im2 a0 hI
  have hI' := hI
  obtain ⟨⟨⟨n, rfl, hn, hok⟩, hm, heq⟩, _, _⟩ := hI'
  rcases field_cases hn a0 hm with ⟨i, hi, rfl, e1, e2⟩ | ⟨e1, e2⟩
  · refine ⟨groups i, mbits i, ?_, ?_, (heq i (by omega)).2.symm, hI⟩
    · unfold p_X7_group
      rw [e1, Option.bind_some, if_neg (by decide), bitsOf_n hn hi groups e1]; rfl
    · unfold p_X8_group
      rw [e2, Option.bind_some, if_neg (by decide), if_pos (ain_n (by omega) (by decide)), nI_clamp (by omega)]
  · exact ⟨-1, -1, by unfold p_X7_group; rw [e1]; rfl, by unfold p_X8_group; rw [e2]; rfl, rfl, hI⟩
theorem sim_clear : Sim_clear Inv := by
  intro bars groups size cl cs afd asz baf bas bb bg bd bs bf st sp sn sg sm sd mbar mbits mmade mhas mgroups mfound mpassed mlooked msums mnumbers im0 im1 im2 hI
  refine ⟨0, upd mmade 0 0, rfl, by unfold p_X8_clear; rw [cl0], ?_⟩
  have hI' := hI
  obtain ⟨⟨_, hm, heq⟩, _, _⟩ := hI'
  exact inv_keep hI ⟨⟨0, rfl, by decide, fun i hi => absurd hi (by omega)⟩, pk_us, heq⟩ (fun _ _ => ⟨rfl, rfl⟩) (fun i hi => pk_un (by omega))
def mxN (h : Nat → Nat) : Nat → Nat
  | 0 => 0
  | i + 1 => bif Nat.ble (h i) (mxN h i) then mxN h i else h i
theorem FT_bar : allQ (fun b g => Nat.ble 1 b && Nat.ble b 63) FT = true := by decide +kernel
theorem mxN_le {h : Nat → Nat} {n : Nat} (hh : ∀ i, i < n → h i ≤ 63) : ∀ i, i ≤ n → mxN h i ≤ 63 := by
  intro i
  induction i with
  | zero => intro _; show 0 ≤ 63; decide
  | succ i ih =>
    intro hi
    show (bif Nat.ble (h i) (mxN h i) then mxN h i else h i) ≤ 63
    cases Nat.ble (h i) (mxN h i)
    · exact hh i (by omega)
    · exact ih (by omega)
theorem field_bar {b : Int32} {g : Int64} (h : FieldOK b g) : ∃ k, 1 ≤ k ∧ k ≤ 63 ∧ b = nI k := by
  obtain ⟨q, hq, rfl, rfl⟩ := h
  obtain ⟨a, b⟩ := nf_and (allQ_mem FT_bar q hq)
  exact ⟨q.1, nf_le a, nf_le b, rfl⟩
theorem sim_count : Sim_count Inv := by
  intro bars groups size cl cs afd asz baf bas bb bg bd bs bf st sp sn sg sm sd mbar mbits mmade mhas mgroups mfound mpassed mlooked msums mnumbers im0 im1 im2 a0 hI
  have hI' := hI
  obtain ⟨⟨⟨n, rfl, hn, hok⟩, hm, heq⟩, _, _⟩ := hI'
  have hb : ∀ i, i < n → bars i = nI (u32 (bars i)) ∧ u32 (bars i) ≤ 63 := by
    intro i hi
    refine ⟨(nI_u _).symm, ?_⟩
    obtain ⟨k, h1, h2, e⟩ := field_bar (hok i hi)
    rw [e]
    unfold u32
    rw [pk_tn (by omega)]; exact h2
  have hle := mxN_le (h := fun i => u32 (bars i)) (fun i hi => (hb i hi).2)
  have e0 : mmade (0 : Int32).toNatClampNeg = nI n := by rw [cl0]; exact hm
  have k1 : p_X4_greatestBar bars (nI n) = some (nI (mxN (fun i => u32 (bars i)) n)) := by
    have key := lp_for (f := fun q : (Int32 × Int32) => s_X4_greatestBar_4 q.1 q.2 bars (nI n)) (fun i (t : Int32) => (t, nI i)) (fun i _ => nI (mxN (fun i => u32 (bars i)) (i + 1))) (fun t => t) n (fun i t => t = nI (mxN (fun i => u32 (bars i)) i)) ?_ ?_ n 0 0 pfFU (by omega) (by have := pf_FU; omega) rfl
    · obtain ⟨t, h1, h2⟩ := key
      unfold p_X4_greatestBar g_X4_greatestBar_4
      rw [show ((0 : Int32), (0 : Int32)) = (0, nI 0) from rfl, h1, h2]; rfl
    · intro i t hi ht
      refine ⟨?_, rfl⟩
      subst ht
      show s_X4_greatestBar_4 _ (nI i) bars (nI n) = _
      unfold s_X4_greatestBar_4
      rw [if_neg (nI_ge hi (by omega)), if_neg (show ¬ (40 : Int32) ≤ nI i from nI_ge (b := 40) (by omega) (by decide)), if_pos (ain_n (by omega) (by decide)), nI_clamp (by omega), nI_1 i]
      have h1 := hb i hi
      have h2 := hle i (by omega)
      show some (Sum.inl _) = some (Sum.inl _)
      congr 3
      show _ = nI (bif Nat.ble (u32 (bars i)) (mxN (fun i => u32 (bars i)) i) then mxN (fun i => u32 (bars i)) i else u32 (bars i))
      cases hc : Nat.ble (u32 (bars i)) (mxN (fun i => u32 (bars i)) i) with
      | true =>
        rw [if_neg]
        · rfl
        · rw [h1.1, Int32.lt_iff_toInt_lt, nI_toInt (by omega), nI_toInt (by omega)]
          have := nf_le hc
          omega
      | false =>
        rw [if_pos]
        · exact h1.1
        · rw [h1.1, Int32.lt_iff_toInt_lt, nI_toInt (by omega), nI_toInt (by omega)]
          have : ¬ u32 (bars i) ≤ mxN (fun i => u32 (bars i)) i := fun q => by rw [Nat.ble_eq.mpr q] at hc; exact absurd hc (by decide)
          omega
    · intro t ht
      show s_X4_greatestBar_4 t (nI n) bars (nI n) = _
      unfold s_X4_greatestBar_4
      rw [if_pos (nI_le (Nat.le_refl _) (by omega))]
  have k2 : ∀ x, p_X8_count mbar mmade x = e_X8_count_41 x (nI (mxN (fun i => u32 (bars i)) n)) mmade := by
    intro x
    have key := lp_for (f := fun q : (Int32 × Int32) => s_X8_count_4 x q.1 q.2 mbar mmade) (fun i (t : Int32) => (t, nI i)) (fun i _ => nI (mxN (fun i => u32 (bars i)) (i + 1))) (fun t => t) n (fun i t => t = nI (mxN (fun i => u32 (bars i)) i)) ?_ ?_ n 0 0 pfFU (by omega) (by have := pf_FU; omega) rfl
    · obtain ⟨t, h1, h2⟩ := key
      unfold p_X8_count g_X8_count_4
      rw [show ((0 : Int32), (0 : Int32)) = (0, nI 0) from rfl, h1, h2]; rfl
    · intro i t hi ht
      refine ⟨?_, rfl⟩
      subst ht
      show s_X8_count_4 x _ (nI i) mbar mmade = _
      unfold s_X8_count_4
      rw [e0, if_neg (nI_ge hi (by omega)), if_pos (ain_n (by omega) (by decide)), if_pos (ain_n (by omega) (by decide)), nI_clamp (by omega), nI_1 i, (heq i (by omega)).1]
      have h1 := hb i hi
      have h2 := hle i (by omega)
      show _ = some (Sum.inl (nI (bif Nat.ble (u32 (bars i)) (mxN (fun i => u32 (bars i)) i) then mxN (fun i => u32 (bars i)) i else u32 (bars i)), _))
      cases hc : Nat.ble (u32 (bars i)) (mxN (fun i => u32 (bars i)) i) with
      | true =>
        rw [if_pos]
        · rfl
        · rw [h1.1, Int32.le_iff_toInt_le, nI_toInt (by omega), nI_toInt (by omega)]
          have := nf_le hc
          omega
      | false =>
        rw [if_neg]
        · exact congrArg (fun z => some (Sum.inl (z, nI (i + 1)))) h1.1
        · rw [h1.1, Int32.le_iff_toInt_le, nI_toInt (by omega), nI_toInt (by omega)]
          have : ¬ u32 (bars i) ≤ mxN (fun i => u32 (bars i)) i := fun q => by rw [Nat.ble_eq.mpr q] at hc; exact absurd hc (by decide)
          omega
    · intro t ht
      show s_X8_count_4 x t (nI n) mbar mmade = _
      unfold s_X8_count_4
      rw [e0, if_pos (nI_le (Nat.le_refl _) (by omega))]
  by_cases h0 : a0 = 0
  · exact ⟨nI n, nI n, by unfold p_X7_count; rw [if_pos h0]; rfl, by rw [k2]; unfold e_X8_count_41; rw [if_pos h0, e0], rfl, hI⟩
  · by_cases h1 : a0 = 1
    · exact ⟨_, _, by unfold p_X7_count; rw [if_neg h0, if_pos h1, k1]; rfl, by rw [k2]; unfold e_X8_count_41; rw [if_neg h0, if_pos h1], rfl, hI⟩
    · exact ⟨-1, -1, by unfold p_X7_count; rw [if_neg h0, if_neg h1], by rw [k2]; unfold e_X8_count_41; rw [if_neg h0, if_neg h1], rfl, hI⟩
