theorem above1_big {s k : Nat} (hs : s ≤ 4) (hk4 : 4 ≤ k) (hk : k < 2147483648) (L : Nat → Int32) : p_X2_above1 L (nI s) (nI k) = some (-1) := by
  have key : ∀ (e i N c : Nat), i + e = s → e < N → c ≤ i → lpF (fun q : (Int32 × Int32) => s_X2_above1_4 (nI k) q.1 q.2 L (nI s)) N (nI c, nI i) = some (Sum.inr ()) := by
    intro e
    induction e with
    | zero =>
      intro i N c h1 h2 h3
      obtain ⟨N, rfl⟩ : ∃ k, N = k + 1 := ⟨N - 1, by omega⟩
      refine lpF_inr ?_
      show s_X2_above1_4 (nI k) (nI c) (nI i) L (nI s) = _
      unfold s_X2_above1_4
      rw [if_pos (nI_le (show s ≤ i by omega) (by omega))]
    | succ e ih =>
      intro i N c h1 h2 h3
      obtain ⟨N, rfl⟩ : ∃ k, N = k + 1 := ⟨N - 1, by omega⟩
      have hst : s_X2_above1_4 (nI k) (nI c) (nI i) L (nI s) = (if L i ≤ (1 : Int32) then some (Sum.inl (nI c, nI (i + 1))) else some (Sum.inl (nI (c + 1), nI (i + 1)))) := by
        unfold s_X2_above1_4
        rw [if_neg (nI_ge (show i < s by omega) (by omega)), if_neg (show ¬ (4 : Int32) ≤ nI i from nI_ge (b := 4) (by omega) (by decide)), if_pos (ain_n (by omega) (by decide)), nI_clamp (by omega), if_neg (show ¬ nI c = nI k from fun z => by have := (nI_eq (by omega) hk).mp z; omega), nI_1 i, nI_1 c]
      by_cases hL : L i ≤ (1 : Int32)
      · rw [lpF_inl (s' := (nI c, nI (i + 1))) (by show s_X2_above1_4 (nI k) (nI c) (nI i) L (nI s) = _; rw [hst, if_pos hL])]
        exact ih (i + 1) N c (by omega) (by omega) (by omega)
      · rw [lpF_inl (s' := (nI (c + 1), nI (i + 1))) (by show s_X2_above1_4 (nI k) (nI c) (nI i) L (nI s) = _; rw [hst, if_neg hL])]
        exact ih (i + 1) N (c + 1) (by omega) (by omega) (by omega)
  have hfu := pf_FU
  unfold p_X2_above1 g_X2_above1_4
  rw [show ((0 : Int32), (0 : Int32)) = (nI 0, nI 0) from rfl, key s 0 pfFU 0 (by omega) (by omega) (by omega)]; rfl
theorem sim_factor : Sim_factor Inv := by
  intro bars groups size cl cs afd asz baf bas bb bg bd bs bf st sp sn sg sm sd mbar mbits mmade mhas mgroups mfound mpassed mlooked msums mnumbers im0 im1 im2 a0 a1 hI
  have hz : ¬ (1 : Int32) = 0 := by decide
  rcases m_cases a0 with ⟨m, h1, h2, rfl, e1, e2⟩ | ⟨e1, e2⟩
  · by_cases hneg : a1 < 0
    · have hnn : ¬ (0 ≤ a1) := fun q => (le0_n.mp q) hneg
      exact ⟨(-1, cl, cs), -1, by unfold p_X7_factor; simp only [e1, Option.bind_some, if_neg hz, if_neg hnn], by unfold p_X8_factor; simp only [e2, Option.bind_some, if_neg hz, if_neg hnn], rfl, hI⟩
    · have hnn : 0 ≤ a1 := le0_n.mpr hneg
      obtain ⟨k, hk, rfl⟩ := nI_of hneg
      obtain ⟨R, r1, h⟩ := wO_t (t_Fa h1 h2 (fun i => u32 (cl i)))
      obtain ⟨r2, h⟩ := nf_and h
      obtain ⟨h, h'⟩ := nf_and h
      obtain ⟨v, v1, h⟩ := wO_t h
      obtain ⟨mo, o1, o2⟩ := wO_t h
      have r2 := nf_le r2
      have o2 := nf_le o2
      have hfind : p_X2_find cl cs (nI m) = some (nA R.1, nI R.2) := by
        have : p_X2_find cl cs (nI m) = Option.map (cP nA nI) (np_X2_find (fun i => u32 (cl i)) 0 m) := by
          rw [← h_p_X2_find, nA_u]; rfl
        rw [this, r1]; rfl
      have hcl : ∀ a, p_X2_above1 (nA R.1) (nI R.2) (nI k) = some a → p_X7_factor cl cs (nI m) (nI k) = some (a, nA R.1, nI R.2) := by
        intro a ha
        unfold p_X7_factor
        simp only [e1, Option.bind_some, if_neg hz, if_pos hnn, hfind, ha]
      rcases Nat.lt_or_ge k 4 with hk4 | hk4
      · obtain ⟨a, a1, a2⟩ := wO_t (allB_mem h' k (by rcases (show k = 0 ∨ k = 1 ∨ k = 2 ∨ k = 3 by omega) with rfl | rfl | rfl | rfl <;> decide))
        exact ⟨(nI a, nA R.1, nI R.2), nI a, hcl _ (by rw [h_p_X2_above1, a1]; rfl), by rw [h_p_X8_factor, eqO_s a2]; rfl, rfl, hI⟩
      · refine ⟨(-1, nA R.1, nI R.2), -1, hcl _ (above1_big r2 hk4 hk _), ?_, rfl, hI⟩
        have hl : lpF (fun q : (Int32 × Int32) => s_X8_factor_27 (nI m) (nI k) (nI v) q.1 q.2) pfFU ((0 : Int32), (2 : Int32)) = some (nI mo) := by
          have := lp_hom (f := fun q : (Int32 × Int32) => s_X8_factor_27 (nI m) (nI k) (nI v) q.1 q.2) (g := fun q : (Nat × Nat) => ns_X8_factor_27 m 0 v q.1 q.2) (cP nI nI) nI (fun q => h_s_X8_factor_27 m 0 v q.1 q.2) pfFU (0, 2)
          rw [o1] at this
          exact this
        unfold p_X8_factor
        simp only [e2, Option.bind_some, if_neg hz, if_pos hnn, all8_n h1 h2]
        rw [h_p_X8_many, v1, Option.map_some, Option.bind_some]
        unfold g_X8_factor_27
        rw [hl]
        show e_X8_factor_75 (nI m) (nI k) (nI v) (nI mo) = _
        unfold e_X8_factor_75
        rw [if_neg (by rw [Int32.lt_iff_toInt_lt, nI_toInt hk, nI_toInt (by omega)]; omega)]
  · exact ⟨(-1, cl, cs), -1, by unfold p_X7_factor; rw [e1]; rfl, by unfold p_X8_factor; rw [e2]; rfl, rfl, hI⟩
