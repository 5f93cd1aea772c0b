theorem deg_cases (x : Int32) : (∃ d, 1 ≤ d ∧ d ≤ 8 ∧ x = nI d ∧ p_X7_isDegree x = some 1 ∧ p_X8_isIn x 1 8 = some 1) ∨ (p_X7_isDegree x = some 0 ∧ p_X8_isIn x 1 8 = some 0) := by
  have i1 : (1 : Int32).toInt = 1 := rfl
  have i2 : (8 : Int32).toInt = 8 := rfl
  by_cases h0 : x < 1
  · right
    exact ⟨by unfold p_X7_isDegree; rw [if_pos h0], by unfold p_X8_isIn; rw [if_pos h0]⟩
  · by_cases h1 : (8 : Int32) < x
    · right
      exact ⟨by unfold p_X7_isDegree; rw [if_neg h0, if_pos h1], by unfold p_X8_isIn; rw [if_neg h0, if_pos h1]⟩
    · left
      have hx : ¬ x < 0 := by
        intro h
        apply h0
        rw [Int32.lt_iff_toInt_lt] at h ⊢
        have e2 : (0 : Int32).toInt = 0 := rfl
        omega
      obtain ⟨m, hm, rfl⟩ := nI_of hx
      have h0' := h0
      have h1' := h1
      rw [Int32.lt_iff_toInt_lt, nI_toInt hm] at h0' h1'
      exact ⟨m, by omega, by omega, rfl, by unfold p_X7_isDegree; rw [if_neg h0, if_neg h1], by unfold p_X8_isIn; rw [if_neg h0, if_neg h1]⟩
theorem mem8 {d : Nat} (h1 : 1 ≤ d) (h2 : d ≤ 8) : d ∈ D8 := by
  rcases (show d = 1 ∨ d = 2 ∨ d = 3 ∨ d = 4 ∨ d = 5 ∨ d = 6 ∨ d = 7 ∨ d = 8 by omega) with rfl | rfl | rfl | rfl | rfl | rfl | rfl | rfl <;> decide
theorem LTD_len (d M : Nat) : (LTD d M).length ≤ 181 := by
  unfold LTD LTP
  refine Nat.le_trans (List.length_filter_le _ _) (Nat.le_trans (List.length_filter_le _ _) ?_)
  rw [LT_len]; omega
theorem LTD_pre {d : Nat} (hd : d ∈ D8) : ∀ (e m b : Nat), m + e = b → b ≤ 63 → ∃ rest, LTD d b = LTD d m ++ rest := by
  intro e
  induction e with
  | zero => intro m b h _; exact ⟨[], by rw [List.append_nil, show b = m by omega]⟩
  | succ e ih =>
    intro m b h hb
    obtain ⟨rest, hr⟩ := ih (m + 1) b (by omega) hb
    refine ⟨EQ (m + 1) d ++ rest, ?_⟩
    rw [hr, LTD_s d hd m (List.mem_range.mpr (by omega)), List.append_assoc]
theorem list_run {d b : Nat} (hd : d ∈ D8) (hb : b ≤ 63) : ∀ (e m N : Nat) (fg : Nat → Int64) (ff : Int32) (l : Int64), m + e = b → e < N → ∃ G n l', lpF (fun q : (Int32 × (Nat → Int64) × Int32 × Int32 × Int64) => s_X8_list_17 (nI d) (nI b) q.1 q.2.1 q.2.2.1 q.2.2.2.1 q.2.2.2.2) N (nI (m + 1), fg, ff, nI (LTD d m).length, l) = some (G, n, nI (LTD d b).length, l') := by
  intro e
  induction e with
  | zero =>
    intro m N fg ff l h1 h2
    obtain ⟨N, rfl⟩ : ∃ k, N = k + 1 := ⟨N - 1, by omega⟩
    have : m = b := by omega
    subst this
    refine ⟨fg, ff, l, lpF_inr ?_⟩
    show s_X8_list_17 (nI d) (nI m) (nI (m + 1)) fg ff (nI (LTD d m).length) l = _
    unfold s_X8_list_17
    rw [if_pos (nI_lt (show m < m + 1 by omega) (by omega))]
  | succ e ih =>
    intro m N fg ff l h1 h2
    obtain ⟨N, rfl⟩ : ∃ k, N = k + 1 := ⟨N - 1, by omega⟩
    obtain ⟨G, n, hp⟩ := passes_n (m := m + 1) (by omega) (by omega) hd fg ff (LTD d m).length l (-1)
    rw [lpF_inl (s' := (nI (m + 1 + 1), G, n, nI (LTD d (m + 1)).length, lookL (-1) (LTD d m).length l (EQ (m + 1) d)))]
    · exact ih (m + 1) N G n _ (by omega) (by omega)
    · show s_X8_list_17 (nI d) (nI b) (nI (m + 1)) fg ff (nI (LTD d m).length) l = _
      unfold s_X8_list_17
      rw [if_neg (by rw [Int32.lt_iff_toInt_lt, nI_toInt (by omega), nI_toInt (by omega)]; omega), hp, Option.bind_some, nI_1, LTD_s d hd m (List.mem_range.mpr (by omega)), List.length_append]
theorem sim_list : Sim_list Inv := by
  intro bars groups size cl cs afd asz baf bas bb bg bd bs bf st sp sn sg sm sd mbar mbits mmade mhas mgroups mfound mpassed mlooked msums mnumbers im0 im1 im2 a0 a1 hI
  have hI' := hI
  obtain ⟨hS, hIm, hBk⟩ := hI'
  have hz : ¬ (1 : Int32) = 0 := by decide
  rcases deg_cases a0 with ⟨d, d1, d2, rfl, e1, e2⟩ | ⟨e1, e2⟩
  · rcases m_cases a1 with ⟨b, b1, b2, rfl, e3, e4⟩ | ⟨e3, e4⟩
    · obtain ⟨M, hM, rfl, rfl, hB⟩ := book_of hBk
      obtain ⟨fa', sa', bars', groups', degrees', M', g1, g2, g3, g4⟩ := fillTo_n b2 hM hB baf bas
      have hd := mem8 d1 d2
      have hfu := pf_FU
      obtain ⟨G, n, l', hr⟩ := list_run hd b2 b 0 pfFU mgroups mfound mlooked (by omega) (by omega)
      refine ⟨(nI (LTD d b).length, fa', sa', bars', groups', degrees', nI (cnt M'), nI M'), (nI (LTD d b).length, G, n, nI (LTD d b).length, l'), ?_, ?_, rfl, hS, hIm, book_to g3 g4⟩
      · unfold p_X7_list
        simp only [e1, e3, Option.bind_some, if_neg hz, g1, howMany_n g3 g2 d2 g4]
      · unfold p_X8_list p_X8_isList
        simp only [e2, e4, Option.bind_some, if_neg hz]
        unfold g_X8_list_17
        rw [LTD_0 d hd] at hr
        rw [show ((1 : Int32), mgroups, mfound, (0 : Int32), mlooked) = (nI (0 + 1), mgroups, mfound, nI ([] : List (Nat × Nat × Nat)).length, mlooked) from rfl, hr]; rfl
    · refine ⟨(-1, baf, bas, bb, bg, bd, bs, bf), (-1, mgroups, mfound, mpassed, mlooked), ?_, ?_, rfl, hI⟩
      · unfold p_X7_list
        rw [e1, e3]; rfl
      · unfold p_X8_list p_X8_isList
        rw [e2, e4]; rfl
  · refine ⟨(-1, baf, bas, bb, bg, bd, bs, bf), (-1, mgroups, mfound, mpassed, mlooked), ?_, ?_, rfl, hI⟩
    · unfold p_X7_list
      rw [e1]; rfl
    · unfold p_X8_list p_X8_isList
      rw [e2]; rfl
theorem listed_run {d b k : Nat} (hd : d ∈ D8) (hb : b ≤ 63) (hk : k < 2147483648) (fb : Nat → Int32) (fbi : Nat → Int64) (fm : Nat → Int32) : ∀ (e m N : Nat) (fg : Nat → Int64) (ff : Int32) (l : Int64), m + e = b → e < N → (LTD d m).length ≤ k →
    (∃ q G n p, (LTD d b)[k]? = some q ∧ lpF (fun q : (Int32 × (Nat → Int64) × Int32 × Int32 × Int64) => s_X8_listed_22 (nI d) (nI b) (nI k) q.1 fb fbi fm q.2.1 q.2.2.1 q.2.2.2.1 q.2.2.2.2) N (nI (m + 1), fg, ff, nI (LTD d m).length, l) = some (Sum.inl (nI q.1, G, n, p, lN q.2.1))) ∨ ((LTD d b).length ≤ k ∧ ∃ z, lpF (fun q : (Int32 × (Nat → Int64) × Int32 × Int32 × Int64) => s_X8_listed_22 (nI d) (nI b) (nI k) q.1 fb fbi fm q.2.1 q.2.2.1 q.2.2.2.1 q.2.2.2.2) N (nI (m + 1), fg, ff, nI (LTD d m).length, l) = some (Sum.inr z)) := by
  intro e
  induction e with
  | zero =>
    intro m N fg ff l h1 h2 h3
    obtain ⟨N, rfl⟩ : ∃ k, N = k + 1 := ⟨N - 1, by omega⟩
    have : m = b := by omega
    subst this
    right
    refine ⟨h3, (fg, ff, nI (LTD d m).length, l), lpF_inr ?_⟩
    show s_X8_listed_22 (nI d) (nI m) (nI k) (nI (m + 1)) fb fbi fm fg ff (nI (LTD d m).length) l = _
    unfold s_X8_listed_22
    rw [if_pos (nI_lt (show m < m + 1 by omega) (by omega))]
  | succ e ih =>
    intro m N fg ff l h1 h2 h3
    obtain ⟨N, rfl⟩ : ∃ k, N = k + 1 := ⟨N - 1, by omega⟩
    obtain ⟨G, n, hp⟩ := passes_n (m := m + 1) (by omega) (by omega) hd fg ff (LTD d m).length l (nI k)
    have hs := LTD_s d hd m (List.mem_range.mpr (by omega))
    have hsl : (LTD d m).length + (EQ (m + 1) d).length = (LTD d (m + 1)).length := by rw [hs, List.length_append]
    have hl := LTD_len d (m + 1)
    have hstep : s_X8_listed_22 (nI d) (nI b) (nI k) (nI (m + 1)) fb fbi fm fg ff (nI (LTD d m).length) l = (if nI (LTD d (m + 1)).length ≤ nI k then some (Sum.inl (nI (m + 1 + 1), G, n, nI (LTD d (m + 1)).length, lookL (nI k) (LTD d m).length l (EQ (m + 1) d))) else some (Sum.inr (Sum.inl (nI (m + 1), G, n, nI (LTD d (m + 1)).length, lookL (nI k) (LTD d m).length l (EQ (m + 1) d))))) := by
      unfold s_X8_listed_22
      rw [if_neg (by rw [Int32.lt_iff_toInt_lt, nI_toInt (by omega), nI_toInt (by omega)]; omega), hp, Option.bind_some, nI_1, hsl]
    rcases Nat.lt_or_ge k (LTD d (m + 1)).length with h4 | h4
    · left
      have hlt : k - (LTD d m).length < (EQ (m + 1) d).length := by omega
      have hget : (EQ (m + 1) d)[k - (LTD d m).length]? = some (EQ (m + 1) d)[k - (LTD d m).length] := List.getElem?_eq_getElem hlt
      have hmem := List.getElem_mem hlt
      have hbar : ((EQ (m + 1) d)[k - (LTD d m).length]).1 = m + 1 := Nat.eq_of_beq_eq_true (nf_and (List.mem_filter.mp hmem).2).1
      obtain ⟨rest, hr⟩ := LTD_pre hd e (m + 1) b (by omega) hb
      refine ⟨(EQ (m + 1) d)[k - (LTD d m).length], G, n, nI (LTD d (m + 1)).length, ?_, lpF_inr ?_⟩
      · rw [hr, List.getElem?_append_left h4, hs, List.getElem?_append_right h3, hget]
      · show s_X8_listed_22 (nI d) (nI b) (nI k) (nI (m + 1)) fb fbi fm fg ff (nI (LTD d m).length) l = _
        rw [hstep, if_neg (nI_ge h4 (by omega)), lookL_get hk (EQ (m + 1) d) (LTD d m).length l h3 (by omega) hget, hbar]
    · rw [lpF_inl (s' := (nI (m + 1 + 1), G, n, nI (LTD d (m + 1)).length, lookL (nI k) (LTD d m).length l (EQ (m + 1) d)))]
      · exact ih (m + 1) N G n _ (by omega) (by omega) h4
      · show s_X8_listed_22 (nI d) (nI b) (nI k) (nI (m + 1)) fb fbi fm fg ff (nI (LTD d m).length) l = _
        rw [hstep, if_pos (nI_le h4 hk)]
theorem t_LK : ∀ q ∈ LT, (eqO (np_X8_barOf q.1 q.2.1) (some q.1) && eqO (np_X8_down q.1 q.2.1 q.1) (some q.2.1)) = true := by decide +kernel
theorem le0_n {x : Int32} : (0 ≤ x) ↔ ¬ x < 0 := Int32.not_lt.symm
theorem sim_listed : Sim_listed Inv := by
  intro bars groups size cl cs afd asz baf bas bb bg bd bs bf st sp sn sg sm sd mbar mbits mmade mhas mgroups mfound mpassed mlooked msums mnumbers im0 im1 im2 a0 a1 a2 hI
  have hI' := hI
  obtain ⟨hS, hIm, hBk⟩ := hI'
  have hz : ¬ (1 : Int32) = 0 := by decide
  rcases deg_cases a0 with ⟨d, d1, d2, rfl, e1, e2⟩ | ⟨e1, e2⟩
  · rcases m_cases a1 with ⟨b, b1, b2, rfl, e3, e4⟩ | ⟨e3, e4⟩
    · by_cases hneg : a2 < 0
      · have hnn : ¬ (0 ≤ a2) := fun q => (le0_n.mp q) hneg
        refine ⟨(-1, bars, groups, size, baf, bas, bb, bg, bd, bs, bf), (-1, mbar, mbits, mmade, mgroups, mfound, mpassed, mlooked), ?_, ?_, rfl, hI⟩
        · unfold p_X7_listed
          simp only [e1, e3, Option.bind_some, if_neg hz, if_neg hnn]
        · unfold p_X8_listed p_X8_isList
          simp only [e2, e4, Option.bind_some, if_neg hz, if_neg hnn]
      · have hnn : 0 ≤ a2 := le0_n.mpr hneg
        obtain ⟨k, hk, rfl⟩ := nI_of hneg
        obtain ⟨M, hM, rfl, rfl, hB⟩ := book_of hBk
        obtain ⟨fa', sa', bars', groups', degrees', M', g1, g2, g3, g4⟩ := fillTo_n b2 hM hB baf bas
        have hd := mem8 d1 d2
        have hfu := pf_FU
        have hrun := listed_run hd b2 hk mbar mbits mmade b 0 pfFU mgroups mfound mlooked (by omega) (by omega) (by rw [LTD_0 d hd]; exact Nat.zero_le _)
        rw [LTD_0 d hd] at hrun
        have hmod : ∀ z, lpF (fun q : (Int32 × (Nat → Int64) × Int32 × Int32 × Int64) => s_X8_listed_22 (nI d) (nI b) (nI k) q.1 mbar mbits mmade q.2.1 q.2.2.1 q.2.2.2.1 q.2.2.2.2) pfFU (nI (0 + 1), mgroups, mfound, nI ([] : List (Nat × Nat × Nat)).length, mlooked) = some z → p_X8_listed mbar mbits mmade mgroups mfound mpassed mlooked (nI d) (nI b) (nI k) = a_X8_listed_22 mbar mbits mmade z := by
          intro z hzz
          unfold p_X8_listed p_X8_isList
          simp only [e2, e4, Option.bind_some, if_neg hz, if_pos hnn]
          unfold g_X8_listed_22
          rw [show ((1 : Int32), mgroups, mfound, (0 : Int32), mlooked) = (nI (0 + 1), mgroups, mfound, nI ([] : List (Nat × Nat × Nat)).length, mlooked) from rfl, hzz]; rfl
        have c1 := cnt_le M' (mem63 g3)
        rcases placeOf_n g3 g2 d2 hk g4 with ⟨i, i1, i2, i3, i4⟩ | ⟨i1, i2⟩
        · rcases hrun with ⟨q, G, n, p, q1, q2⟩ | ⟨q1, _⟩
          · have hq : q = LTI i := Option.some.inj (q1.symm.trans i4)
            subst hq
            obtain ⟨o1, o2, o3, o4, o5, o6⟩ := LTI_ok (i := i) (by omega)
            obtain ⟨t1, t2⟩ := nf_and (t_LK _ (LTI_mem (i := i) (by omega)))
            obtain ⟨r1, r2, k1, k2, k3, k4, k5, k6⟩ := keep_sim hS (b := nI (LTI i).1) (g := lN (LTI i).2.1) ⟨((LTI i).1, (LTI i).2.1), o4, rfl, rfl⟩
            obtain ⟨x1, x2, x3⟩ := g4 i i2
            have hholds : p_X1_holds (nI (cnt M')) (nI i) = some 1 := by
              unfold p_X1_holds
              rw [if_neg (nI_pos (by omega)), if_neg (nI_ge i2 (by omega)), if_neg (show ¬ (256 : Int32) ≤ nI i from nI_ge (b := 256) (by omega) (by decide))]
            have hbar : p_X1_barAt bars' (nI (cnt M')) (nI i) = some (nI (LTI i).1) := by
              unfold p_X1_barAt
              rw [hholds, Option.bind_some, if_neg hz, if_pos (ain_n (by omega) (by decide)), nI_clamp (by omega), x1]
            have hbit : p_X1_bitsAt groups' (nI (cnt M')) (nI i) = some (lN (LTI i).2.1) := by
              unfold p_X1_bitsAt
              rw [hholds, Option.bind_some, if_neg hz, if_pos (ain_n (by omega) (by decide)), nI_clamp (by omega), x2]
            have hinv := inv_keep ⟨hS, hIm, book_to g3 g4⟩ k4 k5 k6
            refine ⟨(r1.1, r1.2.1, r1.2.2.1, r1.2.2.2, fa', sa', bars', groups', degrees', nI (cnt M'), nI M'), (r2.1, r2.2.1, r2.2.2.1, r2.2.2.2, G, n, p, lN (LTI i).2.1), ?_, ?_, k3, hinv⟩
            · unfold p_X7_listed
              simp only [e1, e3, Option.bind_some, if_neg hz, if_pos hnn, g1, i3, if_neg (m1_ne (l := i) (by omega)), hbar, hbit, k1]
            · rw [hmod _ q2]
              show e_X8_listed_44 (nI (LTI i).1) mbar mbits mmade G n p (lN (LTI i).2.1) = _
              unfold e_X8_listed_44 p_X8_keeps
              rw [h_p_X8_barOf, eqO_s t1, Option.map_some, Option.bind_some, h_p_X8_down, eqO_s t2, Option.map_some, Option.bind_some, k2]; rfl
          · have := (List.getElem?_eq_some_iff.mp i4).1
            omega
        · rcases hrun with ⟨q, G, n, p, q1, q2⟩ | ⟨q1, z, q2⟩
          · have := (List.getElem?_eq_some_iff.mp q1).1
            omega
          · refine ⟨(-1, bars, groups, size, fa', sa', bars', groups', degrees', nI (cnt M'), nI M'), (-1, mbar, mbits, mmade, z.1, z.2.1, z.2.2.1, z.2.2.2), ?_, ?_, rfl, hS, hIm, book_to g3 g4⟩
            · unfold p_X7_listed
              simp only [e1, e3, Option.bind_some, if_neg hz, if_pos hnn, g1, i2]
              rfl
            · rw [hmod _ q2]; rfl
    · refine ⟨(-1, bars, groups, size, baf, bas, bb, bg, bd, bs, bf), (-1, mbar, mbits, mmade, mgroups, mfound, mpassed, mlooked), ?_, ?_, rfl, hI⟩
      · unfold p_X7_listed
        rw [e1, e3]; rfl
      · unfold p_X8_listed p_X8_isList
        rw [e2, e4]; rfl
  · refine ⟨(-1, bars, groups, size, baf, bas, bb, bg, bd, bs, bf), (-1, mbar, mbits, mmade, mgroups, mfound, mpassed, mlooked), ?_, ?_, rfl, hI⟩
    · unfold p_X7_listed
      rw [e1]; rfl
    · unfold p_X8_listed p_X8_isList
      rw [e2]; rfl
