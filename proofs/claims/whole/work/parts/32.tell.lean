theorem half_n : ∀ d ∈ List.range 61, (jrem (nI d / (2 : Int32)) (2 : Int32) = (1 : Int32)) = (d / 2 % 2 = 1) := by
  have h : ∀ d ∈ List.range 61, decide (jrem (nI d / (2 : Int32)) (2 : Int32) = (1 : Int32)) = decide (d / 2 % 2 = 1) := by decide +kernel
  intro d hd
  exact propext (decide_eq_decide.mp (h d hd))
theorem field_n {b : Int32} {g : Int64} (h : FieldOK b g) : ∃ m k, 1 ≤ m ∧ m ≤ 63 ∧ k ∈ SUBT m ∧ b = nI m ∧ g = lN k ∧ (m, k) ∈ FT := by
  obtain ⟨q, hq, b1, g1⟩ := h
  obtain ⟨x1, x2⟩ := nf_and (allQ_mem FT_bar q hq)
  exact ⟨q.1, q.2, nf_le x1, nf_le x2, memB_mem (allQ_mem FT_sub q hq), b1, g1, hq⟩
theorem nI_z {r : Nat} (h : r ≤ 1) : (nI r = 0) ↔ r = 0 := nI_eq (b := 0) (by omega) (by decide)
theorem sim_tell : Sim_tell Inv := by
  intro bars groups size cl cs afd asz baf bas bb bg bd bs bf st sp sn sg sm sd mbar mbits mmade mhas mgroups mfound mpassed mlooked msums mnumbers im0 im1 im2 a0 a1 hI
  have hI' := hI
  obtain ⟨⟨⟨n, rfl, hn, hok⟩, hm, heq⟩, _, _⟩ := hI'
  rcases field_cases hn a0 hm with ⟨i, hi, rfl, e1, e2⟩ | ⟨e1, e2⟩
  · have ai : ainB (nI i) 160 = true := ain_n (by omega) (by decide)
    have ci : (nI i).toNatClampNeg = i := nI_clamp (by omega)
    obtain ⟨m, g, h1, h2, hg, b1, g1, hf⟩ := field_n (hok i hi)
    obtain ⟨d, r, c, ch, d1, d2, r1, r2, c1, c2, s1, u1, u2, u3, u4, _, _, _, _⟩ := chkD_t (t_D h1 h2 hg)
    have hz : ¬ (1 : Int32) = 0 := by decide
    have f1 := (heq i (by omega)).1
    have f2 := (heq i (by omega)).2
    by_cases w0 : a1 = 0
    · refine ⟨(nI m, afd, asz), (nI m, mgroups, mfound), ?_, ?_, rfl, hI⟩
      · unfold p_X7_tell
        simp only [e1, Option.bind_some, if_neg hz, barOf_n hn hi bars e1, bitsOf_n hn hi groups e1, b1, g1, if_pos w0]
      · unfold p_X8_tell
        simp only [e2, Option.bind_some, if_neg hz, if_pos ai, ci, f1, f2, b1, g1, if_pos w0]
    · by_cases w1 : a1 = 1
      · refine ⟨(nI d, afd, asz), (nI d, mgroups, mfound), ?_, ?_, rfl, hI⟩
        · unfold p_X7_tell
          simp only [e1, Option.bind_some, if_neg hz, barOf_n hn hi bars e1, bitsOf_n hn hi groups e1, b1, g1, if_neg w0, if_pos w1, d2]
        · unfold p_X8_tell
          simp only [e2, Option.bind_some, if_neg hz, if_pos ai, ci, f1, f2, b1, g1, if_neg w0, if_pos w1, d1]
      · by_cases w2 : a1 = 2
        · by_cases hr : nI r = 0
          · refine ⟨(0, afd, asz), (0, mgroups, mfound), ?_, ?_, rfl, hI⟩
            · unfold p_X7_tell
              simp only [e1, Option.bind_some, if_neg hz, barOf_n hn hi bars e1, bitsOf_n hn hi groups e1, b1, g1, if_neg w0, if_neg w1, if_pos w2, r2, if_pos hr]
            · unfold p_X8_tell
              simp only [e2, Option.bind_some, if_neg hz, if_pos ai, ci, f1, f2, b1, g1, if_neg w0, if_neg w1, if_pos w2, r1, if_pos hr]
          · refine ⟨(1, afd, asz), (1, mgroups, mfound), ?_, ?_, rfl, hI⟩
            · unfold p_X7_tell
              simp only [e1, Option.bind_some, if_neg hz, barOf_n hn hi bars e1, bitsOf_n hn hi groups e1, b1, g1, if_neg w0, if_neg w1, if_pos w2, r2, if_neg hr]
            · unfold p_X8_tell
              simp only [e2, Option.bind_some, if_neg hz, if_pos ai, ci, f1, f2, b1, g1, if_neg w0, if_neg w1, if_pos w2, r1, if_neg hr]
        · by_cases w3 : a1 = 3
          · by_cases hc : nI c = 0
            · refine ⟨(0, afd, asz), (0, mgroups, mfound), ?_, ?_, rfl, hI⟩
              · unfold p_X7_tell
                simp only [e1, Option.bind_some, if_neg hz, barOf_n hn hi bars e1, bitsOf_n hn hi groups e1, b1, g1, if_neg w0, if_neg w1, if_neg w2, if_pos w3, c2, if_pos hc]
              · unfold p_X8_tell
                simp only [e2, Option.bind_some, if_neg hz, if_pos ai, ci, f1, f2, b1, g1, if_neg w0, if_neg w1, if_neg w2, if_pos w3, c1, if_pos hc]
            · refine ⟨(1, afd, asz), (1, mgroups, mfound), ?_, ?_, rfl, hI⟩
              · unfold p_X7_tell
                simp only [e1, Option.bind_some, if_neg hz, barOf_n hn hi bars e1, bitsOf_n hn hi groups e1, b1, g1, if_neg w0, if_neg w1, if_neg w2, if_pos w3, c2, if_neg hc]
              · unfold p_X8_tell
                simp only [e2, Option.bind_some, if_neg hz, if_pos ai, ci, f1, f2, b1, g1, if_neg w0, if_neg w1, if_neg w2, if_pos w3, c1, if_neg hc]
          · by_cases w4 : a1 = 4
            · refine ⟨(nI (signN r d), afd, asz), (nI (signN r d), mgroups, mfound), ?_, ?_, rfl, hI⟩
              · unfold p_X7_tell
                simp only [e1, Option.bind_some, if_neg hz, barOf_n hn hi bars e1, bitsOf_n hn hi groups e1, b1, g1, if_neg w0, if_neg w1, if_neg w2, if_neg w3, if_pos w4, s1]
              · unfold p_X8_tell
                simp only [e2, Option.bind_some, if_neg hz, if_pos ai, ci, f1, f2, b1, g1, if_neg w0, if_neg w1, if_neg w2, if_neg w3, if_pos w4, r1, d1, half_n d (List.mem_range.mpr (by omega))]
                unfold signN
                by_cases hr : r = 0
                · rw [if_pos ((nI_z u3).mpr hr), hr]
                  by_cases hh : d / 2 % 2 = 1
                  · rw [if_pos hh, hh]; rfl
                  · rw [if_neg hh, beq_f hh]; rfl
                · rw [if_neg (fun q => hr ((nI_z u3).mp q)), beq_f hr]; rfl
            · by_cases w5 : a1 = 5
              · obtain ⟨k, u, F, G, k1, k2, k3, k4⟩ := chkO_t (over_FT hf) afd asz mgroups mfound
                refine ⟨(nI k, F, nI k), (nI k, G, nI k), ?_, ?_, rfl, hI⟩
                · unfold p_X7_tell
                  simp only [e1, Option.bind_some, if_neg hz, barOf_n hn hi bars e1, bitsOf_n hn hi groups e1, b1, g1, if_neg w0, if_neg w1, if_neg w2, if_neg w3, if_neg w4, if_pos w5, k2]
                  rfl
                · unfold p_X8_tell
                  simp only [e2, Option.bind_some, if_neg hz, if_pos ai, ci, f1, f2, b1, g1, if_neg w0, if_neg w1, if_neg w2, if_neg w3, if_neg w4, if_pos w5, k3]
              · refine ⟨(-9, afd, asz), (-9, mgroups, mfound), ?_, ?_, rfl, hI⟩
                · unfold p_X7_tell
                  simp only [e1, Option.bind_some, if_neg hz, barOf_n hn hi bars e1, bitsOf_n hn hi groups e1, b1, g1, if_neg w0, if_neg w1, if_neg w2, if_neg w3, if_neg w4, if_neg w5]
                · unfold p_X8_tell
                  simp only [e2, Option.bind_some, if_neg hz, if_pos ai, ci, f1, f2, b1, g1, if_neg w0, if_neg w1, if_neg w2, if_neg w3, if_neg w4, if_neg w5]
  · refine ⟨(-9, afd, asz), (-9, mgroups, mfound), ?_, ?_, rfl, hI⟩
    · unfold p_X7_tell
      rw [e1]; rfl
    · unfold p_X8_tell
      rw [e2]; rfl
