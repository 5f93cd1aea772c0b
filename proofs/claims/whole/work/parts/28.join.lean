theorem isM_n {l : Nat} (h1 : 1 ≤ l) (h2 : l ≤ 4000) : p_X7_isM (nI l) = some (if l ≤ 63 then 1 else 0) := by
  unfold p_X7_isM
  have i1 : (1 : Int32).toInt = 1 := rfl
  have i2 : (63 : Int32).toInt = 63 := rfl
  rw [if_neg (by rw [Int32.lt_iff_toInt_lt, nI_toInt (by omega)]; omega)]
  by_cases h : l ≤ 63
  · rw [if_neg (by rw [Int32.lt_iff_toInt_lt, nI_toInt (by omega)]; omega), if_pos h]
  · rw [if_pos (by rw [Int32.lt_iff_toInt_lt, nI_toInt (by omega)]; omega), if_neg h]
theorem le63_n {l : Nat} (h2 : l ≤ 4000) : (nI l ≤ (63 : Int32)) ↔ l ≤ 63 := by
  have i2 : (63 : Int32).toInt = 63 := rfl
  rw [Int32.le_iff_toInt_le, nI_toInt (by omega)]; omega
theorem commonM_n {n i j : Nat} (hn : n ≤ 40) (hi : i < n) (hj : j < n) {bars : Nat → Int32} (e1 : p_X4_holds (nI n) (nI i) = some 1) (e2 : p_X4_holds (nI n) (nI j) = some 1) {l : Nat} (hl : p_X6_leastMultiple (bars i) (bars j) = some (nI l)) (h1 : 1 ≤ l) (h2 : l ≤ 4000) : p_X7_commonM bars (nI n) (nI i) (nI j) = some (if l ≤ 63 then nI l else -1) := by
  unfold p_X7_commonM
  rw [e1, Option.bind_some, if_neg (by decide), e2, Option.bind_some, if_neg (by decide), barOf_n hn hi bars e1, Option.bind_some, barOf_n hn hj bars e2, Option.bind_some, hl, Option.bind_some, isM_n h1 h2, Option.bind_some]
  by_cases h : l ≤ 63
  · rw [if_pos h, if_pos h, if_neg (by decide)]
  · rw [if_neg h, if_neg h, if_pos rfl]
theorem bitsBy_n {n i : Nat} (hn : n ≤ 40) (hi : i < n) {bars : Nat → Int32} {groups : Nat → Int64} (e1 : p_X4_holds (nI n) (nI i) = some 1) {m : Int32} {u : Int64} (h : p_X3_lifted (groups i) (bars i) m = some u) : p_X4_bitsBy bars groups (nI n) (nI i) m = some u := by
  unfold p_X4_bitsBy
  rw [bitsOf_n hn hi groups e1, Option.bind_some, barOf_n hn hi bars e1, Option.bind_some, h]; rfl
theorem m1_ne {l : Nat} (h : l < 2147483648) : ¬ nI l = (-1 : Int32) := by
  intro q
  have := congrArg Int32.toInt q
  rw [nI_toInt h] at this
  have e : (-1 : Int32).toInt = -1 := rfl
  omega
/-- what the FIELDS i and j are by their least common m, on both sides -/
theorem pair_n {bars : Nat → Int32} {groups : Nat → Int64} {i j : Nat} (hi : FieldOK (bars i) (groups i)) (hj : FieldOK (bars j) (groups j)) : ∃ l, p_X6_leastMultiple (bars i) (bars j) = some (nI l) ∧ p_X8_multiple (bars i) (bars j) = some (nI l) ∧ 1 ≤ l ∧ l ≤ 4000 ∧ (l ≤ 63 → ∃ u v, u ∈ SUBT l ∧ v ∈ SUBT l ∧ p_X3_lifted (groups i) (bars i) (nI l) = some (lN u) ∧ p_X8_up (bars i) (groups i) (nI l) = some (lN u) ∧ p_X3_lifted (groups j) (bars j) (nI l) = some (lN v) ∧ p_X8_up (bars j) (groups j) (nI l) = some (lN v)) := by
  obtain ⟨q, hq, b1, g1⟩ := hi
  obtain ⟨q', hq', b2, g2⟩ := hj
  obtain ⟨x1, x2⟩ := nf_and (allQ_mem FT_bar q hq)
  obtain ⟨y1, y2⟩ := nf_and (allQ_mem FT_bar q' hq')
  obtain ⟨l, l1, l2, l3, l4, l5, l6⟩ := chkL_t (all63_t (all63_t t_L (nf_le x1) (nf_le x2)) (nf_le y1) (nf_le y2))
  rw [b1, b2, g1, g2]
  refine ⟨l, l1, l2, l3, l4, fun h => ?_⟩
  obtain ⟨u, u1, u2, u3⟩ := chkU_t (allQ_mem t_U q hq) l3 h l5
  obtain ⟨v, v1, v2, v3⟩ := chkU_t (allQ_mem t_U q' hq') l3 h l6
  exact ⟨u, v, u3, v3, u1, u2, v1, v2⟩
theorem sim_join : Sim_join Inv := by
  intro bars groups size cl cs afd asz baf bas bb bg bd bs bf st sp sn sg sm sd mbar mbits mmade mhas mgroups mfound mpassed mlooked msums mnumbers im0 im1 im2 a0 a1 hI
  have hI' := hI
  obtain ⟨⟨⟨n, rfl, hn, hok⟩, hm, heq⟩, _, _⟩ := hI'
  rcases field_cases hn a0 hm with ⟨i, hi, rfl, e1, e2⟩ | ⟨e1, e2⟩
  · rcases field_cases hn a1 hm with ⟨j, hj, rfl, e3, e4⟩ | ⟨e3, e4⟩
    · obtain ⟨l, l1, l2, l3, l4, l5⟩ := pair_n (hok i hi) (hok j hj)
      have ai : ainB (nI i) 160 = true := ain_n (by omega) (by decide)
      have aj : ainB (nI j) 160 = true := ain_n (by omega) (by decide)
      have ci : (nI i).toNatClampNeg = i := nI_clamp (by omega)
      have cj : (nI j).toNatClampNeg = j := nI_clamp (by omega)
      have cm := commonM_n hn hi hj e1 e3 l1 l3 l4
      by_cases h : l ≤ 63
      · obtain ⟨u, v, u1, v1, u2, u3, v2, v3⟩ := l5 h
        have hs : u &&& v ∈ SUBT l := memB_mem (allB_mem (allB_mem (all63_t t_A l3 h) u u1) v v1)
        obtain ⟨r1, r2, g1, g2, g3, g4⟩ := keep_both hI l3 h hs
        refine ⟨r1, r2, ?_, ?_, g3, g4⟩
        · unfold p_X7_join
          rw [cm, if_pos h, Option.bind_some, if_neg (m1_ne (by omega)), bitsBy_n hn hi e1 u2, Option.bind_some, bitsBy_n hn hj e3 v2, Option.bind_some, fb_andL, g1]; rfl
        · unfold p_X8_join
          simp only [e2, e4, Option.bind_some, if_neg (show ¬ (1 : Int32) = 0 by decide), if_pos ai, if_pos aj, ci, cj, (heq i (by omega)).1, (heq i (by omega)).2, (heq j (by omega)).1, (heq j (by omega)).2, l2, if_pos ((le63_n l4).mpr h), u3, v3, fb_andL, g2]
      · refine ⟨(-1, bars, groups, nI n), (-1, mbar, mbits, mmade), ?_, ?_, rfl, hI⟩
        · unfold p_X7_join
          rw [cm, if_neg h]; rfl
        · unfold p_X8_join
          simp only [e2, e4, Option.bind_some, if_neg (show ¬ (1 : Int32) = 0 by decide), if_pos ai, if_pos aj, ci, cj, (heq i (by omega)).1, (heq i (by omega)).2, (heq j (by omega)).1, (heq j (by omega)).2, l2, if_neg (fun q => h ((le63_n l4).mp q))]
    · refine ⟨(-1, bars, groups, nI n), (-1, mbar, mbits, mmade), ?_, ?_, rfl, hI⟩
      · unfold p_X7_join p_X7_commonM
        rw [e1, e3]; rfl
      · unfold p_X8_join
        rw [e2, e4]; rfl
  · refine ⟨(-1, bars, groups, nI n), (-1, mbar, mbits, mmade), ?_, ?_, rfl, hI⟩
    · unfold p_X7_join p_X7_commonM
      rw [e1]; rfl
    · unfold p_X8_join
      rw [e2]; rfl
theorem sim_meet : Sim_meet Inv := by
  intro bars groups size cl cs afd asz baf bas bb bg bd bs bf st sp sn sg sm sd mbar mbits mmade mhas mgroups mfound mpassed mlooked msums mnumbers im0 im1 im2 a0 a1 hI
  have hI' := hI
  obtain ⟨⟨⟨n, rfl, hn, hok⟩, hm, heq⟩, _, _⟩ := hI'
  rcases field_cases hn a0 hm with ⟨i, hi, rfl, e1, e2⟩ | ⟨e1, e2⟩
  · rcases field_cases hn a1 hm with ⟨j, hj, rfl, e3, e4⟩ | ⟨e3, e4⟩
    · obtain ⟨l, l1, l2, l3, l4, l5⟩ := pair_n (hok i hi) (hok j hj)
      have ai : ainB (nI i) 160 = true := ain_n (by omega) (by decide)
      have aj : ainB (nI j) 160 = true := ain_n (by omega) (by decide)
      have ci : (nI i).toNatClampNeg = i := nI_clamp (by omega)
      have cj : (nI j).toNatClampNeg = j := nI_clamp (by omega)
      have cm := commonM_n hn hi hj e1 e3 l1 l3 l4
      by_cases h : l ≤ 63
      · obtain ⟨u, v, u1, v1, u2, u3, v2, v3⟩ := l5 h
        have hp : p_X3_product (lN u) (lN v) (nI l) = some (lN (foldW l u v l)) := by
          rw [h_p_X3_product, eqO_s (allB_mem (allB_mem (t_P l3 h) u u1) v v1)]; rfl
        have hva : ∀ r, bitB v r = true → bitB (ALLT l) r = true := fun r hr => sub_all l3 h v1 hr
        have hq := product_n l3 h u1 (sub_lt l3 h v1) hva
        have hs := foldW_sub l3 h u1 hva l (Nat.le_refl l)
        obtain ⟨r1, r2, g1, g2, g3, g4⟩ := keep_both hI l3 h hs
        refine ⟨r1, r2, ?_, ?_, g3, g4⟩
        · unfold p_X7_meet
          rw [cm, if_pos h, Option.bind_some, if_neg (m1_ne (by omega)), bitsBy_n hn hi e1 u2, Option.bind_some, bitsBy_n hn hj e3 v2, Option.bind_some, hp, Option.bind_some, g1]; rfl
        · unfold p_X8_meet
          simp only [e2, e4, Option.bind_some, if_neg (show ¬ (1 : Int32) = 0 by decide), if_pos ai, if_pos aj, ci, cj, (heq i (by omega)).1, (heq i (by omega)).2, (heq j (by omega)).1, (heq j (by omega)).2, l2, if_pos ((le63_n l4).mpr h), u3, v3, hq, g2]
      · refine ⟨(-1, bars, groups, nI n), (-1, mbar, mbits, mmade), ?_, ?_, rfl, hI⟩
        · unfold p_X7_meet
          rw [cm, if_neg h]; rfl
        · unfold p_X8_meet
          simp only [e2, e4, Option.bind_some, if_neg (show ¬ (1 : Int32) = 0 by decide), if_pos ai, if_pos aj, ci, cj, (heq i (by omega)).1, (heq i (by omega)).2, (heq j (by omega)).1, (heq j (by omega)).2, l2, if_neg (fun q => h ((le63_n l4).mp q))]
    · refine ⟨(-1, bars, groups, nI n), (-1, mbar, mbits, mmade), ?_, ?_, rfl, hI⟩
      · unfold p_X7_meet p_X7_commonM
        rw [e1, e3]; rfl
      · unfold p_X8_meet
        rw [e2, e4]; rfl
  · refine ⟨(-1, bars, groups, nI n), (-1, mbar, mbits, mmade), ?_, ?_, rfl, hI⟩
    · unfold p_X7_meet p_X7_commonM
      rw [e1]; rfl
    · unfold p_X8_meet
      rw [e2]; rfl
theorem sim_liesIn : Sim_liesIn Inv := by
  intro bars groups size cl cs afd asz baf bas bb bg bd bs bf st sp sn sg sm sd mbar mbits mmade mhas mgroups mfound mpassed mlooked msums mnumbers im0 im1 im2 a0 a1 hI
  have hI' := hI
  obtain ⟨⟨⟨n, rfl, hn, hok⟩, hm, heq⟩, _, _⟩ := hI'
  rcases field_cases hn a0 hm with ⟨i, hi, rfl, e1, e2⟩ | ⟨e1, e2⟩
  · rcases field_cases hn a1 hm with ⟨j, hj, rfl, e3, e4⟩ | ⟨e3, e4⟩
    · have ai : ainB (nI i) 160 = true := ain_n (by omega) (by decide)
      have aj : ainB (nI j) 160 = true := ain_n (by omega) (by decide)
      have ci : (nI i).toNatClampNeg = i := nI_clamp (by omega)
      have cj : (nI j).toNatClampNeg = j := nI_clamp (by omega)
      obtain ⟨q, hq, b1, g1⟩ := hok i hi
      obtain ⟨q', hq', b2, g2⟩ := hok j hj
      obtain ⟨x1, x2⟩ := nf_and (allQ_mem FT_bar q hq)
      obtain ⟨y1, y2⟩ := nf_and (allQ_mem FT_bar q' hq')
      have x1 := nf_le x1
      have x2 := nf_le x2
      have y1 := nf_le y1
      have y2 := nf_le y2
      have hb0 : ¬ bars i = 0 := by rw [b1]; intro z; have := (nI_eq (a := q.1) (b := 0) (by omega) (by decide)).mp z; omega
      have hb1 : ¬ bars i < 1 := by rw [b1, Int32.lt_iff_toInt_lt, nI_toInt (by omega)]; have i1 : (1 : Int32).toInt = 1 := rfl; omega
      by_cases hr : jrem (bars j) (bars i) = 0
      · have hmod : q'.1 % q.1 = 0 := by
          rw [b1, b2, ho_jrem rfl rfl, njrem_n (by omega) (by omega) (by omega)] at hr
          exact (nI_eq (b := 0) (by have := Nat.mod_lt q'.1 (show 0 < q.1 by omega); omega) (by decide)).mp hr
        obtain ⟨u, u1, u2, u3⟩ := chkU_t (allQ_mem t_U q hq) y1 y2 hmod
        rw [← b1, ← g1, ← b2] at u1
        rw [← b1, ← g1, ← b2] at u2
        have hd : ∀ (c : Prop) [Decidable c], ∃ r : Int32, (if c then some (1 : Int32) else some (0 : Int32)) = some r := by
          intro c _
          by_cases hc : c
          · exact ⟨1, if_pos hc⟩
          · exact ⟨0, if_neg hc⟩
        obtain ⟨r, hr'⟩ := hd ((groups j &&& (lN u ^^^ (-1 : Int64))) = (0 : Int64))
        refine ⟨r, r, ?_, ?_, rfl, hI⟩
        · unfold p_X7_liesIn p_X6_goesInto
          rw [e1, Option.bind_some, if_neg (by decide), e3, Option.bind_some, if_neg (by decide), barOf_n hn hj bars e3, Option.bind_some, barOf_n hn hi bars e1, Option.bind_some, if_neg hb1, if_neg hb0, if_pos hr, Option.bind_some, if_neg (by decide), bitsOf_n hn hj groups e3, Option.bind_some, bitsBy_n hn hi e1 u1, Option.bind_some]
          exact hr'
        · unfold p_X8_liesIn
          simp only [e2, e4, Option.bind_some, if_neg (show ¬ (1 : Int32) = 0 by decide), if_pos ai, if_pos aj, ci, cj, (heq i (by omega)).1, (heq i (by omega)).2, (heq j (by omega)).1, (heq j (by omega)).2, if_neg hb0, if_pos hr, u2]
          exact hr'
      · refine ⟨0, 0, ?_, ?_, rfl, hI⟩
        · unfold p_X7_liesIn p_X6_goesInto
          rw [e1, Option.bind_some, if_neg (by decide), e3, Option.bind_some, if_neg (by decide), barOf_n hn hj bars e3, Option.bind_some, barOf_n hn hi bars e1, Option.bind_some, if_neg hb1, if_neg hb0, if_neg hr]; rfl
        · unfold p_X8_liesIn
          simp only [e2, e4, Option.bind_some, if_neg (show ¬ (1 : Int32) = 0 by decide), if_pos ai, if_pos aj, ci, cj, (heq i (by omega)).1, (heq i (by omega)).2, (heq j (by omega)).1, (heq j (by omega)).2, if_neg hb0, if_neg hr]
    · refine ⟨0, 0, ?_, ?_, rfl, hI⟩
      · unfold p_X7_liesIn
        rw [e1, e3]; rfl
      · unfold p_X8_liesIn
        rw [e2, e4]; rfl
  · refine ⟨0, 0, ?_, ?_, rfl, hI⟩
    · unfold p_X7_liesIn
      rw [e1]; rfl
    · unfold p_X8_liesIn
      rw [e2]; rfl
