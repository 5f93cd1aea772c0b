def BKat (bars : Nat → Int32) (groups : Nat → Int64) (degrees : Nat → Int32) (M : Nat) : Prop := ∀ i, i < cnt M → bars i = nI (LTI i).1 ∧ groups i = lN (LTI i).2.1 ∧ degrees i = nI (LTI i).2.2
theorem LTI_get {i : Nat} (h : i < 181) : LT[i]? = some (LTI i) := by
  unfold LTI
  rw [List.getD_eq_getElem?_getD]
  rw [List.getElem?_eq_getElem (by rw [LT_len]; exact h)]; rfl
theorem LTP_len {M : Nat} (h : M ≤ 63) : (LTP M).length = cnt M := by
  rw [LTP_take M (mem63 h), List.length_take, LT_len]
  have := cnt_le M (mem63 h)
  omega
theorem LTP_get {M i : Nat} (h : M ≤ 63) (hi : i < cnt M) : (LTP M)[i]? = some (LTI i) := by
  have := cnt_le M (mem63 h)
  rw [LTP_take M (mem63 h), List.getElem?_take, if_pos hi, LTI_get (by omega)]
theorem LTP_bar {M i : Nat} (h : M ≤ 63) (hi : i < cnt M) : (LTI i).1 ≤ M := by
  have h1 := List.mem_of_getElem? (LTP_get h hi)
  exact nf_le (List.mem_filter.mp h1).2
theorem LTI_mem {i : Nat} (h : i < 181) : LTI i ∈ LT := List.mem_of_getElem? (LTI_get h)
theorem book_of {bars groups degrees size filled} (h : BookOK bars groups degrees size filled) : ∃ M, M ≤ 63 ∧ filled = nI M ∧ size = nI (cnt M) ∧ BKat bars groups degrees M := by
  obtain ⟨M, h1, h2, h3, h4⟩ := h
  exact ⟨M, h1, h2, by rw [h3, LTP_len h1], fun i hi => h4 i _ (LTP_get h1 hi)⟩
theorem book_to {bars groups degrees M} (h1 : M ≤ 63) (h : BKat bars groups degrees M) : BookOK bars groups degrees (nI (cnt M)) (nI M) := by
  refine ⟨M, h1, rfl, by rw [LTP_len h1], fun i q hq => ?_⟩
  have hi : i < cnt M := by
    rw [← LTP_len h1]
    exact (List.getElem?_eq_some_iff.mp hq).1
  rw [LTP_get h1 hi] at hq
  have := Option.some.inj hq
  rw [← this]
  exact h i hi
theorem pre_A {tab : Nat → Nat} {s : Nat} {bars : Nat → Int32} (h : ∀ i, i < s → bars i = nI (tab i)) : nA (preB tab s (fun i => u32 (bars i))) = bars := by
  funext i
  show nI (bif Nat.blt i s then tab i else u32 (bars i)) = bars i
  by_cases hi : i < s
  · rw [Nat.blt_eq.mpr hi, h i hi]; rfl
  · rw [show Nat.blt i s = false from by rw [Bool.eq_false_iff]; intro q; exact hi (Nat.blt_eq.mp q)]; exact nI_u _
theorem pre_B {tab : Nat → Nat} {s : Nat} {bars : Nat → Int64} (h : ∀ i, i < s → bars i = lN (tab i)) : nB (preB tab s (fun i => u64 (bars i))) = bars := by
  funext i
  show lN (bif Nat.blt i s then tab i else u64 (bars i)) = bars i
  by_cases hi : i < s
  · rw [Nat.blt_eq.mpr hi, h i hi]; rfl
  · rw [show Nat.blt i s = false from by rw [Bool.eq_false_iff]; intro q; exact hi (Nat.blt_eq.mp q)]; exact lN_u _
theorem fill_step {M : Nat} (h2 : M + 1 ≤ 63) {bars : Nat → Int32} {groups : Nat → Int64} {degrees : Nat → Int32} (hB : BKat bars groups degrees M) (x1 : Int32) (hx : ¬ x1 < nI (M + 1)) (fa : Nat → Int64) (sa ft : Int32) :
    ∃ fa' sa' bars' groups' degrees', s_X1_fillTo_7 x1 (nI (M + 1)) fa sa bars groups degrees (nI (cnt M)) ft = some (Sum.inl (nI (M + 1 + 1), fa', sa', bars', groups', degrees', nI (cnt (M + 1)), nI (M + 1))) ∧ BKat bars' groups' degrees' (M + 1) := by
  have h := t_B (m := M + 1) (by omega) h2 (fun i => u64 (fa i), fun i => u32 (bars i), fun i => u64 (groups i), fun i => u32 (degrees i))
  obtain ⟨o, o1, h⟩ := wO_t h
  obtain ⟨F, f1, h⟩ := wO_t h
  obtain ⟨R, r1, h⟩ := wO_t h
  obtain ⟨h, h'⟩ := nf_and h
  have e1 : p_X3_one (nI (M + 1)) = some (lN o) := by rw [h_p_X3_one, o1]; rfl
  have e2 : p_X0_find fa sa (lN o) (nI (M + 1)) = some (nB F.1, nI F.2) := by
    have : p_X0_find fa sa (lN o) (nI (M + 1)) = Option.map (cP nB nI) (np_X0_find (fun i => u64 (fa i)) 0 o (M + 1)) := by
      rw [← h_p_X0_find, nB_u]; rfl
    rw [this, show np_X0_find (fun i => u64 (fa i)) 0 o (M + 1) = some F from f1]; rfl
  have e3 : lpF (fun q : (Int32 × (Nat → Int32) × (Nat → Int64) × (Nat → Int32) × Int32) => s_X1_fillTo_32 x1 (nI (M + 1)) q.1 (nB F.1) (nI F.2) q.2.1 q.2.2.1 q.2.2.2.1 q.2.2.2.2) pfFU ((0 : Int32), bars, groups, degrees, nI (cnt M)) = some (nA R.1, nB R.2.1, nA R.2.2.1, nI R.2.2.2) := by
    have := lp_hom (f := fun q : (Int32 × (Nat → Int32) × (Nat → Int64) × (Nat → Int32) × Int32) => s_X1_fillTo_32 x1 (nI (M + 1)) q.1 (nB F.1) (nI F.2) q.2.1 q.2.2.1 q.2.2.2.1 q.2.2.2.2) (g := fun q : (Nat × ((Nat → Nat) × ((Nat → Nat) × ((Nat → Nat) × Nat)))) => ns_X1_fillTo_32 0 (M + 1) q.1 F.1 F.2 q.2.1 q.2.2.1 q.2.2.2.1 q.2.2.2.2) (cP nI (cP nA (cP nB (cP nA nI)))) (cP nA (cP nB (cP nA nI))) (fun q => h_s_X1_fillTo_32 0 (M + 1) q.1 F.1 F.2 q.2.1 q.2.2.1 q.2.2.2.1 q.2.2.2.2) pfFU (0, preB (fun i => (LTI i).1) (cnt M) (fun i => u32 (bars i)), preB (fun i => (LTI i).2.1) (cnt M) (fun i => u64 (groups i)), preB (fun i => (LTI i).2.2) (cnt M) (fun i => u32 (degrees i)), cnt M)
    rw [show lpN (fun q : (Nat × ((Nat → Nat) × ((Nat → Nat) × ((Nat → Nat) × Nat)))) => ns_X1_fillTo_32 0 (M + 1) q.1 F.1 F.2 q.2.1 q.2.2.1 q.2.2.2.1 q.2.2.2.2) pfFU (0, preB (fun i => (LTI i).1) (cnt M) (fun i => u32 (bars i)), preB (fun i => (LTI i).2.1) (cnt M) (fun i => u64 (groups i)), preB (fun i => (LTI i).2.2) (cnt M) (fun i => u32 (degrees i)), cnt M) = some R from r1] at this
    have e : cP nI (cP nA (cP nB (cP nA nI))) (0, preB (fun i => (LTI i).1) (cnt M) (fun i => u32 (bars i)), preB (fun i => (LTI i).2.1) (cnt M) (fun i => u64 (groups i)), preB (fun i => (LTI i).2.2) (cnt M) (fun i => u32 (degrees i)), cnt M) = ((0 : Int32), bars, groups, degrees, nI (cnt M)) := by
      show (nI 0, nA _, nB _, nA _, nI (cnt M)) = _
      rw [pre_A (fun i hi => (hB i hi).1), pre_B (fun i hi => (hB i hi).2.1), pre_A (fun i hi => (hB i hi).2.2)]; rfl
    rw [e] at this
    exact this
  refine ⟨nB F.1, nI F.2, nA R.1, nB R.2.1, nA R.2.2.1, ?_, ?_⟩
  · unfold s_X1_fillTo_7
    rw [if_neg hx, if_neg (by rw [Int32.lt_iff_toInt_lt, nI_toInt (by omega)]; have i2 : (63 : Int32).toInt = 63 := rfl; omega), e1, Option.bind_some, e2, Option.bind_some]
    unfold g_X1_fillTo_32
    rw [e3, ← Nat.eq_of_beq_eq_true h]
    show e_X1_fillTo_62 x1 (nI (M + 1)) _ _ _ _ _ _ = _
    unfold e_X1_fillTo_62
    rw [nI_1 (M + 1)]
  · intro i hi
    obtain ⟨a, b, c⟩ := sameB_t h' i hi
    exact ⟨congrArg nI a, congrArg lN b, congrArg nI c⟩
theorem fill_n {b : Nat} (hb : b ≤ 63) : ∀ (d M N : Nat) (fa : Nat → Int64) (sa : Int32) (bars : Nat → Int32) (groups : Nat → Int64) (degrees : Nat → Int32), (M + d = b ∨ (d = 0 ∧ b ≤ M)) → d < N → M ≤ 63 → BKat bars groups degrees M →
    ∃ fa' sa' bars' groups' degrees' M', lpF (fun q : (Int32 × (Nat → Int64) × Int32 × (Nat → Int32) × (Nat → Int64) × (Nat → Int32) × Int32 × Int32) => s_X1_fillTo_7 (nI b) q.1 q.2.1 q.2.2.1 q.2.2.2.1 q.2.2.2.2.1 q.2.2.2.2.2.1 q.2.2.2.2.2.2.1 q.2.2.2.2.2.2.2) N (nI (M + 1), fa, sa, bars, groups, degrees, nI (cnt M), nI M) = some (fa', sa', bars', groups', degrees', nI (cnt M'), nI M') ∧ b ≤ M' ∧ M' ≤ 63 ∧ BKat bars' groups' degrees' M' := by
  intro d
  induction d with
  | zero =>
    intro M N fa sa bars groups degrees h1 h2 h3 h4
    obtain ⟨N, rfl⟩ : ∃ k, N = k + 1 := ⟨N - 1, by omega⟩
    refine ⟨fa, sa, bars, groups, degrees, M, lpF_inr ?_, by omega, h3, h4⟩
    show s_X1_fillTo_7 (nI b) (nI (M + 1)) fa sa bars groups degrees (nI (cnt M)) (nI M) = _
    unfold s_X1_fillTo_7
    rw [if_pos (nI_lt (show b < M + 1 by omega) (by omega))]
  | succ d ih =>
    intro M N fa sa bars groups degrees h1 h2 h3 h4
    obtain ⟨N, rfl⟩ : ∃ k, N = k + 1 := ⟨N - 1, by omega⟩
    obtain ⟨fa', sa', bars', groups', degrees', g1, g2⟩ := fill_step (M := M) (by omega) h4 (nI b) (by rw [Int32.lt_iff_toInt_lt, nI_toInt (by omega), nI_toInt (by omega)]; omega) fa sa (nI M)
    rw [lpF_inl (s' := (nI (M + 1 + 1), fa', sa', bars', groups', degrees', nI (cnt (M + 1)), nI (M + 1))) g1]
    exact ih (M + 1) N fa' sa' bars' groups' degrees' (by omega) (by omega) (by omega) g2
theorem fillTo_n {b M : Nat} (hb : b ≤ 63) (hM : M ≤ 63) {bars : Nat → Int32} {groups : Nat → Int64} {degrees : Nat → Int32} (hB : BKat bars groups degrees M) (fa : Nat → Int64) (sa : Int32) : ∃ fa' sa' bars' groups' degrees' M', p_X1_fillTo fa sa bars groups degrees (nI (cnt M)) (nI M) (nI b) = some (fa', sa', bars', groups', degrees', nI (cnt M'), nI M') ∧ b ≤ M' ∧ M' ≤ 63 ∧ BKat bars' groups' degrees' M' := by
  have hfu := pf_FU
  have key : ∃ d, (M + d = b ∨ (d = 0 ∧ b ≤ M)) ∧ d < pfFU := by
    rcases Nat.lt_or_ge M b with h | h
    · exact ⟨b - M, Or.inl (by omega), by omega⟩
    · exact ⟨0, Or.inr ⟨rfl, h⟩, by omega⟩
  obtain ⟨d, k1, k2⟩ := key
  obtain ⟨fa', sa', bars', groups', degrees', M', g1, g2, g3, g4⟩ := fill_n hb d M pfFU fa sa bars groups degrees k1 k2 hM hB
  refine ⟨fa', sa', bars', groups', degrees', M', ?_, g2, g3, g4⟩
  unfold p_X1_fillTo g_X1_fillTo_7
  rw [show nI M + 1 = nI (M + 1) from nI_1 M, g1]; rfl
def cntD (d k : Nat) : Nat := ((LT.take k).filter (fun q => Nat.beq q.2.2 d)).length
theorem take_s {k : Nat} (h : k < 181) : LT.take (k + 1) = LT.take k ++ [LTI k] := by
  rw [List.take_succ, LTI_get h]; rfl
theorem cntD_s {d k : Nat} (h : k < 181) : cntD d (k + 1) = cntD d k + (if (LTI k).2.2 = d then 1 else 0) := by
  unfold cntD
  rw [take_s h, List.filter_append, List.length_append]
  by_cases hd : (LTI k).2.2 = d
  · rw [if_pos hd, List.filter_cons_of_pos (by rw [hd]; exact Nat.beq_refl d)]; rfl
  · rw [if_neg hd, List.filter_cons_of_neg (by rw [beq_f hd]; decide)]; rfl
theorem cntD_le (d k : Nat) : cntD d k ≤ 181 := by
  unfold cntD
  refine Nat.le_trans (List.length_filter_le _ _) ?_
  rw [List.length_take, LT_len]; omega
theorem cntD_LTD {d b : Nat} (hb : b ≤ 63) : cntD d (cnt b) = (LTD d b).length := by
  unfold cntD LTD
  rw [LTP_take b (mem63 hb)]
theorem LTI_ok {i : Nat} (h : i < 181) : 1 ≤ (LTI i).1 ∧ (LTI i).1 ≤ 63 ∧ (LTI i).2.1 < 9223372036854775808 ∧ ((LTI i).1, (LTI i).2.1) ∈ FT ∧ 1 ≤ (LTI i).2.2 ∧ (LTI i).2.2 ≤ 8 := by
  have := LT_ok _ (LTI_mem h)
  obtain ⟨a, b⟩ := nf_and this
  obtain ⟨a, a'⟩ := nf_and a
  obtain ⟨b, c⟩ := nf_and b
  obtain ⟨b, b'⟩ := nf_and b
  obtain ⟨c, c'⟩ := nf_and c
  have := nf_le b
  exact ⟨nf_le a, nf_le a', by omega, memQ_mem b', nf_le c, nf_le c'⟩
theorem deg_eq {i d : Nat} (h : i < 181) (hd : d ≤ 8) : (nI (LTI i).2.2 = nI d) ↔ (LTI i).2.2 = d := nI_eq (by have := (LTI_ok h).2.2.2.2.2; omega) (by omega)
theorem howMany_n {M b d : Nat} (hM : M ≤ 63) (hb : b ≤ M) (hd : d ≤ 8) {bars : Nat → Int32} {groups : Nat → Int64} {degrees : Nat → Int32} (hB : BKat bars groups degrees M) : p_X1_howMany bars degrees (nI (cnt M)) (nI d) (nI b) = some (nI (LTD d b).length) := by
  have c1 := cnt_le M (mem63 hM)
  have c2 := cnt_le b (mem63 (by omega))
  have hcb : cnt b ≤ cnt M := by
    apply Classical.byContradiction
    intro q
    have h1 := LTP_bar (M := b) (i := cnt M) (by omega) (by omega)
    have h2 := cnt_next M (mem63 hM) (by omega)
    omega
  have hfu := pf_FU
  have key := lp_for (f := fun q : (Int32 × Int32) => s_X1_howMany_5 (nI d) (nI b) q.1 q.2 bars degrees (nI (cnt M))) (fun i (t : Int32) => (t, nI i)) (fun i _ => nI (cntD d (i + 1))) (fun t => t) (cnt b) (fun i t => t = nI (cntD d i)) ?_ ?_ (cnt b) 0 0 pfFU (by omega) (by omega) rfl
  · obtain ⟨t, g1, g2⟩ := key
    unfold p_X1_howMany g_X1_howMany_5
    rw [show ((0 : Int32), (0 : Int32)) = ((0 : Int32), nI 0) from rfl, g1, g2, cntD_LTD (by omega)]; rfl
  · intro i t hi ht
    refine ⟨?_, rfl⟩
    subst ht
    have hb' := LTP_bar (M := b) (by omega) hi
    obtain ⟨q1, q2, q3⟩ := hB i (by omega)
    show s_X1_howMany_5 (nI d) (nI b) (nI (cntD d i)) (nI i) bars degrees (nI (cnt M)) = _
    unfold s_X1_howMany_5
    rw [if_neg (nI_ge (show i < cnt M by omega) (by omega)), if_neg (show ¬ (256 : Int32) ≤ nI i from nI_ge (b := 256) (by omega) (by decide)), if_pos (ain_n (by omega) (by decide)), nI_clamp (by omega), q1, q3, if_neg (by rw [Int32.lt_iff_toInt_lt, nI_toInt (by omega), nI_toInt (by omega)]; omega), if_pos (ain_n (by omega) (by decide)), nI_1 i, cntD_s (show i < 181 by omega)]
    by_cases hq : (LTI i).2.2 = d
    · rw [if_pos ((deg_eq (by omega) hd).mpr hq), if_pos hq, nI_1]
    · rw [if_neg (fun z => hq ((deg_eq (by omega) hd).mp z)), if_neg hq]; rfl
  · intro t _
    show s_X1_howMany_5 (nI d) (nI b) t (nI (cnt b)) bars degrees (nI (cnt M)) = _
    unfold s_X1_howMany_5
    rcases Nat.lt_or_ge (cnt b) (cnt M) with h | h
    · have hn := cnt_next b (mem63 (by omega)) (by omega)
      have h63 := (LTI_ok (i := cnt b) (by omega)).2.1
      obtain ⟨q1, q2, q3⟩ := hB (cnt b) h
      rw [if_neg (nI_ge h (by omega)), if_neg (show ¬ (256 : Int32) ≤ nI (cnt b) from nI_ge (b := 256) (by omega) (by decide)), if_pos (ain_n (by omega) (by decide)), nI_clamp (by omega), q1, if_pos (nI_lt hn (by omega))]
    · rw [if_pos (nI_le h (by omega))]
theorem placeOf_n {M b d k : Nat} (hM : M ≤ 63) (hb : b ≤ M) (hd : d ≤ 8) (hk : k < 2147483648) {bars : Nat → Int32} {groups : Nat → Int64} {degrees : Nat → Int32} (hB : BKat bars groups degrees M) :
    (∃ i, i < cnt b ∧ i < cnt M ∧ p_X1_placeOf bars degrees (nI (cnt M)) (nI d) (nI b) (nI k) = some (nI i) ∧ (LTD d b)[k]? = some (LTI i)) ∨ ((LTD d b).length ≤ k ∧ p_X1_placeOf bars degrees (nI (cnt M)) (nI d) (nI b) (nI k) = some (-1)) := by
  have c1 := cnt_le M (mem63 hM)
  have c2 := cnt_le b (mem63 (by omega))
  have hcb : cnt b ≤ cnt M := by
    apply Classical.byContradiction
    intro q
    have h1 := LTP_bar (M := b) (i := cnt M) (by omega) (by omega)
    have h2 := cnt_next M (mem63 hM) (by omega)
    omega
  have hfu := pf_FU
  have key : ∀ (e i N : Nat), i + e = cnt b → e < N → cntD d i ≤ k → (∃ j, j < cnt b ∧ lpF (fun q : (Int32 × Int32) => s_X1_placeOf_6 (nI d) (nI b) (nI k) q.1 q.2 bars degrees (nI (cnt M))) N (nI (cntD d i), nI i) = some (Sum.inl (nI j)) ∧ (LTD d b)[k]? = some (LTI j)) ∨ (cntD d (cnt b) ≤ k ∧ lpF (fun q : (Int32 × Int32) => s_X1_placeOf_6 (nI d) (nI b) (nI k) q.1 q.2 bars degrees (nI (cnt M))) N (nI (cntD d i), nI i) = some (Sum.inr ())) := by
    intro e
    induction e with
    | zero =>
      intro i N h1 h2 h3
      obtain ⟨N, rfl⟩ : ∃ k, N = k + 1 := ⟨N - 1, by omega⟩
      have : i = cnt b := by omega
      subst this
      right
      refine ⟨h3, lpF_inr ?_⟩
      show s_X1_placeOf_6 (nI d) (nI b) (nI k) (nI (cntD d (cnt b))) (nI (cnt b)) bars degrees (nI (cnt M)) = _
      unfold s_X1_placeOf_6
      rcases Nat.lt_or_ge (cnt b) (cnt M) with h | h
      · have hn := cnt_next b (mem63 (by omega)) (by omega)
        have h63 := (LTI_ok (i := cnt b) (by omega)).2.1
        obtain ⟨q1, q2, q3⟩ := hB (cnt b) h
        rw [if_neg (nI_ge h (by omega)), if_neg (show ¬ (256 : Int32) ≤ nI (cnt b) from nI_ge (b := 256) (by omega) (by decide)), if_pos (ain_n (by omega) (by decide)), nI_clamp (by omega), q1, if_pos (nI_lt hn (by omega))]
      · rw [if_pos (nI_le h (by omega))]
    | succ e ih =>
      intro i N h1 h2 h3
      obtain ⟨N, rfl⟩ : ∃ k, N = k + 1 := ⟨N - 1, by omega⟩
      have hb' := LTP_bar (M := b) (i := i) (by omega) (by omega)
      have hle := cntD_le d i
      obtain ⟨q1, q2, q3⟩ := hB i (by omega)
      have hstep : s_X1_placeOf_6 (nI d) (nI b) (nI k) (nI (cntD d i)) (nI i) bars degrees (nI (cnt M)) = (if nI (LTI i).2.2 = nI d then (if nI (cntD d i) = nI k then some (Sum.inr (Sum.inl (nI i))) else some (Sum.inl (nI (cntD d i) + 1, nI (i + 1)))) else some (Sum.inl (nI (cntD d i), nI (i + 1)))) := by
        unfold s_X1_placeOf_6
        rw [if_neg (nI_ge (show i < cnt M by omega) (by omega)), if_neg (show ¬ (256 : Int32) ≤ nI i from nI_ge (b := 256) (by omega) (by decide)), if_pos (ain_n (by omega) (by decide)), nI_clamp (by omega), q1, q3, if_neg (by rw [Int32.lt_iff_toInt_lt, nI_toInt (by omega), nI_toInt (by omega)]; omega), if_pos (ain_n (by omega) (by decide)), nI_1 i]
      by_cases hq : (LTI i).2.2 = d
      · by_cases hc : cntD d i = k
        · left
          refine ⟨i, by omega, lpF_inr ?_, ?_⟩
          · show s_X1_placeOf_6 (nI d) (nI b) (nI k) (nI (cntD d i)) (nI i) bars degrees (nI (cnt M)) = _
            rw [hstep, if_pos ((deg_eq (by omega) hd).mpr hq), if_pos (by rw [hc])]
          · have hs : LT.take (cnt b) = LT.take i ++ (LTI i :: (LT.drop (i + 1)).take (cnt b - (i + 1))) := by
              have h5 : LT.take (cnt b) = LT.take i ++ (LT.drop i).take (cnt b - i) := by
                rw [← List.take_add]; congr 1; omega
              have h6 : LT.drop i = LTI i :: LT.drop (i + 1) := by
                rw [List.drop_eq_getElem_cons (by rw [LT_len]; omega)]
                congr 1
                exact Option.some.inj ((List.getElem?_eq_getElem (by rw [LT_len]; omega)).symm.trans (LTI_get (by omega)))
              rw [h5, h6, show cnt b - i = (cnt b - (i + 1)) + 1 by omega, List.take_succ_cons]
            unfold LTD
            rw [LTP_take b (mem63 (by omega)), hs, List.filter_append, List.filter_cons_of_pos (by rw [hq]; exact Nat.beq_refl d)]
            have hl : ((LT.take i).filter (fun q => Nat.beq q.2.2 d)).length = k := hc
            rw [List.getElem?_append_right (by omega), hl, Nat.sub_self]; rfl
        · rw [lpF_inl (s' := (nI (cntD d (i + 1)), nI (i + 1)))]
          · exact ih (i + 1) N (by omega) (by omega) (by rw [cntD_s (by omega), if_pos hq]; omega)
          · show s_X1_placeOf_6 (nI d) (nI b) (nI k) (nI (cntD d i)) (nI i) bars degrees (nI (cnt M)) = _
            rw [hstep, if_pos ((deg_eq (by omega) hd).mpr hq), if_neg (fun z => hc ((nI_eq (by omega) hk).mp z)), nI_1, cntD_s (by omega), if_pos hq]
      · rw [lpF_inl (s' := (nI (cntD d (i + 1)), nI (i + 1)))]
        · exact ih (i + 1) N (by omega) (by omega) (by rw [cntD_s (by omega), if_neg hq]; omega)
        · show s_X1_placeOf_6 (nI d) (nI b) (nI k) (nI (cntD d i)) (nI i) bars degrees (nI (cnt M)) = _
          rw [hstep, if_neg (fun z => hq ((deg_eq (by omega) hd).mp z)), cntD_s (by omega), if_neg hq]; rfl
  have h0 : cntD d 0 = 0 := rfl
  rcases key (cnt b) 0 pfFU (by omega) (by omega) (by omega) with ⟨j, j1, j2, j3⟩ | ⟨j1, j2⟩
  · left
    refine ⟨j, j1, by omega, ?_, j3⟩
    unfold p_X1_placeOf g_X1_placeOf_6
    rw [show ((0 : Int32), (0 : Int32)) = (nI (cntD d 0), nI 0) from by rw [h0]; rfl, j2]; rfl
  · right
    refine ⟨by rw [← cntD_LTD (by omega)]; exact j1, ?_⟩
    unfold p_X1_placeOf g_X1_placeOf_6
    rw [show ((0 : Int32), (0 : Int32)) = (nI (cntD d 0), nI 0) from by rw [h0]; rfl, j2]; rfl
def lookL (kk : Int32) : Nat → Int64 → List (Nat × Nat × Nat) → Int64
  | _, l, [] => l
  | s, l, q :: es => lookL kk (s + 1) (if nI s = kk then lN q.2.1 else l) es
theorem lookL_app (kk : Int32) (es' : List (Nat × Nat × Nat)) : ∀ (es : List (Nat × Nat × Nat)) (s : Nat) (l : Int64), lookL kk s l (es ++ es') = lookL kk (s + es.length) (lookL kk s l es) es' := by
  intro es
  induction es with
  | nil => intro s l; rfl
  | cons q es ih =>
    intro s l
    show lookL kk (s + 1) _ (es ++ es') = lookL kk (s + (es.length + 1)) (lookL kk (s + 1) _ es) es'
    rw [ih, show s + (es.length + 1) = s + 1 + es.length by omega]
theorem lookL_past {k : Nat} (hk : k < 2147483648) : ∀ (es : List (Nat × Nat × Nat)) (s : Nat) (l : Int64), k < s → s + es.length < 2147483648 → lookL (nI k) s l es = l := by
  intro es
  induction es with
  | nil => intro s l _ _; rfl
  | cons q es ih =>
    intro s l h1 h2
    have h2 : s + (es.length + 1) < 2147483648 := h2
    show lookL (nI k) (s + 1) (if nI s = nI k then lN q.2.1 else l) es = l
    rw [if_neg (fun z => by have := (nI_eq (by omega) hk).mp z; omega)]
    exact ih (s + 1) l (by omega) (by omega)
theorem lookL_get {k : Nat} (hk : k < 2147483648) {q : Nat × Nat × Nat} : ∀ (es : List (Nat × Nat × Nat)) (s : Nat) (l : Int64), s ≤ k → s + es.length < 2147483648 → es[k - s]? = some q → lookL (nI k) s l es = lN q.2.1 := by
  intro es
  induction es with
  | nil => intro s l _ _ h; simp at h
  | cons e es ih =>
    intro s l h1 h2 h3
    have h2 : s + (es.length + 1) < 2147483648 := h2
    show lookL (nI k) (s + 1) (if nI s = nI k then lN e.2.1 else l) es = _
    by_cases h : s = k
    · subst h
      rw [if_pos rfl, lookL_past hk es (s + 1) _ (by omega) (by omega)]
      rw [Nat.sub_self] at h3
      have : e = q := by simpa using h3
      rw [this]
    · rw [if_neg (fun z => h ((nI_eq (by omega) hk).mp z))]
      apply ih (s + 1) l (by omega) (by omega)
      rw [show k - s = (k - (s + 1)) + 1 by omega] at h3
      simpa using h3
theorem inner_n {d m : Nat} {G : (Nat → Nat) × Nat} {last best : Nat} (h : innerN d m G last = some best) (kk passed : Int32) (looked : Int64) : lpF (fun q : (Int64 × Int32) => s_X8_passes_30 (nI d) (nI m) kk (lN last) q.1 q.2 (nB G.1) (nI G.2) passed looked) pfFU ((-1 : Int64), (0 : Int32)) = some (lN best) := by
  have := lp_hom (f := fun q : (Int64 × Int32) => s_X8_passes_30 (nI d) (nI m) kk (lN last) q.1 q.2 (nB G.1) (nI G.2) passed looked) (g := fun q : (Nat × Nat) => ns_X8_passes_30 d m 0 last q.1 q.2 G.1 G.2 0 0) (cP lN nI) lN (fun q => h_s_X8_passes_30 d m 0 last q.1 q.2 G.1 G.2 0 0) pfFU (18446744073709551615, 0)
  rw [show lpN (fun q : (Nat × Nat) => ns_X8_passes_30 d m 0 last q.1 q.2 G.1 G.2 0 0) pfFU (18446744073709551615, 0) = some best from h] at this
  rw [show ((-1 : Int64), (0 : Int32)) = cP lN nI (18446744073709551615, 0) from by rw [m1_lN]; rfl]
  exact this
theorem chain_n {d m : Nat} {G : (Nat → Nat) × Nat} (kk : Int32) : ∀ (es : List (Nat × Nat × Nat)) (last s N : Nat) (l : Int64), (∀ q ∈ es, q.2.1 < 9223372036854775808) → chainB (innerN d m G) last es = true → es.length + 1 < N → lpF (fun q : (Int64 × Int32 × Int32 × Int64) => s_X8_passes_17 (nI d) (nI m) kk q.1 q.2.1 (nB G.1) (nI G.2) q.2.2.1 q.2.2.2) N (lN last, (1 : Int32), nI s, l) = some (nI (s + es.length), lookL kk s l es) := by
  intro es
  induction es with
  | nil =>
    intro last s N l _ h hN
    obtain ⟨N, rfl⟩ : ∃ k, N = k + 2 := ⟨N - 2, by omega⟩
    have hi := inner_n (eqO_s (show eqO (innerN d m G last) (some 18446744073709551615) = true from h)) kk (nI s) l
    rw [lpF_inl (s' := (lN last, (0 : Int32), nI s, l))]
    · refine lpF_inr ?_
      show s_X8_passes_17 (nI d) (nI m) kk (lN last) 0 (nB G.1) (nI G.2) (nI s) l = _
      unfold s_X8_passes_17
      rw [if_pos rfl]; rfl
    · show s_X8_passes_17 (nI d) (nI m) kk (lN last) 1 (nB G.1) (nI G.2) (nI s) l = _
      unfold s_X8_passes_17 g_X8_passes_30
      rw [if_neg (by decide), hi]
      show e_X8_passes_101 (nI d) (nI m) kk (lN last) (lN 18446744073709551615) (nB G.1) (nI G.2) (nI s) l = _
      unfold e_X8_passes_101
      rw [if_pos (by rw [← m1_lN]; decide)]
  | cons q es ih =>
    intro last s N l hq h hN
    have hN : es.length + 1 + 1 < N := hN
    obtain ⟨N, rfl⟩ : ∃ k, N = k + 1 := ⟨N - 1, by omega⟩
    obtain ⟨h1, h2⟩ := nf_and (show (eqO (innerN d m G last) (some q.2.1) && chainB (innerN d m G) q.2.1 es) = true from h)
    have hi := inner_n (eqO_s h1) kk (nI s) l
    have hlt := hq q List.mem_cons_self
    rw [lpF_inl (s' := (lN q.2.1, (1 : Int32), nI (s + 1), (if nI s = kk then lN q.2.1 else l)))]
    · rw [ih q.2.1 (s + 1) N _ (fun z hz => hq z (List.mem_cons_of_mem _ hz)) h2 (by omega)]
      show some (nI (s + 1 + es.length), lookL kk (s + 1) _ es) = some (nI (s + (es.length + 1)), _)
      rw [show s + 1 + es.length = s + (es.length + 1) by omega]; rfl
    · show s_X8_passes_17 (nI d) (nI m) kk (lN last) 1 (nB G.1) (nI G.2) (nI s) l = _
      unfold s_X8_passes_17 g_X8_passes_30
      rw [if_neg (by decide), hi]
      show e_X8_passes_101 (nI d) (nI m) kk (lN last) (lN q.2.1) (nB G.1) (nI G.2) (nI s) l = _
      unfold e_X8_passes_101
      rw [if_neg (by rw [Int64.lt_iff_toInt_lt, pk_lT (by omega)]; have i0 : (0 : Int64).toInt = 0 := rfl; omega), nI_1]
      by_cases hk : nI s = kk
      · rw [if_pos hk, if_pos hk]
      · rw [if_neg hk, if_neg hk]
theorem passes_n {m d : Nat} (h1 : 1 ≤ m) (h2 : m ≤ 63) (hd : d ∈ D8) (fg : Nat → Int64) (ff : Int32) (s : Nat) (l : Int64) (kk : Int32) : ∃ G n, p_X8_passes fg ff (nI s) l (nI d) (nI m) kk = some (G, n, nI (s + (EQ m d).length), lookL kk s l (EQ m d)) := by
  have h := t_E h1 h2 (fun i => u64 (fg i))
  obtain ⟨o, o1, h⟩ := wO_t h
  obtain ⟨G, g1, h⟩ := wO_t h
  have hc := allB_mem h d hd
  refine ⟨nB G.1, nI G.2, ?_⟩
  have e2 : p_X8_between fg ff (nI m) (lN o) = some (nB G.1, nI G.2) := by
    have : p_X8_between fg ff (nI m) (lN o) = Option.map (cP nB nI) (np_X8_between (fun i => u64 (fg i)) 0 m o) := by
      rw [← h_p_X8_between, nB_u]; rfl
    rw [this, g1]; rfl
  have hl : (EQ m d).length ≤ 181 := by
    unfold EQ
    refine Nat.le_trans (List.length_filter_le _ _) ?_
    rw [LT_len]; omega
  have hfu := pf_FU
  unfold p_X8_passes
  rw [h_p_X8_one, o1, Option.map_some, Option.bind_some, e2, Option.bind_some]
  unfold g_X8_passes_17
  rw [m1_lN, chain_n kk (EQ m d) 18446744073709551615 s pfFU l (fun q hq => by
    have := LT_ok q (List.mem_filter.mp hq).1
    have := nf_le (nf_and (nf_and (nf_and this).2).1).1
    omega) hc (by omega)]
  rfl
