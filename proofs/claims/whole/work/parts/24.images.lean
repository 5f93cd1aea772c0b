theorem copy_n (fb : Nat → Int32) (fg : Nat → Int64) (fs : Int32) (ob : Nat → Int32) (og : Nat → Int64) (os : Int32) : ∃ b g, p_X4_copyFrom fb fg fs ob og os = some (b, g, os) ∧ ∀ i, i < 40 → b i = ob i ∧ g i = og i := by
  have key := lp_for (f := fun q : (Int32 × (Nat → Int32) × (Nat → Int64)) => s_X4_copyFrom_7 q.1 q.2.1 q.2.2 ob og os) (fun i (t : (Nat → Int32) × (Nat → Int64)) => (nI i, t.1, t.2)) (fun i t => (upd t.1 i (ob i), vp_updL t.2 i (og i))) (fun t => t) 40 (fun i t => ∀ j, j < i → t.1 j = ob j ∧ t.2 j = og j) ?_ ?_ 40 0 (fb, fg) pfFU (by omega) (by have := pf_FU; omega) (fun j hj => absurd hj (by omega))
  · obtain ⟨t, h1, h2⟩ := key
    refine ⟨t.1, t.2, ?_, h2⟩
    unfold p_X4_copyFrom g_X4_copyFrom_7
    rw [show (0 : Int32) = nI 0 from rfl, h1]; rfl
  · intro i t hi ht
    refine ⟨?_, ?_⟩
    · show s_X4_copyFrom_7 (nI i) t.1 t.2 ob og os = _
      unfold s_X4_copyFrom_7
      rw [if_neg (show ¬ (40 : Int32) ≤ nI i from nI_ge (b := 40) (by omega) (by decide)), if_pos (ain_n (by omega) (by decide)), if_pos (ain_n (by omega) (by decide)), if_pos (ain_n (by omega) (by decide)), if_pos (ain_n (by omega) (by decide)), nI_clamp (by omega), nI_1 i]
    · intro j hj
      by_cases h : j = i
      · subst h; exact ⟨pk_us, pk_uLs⟩
      · have := ht j (by omega)
        exact ⟨(pk_un h).trans this.1, (pk_uLn h).trans this.2⟩
  · intro t _
    show s_X4_copyFrom_7 (nI 40) t.1 t.2 ob og os = _
    unfold s_X4_copyFrom_7
    rw [if_pos (show (40 : Int32) ≤ nI 40 by decide)]
theorem im_ix {k i : Nat} : ((40 : Int32) * (nI k + 1)) + nI i = nI (40 * (k + 1) + i) := by
  rw [show nI k + 1 = nI (k + 1) from nI_1 k, show (40 : Int32) = nI 40 from rfl, pk_mul, nI_add]
theorem in3 {k : Nat} (hk : k < 3) : p_X8_isIn (nI k) 0 2 = some 1 := by
  rcases (show k = 0 ∨ k = 1 ∨ k = 2 by omega) with rfl | rfl | rfl <;> decide
theorem out3 {a : Int32} (h : ¬ a < 0 → ¬ a < 3) : p_X8_isIn a 0 2 = some 0 := by
  unfold p_X8_isIn
  by_cases h0 : a < 0
  · rw [if_pos h0]
  · rw [if_neg h0, if_pos]
    have := h h0
    rw [Int32.lt_iff_toInt_lt] at this ⊢
    have e1 : (3 : Int32).toInt = 3 := rfl
    have e2 : (2 : Int32).toInt = 2 := rfl
    omega
theorem image_n {k : Nat} (hk : k < 3) (mbar : Nat → Int32) (mbits : Nat → Int64) (mmade mhas : Nat → Int32) : ∃ b g, p_X8_image mbar mbits mmade mhas (nI k) = some (1, b, g, upd mmade (k + 1) (mmade 0), upd mhas k 1) ∧ (∀ j, j < 40 → b (40 * (k + 1) + j) = mbar j ∧ g (40 * (k + 1) + j) = mbits j) ∧ ∀ j, (j < 40 * (k + 1) ∨ 40 * (k + 1) + 40 ≤ j) → b j = mbar j ∧ g j = mbits j := by
  have key := lp_for (f := fun q : (Int32 × (Nat → Int32) × (Nat → Int64)) => s_X8_image_34 (nI k) q.1 q.2.1 q.2.2 (upd mmade (k + 1) (mmade 0)) (upd mhas k 1)) (fun i (t : (Nat → Int32) × (Nat → Int64)) => (nI i, t.1, t.2)) (fun i t => (upd t.1 (40 * (k + 1) + i) (t.1 i), vp_updL t.2 (40 * (k + 1) + i) (t.2 i))) (fun t => t) 40 (fun i t => (∀ j, j < i → t.1 (40 * (k + 1) + j) = mbar j ∧ t.2 (40 * (k + 1) + j) = mbits j) ∧ ∀ j, (j < 40 * (k + 1) ∨ 40 * (k + 1) + 40 ≤ j) → t.1 j = mbar j ∧ t.2 j = mbits j) ?_ ?_ 40 0 (mbar, mbits) pfFU (by omega) (by have := pf_FU; omega) ⟨fun j hj => absurd hj (by omega), fun j _ => ⟨rfl, rfl⟩⟩
  · obtain ⟨t, h1, h2, h3⟩ := key
    refine ⟨t.1, t.2, ?_, h2, h3⟩
    unfold p_X8_image
    rw [in3 hk, Option.bind_some, if_neg (by decide), if_pos (ain_n hk (by decide)), show nI k + 1 = nI (k + 1) from nI_1 k, if_pos (ain_n (by omega) (by decide)), nI_clamp (by omega), nI_clamp (by omega), cl0, show vp_nar .boolean (1 : Int32) = 1 by decide]
    unfold g_X8_image_34
    rw [show (0 : Int32) = nI 0 from rfl, h1]; rfl
  · intro i t hi ht
    refine ⟨?_, ?_, ?_⟩
    · show s_X8_image_34 (nI k) (nI i) t.1 t.2 _ _ = _
      unfold s_X8_image_34
      rw [im_ix, if_neg (show ¬ (40 : Int32) ≤ nI i from nI_ge (b := 40) (by omega) (by decide)), if_pos (ain_n (by omega) (by decide)), if_pos (ain_n (by omega) (by decide)), if_pos (ain_n (by omega) (by decide)), if_pos (ain_n (by omega) (by decide)), nI_clamp (by omega), nI_clamp (by omega), nI_1 i]
    · intro j hj
      by_cases h : j = i
      · subst h
        have := ht.2 j (by omega)
        exact ⟨pk_us.trans this.1, pk_uLs.trans this.2⟩
      · have := ht.1 j (by omega)
        exact ⟨(pk_un (by omega)).trans this.1, (pk_uLn (by omega)).trans this.2⟩
    · intro j hj
      have := ht.2 j hj
      exact ⟨(pk_un (by omega)).trans this.1, (pk_uLn (by omega)).trans this.2⟩
  · intro t _
    show s_X8_image_34 (nI k) (nI 40) t.1 t.2 _ _ = _
    unfold s_X8_image_34
    rw [if_pos (show (40 : Int32) ≤ nI 40 by decide)]
theorem again_n {k : Nat} (hk : k < 3) (mbar : Nat → Int32) (mbits : Nat → Int64) (mmade mhas : Nat → Int32) (hh : mhas k = 1) : ∃ b g, p_X8_again mbar mbits mmade mhas (nI k) = some (1, b, g, upd mmade 0 (mmade (k + 1))) ∧ (∀ j, j < 40 → b j = mbar (40 * (k + 1) + j) ∧ g j = mbits (40 * (k + 1) + j)) ∧ ∀ j, 40 ≤ j → b j = mbar j ∧ g j = mbits j := by
  have key := lp_for (f := fun q : (Int32 × (Nat → Int32) × (Nat → Int64)) => s_X8_again_36 (nI k) q.1 q.2.1 q.2.2 (upd mmade 0 (mmade (k + 1)))) (fun i (t : (Nat → Int32) × (Nat → Int64)) => (nI i, t.1, t.2)) (fun i t => (upd t.1 i (t.1 (40 * (k + 1) + i)), vp_updL t.2 i (t.2 (40 * (k + 1) + i)))) (fun t => t) 40 (fun i t => (∀ j, j < i → t.1 j = mbar (40 * (k + 1) + j) ∧ t.2 j = mbits (40 * (k + 1) + j)) ∧ ∀ j, 40 ≤ j → t.1 j = mbar j ∧ t.2 j = mbits j) ?_ ?_ 40 0 (mbar, mbits) pfFU (by omega) (by have := pf_FU; omega) ⟨fun j hj => absurd hj (by omega), fun j _ => ⟨rfl, rfl⟩⟩
  · obtain ⟨t, h1, h2, h3⟩ := key
    refine ⟨t.1, t.2, ?_, h2, h3⟩
    unfold p_X8_again
    rw [in3 hk, Option.bind_some, if_neg (by decide), if_pos (ain_n hk (by decide)), show nI k + 1 = nI (k + 1) from nI_1 k, nI_clamp (by omega), hh, if_neg (by decide), if_pos (ain_n (by omega) (by decide)), nI_clamp (by omega), cl0]
    unfold g_X8_again_36
    rw [show (0 : Int32) = nI 0 from rfl, h1]; rfl
  · intro i t hi ht
    refine ⟨?_, ?_, ?_⟩
    · show s_X8_again_36 (nI k) (nI i) t.1 t.2 _ = _
      unfold s_X8_again_36
      rw [im_ix, if_neg (show ¬ (40 : Int32) ≤ nI i from nI_ge (b := 40) (by omega) (by decide)), if_pos (ain_n (by omega) (by decide)), if_pos (ain_n (by omega) (by decide)), if_pos (ain_n (by omega) (by decide)), if_pos (ain_n (by omega) (by decide)), nI_clamp (by omega), nI_clamp (by omega), nI_1 i]
    · intro j hj
      by_cases h : j = i
      · subst h
        have := ht.2 (40 * (k + 1) + j) (by omega)
        exact ⟨pk_us.trans this.1, pk_uLs.trans this.2⟩
      · have := ht.1 j (by omega)
        exact ⟨(pk_un (by omega)).trans this.1, (pk_uLn (by omega)).trans this.2⟩
    · intro j hj
      have := ht.2 j hj
      exact ⟨(pk_un (by omega)).trans this.1, (pk_uLn (by omega)).trans this.2⟩
  · intro t _
    show s_X8_again_36 (nI k) (nI 40) t.1 t.2 _ = _
    unfold s_X8_again_36
    rw [if_pos (show (40 : Int32) ≤ nI 40 by decide)]
/-- an image taken -/
theorem im_new {k : Nat} (hk : k < 3) {bars groups size mbar mbits mmade mhas} (hS : InvS bars groups size mbar mbits mmade) (c : LImg) : ∃ (r1 : LImg) (r2 : _), p_X4_copyFrom c.1 c.2.1 c.2.2 bars groups size = some r1 ∧ p_X8_image mbar mbits mmade mhas (nI k) = some r2 ∧ (1 : Int32) = r2.1 ∧ InvS bars groups size r2.2.1 r2.2.2.1 r2.2.2.2.1 ∧ ImOK k (some r1) r2.2.1 r2.2.2.1 r2.2.2.2.1 r2.2.2.2.2 ∧ ∀ j im, j < 3 → j ≠ k → ImOK j im mbar mbits mmade mhas → ImOK j im r2.2.1 r2.2.2.1 r2.2.2.2.1 r2.2.2.2.2 := by
  obtain ⟨⟨n, rfl, hn, hok⟩, hm, heq⟩ := hS
  obtain ⟨b, g, h1, h2⟩ := copy_n c.1 c.2.1 c.2.2 bars groups (nI n)
  obtain ⟨b', g', h3, h4, h5⟩ := image_n hk mbar mbits mmade mhas
  refine ⟨(b, g, nI n), (1, b', g', upd mmade (k + 1) (mmade 0), upd mhas k 1), h1, h3, rfl, ⟨⟨n, rfl, hn, hok⟩, (show upd mmade (k + 1) (mmade 0) 0 = nI n from (pk_un (by omega)).trans hm), fun i hi => ?_⟩, ⟨pk_us, ⟨n, rfl, hn, fun i hi => ?_⟩, pk_us.trans hm, fun i hi => ?_⟩, ?_⟩
  · have := h5 i (by omega)
    exact ⟨this.1.trans (heq i hi).1, this.2.trans (heq i hi).2⟩
  · have := h2 i (by omega)
    show FieldOK (b i) (g i)
    rw [this.1, this.2]; exact hok i hi
  · have := h2 i hi
    have q := h4 i hi
    exact ⟨q.1.trans ((heq i hi).1.trans this.1.symm), q.2.trans ((heq i hi).2.trans this.2.symm)⟩
  · intro j im hj hjk h
    exact im_congr h (pk_un hjk) (pk_un (by omega)) (fun i hi => h5 _ (by omega))
theorem im_out {a : Int32} (h : ¬ a < 0 → ¬ a < 3) (mbar : Nat → Int32) (mbits : Nat → Int64) (mmade mhas : Nat → Int32) : p_X8_image mbar mbits mmade mhas a = some (0, mbar, mbits, mmade, mhas) := by
  unfold p_X8_image
  rw [out3 h]; rfl
theorem ag_out {a : Int32} (h : ¬ a < 0 → ¬ a < 3) (mbar : Nat → Int32) (mbits : Nat → Int64) (mmade mhas : Nat → Int32) : p_X8_again mbar mbits mmade mhas a = some (0, mbar, mbits, mmade) := by
  unfold p_X8_again
  rw [out3 h]; rfl
theorem ag_none {k : Nat} (hk : k < 3) (mbar : Nat → Int32) (mbits : Nat → Int64) (mmade mhas : Nat → Int32) (hh : mhas k = 0) : p_X8_again mbar mbits mmade mhas (nI k) = some (0, mbar, mbits, mmade) := by
  unfold p_X8_again
  rw [in3 hk, Option.bind_some, if_neg (by decide), if_pos (ain_n hk (by decide)), nI_clamp (by omega), hh, if_pos rfl]
theorem ag_some {k : Nat} (hk : k < 3) {bars groups size mbar mbits mmade mhas} (hS : InvS bars groups size mbar mbits mmade) {c : LImg} (hc : ImOK k (some c) mbar mbits mmade mhas) : ∃ (r1 : LImg) (r2 : _), p_X4_copyFrom bars groups size c.1 c.2.1 c.2.2 = some r1 ∧ p_X8_again mbar mbits mmade mhas (nI k) = some r2 ∧ (1 : Int32) = r2.1 ∧ InvS r1.1 r1.2.1 r1.2.2 r2.2.1 r2.2.2.1 r2.2.2.2 ∧ (∀ i, 40 ≤ i → r2.2.1 i = mbar i ∧ r2.2.2.1 i = mbits i) ∧ ∀ i, 0 < i → r2.2.2.2 i = mmade i := by
  obtain ⟨hh, ⟨n, hs, hn, hok⟩, hmd, heq⟩ := hc
  obtain ⟨b, g, h1, h2⟩ := copy_n bars groups size c.1 c.2.1 c.2.2
  obtain ⟨b', g', h3, h4, h5⟩ := again_n hk mbar mbits mmade mhas hh
  refine ⟨(b, g, c.2.2), (1, b', g', upd mmade 0 (mmade (k + 1))), h1, h3, rfl, ⟨⟨n, hs, hn, fun i hi => ?_⟩, (show upd mmade 0 (mmade (k + 1)) 0 = c.2.2 from pk_us.trans hmd), fun i hi => ?_⟩, h5, fun i hi => pk_un (by omega)⟩
  · have := h2 i (by omega)
    show FieldOK (b i) (g i)
    rw [this.1, this.2]; exact hok i hi
  · have := h2 i hi
    have q := h4 i hi
    exact ⟨q.1.trans ((heq i hi).1.trans this.1.symm), q.2.trans ((heq i hi).2.trans this.2.symm)⟩
theorem sim_image : Sim_image Inv := by
  intro bars groups size cl cs afd asz baf bas bb bg bd bs bf st sp sn sg sm sd mbar mbits mmade mhas mgroups mfound mpassed mlooked msums mnumbers im0 im1 im2 a hI
  have hI' := hI
  obtain ⟨hS, ⟨a0, a1, a2⟩, hB⟩ := hI'
  refine ⟨fun h => ⟨_, im_out h mbar mbits mmade mhas, rfl, hI⟩, ?_, ?_, ?_⟩
  · rintro rfl
    obtain ⟨r1, r2, h1, h2, h3, h4, h5, h6⟩ := im_new (k := 0) (by decide) (mhas := mhas) hS (imB im0)
    exact ⟨r1, r2, h1, h2, h3, h4, ⟨h5, h6 1 im1 (by decide) (by decide) a1, h6 2 im2 (by decide) (by decide) a2⟩, hB⟩
  · rintro rfl
    obtain ⟨r1, r2, h1, h2, h3, h4, h5, h6⟩ := im_new (k := 1) (by decide) (mhas := mhas) hS (imB im1)
    exact ⟨r1, r2, h1, h2, h3, h4, ⟨h6 0 im0 (by decide) (by decide) a0, h5, h6 2 im2 (by decide) (by decide) a2⟩, hB⟩
  · rintro rfl
    obtain ⟨r1, r2, h1, h2, h3, h4, h5, h6⟩ := im_new (k := 2) (by decide) (mhas := mhas) hS (imB im2)
    exact ⟨r1, r2, h1, h2, h3, h4, ⟨h6 0 im0 (by decide) (by decide) a0, h6 1 im1 (by decide) (by decide) a1, h5⟩, hB⟩
theorem sim_again : Sim_again Inv := by
  intro bars groups size cl cs afd asz baf bas bb bg bd bs bf st sp sn sg sm sd mbar mbits mmade mhas mgroups mfound mpassed mlooked msums mnumbers im0 im1 im2 a hI
  have hI' := hI
  obtain ⟨hS, ⟨a0, a1, a2⟩, hB⟩ := hI'
  refine ⟨fun h => ⟨_, ag_out h mbar mbits mmade mhas, rfl, hI⟩, ?_, ?_, ?_⟩
  · rintro rfl
    refine ⟨?_, ?_⟩
    · rintro rfl
      exact ⟨_, ag_none (k := 0) (by decide) mbar mbits mmade mhas a0, rfl, hI⟩
    · rintro c rfl
      obtain ⟨r1, r2, h1, h2, h3, h4, h5, h6⟩ := ag_some (k := 0) (by decide) hS a0
      exact ⟨r1, r2, h1, h2, h3, inv_keep hI h4 h5 h6⟩
  · rintro rfl
    refine ⟨?_, ?_⟩
    · rintro rfl
      exact ⟨_, ag_none (k := 1) (by decide) mbar mbits mmade mhas a1, rfl, hI⟩
    · rintro c rfl
      obtain ⟨r1, r2, h1, h2, h3, h4, h5, h6⟩ := ag_some (k := 1) (by decide) hS a1
      exact ⟨r1, r2, h1, h2, h3, inv_keep hI h4 h5 h6⟩
  · rintro rfl
    refine ⟨?_, ?_⟩
    · rintro rfl
      exact ⟨_, ag_none (k := 2) (by decide) mbar mbits mmade mhas a2, rfl, hI⟩
    · rintro c rfl
      obtain ⟨r1, r2, h1, h2, h3, h4, h5, h6⟩ := ag_some (k := 2) (by decide) hS a2
      exact ⟨r1, r2, h1, h2, h3, inv_keep hI h4 h5 h6⟩
