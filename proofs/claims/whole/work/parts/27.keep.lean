theorem bitB_tb (x r : Nat) : bitB x r = x.testBit r := by
  unfold bitB
  rw [Nat.testBit_eq_decide_div_mod_eq, Nat.and_one_is_mod, Nat.shiftRight_eq_div_pow]
  rcases (show x / 2 ^ r % 2 = 0 ∨ x / 2 ^ r % 2 = 1 by omega) with e | e <;> rw [e] <;> rfl
theorem m1_lN : (-1 : Int64) = lN 18446744073709551615 := by decide
theorem has_n {x r : Nat} (hx : x < 9223372036854775808) (hr : r < 63) : p_X3_has (lN x) (nI r) = some (bif bitB x r then 1 else 0) := by
  rw [h_p_X3_has]
  unfold np_X3_has
  have hb := and1_lt (x >>> r)
  rw [nltI_f (Nat.zero_le r) (by omega), nleI_f hr (by decide), njshr_n (by omega) (by omega), neqJ_n (by omega) (by decide)]
  unfold bitB
  rcases (show (x >>> r) &&& 1 = 0 ∨ (x >>> r) &&& 1 = 1 by omega) with e | e <;> rw [e] <;> rfl
theorem bit_m {x r : Nat} (hx : x < 9223372036854775808) (hr : r < 64) : ((jshr (lN x) (nI r)) &&& (1 : Int64) = (1 : Int64)) ↔ bitB x r = true := by
  have hb := and1_lt (x >>> r)
  rw [ho_jshr rfl rfl, njshr_n (by omega) (by omega), show (1 : Int64) = lN 1 from rfl, fb_andL, lN_eq64 (by omega) (by decide)]
  unfold bitB
  constructor
  · intro h; rw [h]; rfl
  · intro h; exact Nat.eq_of_beq_eq_true h
theorem and_le_left' (a b : Nat) : a &&& b ≤ a := Nat.and_le_left
theorem bitB_diff {b v r : Nat} (hr : r < 64) : bitB (b &&& (v ^^^ 18446744073709551615)) r = (bitB b r && !bitB v r) := by
  rw [bitB_tb, bitB_tb, bitB_tb, Nat.testBit_and, Nat.testBit_xor, show (18446744073709551615 : Nat) = 2 ^ 64 - 1 by decide, Nat.testBit_two_pow_sub_one]
  rw [show decide (r < 64) = true from decide_eq_true hr]
  cases b.testBit r <;> cases v.testBit r <;> rfl
theorem t_S : all63 (fun m => Nat.ble (ALLT m) 9223372036854775807 && allB (fun g => Nat.ble g 9223372036854775807 && Nat.beq (g &&& ALLT m) g) (SUBT m)) = true := by decide +kernel
theorem sub_lt {m g : Nat} (h1 : 1 ≤ m) (h2 : m ≤ 63) (hg : g ∈ SUBT m) : g < 9223372036854775808 := by
  have := nf_le (nf_and (allB_mem (nf_and (all63_t t_S h1 h2)).2 g hg)).1
  omega
theorem allT_lt {m : Nat} (h1 : 1 ≤ m) (h2 : m ≤ 63) : ALLT m < 9223372036854775808 := by
  have := nf_le (nf_and (all63_t t_S h1 h2)).1
  omega
theorem sub_all {m g r : Nat} (h1 : 1 ≤ m) (h2 : m ≤ 63) (hg : g ∈ SUBT m) (hr : bitB g r = true) : bitB (ALLT m) r = true := by
  have := Nat.eq_of_beq_eq_true (nf_and (allB_mem (nf_and (all63_t t_S h1 h2)).2 g hg)).2
  rw [bitB_tb] at hr ⊢
  rw [← this, Nat.testBit_and] at hr
  exact (nf_and hr).2
theorem all3_n {m : Nat} (h1 : 1 ≤ m) (h2 : m ≤ 63) : p_X3_all (nI m) = some (lN (ALLT m)) := by
  rw [h_p_X3_all]
  unfold np_X3_all
  rw [show Nat.ble 1 m = true from Nat.ble_eq.mpr h1, show Nat.ble m 63 = true from Nat.ble_eq.mpr h2]; rfl
theorem all8_n {m : Nat} (h1 : 1 ≤ m) (h2 : m ≤ 63) : p_X8_all (nI m) = some (lN (ALLT m)) := by
  rw [h_p_X8_all]
  unfold np_X8_all
  rw [show Nat.ble 1 m = true from Nat.ble_eq.mpr h1, show Nat.ble m 63 = true from Nat.ble_eq.mpr h2]; rfl
theorem foldW_sub {m a b : Nat} (h1 : 1 ≤ m) (h2 : m ≤ 63) (ha : a ∈ SUBT m) (hb : ∀ r, bitB b r = true → bitB (ALLT m) r = true) : ∀ k, k ≤ m → foldW m a b k ∈ SUBT m := by
  intro k
  induction k with
  | zero => intro _; exact ha
  | succ k ih =>
    intro hk
    have ih := ih (by omega)
    show fW m b k (foldW m a b k) ∈ SUBT m
    unfold fW
    cases hc : bitB b k with
    | false => exact ih
    | true =>
      cases hv : bitB (foldW m a b k) k with
      | true => exact ih
      | false => exact (chkW_t (t_W h1 h2) ih (by omega) (hb k hc)).2.2.1
theorem product_n {m a b : Nat} (h1 : 1 ≤ m) (h2 : m ≤ 63) (ha : a ∈ SUBT m) (hb0 : b < 9223372036854775808) (hb : ∀ r, bitB b r = true → bitB (ALLT m) r = true) : p_X8_product (nI m) (lN a) (lN b) = some (lN (foldW m a b m)) := by
  have key := lp_for (f := fun q : (Int64 × Int32) => s_X8_product_6 (nI m) (lN b) q.1 q.2) (fun i (t : Int64) => (t, nI i)) (fun i _ => lN (foldW m a b (i + 1))) (fun t => t) m (fun i t => t = lN (foldW m a b i)) ?_ ?_ m 0 (lN a) pfFU (by omega) (by have := pf_FU; omega) rfl
  · obtain ⟨t, g1, g2⟩ := key
    unfold p_X8_product g_X8_product_6
    rw [show (0 : Int32) = nI 0 from rfl, g1, g2]; rfl
  · intro i t hi ht
    refine ⟨?_, rfl⟩
    subst ht
    have hs := foldW_sub h1 h2 ha hb i (by omega)
    show s_X8_product_6 (nI m) (lN b) (lN (foldW m a b i)) (nI i) = some (Sum.inl (lN (fW m b i (foldW m a b i)), nI (i + 1)))
    unfold s_X8_product_6 fW
    rw [if_neg (nI_ge hi (by omega)), nI_1 i]
    cases hc : bitB b i with
    | false =>
      rw [if_neg (fun q => by rw [(bit_m hb0 (by omega)).mp q] at hc; exact absurd hc (by decide))]; rfl
    | true =>
      rw [if_pos ((bit_m hb0 (by omega)).mpr hc)]
      obtain ⟨w1, w2, w3, w4⟩ := chkW_t (t_W h1 h2) hs hi (hb i hc)
      rw [h_p_X8_with, w1]
      cases hv : bitB (foldW m a b i) i with
      | true => rw [w4 hv]; rfl
      | false => rfl
  · intro t _
    show s_X8_product_6 (nI m) (lN b) t (nI m) = _
    unfold s_X8_product_6
    rw [if_pos (nI_le (Nat.le_refl _) (by omega))]
theorem t_O : all63 (fun m => eqO (np_X3_one m) (some (1 <<< (1 % m))) && (eqO (np_X8_one m) (some (1 <<< (1 % m))) && memB (SUBT m) (1 <<< (1 % m)))) = true := by decide +kernel
theorem one_n {m : Nat} (h1 : 1 ≤ m) (h2 : m ≤ 63) : ∃ o, p_X3_one (nI m) = some (lN o) ∧ p_X8_one (nI m) = some (lN o) ∧ o ∈ SUBT m := by
  obtain ⟨a, b⟩ := nf_and (all63_t t_O h1 h2)
  obtain ⟨b, c⟩ := nf_and b
  exact ⟨_, by rw [h_p_X3_one, eqO_s a]; rfl, by rw [h_p_X8_one, eqO_s b]; rfl, memB_mem c⟩
theorem madeOf_n {m o b : Nat} (h1 : 1 ≤ m) (h2 : m ≤ 63) (ho : p_X3_one (nI m) = some (lN o)) (ha : o ∈ SUBT m) (hb0 : b < 9223372036854775808) (hb : ∀ r, bitB b r = true → bitB (ALLT m) r = true) : p_X3_madeOf (lN b) (nI m) = some (lN (foldW m o b m)) := by
  have key := lp_for (f := fun q : (Int64 × Int32) => s_X3_madeOf_8 (lN b) (nI m) q.1 q.2) (fun i (t : Int64) => (t, nI i)) (fun i _ => lN (foldW m o b (i + 1))) (fun t => t) m (fun i t => t = lN (foldW m o b i)) ?_ ?_ m 0 (lN o) pfFU (by omega) (by have := pf_FU; omega) rfl
  · obtain ⟨t, g1, g2⟩ := key
    unfold p_X3_madeOf g_X3_madeOf_8
    rw [ho, Option.bind_some, show (0 : Int32) = nI 0 from rfl, g1, g2]; rfl
  · intro i t hi ht
    refine ⟨?_, rfl⟩
    subst ht
    have hs := foldW_sub h1 h2 ha hb i (by omega)
    show s_X3_madeOf_8 (lN b) (nI m) (lN (foldW m o b i)) (nI i) = some (Sum.inl (lN (fW m b i (foldW m o b i)), nI (i + 1)))
    unfold s_X3_madeOf_8 fW
    rw [if_neg (nI_ge hi (by omega)), nI_1 i, m1_lN, fb_xorL, fb_andL, has_n (Nat.lt_of_le_of_lt (and_le_left' _ _) hb0) (by omega), bitB_diff (by omega), Option.bind_some]
    cases hc : bitB b i with
    | false => rfl
    | true =>
      cases hv : bitB (foldW m o b i) i with
      | true => rfl
      | false =>
        obtain ⟨w1, w2, w3, w4⟩ := chkW_t (t_W h1 h2) hs hi (hb i hc)
        rw [h_p_X3_with, w2]; rfl
  · intro t _
    show s_X3_madeOf_8 (lN b) (nI m) t (nI m) = _
    unfold s_X3_madeOf_8
    rw [if_pos (nI_le (Nat.le_refl _) (by omega))]
/-- one FIELD kept, of a GROUP by m -/
theorem keep_both {bars groups size im0 im1 im2 bb bg bd bs bf mbar mbits mmade mhas} (hI : Inv bars groups size im0 im1 im2 bb bg bd bs bf mbar mbits mmade mhas) {m g : Nat} (h1 : 1 ≤ m) (h2 : m ≤ 63) (hg : g ∈ SUBT m) :
    ∃ r1 r2, p_X7_keep bars groups size (lN g) (nI m) = some r1 ∧ p_X8_keeps mbar mbits mmade (nI m) (lN g) = some r2 ∧ r1.1 = r2.1 ∧ Inv r1.2.1 r1.2.2.1 r1.2.2.2 im0 im1 im2 bb bg bd bs bf r2.2.1 r2.2.2.1 r2.2.2.2 mhas := by
  obtain ⟨b, d, k1, k2, k3, k4, k5⟩ := chkK_t (allB_mem (all63_t t_K h1 h2) g hg)
  obtain ⟨r1, r2, e1, e2, e3, e4, e5, e6⟩ := keep_sim hI.1 (b := nI b) (g := lN d) ⟨(b, d), k5, rfl, rfl⟩
  refine ⟨r1, r2, ?_, ?_, e3, inv_keep hI e4 e5 e6⟩
  · unfold p_X7_keep
    rw [k1, Option.bind_some, k3, Option.bind_some, e1]; rfl
  · unfold p_X8_keeps
    rw [k2, Option.bind_some, k4, Option.bind_some, e2]
theorem sim_make : Sim_make Inv := by
  intro bars groups size cl cs afd asz baf bas bb bg bd bs bf st sp sn sg sm sd mbar mbits mmade mhas mgroups mfound mpassed mlooked msums mnumbers im0 im1 im2 a0 a1 hI
  rcases m_cases a0 with ⟨m, h1, h2, rfl, e1, e2⟩ | ⟨e1, e2⟩
  · obtain ⟨b, hb, rfl⟩ := wb_of a1
    have hA := allT_lt h1 h2
    by_cases hc : lN b &&& (lN (ALLT m) ^^^ (-1 : Int64)) = (0 : Int64)
    · have hz : b &&& (ALLT m ^^^ 18446744073709551615) = 0 := by
        rw [m1_lN, fb_xorL, fb_andL, show (0 : Int64) = lN 0 from rfl] at hc
        exact (lN_eq64 (Nat.lt_of_le_of_lt (and_le_left' _ _) hb) (by decide)).mp hc
      have hsub : ∀ r, bitB b r = true → bitB (ALLT m) r = true := by
        intro r hr
        have hr64 : r < 64 := by
          apply Classical.byContradiction
          intro q
          rw [bitB_tb, Nat.testBit_lt_two_pow (Nat.lt_of_lt_of_le hb (Nat.pow_le_pow_right (by decide) (by omega)))] at hr
          exact absurd hr (by decide)
        have := bitB_diff (b := b) (v := ALLT m) hr64
        rw [hz, hr] at this
        cases hx : bitB (ALLT m) r with
        | true => rfl
        | false => rw [hx, bitB_tb, Nat.zero_testBit] at this; exact absurd this (by decide)
      have hb63 : b < 9223372036854775808 := by
        have : b < 2 ^ 63 := by
          apply Nat.lt_pow_two_of_testBit
          intro i hi
          cases hx : b.testBit i with
          | false => rfl
          | true =>
            have := hsub i (by rw [bitB_tb]; exact hx)
            rw [bitB_tb, Nat.testBit_lt_two_pow (Nat.lt_of_lt_of_le (show ALLT m < 2 ^ 63 from hA) (Nat.pow_le_pow_right (by decide) hi))] at this
            exact absurd this (by decide)
        exact this
      obtain ⟨o, o1, o2, o3⟩ := one_n h1 h2
      obtain ⟨r1, r2, g1, g2, g3, g4⟩ := keep_both hI h1 h2 (foldW_sub h1 h2 o3 hsub m (Nat.le_refl m))
      refine ⟨r1, r2, ?_, ?_, g3, g4⟩
      · unfold p_X7_make
        rw [e1, Option.bind_some, if_neg (by decide), all3_n h1 h2, Option.bind_some, if_pos hc, madeOf_n h1 h2 o1 o3 hb63 hsub, Option.bind_some, g1]; rfl
      · unfold p_X8_make
        rw [e2, Option.bind_some, if_neg (by decide), all8_n h1 h2, Option.bind_some, if_pos hc, o2, Option.bind_some, product_n h1 h2 o3 hb63 hsub, Option.bind_some, g2]; rfl
    · refine ⟨(-1, bars, groups, size), (-1, mbar, mbits, mmade), ?_, ?_, rfl, hI⟩
      · unfold p_X7_make
        rw [e1, Option.bind_some, if_neg (by decide), all3_n h1 h2, Option.bind_some, if_neg hc]
      · unfold p_X8_make
        rw [e2, Option.bind_some, if_neg (by decide), all8_n h1 h2, Option.bind_some, if_neg hc]
  · exact ⟨(-1, bars, groups, size), (-1, mbar, mbits, mmade), by unfold p_X7_make; rw [e1]; rfl, by unfold p_X8_make; rw [e2]; rfl, rfl, hI⟩
theorem chkPow_t {m k : Nat} (h1 : 1 ≤ m) (h2 : m ≤ 63) (hk : 1 ≤ k) (hk2 : k ≤ 60) : ∃ u, p_X3_allPowers (nI m) (nI k) = some (lN u) ∧ powM m k = some u ∧ u ∈ SUBT m := by
  have h := allB_mem (t_Pow h1 h2) k (List.mem_range.mpr (by omega))
  rw [beq_f (show k ≠ 0 by omega)] at h
  have h : chkPow1 m k (np_X3_allPowers m k) = true := h
  cases h5 : np_X3_allPowers m k with
  | none => rw [h5] at h; exact absurd h (by simp [chkPow1])
  | some u =>
    rw [h5] at h
    obtain ⟨a, c⟩ := nf_and (show (eqO (powM m k) (some u) && memB (SUBT m) u) = true from h)
    exact ⟨u, by rw [h_p_X3_allPowers, h5]; rfl, eqO_s a, memB_mem c⟩
theorem sim_powers : Sim_powers Inv := by
  intro bars groups size cl cs afd asz baf bas bb bg bd bs bf st sp sn sg sm sd mbar mbits mmade mhas mgroups mfound mpassed mlooked msums mnumbers im0 im1 im2 a0 a1 hI
  rcases m_cases a0 with ⟨m, h1, h2, rfl, e1, e2⟩ | ⟨e1, e2⟩
  · by_cases c1 : a1 < 1
    · refine ⟨(-1, bars, groups, size), (-1, mbar, mbits, mmade), ?_, ?_, rfl, hI⟩
      · unfold p_X7_powers
        rw [e1, Option.bind_some, if_neg (by decide), if_pos c1]
      · unfold p_X8_powers p_X8_isIn
        rw [e2, Option.bind_some, if_neg (by decide), if_pos c1]; rfl
    · by_cases c2 : (60 : Int32) < a1
      · refine ⟨(-1, bars, groups, size), (-1, mbar, mbits, mmade), ?_, ?_, rfl, hI⟩
        · unfold p_X7_powers
          rw [e1, Option.bind_some, if_neg (by decide), if_neg c1, if_neg (Int32.not_le.mpr c2)]
        · unfold p_X8_powers p_X8_isIn
          rw [e2, Option.bind_some, if_neg (by decide), if_neg c1, if_pos c2]; rfl
      · have hx : ¬ a1 < 0 := by
          intro h
          apply c1
          rw [Int32.lt_iff_toInt_lt] at h ⊢
          have e1 : (1 : Int32).toInt = 1 := rfl
          have e2 : (0 : Int32).toInt = 0 := rfl
          omega
        obtain ⟨k, hk, rfl⟩ := nI_of hx
        have i1 : (1 : Int32).toInt = 1 := rfl
        have i2 : (60 : Int32).toInt = 60 := rfl
        have c1' := c1
        have c2' := c2
        rw [Int32.lt_iff_toInt_lt, nI_toInt hk] at c1' c2'
        obtain ⟨u, u1, u2, u3⟩ := chkPow_t h1 h2 (k := k) (by omega) (by omega)
        obtain ⟨r1, r2, g1, g2, g3, g4⟩ := keep_both hI h1 h2 u3
        refine ⟨r1, r2, ?_, ?_, g3, g4⟩
        · unfold p_X7_powers
          rw [e1, Option.bind_some, if_neg (by decide), if_neg c1, if_pos (Int32.not_lt.mp c2), u1, Option.bind_some, g1]; rfl
        · have hl : lpF (fun q : (Int64 × Int32) => s_X8_powers_24 (nI m) (nI k) q.1 q.2 mbar mbits mmade) pfFU ((0 : Int64), (0 : Int32)) = some (lN u) := by
            have := lp_hom (f := fun q : (Int64 × Int32) => s_X8_powers_24 (nI m) (nI k) q.1 q.2 mbar mbits mmade) (g := fun q : (Nat × Nat) => ns_X8_powers_24 m k q.1 q.2 (fun _ => 0) (fun _ => 0) (fun _ => 0)) (cP lN nI) lN (fun q => h_s_X8_powers_24 m k q.1 q.2 (fun _ => 0) (fun _ => 0) (fun _ => 0)) pfFU (0, 0)
            rw [show lpN (fun q : (Nat × Nat) => ns_X8_powers_24 m k q.1 q.2 (fun _ => 0) (fun _ => 0) (fun _ => 0)) pfFU (0, 0) = some u from u2] at this
            exact this
          unfold p_X8_powers p_X8_isIn
          rw [e2, Option.bind_some, if_neg (by decide), if_neg c1, if_neg c2, Option.bind_some, if_neg (by decide)]
          unfold g_X8_powers_24
          rw [hl]
          show e_X8_powers_57 (nI m) (lN u) mbar mbits mmade = _
          unfold e_X8_powers_57
          rw [g2]; rfl
  · exact ⟨(-1, bars, groups, size), (-1, mbar, mbits, mmade), by unfold p_X7_powers; rw [e1]; rfl, by unfold p_X8_powers; rw [e2]; rfl, rfl, hI⟩
