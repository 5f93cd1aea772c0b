/-! primes that are asked for -/
noncomputable def chkPr (p : Nat) : Bool := wO (np_X6_isPrime p) fun v => eqO (np_X8_isAsked p) (some v) && Nat.ble v 1
theorem t_Pr : allB chkPr (List.range 998) = true := by decide +kernel
theorem prime_cases (x : Int32) : (∃ p, 2 ≤ p ∧ p ≤ 997 ∧ x = nI p ∧ p_X6_isPrime x = some 1 ∧ p_X8_isAsked x = some 1) ∨ (p_X6_isPrime x = some 0 ∧ p_X8_isAsked x = some 0) := by
  have i1 : (2 : Int32).toInt = 2 := rfl
  have i2 : (997 : Int32).toInt = 997 := rfl
  by_cases h0 : x < 2
  · right
    exact ⟨by unfold p_X6_isPrime; rw [if_pos h0], by unfold p_X8_isAsked p_X8_isIn; rw [if_pos h0]; rfl⟩
  · by_cases h1 : (997 : Int32) < x
    · right
      exact ⟨by unfold p_X6_isPrime; rw [if_neg h0, if_neg (Int32.not_le.mpr h1)], by unfold p_X8_isAsked p_X8_isIn; rw [if_neg h0, if_pos h1]; rfl⟩
    · have hx : ¬ x < 0 := by
        intro h
        apply h0
        rw [Int32.lt_iff_toInt_lt] at h ⊢
        have e2 : (0 : Int32).toInt = 0 := rfl
        omega
      obtain ⟨p, hp, rfl⟩ := nI_of hx
      rw [Int32.lt_iff_toInt_lt, nI_toInt hp] at h0 h1
      obtain ⟨v, v1, v2⟩ := wO_t (allB_mem t_Pr p (List.mem_range.mpr (by omega)))
      obtain ⟨v2, v3⟩ := nf_and v2
      have v3 := nf_le v3
      rcases (show v = 0 ∨ v = 1 by omega) with rfl | rfl
      · right
        exact ⟨by rw [h_p_X6_isPrime, v1]; rfl, by rw [h_p_X8_isAsked, eqO_s v2]; rfl⟩
      · left
        exact ⟨p, by omega, by omega, rfl, by rw [h_p_X6_isPrime, v1]; rfl, by rw [h_p_X8_isAsked, eqO_s v2]; rfl⟩
theorem goes_n {p b : Nat} (hp : 2 ≤ p) (hp2 : p ≤ 997) (hb : b ≤ 4000) : p_X6_goesInto (nI p) (nI b) = some (if b % p = 0 then 1 else 0) := by
  unfold p_X6_goesInto
  have i1 : (1 : Int32).toInt = 1 := rfl
  have hm := Nat.mod_lt b (show 0 < p by omega)
  rw [if_neg (by rw [Int32.lt_iff_toInt_lt, nI_toInt (by omega)]; omega), if_neg (fun z => by have := (nI_eq (a := p) (b := 0) (by omega) (by decide)).mp z; omega), ho_jrem rfl rfl, njrem_n (by omega) (by omega) (by omega)]
  by_cases h : b % p = 0
  · rw [if_pos h, h, if_pos (show nI 0 = (0 : Int32) from rfl)]
  · rw [if_neg h, if_neg (show ¬ nI (b % p) = (0 : Int32) from fun z => h ((nI_eq (b := 0) (by omega) (by decide)).mp z))]
theorem div_n {p b : Nat} (hp : 2 ≤ p) (hp2 : p ≤ 997) (hb : b ≤ 4000) : nI b / nI p = nI (b / p) := pk_div (by omega) (by omega) (by omega)
theorem quot_n {p b : Nat} (hp : 1 ≤ p) (hp2 : p ≤ 4000) (hb : b ≤ 4000) : p_X6_quotient (nI b) (nI p) = some (nI (b / p)) := by
  unfold p_X6_quotient
  rw [if_pos (show (1 : Int32) ≤ nI p from nI_le (a := 1) hp (by omega)), if_neg (fun z => by have := (nI_eq (a := p) (b := 0) (by omega) (by decide)).mp z; omega), pk_div (by omega) (by omega) (by omega)]
theorem p_ne {p : Nat} (hp : 2 ≤ p) (hp2 : p ≤ 997) : ¬ nI p = 0 := fun z => by have := (nI_eq (a := p) (b := 0) (by omega) (by decide)).mp z; omega
theorem jr_n {p b : Nat} (hp : 2 ≤ p) (hp2 : p ≤ 997) (hb : b ≤ 4000) : (jrem (nI b) (nI p) = 0) ↔ b % p = 0 := by
  have hm := Nat.mod_lt b (show 0 < p by omega)
  rw [ho_jrem rfl rfl, njrem_n (by omega) (by omega) (by omega)]
  exact nI_eq (b := 0) (by omega) (by decide)
theorem ho_sim {p : Nat} (hp : 2 ≤ p) (hp2 : p ≤ 997) (x3 x5 : Int32) (fg : Nat → Int64) (ff : Int32) : ∀ (B b : Nat), b ≤ B → 1 ≤ b → b ≤ 63 → ∃ h, h < b ∧ (∀ o N, o + h < 63 → h < N → lpF (fun q : (Int32 × Int32) => s_X6_howOften_4 (nI p) q.1 q.2) N (nI b, nI o) = some (Sum.inl (nI (o + h)))) ∧ (∀ s t N, h < N → lpF (fun q : (Int32 × Int32) => s_X8_discriminant_96 (nI p) x3 q.1 x5 t q.2 fg ff) N (s, nI b) = some (s + t * nI h)) := by
  intro B
  induction B with
  | zero => intro b h1 h2; omega
  | succ B ih =>
    intro b h1 h2 h3
    by_cases hd : b % p = 0
    · have hlt : b / p < b := Nat.div_lt_self (by omega) (by omega)
      have hge : 1 ≤ b / p := Nat.div_pos (Nat.le_of_dvd (by omega) (Nat.dvd_of_mod_eq_zero hd)) (by omega)
      obtain ⟨h, g1, g2, g3⟩ := ih (b / p) (by omega) hge (by omega)
      refine ⟨h + 1, by omega, ?_, ?_⟩
      · intro o N ho hN
        obtain ⟨N, rfl⟩ : ∃ k, N = k + 1 := ⟨N - 1, by omega⟩
        rw [lpF_inl (s' := (nI (b / p), nI (o + 1)))]
        · rw [g2 (o + 1) N (by omega) (by omega), show o + 1 + h = o + (h + 1) by omega]
        · show s_X6_howOften_4 (nI p) (nI b) (nI o) = _
          unfold s_X6_howOften_4
          have i1 : (1 : Int32).toInt = 1 := rfl
          rw [if_neg (show ¬ (63 : Int32) ≤ nI o from nI_ge (b := 63) (by omega) (by decide)), if_neg (by rw [Int32.lt_iff_toInt_lt, nI_toInt (by omega)]; omega), goes_n hp hp2 (by omega), if_pos hd, Option.bind_some, if_neg (by decide), quot_n (by omega) (by omega) (by omega), Option.bind_some, nI_1 o]
      · intro s t N hN
        obtain ⟨N, rfl⟩ : ∃ k, N = k + 1 := ⟨N - 1, by omega⟩
        rw [lpF_inl (s' := (s + t, nI (b / p)))]
        · rw [g3 (s + t) t N (by omega), ← nI_1 h, Int32.mul_add, Int32.mul_one, Int32.add_assoc, Int32.add_comm t]
        · show s_X8_discriminant_96 (nI p) x3 s x5 t (nI b) fg ff = _
          unfold s_X8_discriminant_96
          rw [if_neg (p_ne hp hp2), if_pos ((jr_n hp hp2 (by omega)).mpr hd), if_neg (p_ne hp hp2), div_n hp hp2 (by omega)]
    · refine ⟨0, by omega, ?_, ?_⟩
      · intro o N ho hN
        obtain ⟨N, rfl⟩ : ∃ k, N = k + 1 := ⟨N - 1, by omega⟩
        refine lpF_inr ?_
        show s_X6_howOften_4 (nI p) (nI b) (nI o) = _
        unfold s_X6_howOften_4
        have i1 : (1 : Int32).toInt = 1 := rfl
        rw [if_neg (show ¬ (63 : Int32) ≤ nI o from nI_ge (b := 63) (by omega) (by decide)), if_neg (by rw [Int32.lt_iff_toInt_lt, nI_toInt (by omega)]; omega), goes_n hp hp2 (by omega), if_neg hd, Option.bind_some, if_pos rfl]
        rfl
      · intro s t N hN
        obtain ⟨N, rfl⟩ : ∃ k, N = k + 1 := ⟨N - 1, by omega⟩
        refine lpF_inr ?_
        show s_X8_discriminant_96 (nI p) x3 s x5 t (nI b) fg ff = _
        unfold s_X8_discriminant_96
        rw [if_neg (p_ne hp hp2), if_neg (fun q => hd ((jr_n hp hp2 (by omega)).mp q)), show nI 0 = (0 : Int32) from rfl, Int32.mul_zero, Int32.add_zero]
theorem at_n {k i : Nat} (hk : k ≤ 64) (hi : i < k) (F : Nat → Int64) : p_X0_at F (nI k) (nI i) = some (F i) := by
  unfold p_X0_at
  rw [if_neg (nI_pos (by omega)), if_neg (nI_ge hi (by omega)), if_neg (show ¬ (64 : Int32) ≤ nI i from nI_ge (b := 64) (by omega) (by decide)), if_pos (ain_n (by omega) (by decide)), nI_clamp (by omega)]
/-- what one GROUP gives to the sum, on both sides -/
theorem disc_elem {p m k i : Nat} (hp : 2 ≤ p) (hp2 : p ≤ 997) (h1 : 1 ≤ m) (h2 : m ≤ 63) (hk : k ≤ 64) (hi : i < k) {u : Nat} (hu : u ∈ SUBT m) {F G : Nat → Int64} (hF : F i = lN u) (hG : G i = lN u) :
    ∃ x : Int32, ∀ s, s_X7_discriminant_51 (nI p) (nI m) s (nI i) F (nI k) = some (Sum.inl (s + x, nI (i + 1))) ∧ s_X8_discriminant_41 (nI p) (nI m) s (nI i) G (nI k) = some (Sum.inl (s + x, nI (i + 1))) := by
  obtain ⟨d, r, c, ch, d1, d2, r1, r2, c1, c2, s1, u1, u2, u3, u4, u5, u6, u7, u8⟩ := chkD_t (t_D h1 h2 hu)
  obtain ⟨b, d', k1, k2, k3, k4, k5⟩ := chkK_t (allB_mem (all63_t t_K h1 h2) u hu)
  obtain ⟨y1, y2⟩ := nf_and (allQ_mem FT_bar (b, d') k5)
  have y1 : 1 ≤ b := nf_le y1
  have y2 : b ≤ 63 := nf_le y2
  obtain ⟨h, g1, g2, g3⟩ := ho_sim hp hp2 (nI m) (nI i) G (nI k) b b (Nat.le_refl b) y1 y2
  have hfu := pf_FU
  have hho : p_X6_howOften (nI p) (nI b) = some (nI h) := by
    unfold p_X6_howOften g_X6_howOften_4
    rw [show (0 : Int32) = nI 0 from rfl, g2 0 pfFU (by omega) (by omega), Nat.zero_add]; rfl
  refine ⟨nI ch * nI h, fun s => ⟨?_, ?_⟩⟩
  · unfold s_X7_discriminant_51 p_X0_size
    rw [Option.bind_some, if_neg (nI_ge hi (by omega)), at_n hk hi, Option.bind_some, hF, u6, Option.bind_some, Option.bind_some, k1, Option.bind_some, hho, Option.bind_some, nI_1 i]
  · unfold s_X8_discriminant_41
    rw [if_neg (nI_ge hi (by omega)), if_pos (ain_n (by omega) (by decide)), nI_clamp (by omega), hG, c1, Option.bind_some]
    by_cases hc : c = 0
    · rw [if_pos ((nI_z u4).mpr hc), u7 hc, show nI 0 = (0 : Int32) from rfl, Int32.zero_mul, Int32.add_zero, nI_1 i]
    · rw [if_neg (fun q => hc ((nI_z u4).mp q)), if_pos (ain_n (by omega) (by decide)), d1, Option.bind_some, u8 hc, Option.bind_some, if_pos (ain_n (by omega) (by decide)), k2, Option.bind_some]
      unfold g_X8_discriminant_96
      rw [g3 s (nI ch) pfFU (by omega)]
      show e_X8_discriminant_119 (nI p) (nI m) (s + nI ch * nI h) (nI i) G (nI k) = _
      unfold e_X8_discriminant_119
      rw [nI_1 i]
def sumI (c : Nat → Int32) : Nat → Int32
  | 0 => 0
  | i + 1 => sumI c i + c i
theorem sim_discriminant : Sim_discriminant Inv := by
  intro bars groups size cl cs afd asz baf bas bb bg bd bs bf st sp sn sg sm sd mbar mbits mmade mhas mgroups mfound mpassed mlooked msums mnumbers im0 im1 im2 a0 a1 hI
  have hI' := hI
  obtain ⟨⟨⟨n, rfl, hn, hok⟩, hm, heq⟩, _, _⟩ := hI'
  have hz : ¬ (1 : Int32) = 0 := by decide
  rcases field_cases hn a0 hm with ⟨i, hi, rfl, e1, e2⟩ | ⟨e1, e2⟩
  · rcases prime_cases a1 with ⟨p, hp, hp2, rfl, e3, e4⟩ | ⟨e3, e4⟩
    · have ai : ainB (nI i) 160 = true := ain_n (by omega) (by decide)
      have ci : (nI i).toNatClampNeg = i := nI_clamp (by omega)
      obtain ⟨m, g, h1, h2, hg, b1, g1, hf⟩ := field_n (hok i hi)
      have f1 := (heq i (by omega)).1
      have f2 := (heq i (by omega)).2
      obtain ⟨k, u, F, G, k1, k2, k3, k4⟩ := chkO_t (over_FT hf) afd asz mgroups mfound
      have hel : ∀ j, ∃ x : Int32, j < k → ∀ s, s_X7_discriminant_51 (nI p) (nI m) s (nI j) F (nI k) = some (Sum.inl (s + x, nI (j + 1))) ∧ s_X8_discriminant_41 (nI p) (nI m) s (nI j) G (nI k) = some (Sum.inl (s + x, nI (j + 1))) := by
        intro j
        rcases Nat.lt_or_ge j k with hj | hj
        · obtain ⟨q1, q2, q3⟩ := k4 j hj
          obtain ⟨x, hx⟩ := disc_elem hp hp2 h1 h2 k1 hj q1 q2 q3
          exact ⟨x, fun _ => hx⟩
        · exact ⟨0, fun q => absurd q (by omega)⟩
      obtain ⟨c, hc⟩ := Classical.skolem.mp hel
      have hfu := pf_FU
      have l1 := lp_for (f := fun q : (Int32 × Int32) => s_X7_discriminant_51 (nI p) (nI m) q.1 q.2 F (nI k)) (fun i (t : Int32) => (t, nI i)) (fun i t => t + c i) (fun t => t) k (fun i t => t = sumI c i) (fun j t hj ht => ⟨(hc j hj t).1, by show t + c j = sumI c j + c j; rw [ht]⟩) (fun t _ => by
        show s_X7_discriminant_51 (nI p) (nI m) t (nI k) F (nI k) = _
        unfold s_X7_discriminant_51 p_X0_size
        rw [Option.bind_some, if_pos (nI_le (Nat.le_refl _) (by omega))]) k 0 0 pfFU (by omega) (by omega) rfl
      have l2 := lp_for (f := fun q : (Int32 × Int32) => s_X8_discriminant_41 (nI p) (nI m) q.1 q.2 G (nI k)) (fun i (t : Int32) => (t, nI i)) (fun i t => t + c i) (fun t => t) k (fun i t => t = sumI c i) (fun j t hj ht => ⟨(hc j hj t).2, by show t + c j = sumI c j + c j; rw [ht]⟩) (fun t _ => by
        show s_X8_discriminant_41 (nI p) (nI m) t (nI k) G (nI k) = _
        unfold s_X8_discriminant_41
        rw [if_pos (nI_le (Nat.le_refl _) (by omega))]) k 0 0 pfFU (by omega) (by omega) rfl
      obtain ⟨t1, l1, r1⟩ := l1
      obtain ⟨t2, l2, r2⟩ := l2
      refine ⟨(sumI c k, F, nI k), (sumI c k, G, nI k), ?_, ?_, rfl, hI⟩
      · unfold p_X7_discriminant
        simp only [e1, e3, Option.bind_some, if_neg hz, barOf_n hn hi bars e1, bitsOf_n hn hi groups e1, b1, g1, k2]
        unfold g_X7_discriminant_51
        rw [show ((0 : Int32), (0 : Int32)) = ((0 : Int32), nI 0) from rfl, l1, r1]; rfl
      · unfold p_X8_discriminant
        simp only [e2, e4, Option.bind_some, if_neg hz, if_pos ai, ci, f1, f2, b1, g1, k3]
        unfold g_X8_discriminant_41
        rw [show ((0 : Int32), (0 : Int32)) = ((0 : Int32), nI 0) from rfl, l2, r2]; rfl
    · refine ⟨(-1, afd, asz), (-1, mgroups, mfound), ?_, ?_, rfl, hI⟩
      · unfold p_X7_discriminant
        rw [e1, e3]; rfl
      · unfold p_X8_discriminant
        rw [e2, e4]; rfl
  · refine ⟨(-1, afd, asz), (-1, mgroups, mfound), ?_, ?_, rfl, hI⟩
    · unfold p_X7_discriminant
      rw [e1]; rfl
    · unfold p_X8_discriminant
      rw [e2]; rfl
