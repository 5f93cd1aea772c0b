noncomputable def chkLT (m g : Nat) : Bool := wO (np_X8_degree m g) fun d => Nat.ble d 60 && (bif Nat.ble d 8 then decide ((m, g, d) ∈ LT) else true)
theorem t_LTs : allQ chkLT FT = true := by decide +kernel
theorem poly_n {m g i : Nat} (h1 : 1 ≤ m) (h2 : m ≤ 63) (hg : g ∈ SUBT m) (hf : (m, g) ∈ FT) (hi : i < 160) {mbar : Nat → Int32} {mbits : Nat → Int64} {mmade : Nat → Int32} (hfl : p_X8_isField mmade (nI i) = some 1) (ha : mbar i = nI m) (hb : mbits i = lN g) (T P Nx Tg NU : Nat → Int64) (dg : Int32) (fs fn : Nat → Int64) :
    ∃ (d r : Nat) (T' P' Nx' Tg' NU' SU NM : Nat → Int64), p_X8_degree (nI m) (lN g) = some (nI d) ∧ 1 ≤ d ∧ d ≤ 60 ∧ r ≤ 1 ∧ p_X5_find T P Nx Tg NU dg (lN g) (nI m) = some (nI r, T', P', Nx', Tg', NU', nI d) ∧ p_X8_reckons mbar mbits mmade fs fn (nI i) = some (nI r, SU, NM) ∧ (r = 1 → d ≤ 8 ∧ ∀ k, k ≤ d → NU' (d - k) = NM k ∧ -2147483648 ≤ (NM k).toInt ∧ (NM k).toInt ≤ 2147483648) := by
  obtain ⟨d, _, _, _, d1, d2, _, _, _, _, _, u1, u2, _, _, _, _, _, _⟩ := chkD_t (t_D h1 h2 hg)
  obtain ⟨d0, q1, q2⟩ := wO_t (allQ_mem t_LTs (m, g) hf)
  obtain ⟨q2, q3⟩ := nf_and q2
  have q2 := nf_le q2
  have hd0 : d0 = d := by
    have e : p_X8_degree (nI m) (lN g) = some (nI d0) := by rw [h_p_X8_degree, show np_X8_degree m g = some d0 from q1]; rfl
    rw [d1] at e
    exact ((nI_eq (by omega) (by omega)).mp (Option.some.inj e)).symm
  subst hd0
  have hz : ¬ (1 : Int32) = 0 := by decide
  have hM : p_X7_isM (nI m) = some 1 := by rw [isM_n h1 (by omega), if_pos h2]
  by_cases h8 : d0 ≤ 8
  · rw [Nat.ble_eq.mpr h8] at q3
    have hmem : (m, g, d0) ∈ LT := of_decide_eq_true q3
    have h := t_Su (fun i => u64 (T i), fun i => u64 (P i), fun i => u64 (Nx i), fun i => u64 (Tg i), fun i => u64 (NU i), fun i => u64 (fs i), fun i => u64 (fn i)) (m, g, d0) hmem
    obtain ⟨R, r1, h⟩ := wO_t h
    obtain ⟨S, s1, h⟩ := wO_t h
    obtain ⟨x1, h⟩ := nf_and h
    obtain ⟨x2, h⟩ := nf_and h
    obtain ⟨x3, x4⟩ := nf_and h
    refine ⟨d0, R.1, nB R.2.1, nB R.2.2.1, nB R.2.2.2.1, nB R.2.2.2.2.1, nB R.2.2.2.2.2.1, nB S.2.1, nB S.2.2, d1, u1, u2, nf_le x2, ?_, ?_, ?_⟩
    · have e : p_X5_find T P Nx Tg NU dg (lN g) (nI m) = Option.map (cP nI (cP nB (cP nB (cP nB (cP nB (cP nB nI)))))) (qp_X5_find (fun i => u64 (T i)) (fun i => u64 (P i)) (fun i => u64 (Nx i)) (fun i => u64 (Tg i)) (fun i => u64 (NU i)) 0 g m) := by
        rw [← k_p_X5_find, nB_u, nB_u, nB_u, nB_u, nB_u]; rfl
      rw [e, show qp_X5_find (fun i => u64 (T i)) (fun i => u64 (P i)) (fun i => u64 (Nx i)) (fun i => u64 (Tg i)) (fun i => u64 (NU i)) 0 g m = some R from r1, ← (show R.2.2.2.2.2.2 = d0 from Nat.eq_of_beq_eq_true x3)]; rfl
    · rw [reck_n hi hfl ha hb fs fn, show qp_X8_reckons (fun _ => m) (fun _ => g) (fun _ => 1) (fun i => u64 (fs i)) (fun i => u64 (fn i)) 0 = some S from s1, Nat.eq_of_beq_eq_true x1]; rfl
    · intro hr
      refine ⟨h8, fun k hk => ?_⟩
      rw [hr] at x4
      exact okN_t (sameN_t (show sameN R.2.2.2.2.2.1 S.2.2 d0 (d0 + 1) = true from x4) k (by omega))
  · have i8 : (8 : Int32).toInt = 8 := rfl
    have i1 : (1 : Int32).toInt = 1 := rfl
    refine ⟨d0, 0, T, P, Nx, Tg, NU, fs, fn, d1, u1, u2, by omega, ?_, ?_, fun q => absurd q (by decide)⟩
    · have hdg : p_X7_isDegree (nI d0) = some 0 := by
        unfold p_X7_isDegree
        rw [if_neg (by rw [Int32.lt_iff_toInt_lt, nI_toInt (by omega)]; omega), if_pos (by rw [Int32.lt_iff_toInt_lt, nI_toInt (by omega)]; omega)]
      unfold p_X5_find
      rw [d2, Option.bind_some, hM, Option.bind_some, if_neg hz, hdg]; rfl
    · unfold p_X8_reckons
      rw [hfl, Option.bind_some, if_neg hz, if_pos (ain_n hi (by decide)), if_pos (ain_n hi (by decide)), nI_clamp (show i < 2147483648 by omega), ha, hb, d1, Option.bind_some, if_neg (by rw [Int32.le_iff_toInt_le, nI_toInt (by omega)]; omega)]; rfl
theorem numberAt_n {d k : Nat} (hd : d ≤ 8) (hk : k ≤ d) (NU : Nat → Int64) : p_X5_numberAt NU (nI d) (nI k) = some (NU (d - k)) := by
  unfold p_X5_numberAt
  rw [pk_sub hk, if_neg (nI_pos (by omega)), if_neg (show ¬ (9 : Int32) ≤ nI (d - k) from nI_ge (b := 9) (by omega) (by decide)), if_pos (ain_n (by omega) (by decide)), nI_clamp (by omega)]
theorem isIn_t {k d : Nat} (hk : k ≤ d) (hd : d ≤ 60) : p_X8_isIn (nI k) 0 (nI d) = some 1 := by
  unfold p_X8_isIn
  rw [if_neg (nI_pos (by omega)), if_neg (by rw [Int32.lt_iff_toInt_lt, nI_toInt (by omega), nI_toInt (by omega)]; omega)]
theorem sim_polynomial : Sim_polynomial Inv := by
  intro bars groups size cl cs afd asz baf bas bb bg bd bs bf st sp sn sg sm sd mbar mbits mmade mhas mgroups mfound mpassed mlooked msums mnumbers im0 im1 im2 a0 a1 hI
  have hI' := hI
  obtain ⟨⟨⟨n, rfl, hn, hok⟩, hm, heq⟩, _, _⟩ := hI'
  have hz : ¬ (1 : Int32) = 0 := by decide
  rcases field_cases hn a0 hm with ⟨i, hi, rfl, e1, e2⟩ | ⟨e1, e2⟩
  · have ai : ainB (nI i) 160 = true := ain_n (by omega) (by decide)
    have ci : (nI i).toNatClampNeg = i := nI_clamp (by omega)
    obtain ⟨m, g, h1, h2, hg, b1, g1, hf⟩ := field_n (hok i hi)
    have f1 := (heq i (by omega)).1.trans b1
    have f2 := (heq i (by omega)).2.trans g1
    obtain ⟨d, r, T', P', Nx', Tg', NU', SU, NM, d1, u1, u2, u3, k1, k2, k3⟩ := poly_n h1 h2 hg hf (show i < 160 by omega) e2 f1 f2 st sp sn sg sm sd msums mnumbers
    have hr0 : nI 0 = (0 : Int32) := rfl
    by_cases hneg : a1 < 0
    · have hin : p_X8_isIn a1 0 (nI d) = some 0 := by unfold p_X8_isIn; rw [if_pos hneg]
      refine ⟨(-9000000000000000000, T', P', Nx', Tg', NU', nI d), (-9000000000000000000, msums, mnumbers), ?_, ?_, rfl, hI⟩
      · unfold p_X7_polynomial
        simp only [e1, Option.bind_some, if_neg hz, barOf_n hn hi bars e1, bitsOf_n hn hi groups e1, b1, g1, k1, if_pos hneg]
        by_cases hr : nI r = 0
        · rw [if_pos hr]
        · rw [if_neg hr]
      · unfold p_X8_polynomial
        simp only [e2, Option.bind_some, if_neg hz, if_pos ai, ci, f1, f2, d1, hin]
        rfl
    · obtain ⟨k, hk, rfl⟩ := nI_of hneg
      rcases Nat.lt_or_ge d k with hdk | hdk
      · have hlt : nI d < nI k := nI_lt hdk hk
        have hin : p_X8_isIn (nI k) 0 (nI d) = some 0 := by unfold p_X8_isIn; rw [if_neg hneg, if_pos hlt]
        refine ⟨(-9000000000000000000, T', P', Nx', Tg', NU', nI d), (-9000000000000000000, msums, mnumbers), ?_, ?_, rfl, hI⟩
        · unfold p_X7_polynomial p_X5_degree
          simp only [e1, Option.bind_some, if_neg hz, barOf_n hn hi bars e1, bitsOf_n hn hi groups e1, b1, g1, k1, if_neg hneg, if_pos hlt]
          by_cases hr : nI r = 0
          · rw [if_pos hr]
          · rw [if_neg hr]
        · unfold p_X8_polynomial
          simp only [e2, Option.bind_some, if_neg hz, if_pos ai, ci, f1, f2, d1, hin]
          rfl
      · have hin := isIn_t hdk u2
        rcases (show r = 0 ∨ r = 1 by omega) with rfl | rfl
        · refine ⟨(-9000000000000000000, T', P', Nx', Tg', NU', nI d), (-9000000000000000000, SU, NM), ?_, ?_, rfl, hI⟩
          · unfold p_X7_polynomial
            simp only [e1, Option.bind_some, if_neg hz, barOf_n hn hi bars e1, bitsOf_n hn hi groups e1, b1, g1, k1, if_pos hr0]
          · unfold p_X8_polynomial
            simp only [e2, Option.bind_some, if_neg hz, if_pos ai, ci, f1, f2, d1, hin, k2, if_pos hr0]
        · obtain ⟨w1, w2⟩ := k3 rfl
          have hr1 : ¬ nI 1 = (0 : Int32) := hz
          refine ⟨(NU' (d - k), T', P', Nx', Tg', NU', nI d), (NM k, SU, NM), ?_, ?_, (w2 k hdk).1, hI⟩
          · unfold p_X7_polynomial p_X5_degree
            simp only [e1, Option.bind_some, if_neg hz, barOf_n hn hi bars e1, bitsOf_n hn hi groups e1, b1, g1, k1, if_neg hr1, if_neg hneg, if_neg (show ¬ nI d < nI k from by rw [Int32.lt_iff_toInt_lt, nI_toInt (by omega), nI_toInt (by omega)]; omega), numberAt_n w1 hdk]
          · unfold p_X8_polynomial
            simp only [e2, Option.bind_some, if_neg hz, if_pos ai, ci, f1, f2, d1, hin, k2, if_neg hr1, if_pos (ain_n (show k < 9 by omega) (by decide)), nI_clamp hk]
  · refine ⟨(-9000000000000000000, st, sp, sn, sg, sm, sd), (-9000000000000000000, msums, mnumbers), ?_, ?_, rfl, hI⟩
    · unfold p_X7_polynomial
      rw [e1]; rfl
    · unfold p_X8_polynomial
      rw [e2]; rfl
/-- Horner's rows, on both sides -/
theorem horner_n {p x d : Nat} (hp : 2 ≤ p) (hp2 : p ≤ 997) (hx : x < p) (hd : d ≤ 8) {NU NM SU : Nat → Int64} (hN : ∀ k, k ≤ d → NU (d - k) = NM k ∧ -2147483648 ≤ (NM k).toInt ∧ (NM k).toInt ≤ 2147483648) (s : Int32) :
    ∀ (k N : Nat) (vc vm : Int64), k ≤ d → k + 1 < N → vc.toInt = vm.toInt % (p : Int) → -(p : Int) < vm.toInt → vm.toInt < p → ∃ vc' vm' : Int64, lpF (fun q : (Int64 × Int32) => s_X5_valueBy_15 (nI p) (nI x) q.1 q.2 NU (nI d)) N (vc, nI k) = some vc' ∧ lpF (fun q : (Int64 × Int32) => s_X8_roots_51 (nI p) (nI d) s (nI x) q.1 q.2 SU NM) N (vm, nI k) = some vm' ∧ vc'.toInt = vm'.toInt % (p : Int) ∧ -(p : Int) < vm'.toInt ∧ vm'.toInt < p := by
  have ep : (nI p).toInt64 = lN p := nI_l (by omega)
  have ex : (nI x).toInt64 = lN x := nI_l (by omega)
  have ip : (lN p).toInt = (p : Int) := lN_toInt (by omega)
  have ix : (lN x).toInt = (x : Int) := lN_toInt (by omega)
  have hp0 : ¬ lN p = 0 := by intro h; rw [h] at ip; have i0 : (0 : Int64).toInt = 0 := rfl; omega
  have step : ∀ (k : Nat) (vc vm : Int64), k ≤ d → vc.toInt = vm.toInt % (p : Int) → -(p : Int) < vm.toInt → vm.toInt < p → ∃ vc' vm' : Int64, s_X5_valueBy_15 (nI p) (nI x) vc (nI k) NU (nI d) = some (Sum.inl (vc', nI k + (-1 : Int32))) ∧ s_X8_roots_51 (nI p) (nI d) s (nI x) vm (nI k) SU NM = some (Sum.inl (vm', nI k + (-1 : Int32))) ∧ vc'.toInt = vm'.toInt % (p : Int) ∧ -(p : Int) < vm'.toInt ∧ vm'.toInt < p := by
    intro k vc vm hk hv1 hv2 hv3
    obtain ⟨n1, n2, n3⟩ := hN k hk
    have hc0 : 0 ≤ vc.toInt := by rw [hv1]; exact Int.emod_nonneg _ (by omega)
    have hc1 : vc.toInt < p := by rw [hv1]; exact Int.emod_lt_of_pos _ (by omega)
    obtain ⟨c1, c2⟩ := bd_mul (v := vc.toInt) (x := (x : Int)) (by omega) (by omega) (by omega) (by omega)
    obtain ⟨m1, m2⟩ := bd_mul (v := vm.toInt) (x := (x : Int)) (by omega) (by omega) (by omega) (by omega)
    have hcm : (vc * lN x).toInt = vc.toInt * x := by rw [i_mul (by rw [ix]; omega) (by rw [ix]; omega), ix]
    have hmm : (vm * lN x).toInt = vm.toInt * x := by rw [i_mul (by rw [ix]; omega) (by rw [ix]; omega), ix]
    have hca : (vc * lN x + NM k).toInt = vc.toInt * x + (NM k).toInt := by rw [i_add (by rw [hcm]; omega) (by rw [hcm]; omega), hcm]
    have hma : (vm * lN x + NM k).toInt = vm.toInt * x + (NM k).toInt := by rw [i_add (by rw [hmm]; omega) (by rw [hmm]; omega), hmm]
    obtain ⟨r, r1, r2⟩ := i_floor (w := vc * lN x + NM k) (b := lN p) (p := (p : Int)) ip (by omega) (by omega) (by omega) (by omega)
    have q := i_rem (a := vm * lN x + NM k) (b := lN p) (p := (p : Int)) ip (by omega) (by omega) (by omega) (by omega)
    obtain ⟨t1, t2⟩ := tm_lt (z := (vm * lN x + NM k).toInt) (p := (p : Int)) (by omega)
    refine ⟨r, jremL (vm * lN x + NM k) (lN p), ?_, ?_, ?_, by rw [q]; exact t1, by rw [q]; exact t2⟩
    · unfold s_X5_valueBy_15
      rw [if_neg (nI_pos (by omega)), numberAt_n hd hk, n1, Option.bind_some, ep, ex, r1]; rfl
    · unfold s_X8_roots_51
      rw [if_neg (nI_pos (by omega)), if_pos (ain_n (show k < 9 by omega) (by decide)), ep, if_neg hp0, nI_clamp (by omega), ex]; rfl
    · rw [r2, q, tm_mod, hca, hma, hv1, lin_mod]
  intro k
  induction k with
  | zero =>
    intro N vc vm hk hN' hv1 hv2 hv3
    obtain ⟨N, rfl⟩ : ∃ k, N = k + 2 := ⟨N - 2, by omega⟩
    obtain ⟨vc', vm', a1, a2, a3, a4, a5⟩ := step 0 vc vm hk hv1 hv2 hv3
    refine ⟨vc', vm', ?_, ?_, a3, a4, a5⟩
    · rw [lpF_inl (s' := (vc', nI 0 + (-1 : Int32))) a1]
      refine lpF_inr ?_
      show s_X5_valueBy_15 (nI p) (nI x) vc' (nI 0 + (-1 : Int32)) NU (nI d) = _
      unfold s_X5_valueBy_15
      rw [if_pos (by decide)]
    · rw [lpF_inl (s' := (vm', nI 0 + (-1 : Int32))) a2]
      refine lpF_inr ?_
      show s_X8_roots_51 (nI p) (nI d) s (nI x) vm' (nI 0 + (-1 : Int32)) SU NM = _
      unfold s_X8_roots_51
      rw [if_pos (by decide)]
  | succ k ih =>
    intro N vc vm hk hN' hv1 hv2 hv3
    obtain ⟨N, rfl⟩ : ∃ k, N = k + 1 := ⟨N - 1, by omega⟩
    obtain ⟨vc', vm', a1, a2, a3, a4, a5⟩ := step (k + 1) vc vm hk hv1 hv2 hv3
    have e : nI (k + 1) + (-1 : Int32) = nI k := by rw [← Int32.sub_eq_add_neg]; exact nI_pred k
    rw [e] at a1 a2
    obtain ⟨vc2, vm2, b1, b2, b3⟩ := ih N vc' vm' (by omega) (by omega) a3 a4 a5
    exact ⟨vc2, vm2, by rw [lpF_inl (s' := (vc', nI k)) a1]; exact b1, by rw [lpF_inl (s' := (vm', nI k)) a2]; exact b2, b3⟩
theorem root_elem {p x d : Nat} (hp : 2 ≤ p) (hp2 : p ≤ 997) (hx : x < p) (hd : d ≤ 8) {NU NM SU T P Nx Tg : Nat → Int64} (hN : ∀ k, k ≤ d → NU (d - k) = NM k ∧ -2147483648 ≤ (NM k).toInt ∧ (NM k).toInt ≤ 2147483648) :
    ∃ b : Int32, ∀ s, s_X7_roots_53 (nI p) s (nI x) T P Nx Tg NU (nI d) = some (Sum.inl (s + b, nI (x + 1))) ∧ s_X8_roots_39 (nI p) (nI d) s (nI x) SU NM = some (Sum.inl (s + b, nI (x + 1))) := by
  have hfu := pf_FU
  have ep : (nI p).toInt64 = lN p := nI_l (by omega)
  have ip : (lN p).toInt = (p : Int) := lN_toInt (by omega)
  have i0 : (0 : Int64).toInt = 0 := rfl
  have hp0 : ¬ lN p = 0 := by intro h; rw [h] at ip; omega
  obtain ⟨vc, vm0, a1, _, _, _, _⟩ := horner_n (SU := SU) hp hp2 hx hd hN 0 d pfFU 0 0 (Nat.le_refl d) (by omega) (by rw [i0]; rfl) (by rw [i0]; omega) (by rw [i0]; omega)
  have hmodel : ∀ s, ∃ vm : Int64, lpF (fun q : (Int64 × Int32) => s_X8_roots_51 (nI p) (nI d) s (nI x) q.1 q.2 SU NM) pfFU (0, nI d) = some vm ∧ vc.toInt = vm.toInt % (p : Int) ∧ -(p : Int) < vm.toInt ∧ vm.toInt < p := by
    intro s
    obtain ⟨vc', vm, c1, c2, c3, c4, c5⟩ := horner_n (SU := SU) hp hp2 hx hd hN s d pfFU 0 0 (Nat.le_refl d) (by omega) (by rw [i0]; rfl) (by rw [i0]; omega) (by rw [i0]; omega)
    rw [a1] at c1
    have := Option.some.inj c1
    subst this
    exact ⟨vm, c2, c3, c4, c5⟩
  obtain ⟨vm1, _, c3, _, _⟩ := hmodel 0
  have hc0 : 0 ≤ vc.toInt := by rw [c3]; exact Int.emod_nonneg _ (by omega)
  have hc1 : vc.toInt < p := by rw [c3]; exact Int.emod_lt_of_pos _ (by omega)
  have hvc : vc = lN vc.toInt.toNat := by
    apply Int64.toInt_inj.mp
    rw [lN_toInt (by omega)]; omega
  have hval : p_X5_valueBy NU (nI d) (nI p) (nI x) = some (nI vc.toInt.toNat) := by
    unfold p_X5_valueBy g_X5_valueBy_15
    rw [if_pos (show (2 : Int32) ≤ nI p from nI_le (a := 2) hp (by omega)), a1]
    show e_X5_valueBy_43 vc = _
    unfold e_X5_valueBy_43
    rw [ho_l2i hvc]
  refine ⟨if vc.toInt = 0 then 1 else 0, fun s => ⟨?_, ?_⟩⟩
  · unfold s_X7_roots_53
    rw [if_neg (nI_ge hx (by omega)), hval, Option.bind_some, nI_1 x]
    by_cases h : vc.toInt = 0
    · rw [if_pos (show nI vc.toInt.toNat = (0 : Int32) from by rw [h]; rfl), if_pos h]
    · rw [if_neg (show ¬ nI vc.toInt.toNat = (0 : Int32) from fun z => h (by have := (nI_eq (b := 0) (by omega) (by decide)).mp z; omega)), if_neg h, Int32.add_zero]
  · obtain ⟨vm, m1, m2, m3, m4⟩ := hmodel s
    have q := i_rem (a := vm) (b := lN p) (p := (p : Int)) ip (by omega) (by omega) (by omega) (by omega)
    have hiff : (jremL vm (lN p) = 0) ↔ vc.toInt = 0 := by
      rw [m2, ← tm_mod, ← q]
      obtain ⟨t1, t2⟩ := tm_lt (z := vm.toInt) (p := (p : Int)) (by omega)
      rw [← q] at t1 t2
      constructor
      · intro h; rw [h]; rfl
      · intro h
        apply Int64.toInt_inj.mp
        rw [i0]
        have := Int.emod_eq_of_lt (a := (jremL vm (lN p)).toInt) (b := (p : Int))
        by_cases hs : 0 ≤ (jremL vm (lN p)).toInt
        · rw [this hs t2] at h; exact h
        · have h5 : ((jremL vm (lN p)).toInt + p) % (p : Int) = (jremL vm (lN p)).toInt % (p : Int) := by
            rw [show (jremL vm (lN p)).toInt + (p : Int) = (jremL vm (lN p)).toInt + (p : Int) * 1 by omega, Int.add_mul_emod_self_left]
          rw [Int.emod_eq_of_lt (by omega) (by omega), h] at h5
          omega
    unfold s_X8_roots_39 g_X8_roots_51
    rw [if_neg (nI_ge hx (by omega)), m1]
    show e_X8_roots_81 (nI p) (nI d) s (nI x) vm SU NM = _
    unfold e_X8_roots_81
    rw [ep, if_neg hp0, nI_1 x]
    by_cases h : vc.toInt = 0
    · rw [if_pos (hiff.mpr h), if_pos h]
    · rw [if_neg (fun z => h (hiff.mp z)), if_neg h]
theorem sim_roots : Sim_roots Inv := by
  intro bars groups size cl cs afd asz baf bas bb bg bd bs bf st sp sn sg sm sd mbar mbits mmade mhas mgroups mfound mpassed mlooked msums mnumbers im0 im1 im2 a0 a1 hI
  have hI' := hI
  obtain ⟨⟨⟨n, rfl, hn, hok⟩, hm, heq⟩, _, _⟩ := hI'
  have hz : ¬ (1 : Int32) = 0 := by decide
  rcases prime_cases a1 with ⟨p, hp, hp2, rfl, e3, e4⟩ | ⟨e3, e4⟩
  · rcases field_cases hn a0 hm with ⟨i, hi, rfl, e1, e2⟩ | ⟨e1, e2⟩
    · have ai : ainB (nI i) 160 = true := ain_n (by omega) (by decide)
      have ci : (nI i).toNatClampNeg = i := nI_clamp (by omega)
      obtain ⟨m, g, h1, h2, hg, b1, g1, hf⟩ := field_n (hok i hi)
      have f1 := (heq i (by omega)).1.trans b1
      have f2 := (heq i (by omega)).2.trans g1
      obtain ⟨d, r, T', P', Nx', Tg', NU', SU, NM, d1, u1, u2, u3, k1, k2, k3⟩ := poly_n h1 h2 hg hf (show i < 160 by omega) e2 f1 f2 st sp sn sg sm sd msums mnumbers
      have hr0 : nI 0 = (0 : Int32) := rfl
      rcases (show r = 0 ∨ r = 1 by omega) with rfl | rfl
      · refine ⟨(-1, T', P', Nx', Tg', NU', nI d), (-1, SU, NM), ?_, ?_, rfl, hI⟩
        · unfold p_X7_roots
          simp only [e1, e3, Option.bind_some, if_neg hz, barOf_n hn hi bars e1, bitsOf_n hn hi groups e1, b1, g1, k1, if_pos hr0]
        · unfold p_X8_roots
          simp only [e4, Option.bind_some, if_neg hz, k2, if_pos hr0]
      · obtain ⟨w1, w2⟩ := k3 rfl
        have hr1 : ¬ nI 1 = (0 : Int32) := hz
        have hfu := pf_FU
        have hel : ∀ x, ∃ b : Int32, x < p → ∀ s, s_X7_roots_53 (nI p) s (nI x) T' P' Nx' Tg' NU' (nI d) = some (Sum.inl (s + b, nI (x + 1))) ∧ s_X8_roots_39 (nI p) (nI d) s (nI x) SU NM = some (Sum.inl (s + b, nI (x + 1))) := by
          intro x
          rcases Nat.lt_or_ge x p with hx | hx
          · obtain ⟨b, hb⟩ := root_elem (T := T') (P := P') (Nx := Nx') (Tg := Tg') (SU := SU) hp hp2 hx w1 w2
            exact ⟨b, fun _ => hb⟩
          · exact ⟨0, fun q => absurd q (by omega)⟩
        obtain ⟨c, hc⟩ := Classical.skolem.mp hel
        have l1 := lp_for (f := fun q : (Int32 × Int32) => s_X7_roots_53 (nI p) q.1 q.2 T' P' Nx' Tg' NU' (nI d)) (fun i (t : Int32) => (t, nI i)) (fun i t => t + c i) (fun t => t) p (fun i t => t = sumI c i) (fun j t hj ht => ⟨(hc j hj t).1, by show t + c j = sumI c j + c j; rw [ht]⟩) (fun t _ => by
          show s_X7_roots_53 (nI p) t (nI p) T' P' Nx' Tg' NU' (nI d) = _
          unfold s_X7_roots_53
          rw [if_pos (nI_le (Nat.le_refl _) (by omega))]) p 0 0 pfFU (by omega) (by omega) rfl
        have l2 := lp_for (f := fun q : (Int32 × Int32) => s_X8_roots_39 (nI p) (nI d) q.1 q.2 SU NM) (fun i (t : Int32) => (t, nI i)) (fun i t => t + c i) (fun t => t) p (fun i t => t = sumI c i) (fun j t hj ht => ⟨(hc j hj t).2, by show t + c j = sumI c j + c j; rw [ht]⟩) (fun t _ => by
          show s_X8_roots_39 (nI p) (nI d) t (nI p) SU NM = _
          unfold s_X8_roots_39
          rw [if_pos (nI_le (Nat.le_refl _) (by omega))]) p 0 0 pfFU (by omega) (by omega) rfl
        obtain ⟨t1, l1, r1⟩ := l1
        obtain ⟨t2, l2, r2⟩ := l2
        refine ⟨(sumI c p, T', P', Nx', Tg', NU', nI d), (sumI c p, SU, NM), ?_, ?_, rfl, hI⟩
        · unfold p_X7_roots
          simp only [e1, e3, Option.bind_some, if_neg hz, barOf_n hn hi bars e1, bitsOf_n hn hi groups e1, b1, g1, k1, if_neg hr1]
          unfold g_X7_roots_53
          rw [show ((0 : Int32), (0 : Int32)) = ((0 : Int32), nI 0) from rfl, l1, r1]; rfl
        · unfold p_X8_roots
          simp only [e4, Option.bind_some, if_neg hz, k2, if_neg hr1, if_pos ai, ci, f1, f2, d1]
          unfold g_X8_roots_39
          rw [show ((0 : Int32), (0 : Int32)) = ((0 : Int32), nI 0) from rfl, l2, r2]; rfl
    · refine ⟨(-1, st, sp, sn, sg, sm, sd), (-1, msums, mnumbers), ?_, ?_, rfl, hI⟩
      · unfold p_X7_roots
        rw [e1]; rfl
      · unfold p_X8_roots p_X8_reckons
        rw [e4, Option.bind_some, if_neg hz, e2]; rfl
  · rcases field_cases hn a0 hm with ⟨i, hi, rfl, e1, e2⟩ | ⟨e1, e2⟩
    · refine ⟨(-1, st, sp, sn, sg, sm, sd), (-1, msums, mnumbers), ?_, ?_, rfl, hI⟩
      · unfold p_X7_roots
        rw [e1, e3]; rfl
      · unfold p_X8_roots
        rw [e4]; rfl
    · refine ⟨(-1, st, sp, sn, sg, sm, sd), (-1, msums, mnumbers), ?_, ?_, rfl, hI⟩
      · unfold p_X7_roots
        rw [e1]; rfl
      · unfold p_X8_roots
        rw [e4]; rfl
