theorem rest_n {p n : Nat} (hn : 1 ≤ n) (hn2 : n ≤ 63) (hp : p ≤ 997) : p_X6_rest (nI p) (nI n) = some (nI (p % n)) ∧ jrem (nI p) (nI n) = nI (p % n) := by
  have h2 : jrem (nI p) (nI n) = nI (p % n) := by rw [ho_jrem rfl rfl, njrem_n (by omega) (by omega) (by omega)]
  refine ⟨?_, h2⟩
  unfold p_X6_rest
  rw [if_pos (show (1 : Int32) ≤ nI n from nI_le (a := 1) hn (by omega)), if_neg (fun z => by have := (nI_eq (a := n) (b := 0) (by omega) (by decide)).mp z; omega), h2]
/-- all that a prime's parting comes from -/
theorem core_n {m g n v : Nat} {vs : List Nat} (h : chkC m g n vs = true) (hv : v ∈ vs) : ∃ o pr lo e dg f gg o' pr' a' b' D a b : Nat,
    (p_X3_onesBy (nI n) (nI m) = some (lN o) ∧ p_X3_product (lN g) (lN o) (nI m) = some (lN pr) ∧ p_X3_lowered (lN pr) (nI n) = some (lN lo) ∧ p_X3_size (lN pr) = some (nI a) ∧ p_X3_size (lN g) = some (nI b) ∧ p_X6_quotient (nI a) (nI b) = some (nI e) ∧ p_X3_degree (lN pr) (nI m) = some (nI dg) ∧ p_X3_orderOver (lN lo) (nI v) (nI n) = some (nI f) ∧ p_X6_quotient (nI dg) (nI f) = some (nI gg)) ∧
    (p_X8_onesBy (nI m) (nI n) = some (lN o') ∧ p_X8_product (nI m) (lN g) (lN o') = some (lN pr') ∧ p_X8_many (lN pr') = some (nI a') ∧ p_X8_many (lN g) = some (nI b') ∧ p_X8_degree (nI m) (lN g) = some (nI D) ∧ lpF (fun q : (Int32 × Int32) => s_X8_parts_100 (nI 0) (nI v) (nI 0) (nI m) (nI n) (lN pr') (nI 0) q.1 q.2 (nB (fun _ => 0))) pfFU (1, nI v) = some (nI f)) ∧
    1 ≤ b' ∧ b' ≤ 63 ∧ a' ≤ 63 ∧ a' / b' = e ∧ 1 ≤ e ∧ D ≤ 63 ∧ 1 ≤ f ∧ f ≤ 63 ∧ D / (e * f) = gg := by
  obtain ⟨o, x1, h⟩ := wO_t h
  obtain ⟨pr, x2, h⟩ := wO_t h
  obtain ⟨lo, x3, h⟩ := wO_t h
  obtain ⟨a, x4, h⟩ := wO_t h
  obtain ⟨b, x5, h⟩ := wO_t h
  obtain ⟨e, x6, h⟩ := wO_t h
  obtain ⟨dg, x7, h⟩ := wO_t h
  obtain ⟨o', x8, h⟩ := wO_t h
  obtain ⟨pr', x9, h⟩ := wO_t h
  obtain ⟨a', x10, h⟩ := wO_t h
  obtain ⟨b', x11, h⟩ := wO_t h
  obtain ⟨D, x12, h⟩ := wO_t h
  obtain ⟨h, h'⟩ := nf_and h
  obtain ⟨y1, h⟩ := nf_and h
  obtain ⟨y1, y2⟩ := nf_and y1
  obtain ⟨y3, y4⟩ := nf_and h
  obtain ⟨y3, y5⟩ := nf_and y3
  obtain ⟨y4, y6⟩ := nf_and y4
  obtain ⟨f, z1, h'⟩ := wO_t (allB_mem h' v hv)
  obtain ⟨gg, z2, h'⟩ := wO_t h'
  obtain ⟨z3, h'⟩ := nf_and h'
  obtain ⟨z4, z5⟩ := nf_and h'
  obtain ⟨z4, z6⟩ := nf_and z4
  refine ⟨o, pr, lo, e, dg, f, gg, o', pr', a', b', D, a, b, ⟨by rw [h_p_X3_onesBy, x1]; rfl, by rw [h_p_X3_product, x2]; rfl, by rw [h_p_X3_lowered, x3]; rfl, by rw [h_p_X3_size, x4]; rfl, by rw [h_p_X3_size, x5]; rfl, by rw [h_p_X6_quotient, x6]; rfl, by rw [h_p_X3_degree, x7]; rfl, by rw [h_p_X3_orderOver, z1]; rfl, by rw [h_p_X6_quotient, z2]; rfl⟩, ⟨by rw [h_p_X8_onesBy, x8]; rfl, by rw [h_p_X8_product, x9]; rfl, by rw [h_p_X8_many, x10]; rfl, by rw [h_p_X8_many, x11]; rfl, by rw [h_p_X8_degree, x12]; rfl, ?_⟩, nf_le y1, nf_le y2, nf_le y3, Nat.eq_of_beq_eq_true y5, nf_le y4, nf_le y6, nf_le z4, nf_le z6, Nat.eq_of_beq_eq_true z5⟩
  have := lp_hom (f := fun q : (Int32 × Int32) => s_X8_parts_100 (nI 0) (nI v) (nI 0) (nI m) (nI n) (lN pr') (nI 0) q.1 q.2 (nB (fun _ => 0))) (g := fun q : (Nat × Nat) => ns_X8_parts_100 0 v 0 m n pr' 0 q.1 q.2 (fun _ => 0)) (cP nI nI) nI (fun q => h_s_X8_parts_100 0 v 0 m n pr' 0 q.1 q.2 (fun _ => 0)) pfFU (1, v)
  rw [eqO_s z3] at this
  exact this
theorem whole_n {p m : Nat} (hp : 2 ≤ p) (hp2 : p ≤ 997) (h1 : 1 ≤ m) (h2 : m ≤ 63) (hpr : p_X6_isPrime (nI p) = some 1) : ∃ n, 1 ≤ n ∧ n ≤ 63 ∧ p_X6_without (nI m) (nI p) = some (nI n) ∧ (∀ x1 x3 fb, lpF (fun q : Int32 => s_X8_parts_38 x1 (nI p) x3 (nI m) q fb) pfFU (nI m) = some (nI n)) ∧ ∀ g, chkF m g = true → ∃ vs, chkC m g n vs = true ∧ p % n ∈ vs := by
  have hnp : np_X6_isPrime p = some 1 := by
    obtain ⟨v, v1, v2⟩ := wO_t (allB_mem t_Pr p (List.mem_range.mpr (by omega)))
    obtain ⟨v2, v3⟩ := nf_and v2
    have v3 := nf_le v3
    rcases (show v = 0 ∨ v = 1 by omega) with rfl | rfl
    · rw [h_p_X6_isPrime, v1] at hpr; exact absurd hpr (by decide)
    · exact v1
  have hco := allB_mem t_Co p (List.mem_range.mpr (by omega))
  unfold chkCo at hco
  rw [show eqO (np_X6_isPrime p) (some 1) = true from by rw [hnp]; rfl] at hco
  have hco := all63_t hco h1 h2
  by_cases hd : m % p = 0
  · rw [hd] at hco
    obtain ⟨n, n1, hco⟩ := wO_t (show chkPN p m = true from hco)
    obtain ⟨n2, hco⟩ := nf_and hco
    obtain ⟨n3, n4⟩ := nf_and hco
    obtain ⟨n3, n5⟩ := nf_and n3
    refine ⟨n, nf_le n3, nf_le n5, by rw [h_p_X6_without, n1]; rfl, ?_, ?_⟩
    · intro x1 x3 fb
      have := lp_hom (f := fun q : Int32 => s_X8_parts_38 x1 (nI p) x3 (nI m) q fb) (g := fun q : Nat => ns_X8_parts_38 0 p 0 m q (fun _ => 0)) nI nI (fun q => h_s_X8_parts_38 0 p 0 m q (fun _ => 0)) pfFU m
      rw [eqO_s n2] at this
      exact this
    · intro g hg
      exact ⟨[p % n], allQ_mem (nf_and hg).2 (n, p % n) (memQ_mem n4), List.mem_cons_self⟩
  · rw [beq_f hd] at hco
    have hco : bitB (ALLT m) (p % m) = true := hco
    refine ⟨m, h1, h2, ?_, ?_, ?_⟩
    · have hho : p_X6_howOften (nI p) (nI m) = some (nI 0) := by
        obtain ⟨f, hf⟩ : ∃ f, pfFU = f + 1 := ⟨pfFU - 1, by have := pf_FU; omega⟩
        unfold p_X6_howOften g_X6_howOften_4
        rw [hf, lpF_inr (b := Sum.inl (0 : Int32))]
        · rfl
        · show s_X6_howOften_4 (nI p) (nI m) 0 = _
          unfold s_X6_howOften_4
          have i1 : (1 : Int32).toInt = 1 := rfl
          rw [if_neg (by decide), if_neg (by rw [Int32.lt_iff_toInt_lt, nI_toInt (by omega)]; omega), goes_n hp hp2 (by omega), if_neg hd, Option.bind_some, if_pos rfl]
      obtain ⟨f, hf⟩ : ∃ f, pfFU = f + 1 := ⟨pfFU - 1, by have := pf_FU; omega⟩
      unfold p_X6_without g_X6_without_11
      rw [hho, Option.bind_some, hf, lpF_inr (b := nI m)]
      · rfl
      · show s_X6_without_11 (nI p) (nI m) (nI 0) 0 = _
        unfold s_X6_without_11
        rw [if_pos (by decide)]
    · intro x1 x3 fb
      obtain ⟨f, hf⟩ : ∃ f, pfFU = f + 1 := ⟨pfFU - 1, by have := pf_FU; omega⟩
      rw [hf]
      refine lpF_inr ?_
      show s_X8_parts_38 x1 (nI p) x3 (nI m) (nI m) fb = _
      unfold s_X8_parts_38
      rw [if_neg (p_ne hp hp2), if_neg (fun q => hd ((jr_n hp hp2 (by omega)).mp q))]
    · intro g hg
      exact ⟨UNL m, (nf_and hg).1, List.mem_filter.mpr ⟨List.mem_range.mpr (Nat.mod_lt _ (by omega)), hco⟩⟩
theorem sim_parts : Sim_parts Inv := by
  intro bars groups size cl cs afd asz baf bas bb bg bd bs bf st sp sn sg sm sd mbar mbits mmade mhas mgroups mfound mpassed mlooked msums mnumbers im0 im1 im2 a0 a1 a2 hI
  have hI' := hI
  obtain ⟨⟨⟨n, rfl, hn, hok⟩, hm, heq⟩, _, _⟩ := hI'
  have hz : ¬ (1 : Int32) = 0 := by decide
  rcases field_cases hn a0 hm with ⟨i, hi, rfl, e1, e2⟩ | ⟨e1, e2⟩
  · rcases prime_cases a1 with ⟨p, hp, hp2, rfl, e3, e4⟩ | ⟨e3, e4⟩
    · have ai : ainB (nI i) 160 = true := ain_n (by omega) (by decide)
      have ci : (nI i).toNatClampNeg = i := nI_clamp (by omega)
      obtain ⟨m, g, h1, h2, hg, b1, g1, hf⟩ := field_n (hok i hi)
      have f1 := (heq i (by omega)).1.trans b1
      have f2 := (heq i (by omega)).2.trans g1
      obtain ⟨k, k1, k2, k3, k4, k5⟩ := whole_n hp hp2 h1 h2 e3
      obtain ⟨vs, c1, c2⟩ := k5 g (t_F hf)
      obtain ⟨o, pr, lo, e, dg, f, gg, o', pr', a', b', D, a, b, ⟨x1, x2, x3, x4, x5, x6, x7, x8, x9⟩, ⟨y1, y2, y3, y4, y5, y6⟩, z1, z2, z3, z4, z5, z6, z7, z8, z9⟩ := core_n c1 c2
      obtain ⟨r1, r2⟩ := rest_n k1 k2 hp2 (p := p) (n := k)
      have hvk := Nat.mod_lt p (show 0 < k by omega)
      have r3 : jrem (nI (p % k)) (nI k) = nI (p % k) := by rw [ho_jrem rfl rfl, njrem_n (by omega) (by omega) (by omega), Nat.mod_mod]
      have hk0 : ¬ nI k = 0 := fun z => by have := (nI_eq (a := k) (b := 0) (by omega) (by decide)).mp z; omega
      have hb0 : ¬ nI b' = 0 := fun z => by have := (nI_eq (a := b') (b := 0) (by omega) (by decide)).mp z; omega
      have hdiv : nI a' / nI b' = nI e := by rw [pk_div (by omega) (by omega) (by omega), z4]
      have hef : e * f ≤ 63 * 63 := Nat.mul_le_mul (by have := Nat.div_le_self a' b'; omega) z8
      have hef0 : 1 ≤ e * f := Nat.mul_pos (by omega) (by omega)
      have hloop : ∀ x8, lpF (fun q : (Int32 × Int32) => s_X8_parts_100 (nI i) (nI p) a2 (nI m) (nI k) (lN pr') x8 q.1 q.2 mbits) pfFU (1, nI (p % k)) = some (nI f) := by
        intro x8
        have hfun : (fun q : (Int32 × Int32) => s_X8_parts_100 (nI i) (nI p) a2 (nI m) (nI k) (lN pr') x8 q.1 q.2 mbits) = (fun q : (Int32 × Int32) => s_X8_parts_100 (nI 0) (nI (p % k)) (nI 0) (nI m) (nI k) (lN pr') (nI 0) q.1 q.2 (nB (fun _ => 0))) := by
          funext q
          unfold s_X8_parts_100
          rw [r2, r3]
        rw [hfun]
        exact y6
      have hmod : p_X8_isIn a2 0 2 = some 1 → p_X8_parts mbar mbits mmade (nI i) (nI p) a2 = e_X8_parts_132 (nI i) a2 (nI m) (nI e) (nI f) mbits := by
        intro hin
        unfold p_X8_parts
        rw [e2, Option.bind_some, if_neg hz, e4, Option.bind_some, if_neg hz, hin, Option.bind_some, if_neg hz, if_pos ai, ci, f1]
        unfold g_X8_parts_38
        rw [k4]
        show e_X8_parts_54 (nI i) (nI p) a2 (nI m) (nI k) mbits = _
        unfold e_X8_parts_54
        rw [if_pos ai, y1, Option.bind_some, ci, f2, y2, Option.bind_some, y3, Option.bind_some, if_pos ai, y4, Option.bind_some, if_neg hb0, if_neg hk0, hdiv, r2]
        unfold g_X8_parts_100
        rw [hloop]; rfl
      have hcl : p_X7_parts bars groups (nI n) (nI i) (nI p) a2 = (if a2 = (0 : Int32) then some (nI e) else (if a2 = (1 : Int32) then some (nI f) else (if a2 = (2 : Int32) then some (nI gg) else some (-1 : Int32)))) := by
        unfold p_X7_parts
        simp only [e1, e3, Option.bind_some, if_neg hz, barOf_n hn hi bars e1, bitsOf_n hn hi groups e1, b1, g1, k3, x1, x2, x3, r1, x8, x4, x5, x6, x7, x9]
      by_cases w0 : a2 = 0
      · refine ⟨nI e, nI e, by rw [hcl, if_pos w0], ?_, rfl, hI⟩
        rw [hmod (by rw [w0]; decide)]
        unfold e_X8_parts_132
        rw [if_pos w0]
      · by_cases w1 : a2 = 1
        · refine ⟨nI f, nI f, by rw [hcl, if_neg w0, if_pos w1], ?_, rfl, hI⟩
          rw [hmod (by rw [w1]; decide)]
          unfold e_X8_parts_132
          rw [if_neg w0, if_pos w1]
        · by_cases w2 : a2 = 2
          · refine ⟨nI gg, nI gg, by rw [hcl, if_neg w0, if_neg w1, if_pos w2], ?_, rfl, hI⟩
            rw [hmod (by rw [w2]; decide)]
            unfold e_X8_parts_132
            rw [if_neg w0, if_neg w1, if_pos ai, ci, f2, y5, Option.bind_some, pk_mul, if_neg (fun z => by have := (nI_eq (a := e * f) (b := 0) (by omega) (by decide)).mp z; omega), pk_div (by omega) (by omega) (by omega), z9]
          · refine ⟨-1, -1, by rw [hcl, if_neg w0, if_neg w1, if_neg w2], ?_, rfl, hI⟩
            have hout : p_X8_isIn a2 0 2 = some 0 := by
              apply out3
              intro q1 q2
              obtain ⟨v, hv, rfl⟩ := nI_of q1
              rw [Int32.lt_iff_toInt_lt, nI_toInt hv] at q2
              have i3 : (3 : Int32).toInt = 3 := rfl
              rcases (show v = 0 ∨ v = 1 ∨ v = 2 by omega) with rfl | rfl | rfl
              · exact w0 rfl
              · exact w1 rfl
              · exact w2 rfl
            unfold p_X8_parts
            rw [e2, Option.bind_some, if_neg hz, e4, Option.bind_some, if_neg hz, hout]; rfl
    · refine ⟨-1, -1, ?_, ?_, rfl, hI⟩
      · unfold p_X7_parts
        rw [e1, e3]; rfl
      · unfold p_X8_parts
        rw [e2, e4]; rfl
  · refine ⟨-1, -1, ?_, ?_, rfl, hI⟩
    · unfold p_X7_parts
      rw [e1]; rfl
    · unfold p_X8_parts
      rw [e2]; rfl
