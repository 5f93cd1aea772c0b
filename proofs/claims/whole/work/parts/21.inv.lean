/-! what ties the class's state to the model's -/
def FieldOK (b : Int32) (g : Int64) : Prop := ∃ q ∈ FT, b = nI q.1 ∧ g = lN q.2
def ShOK (bars : Nat → Int32) (groups : Nat → Int64) (n : Nat) : Prop := n ≤ 40 ∧ ∀ i, i < n → FieldOK (bars i) (groups i)
def ImOK (j : Nat) (im : Option LImg) (mbar : Nat → Int32) (mbits : Nat → Int64) (mmade mhas : Nat → Int32) : Prop := match im with
  | none => mhas j = 0
  | some c => mhas j = 1 ∧ (∃ n, c.2.2 = nI n ∧ ShOK c.1 c.2.1 n) ∧ mmade (j + 1) = c.2.2 ∧ ∀ i, i < 40 → mbar (40 * (j + 1) + i) = c.1 i ∧ mbits (40 * (j + 1) + i) = c.2.1 i
def LTP (M : Nat) : List (Nat × Nat × Nat) := LT.filter (fun q => Nat.ble q.1 M)
def BookOK (bars : Nat → Int32) (groups : Nat → Int64) (degrees : Nat → Int32) (size filled : Int32) : Prop := ∃ M, M ≤ 63 ∧ filled = nI M ∧ size = nI (LTP M).length ∧ ∀ i q, (LTP M)[i]? = some q → bars i = nI q.1 ∧ groups i = lN q.2.1 ∧ degrees i = nI q.2.2
def InvS (bars : Nat → Int32) (groups : Nat → Int64) (size : Int32) (mbar : Nat → Int32) (mbits : Nat → Int64) (mmade : Nat → Int32) : Prop :=
  (∃ n, size = nI n ∧ ShOK bars groups n) ∧ mmade 0 = size ∧ ∀ i, i < 40 → mbar i = bars i ∧ mbits i = groups i
def Inv : InvT := fun bars groups size im0 im1 im2 bb bg bd bs bf mbar mbits mmade mhas =>
  InvS bars groups size mbar mbits mmade ∧ (ImOK 0 im0 mbar mbits mmade mhas ∧ ImOK 1 im1 mbar mbits mmade mhas ∧ ImOK 2 im2 mbar mbits mmade mhas) ∧ BookOK bb bg bd bs bf
theorem ain_n {i k : Nat} (h : i < k) (hk : k < 2147483648) : ainB (nI i) k = true := by
  unfold ainB
  rw [decide_eq_true_eq, nI_clamp (by omega)]
  intro z
  rcases z with z | z
  · exact nI_pos (by omega) z
  · omega
theorem cl0 : (0 : Int32).toNatClampNeg = 0 := by decide
/-- a number asked for: it is a field's, or both sides say no -/
theorem field_cases {n : Nat} (hn : n ≤ 40) (x : Int32) {made : Nat → Int32} (hm : made 0 = nI n) :
    (∃ i, i < n ∧ x = nI i ∧ p_X4_holds (nI n) x = some 1 ∧ p_X8_isField made x = some 1) ∨ (p_X4_holds (nI n) x = some 0 ∧ p_X8_isField made x = some 0) := by
  have e0 : made (0 : Int32).toNatClampNeg = nI n := by rw [cl0]; exact hm
  by_cases h0 : x < 0
  · right
    refine ⟨by unfold p_X4_holds; rw [if_pos h0], ?_⟩
    unfold p_X8_isField p_X8_isIn
    rw [if_pos h0]; rfl
  · obtain ⟨i, hi, rfl⟩ := nI_of h0
    have hh : p_X4_holds (nI n) (nI i) = if n ≤ i then some 0 else some 1 := by
      unfold p_X4_holds
      rw [if_neg h0]
      by_cases h : n ≤ i
      · rw [if_pos (nI_le h hi), if_pos h]
      · rw [if_neg (nI_ge (by omega) (by omega)), if_neg h, if_neg (by rw [show (40 : Int32) = nI 40 from rfl]; exact nI_ge (by omega) (by omega))]
    have hf : p_X8_isField made (nI i) = if n ≤ i then some 0 else some 1 := by
      unfold p_X8_isField p_X8_isIn
      rw [e0, if_neg h0]
      by_cases h : n ≤ i
      · rw [if_pos h]
        have : nI n - 1 < nI i := by
          rw [Int32.lt_iff_toInt_lt, show (1 : Int32) = nI 1 from rfl, pk_sub_toInt (by omega) (by omega), nI_toInt hi]
          omega
        rw [if_pos this]; rfl
      · rw [if_neg h]
        have : ¬ nI n - 1 < nI i := by
          rw [Int32.lt_iff_toInt_lt, show (1 : Int32) = nI 1 from rfl, pk_sub_toInt (by omega) (by omega), nI_toInt hi]
          omega
        rw [if_neg this]; rfl
    by_cases h : n ≤ i
    · right; rw [hh, hf, if_pos h]; exact ⟨rfl, rfl⟩
    · left; refine ⟨i, by omega, rfl, ?_, ?_⟩
      · rw [hh, if_neg h]
      · rw [hf, if_neg h]
theorem barOf_n {n i : Nat} (hn : n ≤ 40) (hi : i < n) (bars : Nat → Int32) (h : p_X4_holds (nI n) (nI i) = some 1) : p_X4_barOf bars (nI n) (nI i) = some (bars i) := by
  unfold p_X4_barOf
  rw [h, Option.bind_some, if_neg (show ¬ (1 : Int32) = 0 by decide), if_pos (ain_n (by omega) (by decide)), nI_clamp (by omega)]
theorem bitsOf_n {n i : Nat} (hn : n ≤ 40) (hi : i < n) (groups : Nat → Int64) (h : p_X4_holds (nI n) (nI i) = some 1) : p_X4_bitsOf groups (nI n) (nI i) = some (groups i) := by
  unfold p_X4_bitsOf
  rw [h, Option.bind_some, if_neg (show ¬ (1 : Int32) = 0 by decide), if_pos (ain_n (by omega) (by decide)), nI_clamp (by omega)]
/-- two searches with one condition end alike -/
theorem lp_find2 {f f' : Int32 → Option (Int32 ⊕ (Int32 ⊕ Unit))} (n : Nat) (c : Nat → Prop)
    (hs : ∀ i, i < n → ¬ c i → f (nI i) = some (Sum.inl (nI i + 1)) ∧ f' (nI i) = some (Sum.inl (nI i + 1))) (hy : ∀ i, i < n → c i → f (nI i) = some (Sum.inr (Sum.inl (nI i))) ∧ f' (nI i) = some (Sum.inr (Sum.inl (nI i))))
    (hx : f (nI n) = some (Sum.inr (Sum.inr ())) ∧ f' (nI n) = some (Sum.inr (Sum.inr ()))) :
    ∀ (d i N : Nat), i + d = n → d < N → (∃ j, j < n ∧ c j ∧ lpF f N (nI i) = some (Sum.inl (nI j)) ∧ lpF f' N (nI i) = some (Sum.inl (nI j))) ∨ (lpF f N (nI i) = some (Sum.inr ()) ∧ lpF f' N (nI i) = some (Sum.inr ())) := by
  intro d
  induction d with
  | zero =>
    intro i N h1 h2
    obtain ⟨N, rfl⟩ : ∃ k, N = k + 1 := ⟨N - 1, by omega⟩
    have : i = n := by omega
    subst this
    right
    exact ⟨by rw [lpF, hx.1], by rw [lpF, hx.2]⟩
  | succ d ih =>
    intro i N h1 h2
    obtain ⟨N, rfl⟩ : ∃ k, N = k + 1 := ⟨N - 1, by omega⟩
    by_cases hc : c i
    · left
      obtain ⟨a, b⟩ := hy i (by omega) hc
      exact ⟨i, by omega, hc, by rw [lpF, a], by rw [lpF, b]⟩
    · obtain ⟨a, b⟩ := hs i (by omega) hc
      have := ih (i + 1) N (by omega) (by omega)
      rw [lpF, a, lpF, b]
      rw [show nI i + 1 = nI (i + 1) from nI_1 i]
      exact this
/-- a FIELD kept, on both sides -/
theorem keep_sim {bars mbar : Nat → Int32} {groups mbits : Nat → Int64} {size : Int32} {made : Nat → Int32} (hI : InvS bars groups size mbar mbits made) {b : Int32} {g : Int64} (hF : FieldOK b g) :
    ∃ r1 r2, p_X4_put bars groups size b g = some r1 ∧ g_X8_keeps_19 b g (0 : Int32) mbar mbits made = some r2 ∧ r1.1 = r2.1 ∧ InvS r1.2.1 r1.2.2.1 r1.2.2.2 r2.2.1 r2.2.2.1 r2.2.2.2 ∧ (∀ i, 40 ≤ i → r2.2.1 i = mbar i ∧ r2.2.2.1 i = mbits i) ∧ ∀ i, 0 < i → r2.2.2.2 i = made i := by
  obtain ⟨⟨n, rfl, hn, hok⟩, hm, heq⟩ := hI
  have e0 : made (0 : Int32).toNatClampNeg = nI n := by rw [cl0]; exact hm
  have key := lp_find2 (f := fun q => s_X4_put_3 b g q bars groups (nI n)) (f' := fun q => s_X8_keeps_19 b g q mbar mbits made) n (fun i => bars i = b ∧ groups i = g) ?_ ?_ ?_ n 0 pfFU (by omega) (by have := pf_FU; omega)
  · rcases key with ⟨j, hj, hc, k1, k2⟩ | ⟨k1, k2⟩
    · refine ⟨(nI j, bars, groups, nI n), (nI j, mbar, mbits, made), ?_, ?_, rfl, ⟨⟨n, rfl, hn, hok⟩, hm, heq⟩, fun _ _ => ⟨rfl, rfl⟩, fun _ _ => rfl⟩
      · unfold p_X4_put g_X4_put_3
        rw [show (0 : Int32) = nI 0 from rfl, k1]; rfl
      · unfold g_X8_keeps_19
        rw [show (0 : Int32) = nI 0 from rfl, k2]; rfl
    · rcases Nat.lt_or_ge n 40 with h40 | h40
      · refine ⟨(nI n, upd bars n b, vp_updL groups n g, nI (n + 1)), (nI n, upd mbar n b, vp_updL mbits n g, upd made 0 (nI (n + 1))), ?_, ?_, rfl, ⟨⟨n + 1, rfl, by omega, ?_⟩, (show upd made 0 (nI (n + 1)) 0 = nI (n + 1) from pk_us), ?_⟩, ?_, ?_⟩
        · unfold p_X4_put g_X4_put_3
          rw [show (0 : Int32) = nI 0 from rfl, k1]
          show e_X4_put_51 b g bars groups (nI n) = _
          unfold e_X4_put_51
          rw [if_neg (nI_pos (by omega)), if_pos (show nI n < (40 : Int32) from nI_lt (b := 40) h40 (by decide)), if_pos (ain_n h40 (by decide)), if_pos (ain_n h40 (by decide)), nI_clamp (by omega), show nI n + 1 = nI (n + 1) from nI_1 n, nI_pred]
        · unfold g_X8_keeps_19
          rw [show (0 : Int32) = nI 0 from rfl, k2]
          show e_X8_keeps_64 b g mbar mbits made = _
          unfold e_X8_keeps_64
          rw [e0, if_neg (show ¬ nI n = (40 : Int32) from fun q => by have := (nI_eq (a := n) (b := 40) (by omega) (by decide)).mp q; omega), if_pos (ain_n (by omega) (by decide)), if_pos (ain_n (by omega) (by decide)), nI_clamp (by omega), cl0, pk_us, show nI n + 1 = nI (n + 1) from nI_1 n, nI_pred]
        · intro i hi
          by_cases h : i = n
          · subst h; show FieldOK (upd bars i b i) (vp_updL groups i g i); rw [pk_us, pk_uLs]; exact hF
          · show FieldOK (upd bars n b i) (vp_updL groups n g i); rw [pk_un h, pk_uLn h]; exact hok i (by omega)
        · intro i hi
          by_cases h : i = n
          · subst h; exact ⟨by show upd mbar i b i = upd bars i b i; rw [pk_us, pk_us], by show vp_updL mbits i g i = vp_updL groups i g i; rw [pk_uLs, pk_uLs]⟩
          · exact ⟨by show upd mbar n b i = upd bars n b i; rw [pk_un h, pk_un h]; exact (heq i hi).1, by show vp_updL mbits n g i = vp_updL groups n g i; rw [pk_uLn h, pk_uLn h]; exact (heq i hi).2⟩
        · intro i hi
          exact ⟨pk_un (by omega), pk_uLn (by omega)⟩
        · intro i hi
          exact pk_un (by omega)
      · have : n = 40 := by omega
        subst this
        refine ⟨(-1, bars, groups, nI 40), (-1, mbar, mbits, made), ?_, ?_, rfl, ⟨⟨40, rfl, hn, hok⟩, hm, heq⟩, fun _ _ => ⟨rfl, rfl⟩, fun _ _ => rfl⟩
        · unfold p_X4_put g_X4_put_3
          rw [show (0 : Int32) = nI 0 from rfl, k1]; rfl
        · unfold g_X8_keeps_19
          rw [show (0 : Int32) = nI 0 from rfl, k2]
          show e_X8_keeps_64 b g mbar mbits made = _
          unfold e_X8_keeps_64
          rw [e0]; rfl
  · intro i hi hc
    refine ⟨?_, ?_⟩
    · show s_X4_put_3 b g (nI i) bars groups (nI n) = _
      unfold s_X4_put_3
      rw [if_neg (nI_ge hi (by omega)), if_neg (show ¬ (40 : Int32) ≤ nI i from nI_ge (b := 40) (by omega) (by decide)), if_pos (ain_n (by omega) (by decide)), nI_clamp (by omega), if_pos (ain_n (by omega) (by decide))]
      by_cases h1 : bars i = b
      · rw [if_pos h1, if_neg (fun h2 => hc ⟨h1, h2⟩)]
      · rw [if_neg h1]
    · show s_X8_keeps_19 b g (nI i) mbar mbits made = _
      unfold s_X8_keeps_19
      rw [e0, if_neg (nI_ge hi (by omega)), if_pos (ain_n (by omega) (by decide)), nI_clamp (by omega), if_pos (ain_n (by omega) (by decide)), (heq i (by omega)).1, (heq i (by omega)).2]
      by_cases h1 : bars i = b
      · rw [if_pos h1, if_neg (fun h2 => hc ⟨h1, h2⟩)]
      · rw [if_neg h1]
  · intro i hi hc
    refine ⟨?_, ?_⟩
    · show s_X4_put_3 b g (nI i) bars groups (nI n) = _
      unfold s_X4_put_3
      rw [if_neg (nI_ge hi (by omega)), if_neg (show ¬ (40 : Int32) ≤ nI i from nI_ge (b := 40) (by omega) (by decide)), if_pos (ain_n (by omega) (by decide)), nI_clamp (by omega), if_pos (ain_n (by omega) (by decide)), if_pos hc.1, if_pos hc.2]
    · show s_X8_keeps_19 b g (nI i) mbar mbits made = _
      unfold s_X8_keeps_19
      rw [e0, if_neg (nI_ge hi (by omega)), if_pos (ain_n (by omega) (by decide)), nI_clamp (by omega), if_pos (ain_n (by omega) (by decide)), (heq i (by omega)).1, (heq i (by omega)).2, if_pos hc.1, if_pos hc.2]
  · refine ⟨?_, ?_⟩
    · show s_X4_put_3 b g (nI n) bars groups (nI n) = _
      unfold s_X4_put_3
      rw [if_pos (nI_le (Nat.le_refl n) (by omega))]
    · show s_X8_keeps_19 b g (nI n) mbar mbits made = _
      unfold s_X8_keeps_19
      rw [e0, if_pos (nI_le (Nat.le_refl n) (by omega))]
