/-! rests of whole numbers, signs and all -/
theorem bm {z : Int} (h1 : -9223372036854775808 ≤ z) (h2 : z < 9223372036854775808) : z.bmod (2 ^ 64) = z := by
  rw [Int.bmod_def]
  have e : ((2 ^ 64 : Nat) : Int) = 18446744073709551616 := by decide
  rw [e]
  split <;> omega
theorem i_add {a b : Int64} (h1 : -9223372036854775808 ≤ a.toInt + b.toInt) (h2 : a.toInt + b.toInt < 9223372036854775808) : (a + b).toInt = a.toInt + b.toInt := by rw [Int64.toInt_add, bm h1 h2]
theorem i_sub {a b : Int64} (h1 : -9223372036854775808 ≤ a.toInt - b.toInt) (h2 : a.toInt - b.toInt < 9223372036854775808) : (a - b).toInt = a.toInt - b.toInt := by rw [Int64.toInt_sub, bm h1 h2]
theorem i_mul {a b : Int64} (h1 : -9223372036854775808 ≤ a.toInt * b.toInt) (h2 : a.toInt * b.toInt < 9223372036854775808) : (a * b).toInt = a.toInt * b.toInt := by rw [Int64.toInt_mul, bm h1 h2]
theorem i_rem {a b : Int64} {p : Int} (hb : b.toInt = p) (hp : 2 ≤ p) (hp2 : p ≤ 997) (h1 : -2305843009213693952 ≤ a.toInt) (h2 : a.toInt ≤ 2305843009213693952) : (jremL a b).toInt = a.toInt.tmod p := by
  have hq : ((a.toInt).tdiv p).natAbs ≤ a.toInt.natAbs := by
    rw [Int.natAbs_tdiv]
    exact Nat.div_le_self _ _
  have hd : (a / b).toInt = (a.toInt).tdiv p := by
    rw [Int64.toInt_div, hb, bm (by omega) (by omega)]
  have hm : (a.toInt).tdiv p * p = a.toInt - a.toInt.tmod p := by
    have := Int.mul_tdiv_add_tmod a.toInt p
    rw [Int.mul_comm] at this
    omega
  have ht : (a.toInt.tmod p).natAbs ≤ a.toInt.natAbs := by
    rw [Int.natAbs_tmod]
    exact Nat.mod_le _ _
  have hmul : (a / b * b).toInt = a.toInt - a.toInt.tmod p := by
    rw [i_mul (by rw [hd, hb, hm]; omega) (by rw [hd, hb, hm]; omega), hd, hb, hm]
  unfold jremL
  rw [i_sub (by rw [hmul]; omega) (by rw [hmul]; omega), hmul]
  omega
theorem tm_mod (z p : Int) : z.tmod p % p = z % p := by
  have h : z.tmod p = z + p * (-(z.tdiv p)) := by
    have := Int.mul_tdiv_add_tmod z p
    rw [Int.mul_neg]; omega
  rw [h, Int.add_mul_emod_self_left]
theorem tm_lt {z p : Int} (hp : 2 ≤ p) : -p < z.tmod p ∧ z.tmod p < p := by
  have h : (z.tmod p).natAbs < p.natAbs := by
    rw [Int.natAbs_tmod]
    exact Nat.mod_lt _ (by omega)
  omega
theorem xor_sign {a b : Int64} (hb : 0 ≤ b.toInt) : (0 ≤ a ^^^ b) ↔ 0 ≤ a.toInt := by
  have i0 : (0 : Int64).toInt = 0 := rfl
  have m1 : a.toBitVec.msb = decide (a.toInt < 0) := BitVec.msb_eq_toInt
  have m2 : b.toBitVec.msb = decide (b.toInt < 0) := BitVec.msb_eq_toInt
  have m3 : (a ^^^ b).toBitVec.msb = decide ((a ^^^ b).toInt < 0) := BitVec.msb_eq_toInt
  have m4 : (a ^^^ b).toBitVec.msb = (a.toBitVec.msb ^^ b.toBitVec.msb) := BitVec.msb_xor
  rw [m1, m2, m3, decide_eq_false (show ¬ b.toInt < 0 by omega), Bool.xor_false] at m4
  have := decide_eq_decide.mp m4
  rw [Int64.le_iff_toInt_le, i0]
  omega
theorem i_floor {w b : Int64} {p : Int} (hb : b.toInt = p) (hp : 2 ≤ p) (hp2 : p ≤ 997) (h1 : -2305843009213693952 ≤ w.toInt) (h2 : w.toInt ≤ 2305843009213693952) : ∃ r, p_J9_floorMod_f86c9 w b = some r ∧ r.toInt = w.toInt % p := by
  have hr := i_rem hb hp hp2 h1 h2
  have hm := tm_mod w.toInt p
  obtain ⟨t1, t2⟩ := tm_lt (z := w.toInt) hp
  have i0 : (0 : Int64).toInt = 0 := rfl
  have hb0 : ¬ b = 0 := by intro h; rw [h, i0] at hb; omega
  have hz : (jremL w b = 0) ↔ w.toInt.tmod p = 0 := by
    rw [← hr]
    constructor
    · intro h; rw [h]; rfl
    · intro h; apply Int64.toInt_inj.mp; rw [h]; rfl
  unfold p_J9_floorMod_f86c9
  rw [if_neg hb0]
  by_cases hs : 0 ≤ w.toInt
  · rw [if_pos ((xor_sign (by omega)).mpr hs)]
    refine ⟨_, rfl, ?_⟩
    rw [hr, ← hm, Int.emod_eq_of_lt (Int.tmod_nonneg p hs) t2]
  · rw [if_neg (fun q => hs ((xor_sign (by omega)).mp q))]
    have hn : w.toInt.tmod p ≤ 0 := by
      have h3 : (-(-w.toInt)).tmod p = -((-w.toInt).tmod p) := Int.neg_tmod _ _
      rw [Int.neg_neg] at h3
      have := Int.tmod_nonneg p (show 0 ≤ -w.toInt by omega)
      omega
    by_cases ht : w.toInt.tmod p = 0
    · rw [if_pos (hz.mpr ht)]
      refine ⟨_, rfl, ?_⟩
      rw [hr, ht, ← hm, ht]; rfl
    · rw [if_neg (fun q => ht (hz.mp q))]
      refine ⟨_, rfl, ?_⟩
      rw [i_add (by rw [hr, hb]; omega) (by rw [hr, hb]; omega), hr, hb, ← hm]
      have h4 : (w.toInt.tmod p + p) % p = w.toInt.tmod p % p := by
        rw [show w.toInt.tmod p + p = w.toInt.tmod p + p * 1 by omega, Int.add_mul_emod_self_left]
      rw [← h4, Int.emod_eq_of_lt (by omega) (by omega)]
theorem lin_mod (v x c p : Int) : ((v % p) * x + c) % p = (v * x + c) % p := by
  have h : ((v % p) * x) % p = (v * x) % p := by
    rw [Int.mul_emod, Int.emod_emod, ← Int.mul_emod]
  rw [Int.add_emod, h, ← Int.add_emod]
theorem bd_mul {v x : Int} (h1 : -997 ≤ v) (h2 : v ≤ 997) (h3 : 0 ≤ x) (h4 : x ≤ 997) : -994009 ≤ v * x ∧ v * x ≤ 994009 := by
  have a : v * x ≤ 997 * x := Int.mul_le_mul_of_nonneg_right h2 h3
  have b : (-997) * x ≤ v * x := Int.mul_le_mul_of_nonneg_right h1 h3
  omega
