/-! THE POLYNOMIAL, on both sides -/
def okN (a b : Nat) : Bool := Nat.beq (a % 18446744073709551616) (b % 18446744073709551616) && (bif Nat.ble (b % 18446744073709551616) 2147483648 then true else Nat.ble 18446744071562067968 (b % 18446744073709551616))
noncomputable def sameN (F G : Nat → Nat) (d n : Nat) : Bool := Nat.rec (motive := fun _ => Bool) true (fun k b => cond (okN (F (d - k)) (G k)) b false) n
theorem sameN_t {F G : Nat → Nat} {d : Nat} : ∀ {n : Nat}, sameN F G d n = true → ∀ k, k < n → okN (F (d - k)) (G k) = true := by
  intro n
  induction n with
  | zero => intro _ i hi; omega
  | succ n ih =>
    intro h i hi
    have h : cond (okN (F (d - n)) (G n)) (sameN F G d n) false = true := h
    cases h1 : okN (F (d - n)) (G n) with
    | false => rw [h1] at h; exact absurd (show false = true from h) (by decide)
    | true =>
      rw [h1] at h
      rcases Nat.lt_or_ge i n with h3 | h3
      · exact ih h i h3
      · have : i = n := by omega
        subst this
        exact h1
theorem okN_t {a b : Nat} (h : okN a b = true) : lN a = lN b ∧ -2147483648 ≤ (lN b).toInt ∧ (lN b).toInt ≤ 2147483648 := by
  obtain ⟨h1, h2⟩ := nf_and h
  have e : lN b = lN (b % 18446744073709551616) := wb_mod b
  have hlt := Nat.mod_lt b (show 0 < 18446744073709551616 by decide)
  refine ⟨?_, ?_⟩
  · rw [show lN a = lN (a % 18446744073709551616) from wb_mod a, Nat.eq_of_beq_eq_true h1, ← e]
  · rw [e, lN_ti (show b % 18446744073709551616 < 2 ^ 64 from hlt)]
    cases hc : Nat.ble (b % 18446744073709551616) 2147483648 with
    | true =>
      have := nf_le hc
      rw [if_pos (by omega)]
      omega
    | false =>
      rw [hc] at h2
      have := nf_le (show Nat.ble 18446744071562067968 (b % 18446744073709551616) = true from h2)
      rw [if_neg (by omega)]
      omega
abbrev SX : Type := (Nat → Nat) × (Nat → Nat) × (Nat → Nat) × (Nat → Nat) × (Nat → Nat) × (Nat → Nat) × (Nat → Nat)
noncomputable def chkS (m g d : Nat) (x : SX) : Bool :=
  wO (qp_X5_find x.1 x.2.1 x.2.2.1 x.2.2.2.1 x.2.2.2.2.1 0 g m) fun R => wO (qp_X8_reckons (fun _ => m) (fun _ => g) (fun _ => 1) x.2.2.2.2.2.1 x.2.2.2.2.2.2 0) fun S =>
    Nat.beq R.1 S.1 && (Nat.ble R.1 1 && (Nat.beq R.2.2.2.2.2.2 d && (bif Nat.beq R.1 0 then true else sameN R.2.2.2.2.2.1 S.2.2 d (d + 1))))
noncomputable def allT (x : SX) : List (Nat × Nat × Nat) → Bool
  | [] => true
  | q :: l => bif chkS q.1 q.2.1 q.2.2 x then allT x l else false
theorem allT_mem {x : SX} : ∀ {l : List (Nat × Nat × Nat)}, allT x l = true → ∀ q ∈ l, chkS q.1 q.2.1 q.2.2 x = true := by
  intro l
  induction l with
  | nil => intro _ q hq; exact absurd hq (List.not_mem_nil)
  | cons a l ih =>
    intro h q hq
    have h1 : chkS a.1 a.2.1 a.2.2 x = true := by
      cases hc : chkS a.1 a.2.1 a.2.2 x with
      | true => rfl
      | false => rw [show allT x (a :: l) = (bif chkS a.1 a.2.1 a.2.2 x then allT x l else false) from rfl, hc] at h; exact absurd (show false = true from h) (by decide)
    rw [show allT x (a :: l) = (bif chkS a.1 a.2.1 a.2.2 x then allT x l else false) from rfl, h1] at h
    rcases List.mem_cons.mp hq with e | e
    · rw [e]; exact h1
    · exact ih h q e
theorem rk116 {i g : Nat} {mbits : Nat → Int64} (hi : i < 160) (hb : mbits i = lN g) (x2 : Int32) (x3 x5 x7 : Int64) (x9 x10 : Int32) (fs fn : Nat → Int64) : e_X8_reckons_116 (nI i) x2 x3 x5 x7 x9 x10 mbits fs fn = e_X8_reckons_116 (nI 0) x2 x3 x5 x7 x9 x10 (nB fun _ => g) fs fn := by
  unfold e_X8_reckons_116
  rw [if_pos (ain_n hi (by decide)), if_pos (ain_n (show 0 < 160 by decide) (by decide)), nI_clamp (by omega), hb]
  rfl
theorem rk98 {i g : Nat} {mbits : Nat → Int64} (hi : i < 160) (hb : mbits i = lN g) (x2 : Int32) (x3 x5 x7 : Int64) (x9 x10 : Int32) (fs fn : Nat → Int64) : g_X8_reckons_98 (nI i) x2 x3 x5 x7 x9 x10 mbits fs fn = g_X8_reckons_98 (nI 0) x2 x3 x5 x7 x9 x10 (nB fun _ => g) fs fn := by
  unfold g_X8_reckons_98
  rw [show a_X8_reckons_98 (nI i) x2 x3 x5 x7 x9 mbits fs fn = a_X8_reckons_98 (nI 0) x2 x3 x5 x7 x9 (nB fun _ => g) fs fn from funext (fun q => rk116 hi hb x2 x3 x5 x7 x9 q fs fn)]
  rfl
theorem rk88 {i g : Nat} {mbits : Nat → Int64} (hi : i < 160) (hb : mbits i = lN g) (x2 : Int32) (x3 x5 x7 : Int64) (x9 : Int32) (fs fn : Nat → Int64) : g_X8_reckons_88 (nI i) x2 x3 x5 x7 x9 mbits fs fn = g_X8_reckons_88 (nI 0) x2 x3 x5 x7 x9 (nB fun _ => g) fs fn := by
  unfold g_X8_reckons_88
  have h : (fun q : (Int64 × Int32 × (Nat → Int64)) => s_X8_reckons_88 (nI i) x2 x3 x5 q.1 q.2.1 mbits q.2.2 fn) = (fun q : (Int64 × Int32 × (Nat → Int64)) => s_X8_reckons_88 (nI 0) x2 x3 x5 q.1 q.2.1 (nB fun _ => g) q.2.2 fn) := by
    funext q
    unfold s_X8_reckons_88
    rw [rk98 hi hb]
  rw [h]
theorem rk49 {i g : Nat} {mbits : Nat → Int64} (hi : i < 160) (hb : mbits i = lN g) (x2 : Int32) (x3 : Int64) (fs fn : Nat → Int64) : g_X8_reckons_49 (nI i) x2 x3 mbits fs fn = g_X8_reckons_49 (nI 0) x2 x3 (nB fun _ => g) fs fn := by
  unfold g_X8_reckons_49
  have h : a_X8_reckons_49 (nI i) x2 mbits fs fn = a_X8_reckons_49 (nI 0) x2 (nB fun _ => g) fs fn := by
    funext q
    show e_X8_reckons_72 (nI i) x2 q mbits fs fn = e_X8_reckons_72 (nI 0) x2 q (nB fun _ => g) fs fn
    unfold e_X8_reckons_72
    congr 1
    funext v
    congr 1
    funext w
    exact rk88 hi hb x2 q v w 0 fs fn
  rw [h]
  rfl
theorem reck_n {i m g : Nat} {mbar : Nat → Int32} {mbits : Nat → Int64} {mmade : Nat → Int32} (hi : i < 160) (hf : p_X8_isField mmade (nI i) = some 1) (ha : mbar i = nI m) (hb : mbits i = lN g) (fs fn : Nat → Int64) : p_X8_reckons mbar mbits mmade fs fn (nI i) = Option.map (cP nI (cP nB nB)) (qp_X8_reckons (fun _ => m) (fun _ => g) (fun _ => 1) (fun i => u64 (fs i)) (fun i => u64 (fn i)) 0) := by
  rw [← k_p_X8_reckons, nB_u, nB_u]
  have hf0 : p_X8_isField (nA fun _ => 1) (nI 0) = some 1 := by decide
  unfold p_X8_reckons
  rw [hf, hf0, Option.bind_some, Option.bind_some, if_pos (ain_n hi (by decide)), if_pos (ain_n hi (by decide)), if_pos (ain_n hi (by decide)), if_pos (ain_n (show 0 < 160 by decide) (by decide)), if_pos (ain_n (show 0 < 160 by decide) (by decide)), if_pos (ain_n (show 0 < 160 by decide) (by decide)), nI_clamp (show i < 2147483648 by omega), ha, hb]
  simp only [rk49 hi hb]
  rfl
