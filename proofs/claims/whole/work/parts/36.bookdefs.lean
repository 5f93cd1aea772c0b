/-! the LIST's book -/
def LTI (i : Nat) : Nat × Nat × Nat := LT.getD i (0, 0, 0)
def CNL : List Nat := [0, 1, 1, 2, 3, 5, 5, 8, 11, 13, 13, 15, 17, 21, 21, 25, 28, 31, 31, 34, 38, 42, 42, 43, 51, 52, 52, 52, 56, 59, 59, 63, 65, 67, 67, 73, 75, 79, 79, 85, 100, 104, 104, 108, 110, 112, 112, 113, 120, 121, 121, 126, 132, 134, 134, 138, 150, 154, 154, 155, 166, 171, 171, 181]
def cnt (M : Nat) : Nat := CNL.getD M 0
theorem LTP_take : ∀ M ∈ M63, LTP M = LT.take (cnt M) := by decide +kernel
theorem cnt_le : ∀ M ∈ M63, cnt M ≤ 181 := by decide +kernel
theorem LT_len : LT.length = 181 := by decide +kernel
theorem cnt_next : ∀ M ∈ M63, cnt M < 181 → M < (LTI (cnt M)).1 := by decide +kernel
def EQ (m d : Nat) : List (Nat × Nat × Nat) := LT.filter (fun q => Nat.beq q.1 m && Nat.beq q.2.2 d)
def LTD (d M : Nat) : List (Nat × Nat × Nat) := (LTP M).filter (fun q => Nat.beq q.2.2 d)
def D8 : List Nat := [1, 2, 3, 4, 5, 6, 7, 8]
theorem LTD_0 : ∀ d ∈ D8, LTD d 0 = [] := by decide +kernel
theorem LTD_s : ∀ d ∈ D8, ∀ M ∈ List.range 63, LTD d (M + 1) = LTD d M ++ EQ (M + 1) d := by decide +kernel
def LTok (q : Nat × Nat × Nat) : Bool := (Nat.ble 1 q.1 && Nat.ble q.1 63) && ((Nat.ble q.2.1 9223372036854775807 && memQ FT q.1 q.2.1) && (Nat.ble 1 q.2.2 && Nat.ble q.2.2 8))
theorem LT_ok : ∀ q ∈ LT, LTok q = true := by decide +kernel
def preB (tab : Nat → Nat) (s : Nat) (f : Nat → Nat) : Nat → Nat := fun i => bif Nat.blt i s then tab i else f i
noncomputable def sameB (R : (Nat → Nat) × ((Nat → Nat) × ((Nat → Nat) × Nat))) (n : Nat) : Bool := Nat.rec (motive := fun _ => Bool) true (fun i b => cond (Nat.beq (R.1 i) (LTI i).1 && (Nat.beq (R.2.1 i) (LTI i).2.1 && Nat.beq (R.2.2.1 i) (LTI i).2.2)) b false) n
theorem sameB_t {R : (Nat → Nat) × ((Nat → Nat) × ((Nat → Nat) × Nat))} : ∀ {n : Nat}, sameB R n = true → ∀ i, i < n → R.1 i = (LTI i).1 ∧ R.2.1 i = (LTI i).2.1 ∧ R.2.2.1 i = (LTI i).2.2 := by
  intro n
  induction n with
  | zero => intro _ i hi; omega
  | succ n ih =>
    intro h i hi
    have h : cond (Nat.beq (R.1 n) (LTI n).1 && (Nat.beq (R.2.1 n) (LTI n).2.1 && Nat.beq (R.2.2.1 n) (LTI n).2.2)) (sameB R n) false = true := h
    cases h1 : (Nat.beq (R.1 n) (LTI n).1 && (Nat.beq (R.2.1 n) (LTI n).2.1 && Nat.beq (R.2.2.1 n) (LTI n).2.2)) with
    | false => rw [h1] at h; exact absurd (show false = true from h) (by decide)
    | true =>
      rw [h1] at h
      rcases Nat.lt_or_ge i n with h3 | h3
      · exact ih h i h3
      · have : i = n := by omega
        subst this
        obtain ⟨a, b⟩ := nf_and h1
        obtain ⟨b, c⟩ := nf_and b
        exact ⟨Nat.eq_of_beq_eq_true a, Nat.eq_of_beq_eq_true b, Nat.eq_of_beq_eq_true c⟩
noncomputable def chkB (m : Nat) (x : (Nat → Nat) × ((Nat → Nat) × ((Nat → Nat) × (Nat → Nat)))) : Bool :=
  wO (np_X3_one m) fun o => wO (np_X0_find x.1 0 o m) fun F => wO (lpN (fun q : (Nat × ((Nat → Nat) × ((Nat → Nat) × ((Nat → Nat) × Nat)))) => ns_X1_fillTo_32 0 m q.1 F.1 F.2 q.2.1 q.2.2.1 q.2.2.2.1 q.2.2.2.2) pfFU (0, preB (fun i => (LTI i).1) (cnt (m - 1)) x.2.1, preB (fun i => (LTI i).2.1) (cnt (m - 1)) x.2.2.1, preB (fun i => (LTI i).2.2) (cnt (m - 1)) x.2.2.2, cnt (m - 1))) fun R =>
    Nat.beq R.2.2.2 (cnt m) && sameB R (cnt m)
noncomputable def chainB (inner : Nat → Option Nat) : Nat → List (Nat × Nat × Nat) → Bool
  | last, [] => eqO (inner last) (some 18446744073709551615)
  | last, q :: es => eqO (inner last) (some q.2.1) && chainB inner q.2.1 es
noncomputable def innerN (d m : Nat) (G : (Nat → Nat) × Nat) (last : Nat) : Option Nat := lpN (fun q : (Nat × Nat) => ns_X8_passes_30 d m 0 last q.1 q.2 G.1 G.2 0 0) pfFU (18446744073709551615, 0)
noncomputable def chkE (m : Nat) (x : Nat → Nat) : Bool := wO (np_X8_one m) fun o => wO (np_X8_between x 0 m o) fun G => allB (fun d => chainB (innerN d m G) 18446744073709551615 (EQ m d)) D8
