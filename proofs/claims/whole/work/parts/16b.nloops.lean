/-! loops over plain numbers -/
theorem lpN_inl {σ β : Type} {f : σ → Option (σ ⊕ β)} {n : Nat} {s s' : σ} (h : f s = some (Sum.inl s')) : lpN f (n + 1) s = lpN f n s' := by
  show (match f s with
    | none => none
    | some (Sum.inl s') => lpN f n s'
    | some (Sum.inr b) => some b) = _
  rw [h]
theorem lpN_inr {σ β : Type} {f : σ → Option (σ ⊕ β)} {n : Nat} {s : σ} {b : β} (h : f s = some (Sum.inr b)) : lpN f (n + 1) s = some b := by
  show (match f s with
    | none => none
    | some (Sum.inl s') => lpN f n s'
    | some (Sum.inr b) => some b) = _
  rw [h]
def itF {τ : Type} (F : Nat → τ → τ) : Nat → Nat → τ → τ
  | _, 0, t => t
  | i, k + 1, t => itF F (i + 1) k (F i t)
theorem ln_for {σ β τ : Type} {f : σ → Option (σ ⊕ β)} (st : Nat → τ → σ) (F : Nat → τ → τ) (out : τ → β) (e : Nat) (P : τ → Prop)
    (hs : ∀ i t, i < e → P t → f (st i t) = some (Sum.inl (st (i + 1) (F i t))) ∧ P (F i t)) (hx : ∀ t, P t → f (st e t) = some (Sum.inr (out t))) :
    ∀ (d i : Nat) (t : τ) (n : Nat), i + d = e → d < n → P t → lpN f n (st i t) = some (out (itF F i d t)) ∧ P (itF F i d t) := by
  intro d
  induction d with
  | zero =>
    intro i t n h1 h2 hP
    obtain ⟨n, rfl⟩ : ∃ k, n = k + 1 := ⟨n - 1, by omega⟩
    have : i = e := by omega
    subst this
    exact ⟨lpN_inr (hx t hP), hP⟩
  | succ d ih =>
    intro i t n h1 h2 hP
    obtain ⟨n, rfl⟩ : ∃ k, n = k + 1 := ⟨n - 1, by omega⟩
    obtain ⟨g1, g2⟩ := hs i t (by omega) hP
    rw [lpN_inl g1]
    exact ih (i + 1) (F i t) n (by omega) (by omega) g2
theorem nleI_t {a b : Nat} (h : a ≤ b) (hb : b < 2147483648) : nleI a b = true := by
  unfold nleI
  rw [show Nat.ble a 2147483647 = true from Nat.ble_eq.mpr (by omega), show Nat.ble b 2147483647 = true from Nat.ble_eq.mpr (by omega)]
  exact Nat.ble_eq.mpr h
theorem nleI_f {a b : Nat} (h : b < a) (ha : a < 2147483648) : nleI a b = false := by
  unfold nleI
  rw [show Nat.ble a 2147483647 = true from Nat.ble_eq.mpr (by omega), show Nat.ble b 2147483647 = true from Nat.ble_eq.mpr (by omega)]
  show Nat.ble a b = false
  rw [Bool.eq_false_iff]; intro q; have := Nat.ble_eq.mp q; omega
theorem nltI_t {a b : Nat} (h : a < b) (hb : b < 2147483648) : nltI a b = true := by
  unfold nltI
  rw [show Nat.ble a 2147483647 = true from Nat.ble_eq.mpr (by omega), show Nat.ble b 2147483647 = true from Nat.ble_eq.mpr (by omega)]
  exact Nat.blt_eq.mpr h
theorem nltI_f {a b : Nat} (h : b ≤ a) (ha : a < 2147483648) : nltI a b = false := by
  unfold nltI
  rw [show Nat.ble a 2147483647 = true from Nat.ble_eq.mpr (by omega), show Nat.ble b 2147483647 = true from Nat.ble_eq.mpr (by omega)]
  show Nat.blt a b = false
  rw [Bool.eq_false_iff]; intro q; have := Nat.blt_eq.mp q; omega
theorem neqI_n {a b : Nat} (ha : a < 4294967296) (hb : b < 4294967296) : neqI a b = Nat.beq a b := by
  unfold neqI
  rw [show Nat.ble a 4294967295 = true from Nat.ble_eq.mpr (by omega), show Nat.ble b 4294967295 = true from Nat.ble_eq.mpr (by omega)]; rfl
theorem beq_f {a b : Nat} (h : a ≠ b) : Nat.beq a b = false := by rw [Bool.eq_false_iff]; intro q; exact h (Nat.eq_of_beq_eq_true q)
theorem beq_t {a b : Nat} (h : a = b) : Nat.beq a b = true := by rw [h]; exact Nat.beq_refl b
theorem neqI_t {a b : Nat} (h : a = b) (hb : b < 4294967296) : neqI a b = true := by rw [neqI_n (by omega) hb]; exact beq_t h
theorem neqI_f {a b : Nat} (h : a ≠ b) (ha : a < 4294967296) (hb : b < 4294967296) : neqI a b = false := by rw [neqI_n ha hb]; exact beq_f h
theorem neqJ_n {a b : Nat} (ha : a < 18446744073709551616) (hb : b < 18446744073709551616) : neqJ a b = Nat.beq a b := by
  unfold neqJ
  rw [show Nat.ble a 18446744073709551615 = true from Nat.ble_eq.mpr (by omega), show Nat.ble b 18446744073709551615 = true from Nat.ble_eq.mpr (by omega)]; rfl
theorem njrem_n {a b : Nat} (ha : a < 2147483648) (h0 : 0 < b) (hb : b < 2147483648) : njrem a b = a % b := by
  unfold njrem
  rw [show Nat.ble a 2147483647 = true from Nat.ble_eq.mpr (by omega), show Nat.ble b 2147483647 = true from Nat.ble_eq.mpr (by omega), show Nat.ble 1 b = true from Nat.ble_eq.mpr (by omega)]; rfl
theorem njshr_n {a k : Nat} (ha : a < 9223372036854775808) (hk : k < 64) : njshr a k = a >>> k := by
  unfold njshr
  rw [show Nat.ble a 9223372036854775807 = true from Nat.ble_eq.mpr (by omega), show Nat.ble k 63 = true from Nat.ble_eq.mpr (by omega)]; rfl
theorem njshl_n {a k : Nat} (hk : k < 64) : njshl a k = a <<< k := by
  unfold njshl
  rw [show Nat.ble k 63 = true from Nat.ble_eq.mpr (by omega)]; rfl
theorem nix_n {a : Nat} (h : a < 2147483648) : nix a = a := by
  unfold nix
  rw [show Nat.ble a 2147483647 = true from Nat.ble_eq.mpr (by omega)]; rfl
theorem nain_t {a n : Nat} (h : a < n) (ha : a < 2147483648) : nain a n = true := by
  unfold nain
  rw [show Nat.ble a 2147483647 = true from Nat.ble_eq.mpr (by omega)]; exact Nat.blt_eq.mpr h
theorem and1_lt (a : Nat) : a &&& 1 < 2 := Nat.lt_succ_of_le Nat.and_le_right
theorem itF_snoc {τ : Type} (F : Nat → τ → τ) : ∀ (d i : Nat) (t : τ), itF F i (d + 1) t = F (i + d) (itF F i d t) := by
  intro d
  induction d with
  | zero => intro i t; rfl
  | succ d ih =>
    intro i t
    show itF F (i + 1) (d + 1) (F i t) = F (i + (d + 1)) (itF F (i + 1) d (F i t))
    rw [ih, show i + 1 + d = i + (d + 1) by omega]
/-- r times each of g, by m -/
noncomputable def timesN (m g r : Nat) : Nat := Nat.rec (motive := fun _ => Nat) 0 (fun s v => cond (Nat.beq (Nat.land (Nat.shiftRight g s) 1) 1) (Nat.lor v (Nat.shiftLeft 1 (Nat.mod (Nat.mul s r) m))) v) m
theorem timesN_it (m g r : Nat) : itF (fun s v => bif Nat.beq ((g >>> s) &&& 1) 1 then v ||| (1 <<< (s * r % m)) else v) 0 m 0 = timesN m g r := by
  have key : ∀ k, itF (fun s v => bif Nat.beq ((g >>> s) &&& 1) 1 then v ||| (1 <<< (s * r % m)) else v) 0 k 0 = Nat.rec (motive := fun _ => Nat) 0 (fun s v => cond (Nat.beq (Nat.land (Nat.shiftRight g s) 1) 1) (Nat.lor v (Nat.shiftLeft 1 (Nat.mod (Nat.mul s r) m))) v) k := by
    intro k
    induction k with
    | zero => rfl
    | succ k ih =>
      rw [itF_snoc, ih, Nat.zero_add]
      rfl
  exact key m
theorem nf_fast {α : Type} {d : Bool} {x y : Option α} {z : Option α} (h1 : d = true → z = x) (h2 : z = y) : z = (bif d then x else y) := by
  cases d
  · exact h2
  · exact h1 rfl
theorem pf_FU : 65535 < pfFU := by decide
