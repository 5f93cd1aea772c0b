/-! tables: GROUPS kept, lifted, put together -/
def memQ : List (Nat × Nat) → Nat → Nat → Bool
  | [], _, _ => false
  | a :: l, x, y => bif Nat.beq a.1 x && Nat.beq a.2 y then true else memQ l x y
theorem memQ_mem : ∀ {l : List (Nat × Nat)} {x y : Nat}, memQ l x y = true → (x, y) ∈ l := by
  intro l
  induction l with
  | nil => intro x y h; exact absurd h (by simp [memQ])
  | cons a l ih =>
    intro x y h
    rw [show memQ (a :: l) x y = (bif Nat.beq a.1 x && Nat.beq a.2 y then true else memQ l x y) from rfl] at h
    cases hc : (Nat.beq a.1 x && Nat.beq a.2 y) with
    | true =>
      obtain ⟨h1, h2⟩ := nf_and hc
      rw [← Nat.eq_of_beq_eq_true h1, ← Nat.eq_of_beq_eq_true h2]; exact List.mem_cons_self
    | false => rw [hc] at h; exact List.mem_cons_of_mem _ (ih h)
noncomputable def chkK2 (m g b : Nat) : Option Nat → Bool
  | some d => eqO (np_X8_down m g b) (some d) && memQ FT b d
  | none => false
noncomputable def chkK1 (m g : Nat) : Option Nat → Bool
  | some b => eqO (np_X8_barOf m g) (some b) && chkK2 m g b (np_X3_lowered g b)
  | none => false
noncomputable def chkK (m g : Nat) : Bool := chkK1 m g (np_X3_bar g m)
theorem eqO_s {x : Option Nat} {b : Nat} (h : eqO x (some b) = true) : x = some b := by
  obtain ⟨a, h1, h2⟩ := eqO_t h
  rw [h1, h2]
theorem chkK_t {m g : Nat} (h : chkK m g = true) : ∃ b d, p_X3_bar (lN g) (nI m) = some (nI b) ∧ p_X8_barOf (nI m) (lN g) = some (nI b) ∧ p_X3_lowered (lN g) (nI b) = some (lN d) ∧ p_X8_down (nI m) (lN g) (nI b) = some (lN d) ∧ (b, d) ∈ FT := by
  unfold chkK at h
  cases h1 : np_X3_bar g m with
  | none => rw [h1] at h; exact absurd h (by simp [chkK1])
  | some b =>
    rw [h1] at h
    obtain ⟨h2, h3⟩ := nf_and (show (eqO (np_X8_barOf m g) (some b) && chkK2 m g b (np_X3_lowered g b)) = true from h)
    cases h4 : np_X3_lowered g b with
    | none => rw [h4] at h3; exact absurd h3 (by simp [chkK2])
    | some d =>
      rw [h4] at h3
      obtain ⟨h5, h6⟩ := nf_and (show (eqO (np_X8_down m g b) (some d) && memQ FT b d) = true from h3)
      exact ⟨b, d, by rw [h_p_X3_bar, h1]; rfl, by rw [h_p_X8_barOf, eqO_s h2]; rfl, by rw [h_p_X3_lowered, h4]; rfl, by rw [h_p_X8_down, eqO_s h5]; rfl, memQ_mem h6⟩
/-- with, as a number -/
noncomputable def gW : Option Nat → Nat
  | some h => h
  | none => 0
noncomputable def fW (m b r v : Nat) : Nat := cond (bitB b r) (cond (bitB v r) v (gW (np_X8_with m v r))) v
noncomputable def foldW (m a b k : Nat) : Nat := Nat.rec (motive := fun _ => Nat) a (fun r v => fW m b r v) k
theorem chkW_t {m g r : Nat} (h : chkW m = true) (hg : g ∈ SUBT m) (hr : r < m) (ha : bitB (ALLT m) r = true) : np_X8_with m g r = some (gW (np_X8_with m g r)) ∧ np_X3_with g r m = some (gW (np_X8_with m g r)) ∧ gW (np_X8_with m g r) ∈ SUBT m ∧ (bitB g r = true → gW (np_X8_with m g r) = g) := by
  have h1 := allB_mem (allB_mem h g hg) r (List.mem_range.mpr hr)
  rw [ha] at h1
  have h1 : chkW0 m g r (np_X8_with m g r) = true := h1
  cases h2 : np_X8_with m g r with
  | none => rw [h2] at h1; exact absurd h1 (by simp [chkW0])
  | some h' =>
    rw [h2] at h1
    have h1 : chkW1 m g r h' (np_X3_with g r m) = true := h1
    cases h3 : np_X3_with g r m with
    | none => rw [h3] at h1; exact absurd h1 (by simp [chkW1])
    | some h'' =>
      rw [h3] at h1
      obtain ⟨a, b⟩ := nf_and (show (Nat.beq h' h'' && (memB (SUBT m) h' && (bif bitB g r then Nat.beq h' g else true))) = true from h1)
      obtain ⟨b, c⟩ := nf_and b
      refine ⟨rfl, ?_, memB_mem b, fun hb => ?_⟩
      · rw [← Nat.eq_of_beq_eq_true a]; rfl
      · rw [hb] at c
        exact Nat.eq_of_beq_eq_true c
noncomputable def chkP (m : Nat) : Bool := allB (fun a => allB (fun b => eqO (np_X3_product a b m) (some (foldW m a b m))) (SUBT m)) (SUBT m)
def chkA (m : Nat) : Bool := allB (fun a => allB (fun b => memB (SUBT m) (a &&& b)) (SUBT m)) (SUBT m)
noncomputable def chkU1 (m b g : Nat) : Option Nat → Bool
  | some u => eqO (np_X8_up b g m) (some u) && memB (SUBT m) u
  | none => false
noncomputable def chkU (b g : Nat) : Bool := all63 (fun m => bif Nat.beq (m % b) 0 then chkU1 m b g (np_X3_lifted g b m) else true)
theorem chkU_t {b g m : Nat} (h : chkU b g = true) (h1 : 1 ≤ m) (h2 : m ≤ 63) (h3 : m % b = 0) : ∃ u, p_X3_lifted (lN g) (nI b) (nI m) = some (lN u) ∧ p_X8_up (nI b) (lN g) (nI m) = some (lN u) ∧ u ∈ SUBT m := by
  have h4 := all63_t h h1 h2
  rw [h3] at h4
  have h4 : chkU1 m b g (np_X3_lifted g b m) = true := h4
  cases h5 : np_X3_lifted g b m with
  | none => rw [h5] at h4; exact absurd h4 (by simp [chkU1])
  | some u =>
    rw [h5] at h4
    obtain ⟨a, c⟩ := nf_and (show (eqO (np_X8_up b g m) (some u) && memB (SUBT m) u) = true from h4)
    exact ⟨u, by rw [h_p_X3_lifted, h5]; rfl, by rw [h_p_X8_up, eqO_s a]; rfl, memB_mem c⟩
def lcmB (a b l : Nat) : Bool := Nat.ble 1 l && (Nat.ble l 4000 && (Nat.beq (l % a) 0 && Nat.beq (l % b) 0))
noncomputable def chkL1 (a b : Nat) : Option Nat → Bool
  | some l => eqO (np_X8_multiple a b) (some l) && lcmB a b l
  | none => false
noncomputable def chkL (a b : Nat) : Bool := chkL1 a b (np_X6_leastMultiple a b)
theorem chkL_t {a b : Nat} (h : chkL a b = true) : ∃ l, p_X6_leastMultiple (nI a) (nI b) = some (nI l) ∧ p_X8_multiple (nI a) (nI b) = some (nI l) ∧ 1 ≤ l ∧ l ≤ 4000 ∧ l % a = 0 ∧ l % b = 0 := by
  unfold chkL at h
  cases h5 : np_X6_leastMultiple a b with
  | none => rw [h5] at h; exact absurd h (by simp [chkL1])
  | some u =>
    rw [h5] at h
    obtain ⟨p, q⟩ := nf_and (show (eqO (np_X8_multiple a b) (some u) && lcmB a b u) = true from h)
    obtain ⟨q1, q⟩ := nf_and q
    obtain ⟨q2, q⟩ := nf_and q
    obtain ⟨q3, q4⟩ := nf_and q
    exact ⟨u, by rw [h_p_X6_leastMultiple, h5]; rfl, by rw [h_p_X8_multiple, eqO_s p]; rfl, nf_le q1, nf_le q2, Nat.eq_of_beq_eq_true q3, Nat.eq_of_beq_eq_true q4⟩
noncomputable def powM (m k : Nat) : Option Nat := lpN (fun q : (Nat × Nat) => ns_X8_powers_24 m k q.1 q.2 (fun _ => 0) (fun _ => 0) (fun _ => 0)) pfFU (0, 0)
noncomputable def chkPow1 (m k : Nat) : Option Nat → Bool
  | some u => eqO (powM m k) (some u) && memB (SUBT m) u
  | none => false
noncomputable def chkPow (m : Nat) : Bool := allB (fun k => bif Nat.beq k 0 then true else chkPow1 m k (np_X3_allPowers m k)) (List.range 61)
