/-! what the sims stand on -/
theorem eps_all {α : Type} [Nonempty α] (p : α → Bool) (h : p (Classical.epsilon fun a => ¬ p a = true) = true) : ∀ a, p a = true := by
  intro a
  apply Classical.byContradiction
  intro hn
  exact Classical.epsilon_spec (p := fun a => ¬ p a = true) ⟨a, hn⟩ h
def eqO : Option Nat → Option Nat → Bool
  | some a, some b => Nat.beq a b
  | _, _ => false
theorem eqO_t {x y : Option Nat} (h : eqO x y = true) : ∃ a, x = some a ∧ y = some a := by
  cases x with
  | none => exact absurd h (by simp [eqO])
  | some a =>
    cases y with
    | none => exact absurd h (by simp [eqO])
    | some b => exact ⟨a, rfl, by rw [Nat.eq_of_beq_eq_true (show Nat.beq a b = true from h)]⟩
theorem allB_mem {p : Nat → Bool} : ∀ {l : List Nat}, allB p l = true → ∀ x ∈ l, p x = true := by
  intro l
  induction l with
  | nil => intro _ x hx; exact absurd hx (List.not_mem_nil)
  | cons a l ih =>
    intro h x hx
    have h1 : p a = true := by
      cases hc : p a with
      | true => rfl
      | false => rw [show allB p (a :: l) = (bif p a then allB p l else false) from rfl, hc] at h; simp at h
    rw [show allB p (a :: l) = (bif p a then allB p l else false) from rfl, h1] at h
    rcases List.mem_cons.mp hx with e | e
    · rw [e]; exact h1
    · exact ih h x e
theorem memB_mem : ∀ {l : List Nat} {x : Nat}, memB l x = true → x ∈ l := by
  intro l
  induction l with
  | nil => intro x h; exact absurd h (by simp [memB])
  | cons a l ih =>
    intro x h
    rw [show memB (a :: l) x = (bif Nat.beq a x then true else memB l x) from rfl] at h
    cases hc : Nat.beq a x with
    | true => rw [Nat.eq_of_beq_eq_true hc]; exact List.mem_cons_self
    | false => rw [hc] at h; exact List.mem_cons_of_mem _ (ih h)
def allQ (p : Nat → Nat → Bool) : List (Nat × Nat) → Bool
  | [] => true
  | a :: l => bif p a.1 a.2 then allQ p l else false
theorem allQ_mem {p : Nat → Nat → Bool} : ∀ {l : List (Nat × Nat)}, allQ p l = true → ∀ x ∈ l, p x.1 x.2 = true := by
  intro l
  induction l with
  | nil => intro _ x hx; exact absurd hx (List.not_mem_nil)
  | cons a l ih =>
    intro h x hx
    have h1 : p a.1 a.2 = true := by
      cases hc : p a.1 a.2 with
      | true => rfl
      | false => rw [show allQ p (a :: l) = (bif p a.1 a.2 then allQ p l else false) from rfl, hc] at h; simp at h
    rw [show allQ p (a :: l) = (bif p a.1 a.2 then allQ p l else false) from rfl, h1] at h
    rcases List.mem_cons.mp hx with e | e
    · rw [e]; exact h1
    · exact ih h x e
def M63 : List Nat := List.range 64
theorem mem63 {m : Nat} (h : m ≤ 63) : m ∈ M63 := List.mem_range.mpr (by omega)
def all63 (p : Nat → Bool) : Bool := allB (fun m => bif Nat.beq m 0 then true else p m) M63
theorem all63_t {p : Nat → Bool} (h : all63 p = true) {m : Nat} (h1 : 1 ≤ m) (h2 : m ≤ 63) : p m = true := by
  have := allB_mem h m (mem63 h2)
  rw [beq_f (show m ≠ 0 by omega)] at this
  exact this
theorem lpF_inl {σ β : Type} {f : σ → Option (σ ⊕ β)} {n : Nat} {s s' : σ} (h : f s = some (Sum.inl s')) : lpF f (n + 1) s = lpF f n s' := by rw [lpF, h]
theorem lpF_inr {σ β : Type} {f : σ → Option (σ ⊕ β)} {n : Nat} {s : σ} {b : β} (h : f s = some (Sum.inr b)) : lpF f (n + 1) s = some b := by rw [lpF, h]
theorem lp_for {σ β τ : Type} {f : σ → Option (σ ⊕ β)} (st : Nat → τ → σ) (F : Nat → τ → τ) (out : τ → β) (e : Nat) (P : Nat → τ → Prop)
    (hs : ∀ i t, i < e → P i t → f (st i t) = some (Sum.inl (st (i + 1) (F i t))) ∧ P (i + 1) (F i t)) (hx : ∀ t, P e t → f (st e t) = some (Sum.inr (out t))) :
    ∀ (d i : Nat) (t : τ) (n : Nat), i + d = e → d < n → P i t → ∃ t', lpF f n (st i t) = some (out t') ∧ P e t' := by
  intro d
  induction d with
  | zero =>
    intro i t n h1 h2 hP
    obtain ⟨n, rfl⟩ : ∃ k, n = k + 1 := ⟨n - 1, by omega⟩
    have : i = e := by omega
    subst this
    exact ⟨t, lpF_inr (hx t hP), hP⟩
  | succ d ih =>
    intro i t n h1 h2 hP
    obtain ⟨n, rfl⟩ : ∃ k, n = k + 1 := ⟨n - 1, by omega⟩
    obtain ⟨g1, g2⟩ := hs i t (by omega) hP
    rw [lpF_inl g1]
    exact ih (i + 1) (F i t) n (by omega) (by omega) g2
theorem m_cases (x : Int32) : (∃ m, 1 ≤ m ∧ m ≤ 63 ∧ x = nI m ∧ p_X7_isM x = some 1 ∧ p_X8_isM x = some 1) ∨ (p_X7_isM x = some 0 ∧ p_X8_isM x = some 0) := by
  by_cases h0 : x < 1
  · right
    exact ⟨by unfold p_X7_isM; rw [if_pos h0], by unfold p_X8_isM p_X8_isIn; rw [if_pos h0]; rfl⟩
  · by_cases h1 : (63 : Int32) < x
    · right
      exact ⟨by unfold p_X7_isM; rw [if_neg h0, if_pos h1], by unfold p_X8_isM p_X8_isIn; rw [if_neg h0, if_pos h1]; rfl⟩
    · left
      have hx : ¬ x < 0 := by
        intro h
        apply h0
        rw [Int32.lt_iff_toInt_lt] at h ⊢
        have e1 : (1 : Int32).toInt = 1 := rfl
        have e2 : (0 : Int32).toInt = 0 := rfl
        omega
      obtain ⟨m, hm, rfl⟩ := nI_of hx
      rw [Int32.lt_iff_toInt_lt, nI_toInt hm] at h0 h1
      have e1 : (1 : Int32).toInt = 1 := rfl
      have e2 : (63 : Int32).toInt = 63 := rfl
      refine ⟨m, by omega, by omega, rfl, ?_, ?_⟩
      · unfold p_X7_isM
        rw [if_neg (by rw [Int32.lt_iff_toInt_lt, nI_toInt hm]; omega), if_neg (by rw [Int32.lt_iff_toInt_lt, nI_toInt hm]; omega)]
      · unfold p_X8_isM p_X8_isIn
        rw [if_neg (by rw [Int32.lt_iff_toInt_lt, nI_toInt hm]; omega), if_neg (by rw [Int32.lt_iff_toInt_lt, nI_toInt hm]; omega)]
        rfl
theorem im_congr {j : Nat} {im : Option LImg} {mbar mbar' : Nat → Int32} {mbits mbits' : Nat → Int64} {mmade mmade' mhas mhas' : Nat → Int32} (h : ImOK j im mbar mbits mmade mhas) (h1 : mhas' j = mhas j) (h2 : mmade' (j + 1) = mmade (j + 1)) (h3 : ∀ i, i < 40 → mbar' (40 * (j + 1) + i) = mbar (40 * (j + 1) + i) ∧ mbits' (40 * (j + 1) + i) = mbits (40 * (j + 1) + i)) : ImOK j im mbar' mbits' mmade' mhas' := by
  cases im with
  | none => exact h1.trans h
  | some c =>
    obtain ⟨a1, a2, a3, a4⟩ := h
    exact ⟨h1.trans a1, a2, h2.trans a3, fun i hi => ⟨(h3 i hi).1.trans (a4 i hi).1, (h3 i hi).2.trans (a4 i hi).2⟩⟩
theorem inv_keep {bars groups size im0 im1 im2 bb bg bd bs bf mbar mbits mmade mhas} (hI : Inv bars groups size im0 im1 im2 bb bg bd bs bf mbar mbits mmade mhas) {bars' groups' size' mbar' mbits' mmade'} (hS : InvS bars' groups' size' mbar' mbits' mmade') (h1 : ∀ i, 40 ≤ i → mbar' i = mbar i ∧ mbits' i = mbits i) (h2 : ∀ i, 0 < i → mmade' i = mmade i) : Inv bars' groups' size' im0 im1 im2 bb bg bd bs bf mbar' mbits' mmade' mhas := by
  obtain ⟨_, ⟨a0, a1, a2⟩, hB⟩ := hI
  exact ⟨hS, ⟨im_congr a0 rfl (h2 _ (by omega)) (fun i _ => h1 _ (by omega)), im_congr a1 rfl (h2 _ (by omega)) (fun i _ => h1 _ (by omega)), im_congr a2 rfl (h2 _ (by omega)) (fun i _ => h1 _ (by omega))⟩, hB⟩
theorem inv_0 : Inv (fun _ => (0 : Int32)) (fun _ => (0 : Int64)) (0 : Int32) none none none (fun _ => (0 : Int32)) (fun _ => (0 : Int64)) (fun _ => (0 : Int32)) (0 : Int32) (0 : Int32) (fun _ => (0 : Int32)) (fun _ => (0 : Int64)) (fun _ => (0 : Int32)) (fun _ => (0 : Int32)) := by
  have h : LTP 0 = [] := by decide +kernel
  refine ⟨⟨⟨0, rfl, by decide, fun i hi => absurd hi (by omega)⟩, rfl, fun i _ => ⟨rfl, rfl⟩⟩, ⟨rfl, rfl, rfl⟩, 0, by decide, rfl, by rw [h]; rfl, ?_⟩
  intro i q hq
  rw [h] at hq
  simp at hq
