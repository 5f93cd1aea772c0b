/-! the GROUPS above a GROUP: one row on both sides -/
noncomputable def sameArr (m : Nat) (F G : Nat → Nat) (n : Nat) : Bool := Nat.rec (motive := fun _ => Bool) true (fun i b => cond (Nat.beq (F i) (G i)) (cond (memB (SUBT m) (F i)) b false) false) n
theorem sameArr_t {m : Nat} {F G : Nat → Nat} : ∀ {n : Nat}, sameArr m F G n = true → ∀ i, i < n → F i = G i ∧ F i ∈ SUBT m := by
  intro n
  induction n with
  | zero => intro _ i hi; omega
  | succ n ih =>
    intro h i hi
    have h : cond (Nat.beq (F n) (G n)) (cond (memB (SUBT m) (F n)) (sameArr m F G n) false) false = true := h
    cases h1 : Nat.beq (F n) (G n) with
    | false => rw [h1] at h; exact absurd (show false = true from h) (by decide)
    | true =>
      rw [h1] at h
      cases h2 : memB (SUBT m) (F n) with
      | false => rw [h2] at h; exact absurd (show false = true from h) (by decide)
      | true =>
        rw [h2] at h
        rcases Nat.lt_or_ge i n with h3 | h3
        · exact ih h i h3
        · have : i = n := by omega
          subst this
          exact ⟨Nat.eq_of_beq_eq_true h1, memB_mem h2⟩
noncomputable def chkO2 (m : Nat) (F : Nat → Nat) (n : Nat) : Option ((Nat → Nat) × Nat) → Bool
  | some G => Nat.beq n G.2 && (Nat.ble n 64 && sameArr m F G.1 n)
  | none => false
noncomputable def chkO1 (m g : Nat) (f2 : Nat → Nat) : Option ((Nat → Nat) × Nat) → Bool
  | some F => chkO2 m F.1 F.2 (np_X8_between f2 0 m g)
  | none => false
noncomputable def chkO (m g : Nat) (x : (Nat → Nat) × (Nat → Nat)) : Bool := chkO1 m g x.2 (np_X0_find x.1 0 g m)
theorem chkO_t {m g : Nat} (h : ∀ x, chkO m g x = true) (f1 : Nat → Int64) (s1 : Int32) (f2 : Nat → Int64) (s2 : Int32) : ∃ (n : Nat) (u : Nat → Nat) (F G : Nat → Int64), n ≤ 64 ∧ p_X0_find f1 s1 (lN g) (nI m) = some (F, nI n) ∧ p_X8_between f2 s2 (nI m) (lN g) = some (G, nI n) ∧ ∀ i, i < n → u i ∈ SUBT m ∧ F i = lN (u i) ∧ G i = lN (u i) := by
  have h := h (fun i => u64 (f1 i), fun i => u64 (f2 i))
  have e1 : p_X0_find f1 s1 (lN g) (nI m) = Option.map (cP nB nI) (np_X0_find (fun i => u64 (f1 i)) 0 g m) := by
    rw [← h_p_X0_find, nB_u]; rfl
  have e2 : p_X8_between f2 s2 (nI m) (lN g) = Option.map (cP nB nI) (np_X8_between (fun i => u64 (f2 i)) 0 m g) := by
    rw [← h_p_X8_between, nB_u]; rfl
  unfold chkO at h
  cases h1 : np_X0_find (fun i => u64 (f1 i)) 0 g m with
  | none => rw [show np_X0_find (fun i => u64 (f1 i), fun i => u64 (f2 i)).1 0 g m = none from h1] at h; exact absurd h (by simp [chkO1])
  | some F =>
    rw [show np_X0_find (fun i => u64 (f1 i), fun i => u64 (f2 i)).1 0 g m = some F from h1] at h
    have h : chkO2 m F.1 F.2 (np_X8_between (fun i => u64 (f2 i)) 0 m g) = true := h
    cases h2 : np_X8_between (fun i => u64 (f2 i)) 0 m g with
    | none => rw [h2] at h; exact absurd h (by simp [chkO2])
    | some G =>
      rw [h2] at h
      obtain ⟨a, b⟩ := nf_and (show (Nat.beq F.2 G.2 && (Nat.ble F.2 64 && sameArr m F.1 G.1 F.2)) = true from h)
      obtain ⟨b, c⟩ := nf_and b
      have hs := sameArr_t c
      refine ⟨F.2, F.1, nB F.1, nB G.1, nf_le b, by rw [e1, h1]; rfl, by rw [e2, h2, Nat.eq_of_beq_eq_true a]; rfl, fun i hi => ⟨(hs i hi).2, rfl, ?_⟩⟩
      show lN (G.1 i) = lN (F.1 i)
      rw [(hs i hi).1]
