def signN (r d : Nat) : Nat := bif Nat.beq r 0 then (bif Nat.beq (d / 2 % 2) 1 then 4294967295 else 1) else 1
noncomputable def chkD (m g : Nat) : Bool :=
  wO (np_X8_degree m g) fun d => wO (np_X8_isReal m g) fun r => wO (np_X8_isCyclic m g) fun c =>
    eqO (np_X3_degree g m) (some d) && (eqO (np_X3_isReal g m) (some r) && (eqO (np_X3_isCyclic g m) (some c) && (eqO (np_X3_sign g m) (some (signN r d)) && ((Nat.ble 1 d && Nat.ble d 60) && ((Nat.ble r 1 && Nat.ble c 1) && (bif Nat.beq c 0 then eqO (np_X3_characters g m) (some 0) else wO (np_X8_prime0 d) fun ch => eqO (np_X3_characters g m) (some ch) && Nat.ble ch 60))))))
theorem chkD_t {m g : Nat} (h : chkD m g = true) : ∃ d r c ch, p_X8_degree (nI m) (lN g) = some (nI d) ∧ p_X3_degree (lN g) (nI m) = some (nI d) ∧ p_X8_isReal (nI m) (lN g) = some (nI r) ∧ p_X3_isReal (lN g) (nI m) = some (nI r) ∧ p_X8_isCyclic (nI m) (lN g) = some (nI c) ∧ p_X3_isCyclic (lN g) (nI m) = some (nI c) ∧ p_X3_sign (lN g) (nI m) = some (nI (signN r d)) ∧ 1 ≤ d ∧ d ≤ 60 ∧ r ≤ 1 ∧ c ≤ 1 ∧ ch ≤ 60 ∧ p_X3_characters (lN g) (nI m) = some (nI ch) ∧ (c = 0 → ch = 0) ∧ (c ≠ 0 → p_X8_prime0 (nI d) = some (nI ch)) := by
  obtain ⟨d, d1, h⟩ := wO_t h
  obtain ⟨r, r1, h⟩ := wO_t h
  obtain ⟨c, c1, h⟩ := wO_t h
  obtain ⟨x1, h⟩ := nf_and h
  obtain ⟨x2, h⟩ := nf_and h
  obtain ⟨x3, h⟩ := nf_and h
  obtain ⟨x4, h⟩ := nf_and h
  obtain ⟨x5, h⟩ := nf_and h
  obtain ⟨x6, h⟩ := nf_and h
  obtain ⟨x5, x7⟩ := nf_and x5
  obtain ⟨x6, x8⟩ := nf_and x6
  have hd : ∃ ch, ch ≤ 60 ∧ p_X3_characters (lN g) (nI m) = some (nI ch) ∧ (c = 0 → ch = 0) ∧ (c ≠ 0 → p_X8_prime0 (nI d) = some (nI ch)) := by
    cases hc : Nat.beq c 0 with
    | true =>
      rw [hc] at h
      exact ⟨0, by decide, by rw [h_p_X3_characters, eqO_s h]; rfl, fun _ => rfl, fun q => absurd (Nat.eq_of_beq_eq_true hc) q⟩
    | false =>
      rw [hc] at h
      obtain ⟨ch, y1, y2⟩ := wO_t (show wO (np_X8_prime0 d) (fun ch => eqO (np_X3_characters g m) (some ch) && Nat.ble ch 60) = true from h)
      obtain ⟨y2, y3⟩ := nf_and y2
      exact ⟨ch, nf_le y3, by rw [h_p_X3_characters, eqO_s y2]; rfl, fun q => by rw [q] at hc; exact absurd hc (by decide), fun _ => by rw [h_p_X8_prime0, y1]; rfl⟩
  obtain ⟨ch, z1, z2, z3, z4⟩ := hd
  exact ⟨d, r, c, ch, by rw [h_p_X8_degree, d1]; rfl, by rw [h_p_X3_degree, eqO_s x1]; rfl, by rw [h_p_X8_isReal, r1]; rfl, by rw [h_p_X3_isReal, eqO_s x2]; rfl, by rw [h_p_X8_isCyclic, c1]; rfl, by rw [h_p_X3_isCyclic, eqO_s x3]; rfl, by rw [h_p_X3_sign, eqO_s x4]; rfl, nf_le x5, nf_le x7, nf_le x6, nf_le x8, z1, z2, z3, z4⟩
