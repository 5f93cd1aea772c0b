/-! words that several of the sims use -/
def wO {α : Type} (x : Option α) (k : α → Bool) : Bool := match x with
  | some a => k a
  | none => false
theorem wO_t {α : Type} {x : Option α} {k : α → Bool} (h : wO x k = true) : ∃ a, x = some a ∧ k a = true := by
  cases x with
  | none => exact absurd h (by simp [wO])
  | some a => exact ⟨a, rfl, h⟩
theorem nB_u (f : Nat → Int64) : nB (fun i => u64 (f i)) = f := by
  funext i; exact lN_u _
theorem nA_u (f : Nat → Int32) : nA (fun i => u32 (f i)) = f := by
  funext i; exact nI_u _
