theorem ovq_FT : ∀ q ∈ FT, q ∈ ovq0 ∨ q ∈ ovq1 ∨ q ∈ ovq2 ∨ q ∈ ovq3 ∨ q ∈ ovq4 := by decide +kernel
def ON (m : Nat) : Nat := 1 <<< (1 % m)
theorem ovq_one : ∀ m ∈ M63, m = 0 ∨ (m, ON m) ∈ ovq0 ∨ (m, ON m) ∈ ovq1 ∨ (m, ON m) ∈ ovq2 ∨ (m, ON m) ∈ ovq3 ∨ (m, ON m) ∈ ovq4 := by decide +kernel
theorem over_FT {q : Nat × Nat} (hq : q ∈ FT) : ∀ x, chkO q.1 q.2 x = true := by
  intro x
  rcases ovq_FT q hq with h | h | h | h | h
  · exact allQ_mem (tabO0 x) q h
  · exact allQ_mem (tabO1 x) q h
  · exact allQ_mem (tabO2 x) q h
  · exact allQ_mem (tabO3 x) q h
  · exact allQ_mem (tabO4 x) q h
theorem over_one {m : Nat} (h1 : 1 ≤ m) (h2 : m ≤ 63) : ∀ x, chkO m (ON m) x = true := by
  intro x
  rcases ovq_one m (mem63 h2) with h | h | h | h | h | h
  · omega
  · exact allQ_mem (tabO0 x) (m, ON m) h
  · exact allQ_mem (tabO1 x) (m, ON m) h
  · exact allQ_mem (tabO2 x) (m, ON m) h
  · exact allQ_mem (tabO3 x) (m, ON m) h
  · exact allQ_mem (tabO4 x) (m, ON m) h
