theorem ovq_FT : ∀ q ∈ FT, q ∈ ovq0 ∨ q ∈ ovq1 ∨ q ∈ ovq2 ∨ q ∈ ovq3 ∨ q ∈ ovq4 ∨ q ∈ ovq5 ∨ q ∈ ovq6 ∨ q ∈ ovq7 ∨ q ∈ ovq8 ∨ q ∈ ovq9 ∨ q ∈ ovq10 ∨ q ∈ ovq11 ∨ q ∈ ovq12 ∨ q ∈ ovq13 ∨ q ∈ ovq14 ∨ q ∈ ovq15 ∨ q ∈ ovq16 ∨ q ∈ ovq17 ∨ q ∈ ovq18 ∨ q ∈ ovq19 ∨ q ∈ ovq20 ∨ q ∈ ovq21 ∨ q ∈ ovq22 ∨ q ∈ ovq23 ∨ q ∈ ovq24 ∨ q ∈ ovq25 ∨ q ∈ ovq26 ∨ q ∈ ovq27 ∨ q ∈ ovq28 := by decide +kernel
def ON (m : Nat) : Nat := 1 <<< (1 % m)
theorem ovq_one : ∀ m ∈ M63, m = 0 ∨ (m, ON m) ∈ ovq0 ∨ (m, ON m) ∈ ovq1 ∨ (m, ON m) ∈ ovq2 ∨ (m, ON m) ∈ ovq3 ∨ (m, ON m) ∈ ovq4 ∨ (m, ON m) ∈ ovq5 ∨ (m, ON m) ∈ ovq6 ∨ (m, ON m) ∈ ovq7 ∨ (m, ON m) ∈ ovq8 ∨ (m, ON m) ∈ ovq9 ∨ (m, ON m) ∈ ovq10 ∨ (m, ON m) ∈ ovq11 ∨ (m, ON m) ∈ ovq12 ∨ (m, ON m) ∈ ovq13 ∨ (m, ON m) ∈ ovq14 ∨ (m, ON m) ∈ ovq15 ∨ (m, ON m) ∈ ovq16 ∨ (m, ON m) ∈ ovq17 ∨ (m, ON m) ∈ ovq18 ∨ (m, ON m) ∈ ovq19 ∨ (m, ON m) ∈ ovq20 ∨ (m, ON m) ∈ ovq21 ∨ (m, ON m) ∈ ovq22 ∨ (m, ON m) ∈ ovq23 ∨ (m, ON m) ∈ ovq24 ∨ (m, ON m) ∈ ovq25 ∨ (m, ON m) ∈ ovq26 ∨ (m, ON m) ∈ ovq27 ∨ (m, ON m) ∈ ovq28 := by decide +kernel
theorem over_FT {q : Nat × Nat} (hq : q ∈ FT) : ∀ x, chkO q.1 q.2 x = true := by
  intro x
  rcases ovq_FT q hq with h | h | h | h | h | h | h | h | h | h | h | h | h | h | h | h | h | h | h | h | h | h | h | h | h | h | h | h | h
  · exact allQ_mem (tabO0 x) q h
  · exact allQ_mem (tabO1 x) q h
  · exact allQ_mem (tabO2 x) q h
  · exact allQ_mem (tabO3 x) q h
  · exact allQ_mem (tabO4 x) q h
  · exact allQ_mem (tabO5 x) q h
  · exact allQ_mem (tabO6 x) q h
  · exact allQ_mem (tabO7 x) q h
  · exact allQ_mem (tabO8 x) q h
  · exact allQ_mem (tabO9 x) q h
  · exact allQ_mem (tabO10 x) q h
  · exact allQ_mem (tabO11 x) q h
  · exact allQ_mem (tabO12 x) q h
  · exact allQ_mem (tabO13 x) q h
  · exact allQ_mem (tabO14 x) q h
  · exact allQ_mem (tabO15 x) q h
  · exact allQ_mem (tabO16 x) q h
  · exact allQ_mem (tabO17 x) q h
  · exact allQ_mem (tabO18 x) q h
  · exact allQ_mem (tabO19 x) q h
  · exact allQ_mem (tabO20 x) q h
  · exact allQ_mem (tabO21 x) q h
  · exact allQ_mem (tabO22 x) q h
  · exact allQ_mem (tabO23 x) q h
  · exact allQ_mem (tabO24 x) q h
  · exact allQ_mem (tabO25 x) q h
  · exact allQ_mem (tabO26 x) q h
  · exact allQ_mem (tabO27 x) q h
  · exact allQ_mem (tabO28 x) q h
theorem over_one {m : Nat} (h1 : 1 ≤ m) (h2 : m ≤ 63) : ∀ x, chkO m (ON m) x = true := by
  intro x
  rcases ovq_one m (mem63 h2) with h | h | h | h | h | h | h | h | h | h | h | h | h | h | h | h | h | h | h | h | h | h | h | h | h | h | h | h | h | h
  · omega
  · exact allQ_mem (tabO0 x) (m, ON m) h
  · exact allQ_mem (tabO1 x) (m, ON m) h
  · exact allQ_mem (tabO2 x) (m, ON m) h
  · exact allQ_mem (tabO3 x) (m, ON m) h
  · exact allQ_mem (tabO4 x) (m, ON m) h
  · exact allQ_mem (tabO5 x) (m, ON m) h
  · exact allQ_mem (tabO6 x) (m, ON m) h
  · exact allQ_mem (tabO7 x) (m, ON m) h
  · exact allQ_mem (tabO8 x) (m, ON m) h
  · exact allQ_mem (tabO9 x) (m, ON m) h
  · exact allQ_mem (tabO10 x) (m, ON m) h
  · exact allQ_mem (tabO11 x) (m, ON m) h
  · exact allQ_mem (tabO12 x) (m, ON m) h
  · exact allQ_mem (tabO13 x) (m, ON m) h
  · exact allQ_mem (tabO14 x) (m, ON m) h
  · exact allQ_mem (tabO15 x) (m, ON m) h
  · exact allQ_mem (tabO16 x) (m, ON m) h
  · exact allQ_mem (tabO17 x) (m, ON m) h
  · exact allQ_mem (tabO18 x) (m, ON m) h
  · exact allQ_mem (tabO19 x) (m, ON m) h
  · exact allQ_mem (tabO20 x) (m, ON m) h
  · exact allQ_mem (tabO21 x) (m, ON m) h
  · exact allQ_mem (tabO22 x) (m, ON m) h
  · exact allQ_mem (tabO23 x) (m, ON m) h
  · exact allQ_mem (tabO24 x) (m, ON m) h
  · exact allQ_mem (tabO25 x) (m, ON m) h
  · exact allQ_mem (tabO26 x) (m, ON m) h
  · exact allQ_mem (tabO27 x) (m, ON m) h
  · exact allQ_mem (tabO28 x) (m, ON m) h
