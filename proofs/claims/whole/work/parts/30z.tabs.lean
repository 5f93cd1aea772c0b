theorem allQ_app {p : Nat → Nat → Bool} {l2 : List (Nat × Nat)} (h2 : allQ p l2 = true) : ∀ {l1 : List (Nat × Nat)}, allQ p l1 = true → allQ p (l1 ++ l2) = true := by
  intro l1
  induction l1 with
  | nil => intro _; exact h2
  | cons a l ih =>
    intro h
    show (bif p a.1 a.2 then allQ p (l ++ l2) else false) = true
    have h : (bif p a.1 a.2 then allQ p l else false) = true := h
    cases hc : p a.1 a.2 with
    | false => rw [hc] at h; exact absurd (show false = true from h) (by decide)
    | true => rw [hc] at h; exact ih h
def ovqA : List (Nat × Nat) := (ovq0 ++ (ovq1 ++ (ovq2 ++ (ovq3 ++ (ovq4 ++ (ovq5 ++ (ovq6 ++ (ovq7 ++ (ovq8 ++ (ovq9 ++ (ovq10 ++ (ovq11 ++ (ovq12 ++ (ovq13 ++ (ovq14 ++ (ovq15 ++ (ovq16 ++ (ovq17 ++ (ovq18 ++ (ovq19 ++ (ovq20 ++ (ovq21 ++ (ovq22 ++ (ovq23 ++ (ovq24 ++ (ovq25 ++ (ovq26 ++ (ovq27 ++ ovq28))))))))))))))))))))))))))))
theorem ovq_FT : ∀ q ∈ FT, q ∈ ovqA := by decide +kernel
def ON (m : Nat) : Nat := 1 <<< (1 % m)
theorem ovq_one : ∀ m ∈ M63, m = 0 ∨ (m, ON m) ∈ ovqA := by decide +kernel
theorem ovq_all (x : (Nat → Nat) × (Nat → Nat)) : allQ (fun m g => chkO m g x) ovqA = true := (allQ_app (allQ_app (allQ_app (allQ_app (allQ_app (allQ_app (allQ_app (allQ_app (allQ_app (allQ_app (allQ_app (allQ_app (allQ_app (allQ_app (allQ_app (allQ_app (allQ_app (allQ_app (allQ_app (allQ_app (allQ_app (allQ_app (allQ_app (allQ_app (allQ_app (allQ_app (allQ_app (allQ_app (tabO28 x) (tabO27 x)) (tabO26 x)) (tabO25 x)) (tabO24 x)) (tabO23 x)) (tabO22 x)) (tabO21 x)) (tabO20 x)) (tabO19 x)) (tabO18 x)) (tabO17 x)) (tabO16 x)) (tabO15 x)) (tabO14 x)) (tabO13 x)) (tabO12 x)) (tabO11 x)) (tabO10 x)) (tabO9 x)) (tabO8 x)) (tabO7 x)) (tabO6 x)) (tabO5 x)) (tabO4 x)) (tabO3 x)) (tabO2 x)) (tabO1 x)) (tabO0 x))
theorem over_FT {q : Nat × Nat} (hq : q ∈ FT) : ∀ x, chkO q.1 q.2 x = true := fun x => allQ_mem (ovq_all x) q (ovq_FT q hq)
theorem over_one {m : Nat} (h1 : 1 ≤ m) (h2 : m ≤ 63) : ∀ x, chkO m (ON m) x = true := by
  intro x
  rcases ovq_one m (mem63 h2) with h | h
  · omega
  · exact allQ_mem (ovq_all x) (m, ON m) h
