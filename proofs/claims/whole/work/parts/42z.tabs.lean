theorem allT_app {x : SX} {l2 : List (Nat × Nat × Nat)} (h2 : allT x l2 = true) : ∀ {l1 : List (Nat × Nat × Nat)}, allT x l1 = true → allT x (l1 ++ l2) = true := by
  intro l1
  induction l1 with
  | nil => intro _; exact h2
  | cons a l ih =>
    intro h
    show (bif chkS a.1 a.2.1 a.2.2 x then allT x (l ++ l2) else false) = true
    have h : (bif chkS a.1 a.2.1 a.2.2 x then allT x l else false) = true := h
    cases hc : chkS a.1 a.2.1 a.2.2 x with
    | false => rw [hc] at h; exact absurd (show false = true from h) (by decide)
    | true => rw [hc] at h; exact ih h
def suqA : List (Nat × Nat × Nat) := (suq0 ++ (suq1 ++ (suq2 ++ (suq3 ++ (suq4 ++ (suq5 ++ (suq6 ++ (suq7 ++ (suq8 ++ (suq9 ++ (suq10 ++ (suq11 ++ (suq12 ++ (suq13 ++ (suq14 ++ (suq15 ++ (suq16 ++ (suq17 ++ (suq18 ++ (suq19 ++ (suq20 ++ (suq21 ++ (suq22 ++ (suq23 ++ (suq24 ++ (suq25 ++ (suq26 ++ (suq27 ++ (suq28 ++ (suq29 ++ (suq30 ++ (suq31 ++ (suq32 ++ (suq33 ++ (suq34 ++ (suq35 ++ (suq36 ++ (suq37 ++ (suq38 ++ (suq39 ++ (suq40 ++ (suq41 ++ (suq42 ++ (suq43 ++ (suq44 ++ (suq45 ++ (suq46 ++ (suq47 ++ suq48))))))))))))))))))))))))))))))))))))))))))))))))
theorem suq_LT : ∀ q ∈ LT, q ∈ suqA := by decide +kernel
theorem t_Su (x : SX) : ∀ q ∈ LT, chkS q.1 q.2.1 q.2.2 x = true := fun q hq => allT_mem (show allT x suqA = true from (allT_app (allT_app (allT_app (allT_app (allT_app (allT_app (allT_app (allT_app (allT_app (allT_app (allT_app (allT_app (allT_app (allT_app (allT_app (allT_app (allT_app (allT_app (allT_app (allT_app (allT_app (allT_app (allT_app (allT_app (allT_app (allT_app (allT_app (allT_app (allT_app (allT_app (allT_app (allT_app (allT_app (allT_app (allT_app (allT_app (allT_app (allT_app (allT_app (allT_app (allT_app (allT_app (allT_app (allT_app (allT_app (allT_app (allT_app (allT_app (tabS48 x) (tabS47 x)) (tabS46 x)) (tabS45 x)) (tabS44 x)) (tabS43 x)) (tabS42 x)) (tabS41 x)) (tabS40 x)) (tabS39 x)) (tabS38 x)) (tabS37 x)) (tabS36 x)) (tabS35 x)) (tabS34 x)) (tabS33 x)) (tabS32 x)) (tabS31 x)) (tabS30 x)) (tabS29 x)) (tabS28 x)) (tabS27 x)) (tabS26 x)) (tabS25 x)) (tabS24 x)) (tabS23 x)) (tabS22 x)) (tabS21 x)) (tabS20 x)) (tabS19 x)) (tabS18 x)) (tabS17 x)) (tabS16 x)) (tabS15 x)) (tabS14 x)) (tabS13 x)) (tabS12 x)) (tabS11 x)) (tabS10 x)) (tabS9 x)) (tabS8 x)) (tabS7 x)) (tabS6 x)) (tabS5 x)) (tabS4 x)) (tabS3 x)) (tabS2 x)) (tabS1 x)) (tabS0 x))) q (suq_LT q hq)
