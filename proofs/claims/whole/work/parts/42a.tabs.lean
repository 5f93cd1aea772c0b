def suq0 : List (Nat × Nat × Nat) := [(1, 1, 1), (3, 2, 2), (4, 2, 2), (5, 2, 4), (5, 18, 2), (7, 2, 6), (7, 22, 2), (7, 66, 3), (8, 2, 4), (8, 10, 2), (8, 130, 2), (9, 2, 6), (9, 258, 3), (11, 570, 2), (11, 1026, 5), (12, 2, 4)]
theorem tabS0 : ∀ x : SX, allT x suq0 = true := eps_all (fun x => allT x suq0) (by decide +kernel)
def suq1 : List (Nat × Nat × Nat) := [(12, 2050, 2), (13, 522, 4), (13, 4098, 6), (13, 4386, 3), (13, 5658, 2), (15, 2, 8), (15, 18, 4), (15, 278, 2), (15, 16386, 4), (16, 2, 8)]
theorem tabS1 : ∀ x : SX, allT x suq1 = true := eps_all (fun x => allT x suq1) (by decide +kernel)
def suq2 : List (Nat × Nat × Nat) := [(16, 130, 4), (16, 32770, 4), (17, 65538, 8), (17, 73746, 4), (17, 107286, 2), (19, 2178, 6), (19, 199410, 2), (19, 268674, 3)]
theorem tabS2 : ∀ x : SX, allT x suq2 = true := eps_all (fun x => allT x suq2) (by decide +kernel)
def suq3 : List (Nat × Nat × Nat) := [(20, 2, 8), (20, 514, 4), (20, 650, 2), (20, 524290, 4), (21, 8194, 6), (21, 65554, 4), (21, 1048578, 6)]
theorem tabS3 : ∀ x : SX, allT x suq3 = true := eps_all (fun x => allT x suq3) (by decide +kernel)
def suq4 : List (Nat × Nat × Nat) := [(21, 1245234, 2), (23, 340830, 2), (24, 2, 8), (24, 34, 4), (24, 130, 4), (24, 2050, 4)]
theorem tabS4 : ∀ x : SX, allT x suq4 = true := eps_all (fun x => allT x suq4) (by decide +kernel)
def suq5 : List (Nat × Nat × Nat) := [(24, 2210, 2), (24, 524290, 4), (24, 8388610, 4), (24, 8912930, 2), (25, 17039490, 5), (28, 8194, 6)]
theorem tabS5 : ∀ x : SX, allT x suq5 = true := eps_all (fun x => allT x suq5) (by decide +kernel)
def suq6 : List (Nat × Nat × Nat) := [(28, 33554946, 4), (28, 134217730, 6), (28, 168296970, 2), (29, 59834498, 4), (29, 268570626, 7)]
theorem tabS6 : ∀ x : SX, allT x suq6 = true := eps_all (fun x => allT x suq6) (by decide +kernel)
def suq7 : List (Nat × Nat × Nat) := [(29, 332473074, 2), (31, 65814, 6), (31, 303908790, 2), (31, 1174405218, 5), (31, 1753317654, 3)]
theorem tabS7 : ∀ x : SX, allT x suq7 = true := eps_all (fun x => allT x suq7) (by decide +kernel)
def suq8 : List (Nat × Nat × Nat) := [(32, 32770, 8), (32, 2147483650, 8), (33, 2181103634, 4), (33, 7013073174, 2)]
theorem tabS8 : ∀ x : SX, allT x suq8 = true := eps_all (fun x => allT x suq8) (by decide +kernel)
def suq9 : List (Nat × Nat × Nat) := [(35, 67586, 8), (35, 536939026, 4), (35, 671096834, 6), (35, 9261234714, 2)]
theorem tabS9 : ∀ x : SX, allT x suq9 = true := eps_all (fun x => allT x suq9) (by decide +kernel)
