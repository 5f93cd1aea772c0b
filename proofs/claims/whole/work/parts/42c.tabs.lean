def suq20 : List (Nat × Nat × Nat) := [(44, 9517681607330, 2), (45, 655618, 6), (45, 17592253677570, 6)]
theorem tabS20 : ∀ x : SX, allT x suq20 = true := eps_all (fun x => allT x suq20) (by decide +kernel)
def suq21 : List (Nat × Nat × Nat) := [(47, 4626135339998, 2), (48, 130, 8), (48, 8388610, 8)]
theorem tabS21 : ∀ x : SX, allT x suq21 = true := eps_all (fun x => allT x suq21) (by decide +kernel)
def suq22 : List (Nat × Nat × Nat) := [(48, 2147483650, 8), (48, 2199023255554, 8), (48, 2201179127810, 4)]
theorem tabS22 : ∀ x : SX, allT x suq22 = true := eps_all (fun x => allT x suq22) (by decide +kernel)
def suq23 : List (Nat × Nat × Nat) := [(48, 140737488355330, 8), (48, 142936511611010, 4), (49, 281478198722562, 7)]
theorem tabS23 : ∀ x : SX, allT x suq23 = true := eps_all (fun x => allT x suq23) (by decide +kernel)
def suq24 : List (Nat × Nat × Nat) := [(51, 73746, 8), (51, 4362150166, 4), (51, 141012366327810, 8)]
theorem tabS24 : ∀ x : SX, allT x suq24 = true := eps_all (fun x => allT x suq24) (by decide +kernel)
def suq25 : List (Nat × Nat × Nat) := [(51, 571746080595986, 4), (51, 591537836222514, 2), (52, 35651618, 6)]
theorem tabS25 : ∀ x : SX, allT x suq25 = true := eps_all (fun x => allT x suq25) (by decide +kernel)
def suq26 : List (Nat × Nat × Nat) := [(52, 536871426, 8), (52, 140739669393410, 6), (52, 562950523978242, 4)]
theorem tabS26 : ∀ x : SX, allT x suq26 = true := eps_all (fun x => allT x suq26) (by decide +kernel)
def suq27 : List (Nat × Nat × Nat) := [(52, 703690160376450, 2), (52, 2260596451967490, 4), (53, 796115423306754, 4)]
theorem tabS27 : ∀ x : SX, allT x suq27 = true := eps_all (fun x => allT x suq27) (by decide +kernel)
def suq28 : List (Nat × Nat × Nat) := [(53, 5310023542746834, 2), (55, 70934134786, 8), (55, 563038067442194, 4)]
theorem tabS28 : ∀ x : SX, allT x suq28 = true := eps_all (fun x => allT x suq28) (by decide +kernel)
def suq29 : List (Nat × Nat × Nat) := [(55, 5075438351639446, 2), (55, 18015019753603074, 4), (56, 33554946, 8)]
theorem tabS29 : ∀ x : SX, allT x suq29 = true := eps_all (fun x => allT x suq29) (by decide +kernel)
