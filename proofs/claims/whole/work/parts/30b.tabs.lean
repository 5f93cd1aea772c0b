def ovq8 : List (Nat × Nat) := [(48, 2), (48, 130), (48, 8388610), (48, 2147483650), (48, 2199023255554), (48, 140737488355330), (48, 142936511611010), (48, 2201179127810), (49, 2)]
theorem tabO8 : ∀ x : (Nat → Nat) × (Nat → Nat), allQ (fun m g => chkO m g x) ovq8 = true := eps_all (fun x => allQ (fun m g => chkO m g x) ovq8) (by decide +kernel)
def ovq9 : List (Nat × Nat) := [(49, 1074003970), (49, 281478198722562), (49, 281474976710658), (50, 2), (51, 2), (51, 4362150166), (51, 73746), (51, 591537836222514)]
theorem tabO9 : ∀ x : (Nat → Nat) × (Nat → Nat), allQ (fun m g => chkO m g x) ovq9 = true := eps_all (fun x => allQ (fun m g => chkO m g x) ovq9) (by decide +kernel)
def ovq10 : List (Nat × Nat) := [(51, 65538), (51, 571746080595986), (51, 141012366327810), (51, 1125899906842626), (52, 2), (52, 35651618), (52, 703690160376450)]
theorem tabO10 : ∀ x : (Nat → Nat) × (Nat → Nat), allQ (fun m g => chkO m g x) ovq10 = true := eps_all (fun x => allQ (fun m g => chkO m g x) ovq10) (by decide +kernel)
def ovq11 : List (Nat × Nat) := [(52, 536871426), (52, 562950523978242), (52, 2260596451967490), (52, 33554434), (52, 140739669393410), (52, 2251799813685250), (53, 2), (53, 5310023542746834), (53, 796115423306754)]
theorem tabO11 : ∀ x : (Nat → Nat) × (Nat → Nat), allQ (fun m g => chkO m g x) ovq11 = true := eps_all (fun x => allQ (fun m g => chkO m g x) ovq11) (by decide +kernel)
def ovq12 : List (Nat × Nat) := [(53, 4503600709500930), (53, 4503599627370498), (54, 2), (55, 2), (55, 5075438351639446), (55, 563038067442194)]
theorem tabO12 : ∀ x : (Nat → Nat) × (Nat → Nat), allQ (fun m g => chkO m g x) ovq12 = true := eps_all (fun x => allQ (fun m g => chkO m g x) ovq12) (by decide +kernel)
def ovq13 : List (Nat × Nat) := [(55, 70934134786), (55, 18015019753603074), (55, 2097154), (55, 8817567858690), (55, 17179869186)]
theorem tabO13 : ∀ x : (Nat → Nat) × (Nat → Nat), allQ (fun m g => chkO m g x) ovq13 = true := eps_all (fun x => allQ (fun m g => chkO m g x) ovq13) (by decide +kernel)
def ovq14 : List (Nat × Nat) := [(55, 18014398509481986), (55, 18014415691448322), (56, 2), (56, 168296970)]
theorem tabO14 : ∀ x : (Nat → Nat) × (Nat → Nat), allQ (fun m g => chkO m g x) ovq14 = true := eps_all (fun x => allQ (fun m g => chkO m g x) ovq14) (by decide +kernel)
def ovq15 : List (Nat × Nat) := [(56, 35184405652002), (56, 33554946), (56, 2260595940264450), (56, 8194), (56, 32770), (56, 549797790210)]
theorem tabO15 : ∀ x : (Nat → Nat) × (Nat → Nat), allQ (fun m g => chkO m g x) ovq15 = true := eps_all (fun x => allQ (fun m g => chkO m g x) ovq15) (by decide +kernel)
