def ovq24 : List (Nat × Nat) := [(63, 2), (63, 4295033110)]
theorem tabO24 : ∀ x : (Nat → Nat) × (Nat → Nat), allQ (fun m g => chkO m g x) ovq24 = true := eps_all (fun x => allQ (fun m g => chkO m g x) ovq24) (by decide +kernel)
def ovq25 : List (Nat × Nat) := [(63, 65554), (63, 4899916669490561058), (63, 258), (63, 288230376193657090), (63, 4611756524677758978)]
theorem tabO25 : ∀ x : (Nat → Nat) × (Nat → Nat), allQ (fun m g => chkO m g x) ovq25 = true := eps_all (fun x => allQ (fun m g => chkO m g x) ovq25) (by decide +kernel)
def ovq26 : List (Nat × Nat) := [(63, 288230376185266178), (63, 2341871808380207122), (63, 70506183131138), (63, 328763872343228418), (63, 9095297623916802)]
theorem tabO26 : ∀ x : (Nat → Nat) × (Nat → Nat), allQ (fun m g => chkO m g x) ovq26 = true := eps_all (fun x => allQ (fun m g => chkO m g x) ovq26) (by decide +kernel)
def ovq27 : List (Nat × Nat) := [(63, 5188287508219232274), (63, 36028797018963970), (63, 4611686018427387906), (63, 7530159320894341398), (63, 4940450165656914210)]
theorem tabO27 : ∀ x : (Nat → Nat) × (Nat → Nat), allQ (fun m g => chkO m g x) ovq27 = true := eps_all (fun x => allQ (fun m g => chkO m g x) ovq27) (by decide +kernel)
def ovq28 : List (Nat × Nat) := [(63, 4647714815446352130)]
theorem tabO28 : ∀ x : (Nat → Nat) × (Nat → Nat), allQ (fun m g => chkO m g x) ovq28 = true := eps_all (fun x => allQ (fun m g => chkO m g x) ovq28) (by decide +kernel)
