def suq40 : List (Nat × Nat × Nat) := [(60, 577023702256846850, 4), (60, 586039697604741250, 2)]
theorem tabS40 : ∀ x : SX, allT x suq40 = true := eps_all (fun x => allT x suq40) (by decide +kernel)
def suq41 : List (Nat × Nat × Nat) := [(61, 504548311019139586, 4), (61, 1154470721324345346, 5)]
theorem tabS41 : ∀ x : SX, allT x suq41 = true := eps_all (fun x => allT x suq41) (by decide +kernel)
def suq42 : List (Nat × Nat × Nat) := [(61, 1445657696724320778, 6), (61, 1455791217086302986, 3)]
theorem tabS42 : ∀ x : SX, allT x suq42 = true := eps_all (fun x => allT x suq42) (by decide +kernel)
def suq43 : List (Nat × Nat × Nat) := [(61, 1662926210933060154, 2), (63, 4295033110, 6)]
theorem tabS43 : ∀ x : SX, allT x suq43 = true := eps_all (fun x => allT x suq43) (by decide +kernel)
def suq44 : List (Nat × Nat × Nat) := [(63, 9095297623916802, 6), (63, 288230376193657090, 6)]
theorem tabS44 : ∀ x : SX, allT x suq44 = true := eps_all (fun x => allT x suq44) (by decide +kernel)
def suq45 : List (Nat × Nat × Nat) := [(63, 328763872343228418, 6), (63, 2341871808380207122, 6)]
theorem tabS45 : ∀ x : SX, allT x suq45 = true := eps_all (fun x => allT x suq45) (by decide +kernel)
def suq46 : List (Nat × Nat × Nat) := [(63, 4611756524677758978, 6), (63, 4899916669490561058, 6)]
theorem tabS46 : ∀ x : SX, allT x suq46 = true := eps_all (fun x => allT x suq46) (by decide +kernel)
def suq47 : List (Nat × Nat × Nat) := [(63, 4940450165656914210, 3), (63, 5188287508219232274, 6)]
theorem tabS47 : ∀ x : SX, allT x suq47 = true := eps_all (fun x => allT x suq47) (by decide +kernel)
def suq48 : List (Nat × Nat × Nat) := [(63, 7530159320894341398, 3)]
theorem tabS48 : ∀ x : SX, allT x suq48 = true := eps_all (fun x => allT x suq48) (by decide +kernel)
