def suq30 : List (Nat × Nat × Nat) := [(56, 134258690, 6), (56, 168296970, 4), (56, 549797790210, 4)]
theorem tabS30 : ∀ x : SX, allT x suq30 = true := eps_all (fun x => allT x suq30) (by decide +kernel)
def suq31 : List (Nat × Nat × Nat) := [(56, 10995250495490, 6), (56, 35184405652002, 4), (56, 35734304629290, 2)]
theorem tabS31 : ∀ x : SX, allT x suq31 = true := eps_all (fun x => allT x suq31) (by decide +kernel)
def suq32 : List (Nat × Nat × Nat) := [(56, 2260595940264450, 4), (56, 36030996042252290, 6), (56, 36037593111994370, 6)]
theorem tabS32 : ∀ x : SX, allT x suq32 = true := eps_all (fun x => allT x suq32) (by decide +kernel)
def suq33 : List (Nat × Nat × Nat) := [(56, 36169536688357890, 4), (56, 38465316967164450, 2), (57, 633458284036226, 6)]
theorem tabS33 : ∀ x : SX, allT x suq33 = true := eps_all (fun x => allT x suq33) (by decide +kernel)
def suq34 : List (Nat × Nat × Nat) := [(57, 36600543367463058, 4), (57, 73746443898192258, 6), (57, 118793440422085014, 2)]
theorem tabS34 : ∀ x : SX, allT x suq34 = true := eps_all (fun x => allT x suq34) (by decide +kernel)
def suq35 : List (Nat × Nat × Nat) := [(59, 156326468341437114, 2), (60, 2050, 8)]
theorem tabS35 : ∀ x : SX, allT x suq35 = true := eps_all (fun x => allT x suq35) (by decide +kernel)
def suq36 : List (Nat × Nat × Nat) := [(60, 524290, 8), (60, 536870914, 8)]
theorem tabS36 : ∀ x : SX, allT x suq36 = true := eps_all (fun x => allT x suq36) (by decide +kernel)
def suq37 : List (Nat × Nat × Nat) := [(60, 537397250, 4), (60, 562949953421314, 8)]
theorem tabS37 : ∀ x : SX, allT x suq37 = true := eps_all (fun x => allT x suq37) (by decide +kernel)
def suq38 : List (Nat × Nat × Nat) := [(60, 571746046443650, 4), (60, 703687450165250, 4)]
theorem tabS38 : ∀ x : SX, allT x suq38 = true := eps_all (fun x => allT x suq38) (by decide +kernel)
def suq39 : List (Nat × Nat × Nat) := [(60, 9570149208293378, 4), (60, 576460752303423490, 8)]
theorem tabS39 : ∀ x : SX, allT x suq39 = true := eps_all (fun x => allT x suq39) (by decide +kernel)
