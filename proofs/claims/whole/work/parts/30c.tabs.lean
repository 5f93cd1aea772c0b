def ovq16 : List (Nat × Nat) := [(56, 134217730), (56, 36169536688357890), (56, 2199023255554), (56, 8796093022210), (56, 36028797018963970), (56, 35734304629290), (56, 38465316967164450), (56, 134258690), (56, 36037593111994370)]
theorem tabO16 : ∀ x : (Nat → Nat) × (Nat → Nat), allQ (fun m g => chkO m g x) ovq16 = true := eps_all (fun x => allQ (fun m g => chkO m g x) ovq16) (by decide +kernel)
def ovq17 : List (Nat × Nat) := [(56, 36030996042252290), (56, 10995250495490), (57, 2), (57, 118793440422085014), (57, 36600543367463058), (57, 562949953421442)]
theorem tabO17 : ∀ x : (Nat → Nat) × (Nat → Nat), allQ (fun m g => chkO m g x) ovq17 = true := eps_all (fun x => allQ (fun m g => chkO m g x) ovq17) (by decide +kernel)
def ovq18 : List (Nat × Nat) := [(57, 73746443898192258), (57, 633458284036226), (57, 137438953474), (57, 72057594037927938), (58, 2), (59, 2), (59, 156326468341437114)]
theorem tabO18 : ∀ x : (Nat → Nat) × (Nat → Nat), allQ (fun m g => chkO m g x) ovq18 = true := eps_all (fun x => allQ (fun m g => chkO m g x) ovq18) (by decide +kernel)
def ovq19 : List (Nat × Nat) := [(59, 288230376151711746), (60, 2), (60, 571746046443650), (60, 2050), (60, 9570149208293378), (60, 524290), (60, 703687450165250), (60, 536870914)]
theorem tabO19 : ∀ x : (Nat → Nat) × (Nat → Nat), allQ (fun m g => chkO m g x) ovq19 = true := eps_all (fun x => allQ (fun m g => chkO m g x) ovq19) (by decide +kernel)
def ovq20 : List (Nat × Nat) := [(60, 562949953421314), (60, 576460752303423490), (60, 586039697604741250), (60, 537397250), (60, 577023702256846850), (61, 2)]
theorem tabO20 : ∀ x : (Nat → Nat) × (Nat → Nat), allQ (fun m g => chkO m g x) ovq20 = true := eps_all (fun x => allQ (fun m g => chkO m g x) ovq20) (by decide +kernel)
def ovq21 : List (Nat × Nat) := [(61, 1445657696724320778), (61, 1662926210933060154), (61, 1455791217086302986), (61, 288230393332630018), (61, 1154047404513691650), (61, 504548311019139586)]
theorem tabO21 : ∀ x : (Nat → Nat) × (Nat → Nat), allQ (fun m g => chkO m g x) ovq21 = true := eps_all (fun x => allQ (fun m g => chkO m g x) ovq21) (by decide +kernel)
def ovq22 : List (Nat × Nat) := [(61, 140737488363522), (61, 1153343717071937538), (61, 1154470721324345346), (61, 1152921504606846978)]
theorem tabO22 : ∀ x : (Nat → Nat) × (Nat → Nat), allQ (fun m g => chkO m g x) ovq22 = true := eps_all (fun x => allQ (fun m g => chkO m g x) ovq22) (by decide +kernel)
def ovq23 : List (Nat × Nat) := [(62, 2)]
theorem tabO23 : ∀ x : (Nat → Nat) × (Nat → Nat), allQ (fun m g => chkO m g x) ovq23 = true := eps_all (fun x => allQ (fun m g => chkO m g x) ovq23) (by decide +kernel)
