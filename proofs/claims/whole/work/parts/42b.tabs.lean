def suq10 : List (Nat × Nat × Nat) := [(35, 17197238274, 4), (35, 17716740162, 6), (36, 131074, 6), (36, 34359738370, 6)]
theorem tabS10 : ∀ x : SX, allT x suq10 = true := eps_all (fun x => allT x suq10) (by decide +kernel)
def suq11 : List (Nat × Nat × Nat) := [(37, 25836983938, 4), (37, 68920806402, 6), (37, 71613566274, 3), (37, 96068509338, 2)]
theorem tabS11 : ∀ x : SX, allT x suq11 = true := eps_all (fun x => allT x suq11) (by decide +kernel)
def suq12 : List (Nat × Nat × Nat) := [(39, 4259842, 8), (39, 33554722, 6), (39, 37815314, 4), (39, 4333833526, 2)]
theorem tabS12 : ∀ x : SX, allT x suq12 = true := eps_all (fun x => allT x suq12) (by decide +kernel)
def suq13 : List (Nat × Nat × Nat) := [(39, 19360907266, 6), (39, 274890686466, 4), (40, 514, 8), (40, 2050, 8)]
theorem tabS13 : ∀ x : SX, allT x suq13 = true := eps_all (fun x => allT x suq13) (by decide +kernel)
def suq14 : List (Nat × Nat × Nat) := [(40, 524290, 8), (40, 526850, 4), (40, 8389250, 4), (40, 134218250, 4)]
theorem tabS14 : ∀ x : SX, allT x suq14 = true := eps_all (fun x => allT x suq14) (by decide +kernel)
def suq15 : List (Nat × Nat × Nat) := [(40, 536870914, 8), (40, 2147483650, 8), (40, 2684878850, 4), (40, 137438962178, 4)]
theorem tabS15 : ∀ x : SX, allT x suq15 = true := eps_all (fun x => allT x suq15) (by decide +kernel)
def suq16 : List (Nat × Nat × Nat) := [(40, 137447877250, 2), (40, 549755813890, 8), (40, 550292686850, 4), (40, 551903298050, 4)]
theorem tabS16 : ∀ x : SX, allT x suq16 = true := eps_all (fun x => allT x suq16) (by decide +kernel)
def suq17 : List (Nat × Nat × Nat) := [(40, 689476477450, 2), (41, 137439282178, 8), (41, 1239140336658, 4), (41, 1378818736650, 5)]
theorem tabS17 : ∀ x : SX, allT x suq17 = true := eps_all (fun x => allT x suq17) (by decide +kernel)
def suq18 : List (Nat × Nat × Nat) := [(41, 1870503675702, 2), (43, 2233385158674, 6), (43, 3678700564050, 2)]
theorem tabS18 : ∀ x : SX, allT x suq18 = true := eps_all (fun x => allT x suq18) (by decide +kernel)
def suq19 : List (Nat × Nat × Nat) := [(43, 4604204941506, 7), (43, 7185620863254, 3), (44, 137472508450, 4)]
theorem tabS19 : ∀ x : SX, allT x suq19 = true := eps_all (fun x => allT x suq19) (by decide +kernel)
