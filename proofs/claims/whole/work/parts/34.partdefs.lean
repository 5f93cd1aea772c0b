/-! how a prime parts -/
def FEWL : List (List (Nat × Nat)) := [[], [], [(1, 0)], [(1, 0)], [(1, 0)], [(1, 0)], [(2, 1), (3, 2)], [(1, 0)], [(1, 0)], [(1, 0)], [(2, 1), (5, 2)], [(1, 0)], [(3, 2), (4, 3)], [(1, 0)], [(2, 1), (7, 2)], [(3, 2), (5, 3)], [(1, 0)], [(1, 0)], [(2, 1), (9, 2)], [(1, 0)], [(4, 1), (5, 2)], [(3, 1), (7, 3)], [(2, 1), (11, 2)], [(1, 0)], [(3, 2), (8, 3)], [(1, 0)], [(2, 1), (13, 2)], [(1, 0)], [(4, 3), (7, 2)], [(1, 0)], [(6, 5), (10, 3), (15, 2)], [(1, 0)], [(1, 0)], [(3, 2), (11, 3)], [(2, 1), (17, 2)], [(5, 2), (7, 5)], [(4, 3), (9, 2)], [(1, 0)], [(2, 1), (19, 2)], [(3, 1), (13, 3)], [(5, 2), (8, 5)], [(1, 0)], [(6, 1), (14, 3), (21, 2)], [(1, 0)], [(4, 3), (11, 2)], [(5, 3), (9, 5)], [(2, 1), (23, 2)], [(1, 0)], [(3, 2), (16, 3)], [(1, 0)], [(2, 1), (25, 2)], [(3, 2), (17, 3)], [(4, 1), (13, 2)], [(1, 0)], [(2, 1), (27, 2)], [(5, 1), (11, 5)], [(7, 2), (8, 7)], [(3, 1), (19, 3)], [(2, 1), (29, 2)], [(1, 0)], [(12, 5), (15, 2), (20, 3)], [(1, 0)], [(2, 1), (31, 2)], [(7, 3), (9, 7)]]
def FEWT (m : Nat) : List (Nat × Nat) := FEWL.getD m []
def UNL (m : Nat) : List Nat := (List.range m).filter (bitB (ALLT m))
noncomputable def chkC2 (m n D dg e lo pr' v : Nat) : Bool := wO (np_X3_orderOver lo v n) fun f => wO (np_X6_quotient dg f) fun gg =>
  eqO (lpN (fun q : (Nat × Nat) => ns_X8_parts_100 0 v 0 m n pr' 0 q.1 q.2 (fun _ => 0)) pfFU (1, v)) (some f) && ((Nat.ble 1 f && Nat.ble f 63) && Nat.beq (D / (e * f)) gg)
noncomputable def chkC (m g n : Nat) (vs : List Nat) : Bool :=
  wO (np_X3_onesBy n m) fun o => wO (np_X3_product g o m) fun pr => wO (np_X3_lowered pr n) fun lo => wO (np_X3_size pr) fun a => wO (np_X3_size g) fun b => wO (np_X6_quotient a b) fun e => wO (np_X3_degree pr m) fun dg =>
  wO (np_X8_onesBy m n) fun o' => wO (np_X8_product m g o') fun pr' => wO (np_X8_many pr') fun a' => wO (np_X8_many g) fun b' => wO (np_X8_degree m g) fun D =>
    ((Nat.ble 1 b' && Nat.ble b' 63) && ((Nat.ble a' 63 && Nat.beq (a' / b') e) && (Nat.ble 1 e && Nat.ble D 63))) && allB (chkC2 m n D dg e lo pr') vs
noncomputable def chkF (m g : Nat) : Bool := chkC m g m (UNL m) && allQ (fun n v => chkC m g n [v]) (FEWT m)
