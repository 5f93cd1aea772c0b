-- X8_rests
def p_X8_rests  (y1 : Int32) : Option Int32 :=
  ((p_X8_isM y1).bind fun v1 => (if v1 = 0 then some (-1 : Int32) else ((p_X8_all y1).bind fun v8 => ((p_X8_many v8).bind fun v11 => some v11))))
theorem kv_X8_rests : yX8_rests.cls = RX8 ∧ yX8_rests.cls ≠ "java/lang/invoke/MethodHandle" ∧ yX8_rests.cls ≠ "java/lang/invoke/VarHandle" ∧ (parseMethodDescriptor yX8_rests.desc).map (fun d => d.parameters.length) = some 1 := by decide +kernel
set_option maxHeartbeats 4000000 in
set_option maxRecDepth 100000 in
theorem c_X8_rests (l : Launch) (G : va_G) (cI cJ cZ cS : ClassId) (q q_bar q_bits q_made q_has q_groups q_sums q_numbers : Nat) (sz : Nat) (f_bar : (Nat → Int32)) (f_bits : (Nat → Int64)) (f_made : (Nat → Int32)) (f_has : (Nat → Int32)) (f_groups : (Nat → Int64)) (f_found : Int32) (f_passed : Int32) (f_looked : Int64) (f_sums : (Nat → Int64)) (f_numbers : (Nat → Int64)) (y1 : Int32) (r : Int32) (h : p_X8_rests  y1 = some r) : Met l yX8_rests wsX8_rests { frames := 3, cells := 0, slots := 0, locals := 68 } (hb_pre G (hbT cI cJ cZ cS) [.ref q, .int y1] sz [(q, .inr (6, [.ref q_bar, .ref q_bits, .ref q_made, .ref q_has, .ref q_groups, .int f_found, .int f_passed, .long f_looked, .ref q_sums, .ref q_numbers])), (q_bar, .inl (cI, 160, .inl f_bar)), (q_bits, .inl (cJ, 160, .inr (.inl f_bits))), (q_made, .inl (cI, 4, .inl f_made)), (q_has, .inl (cZ, 3, .inl f_has)), (q_groups, .inl (cJ, 128, .inr (.inl f_groups))), (q_sums, .inl (cJ, 8, .inr (.inl f_sums))), (q_numbers, .inl (cJ, 9, .inr (.inl f_numbers)))]) (hb_Qi G r [(q, .inr (6, [.ref q_bar, .ref q_bits, .ref q_made, .ref q_has, .ref q_groups, .int f_found, .int f_passed, .long f_looked, .ref q_sums, .ref q_numbers])), (q_bar, .inl (cI, 160, .inl f_bar)), (q_bits, .inl (cJ, 160, .inr (.inl f_bits))), (q_made, .inl (cI, 4, .inl f_made)), (q_has, .inl (cZ, 3, .inl f_has)), (q_groups, .inl (cJ, 128, .inr (.inl f_groups))), (q_sums, .inl (cJ, 8, .inr (.inl f_sums))), (q_numbers, .inl (cJ, 9, .inr (.inl f_numbers)))] (va_A [(q, .inr (6, [.ref q_bar, .ref q_bits, .ref q_made, .ref q_has, .ref q_groups, .int f_found, .int f_passed, .long f_looked, .ref q_sums, .ref q_numbers])), (q_bar, .inl (cI, 160, .inl f_bar)), (q_bits, .inl (cJ, 160, .inr (.inl f_bits))), (q_made, .inl (cI, 4, .inl f_made)), (q_has, .inl (cZ, 3, .inl f_has)), (q_groups, .inl (cJ, 128, .inr (.inl f_groups))), (q_sums, .inl (cJ, 8, .inr (.inl f_sums))), (q_numbers, .inl (cJ, 9, .inr (.inl f_numbers)))] sz)) 0 0 (va_A [(q, .inr (6, [.ref q_bar, .ref q_bits, .ref q_made, .ref q_has, .ref q_groups, .int f_found, .int f_passed, .long f_looked, .ref q_sums, .ref q_numbers])), (q_bar, .inl (cI, 160, .inl f_bar)), (q_bits, .inl (cJ, 160, .inr (.inl f_bits))), (q_made, .inl (cI, 4, .inl f_made)), (q_has, .inl (cZ, 3, .inl f_has)), (q_groups, .inl (cJ, 128, .inr (.inl f_groups))), (q_sums, .inl (cJ, 8, .inr (.inl f_sums))), (q_numbers, .inl (cJ, 9, .inr (.inl f_numbers)))] sz) := by
  refine hb_met (Qc := fun A => hb_Qi G r [(q, .inr (6, [.ref q_bar, .ref q_bits, .ref q_made, .ref q_has, .ref q_groups, .int f_found, .int f_passed, .long f_looked, .ref q_sums, .ref q_numbers])), (q_bar, .inl (cI, 160, .inl f_bar)), (q_bits, .inl (cJ, 160, .inr (.inl f_bits))), (q_made, .inl (cI, 4, .inl f_made)), (q_has, .inl (cZ, 3, .inl f_has)), (q_groups, .inl (cJ, 128, .inr (.inl f_groups))), (q_sums, .inl (cJ, 8, .inr (.inl f_sums))), (q_numbers, .inl (cJ, 9, .inr (.inl f_numbers)))] A) (cc := cX8_rests) (maxL := 2) (ret := some .int) (by decide) rfl (Nat.le_of_ble_eq_true rfl) ?_
  intro p e s m below meth c A hx hb hr hts hown hlocks hml hin hK hA hP hD hS ls hl
  have hown : s.vm.findClass RX8 = some m.cls := hown
  have S0 : CallFix p m c cX8_rests 2 s ([.ref q, .int y1] : List Value).toArray wsX8_rests RX8 := ⟨hx, hb, hml, hown, hts⟩
  have hl : lv_has ls 2 [(0, .ref q), (1, .int y1)] := hl
  suffices hh : ∀ (H : Heap) (locs : List Loc), va_P G vwCl [(q, .inr (6, [.ref q_bar, .ref q_bits, .ref q_made, .ref q_has, .ref q_groups, .int f_found, .int f_passed, .long f_looked, .ref q_sums, .ref q_numbers])), (q_bar, .inl (cI, 160, .inl f_bar)), (q_bits, .inl (cJ, 160, .inr (.inl f_bits))), (q_made, .inl (cI, 4, .inl f_made)), (q_has, .inl (cZ, 3, .inl f_has)), (q_groups, .inl (cJ, 128, .inr (.inl f_groups))), (q_sums, .inl (cJ, 8, .inr (.inl f_sums))), (q_numbers, .inl (cJ, 9, .inr (.inl f_numbers)))] H → va_D A [(q, .inr (6, [.ref q_bar, .ref q_bits, .ref q_made, .ref q_has, .ref q_groups, .int f_found, .int f_passed, .long f_looked, .ref q_sums, .ref q_numbers])), (q_bar, .inl (cI, 160, .inl f_bar)), (q_bits, .inl (cJ, 160, .inr (.inl f_bits))), (q_made, .inl (cI, 4, .inl f_made)), (q_has, .inl (cZ, 3, .inl f_has)), (q_groups, .inl (cJ, 128, .inr (.inl f_groups))), (q_sums, .inl (cJ, 8, .inr (.inl f_sums))), (q_numbers, .inl (cJ, 9, .inr (.inl f_numbers)))] → va_S A s.heap H locs → W p l e (headSpec wsX8_rests { frames := 3, cells := 0, slots := 0, locals := 68 }).room s m ([.ref q, .int y1] : List Value).toArray below meth c H locs 0 0 (MQ below (hb_Qi G r [(q, .inr (6, [.ref q_bar, .ref q_bits, .ref q_made, .ref q_has, .ref q_groups, .int f_found, .int f_passed, .long f_looked, .ref q_sums, .ref q_numbers])), (q_bar, .inl (cI, 160, .inl f_bar)), (q_bits, .inl (cJ, 160, .inr (.inl f_bits))), (q_made, .inl (cI, 4, .inl f_made)), (q_has, .inl (cZ, 3, .inl f_has)), (q_groups, .inl (cJ, 128, .inr (.inl f_groups))), (q_sums, .inl (cJ, 8, .inr (.inl f_sums))), (q_numbers, .inl (cJ, 9, .inr (.inl f_numbers)))] A) ([.ref q, .int y1] : List Value).toArray s 0 0 A) (F0 m 0 ls []) from hh s.heap [] hP hD hS
  intro H locs hP hD hS
  unfold p_X8_rests at h
  refine lv_iload_n hx hb dX8_rests_0 rfl (lv_at hl 1 rfl) ?_
  obtain ⟨v1, hv1, h⟩ := pf_bind h
  refine pf_call (As := [.int y1]) (rest := []) S0 (c_X8_isM l y1 v1 hv1) (va_cwS 1 hts gX8_rests_X8_isM rfl rfl rfl kd_X8_isM ⟨Nat.le_of_ble_eq_true rfl, Nat.le_of_ble_eq_true rfl⟩) rfl hl.1 rfl (Nat.le_of_ble_eq_true rfl) dX8_rests_1 ⟨Nat.zero_le _, Nat.zero_le _⟩ ?_
  refine lv_if_eq (tgt := 17) hx hb dX8_rests_4 (by decide) (fun c4 => ?_) (fun c4 => ?_)
  · have h := pf_pos h c4
    refine lv_iconst (v := -1) hx hb dX8_rests_17 (by decide) ?_
    cases h
    exact hb_iret hx hb hr hlocks hP hD hS dX8_rests_18
  · have h := pf_neg h c4
    refine lv_iload_n hx hb dX8_rests_7 rfl (lv_at hl 1 rfl) ?_
    obtain ⟨v8, hv8, h⟩ := pf_bind h
    refine pf_call (As := [.int y1]) (rest := []) S0 (c_X8_all l y1 v8 hv8) (va_cwS 1 hts gX8_rests_X8_all rfl rfl rfl kd_X8_all ⟨Nat.le_of_ble_eq_true rfl, Nat.le_of_ble_eq_true rfl⟩) rfl hl.1 rfl (Nat.le_of_ble_eq_true rfl) dX8_rests_8 ⟨Nat.zero_le _, Nat.zero_le _⟩ ?_
    obtain ⟨v11, hv11, h⟩ := pf_bind h
    refine pf_call (As := [.long v8]) (rest := []) S0 (c_X8_many l v8 v11 hv11) (va_cwS 1 hts gX8_rests_X8_many rfl rfl rfl kd_X8_many ⟨Nat.le_of_ble_eq_true rfl, Nat.le_of_ble_eq_true rfl⟩) rfl hl.1 rfl (Nat.le_of_ble_eq_true rfl) dX8_rests_11 ⟨Nat.zero_le _, Nat.zero_le _⟩ ?_
    refine lv_goto (tgt := 18) hx hb dX8_rests_14 (by decide) ?_
    cases h
    exact hb_iret hx hb hr hlocks hP hD hS dX8_rests_18
-- X8_order
def e_X8_order_37 (x3 : Int32) : Option Int32 :=
  some x3
def s_X8_order_19 (x1 : Int32) (x2 : Int32) (x3 : Int32) : Option (Int32 ⊕ (Int32)) :=
  ((p_X8_power x1 x2 x3).bind fun v22 => (if x1 = 0 then none else (if v22 = (jrem (1 : Int32) x1) then some (Sum.inr x3) else some (Sum.inl (x3 + (1 : Int32))))))
def a_X8_order_19  (b : Int32) : Option Int32 := (fun q : Int32 => e_X8_order_37 q) b
def g_X8_order_19 (x1 : Int32) (x2 : Int32) (x3 : Int32) : Option Int32 := (lpF (fun q : Int32 => s_X8_order_19 x1 x2 q) pfFU x3).bind (a_X8_order_19 )
def p_X8_order  (y1 : Int32) (y2 : Int32) : Option Int32 :=
  ((p_X8_isM y1).bind fun v1 => (if v1 = 0 then some (-1 : Int32) else ((p_X8_isRest y1 y2).bind fun v9 => (if v9 = 0 then some (-1 : Int32) else g_X8_order_19 y1 y2 (1 : Int32)))))
theorem kv_X8_order : yX8_order.cls = RX8 ∧ yX8_order.cls ≠ "java/lang/invoke/MethodHandle" ∧ yX8_order.cls ≠ "java/lang/invoke/VarHandle" ∧ (parseMethodDescriptor yX8_order.desc).map (fun d => d.parameters.length) = some 2 := by decide +kernel
set_option maxHeartbeats 4000000 in
set_option maxRecDepth 100000 in
theorem c_X8_order (l : Launch) (G : va_G) (cI cJ cZ cS : ClassId) (q q_bar q_bits q_made q_has q_groups q_sums q_numbers : Nat) (sz : Nat) (f_bar : (Nat → Int32)) (f_bits : (Nat → Int64)) (f_made : (Nat → Int32)) (f_has : (Nat → Int32)) (f_groups : (Nat → Int64)) (f_found : Int32) (f_passed : Int32) (f_looked : Int64) (f_sums : (Nat → Int64)) (f_numbers : (Nat → Int64)) (y1 : Int32) (y2 : Int32) (r : Int32) (h : p_X8_order  y1 y2 = some r) : Met l yX8_order wsX8_order { frames := 2, cells := 0, slots := 0, locals := 45 } (hb_pre G (hbT cI cJ cZ cS) [.ref q, .int y1, .int y2] sz [(q, .inr (6, [.ref q_bar, .ref q_bits, .ref q_made, .ref q_has, .ref q_groups, .int f_found, .int f_passed, .long f_looked, .ref q_sums, .ref q_numbers])), (q_bar, .inl (cI, 160, .inl f_bar)), (q_bits, .inl (cJ, 160, .inr (.inl f_bits))), (q_made, .inl (cI, 4, .inl f_made)), (q_has, .inl (cZ, 3, .inl f_has)), (q_groups, .inl (cJ, 128, .inr (.inl f_groups))), (q_sums, .inl (cJ, 8, .inr (.inl f_sums))), (q_numbers, .inl (cJ, 9, .inr (.inl f_numbers)))]) (hb_Qi G r [(q, .inr (6, [.ref q_bar, .ref q_bits, .ref q_made, .ref q_has, .ref q_groups, .int f_found, .int f_passed, .long f_looked, .ref q_sums, .ref q_numbers])), (q_bar, .inl (cI, 160, .inl f_bar)), (q_bits, .inl (cJ, 160, .inr (.inl f_bits))), (q_made, .inl (cI, 4, .inl f_made)), (q_has, .inl (cZ, 3, .inl f_has)), (q_groups, .inl (cJ, 128, .inr (.inl f_groups))), (q_sums, .inl (cJ, 8, .inr (.inl f_sums))), (q_numbers, .inl (cJ, 9, .inr (.inl f_numbers)))] (va_A [(q, .inr (6, [.ref q_bar, .ref q_bits, .ref q_made, .ref q_has, .ref q_groups, .int f_found, .int f_passed, .long f_looked, .ref q_sums, .ref q_numbers])), (q_bar, .inl (cI, 160, .inl f_bar)), (q_bits, .inl (cJ, 160, .inr (.inl f_bits))), (q_made, .inl (cI, 4, .inl f_made)), (q_has, .inl (cZ, 3, .inl f_has)), (q_groups, .inl (cJ, 128, .inr (.inl f_groups))), (q_sums, .inl (cJ, 8, .inr (.inl f_sums))), (q_numbers, .inl (cJ, 9, .inr (.inl f_numbers)))] sz)) 0 0 (va_A [(q, .inr (6, [.ref q_bar, .ref q_bits, .ref q_made, .ref q_has, .ref q_groups, .int f_found, .int f_passed, .long f_looked, .ref q_sums, .ref q_numbers])), (q_bar, .inl (cI, 160, .inl f_bar)), (q_bits, .inl (cJ, 160, .inr (.inl f_bits))), (q_made, .inl (cI, 4, .inl f_made)), (q_has, .inl (cZ, 3, .inl f_has)), (q_groups, .inl (cJ, 128, .inr (.inl f_groups))), (q_sums, .inl (cJ, 8, .inr (.inl f_sums))), (q_numbers, .inl (cJ, 9, .inr (.inl f_numbers)))] sz) := by
  refine hb_met (Qc := fun A => hb_Qi G r [(q, .inr (6, [.ref q_bar, .ref q_bits, .ref q_made, .ref q_has, .ref q_groups, .int f_found, .int f_passed, .long f_looked, .ref q_sums, .ref q_numbers])), (q_bar, .inl (cI, 160, .inl f_bar)), (q_bits, .inl (cJ, 160, .inr (.inl f_bits))), (q_made, .inl (cI, 4, .inl f_made)), (q_has, .inl (cZ, 3, .inl f_has)), (q_groups, .inl (cJ, 128, .inr (.inl f_groups))), (q_sums, .inl (cJ, 8, .inr (.inl f_sums))), (q_numbers, .inl (cJ, 9, .inr (.inl f_numbers)))] A) (cc := cX8_order) (maxL := 4) (ret := some .int) (by decide) rfl (Nat.le_of_ble_eq_true rfl) ?_
  intro p e s m below meth c A hx hb hr hts hown hlocks hml hin hK hA hP hD hS ls hl
  have hown : s.vm.findClass RX8 = some m.cls := hown
  have S0 : CallFix p m c cX8_order 4 s ([.ref q, .int y1, .int y2] : List Value).toArray wsX8_order RX8 := ⟨hx, hb, hml, hown, hts⟩
  have hl : lv_has ls 4 [(0, .ref q), (1, .int y1), (2, .int y2)] := hl
  have K37 : ∀ (x3 : Int32), e_X8_order_37 x3 = some r → ∀ (H : Heap) (locs : List Loc), va_P G vwCl [(q, .inr (6, [.ref q_bar, .ref q_bits, .ref q_made, .ref q_has, .ref q_groups, .int f_found, .int f_passed, .long f_looked, .ref q_sums, .ref q_numbers])), (q_bar, .inl (cI, 160, .inl f_bar)), (q_bits, .inl (cJ, 160, .inr (.inl f_bits))), (q_made, .inl (cI, 4, .inl f_made)), (q_has, .inl (cZ, 3, .inl f_has)), (q_groups, .inl (cJ, 128, .inr (.inl f_groups))), (q_sums, .inl (cJ, 8, .inr (.inl f_sums))), (q_numbers, .inl (cJ, 9, .inr (.inl f_numbers)))] H → va_D A [(q, .inr (6, [.ref q_bar, .ref q_bits, .ref q_made, .ref q_has, .ref q_groups, .int f_found, .int f_passed, .long f_looked, .ref q_sums, .ref q_numbers])), (q_bar, .inl (cI, 160, .inl f_bar)), (q_bits, .inl (cJ, 160, .inr (.inl f_bits))), (q_made, .inl (cI, 4, .inl f_made)), (q_has, .inl (cZ, 3, .inl f_has)), (q_groups, .inl (cJ, 128, .inr (.inl f_groups))), (q_sums, .inl (cJ, 8, .inr (.inl f_sums))), (q_numbers, .inl (cJ, 9, .inr (.inl f_numbers)))] → va_S A s.heap H locs → ∀ ls, lv_has ls 4 [(3, .int x3)] → W p l e (headSpec wsX8_order { frames := 2, cells := 0, slots := 0, locals := 45 }).room s m ([.ref q, .int y1, .int y2] : List Value).toArray below meth c H locs 0 0 (MQ below (hb_Qi G r [(q, .inr (6, [.ref q_bar, .ref q_bits, .ref q_made, .ref q_has, .ref q_groups, .int f_found, .int f_passed, .long f_looked, .ref q_sums, .ref q_numbers])), (q_bar, .inl (cI, 160, .inl f_bar)), (q_bits, .inl (cJ, 160, .inr (.inl f_bits))), (q_made, .inl (cI, 4, .inl f_made)), (q_has, .inl (cZ, 3, .inl f_has)), (q_groups, .inl (cJ, 128, .inr (.inl f_groups))), (q_sums, .inl (cJ, 8, .inr (.inl f_sums))), (q_numbers, .inl (cJ, 9, .inr (.inl f_numbers)))] A) ([.ref q, .int y1, .int y2] : List Value).toArray s 0 0 A) (F0 m 37 ls []) := by
    intro x3 h H locs hP hD hS ls hl
    unfold e_X8_order_37 at h
    refine lv_iload_n hx hb dX8_order_37 rfl (lv_at hl 0 rfl) ?_
    cases h
    exact hb_iret hx hb hr hlocks hP hD hS dX8_order_38
  have L19 : ∀ (n : Nat) (x1 : Int32) (x2 : Int32) (x3 : Int32) (b : Int32), lpF (fun q : Int32 => s_X8_order_19 x1 x2 q) n x3 = some b → a_X8_order_19 b = some r → ∀ (H : Heap) (locs : List Loc), va_P G vwCl [(q, .inr (6, [.ref q_bar, .ref q_bits, .ref q_made, .ref q_has, .ref q_groups, .int f_found, .int f_passed, .long f_looked, .ref q_sums, .ref q_numbers])), (q_bar, .inl (cI, 160, .inl f_bar)), (q_bits, .inl (cJ, 160, .inr (.inl f_bits))), (q_made, .inl (cI, 4, .inl f_made)), (q_has, .inl (cZ, 3, .inl f_has)), (q_groups, .inl (cJ, 128, .inr (.inl f_groups))), (q_sums, .inl (cJ, 8, .inr (.inl f_sums))), (q_numbers, .inl (cJ, 9, .inr (.inl f_numbers)))] H → va_D A [(q, .inr (6, [.ref q_bar, .ref q_bits, .ref q_made, .ref q_has, .ref q_groups, .int f_found, .int f_passed, .long f_looked, .ref q_sums, .ref q_numbers])), (q_bar, .inl (cI, 160, .inl f_bar)), (q_bits, .inl (cJ, 160, .inr (.inl f_bits))), (q_made, .inl (cI, 4, .inl f_made)), (q_has, .inl (cZ, 3, .inl f_has)), (q_groups, .inl (cJ, 128, .inr (.inl f_groups))), (q_sums, .inl (cJ, 8, .inr (.inl f_sums))), (q_numbers, .inl (cJ, 9, .inr (.inl f_numbers)))] → va_S A s.heap H locs → ∀ ls, lv_has ls 4 [(1, .int x1), (2, .int x2), (3, .int x3)] → W p l e (headSpec wsX8_order { frames := 2, cells := 0, slots := 0, locals := 45 }).room s m ([.ref q, .int y1, .int y2] : List Value).toArray below meth c H locs 0 0 (MQ below (hb_Qi G r [(q, .inr (6, [.ref q_bar, .ref q_bits, .ref q_made, .ref q_has, .ref q_groups, .int f_found, .int f_passed, .long f_looked, .ref q_sums, .ref q_numbers])), (q_bar, .inl (cI, 160, .inl f_bar)), (q_bits, .inl (cJ, 160, .inr (.inl f_bits))), (q_made, .inl (cI, 4, .inl f_made)), (q_has, .inl (cZ, 3, .inl f_has)), (q_groups, .inl (cJ, 128, .inr (.inl f_groups))), (q_sums, .inl (cJ, 8, .inr (.inl f_sums))), (q_numbers, .inl (cJ, 9, .inr (.inl f_numbers)))] A) ([.ref q, .int y1, .int y2] : List Value).toArray s 0 0 A) (F0 m 19 ls []) := by
    intro n
    induction n with
    | zero => intro x1 x2 x3 b h; exact lp_zero h
    | succ n ih =>
      intro x1 x2 x3 b h ha H locs hP hD hS ls hl
      obtain ⟨z19, h, hz⟩ := lp_open h
      have h : s_X8_order_19 x1 x2 x3 = some z19 := h
      unfold s_X8_order_19 at h
      refine lv_iload_n hx hb dX8_order_19 rfl (lv_at hl 0 rfl) ?_
      refine lv_iload_n hx hb dX8_order_20 rfl (lv_at hl 1 rfl) ?_
      refine lv_iload_n hx hb dX8_order_21 rfl (lv_at hl 2 rfl) ?_
      obtain ⟨v22, hv22, h⟩ := pf_bind h
      refine pf_call (As := [.int x1, .int x2, .int x3]) (rest := []) S0 (c_X8_power l x1 x2 x3 v22 hv22) (va_cwS 3 hts gX8_order_X8_power rfl rfl rfl kd_X8_power ⟨Nat.le_of_ble_eq_true rfl, Nat.le_of_ble_eq_true rfl⟩) rfl hl.1 rfl (Nat.le_of_ble_eq_true rfl) dX8_order_22 ⟨Nat.zero_le _, Nat.zero_le _⟩ ?_
      refine lv_iconst (v := 1) hx hb dX8_order_25 (by decide) ?_
      refine lv_iload_n hx hb dX8_order_26 rfl (lv_at hl 0 rfl) ?_
      obtain ⟨hd27, h⟩ := pf_guard h
      refine pf_irem hx hb dX8_order_27 hd27 ?_
      refine lv_icmp_eq (tgt := 37) hx hb dX8_order_28 (by decide) (fun c28 => ?_) (fun c28 => ?_)
      · have h := pf_pos h c28
        have ha := pf_aft ha (lp_exit h hz)
        exact K37 x3 ha H locs hP hD hS ls (lv_sub hl [2] rfl)
      · have h := pf_neg h c28
        refine lv_iinc (v := (x3 + (1 : Int32))) (lv' := [(3, .int (x3 + (1 : Int32))), (1, .int x1), (2, .int x2)]) hx hb dX8_order_31 hl (k := 2) rfl rfl (by decide) rfl (fun ls hl => ?_)
        refine lv_goto (tgt := 19) hx hb dX8_order_34 (by decide) ?_
        exact ih x1 x2 (x3 + (1 : Int32)) b (lp_cont h hz) ha H locs hP hD hS ls (lv_sub hl [1, 2, 0] rfl)
  have G19 : ∀ (x1 : Int32) (x2 : Int32) (x3 : Int32), g_X8_order_19 x1 x2 x3 = some r → ∀ (H : Heap) (locs : List Loc), va_P G vwCl [(q, .inr (6, [.ref q_bar, .ref q_bits, .ref q_made, .ref q_has, .ref q_groups, .int f_found, .int f_passed, .long f_looked, .ref q_sums, .ref q_numbers])), (q_bar, .inl (cI, 160, .inl f_bar)), (q_bits, .inl (cJ, 160, .inr (.inl f_bits))), (q_made, .inl (cI, 4, .inl f_made)), (q_has, .inl (cZ, 3, .inl f_has)), (q_groups, .inl (cJ, 128, .inr (.inl f_groups))), (q_sums, .inl (cJ, 8, .inr (.inl f_sums))), (q_numbers, .inl (cJ, 9, .inr (.inl f_numbers)))] H → va_D A [(q, .inr (6, [.ref q_bar, .ref q_bits, .ref q_made, .ref q_has, .ref q_groups, .int f_found, .int f_passed, .long f_looked, .ref q_sums, .ref q_numbers])), (q_bar, .inl (cI, 160, .inl f_bar)), (q_bits, .inl (cJ, 160, .inr (.inl f_bits))), (q_made, .inl (cI, 4, .inl f_made)), (q_has, .inl (cZ, 3, .inl f_has)), (q_groups, .inl (cJ, 128, .inr (.inl f_groups))), (q_sums, .inl (cJ, 8, .inr (.inl f_sums))), (q_numbers, .inl (cJ, 9, .inr (.inl f_numbers)))] → va_S A s.heap H locs → ∀ ls, lv_has ls 4 [(1, .int x1), (2, .int x2), (3, .int x3)] → W p l e (headSpec wsX8_order { frames := 2, cells := 0, slots := 0, locals := 45 }).room s m ([.ref q, .int y1, .int y2] : List Value).toArray below meth c H locs 0 0 (MQ below (hb_Qi G r [(q, .inr (6, [.ref q_bar, .ref q_bits, .ref q_made, .ref q_has, .ref q_groups, .int f_found, .int f_passed, .long f_looked, .ref q_sums, .ref q_numbers])), (q_bar, .inl (cI, 160, .inl f_bar)), (q_bits, .inl (cJ, 160, .inr (.inl f_bits))), (q_made, .inl (cI, 4, .inl f_made)), (q_has, .inl (cZ, 3, .inl f_has)), (q_groups, .inl (cJ, 128, .inr (.inl f_groups))), (q_sums, .inl (cJ, 8, .inr (.inl f_sums))), (q_numbers, .inl (cJ, 9, .inr (.inl f_numbers)))] A) ([.ref q, .int y1, .int y2] : List Value).toArray s 0 0 A) (F0 m 19 ls []) := by
    intro x1 x2 x3 h
    unfold g_X8_order_19 at h
    obtain ⟨b, h, ha⟩ := pf_bind h
    exact L19 pfFU x1 x2 x3 b h ha
  suffices hh : ∀ (H : Heap) (locs : List Loc), va_P G vwCl [(q, .inr (6, [.ref q_bar, .ref q_bits, .ref q_made, .ref q_has, .ref q_groups, .int f_found, .int f_passed, .long f_looked, .ref q_sums, .ref q_numbers])), (q_bar, .inl (cI, 160, .inl f_bar)), (q_bits, .inl (cJ, 160, .inr (.inl f_bits))), (q_made, .inl (cI, 4, .inl f_made)), (q_has, .inl (cZ, 3, .inl f_has)), (q_groups, .inl (cJ, 128, .inr (.inl f_groups))), (q_sums, .inl (cJ, 8, .inr (.inl f_sums))), (q_numbers, .inl (cJ, 9, .inr (.inl f_numbers)))] H → va_D A [(q, .inr (6, [.ref q_bar, .ref q_bits, .ref q_made, .ref q_has, .ref q_groups, .int f_found, .int f_passed, .long f_looked, .ref q_sums, .ref q_numbers])), (q_bar, .inl (cI, 160, .inl f_bar)), (q_bits, .inl (cJ, 160, .inr (.inl f_bits))), (q_made, .inl (cI, 4, .inl f_made)), (q_has, .inl (cZ, 3, .inl f_has)), (q_groups, .inl (cJ, 128, .inr (.inl f_groups))), (q_sums, .inl (cJ, 8, .inr (.inl f_sums))), (q_numbers, .inl (cJ, 9, .inr (.inl f_numbers)))] → va_S A s.heap H locs → W p l e (headSpec wsX8_order { frames := 2, cells := 0, slots := 0, locals := 45 }).room s m ([.ref q, .int y1, .int y2] : List Value).toArray below meth c H locs 0 0 (MQ below (hb_Qi G r [(q, .inr (6, [.ref q_bar, .ref q_bits, .ref q_made, .ref q_has, .ref q_groups, .int f_found, .int f_passed, .long f_looked, .ref q_sums, .ref q_numbers])), (q_bar, .inl (cI, 160, .inl f_bar)), (q_bits, .inl (cJ, 160, .inr (.inl f_bits))), (q_made, .inl (cI, 4, .inl f_made)), (q_has, .inl (cZ, 3, .inl f_has)), (q_groups, .inl (cJ, 128, .inr (.inl f_groups))), (q_sums, .inl (cJ, 8, .inr (.inl f_sums))), (q_numbers, .inl (cJ, 9, .inr (.inl f_numbers)))] A) ([.ref q, .int y1, .int y2] : List Value).toArray s 0 0 A) (F0 m 0 ls []) from hh s.heap [] hP hD hS
  intro H locs hP hD hS
  unfold p_X8_order at h
  refine lv_iload_n hx hb dX8_order_0 rfl (lv_at hl 1 rfl) ?_
  obtain ⟨v1, hv1, h⟩ := pf_bind h
  refine pf_call (As := [.int y1]) (rest := []) S0 (c_X8_isM l y1 v1 hv1) (va_cwS 1 hts gX8_order_X8_isM rfl rfl rfl kd_X8_isM ⟨Nat.le_of_ble_eq_true rfl, Nat.le_of_ble_eq_true rfl⟩) rfl hl.1 rfl (Nat.le_of_ble_eq_true rfl) dX8_order_1 ⟨Nat.zero_le _, Nat.zero_le _⟩ ?_
  refine lv_if_eq (tgt := 15) hx hb dX8_order_4 (by decide) (fun c4 => ?_) (fun c4 => ?_)
  · have h := pf_pos h c4
    refine lv_iconst (v := -1) hx hb dX8_order_15 (by decide) ?_
    cases h
    exact hb_iret hx hb hr hlocks hP hD hS dX8_order_16
  · have h := pf_neg h c4
    refine lv_iload_n hx hb dX8_order_7 rfl (lv_at hl 1 rfl) ?_
    refine lv_iload_n hx hb dX8_order_8 rfl (lv_at hl 2 rfl) ?_
    obtain ⟨v9, hv9, h⟩ := pf_bind h
    refine pf_call (As := [.int y1, .int y2]) (rest := []) S0 (c_X8_isRest l y1 y2 v9 hv9) (va_cwS 2 hts gX8_order_X8_isRest rfl rfl rfl kd_X8_isRest ⟨Nat.le_of_ble_eq_true rfl, Nat.le_of_ble_eq_true rfl⟩) rfl hl.1 rfl (Nat.le_of_ble_eq_true rfl) dX8_order_9 ⟨Nat.zero_le _, Nat.zero_le _⟩ ?_
    refine lv_if_ne (tgt := 17) hx hb dX8_order_12 (by decide) (fun c12 => ?_) (fun c12 => ?_)
    · have h := pf_neg h c12
      refine lv_iconst (v := 1) hx hb dX8_order_17 (by decide) ?_
      refine lv_istore_n (lv' := [(3, .int (1 : Int32)), (0, .ref q), (1, .int y1), (2, .int y2)]) hx hb dX8_order_18 rfl hl (by decide) rfl (fun ls hl => ?_)
      exact G19 y1 y2 (1 : Int32) h H locs hP hD hS ls (lv_sub hl [2, 3, 0] rfl)
    · have h := pf_pos h c12
      refine lv_iconst (v := -1) hx hb dX8_order_15 (by decide) ?_
      cases h
      exact hb_iret hx hb hr hlocks hP hD hS dX8_order_16
-- X8_factor
def e_X8_factor_154 (x6 : Int32) : Option Int32 :=
  some x6
def e_X8_factor_148 (x1 : Int32) (x3 : Int32) (x5 : Int32) (x6 : Int32) (x7 : Int32) : Option ((Int32 × Int32) ⊕ (Int32)) :=
  some (Sum.inl (x6, (x7 + (1 : Int32))))
def s_X8_factor_122 (x1 : Int32) (x3 : Int32) (x5 : Int32) (x6 : Int32) (x7 : Int32) (x8 : Int32) : Option ((Int32 × Int32) ⊕ (Int32)) :=
  ((p_X8_cycles x1 x7 x8).bind fun v127 => (if v127 < x5 then some (Sum.inr x6) else some (Sum.inl ((x6 * x7), (x8 + (1 : Int32))))))
def a_X8_factor_122 (x1 : Int32) (x3 : Int32) (x5 : Int32) (x7 : Int32) (b : Int32) : Option ((Int32 × Int32) ⊕ (Int32)) := (fun q : Int32 => e_X8_factor_148 x1 x3 x5 q x7) b
def g_X8_factor_122 (x1 : Int32) (x3 : Int32) (x5 : Int32) (x6 : Int32) (x7 : Int32) (x8 : Int32) : Option ((Int32 × Int32) ⊕ (Int32)) := (lpF (fun q : (Int32 × Int32) => s_X8_factor_122 x1 x3 x5 q.1 x7 q.2) pfFU (x6, x8)).bind (a_X8_factor_122 x1 x3 x5 x7)
def s_X8_factor_95 (x1 : Int32) (x3 : Int32) (x5 : Int32) (x6 : Int32) (x7 : Int32) : Option ((Int32 × Int32) ⊕ (Int32)) :=
  (if x3 < x7 then some (Sum.inr x6) else ((p_X8_isPrime x7).bind fun v103 => (if v103 = 0 then some (Sum.inl (x6, (x7 + (1 : Int32)))) else (if x7 = 0 then none else (if (jrem x3 x7) = 0 then g_X8_factor_122 x1 x3 x5 x6 x7 (1 : Int32) else some (Sum.inl (x6, (x7 + (1 : Int32)))))))))
def a_X8_factor_95  (b : Int32) : Option Int32 := (fun q : Int32 => e_X8_factor_154 q) b
def g_X8_factor_95 (x1 : Int32) (x3 : Int32) (x5 : Int32) (x6 : Int32) (x7 : Int32) : Option Int32 := (lpF (fun q : (Int32 × Int32) => s_X8_factor_95 x1 x3 x5 q.1 q.2) pfFU (x6, x7)).bind (a_X8_factor_95 )
def e_X8_factor_75 (x1 : Int32) (x2 : Int32) (x3 : Int32) (x4 : Int32) : Option Int32 :=
  (if x2 < x4 then g_X8_factor_95 x1 x3 (x4 - x2) (1 : Int32) (2 : Int32) else some (-1 : Int32))
def s_X8_factor_27 (x1 : Int32) (x2 : Int32) (x3 : Int32) (x4 : Int32) (x5 : Int32) : Option ((Int32 × Int32) ⊕ (Int32)) :=
  (if x3 < x5 then some (Sum.inr x4) else ((p_X8_isPrime x5).bind fun v35 => (if v35 = 0 then some (Sum.inl (x4, (x5 + (1 : Int32)))) else (if x5 = 0 then none else (if (jrem x3 x5) = 0 then ((p_X8_cycles x1 x5 (1 : Int32)).bind fun v52 => (if v52 ≤ x4 then some (Sum.inl (x4, (x5 + (1 : Int32)))) else ((p_X8_cycles x1 x5 (1 : Int32)).bind fun v64 => some (Sum.inl (v64, (x5 + (1 : Int32))))))) else some (Sum.inl (x4, (x5 + (1 : Int32)))))))))
def a_X8_factor_27 (x1 : Int32) (x2 : Int32) (x3 : Int32) (b : Int32) : Option Int32 := (fun q : Int32 => e_X8_factor_75 x1 x2 x3 q) b
def g_X8_factor_27 (x1 : Int32) (x2 : Int32) (x3 : Int32) (x4 : Int32) (x5 : Int32) : Option Int32 := (lpF (fun q : (Int32 × Int32) => s_X8_factor_27 x1 x2 x3 q.1 q.2) pfFU (x4, x5)).bind (a_X8_factor_27 x1 x2 x3)
def p_X8_factor  (y1 : Int32) (y2 : Int32) : Option Int32 :=
  ((p_X8_isM y1).bind fun v1 => (if v1 = 0 then some (-1 : Int32) else (if 0 ≤ y2 then ((p_X8_all y1).bind fun v14 => ((p_X8_many v14).bind fun v17 => g_X8_factor_27 y1 y2 v17 (0 : Int32) (2 : Int32))) else some (-1 : Int32))))
theorem kv_X8_factor : yX8_factor.cls = RX8 ∧ yX8_factor.cls ≠ "java/lang/invoke/MethodHandle" ∧ yX8_factor.cls ≠ "java/lang/invoke/VarHandle" ∧ (parseMethodDescriptor yX8_factor.desc).map (fun d => d.parameters.length) = some 2 := by decide +kernel
set_option maxHeartbeats 4000000 in
set_option maxRecDepth 100000 in
theorem c_X8_factor (l : Launch) (G : va_G) (cI cJ cZ cS : ClassId) (q q_bar q_bits q_made q_has q_groups q_sums q_numbers : Nat) (sz : Nat) (f_bar : (Nat → Int32)) (f_bits : (Nat → Int64)) (f_made : (Nat → Int32)) (f_has : (Nat → Int32)) (f_groups : (Nat → Int64)) (f_found : Int32) (f_passed : Int32) (f_looked : Int64) (f_sums : (Nat → Int64)) (f_numbers : (Nat → Int64)) (y1 : Int32) (y2 : Int32) (r : Int32) (h : p_X8_factor  y1 y2 = some r) : Met l yX8_factor wsX8_factor { frames := 4, cells := 0, slots := 0, locals := 93 } (hb_pre G (hbT cI cJ cZ cS) [.ref q, .int y1, .int y2] sz [(q, .inr (6, [.ref q_bar, .ref q_bits, .ref q_made, .ref q_has, .ref q_groups, .int f_found, .int f_passed, .long f_looked, .ref q_sums, .ref q_numbers])), (q_bar, .inl (cI, 160, .inl f_bar)), (q_bits, .inl (cJ, 160, .inr (.inl f_bits))), (q_made, .inl (cI, 4, .inl f_made)), (q_has, .inl (cZ, 3, .inl f_has)), (q_groups, .inl (cJ, 128, .inr (.inl f_groups))), (q_sums, .inl (cJ, 8, .inr (.inl f_sums))), (q_numbers, .inl (cJ, 9, .inr (.inl f_numbers)))]) (hb_Qi G r [(q, .inr (6, [.ref q_bar, .ref q_bits, .ref q_made, .ref q_has, .ref q_groups, .int f_found, .int f_passed, .long f_looked, .ref q_sums, .ref q_numbers])), (q_bar, .inl (cI, 160, .inl f_bar)), (q_bits, .inl (cJ, 160, .inr (.inl f_bits))), (q_made, .inl (cI, 4, .inl f_made)), (q_has, .inl (cZ, 3, .inl f_has)), (q_groups, .inl (cJ, 128, .inr (.inl f_groups))), (q_sums, .inl (cJ, 8, .inr (.inl f_sums))), (q_numbers, .inl (cJ, 9, .inr (.inl f_numbers)))] (va_A [(q, .inr (6, [.ref q_bar, .ref q_bits, .ref q_made, .ref q_has, .ref q_groups, .int f_found, .int f_passed, .long f_looked, .ref q_sums, .ref q_numbers])), (q_bar, .inl (cI, 160, .inl f_bar)), (q_bits, .inl (cJ, 160, .inr (.inl f_bits))), (q_made, .inl (cI, 4, .inl f_made)), (q_has, .inl (cZ, 3, .inl f_has)), (q_groups, .inl (cJ, 128, .inr (.inl f_groups))), (q_sums, .inl (cJ, 8, .inr (.inl f_sums))), (q_numbers, .inl (cJ, 9, .inr (.inl f_numbers)))] sz)) 0 0 (va_A [(q, .inr (6, [.ref q_bar, .ref q_bits, .ref q_made, .ref q_has, .ref q_groups, .int f_found, .int f_passed, .long f_looked, .ref q_sums, .ref q_numbers])), (q_bar, .inl (cI, 160, .inl f_bar)), (q_bits, .inl (cJ, 160, .inr (.inl f_bits))), (q_made, .inl (cI, 4, .inl f_made)), (q_has, .inl (cZ, 3, .inl f_has)), (q_groups, .inl (cJ, 128, .inr (.inl f_groups))), (q_sums, .inl (cJ, 8, .inr (.inl f_sums))), (q_numbers, .inl (cJ, 9, .inr (.inl f_numbers)))] sz) := by
  refine hb_met (Qc := fun A => hb_Qi G r [(q, .inr (6, [.ref q_bar, .ref q_bits, .ref q_made, .ref q_has, .ref q_groups, .int f_found, .int f_passed, .long f_looked, .ref q_sums, .ref q_numbers])), (q_bar, .inl (cI, 160, .inl f_bar)), (q_bits, .inl (cJ, 160, .inr (.inl f_bits))), (q_made, .inl (cI, 4, .inl f_made)), (q_has, .inl (cZ, 3, .inl f_has)), (q_groups, .inl (cJ, 128, .inr (.inl f_groups))), (q_sums, .inl (cJ, 8, .inr (.inl f_sums))), (q_numbers, .inl (cJ, 9, .inr (.inl f_numbers)))] A) (cc := cX8_factor) (maxL := 9) (ret := some .int) (by decide) rfl (Nat.le_of_ble_eq_true rfl) ?_
  intro p e s m below meth c A hx hb hr hts hown hlocks hml hin hK hA hP hD hS ls hl
  have hown : s.vm.findClass RX8 = some m.cls := hown
  have S0 : CallFix p m c cX8_factor 9 s ([.ref q, .int y1, .int y2] : List Value).toArray wsX8_factor RX8 := ⟨hx, hb, hml, hown, hts⟩
  have hl : lv_has ls 9 [(0, .ref q), (1, .int y1), (2, .int y2)] := hl
  have K154 : ∀ (x6 : Int32), e_X8_factor_154 x6 = some r → ∀ (H : Heap) (locs : List Loc), va_P G vwCl [(q, .inr (6, [.ref q_bar, .ref q_bits, .ref q_made, .ref q_has, .ref q_groups, .int f_found, .int f_passed, .long f_looked, .ref q_sums, .ref q_numbers])), (q_bar, .inl (cI, 160, .inl f_bar)), (q_bits, .inl (cJ, 160, .inr (.inl f_bits))), (q_made, .inl (cI, 4, .inl f_made)), (q_has, .inl (cZ, 3, .inl f_has)), (q_groups, .inl (cJ, 128, .inr (.inl f_groups))), (q_sums, .inl (cJ, 8, .inr (.inl f_sums))), (q_numbers, .inl (cJ, 9, .inr (.inl f_numbers)))] H → va_D A [(q, .inr (6, [.ref q_bar, .ref q_bits, .ref q_made, .ref q_has, .ref q_groups, .int f_found, .int f_passed, .long f_looked, .ref q_sums, .ref q_numbers])), (q_bar, .inl (cI, 160, .inl f_bar)), (q_bits, .inl (cJ, 160, .inr (.inl f_bits))), (q_made, .inl (cI, 4, .inl f_made)), (q_has, .inl (cZ, 3, .inl f_has)), (q_groups, .inl (cJ, 128, .inr (.inl f_groups))), (q_sums, .inl (cJ, 8, .inr (.inl f_sums))), (q_numbers, .inl (cJ, 9, .inr (.inl f_numbers)))] → va_S A s.heap H locs → ∀ ls, lv_has ls 9 [(6, .int x6)] → W p l e (headSpec wsX8_factor { frames := 4, cells := 0, slots := 0, locals := 93 }).room s m ([.ref q, .int y1, .int y2] : List Value).toArray below meth c H locs 0 0 (MQ below (hb_Qi G r [(q, .inr (6, [.ref q_bar, .ref q_bits, .ref q_made, .ref q_has, .ref q_groups, .int f_found, .int f_passed, .long f_looked, .ref q_sums, .ref q_numbers])), (q_bar, .inl (cI, 160, .inl f_bar)), (q_bits, .inl (cJ, 160, .inr (.inl f_bits))), (q_made, .inl (cI, 4, .inl f_made)), (q_has, .inl (cZ, 3, .inl f_has)), (q_groups, .inl (cJ, 128, .inr (.inl f_groups))), (q_sums, .inl (cJ, 8, .inr (.inl f_sums))), (q_numbers, .inl (cJ, 9, .inr (.inl f_numbers)))] A) ([.ref q, .int y1, .int y2] : List Value).toArray s 0 0 A) (F0 m 154 ls []) := by
    intro x6 h H locs hP hD hS ls hl
    unfold e_X8_factor_154 at h
    refine lv_iload hx hb dX8_factor_154 (lv_at hl 0 rfl) ?_
    cases h
    exact hb_iret hx hb hr hlocks hP hD hS dX8_factor_156
  have L95 : ∀ (n : Nat) (x1 : Int32) (x3 : Int32) (x5 : Int32) (x6 : Int32) (x7 : Int32) (b : Int32), lpF (fun q : (Int32 × Int32) => s_X8_factor_95 x1 x3 x5 q.1 q.2) n (x6, x7) = some b → a_X8_factor_95 b = some r → ∀ (H : Heap) (locs : List Loc), va_P G vwCl [(q, .inr (6, [.ref q_bar, .ref q_bits, .ref q_made, .ref q_has, .ref q_groups, .int f_found, .int f_passed, .long f_looked, .ref q_sums, .ref q_numbers])), (q_bar, .inl (cI, 160, .inl f_bar)), (q_bits, .inl (cJ, 160, .inr (.inl f_bits))), (q_made, .inl (cI, 4, .inl f_made)), (q_has, .inl (cZ, 3, .inl f_has)), (q_groups, .inl (cJ, 128, .inr (.inl f_groups))), (q_sums, .inl (cJ, 8, .inr (.inl f_sums))), (q_numbers, .inl (cJ, 9, .inr (.inl f_numbers)))] H → va_D A [(q, .inr (6, [.ref q_bar, .ref q_bits, .ref q_made, .ref q_has, .ref q_groups, .int f_found, .int f_passed, .long f_looked, .ref q_sums, .ref q_numbers])), (q_bar, .inl (cI, 160, .inl f_bar)), (q_bits, .inl (cJ, 160, .inr (.inl f_bits))), (q_made, .inl (cI, 4, .inl f_made)), (q_has, .inl (cZ, 3, .inl f_has)), (q_groups, .inl (cJ, 128, .inr (.inl f_groups))), (q_sums, .inl (cJ, 8, .inr (.inl f_sums))), (q_numbers, .inl (cJ, 9, .inr (.inl f_numbers)))] → va_S A s.heap H locs → ∀ ls, lv_has ls 9 [(1, .int x1), (3, .int x3), (5, .int x5), (6, .int x6), (7, .int x7)] → W p l e (headSpec wsX8_factor { frames := 4, cells := 0, slots := 0, locals := 93 }).room s m ([.ref q, .int y1, .int y2] : List Value).toArray below meth c H locs 0 0 (MQ below (hb_Qi G r [(q, .inr (6, [.ref q_bar, .ref q_bits, .ref q_made, .ref q_has, .ref q_groups, .int f_found, .int f_passed, .long f_looked, .ref q_sums, .ref q_numbers])), (q_bar, .inl (cI, 160, .inl f_bar)), (q_bits, .inl (cJ, 160, .inr (.inl f_bits))), (q_made, .inl (cI, 4, .inl f_made)), (q_has, .inl (cZ, 3, .inl f_has)), (q_groups, .inl (cJ, 128, .inr (.inl f_groups))), (q_sums, .inl (cJ, 8, .inr (.inl f_sums))), (q_numbers, .inl (cJ, 9, .inr (.inl f_numbers)))] A) ([.ref q, .int y1, .int y2] : List Value).toArray s 0 0 A) (F0 m 95 ls []) := by
    intro n
    induction n with
    | zero => intro x1 x3 x5 x6 x7 b h; exact lp_zero h
    | succ n ih =>
      intro x1 x3 x5 x6 x7 b h ha H locs hP hD hS ls hl
      obtain ⟨z95, h, hz⟩ := lp_open h
      have h : s_X8_factor_95 x1 x3 x5 x6 x7 = some z95 := h
      have K148 : ∀ (x6 : Int32) (x7 : Int32), e_X8_factor_148 x1 x3 x5 x6 x7 = some z95 → ∀ (H : Heap) (locs : List Loc), va_P G vwCl [(q, .inr (6, [.ref q_bar, .ref q_bits, .ref q_made, .ref q_has, .ref q_groups, .int f_found, .int f_passed, .long f_looked, .ref q_sums, .ref q_numbers])), (q_bar, .inl (cI, 160, .inl f_bar)), (q_bits, .inl (cJ, 160, .inr (.inl f_bits))), (q_made, .inl (cI, 4, .inl f_made)), (q_has, .inl (cZ, 3, .inl f_has)), (q_groups, .inl (cJ, 128, .inr (.inl f_groups))), (q_sums, .inl (cJ, 8, .inr (.inl f_sums))), (q_numbers, .inl (cJ, 9, .inr (.inl f_numbers)))] H → va_D A [(q, .inr (6, [.ref q_bar, .ref q_bits, .ref q_made, .ref q_has, .ref q_groups, .int f_found, .int f_passed, .long f_looked, .ref q_sums, .ref q_numbers])), (q_bar, .inl (cI, 160, .inl f_bar)), (q_bits, .inl (cJ, 160, .inr (.inl f_bits))), (q_made, .inl (cI, 4, .inl f_made)), (q_has, .inl (cZ, 3, .inl f_has)), (q_groups, .inl (cJ, 128, .inr (.inl f_groups))), (q_sums, .inl (cJ, 8, .inr (.inl f_sums))), (q_numbers, .inl (cJ, 9, .inr (.inl f_numbers)))] → va_S A s.heap H locs → ∀ ls, lv_has ls 9 [(1, .int x1), (3, .int x3), (5, .int x5), (6, .int x6), (7, .int x7)] → W p l e (headSpec wsX8_factor { frames := 4, cells := 0, slots := 0, locals := 93 }).room s m ([.ref q, .int y1, .int y2] : List Value).toArray below meth c H locs 0 0 (MQ below (hb_Qi G r [(q, .inr (6, [.ref q_bar, .ref q_bits, .ref q_made, .ref q_has, .ref q_groups, .int f_found, .int f_passed, .long f_looked, .ref q_sums, .ref q_numbers])), (q_bar, .inl (cI, 160, .inl f_bar)), (q_bits, .inl (cJ, 160, .inr (.inl f_bits))), (q_made, .inl (cI, 4, .inl f_made)), (q_has, .inl (cZ, 3, .inl f_has)), (q_groups, .inl (cJ, 128, .inr (.inl f_groups))), (q_sums, .inl (cJ, 8, .inr (.inl f_sums))), (q_numbers, .inl (cJ, 9, .inr (.inl f_numbers)))] A) ([.ref q, .int y1, .int y2] : List Value).toArray s 0 0 A) (F0 m 148 ls []) := by
        intro x6 x7 h H locs hP hD hS ls hl
        unfold e_X8_factor_148 at h
        refine lv_iinc (v := (x7 + (1 : Int32))) (lv' := [(7, .int (x7 + (1 : Int32))), (1, .int x1), (3, .int x3), (5, .int x5), (6, .int x6)]) hx hb dX8_factor_148 hl (k := 4) rfl rfl (by decide) rfl (fun ls hl => ?_)
        refine lv_goto (tgt := 95) hx hb dX8_factor_151 (by decide) ?_
        exact ih x1 x3 x5 x6 (x7 + (1 : Int32)) b (lp_cont h hz) ha H locs hP hD hS ls (lv_sub hl [1, 2, 3, 4, 0] rfl)
      have L122 : ∀ (n : Nat) (x6 : Int32) (x7 : Int32) (x8 : Int32) (b : Int32), lpF (fun q : (Int32 × Int32) => s_X8_factor_122 x1 x3 x5 q.1 x7 q.2) n (x6, x8) = some b → a_X8_factor_122 x1 x3 x5 x7 b = some z95 → ∀ (H : Heap) (locs : List Loc), va_P G vwCl [(q, .inr (6, [.ref q_bar, .ref q_bits, .ref q_made, .ref q_has, .ref q_groups, .int f_found, .int f_passed, .long f_looked, .ref q_sums, .ref q_numbers])), (q_bar, .inl (cI, 160, .inl f_bar)), (q_bits, .inl (cJ, 160, .inr (.inl f_bits))), (q_made, .inl (cI, 4, .inl f_made)), (q_has, .inl (cZ, 3, .inl f_has)), (q_groups, .inl (cJ, 128, .inr (.inl f_groups))), (q_sums, .inl (cJ, 8, .inr (.inl f_sums))), (q_numbers, .inl (cJ, 9, .inr (.inl f_numbers)))] H → va_D A [(q, .inr (6, [.ref q_bar, .ref q_bits, .ref q_made, .ref q_has, .ref q_groups, .int f_found, .int f_passed, .long f_looked, .ref q_sums, .ref q_numbers])), (q_bar, .inl (cI, 160, .inl f_bar)), (q_bits, .inl (cJ, 160, .inr (.inl f_bits))), (q_made, .inl (cI, 4, .inl f_made)), (q_has, .inl (cZ, 3, .inl f_has)), (q_groups, .inl (cJ, 128, .inr (.inl f_groups))), (q_sums, .inl (cJ, 8, .inr (.inl f_sums))), (q_numbers, .inl (cJ, 9, .inr (.inl f_numbers)))] → va_S A s.heap H locs → ∀ ls, lv_has ls 9 [(1, .int x1), (3, .int x3), (5, .int x5), (6, .int x6), (7, .int x7), (8, .int x8)] → W p l e (headSpec wsX8_factor { frames := 4, cells := 0, slots := 0, locals := 93 }).room s m ([.ref q, .int y1, .int y2] : List Value).toArray below meth c H locs 0 0 (MQ below (hb_Qi G r [(q, .inr (6, [.ref q_bar, .ref q_bits, .ref q_made, .ref q_has, .ref q_groups, .int f_found, .int f_passed, .long f_looked, .ref q_sums, .ref q_numbers])), (q_bar, .inl (cI, 160, .inl f_bar)), (q_bits, .inl (cJ, 160, .inr (.inl f_bits))), (q_made, .inl (cI, 4, .inl f_made)), (q_has, .inl (cZ, 3, .inl f_has)), (q_groups, .inl (cJ, 128, .inr (.inl f_groups))), (q_sums, .inl (cJ, 8, .inr (.inl f_sums))), (q_numbers, .inl (cJ, 9, .inr (.inl f_numbers)))] A) ([.ref q, .int y1, .int y2] : List Value).toArray s 0 0 A) (F0 m 122 ls []) := by
        intro n
        induction n with
        | zero => intro x6 x7 x8 b h; exact lp_zero h
        | succ n ih =>
          intro x6 x7 x8 b h ha H locs hP hD hS ls hl
          obtain ⟨z122, h, hz⟩ := lp_open h
          have h : s_X8_factor_122 x1 x3 x5 x6 x7 x8 = some z122 := h
          unfold s_X8_factor_122 at h
          refine lv_iload_n hx hb dX8_factor_122 rfl (lv_at hl 0 rfl) ?_
          refine lv_iload hx hb dX8_factor_123 (lv_at hl 4 rfl) ?_
          refine lv_iload hx hb dX8_factor_125 (lv_at hl 5 rfl) ?_
          obtain ⟨v127, hv127, h⟩ := pf_bind h
          refine pf_call (As := [.int x1, .int x7, .int x8]) (rest := []) S0 (c_X8_cycles l x1 x7 x8 v127 hv127) (va_cwS 3 hts gX8_factor_X8_cycles rfl rfl rfl kd_X8_cycles ⟨Nat.le_of_ble_eq_true rfl, Nat.le_of_ble_eq_true rfl⟩) rfl hl.1 rfl (Nat.le_of_ble_eq_true rfl) dX8_factor_127 ⟨Nat.zero_le _, Nat.zero_le _⟩ ?_
          refine lv_iload hx hb dX8_factor_130 (lv_at hl 2 rfl) ?_
          refine lv_icmp_lt (tgt := 148) hx hb dX8_factor_132 (by decide) (fun c132 => ?_) (fun c132 => ?_)
          · have h := pf_pos h c132
            have ha := pf_aft ha (lp_exit h hz)
            exact K148 x6 x7 ha H locs hP hD hS ls (lv_sub hl [0, 1, 2, 3, 4] rfl)
          · have h := pf_neg h c132
            refine lv_iload hx hb dX8_factor_135 (lv_at hl 3 rfl) ?_
            refine lv_iload hx hb dX8_factor_137 (lv_at hl 4 rfl) ?_
            refine lv_imul hx hb dX8_factor_139 ?_
            refine lv_istore (lv' := [(6, .int (x6 * x7)), (1, .int x1), (3, .int x3), (5, .int x5), (7, .int x7), (8, .int x8)]) hx hb dX8_factor_140 hl (by decide) rfl (fun ls hl => ?_)
            refine lv_iinc (v := (x8 + (1 : Int32))) (lv' := [(8, .int (x8 + (1 : Int32))), (6, .int (x6 * x7)), (1, .int x1), (3, .int x3), (5, .int x5), (7, .int x7)]) hx hb dX8_factor_142 hl (k := 5) rfl rfl (by decide) rfl (fun ls hl => ?_)
            refine lv_goto (tgt := 122) hx hb dX8_factor_145 (by decide) ?_
            exact ih (x6 * x7) x7 (x8 + (1 : Int32)) b (lp_cont h hz) ha H locs hP hD hS ls (lv_sub hl [2, 3, 4, 1, 5, 0] rfl)
      have G122 : ∀ (x6 : Int32) (x7 : Int32) (x8 : Int32), g_X8_factor_122 x1 x3 x5 x6 x7 x8 = some z95 → ∀ (H : Heap) (locs : List Loc), va_P G vwCl [(q, .inr (6, [.ref q_bar, .ref q_bits, .ref q_made, .ref q_has, .ref q_groups, .int f_found, .int f_passed, .long f_looked, .ref q_sums, .ref q_numbers])), (q_bar, .inl (cI, 160, .inl f_bar)), (q_bits, .inl (cJ, 160, .inr (.inl f_bits))), (q_made, .inl (cI, 4, .inl f_made)), (q_has, .inl (cZ, 3, .inl f_has)), (q_groups, .inl (cJ, 128, .inr (.inl f_groups))), (q_sums, .inl (cJ, 8, .inr (.inl f_sums))), (q_numbers, .inl (cJ, 9, .inr (.inl f_numbers)))] H → va_D A [(q, .inr (6, [.ref q_bar, .ref q_bits, .ref q_made, .ref q_has, .ref q_groups, .int f_found, .int f_passed, .long f_looked, .ref q_sums, .ref q_numbers])), (q_bar, .inl (cI, 160, .inl f_bar)), (q_bits, .inl (cJ, 160, .inr (.inl f_bits))), (q_made, .inl (cI, 4, .inl f_made)), (q_has, .inl (cZ, 3, .inl f_has)), (q_groups, .inl (cJ, 128, .inr (.inl f_groups))), (q_sums, .inl (cJ, 8, .inr (.inl f_sums))), (q_numbers, .inl (cJ, 9, .inr (.inl f_numbers)))] → va_S A s.heap H locs → ∀ ls, lv_has ls 9 [(1, .int x1), (3, .int x3), (5, .int x5), (6, .int x6), (7, .int x7), (8, .int x8)] → W p l e (headSpec wsX8_factor { frames := 4, cells := 0, slots := 0, locals := 93 }).room s m ([.ref q, .int y1, .int y2] : List Value).toArray below meth c H locs 0 0 (MQ below (hb_Qi G r [(q, .inr (6, [.ref q_bar, .ref q_bits, .ref q_made, .ref q_has, .ref q_groups, .int f_found, .int f_passed, .long f_looked, .ref q_sums, .ref q_numbers])), (q_bar, .inl (cI, 160, .inl f_bar)), (q_bits, .inl (cJ, 160, .inr (.inl f_bits))), (q_made, .inl (cI, 4, .inl f_made)), (q_has, .inl (cZ, 3, .inl f_has)), (q_groups, .inl (cJ, 128, .inr (.inl f_groups))), (q_sums, .inl (cJ, 8, .inr (.inl f_sums))), (q_numbers, .inl (cJ, 9, .inr (.inl f_numbers)))] A) ([.ref q, .int y1, .int y2] : List Value).toArray s 0 0 A) (F0 m 122 ls []) := by
        intro x6 x7 x8 h
        unfold g_X8_factor_122 at h
        obtain ⟨b, h, ha⟩ := pf_bind h
        exact L122 pfFU x6 x7 x8 b h ha
      unfold s_X8_factor_95 at h
      refine lv_iload hx hb dX8_factor_95 (lv_at hl 4 rfl) ?_
      refine lv_iload_n hx hb dX8_factor_97 rfl (lv_at hl 1 rfl) ?_
      refine lv_icmp_gt (tgt := 154) hx hb dX8_factor_98 (by decide) (fun c98 => ?_) (fun c98 => ?_)
      · have h := pf_pos h c98
        have ha := pf_aft ha (lp_exit h hz)
        exact K154 x6 ha H locs hP hD hS ls (lv_sub hl [3] rfl)
      · have h := pf_neg h c98
        refine lv_iload hx hb dX8_factor_101 (lv_at hl 4 rfl) ?_
        obtain ⟨v103, hv103, h⟩ := pf_bind h
        refine pf_call (As := [.int x7]) (rest := []) S0 (c_X8_isPrime l x7 v103 hv103) (va_cwS 1 hts gX8_factor_X8_isPrime rfl rfl rfl kd_X8_isPrime ⟨Nat.le_of_ble_eq_true rfl, Nat.le_of_ble_eq_true rfl⟩) rfl hl.1 rfl (Nat.le_of_ble_eq_true rfl) dX8_factor_103 ⟨Nat.zero_le _, Nat.zero_le _⟩ ?_
        refine lv_if_eq (tgt := 148) hx hb dX8_factor_106 (by decide) (fun c106 => ?_) (fun c106 => ?_)
        · have h := pf_pos h c106
          refine lv_iinc (v := (x7 + (1 : Int32))) (lv' := [(7, .int (x7 + (1 : Int32))), (1, .int x1), (3, .int x3), (5, .int x5), (6, .int x6)]) hx hb dX8_factor_148 hl (k := 4) rfl rfl (by decide) rfl (fun ls hl => ?_)
          refine lv_goto (tgt := 95) hx hb dX8_factor_151 (by decide) ?_
          exact ih x1 x3 x5 x6 (x7 + (1 : Int32)) b (lp_cont h hz) ha H locs hP hD hS ls (lv_sub hl [1, 2, 3, 4, 0] rfl)
        · have h := pf_neg h c106
          refine lv_iload_n hx hb dX8_factor_109 rfl (lv_at hl 1 rfl) ?_
          refine lv_iload hx hb dX8_factor_110 (lv_at hl 4 rfl) ?_
          obtain ⟨hd112, h⟩ := pf_guard h
          refine pf_irem hx hb dX8_factor_112 hd112 ?_
          refine lv_if_eq (tgt := 119) hx hb dX8_factor_113 (by decide) (fun c113 => ?_) (fun c113 => ?_)
          · have h := pf_pos h c113
            refine lv_iconst (v := 1) hx hb dX8_factor_119 (by decide) ?_
            refine lv_istore (lv' := [(8, .int (1 : Int32)), (1, .int x1), (3, .int x3), (5, .int x5), (6, .int x6), (7, .int x7)]) hx hb dX8_factor_120 hl (by decide) rfl (fun ls hl => ?_)
            exact G122 x6 x7 (1 : Int32) h H locs hP hD hS ls (lv_sub hl [1, 2, 3, 4, 5, 0] rfl)
          · have h := pf_neg h c113
            refine lv_goto (tgt := 148) hx hb dX8_factor_116 (by decide) ?_
            refine lv_iinc (v := (x7 + (1 : Int32))) (lv' := [(7, .int (x7 + (1 : Int32))), (1, .int x1), (3, .int x3), (5, .int x5), (6, .int x6)]) hx hb dX8_factor_148 hl (k := 4) rfl rfl (by decide) rfl (fun ls hl => ?_)
            refine lv_goto (tgt := 95) hx hb dX8_factor_151 (by decide) ?_
            exact ih x1 x3 x5 x6 (x7 + (1 : Int32)) b (lp_cont h hz) ha H locs hP hD hS ls (lv_sub hl [1, 2, 3, 4, 0] rfl)
  have G95 : ∀ (x1 : Int32) (x3 : Int32) (x5 : Int32) (x6 : Int32) (x7 : Int32), g_X8_factor_95 x1 x3 x5 x6 x7 = some r → ∀ (H : Heap) (locs : List Loc), va_P G vwCl [(q, .inr (6, [.ref q_bar, .ref q_bits, .ref q_made, .ref q_has, .ref q_groups, .int f_found, .int f_passed, .long f_looked, .ref q_sums, .ref q_numbers])), (q_bar, .inl (cI, 160, .inl f_bar)), (q_bits, .inl (cJ, 160, .inr (.inl f_bits))), (q_made, .inl (cI, 4, .inl f_made)), (q_has, .inl (cZ, 3, .inl f_has)), (q_groups, .inl (cJ, 128, .inr (.inl f_groups))), (q_sums, .inl (cJ, 8, .inr (.inl f_sums))), (q_numbers, .inl (cJ, 9, .inr (.inl f_numbers)))] H → va_D A [(q, .inr (6, [.ref q_bar, .ref q_bits, .ref q_made, .ref q_has, .ref q_groups, .int f_found, .int f_passed, .long f_looked, .ref q_sums, .ref q_numbers])), (q_bar, .inl (cI, 160, .inl f_bar)), (q_bits, .inl (cJ, 160, .inr (.inl f_bits))), (q_made, .inl (cI, 4, .inl f_made)), (q_has, .inl (cZ, 3, .inl f_has)), (q_groups, .inl (cJ, 128, .inr (.inl f_groups))), (q_sums, .inl (cJ, 8, .inr (.inl f_sums))), (q_numbers, .inl (cJ, 9, .inr (.inl f_numbers)))] → va_S A s.heap H locs → ∀ ls, lv_has ls 9 [(1, .int x1), (3, .int x3), (5, .int x5), (6, .int x6), (7, .int x7)] → W p l e (headSpec wsX8_factor { frames := 4, cells := 0, slots := 0, locals := 93 }).room s m ([.ref q, .int y1, .int y2] : List Value).toArray below meth c H locs 0 0 (MQ below (hb_Qi G r [(q, .inr (6, [.ref q_bar, .ref q_bits, .ref q_made, .ref q_has, .ref q_groups, .int f_found, .int f_passed, .long f_looked, .ref q_sums, .ref q_numbers])), (q_bar, .inl (cI, 160, .inl f_bar)), (q_bits, .inl (cJ, 160, .inr (.inl f_bits))), (q_made, .inl (cI, 4, .inl f_made)), (q_has, .inl (cZ, 3, .inl f_has)), (q_groups, .inl (cJ, 128, .inr (.inl f_groups))), (q_sums, .inl (cJ, 8, .inr (.inl f_sums))), (q_numbers, .inl (cJ, 9, .inr (.inl f_numbers)))] A) ([.ref q, .int y1, .int y2] : List Value).toArray s 0 0 A) (F0 m 95 ls []) := by
    intro x1 x3 x5 x6 x7 h
    unfold g_X8_factor_95 at h
    obtain ⟨b, h, ha⟩ := pf_bind h
    exact L95 pfFU x1 x3 x5 x6 x7 b h ha
  have K75 : ∀ (x1 : Int32) (x2 : Int32) (x3 : Int32) (x4 : Int32), e_X8_factor_75 x1 x2 x3 x4 = some r → ∀ (H : Heap) (locs : List Loc), va_P G vwCl [(q, .inr (6, [.ref q_bar, .ref q_bits, .ref q_made, .ref q_has, .ref q_groups, .int f_found, .int f_passed, .long f_looked, .ref q_sums, .ref q_numbers])), (q_bar, .inl (cI, 160, .inl f_bar)), (q_bits, .inl (cJ, 160, .inr (.inl f_bits))), (q_made, .inl (cI, 4, .inl f_made)), (q_has, .inl (cZ, 3, .inl f_has)), (q_groups, .inl (cJ, 128, .inr (.inl f_groups))), (q_sums, .inl (cJ, 8, .inr (.inl f_sums))), (q_numbers, .inl (cJ, 9, .inr (.inl f_numbers)))] H → va_D A [(q, .inr (6, [.ref q_bar, .ref q_bits, .ref q_made, .ref q_has, .ref q_groups, .int f_found, .int f_passed, .long f_looked, .ref q_sums, .ref q_numbers])), (q_bar, .inl (cI, 160, .inl f_bar)), (q_bits, .inl (cJ, 160, .inr (.inl f_bits))), (q_made, .inl (cI, 4, .inl f_made)), (q_has, .inl (cZ, 3, .inl f_has)), (q_groups, .inl (cJ, 128, .inr (.inl f_groups))), (q_sums, .inl (cJ, 8, .inr (.inl f_sums))), (q_numbers, .inl (cJ, 9, .inr (.inl f_numbers)))] → va_S A s.heap H locs → ∀ ls, lv_has ls 9 [(1, .int x1), (2, .int x2), (3, .int x3), (4, .int x4)] → W p l e (headSpec wsX8_factor { frames := 4, cells := 0, slots := 0, locals := 93 }).room s m ([.ref q, .int y1, .int y2] : List Value).toArray below meth c H locs 0 0 (MQ below (hb_Qi G r [(q, .inr (6, [.ref q_bar, .ref q_bits, .ref q_made, .ref q_has, .ref q_groups, .int f_found, .int f_passed, .long f_looked, .ref q_sums, .ref q_numbers])), (q_bar, .inl (cI, 160, .inl f_bar)), (q_bits, .inl (cJ, 160, .inr (.inl f_bits))), (q_made, .inl (cI, 4, .inl f_made)), (q_has, .inl (cZ, 3, .inl f_has)), (q_groups, .inl (cJ, 128, .inr (.inl f_groups))), (q_sums, .inl (cJ, 8, .inr (.inl f_sums))), (q_numbers, .inl (cJ, 9, .inr (.inl f_numbers)))] A) ([.ref q, .int y1, .int y2] : List Value).toArray s 0 0 A) (F0 m 75 ls []) := by
    intro x1 x2 x3 x4 h H locs hP hD hS ls hl
    unfold e_X8_factor_75 at h
    refine lv_iload_n hx hb dX8_factor_75 rfl (lv_at hl 1 rfl) ?_
    refine lv_iload hx hb dX8_factor_76 (lv_at hl 3 rfl) ?_
    refine lv_icmp_lt (tgt := 83) hx hb dX8_factor_78 (by decide) (fun c78 => ?_) (fun c78 => ?_)
    · have h := pf_pos h c78
      refine lv_iload hx hb dX8_factor_83 (lv_at hl 3 rfl) ?_
      refine lv_iload_n hx hb dX8_factor_85 rfl (lv_at hl 1 rfl) ?_
      refine lv_isub hx hb dX8_factor_86 ?_
      refine lv_istore (lv' := [(5, .int (x4 - x2)), (1, .int x1), (2, .int x2), (3, .int x3), (4, .int x4)]) hx hb dX8_factor_87 hl (by decide) rfl (fun ls hl => ?_)
      refine lv_iconst (v := 1) hx hb dX8_factor_89 (by decide) ?_
      refine lv_istore (lv' := [(6, .int (1 : Int32)), (5, .int (x4 - x2)), (1, .int x1), (2, .int x2), (3, .int x3), (4, .int x4)]) hx hb dX8_factor_90 hl (by decide) rfl (fun ls hl => ?_)
      refine lv_iconst (v := 2) hx hb dX8_factor_92 (by decide) ?_
      refine lv_istore (lv' := [(7, .int (2 : Int32)), (6, .int (1 : Int32)), (5, .int (x4 - x2)), (1, .int x1), (2, .int x2), (3, .int x3), (4, .int x4)]) hx hb dX8_factor_93 hl (by decide) rfl (fun ls hl => ?_)
      exact G95 x1 x3 (x4 - x2) (1 : Int32) (2 : Int32) h H locs hP hD hS ls (lv_sub hl [3, 5, 2, 1, 0] rfl)
    · have h := pf_neg h c78
      refine lv_iconst (v := -1) hx hb dX8_factor_81 (by decide) ?_
      cases h
      exact hb_iret hx hb hr hlocks hP hD hS dX8_factor_82
  have L27 : ∀ (n : Nat) (x1 : Int32) (x2 : Int32) (x3 : Int32) (x4 : Int32) (x5 : Int32) (b : Int32), lpF (fun q : (Int32 × Int32) => s_X8_factor_27 x1 x2 x3 q.1 q.2) n (x4, x5) = some b → a_X8_factor_27 x1 x2 x3 b = some r → ∀ (H : Heap) (locs : List Loc), va_P G vwCl [(q, .inr (6, [.ref q_bar, .ref q_bits, .ref q_made, .ref q_has, .ref q_groups, .int f_found, .int f_passed, .long f_looked, .ref q_sums, .ref q_numbers])), (q_bar, .inl (cI, 160, .inl f_bar)), (q_bits, .inl (cJ, 160, .inr (.inl f_bits))), (q_made, .inl (cI, 4, .inl f_made)), (q_has, .inl (cZ, 3, .inl f_has)), (q_groups, .inl (cJ, 128, .inr (.inl f_groups))), (q_sums, .inl (cJ, 8, .inr (.inl f_sums))), (q_numbers, .inl (cJ, 9, .inr (.inl f_numbers)))] H → va_D A [(q, .inr (6, [.ref q_bar, .ref q_bits, .ref q_made, .ref q_has, .ref q_groups, .int f_found, .int f_passed, .long f_looked, .ref q_sums, .ref q_numbers])), (q_bar, .inl (cI, 160, .inl f_bar)), (q_bits, .inl (cJ, 160, .inr (.inl f_bits))), (q_made, .inl (cI, 4, .inl f_made)), (q_has, .inl (cZ, 3, .inl f_has)), (q_groups, .inl (cJ, 128, .inr (.inl f_groups))), (q_sums, .inl (cJ, 8, .inr (.inl f_sums))), (q_numbers, .inl (cJ, 9, .inr (.inl f_numbers)))] → va_S A s.heap H locs → ∀ ls, lv_has ls 9 [(1, .int x1), (2, .int x2), (3, .int x3), (4, .int x4), (5, .int x5)] → W p l e (headSpec wsX8_factor { frames := 4, cells := 0, slots := 0, locals := 93 }).room s m ([.ref q, .int y1, .int y2] : List Value).toArray below meth c H locs 0 0 (MQ below (hb_Qi G r [(q, .inr (6, [.ref q_bar, .ref q_bits, .ref q_made, .ref q_has, .ref q_groups, .int f_found, .int f_passed, .long f_looked, .ref q_sums, .ref q_numbers])), (q_bar, .inl (cI, 160, .inl f_bar)), (q_bits, .inl (cJ, 160, .inr (.inl f_bits))), (q_made, .inl (cI, 4, .inl f_made)), (q_has, .inl (cZ, 3, .inl f_has)), (q_groups, .inl (cJ, 128, .inr (.inl f_groups))), (q_sums, .inl (cJ, 8, .inr (.inl f_sums))), (q_numbers, .inl (cJ, 9, .inr (.inl f_numbers)))] A) ([.ref q, .int y1, .int y2] : List Value).toArray s 0 0 A) (F0 m 27 ls []) := by
    intro n
    induction n with
    | zero => intro x1 x2 x3 x4 x5 b h; exact lp_zero h
    | succ n ih =>
      intro x1 x2 x3 x4 x5 b h ha H locs hP hD hS ls hl
      obtain ⟨z27, h, hz⟩ := lp_open h
      have h : s_X8_factor_27 x1 x2 x3 x4 x5 = some z27 := h
      unfold s_X8_factor_27 at h
      refine lv_iload hx hb dX8_factor_27 (lv_at hl 4 rfl) ?_
      refine lv_iload_n hx hb dX8_factor_29 rfl (lv_at hl 2 rfl) ?_
      refine lv_icmp_gt (tgt := 75) hx hb dX8_factor_30 (by decide) (fun c30 => ?_) (fun c30 => ?_)
      · have h := pf_pos h c30
        have ha := pf_aft ha (lp_exit h hz)
        exact K75 x1 x2 x3 x4 ha H locs hP hD hS ls (lv_sub hl [0, 1, 2, 3] rfl)
      · have h := pf_neg h c30
        refine lv_iload hx hb dX8_factor_33 (lv_at hl 4 rfl) ?_
        obtain ⟨v35, hv35, h⟩ := pf_bind h
        refine pf_call (As := [.int x5]) (rest := []) S0 (c_X8_isPrime l x5 v35 hv35) (va_cwS 1 hts gX8_factor_X8_isPrime rfl rfl rfl kd_X8_isPrime ⟨Nat.le_of_ble_eq_true rfl, Nat.le_of_ble_eq_true rfl⟩) rfl hl.1 rfl (Nat.le_of_ble_eq_true rfl) dX8_factor_35 ⟨Nat.zero_le _, Nat.zero_le _⟩ ?_
        refine lv_if_eq (tgt := 69) hx hb dX8_factor_38 (by decide) (fun c38 => ?_) (fun c38 => ?_)
        · have h := pf_pos h c38
          refine lv_iinc (v := (x5 + (1 : Int32))) (lv' := [(5, .int (x5 + (1 : Int32))), (1, .int x1), (2, .int x2), (3, .int x3), (4, .int x4)]) hx hb dX8_factor_69 hl (k := 4) rfl rfl (by decide) rfl (fun ls hl => ?_)
          refine lv_goto (tgt := 27) hx hb dX8_factor_72 (by decide) ?_
          exact ih x1 x2 x3 x4 (x5 + (1 : Int32)) b (lp_cont h hz) ha H locs hP hD hS ls (lv_sub hl [1, 2, 3, 4, 0] rfl)
        · have h := pf_neg h c38
          refine lv_iload_n hx hb dX8_factor_41 rfl (lv_at hl 2 rfl) ?_
          refine lv_iload hx hb dX8_factor_42 (lv_at hl 4 rfl) ?_
          obtain ⟨hd44, h⟩ := pf_guard h
          refine pf_irem hx hb dX8_factor_44 hd44 ?_
          refine lv_if_ne (tgt := 69) hx hb dX8_factor_45 (by decide) (fun c45 => ?_) (fun c45 => ?_)
          · have h := pf_neg h c45
            refine lv_iinc (v := (x5 + (1 : Int32))) (lv' := [(5, .int (x5 + (1 : Int32))), (1, .int x1), (2, .int x2), (3, .int x3), (4, .int x4)]) hx hb dX8_factor_69 hl (k := 4) rfl rfl (by decide) rfl (fun ls hl => ?_)
            refine lv_goto (tgt := 27) hx hb dX8_factor_72 (by decide) ?_
            exact ih x1 x2 x3 x4 (x5 + (1 : Int32)) b (lp_cont h hz) ha H locs hP hD hS ls (lv_sub hl [1, 2, 3, 4, 0] rfl)
          · have h := pf_pos h c45
            refine lv_iload_n hx hb dX8_factor_48 rfl (lv_at hl 0 rfl) ?_
            refine lv_iload hx hb dX8_factor_49 (lv_at hl 4 rfl) ?_
            refine lv_iconst (v := 1) hx hb dX8_factor_51 (by decide) ?_
            obtain ⟨v52, hv52, h⟩ := pf_bind h
            refine pf_call (As := [.int x1, .int x5, .int (1 : Int32)]) (rest := []) S0 (c_X8_cycles l x1 x5 (1 : Int32) v52 hv52) (va_cwS 3 hts gX8_factor_X8_cycles rfl rfl rfl kd_X8_cycles ⟨Nat.le_of_ble_eq_true rfl, Nat.le_of_ble_eq_true rfl⟩) rfl hl.1 rfl (Nat.le_of_ble_eq_true rfl) dX8_factor_52 ⟨Nat.zero_le _, Nat.zero_le _⟩ ?_
            refine lv_iload hx hb dX8_factor_55 (lv_at hl 3 rfl) ?_
            refine lv_icmp_le (tgt := 69) hx hb dX8_factor_57 (by decide) (fun c57 => ?_) (fun c57 => ?_)
            · have h := pf_pos h c57
              refine lv_iinc (v := (x5 + (1 : Int32))) (lv' := [(5, .int (x5 + (1 : Int32))), (1, .int x1), (2, .int x2), (3, .int x3), (4, .int x4)]) hx hb dX8_factor_69 hl (k := 4) rfl rfl (by decide) rfl (fun ls hl => ?_)
              refine lv_goto (tgt := 27) hx hb dX8_factor_72 (by decide) ?_
              exact ih x1 x2 x3 x4 (x5 + (1 : Int32)) b (lp_cont h hz) ha H locs hP hD hS ls (lv_sub hl [1, 2, 3, 4, 0] rfl)
            · have h := pf_neg h c57
              refine lv_iload_n hx hb dX8_factor_60 rfl (lv_at hl 0 rfl) ?_
              refine lv_iload hx hb dX8_factor_61 (lv_at hl 4 rfl) ?_
              refine lv_iconst (v := 1) hx hb dX8_factor_63 (by decide) ?_
              obtain ⟨v64, hv64, h⟩ := pf_bind h
              refine pf_call (As := [.int x1, .int x5, .int (1 : Int32)]) (rest := []) S0 (c_X8_cycles l x1 x5 (1 : Int32) v64 hv64) (va_cwS 3 hts gX8_factor_X8_cycles rfl rfl rfl kd_X8_cycles ⟨Nat.le_of_ble_eq_true rfl, Nat.le_of_ble_eq_true rfl⟩) rfl hl.1 rfl (Nat.le_of_ble_eq_true rfl) dX8_factor_64 ⟨Nat.zero_le _, Nat.zero_le _⟩ ?_
              refine lv_istore (lv' := [(4, .int v64), (1, .int x1), (2, .int x2), (3, .int x3), (5, .int x5)]) hx hb dX8_factor_67 hl (by decide) rfl (fun ls hl => ?_)
              refine lv_iinc (v := (x5 + (1 : Int32))) (lv' := [(5, .int (x5 + (1 : Int32))), (4, .int v64), (1, .int x1), (2, .int x2), (3, .int x3)]) hx hb dX8_factor_69 hl (k := 4) rfl rfl (by decide) rfl (fun ls hl => ?_)
              refine lv_goto (tgt := 27) hx hb dX8_factor_72 (by decide) ?_
              exact ih x1 x2 x3 v64 (x5 + (1 : Int32)) b (lp_cont h hz) ha H locs hP hD hS ls (lv_sub hl [2, 3, 4, 1, 0] rfl)
  have G27 : ∀ (x1 : Int32) (x2 : Int32) (x3 : Int32) (x4 : Int32) (x5 : Int32), g_X8_factor_27 x1 x2 x3 x4 x5 = some r → ∀ (H : Heap) (locs : List Loc), va_P G vwCl [(q, .inr (6, [.ref q_bar, .ref q_bits, .ref q_made, .ref q_has, .ref q_groups, .int f_found, .int f_passed, .long f_looked, .ref q_sums, .ref q_numbers])), (q_bar, .inl (cI, 160, .inl f_bar)), (q_bits, .inl (cJ, 160, .inr (.inl f_bits))), (q_made, .inl (cI, 4, .inl f_made)), (q_has, .inl (cZ, 3, .inl f_has)), (q_groups, .inl (cJ, 128, .inr (.inl f_groups))), (q_sums, .inl (cJ, 8, .inr (.inl f_sums))), (q_numbers, .inl (cJ, 9, .inr (.inl f_numbers)))] H → va_D A [(q, .inr (6, [.ref q_bar, .ref q_bits, .ref q_made, .ref q_has, .ref q_groups, .int f_found, .int f_passed, .long f_looked, .ref q_sums, .ref q_numbers])), (q_bar, .inl (cI, 160, .inl f_bar)), (q_bits, .inl (cJ, 160, .inr (.inl f_bits))), (q_made, .inl (cI, 4, .inl f_made)), (q_has, .inl (cZ, 3, .inl f_has)), (q_groups, .inl (cJ, 128, .inr (.inl f_groups))), (q_sums, .inl (cJ, 8, .inr (.inl f_sums))), (q_numbers, .inl (cJ, 9, .inr (.inl f_numbers)))] → va_S A s.heap H locs → ∀ ls, lv_has ls 9 [(1, .int x1), (2, .int x2), (3, .int x3), (4, .int x4), (5, .int x5)] → W p l e (headSpec wsX8_factor { frames := 4, cells := 0, slots := 0, locals := 93 }).room s m ([.ref q, .int y1, .int y2] : List Value).toArray below meth c H locs 0 0 (MQ below (hb_Qi G r [(q, .inr (6, [.ref q_bar, .ref q_bits, .ref q_made, .ref q_has, .ref q_groups, .int f_found, .int f_passed, .long f_looked, .ref q_sums, .ref q_numbers])), (q_bar, .inl (cI, 160, .inl f_bar)), (q_bits, .inl (cJ, 160, .inr (.inl f_bits))), (q_made, .inl (cI, 4, .inl f_made)), (q_has, .inl (cZ, 3, .inl f_has)), (q_groups, .inl (cJ, 128, .inr (.inl f_groups))), (q_sums, .inl (cJ, 8, .inr (.inl f_sums))), (q_numbers, .inl (cJ, 9, .inr (.inl f_numbers)))] A) ([.ref q, .int y1, .int y2] : List Value).toArray s 0 0 A) (F0 m 27 ls []) := by
    intro x1 x2 x3 x4 x5 h
    unfold g_X8_factor_27 at h
    obtain ⟨b, h, ha⟩ := pf_bind h
    exact L27 pfFU x1 x2 x3 x4 x5 b h ha
  suffices hh : ∀ (H : Heap) (locs : List Loc), va_P G vwCl [(q, .inr (6, [.ref q_bar, .ref q_bits, .ref q_made, .ref q_has, .ref q_groups, .int f_found, .int f_passed, .long f_looked, .ref q_sums, .ref q_numbers])), (q_bar, .inl (cI, 160, .inl f_bar)), (q_bits, .inl (cJ, 160, .inr (.inl f_bits))), (q_made, .inl (cI, 4, .inl f_made)), (q_has, .inl (cZ, 3, .inl f_has)), (q_groups, .inl (cJ, 128, .inr (.inl f_groups))), (q_sums, .inl (cJ, 8, .inr (.inl f_sums))), (q_numbers, .inl (cJ, 9, .inr (.inl f_numbers)))] H → va_D A [(q, .inr (6, [.ref q_bar, .ref q_bits, .ref q_made, .ref q_has, .ref q_groups, .int f_found, .int f_passed, .long f_looked, .ref q_sums, .ref q_numbers])), (q_bar, .inl (cI, 160, .inl f_bar)), (q_bits, .inl (cJ, 160, .inr (.inl f_bits))), (q_made, .inl (cI, 4, .inl f_made)), (q_has, .inl (cZ, 3, .inl f_has)), (q_groups, .inl (cJ, 128, .inr (.inl f_groups))), (q_sums, .inl (cJ, 8, .inr (.inl f_sums))), (q_numbers, .inl (cJ, 9, .inr (.inl f_numbers)))] → va_S A s.heap H locs → W p l e (headSpec wsX8_factor { frames := 4, cells := 0, slots := 0, locals := 93 }).room s m ([.ref q, .int y1, .int y2] : List Value).toArray below meth c H locs 0 0 (MQ below (hb_Qi G r [(q, .inr (6, [.ref q_bar, .ref q_bits, .ref q_made, .ref q_has, .ref q_groups, .int f_found, .int f_passed, .long f_looked, .ref q_sums, .ref q_numbers])), (q_bar, .inl (cI, 160, .inl f_bar)), (q_bits, .inl (cJ, 160, .inr (.inl f_bits))), (q_made, .inl (cI, 4, .inl f_made)), (q_has, .inl (cZ, 3, .inl f_has)), (q_groups, .inl (cJ, 128, .inr (.inl f_groups))), (q_sums, .inl (cJ, 8, .inr (.inl f_sums))), (q_numbers, .inl (cJ, 9, .inr (.inl f_numbers)))] A) ([.ref q, .int y1, .int y2] : List Value).toArray s 0 0 A) (F0 m 0 ls []) from hh s.heap [] hP hD hS
  intro H locs hP hD hS
  unfold p_X8_factor at h
  refine lv_iload_n hx hb dX8_factor_0 rfl (lv_at hl 1 rfl) ?_
  obtain ⟨v1, hv1, h⟩ := pf_bind h
  refine pf_call (As := [.int y1]) (rest := []) S0 (c_X8_isM l y1 v1 hv1) (va_cwS 1 hts gX8_factor_X8_isM rfl rfl rfl kd_X8_isM ⟨Nat.le_of_ble_eq_true rfl, Nat.le_of_ble_eq_true rfl⟩) rfl hl.1 rfl (Nat.le_of_ble_eq_true rfl) dX8_factor_1 ⟨Nat.zero_le _, Nat.zero_le _⟩ ?_
  refine lv_if_eq (tgt := 11) hx hb dX8_factor_4 (by decide) (fun c4 => ?_) (fun c4 => ?_)
  · have h := pf_pos h c4
    refine lv_iconst (v := -1) hx hb dX8_factor_11 (by decide) ?_
    cases h
    exact hb_iret hx hb hr hlocks hP hD hS dX8_factor_12
  · have h := pf_neg h c4
    refine lv_iload_n hx hb dX8_factor_7 rfl (lv_at hl 2 rfl) ?_
    refine lv_if_ge (tgt := 13) hx hb dX8_factor_8 (by decide) (fun c8 => ?_) (fun c8 => ?_)
    · have h := pf_pos h c8
      refine lv_iload_n hx hb dX8_factor_13 rfl (lv_at hl 1 rfl) ?_
      obtain ⟨v14, hv14, h⟩ := pf_bind h
      refine pf_call (As := [.int y1]) (rest := []) S0 (c_X8_all l y1 v14 hv14) (va_cwS 1 hts gX8_factor_X8_all rfl rfl rfl kd_X8_all ⟨Nat.le_of_ble_eq_true rfl, Nat.le_of_ble_eq_true rfl⟩) rfl hl.1 rfl (Nat.le_of_ble_eq_true rfl) dX8_factor_14 ⟨Nat.zero_le _, Nat.zero_le _⟩ ?_
      obtain ⟨v17, hv17, h⟩ := pf_bind h
      refine pf_call (As := [.long v14]) (rest := []) S0 (c_X8_many l v14 v17 hv17) (va_cwS 1 hts gX8_factor_X8_many rfl rfl rfl kd_X8_many ⟨Nat.le_of_ble_eq_true rfl, Nat.le_of_ble_eq_true rfl⟩) rfl hl.1 rfl (Nat.le_of_ble_eq_true rfl) dX8_factor_17 ⟨Nat.zero_le _, Nat.zero_le _⟩ ?_
      refine lv_istore_n (lv' := [(3, .int v17), (0, .ref q), (1, .int y1), (2, .int y2)]) hx hb dX8_factor_20 rfl hl (by decide) rfl (fun ls hl => ?_)
      refine lv_iconst (v := 0) hx hb dX8_factor_21 (by decide) ?_
      refine lv_istore (lv' := [(4, .int (0 : Int32)), (3, .int v17), (0, .ref q), (1, .int y1), (2, .int y2)]) hx hb dX8_factor_22 hl (by decide) rfl (fun ls hl => ?_)
      refine lv_iconst (v := 2) hx hb dX8_factor_24 (by decide) ?_
      refine lv_istore (lv' := [(5, .int (2 : Int32)), (4, .int (0 : Int32)), (3, .int v17), (0, .ref q), (1, .int y1), (2, .int y2)]) hx hb dX8_factor_25 hl (by decide) rfl (fun ls hl => ?_)
      exact G27 y1 y2 v17 (0 : Int32) (2 : Int32) h H locs hP hD hS ls (lv_sub hl [4, 5, 2, 1, 0] rfl)
    · have h := pf_neg h c8
      refine lv_iconst (v := -1) hx hb dX8_factor_11 (by decide) ?_
      cases h
      exact hb_iret hx hb hr hlocks hP hD hS dX8_factor_12
-- X8_keeps
def e_X8_keeps_64 (x4 : Int32) (x5 : Int64) (f_bar : (Nat → Int32)) (f_bits : (Nat → Int64)) (f_made : (Nat → Int32)) : Option (Int32 × (Nat → Int32) × (Nat → Int64) × (Nat → Int32)) :=
  (if (f_made ((0 : Int32)).toNatClampNeg) = (40 : Int32) then some ((-1 : Int32), f_bar, f_bits, f_made) else (if ainB (f_made ((0 : Int32)).toNatClampNeg) 160 = true then (if ainB (f_made ((0 : Int32)).toNatClampNeg) 160 = true then some ((((upd f_made ((0 : Int32)).toNatClampNeg ((f_made ((0 : Int32)).toNatClampNeg) + (1 : Int32))) ((0 : Int32)).toNatClampNeg) - (1 : Int32)), (upd f_bar ((f_made ((0 : Int32)).toNatClampNeg)).toNatClampNeg x4), (vp_updL f_bits ((f_made ((0 : Int32)).toNatClampNeg)).toNatClampNeg x5), (upd f_made ((0 : Int32)).toNatClampNeg ((f_made ((0 : Int32)).toNatClampNeg) + (1 : Int32)))) else none) else none))
def e_X8_keeps_55 (x7 : Int32) (f_bar : (Nat → Int32)) (f_bits : (Nat → Int64)) (f_made : (Nat → Int32)) : Option (Int32 × (Nat → Int32) × (Nat → Int64) × (Nat → Int32)) :=
  some (x7, f_bar, f_bits, f_made)
def s_X8_keeps_19 (x4 : Int32) (x5 : Int64) (x7 : Int32) (f_bar : (Nat → Int32)) (f_bits : (Nat → Int64)) (f_made : (Nat → Int32)) : Option (Int32 ⊕ (Int32 ⊕ Unit)) :=
  (if (f_made ((0 : Int32)).toNatClampNeg) ≤ x7 then some (Sum.inr (Sum.inr ())) else (if ainB x7 160 = true then (if (f_bar (x7).toNatClampNeg) = x4 then (if ainB x7 160 = true then (if (f_bits (x7).toNatClampNeg) = x5 then some (Sum.inr (Sum.inl x7)) else some (Sum.inl (x7 + (1 : Int32)))) else none) else some (Sum.inl (x7 + (1 : Int32)))) else none))
def a_X8_keeps_19 (x4 : Int32) (x5 : Int64) (f_bar : (Nat → Int32)) (f_bits : (Nat → Int64)) (f_made : (Nat → Int32)) (b : Int32 ⊕ Unit) : Option (Int32 × (Nat → Int32) × (Nat → Int64) × (Nat → Int32)) := Sum.elim (fun q : Int32 => e_X8_keeps_55 q f_bar f_bits f_made) (fun q : Unit => e_X8_keeps_64 x4 x5 f_bar f_bits f_made) b
def g_X8_keeps_19 (x4 : Int32) (x5 : Int64) (x7 : Int32) (f_bar : (Nat → Int32)) (f_bits : (Nat → Int64)) (f_made : (Nat → Int32)) : Option (Int32 × (Nat → Int32) × (Nat → Int64) × (Nat → Int32)) := (lpF (fun q : Int32 => s_X8_keeps_19 x4 x5 q f_bar f_bits f_made) pfFU x7).bind (a_X8_keeps_19 x4 x5 f_bar f_bits f_made)
def p_X8_keeps (f_bar : (Nat → Int32)) (f_bits : (Nat → Int64)) (f_made : (Nat → Int32)) (y1 : Int32) (y2 : Int64) : Option (Int32 × (Nat → Int32) × (Nat → Int64) × (Nat → Int32)) :=
  ((p_X8_barOf y1 y2).bind fun v2 => ((p_X8_down y1 y2 v2).bind fun v11 => g_X8_keeps_19 v2 v11 (0 : Int32) f_bar f_bits f_made))
theorem in_X8_keeps_X8 : ∀ w ∈ u_ws RX8 TX8 10, w ∈ wsX8_keeps := fun w h => List.mem_cons_of_mem _ (List.mem_append_right _ h)
theorem kv_X8_keeps : yX8_keeps.cls = RX8 ∧ yX8_keeps.cls ≠ "java/lang/invoke/MethodHandle" ∧ yX8_keeps.cls ≠ "java/lang/invoke/VarHandle" ∧ (parseMethodDescriptor yX8_keeps.desc).map (fun d => d.parameters.length) = some 2 := by decide +kernel
set_option maxHeartbeats 4000000 in
set_option maxRecDepth 100000 in
theorem c_X8_keeps (l : Launch) (G : va_G) (cI cJ cZ cS : ClassId) (q q_bar q_bits q_made q_has q_groups q_sums q_numbers : Nat) (sz : Nat) (f_bar : (Nat → Int32)) (f_bits : (Nat → Int64)) (f_made : (Nat → Int32)) (f_has : (Nat → Int32)) (f_groups : (Nat → Int64)) (f_found : Int32) (f_passed : Int32) (f_looked : Int64) (f_sums : (Nat → Int64)) (f_numbers : (Nat → Int64)) (y1 : Int32) (y2 : Int64) (r : (Int32 × (Nat → Int32) × (Nat → Int64) × (Nat → Int32))) (h : p_X8_keeps f_bar f_bits f_made y1 y2 = some r) : Met l yX8_keeps wsX8_keeps { frames := 4, cells := 0, slots := 0, locals := 94 } (hb_pre G (hbT cI cJ cZ cS) [.ref q, .int y1, .long y2] sz [(q, .inr (6, [.ref q_bar, .ref q_bits, .ref q_made, .ref q_has, .ref q_groups, .int f_found, .int f_passed, .long f_looked, .ref q_sums, .ref q_numbers])), (q_bar, .inl (cI, 160, .inl f_bar)), (q_bits, .inl (cJ, 160, .inr (.inl f_bits))), (q_made, .inl (cI, 4, .inl f_made)), (q_has, .inl (cZ, 3, .inl f_has)), (q_groups, .inl (cJ, 128, .inr (.inl f_groups))), (q_sums, .inl (cJ, 8, .inr (.inl f_sums))), (q_numbers, .inl (cJ, 9, .inr (.inl f_numbers)))]) (hb_Qi G r.1 [(q, .inr (6, [.ref q_bar, .ref q_bits, .ref q_made, .ref q_has, .ref q_groups, .int f_found, .int f_passed, .long f_looked, .ref q_sums, .ref q_numbers])), (q_bar, .inl (cI, 160, .inl r.2.1)), (q_bits, .inl (cJ, 160, .inr (.inl r.2.2.1))), (q_made, .inl (cI, 4, .inl r.2.2.2)), (q_has, .inl (cZ, 3, .inl f_has)), (q_groups, .inl (cJ, 128, .inr (.inl f_groups))), (q_sums, .inl (cJ, 8, .inr (.inl f_sums))), (q_numbers, .inl (cJ, 9, .inr (.inl f_numbers)))] (va_A [(q, .inr (6, [.ref q_bar, .ref q_bits, .ref q_made, .ref q_has, .ref q_groups, .int f_found, .int f_passed, .long f_looked, .ref q_sums, .ref q_numbers])), (q_bar, .inl (cI, 160, .inl f_bar)), (q_bits, .inl (cJ, 160, .inr (.inl f_bits))), (q_made, .inl (cI, 4, .inl f_made)), (q_has, .inl (cZ, 3, .inl f_has)), (q_groups, .inl (cJ, 128, .inr (.inl f_groups))), (q_sums, .inl (cJ, 8, .inr (.inl f_sums))), (q_numbers, .inl (cJ, 9, .inr (.inl f_numbers)))] sz)) 0 0 (va_A [(q, .inr (6, [.ref q_bar, .ref q_bits, .ref q_made, .ref q_has, .ref q_groups, .int f_found, .int f_passed, .long f_looked, .ref q_sums, .ref q_numbers])), (q_bar, .inl (cI, 160, .inl f_bar)), (q_bits, .inl (cJ, 160, .inr (.inl f_bits))), (q_made, .inl (cI, 4, .inl f_made)), (q_has, .inl (cZ, 3, .inl f_has)), (q_groups, .inl (cJ, 128, .inr (.inl f_groups))), (q_sums, .inl (cJ, 8, .inr (.inl f_sums))), (q_numbers, .inl (cJ, 9, .inr (.inl f_numbers)))] sz) := by
  refine hb_met (Qc := fun A => hb_Qi G r.1 [(q, .inr (6, [.ref q_bar, .ref q_bits, .ref q_made, .ref q_has, .ref q_groups, .int f_found, .int f_passed, .long f_looked, .ref q_sums, .ref q_numbers])), (q_bar, .inl (cI, 160, .inl r.2.1)), (q_bits, .inl (cJ, 160, .inr (.inl r.2.2.1))), (q_made, .inl (cI, 4, .inl r.2.2.2)), (q_has, .inl (cZ, 3, .inl f_has)), (q_groups, .inl (cJ, 128, .inr (.inl f_groups))), (q_sums, .inl (cJ, 8, .inr (.inl f_sums))), (q_numbers, .inl (cJ, 9, .inr (.inl f_numbers)))] A) (cc := cX8_keeps) (maxL := 8) (ret := some .int) (by decide) rfl (Nat.le_of_ble_eq_true rfl) ?_
  intro p e s m below meth c A hx hb hr hts hown hlocks hml hin hK hA hP hD hS ls hl
  have hown : s.vm.findClass RX8 = some m.cls := hown
  have S0 : CallFix p m c cX8_keeps 8 s ([.ref q, .int y1, .long y2] : List Value).toArray wsX8_keeps RX8 := ⟨hx, hb, hml, hown, hts⟩
  have hl : lv_has ls 8 [(0, .ref q), (1, .int y1), (2, .long y2)] := hl
  have K64 : ∀ (x4 : Int32) (x5 : Int64) (f_bar : (Nat → Int32)) (f_bits : (Nat → Int64)) (f_made : (Nat → Int32)), e_X8_keeps_64 x4 x5 f_bar f_bits f_made = some r → ∀ (H : Heap) (locs : List Loc), va_P G vwCl [(q, .inr (6, [.ref q_bar, .ref q_bits, .ref q_made, .ref q_has, .ref q_groups, .int f_found, .int f_passed, .long f_looked, .ref q_sums, .ref q_numbers])), (q_bar, .inl (cI, 160, .inl f_bar)), (q_bits, .inl (cJ, 160, .inr (.inl f_bits))), (q_made, .inl (cI, 4, .inl f_made)), (q_has, .inl (cZ, 3, .inl f_has)), (q_groups, .inl (cJ, 128, .inr (.inl f_groups))), (q_sums, .inl (cJ, 8, .inr (.inl f_sums))), (q_numbers, .inl (cJ, 9, .inr (.inl f_numbers)))] H → va_D A [(q, .inr (6, [.ref q_bar, .ref q_bits, .ref q_made, .ref q_has, .ref q_groups, .int f_found, .int f_passed, .long f_looked, .ref q_sums, .ref q_numbers])), (q_bar, .inl (cI, 160, .inl f_bar)), (q_bits, .inl (cJ, 160, .inr (.inl f_bits))), (q_made, .inl (cI, 4, .inl f_made)), (q_has, .inl (cZ, 3, .inl f_has)), (q_groups, .inl (cJ, 128, .inr (.inl f_groups))), (q_sums, .inl (cJ, 8, .inr (.inl f_sums))), (q_numbers, .inl (cJ, 9, .inr (.inl f_numbers)))] → va_S A s.heap H locs → ∀ ls, lv_has ls 8 [(0, .ref q), (4, .int x4), (5, .long x5)] → W p l e (headSpec wsX8_keeps { frames := 4, cells := 0, slots := 0, locals := 94 }).room s m ([.ref q, .int y1, .long y2] : List Value).toArray below meth c H locs 0 0 (MQ below (hb_Qi G r.1 [(q, .inr (6, [.ref q_bar, .ref q_bits, .ref q_made, .ref q_has, .ref q_groups, .int f_found, .int f_passed, .long f_looked, .ref q_sums, .ref q_numbers])), (q_bar, .inl (cI, 160, .inl r.2.1)), (q_bits, .inl (cJ, 160, .inr (.inl r.2.2.1))), (q_made, .inl (cI, 4, .inl r.2.2.2)), (q_has, .inl (cZ, 3, .inl f_has)), (q_groups, .inl (cJ, 128, .inr (.inl f_groups))), (q_sums, .inl (cJ, 8, .inr (.inl f_sums))), (q_numbers, .inl (cJ, 9, .inr (.inl f_numbers)))] A) ([.ref q, .int y1, .long y2] : List Value).toArray s 0 0 A) (F0 m 64 ls []) := by
    intro x4 x5 f_bar f_bits f_made h H locs hP hD hS ls hl
    unfold e_X8_keeps_64 at h
    refine lv_aload_n hx hb dX8_keeps_64 rfl (lv_at hl 0 rfl) ?_
    refine va_get (D := G) (ci := 6) (v := .ref q_made) (C := RX8) (T := TX8) (N := 10) hx hb hts in_X8_keeps_X8 hown hK.1 hP 0 rfl rfl 2 (by decide) (hts (.fieldLink RX8 17 "FieldsByClassesModel" "made" "[I") (by decide +kernel)) (fun _ h9 => h9) rfl dX8_keeps_65 ?_
    refine lv_iconst (v := 0) hx hb dX8_keeps_68 (by decide) ?_
    refine va_iald hx hb hK.1 hP 3 0 rfl rfl (ain_of (by decide)) dX8_keeps_69 ?_
    refine lv_bipush (v := 40) hx hb dX8_keeps_70 (by decide) ?_
    refine lv_icmp_ne (tgt := 77) hx hb dX8_keeps_72 (by decide) (fun c72 => ?_) (fun c72 => ?_)
    · have h := pf_neg h c72
      refine lv_aload_n hx hb dX8_keeps_77 rfl (lv_at hl 0 rfl) ?_
      refine va_get (D := G) (ci := 6) (v := .ref q_bar) (C := RX8) (T := TX8) (N := 10) hx hb hts in_X8_keeps_X8 hown hK.1 hP 0 rfl rfl 0 (by decide) (hts (.fieldLink RX8 7 "FieldsByClassesModel" "bar" "[I") (by decide +kernel)) (fun _ h9 => h9) rfl dX8_keeps_78 ?_
      refine lv_aload_n hx hb dX8_keeps_81 rfl (lv_at hl 0 rfl) ?_
      refine va_get (D := G) (ci := 6) (v := .ref q_made) (C := RX8) (T := TX8) (N := 10) hx hb hts in_X8_keeps_X8 hown hK.1 hP 0 rfl rfl 2 (by decide) (hts (.fieldLink RX8 17 "FieldsByClassesModel" "made" "[I") (by decide +kernel)) (fun _ h9 => h9) rfl dX8_keeps_82 ?_
      refine lv_iconst (v := 0) hx hb dX8_keeps_85 (by decide) ?_
      refine va_iald hx hb hK.1 hP 3 0 rfl rfl (ain_of (by decide)) dX8_keeps_86 ?_
      refine lv_iload hx hb dX8_keeps_87 (lv_at hl 1 rfl) ?_
      obtain ⟨hi89, h⟩ := pf_need h
      refine va_iast hx hb hK.1 hP hD hS 1 0 rfl rfl (ain_of hi89) dX8_keeps_89 (fun H locs hP hD hS => ?_)
      have hP : va_P G vwCl [(q, .inr (6, [.ref q_bar, .ref q_bits, .ref q_made, .ref q_has, .ref q_groups, .int f_found, .int f_passed, .long f_looked, .ref q_sums, .ref q_numbers])), (q_bar, .inl (cI, 160, .inl (upd f_bar ((f_made ((0 : Int32)).toNatClampNeg)).toNatClampNeg x4))), (q_bits, .inl (cJ, 160, .inr (.inl f_bits))), (q_made, .inl (cI, 4, .inl f_made)), (q_has, .inl (cZ, 3, .inl f_has)), (q_groups, .inl (cJ, 128, .inr (.inl f_groups))), (q_sums, .inl (cJ, 8, .inr (.inl f_sums))), (q_numbers, .inl (cJ, 9, .inr (.inl f_numbers)))] H := hP
      have hD : va_D A [(q, .inr (6, [.ref q_bar, .ref q_bits, .ref q_made, .ref q_has, .ref q_groups, .int f_found, .int f_passed, .long f_looked, .ref q_sums, .ref q_numbers])), (q_bar, .inl (cI, 160, .inl (upd f_bar ((f_made ((0 : Int32)).toNatClampNeg)).toNatClampNeg x4))), (q_bits, .inl (cJ, 160, .inr (.inl f_bits))), (q_made, .inl (cI, 4, .inl f_made)), (q_has, .inl (cZ, 3, .inl f_has)), (q_groups, .inl (cJ, 128, .inr (.inl f_groups))), (q_sums, .inl (cJ, 8, .inr (.inl f_sums))), (q_numbers, .inl (cJ, 9, .inr (.inl f_numbers)))] := hD
      refine lv_aload_n hx hb dX8_keeps_90 rfl (lv_at hl 0 rfl) ?_
      refine va_get (D := G) (ci := 6) (v := .ref q_bits) (C := RX8) (T := TX8) (N := 10) hx hb hts in_X8_keeps_X8 hown hK.1 hP 0 rfl rfl 1 (by decide) (hts (.fieldLink RX8 13 "FieldsByClassesModel" "bits" "[J") (by decide +kernel)) (fun _ h9 => h9) rfl dX8_keeps_91 ?_
      refine lv_aload_n hx hb dX8_keeps_94 rfl (lv_at hl 0 rfl) ?_
      refine va_get (D := G) (ci := 6) (v := .ref q_made) (C := RX8) (T := TX8) (N := 10) hx hb hts in_X8_keeps_X8 hown hK.1 hP 0 rfl rfl 2 (by decide) (hts (.fieldLink RX8 17 "FieldsByClassesModel" "made" "[I") (by decide +kernel)) (fun _ h9 => h9) rfl dX8_keeps_95 ?_
      refine lv_iconst (v := 0) hx hb dX8_keeps_98 (by decide) ?_
      refine va_iald hx hb hK.1 hP 3 0 rfl rfl (ain_of (by decide)) dX8_keeps_99 ?_
      refine lv_lload hx hb dX8_keeps_100 (lv_at hl 2 rfl) ?_
      obtain ⟨hi102, h⟩ := pf_need h
      refine va_last hx hb hK.1 hP hD hS 2 1 rfl rfl (ain_of hi102) dX8_keeps_102 (fun H locs hP hD hS => ?_)
      have hP : va_P G vwCl [(q, .inr (6, [.ref q_bar, .ref q_bits, .ref q_made, .ref q_has, .ref q_groups, .int f_found, .int f_passed, .long f_looked, .ref q_sums, .ref q_numbers])), (q_bar, .inl (cI, 160, .inl (upd f_bar ((f_made ((0 : Int32)).toNatClampNeg)).toNatClampNeg x4))), (q_bits, .inl (cJ, 160, .inr (.inl (vp_updL f_bits ((f_made ((0 : Int32)).toNatClampNeg)).toNatClampNeg x5)))), (q_made, .inl (cI, 4, .inl f_made)), (q_has, .inl (cZ, 3, .inl f_has)), (q_groups, .inl (cJ, 128, .inr (.inl f_groups))), (q_sums, .inl (cJ, 8, .inr (.inl f_sums))), (q_numbers, .inl (cJ, 9, .inr (.inl f_numbers)))] H := hP
      have hD : va_D A [(q, .inr (6, [.ref q_bar, .ref q_bits, .ref q_made, .ref q_has, .ref q_groups, .int f_found, .int f_passed, .long f_looked, .ref q_sums, .ref q_numbers])), (q_bar, .inl (cI, 160, .inl (upd f_bar ((f_made ((0 : Int32)).toNatClampNeg)).toNatClampNeg x4))), (q_bits, .inl (cJ, 160, .inr (.inl (vp_updL f_bits ((f_made ((0 : Int32)).toNatClampNeg)).toNatClampNeg x5)))), (q_made, .inl (cI, 4, .inl f_made)), (q_has, .inl (cZ, 3, .inl f_has)), (q_groups, .inl (cJ, 128, .inr (.inl f_groups))), (q_sums, .inl (cJ, 8, .inr (.inl f_sums))), (q_numbers, .inl (cJ, 9, .inr (.inl f_numbers)))] := hD
      refine lv_aload_n hx hb dX8_keeps_103 rfl (lv_at hl 0 rfl) ?_
      refine va_get (D := G) (ci := 6) (v := .ref q_made) (C := RX8) (T := TX8) (N := 10) hx hb hts in_X8_keeps_X8 hown hK.1 hP 0 rfl rfl 2 (by decide) (hts (.fieldLink RX8 17 "FieldsByClassesModel" "made" "[I") (by decide +kernel)) (fun _ h9 => h9) rfl dX8_keeps_104 ?_
      refine lv_iconst (v := 0) hx hb dX8_keeps_107 (by decide) ?_
      refine lv_dup2_11 hx hb dX8_keeps_108 rfl rfl ?_
      refine va_iald hx hb hK.1 hP 3 0 rfl rfl (ain_of (by decide)) dX8_keeps_109 ?_
      refine lv_iconst (v := 1) hx hb dX8_keeps_110 (by decide) ?_
      refine lv_iadd hx hb dX8_keeps_111 ?_
      refine va_iast hx hb hK.1 hP hD hS 3 0 rfl rfl (ain_of (by decide)) dX8_keeps_112 (fun H locs hP hD hS => ?_)
      have hP : va_P G vwCl [(q, .inr (6, [.ref q_bar, .ref q_bits, .ref q_made, .ref q_has, .ref q_groups, .int f_found, .int f_passed, .long f_looked, .ref q_sums, .ref q_numbers])), (q_bar, .inl (cI, 160, .inl (upd f_bar ((f_made ((0 : Int32)).toNatClampNeg)).toNatClampNeg x4))), (q_bits, .inl (cJ, 160, .inr (.inl (vp_updL f_bits ((f_made ((0 : Int32)).toNatClampNeg)).toNatClampNeg x5)))), (q_made, .inl (cI, 4, .inl (upd f_made ((0 : Int32)).toNatClampNeg ((f_made ((0 : Int32)).toNatClampNeg) + (1 : Int32))))), (q_has, .inl (cZ, 3, .inl f_has)), (q_groups, .inl (cJ, 128, .inr (.inl f_groups))), (q_sums, .inl (cJ, 8, .inr (.inl f_sums))), (q_numbers, .inl (cJ, 9, .inr (.inl f_numbers)))] H := hP
      have hD : va_D A [(q, .inr (6, [.ref q_bar, .ref q_bits, .ref q_made, .ref q_has, .ref q_groups, .int f_found, .int f_passed, .long f_looked, .ref q_sums, .ref q_numbers])), (q_bar, .inl (cI, 160, .inl (upd f_bar ((f_made ((0 : Int32)).toNatClampNeg)).toNatClampNeg x4))), (q_bits, .inl (cJ, 160, .inr (.inl (vp_updL f_bits ((f_made ((0 : Int32)).toNatClampNeg)).toNatClampNeg x5)))), (q_made, .inl (cI, 4, .inl (upd f_made ((0 : Int32)).toNatClampNeg ((f_made ((0 : Int32)).toNatClampNeg) + (1 : Int32))))), (q_has, .inl (cZ, 3, .inl f_has)), (q_groups, .inl (cJ, 128, .inr (.inl f_groups))), (q_sums, .inl (cJ, 8, .inr (.inl f_sums))), (q_numbers, .inl (cJ, 9, .inr (.inl f_numbers)))] := hD
      refine lv_aload_n hx hb dX8_keeps_113 rfl (lv_at hl 0 rfl) ?_
      refine va_get (D := G) (ci := 6) (v := .ref q_made) (C := RX8) (T := TX8) (N := 10) hx hb hts in_X8_keeps_X8 hown hK.1 hP 0 rfl rfl 2 (by decide) (hts (.fieldLink RX8 17 "FieldsByClassesModel" "made" "[I") (by decide +kernel)) (fun _ h9 => h9) rfl dX8_keeps_114 ?_
      refine lv_iconst (v := 0) hx hb dX8_keeps_117 (by decide) ?_
      refine va_iald hx hb hK.1 hP 3 0 rfl rfl (ain_of (by decide)) dX8_keeps_118 ?_
      refine lv_iconst (v := 1) hx hb dX8_keeps_119 (by decide) ?_
      refine lv_isub hx hb dX8_keeps_120 ?_
      cases h
      exact hb_iret hx hb hr hlocks hP hD hS dX8_keeps_121
    · have h := pf_pos h c72
      refine lv_iconst (v := -1) hx hb dX8_keeps_75 (by decide) ?_
      cases h
      exact hb_iret hx hb hr hlocks hP hD hS dX8_keeps_76
  have K55 : ∀ (x7 : Int32) (f_bar : (Nat → Int32)) (f_bits : (Nat → Int64)) (f_made : (Nat → Int32)), e_X8_keeps_55 x7 f_bar f_bits f_made = some r → ∀ (H : Heap) (locs : List Loc), va_P G vwCl [(q, .inr (6, [.ref q_bar, .ref q_bits, .ref q_made, .ref q_has, .ref q_groups, .int f_found, .int f_passed, .long f_looked, .ref q_sums, .ref q_numbers])), (q_bar, .inl (cI, 160, .inl f_bar)), (q_bits, .inl (cJ, 160, .inr (.inl f_bits))), (q_made, .inl (cI, 4, .inl f_made)), (q_has, .inl (cZ, 3, .inl f_has)), (q_groups, .inl (cJ, 128, .inr (.inl f_groups))), (q_sums, .inl (cJ, 8, .inr (.inl f_sums))), (q_numbers, .inl (cJ, 9, .inr (.inl f_numbers)))] H → va_D A [(q, .inr (6, [.ref q_bar, .ref q_bits, .ref q_made, .ref q_has, .ref q_groups, .int f_found, .int f_passed, .long f_looked, .ref q_sums, .ref q_numbers])), (q_bar, .inl (cI, 160, .inl f_bar)), (q_bits, .inl (cJ, 160, .inr (.inl f_bits))), (q_made, .inl (cI, 4, .inl f_made)), (q_has, .inl (cZ, 3, .inl f_has)), (q_groups, .inl (cJ, 128, .inr (.inl f_groups))), (q_sums, .inl (cJ, 8, .inr (.inl f_sums))), (q_numbers, .inl (cJ, 9, .inr (.inl f_numbers)))] → va_S A s.heap H locs → ∀ ls, lv_has ls 8 [(7, .int x7)] → W p l e (headSpec wsX8_keeps { frames := 4, cells := 0, slots := 0, locals := 94 }).room s m ([.ref q, .int y1, .long y2] : List Value).toArray below meth c H locs 0 0 (MQ below (hb_Qi G r.1 [(q, .inr (6, [.ref q_bar, .ref q_bits, .ref q_made, .ref q_has, .ref q_groups, .int f_found, .int f_passed, .long f_looked, .ref q_sums, .ref q_numbers])), (q_bar, .inl (cI, 160, .inl r.2.1)), (q_bits, .inl (cJ, 160, .inr (.inl r.2.2.1))), (q_made, .inl (cI, 4, .inl r.2.2.2)), (q_has, .inl (cZ, 3, .inl f_has)), (q_groups, .inl (cJ, 128, .inr (.inl f_groups))), (q_sums, .inl (cJ, 8, .inr (.inl f_sums))), (q_numbers, .inl (cJ, 9, .inr (.inl f_numbers)))] A) ([.ref q, .int y1, .long y2] : List Value).toArray s 0 0 A) (F0 m 55 ls []) := by
    intro x7 f_bar f_bits f_made h H locs hP hD hS ls hl
    unfold e_X8_keeps_55 at h
    refine lv_iload hx hb dX8_keeps_55 (lv_at hl 0 rfl) ?_
    cases h
    exact hb_iret hx hb hr hlocks hP hD hS dX8_keeps_57
  have L19 : ∀ (n : Nat) (x4 : Int32) (x5 : Int64) (x7 : Int32) (f_bar : (Nat → Int32)) (f_bits : (Nat → Int64)) (f_made : (Nat → Int32)) (b : Int32 ⊕ Unit), lpF (fun q : Int32 => s_X8_keeps_19 x4 x5 q f_bar f_bits f_made) n x7 = some b → a_X8_keeps_19 x4 x5 f_bar f_bits f_made b = some r → ∀ (H : Heap) (locs : List Loc), va_P G vwCl [(q, .inr (6, [.ref q_bar, .ref q_bits, .ref q_made, .ref q_has, .ref q_groups, .int f_found, .int f_passed, .long f_looked, .ref q_sums, .ref q_numbers])), (q_bar, .inl (cI, 160, .inl f_bar)), (q_bits, .inl (cJ, 160, .inr (.inl f_bits))), (q_made, .inl (cI, 4, .inl f_made)), (q_has, .inl (cZ, 3, .inl f_has)), (q_groups, .inl (cJ, 128, .inr (.inl f_groups))), (q_sums, .inl (cJ, 8, .inr (.inl f_sums))), (q_numbers, .inl (cJ, 9, .inr (.inl f_numbers)))] H → va_D A [(q, .inr (6, [.ref q_bar, .ref q_bits, .ref q_made, .ref q_has, .ref q_groups, .int f_found, .int f_passed, .long f_looked, .ref q_sums, .ref q_numbers])), (q_bar, .inl (cI, 160, .inl f_bar)), (q_bits, .inl (cJ, 160, .inr (.inl f_bits))), (q_made, .inl (cI, 4, .inl f_made)), (q_has, .inl (cZ, 3, .inl f_has)), (q_groups, .inl (cJ, 128, .inr (.inl f_groups))), (q_sums, .inl (cJ, 8, .inr (.inl f_sums))), (q_numbers, .inl (cJ, 9, .inr (.inl f_numbers)))] → va_S A s.heap H locs → ∀ ls, lv_has ls 8 [(0, .ref q), (4, .int x4), (5, .long x5), (7, .int x7)] → W p l e (headSpec wsX8_keeps { frames := 4, cells := 0, slots := 0, locals := 94 }).room s m ([.ref q, .int y1, .long y2] : List Value).toArray below meth c H locs 0 0 (MQ below (hb_Qi G r.1 [(q, .inr (6, [.ref q_bar, .ref q_bits, .ref q_made, .ref q_has, .ref q_groups, .int f_found, .int f_passed, .long f_looked, .ref q_sums, .ref q_numbers])), (q_bar, .inl (cI, 160, .inl r.2.1)), (q_bits, .inl (cJ, 160, .inr (.inl r.2.2.1))), (q_made, .inl (cI, 4, .inl r.2.2.2)), (q_has, .inl (cZ, 3, .inl f_has)), (q_groups, .inl (cJ, 128, .inr (.inl f_groups))), (q_sums, .inl (cJ, 8, .inr (.inl f_sums))), (q_numbers, .inl (cJ, 9, .inr (.inl f_numbers)))] A) ([.ref q, .int y1, .long y2] : List Value).toArray s 0 0 A) (F0 m 19 ls []) := by
    intro n
    induction n with
    | zero => intro x4 x5 x7 f_bar f_bits f_made b h; exact lp_zero h
    | succ n ih =>
      intro x4 x5 x7 f_bar f_bits f_made b h ha H locs hP hD hS ls hl
      obtain ⟨z19, h, hz⟩ := lp_open h
      have h : s_X8_keeps_19 x4 x5 x7 f_bar f_bits f_made = some z19 := h
      unfold s_X8_keeps_19 at h
      refine lv_iload hx hb dX8_keeps_19 (lv_at hl 3 rfl) ?_
      refine lv_aload_n hx hb dX8_keeps_21 rfl (lv_at hl 0 rfl) ?_
      refine va_get (D := G) (ci := 6) (v := .ref q_made) (C := RX8) (T := TX8) (N := 10) hx hb hts in_X8_keeps_X8 hown hK.1 hP 0 rfl rfl 2 (by decide) (hts (.fieldLink RX8 17 "FieldsByClassesModel" "made" "[I") (by decide +kernel)) (fun _ h9 => h9) rfl dX8_keeps_22 ?_
      refine lv_iconst (v := 0) hx hb dX8_keeps_25 (by decide) ?_
      refine va_iald hx hb hK.1 hP 3 0 rfl rfl (ain_of (by decide)) dX8_keeps_26 ?_
      refine lv_icmp_ge (tgt := 64) hx hb dX8_keeps_27 (by decide) (fun c27 => ?_) (fun c27 => ?_)
      · have h := pf_pos h c27
        have ha := pf_aft ha (lp_exit h hz)
        exact K64 x4 x5 f_bar f_bits f_made ha H locs hP hD hS ls (lv_sub hl [0, 1, 2] rfl)
      · have h := pf_neg h c27
        refine lv_aload_n hx hb dX8_keeps_30 rfl (lv_at hl 0 rfl) ?_
        refine va_get (D := G) (ci := 6) (v := .ref q_bar) (C := RX8) (T := TX8) (N := 10) hx hb hts in_X8_keeps_X8 hown hK.1 hP 0 rfl rfl 0 (by decide) (hts (.fieldLink RX8 7 "FieldsByClassesModel" "bar" "[I") (by decide +kernel)) (fun _ h9 => h9) rfl dX8_keeps_31 ?_
        refine lv_iload hx hb dX8_keeps_34 (lv_at hl 3 rfl) ?_
        obtain ⟨hi36, h⟩ := pf_need h
        refine va_iald hx hb hK.1 hP 1 0 rfl rfl (ain_of hi36) dX8_keeps_36 ?_
        refine lv_iload hx hb dX8_keeps_37 (lv_at hl 1 rfl) ?_
        refine lv_icmp_ne (tgt := 58) hx hb dX8_keeps_39 (by decide) (fun c39 => ?_) (fun c39 => ?_)
        · have h := pf_neg h c39
          refine lv_iinc (v := (x7 + (1 : Int32))) (lv' := [(7, .int (x7 + (1 : Int32))), (0, .ref q), (4, .int x4), (5, .long x5)]) hx hb dX8_keeps_58 hl (k := 3) rfl rfl (by decide) rfl (fun ls hl => ?_)
          refine lv_goto (tgt := 19) hx hb dX8_keeps_61 (by decide) ?_
          exact ih x4 x5 (x7 + (1 : Int32)) f_bar f_bits f_made b (lp_cont h hz) ha H locs hP hD hS ls (lv_sub hl [1, 2, 3, 0] rfl)
        · have h := pf_pos h c39
          refine lv_aload_n hx hb dX8_keeps_42 rfl (lv_at hl 0 rfl) ?_
          refine va_get (D := G) (ci := 6) (v := .ref q_bits) (C := RX8) (T := TX8) (N := 10) hx hb hts in_X8_keeps_X8 hown hK.1 hP 0 rfl rfl 1 (by decide) (hts (.fieldLink RX8 13 "FieldsByClassesModel" "bits" "[J") (by decide +kernel)) (fun _ h9 => h9) rfl dX8_keeps_43 ?_
          refine lv_iload hx hb dX8_keeps_46 (lv_at hl 3 rfl) ?_
          obtain ⟨hi48, h⟩ := pf_need h
          refine va_lald hx hb hK.1 hP 2 1 rfl rfl (ain_of hi48) dX8_keeps_48 ?_
          refine lv_lload hx hb dX8_keeps_49 (lv_at hl 2 rfl) ?_
          refine W.lcmp hx hb dX8_keeps_51 ?_
          refine lv_if_ne (tgt := 58) hx hb dX8_keeps_52 (by decide) (fun c52 => ?_) (fun c52 => ?_)
          · have h := pf_neg h (fun q => c52 ((lg_cmp_eq _ _).mpr q))
            refine lv_iinc (v := (x7 + (1 : Int32))) (lv' := [(7, .int (x7 + (1 : Int32))), (0, .ref q), (4, .int x4), (5, .long x5)]) hx hb dX8_keeps_58 hl (k := 3) rfl rfl (by decide) rfl (fun ls hl => ?_)
            refine lv_goto (tgt := 19) hx hb dX8_keeps_61 (by decide) ?_
            exact ih x4 x5 (x7 + (1 : Int32)) f_bar f_bits f_made b (lp_cont h hz) ha H locs hP hD hS ls (lv_sub hl [1, 2, 3, 0] rfl)
          · have h := pf_pos h ((lg_cmp_eq _ _).mp c52)
            have ha := pf_aft ha (lp_exit h hz)
            exact K55 x7 f_bar f_bits f_made ha H locs hP hD hS ls (lv_sub hl [3] rfl)
  have G19 : ∀ (x4 : Int32) (x5 : Int64) (x7 : Int32) (f_bar : (Nat → Int32)) (f_bits : (Nat → Int64)) (f_made : (Nat → Int32)), g_X8_keeps_19 x4 x5 x7 f_bar f_bits f_made = some r → ∀ (H : Heap) (locs : List Loc), va_P G vwCl [(q, .inr (6, [.ref q_bar, .ref q_bits, .ref q_made, .ref q_has, .ref q_groups, .int f_found, .int f_passed, .long f_looked, .ref q_sums, .ref q_numbers])), (q_bar, .inl (cI, 160, .inl f_bar)), (q_bits, .inl (cJ, 160, .inr (.inl f_bits))), (q_made, .inl (cI, 4, .inl f_made)), (q_has, .inl (cZ, 3, .inl f_has)), (q_groups, .inl (cJ, 128, .inr (.inl f_groups))), (q_sums, .inl (cJ, 8, .inr (.inl f_sums))), (q_numbers, .inl (cJ, 9, .inr (.inl f_numbers)))] H → va_D A [(q, .inr (6, [.ref q_bar, .ref q_bits, .ref q_made, .ref q_has, .ref q_groups, .int f_found, .int f_passed, .long f_looked, .ref q_sums, .ref q_numbers])), (q_bar, .inl (cI, 160, .inl f_bar)), (q_bits, .inl (cJ, 160, .inr (.inl f_bits))), (q_made, .inl (cI, 4, .inl f_made)), (q_has, .inl (cZ, 3, .inl f_has)), (q_groups, .inl (cJ, 128, .inr (.inl f_groups))), (q_sums, .inl (cJ, 8, .inr (.inl f_sums))), (q_numbers, .inl (cJ, 9, .inr (.inl f_numbers)))] → va_S A s.heap H locs → ∀ ls, lv_has ls 8 [(0, .ref q), (4, .int x4), (5, .long x5), (7, .int x7)] → W p l e (headSpec wsX8_keeps { frames := 4, cells := 0, slots := 0, locals := 94 }).room s m ([.ref q, .int y1, .long y2] : List Value).toArray below meth c H locs 0 0 (MQ below (hb_Qi G r.1 [(q, .inr (6, [.ref q_bar, .ref q_bits, .ref q_made, .ref q_has, .ref q_groups, .int f_found, .int f_passed, .long f_looked, .ref q_sums, .ref q_numbers])), (q_bar, .inl (cI, 160, .inl r.2.1)), (q_bits, .inl (cJ, 160, .inr (.inl r.2.2.1))), (q_made, .inl (cI, 4, .inl r.2.2.2)), (q_has, .inl (cZ, 3, .inl f_has)), (q_groups, .inl (cJ, 128, .inr (.inl f_groups))), (q_sums, .inl (cJ, 8, .inr (.inl f_sums))), (q_numbers, .inl (cJ, 9, .inr (.inl f_numbers)))] A) ([.ref q, .int y1, .long y2] : List Value).toArray s 0 0 A) (F0 m 19 ls []) := by
    intro x4 x5 x7 f_bar f_bits f_made h
    unfold g_X8_keeps_19 at h
    obtain ⟨b, h, ha⟩ := pf_bind h
    exact L19 pfFU x4 x5 x7 f_bar f_bits f_made b h ha
  suffices hh : ∀ (H : Heap) (locs : List Loc), va_P G vwCl [(q, .inr (6, [.ref q_bar, .ref q_bits, .ref q_made, .ref q_has, .ref q_groups, .int f_found, .int f_passed, .long f_looked, .ref q_sums, .ref q_numbers])), (q_bar, .inl (cI, 160, .inl f_bar)), (q_bits, .inl (cJ, 160, .inr (.inl f_bits))), (q_made, .inl (cI, 4, .inl f_made)), (q_has, .inl (cZ, 3, .inl f_has)), (q_groups, .inl (cJ, 128, .inr (.inl f_groups))), (q_sums, .inl (cJ, 8, .inr (.inl f_sums))), (q_numbers, .inl (cJ, 9, .inr (.inl f_numbers)))] H → va_D A [(q, .inr (6, [.ref q_bar, .ref q_bits, .ref q_made, .ref q_has, .ref q_groups, .int f_found, .int f_passed, .long f_looked, .ref q_sums, .ref q_numbers])), (q_bar, .inl (cI, 160, .inl f_bar)), (q_bits, .inl (cJ, 160, .inr (.inl f_bits))), (q_made, .inl (cI, 4, .inl f_made)), (q_has, .inl (cZ, 3, .inl f_has)), (q_groups, .inl (cJ, 128, .inr (.inl f_groups))), (q_sums, .inl (cJ, 8, .inr (.inl f_sums))), (q_numbers, .inl (cJ, 9, .inr (.inl f_numbers)))] → va_S A s.heap H locs → W p l e (headSpec wsX8_keeps { frames := 4, cells := 0, slots := 0, locals := 94 }).room s m ([.ref q, .int y1, .long y2] : List Value).toArray below meth c H locs 0 0 (MQ below (hb_Qi G r.1 [(q, .inr (6, [.ref q_bar, .ref q_bits, .ref q_made, .ref q_has, .ref q_groups, .int f_found, .int f_passed, .long f_looked, .ref q_sums, .ref q_numbers])), (q_bar, .inl (cI, 160, .inl r.2.1)), (q_bits, .inl (cJ, 160, .inr (.inl r.2.2.1))), (q_made, .inl (cI, 4, .inl r.2.2.2)), (q_has, .inl (cZ, 3, .inl f_has)), (q_groups, .inl (cJ, 128, .inr (.inl f_groups))), (q_sums, .inl (cJ, 8, .inr (.inl f_sums))), (q_numbers, .inl (cJ, 9, .inr (.inl f_numbers)))] A) ([.ref q, .int y1, .long y2] : List Value).toArray s 0 0 A) (F0 m 0 ls []) from hh s.heap [] hP hD hS
  intro H locs hP hD hS
  unfold p_X8_keeps at h
  refine lv_iload_n hx hb dX8_keeps_0 rfl (lv_at hl 1 rfl) ?_
  refine lv_lload_n hx hb dX8_keeps_1 rfl (lv_at hl 2 rfl) ?_
  obtain ⟨v2, hv2, h⟩ := pf_bind h
  refine pf_call (As := [.int y1, .long y2]) (rest := []) S0 (c_X8_barOf l y1 y2 v2 hv2) (va_cwS 2 hts gX8_keeps_X8_barOf rfl rfl rfl kd_X8_barOf ⟨Nat.le_of_ble_eq_true rfl, Nat.le_of_ble_eq_true rfl⟩) rfl hl.1 rfl (Nat.le_of_ble_eq_true rfl) dX8_keeps_2 ⟨Nat.zero_le _, Nat.zero_le _⟩ ?_
  refine lv_istore (lv' := [(4, .int v2), (0, .ref q), (1, .int y1), (2, .long y2)]) hx hb dX8_keeps_5 hl (by decide) rfl (fun ls hl => ?_)
  refine lv_iload_n hx hb dX8_keeps_7 rfl (lv_at hl 2 rfl) ?_
  refine lv_lload_n hx hb dX8_keeps_8 rfl (lv_at hl 3 rfl) ?_
  refine lv_iload hx hb dX8_keeps_9 (lv_at hl 0 rfl) ?_
  obtain ⟨v11, hv11, h⟩ := pf_bind h
  refine pf_call (As := [.int y1, .long y2, .int v2]) (rest := []) S0 (c_X8_down l y1 y2 v2 v11 hv11) (va_cwS 3 hts gX8_keeps_X8_down rfl rfl rfl kd_X8_down ⟨Nat.le_of_ble_eq_true rfl, Nat.le_of_ble_eq_true rfl⟩) rfl hl.1 rfl (Nat.le_of_ble_eq_true rfl) dX8_keeps_11 ⟨Nat.zero_le _, Nat.zero_le _⟩ ?_
  refine lv_lstore (lv' := [(5, .long v11), (4, .int v2), (0, .ref q), (1, .int y1), (2, .long y2)]) hx hb dX8_keeps_14 hl (by decide) rfl (fun ls hl => ?_)
  refine lv_iconst (v := 0) hx hb dX8_keeps_16 (by decide) ?_
  refine lv_istore (lv' := [(7, .int (0 : Int32)), (5, .long v11), (4, .int v2), (0, .ref q), (1, .int y1), (2, .long y2)]) hx hb dX8_keeps_17 hl (by decide) rfl (fun ls hl => ?_)
  exact G19 v2 v11 (0 : Int32) f_bar f_bits f_made h H locs hP hD hS ls (lv_sub hl [3, 2, 1, 0] rfl)
-- X8_make
def p_X8_make (f_bar : (Nat → Int32)) (f_bits : (Nat → Int64)) (f_made : (Nat → Int32)) (y1 : Int32) (y2 : Int64) : Option (Int32 × (Nat → Int32) × (Nat → Int64) × (Nat → Int32)) :=
  ((p_X8_isM y1).bind fun v1 => (if v1 = 0 then some ((-1 : Int32), f_bar, f_bits, f_made) else ((p_X8_all y1).bind fun v9 => (if (y2 &&& (v9 ^^^ (-1 : Int64))) = (0 : Int64) then ((p_X8_one y1).bind fun v28 => ((p_X8_product y1 v28 y2).bind fun v32 => ((p_X8_keeps f_bar f_bits f_made y1 v32).bind fun v35 => some (v35.1, v35.2.1, v35.2.2.1, v35.2.2.2)))) else some ((-1 : Int32), f_bar, f_bits, f_made)))))
theorem kv_X8_make : yX8_make.cls = RX8 ∧ yX8_make.cls ≠ "java/lang/invoke/MethodHandle" ∧ yX8_make.cls ≠ "java/lang/invoke/VarHandle" ∧ (parseMethodDescriptor yX8_make.desc).map (fun d => d.parameters.length) = some 2 := by decide +kernel
set_option maxHeartbeats 4000000 in
set_option maxRecDepth 100000 in
theorem c_X8_make (l : Launch) (G : va_G) (cI cJ cZ cS : ClassId) (q q_bar q_bits q_made q_has q_groups q_sums q_numbers : Nat) (sz : Nat) (f_bar : (Nat → Int32)) (f_bits : (Nat → Int64)) (f_made : (Nat → Int32)) (f_has : (Nat → Int32)) (f_groups : (Nat → Int64)) (f_found : Int32) (f_passed : Int32) (f_looked : Int64) (f_sums : (Nat → Int64)) (f_numbers : (Nat → Int64)) (y1 : Int32) (y2 : Int64) (r : (Int32 × (Nat → Int32) × (Nat → Int64) × (Nat → Int32))) (h : p_X8_make f_bar f_bits f_made y1 y2 = some r) : Met l yX8_make wsX8_make { frames := 5, cells := 0, slots := 0, locals := 121 } (hb_pre G (hbT cI cJ cZ cS) [.ref q, .int y1, .long y2] sz [(q, .inr (6, [.ref q_bar, .ref q_bits, .ref q_made, .ref q_has, .ref q_groups, .int f_found, .int f_passed, .long f_looked, .ref q_sums, .ref q_numbers])), (q_bar, .inl (cI, 160, .inl f_bar)), (q_bits, .inl (cJ, 160, .inr (.inl f_bits))), (q_made, .inl (cI, 4, .inl f_made)), (q_has, .inl (cZ, 3, .inl f_has)), (q_groups, .inl (cJ, 128, .inr (.inl f_groups))), (q_sums, .inl (cJ, 8, .inr (.inl f_sums))), (q_numbers, .inl (cJ, 9, .inr (.inl f_numbers)))]) (hb_Qi G r.1 [(q, .inr (6, [.ref q_bar, .ref q_bits, .ref q_made, .ref q_has, .ref q_groups, .int f_found, .int f_passed, .long f_looked, .ref q_sums, .ref q_numbers])), (q_bar, .inl (cI, 160, .inl r.2.1)), (q_bits, .inl (cJ, 160, .inr (.inl r.2.2.1))), (q_made, .inl (cI, 4, .inl r.2.2.2)), (q_has, .inl (cZ, 3, .inl f_has)), (q_groups, .inl (cJ, 128, .inr (.inl f_groups))), (q_sums, .inl (cJ, 8, .inr (.inl f_sums))), (q_numbers, .inl (cJ, 9, .inr (.inl f_numbers)))] (va_A [(q, .inr (6, [.ref q_bar, .ref q_bits, .ref q_made, .ref q_has, .ref q_groups, .int f_found, .int f_passed, .long f_looked, .ref q_sums, .ref q_numbers])), (q_bar, .inl (cI, 160, .inl f_bar)), (q_bits, .inl (cJ, 160, .inr (.inl f_bits))), (q_made, .inl (cI, 4, .inl f_made)), (q_has, .inl (cZ, 3, .inl f_has)), (q_groups, .inl (cJ, 128, .inr (.inl f_groups))), (q_sums, .inl (cJ, 8, .inr (.inl f_sums))), (q_numbers, .inl (cJ, 9, .inr (.inl f_numbers)))] sz)) 0 0 (va_A [(q, .inr (6, [.ref q_bar, .ref q_bits, .ref q_made, .ref q_has, .ref q_groups, .int f_found, .int f_passed, .long f_looked, .ref q_sums, .ref q_numbers])), (q_bar, .inl (cI, 160, .inl f_bar)), (q_bits, .inl (cJ, 160, .inr (.inl f_bits))), (q_made, .inl (cI, 4, .inl f_made)), (q_has, .inl (cZ, 3, .inl f_has)), (q_groups, .inl (cJ, 128, .inr (.inl f_groups))), (q_sums, .inl (cJ, 8, .inr (.inl f_sums))), (q_numbers, .inl (cJ, 9, .inr (.inl f_numbers)))] sz) := by
  refine hb_met (Qc := fun A => hb_Qi G r.1 [(q, .inr (6, [.ref q_bar, .ref q_bits, .ref q_made, .ref q_has, .ref q_groups, .int f_found, .int f_passed, .long f_looked, .ref q_sums, .ref q_numbers])), (q_bar, .inl (cI, 160, .inl r.2.1)), (q_bits, .inl (cJ, 160, .inr (.inl r.2.2.1))), (q_made, .inl (cI, 4, .inl r.2.2.2)), (q_has, .inl (cZ, 3, .inl f_has)), (q_groups, .inl (cJ, 128, .inr (.inl f_groups))), (q_sums, .inl (cJ, 8, .inr (.inl f_sums))), (q_numbers, .inl (cJ, 9, .inr (.inl f_numbers)))] A) (cc := cX8_make) (maxL := 4) (ret := some .int) (by decide) rfl (Nat.le_of_ble_eq_true rfl) ?_
  intro p e s m below meth c A hx hb hr hts hown hlocks hml hin hK hA hP hD hS ls hl
  have hown : s.vm.findClass RX8 = some m.cls := hown
  have S0 : CallFix p m c cX8_make 4 s ([.ref q, .int y1, .long y2] : List Value).toArray wsX8_make RX8 := ⟨hx, hb, hml, hown, hts⟩
  have hl : lv_has ls 4 [(0, .ref q), (1, .int y1), (2, .long y2)] := hl
  suffices hh : ∀ (H : Heap) (locs : List Loc), va_P G vwCl [(q, .inr (6, [.ref q_bar, .ref q_bits, .ref q_made, .ref q_has, .ref q_groups, .int f_found, .int f_passed, .long f_looked, .ref q_sums, .ref q_numbers])), (q_bar, .inl (cI, 160, .inl f_bar)), (q_bits, .inl (cJ, 160, .inr (.inl f_bits))), (q_made, .inl (cI, 4, .inl f_made)), (q_has, .inl (cZ, 3, .inl f_has)), (q_groups, .inl (cJ, 128, .inr (.inl f_groups))), (q_sums, .inl (cJ, 8, .inr (.inl f_sums))), (q_numbers, .inl (cJ, 9, .inr (.inl f_numbers)))] H → va_D A [(q, .inr (6, [.ref q_bar, .ref q_bits, .ref q_made, .ref q_has, .ref q_groups, .int f_found, .int f_passed, .long f_looked, .ref q_sums, .ref q_numbers])), (q_bar, .inl (cI, 160, .inl f_bar)), (q_bits, .inl (cJ, 160, .inr (.inl f_bits))), (q_made, .inl (cI, 4, .inl f_made)), (q_has, .inl (cZ, 3, .inl f_has)), (q_groups, .inl (cJ, 128, .inr (.inl f_groups))), (q_sums, .inl (cJ, 8, .inr (.inl f_sums))), (q_numbers, .inl (cJ, 9, .inr (.inl f_numbers)))] → va_S A s.heap H locs → W p l e (headSpec wsX8_make { frames := 5, cells := 0, slots := 0, locals := 121 }).room s m ([.ref q, .int y1, .long y2] : List Value).toArray below meth c H locs 0 0 (MQ below (hb_Qi G r.1 [(q, .inr (6, [.ref q_bar, .ref q_bits, .ref q_made, .ref q_has, .ref q_groups, .int f_found, .int f_passed, .long f_looked, .ref q_sums, .ref q_numbers])), (q_bar, .inl (cI, 160, .inl r.2.1)), (q_bits, .inl (cJ, 160, .inr (.inl r.2.2.1))), (q_made, .inl (cI, 4, .inl r.2.2.2)), (q_has, .inl (cZ, 3, .inl f_has)), (q_groups, .inl (cJ, 128, .inr (.inl f_groups))), (q_sums, .inl (cJ, 8, .inr (.inl f_sums))), (q_numbers, .inl (cJ, 9, .inr (.inl f_numbers)))] A) ([.ref q, .int y1, .long y2] : List Value).toArray s 0 0 A) (F0 m 0 ls []) from hh s.heap [] hP hD hS
  intro H locs hP hD hS
  unfold p_X8_make at h
  refine lv_iload_n hx hb dX8_make_0 rfl (lv_at hl 1 rfl) ?_
  obtain ⟨v1, hv1, h⟩ := pf_bind h
  refine pf_call (As := [.int y1]) (rest := []) S0 (c_X8_isM l y1 v1 hv1) (va_cwS 1 hts gX8_make_X8_isM rfl rfl rfl kd_X8_isM ⟨Nat.le_of_ble_eq_true rfl, Nat.le_of_ble_eq_true rfl⟩) rfl hl.1 rfl (Nat.le_of_ble_eq_true rfl) dX8_make_1 ⟨Nat.zero_le _, Nat.zero_le _⟩ ?_
  refine lv_if_eq (tgt := 22) hx hb dX8_make_4 (by decide) (fun c4 => ?_) (fun c4 => ?_)
  · have h := pf_pos h c4
    refine lv_iconst (v := -1) hx hb dX8_make_22 (by decide) ?_
    cases h
    exact hb_iret hx hb hr hlocks hP hD hS dX8_make_23
  · have h := pf_neg h c4
    refine lv_lload_n hx hb dX8_make_7 rfl (lv_at hl 2 rfl) ?_
    refine lv_iload_n hx hb dX8_make_8 rfl (lv_at hl 1 rfl) ?_
    obtain ⟨v9, hv9, h⟩ := pf_bind h
    refine pf_call (As := [.int y1]) (rest := [.long y2]) S0 (c_X8_all l y1 v9 hv9) (va_cwS 1 hts gX8_make_X8_all rfl rfl rfl kd_X8_all ⟨Nat.le_of_ble_eq_true rfl, Nat.le_of_ble_eq_true rfl⟩) rfl hl.1 rfl (Nat.le_of_ble_eq_true rfl) dX8_make_9 ⟨Nat.zero_le _, Nat.zero_le _⟩ ?_
    refine lv_ldc2 (v := -1) hx hb hown (hts (.constantLong RX8 88 (-1)) (by decide +kernel)) dX8_make_12 ?_
    refine lv_lxor hx hb dX8_make_15 ?_
    refine lv_land hx hb dX8_make_16 ?_
    refine lv_lconst (v := 0) hx hb dX8_make_17 (by decide) ?_
    refine W.lcmp hx hb dX8_make_18 ?_
    refine lv_if_eq (tgt := 24) hx hb dX8_make_19 (by decide) (fun c19 => ?_) (fun c19 => ?_)
    · have h := pf_pos h ((lg_cmp_eq _ _).mp c19)
      refine lv_aload_n hx hb dX8_make_24 rfl (lv_at hl 0 rfl) ?_
      refine lv_iload_n hx hb dX8_make_25 rfl (lv_at hl 1 rfl) ?_
      refine lv_iload_n hx hb dX8_make_26 rfl (lv_at hl 1 rfl) ?_
      refine lv_iload_n hx hb dX8_make_27 rfl (lv_at hl 1 rfl) ?_
      obtain ⟨v28, hv28, h⟩ := pf_bind h
      refine pf_call (As := [.int y1]) (rest := [.int y1, .int y1, .ref q]) S0 (c_X8_one l y1 v28 hv28) (va_cwS 1 hts gX8_make_X8_one rfl rfl rfl kd_X8_one ⟨Nat.le_of_ble_eq_true rfl, Nat.le_of_ble_eq_true rfl⟩) rfl hl.1 rfl (Nat.le_of_ble_eq_true rfl) dX8_make_28 ⟨Nat.zero_le _, Nat.zero_le _⟩ ?_
      refine lv_lload_n hx hb dX8_make_31 rfl (lv_at hl 2 rfl) ?_
      obtain ⟨v32, hv32, h⟩ := pf_bind h
      refine pf_call (As := [.int y1, .long v28, .long y2]) (rest := [.int y1, .ref q]) S0 (c_X8_product l y1 v28 y2 v32 hv32) (va_cwS 3 hts gX8_make_X8_product rfl rfl rfl kd_X8_product ⟨Nat.le_of_ble_eq_true rfl, Nat.le_of_ble_eq_true rfl⟩) rfl hl.1 rfl (Nat.le_of_ble_eq_true rfl) dX8_make_32 ⟨Nat.zero_le _, Nat.zero_le _⟩ ?_
      obtain ⟨v35, hv35, h⟩ := pf_bind h
      refine hb_calli (hb_runV (G := G) (T := hbT cI cJ cZ cS) (As := [.int y1, .long v32]) (rest := []) S0 (c_X8_keeps l G cI cJ cZ cS q q_bar q_bits q_made q_has q_groups q_sums q_numbers H.size f_bar f_bits f_made f_has f_groups f_found f_passed f_looked f_sums f_numbers y1 v32 v35 hv35) (cwV 2 hts gX8_make_X8_keeps rfl rfl rfl kv_X8_keeps ⟨Nat.le_of_ble_eq_true rfl, Nat.le_of_ble_eq_true rfl⟩) hK (hP.sub [0, 1, 2, 3, 4, 5, 6, 7] rfl) (hD.sub [0, 1, 2, 3, 4, 5, 6, 7] (by decide) rfl) rfl rfl rfl hl.1 rfl (Nat.le_of_ble_eq_true rfl) dX8_make_35 ⟨Nat.zero_le _, Nat.zero_le _⟩) hP hD hS hA [0, 1, 2, 3, 4, 5, 6, 7] [] [0, 1, 2, 3, 4, 5, 6, 7] rfl (wr := []) rfl (by decide) (by decide) (w2 := [(q, .inr (6, [.ref q_bar, .ref q_bits, .ref q_made, .ref q_has, .ref q_groups, .int f_found, .int f_passed, .long f_looked, .ref q_sums, .ref q_numbers])), (q_bar, .inl (cI, 160, .inl v35.2.1)), (q_bits, .inl (cJ, 160, .inr (.inl v35.2.2.1))), (q_made, .inl (cI, 4, .inl v35.2.2.2)), (q_has, .inl (cZ, 3, .inl f_has)), (q_groups, .inl (cJ, 128, .inr (.inl f_groups))), (q_sums, .inl (cJ, 8, .inr (.inl f_sums))), (q_numbers, .inl (cJ, 9, .inr (.inl f_numbers)))]) (by decide) rfl rfl (fun H locs hP hD hS => ?_)
      cases h
      exact hb_iret hx hb hr hlocks hP hD hS dX8_make_38
    · have h := pf_neg h (fun q => c19 ((lg_cmp_eq _ _).mpr q))
      refine lv_iconst (v := -1) hx hb dX8_make_22 (by decide) ?_
      cases h
      exact hb_iret hx hb hr hlocks hP hD hS dX8_make_23
