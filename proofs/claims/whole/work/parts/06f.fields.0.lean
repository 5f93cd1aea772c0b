-- X7_rests
def p_X7_rests  (y1 : Int32) : Option Int32 :=
  ((p_X7_isM y1).bind fun v1 => (if v1 = 0 then some (-1 : Int32) else ((p_X3_all y1).bind fun v8 => ((p_X3_size v8).bind fun v11 => some v11))))
theorem kv_X7_rests : yX7_rests.cls = RX7 ∧ yX7_rests.cls ≠ "java/lang/invoke/MethodHandle" ∧ yX7_rests.cls ≠ "java/lang/invoke/VarHandle" ∧ (parseMethodDescriptor yX7_rests.desc).map (fun d => d.parameters.length) = some 1 := by decide +kernel
set_option maxHeartbeats 4000000 in
set_option maxRecDepth 100000 in
theorem c_X7_rests (l : Launch) (G : va_G) (cI cJ cZ cS : ClassId) (q q_shelf q_images q_cycles q_above q_book q_sums : Nat) (sz : Nat)  (y1 : Int32) (r : Int32) (h : p_X7_rests  y1 = some r) : Met l yX7_rests wsX7_rests { frames := 2, cells := 0, slots := 0, locals := 48 } (hb_pre G (hbT cI cJ cZ cS) [.ref q, .int y1] sz [(q, .inr (5, [.ref q_shelf, .ref q_images, .ref q_cycles, .ref q_above, .ref q_book, .ref q_sums]))]) (hb_Qi G r [(q, .inr (5, [.ref q_shelf, .ref q_images, .ref q_cycles, .ref q_above, .ref q_book, .ref q_sums]))] (va_A [(q, .inr (5, [.ref q_shelf, .ref q_images, .ref q_cycles, .ref q_above, .ref q_book, .ref q_sums]))] sz)) 0 0 (va_A [(q, .inr (5, [.ref q_shelf, .ref q_images, .ref q_cycles, .ref q_above, .ref q_book, .ref q_sums]))] sz) := by
  refine hb_met (Qc := fun A => hb_Qi G r [(q, .inr (5, [.ref q_shelf, .ref q_images, .ref q_cycles, .ref q_above, .ref q_book, .ref q_sums]))] A) (cc := cX7_rests) (maxL := 2) (ret := some .int) (by decide) rfl (Nat.le_of_ble_eq_true rfl) ?_
  intro p e s m below meth c A hx hb hr hts hown hlocks hml hin hK hA hP hD hS ls hl
  have hown : s.vm.findClass RX7 = some m.cls := hown
  have S0 : CallFix p m c cX7_rests 2 s ([.ref q, .int y1] : List Value).toArray wsX7_rests RX7 := ⟨hx, hb, hml, hown, hts⟩
  have hl : lv_has ls 2 [(0, .ref q), (1, .int y1)] := hl
  suffices hh : ∀ (H : Heap) (locs : List Loc), va_P G vwCl [(q, .inr (5, [.ref q_shelf, .ref q_images, .ref q_cycles, .ref q_above, .ref q_book, .ref q_sums]))] H → va_D A [(q, .inr (5, [.ref q_shelf, .ref q_images, .ref q_cycles, .ref q_above, .ref q_book, .ref q_sums]))] → va_S A s.heap H locs → W p l e (headSpec wsX7_rests { frames := 2, cells := 0, slots := 0, locals := 48 }).room s m ([.ref q, .int y1] : List Value).toArray below meth c H locs 0 0 (MQ below (hb_Qi G r [(q, .inr (5, [.ref q_shelf, .ref q_images, .ref q_cycles, .ref q_above, .ref q_book, .ref q_sums]))] A) ([.ref q, .int y1] : List Value).toArray s 0 0 A) (F0 m 0 ls []) from hh s.heap [] hP hD hS
  intro H locs hP hD hS
  unfold p_X7_rests at h
  refine lv_iload_n hx hb dX7_rests_0 rfl (lv_at hl 1 rfl) ?_
  obtain ⟨v1, hv1, h⟩ := pf_bind h
  refine pf_call (As := [.int y1]) (rest := []) S0 (c_X7_isM l y1 v1 hv1) (va_cwS 1 hts gX7_rests_X7_isM rfl rfl rfl kd_X7_isM ⟨Nat.le_of_ble_eq_true rfl, Nat.le_of_ble_eq_true rfl⟩) rfl hl.1 rfl (Nat.le_of_ble_eq_true rfl) dX7_rests_1 ⟨Nat.zero_le _, Nat.zero_le _⟩ ?_
  refine lv_if_eq (tgt := 17) hx hb dX7_rests_4 (by decide) (fun c4 => ?_) (fun c4 => ?_)
  · have h := pf_pos h c4
    refine lv_iconst (v := -1) hx hb dX7_rests_17 (by decide) ?_
    cases h
    exact hb_iret hx hb hr hlocks hP hD hS dX7_rests_18
  · have h := pf_neg h c4
    refine lv_iload_n hx hb dX7_rests_7 rfl (lv_at hl 1 rfl) ?_
    obtain ⟨v8, hv8, h⟩ := pf_bind h
    refine pf_call (As := [.int y1]) (rest := []) S0 (c_X3_all l y1 v8 hv8) (va_cwS 1 hts gX7_rests_X3_all rfl rfl rfl kd_X3_all ⟨Nat.le_of_ble_eq_true rfl, Nat.le_of_ble_eq_true rfl⟩) rfl hl.1 rfl (Nat.le_of_ble_eq_true rfl) dX7_rests_8 ⟨Nat.zero_le _, Nat.zero_le _⟩ ?_
    obtain ⟨v11, hv11, h⟩ := pf_bind h
    refine pf_call (As := [.long v8]) (rest := []) S0 (c_X3_size l v8 v11 hv11) (va_cwS 1 hts gX7_rests_X3_size rfl rfl rfl kd_X3_size ⟨Nat.le_of_ble_eq_true rfl, Nat.le_of_ble_eq_true rfl⟩) rfl hl.1 rfl (Nat.le_of_ble_eq_true rfl) dX7_rests_11 ⟨Nat.zero_le _, Nat.zero_le _⟩ ?_
    refine lv_goto (tgt := 18) hx hb dX7_rests_14 (by decide) ?_
    cases h
    exact hb_iret hx hb hr hlocks hP hD hS dX7_rests_18
-- X7_factor
def p_X7_factor (f_cycles_lengths : (Nat → Int32)) (f_cycles_size : Int32) (y1 : Int32) (y2 : Int32) : Option (Int32 × (Nat → Int32) × Int32) :=
  ((p_X7_isM y1).bind fun v1 => (if v1 = 0 then some ((-1 : Int32), f_cycles_lengths, f_cycles_size) else (if 0 ≤ y2 then ((p_X2_find f_cycles_lengths f_cycles_size y1).bind fun v18 => ((p_X2_above1 v18.1 v18.2 y2).bind fun v26 => some (v26, v18.1, v18.2))) else some ((-1 : Int32), f_cycles_lengths, f_cycles_size))))
theorem in_X7_factor_X7 : ∀ w ∈ u_ws RX7 TX7 6, w ∈ wsX7_factor := fun w h => List.mem_cons_of_mem _ (List.mem_append_left _ (List.mem_append_right _ h))
theorem kv_X7_factor : yX7_factor.cls = RX7 ∧ yX7_factor.cls ≠ "java/lang/invoke/MethodHandle" ∧ yX7_factor.cls ≠ "java/lang/invoke/VarHandle" ∧ (parseMethodDescriptor yX7_factor.desc).map (fun d => d.parameters.length) = some 2 := by decide +kernel
set_option maxHeartbeats 4000000 in
set_option maxRecDepth 100000 in
theorem c_X7_factor (l : Launch) (G : va_G) (cI cJ cZ cS : ClassId) (q q_shelf q_images q_cycles q_above q_book q_sums q_cycles_lengths : Nat) (sz : Nat) (f_cycles_lengths : (Nat → Int32)) (f_cycles_size : Int32) (y1 : Int32) (y2 : Int32) (r : (Int32 × (Nat → Int32) × Int32)) (h : p_X7_factor f_cycles_lengths f_cycles_size y1 y2 = some r) : Met l yX7_factor wsX7_factor { frames := 4, cells := 0, slots := 0, locals := 94 } (hb_pre G (hbT cI cJ cZ cS) [.ref q, .int y1, .int y2] sz [(q, .inr (5, [.ref q_shelf, .ref q_images, .ref q_cycles, .ref q_above, .ref q_book, .ref q_sums])), (q_cycles, .inr (2, [.ref q_cycles_lengths, .int f_cycles_size])), (q_cycles_lengths, .inl (cI, 4, .inl f_cycles_lengths))]) (hb_Qi G r.1 [(q, .inr (5, [.ref q_shelf, .ref q_images, .ref q_cycles, .ref q_above, .ref q_book, .ref q_sums])), (q_cycles, .inr (2, [.ref q_cycles_lengths, .int r.2.2])), (q_cycles_lengths, .inl (cI, 4, .inl r.2.1))] (va_A [(q, .inr (5, [.ref q_shelf, .ref q_images, .ref q_cycles, .ref q_above, .ref q_book, .ref q_sums])), (q_cycles, .inr (2, [.ref q_cycles_lengths, .int f_cycles_size])), (q_cycles_lengths, .inl (cI, 4, .inl f_cycles_lengths))] sz)) 0 0 (va_A [(q, .inr (5, [.ref q_shelf, .ref q_images, .ref q_cycles, .ref q_above, .ref q_book, .ref q_sums])), (q_cycles, .inr (2, [.ref q_cycles_lengths, .int f_cycles_size])), (q_cycles_lengths, .inl (cI, 4, .inl f_cycles_lengths))] sz) := by
  refine hb_met (Qc := fun A => hb_Qi G r.1 [(q, .inr (5, [.ref q_shelf, .ref q_images, .ref q_cycles, .ref q_above, .ref q_book, .ref q_sums])), (q_cycles, .inr (2, [.ref q_cycles_lengths, .int r.2.2])), (q_cycles_lengths, .inl (cI, 4, .inl r.2.1))] A) (cc := cX7_factor) (maxL := 3) (ret := some .int) (by decide) rfl (Nat.le_of_ble_eq_true rfl) ?_
  intro p e s m below meth c A hx hb hr hts hown hlocks hml hin hK hA hP hD hS ls hl
  have hown : s.vm.findClass RX7 = some m.cls := hown
  have S0 : CallFix p m c cX7_factor 3 s ([.ref q, .int y1, .int y2] : List Value).toArray wsX7_factor RX7 := ⟨hx, hb, hml, hown, hts⟩
  have hl : lv_has ls 3 [(0, .ref q), (1, .int y1), (2, .int y2)] := hl
  suffices hh : ∀ (H : Heap) (locs : List Loc), va_P G vwCl [(q, .inr (5, [.ref q_shelf, .ref q_images, .ref q_cycles, .ref q_above, .ref q_book, .ref q_sums])), (q_cycles, .inr (2, [.ref q_cycles_lengths, .int f_cycles_size])), (q_cycles_lengths, .inl (cI, 4, .inl f_cycles_lengths))] H → va_D A [(q, .inr (5, [.ref q_shelf, .ref q_images, .ref q_cycles, .ref q_above, .ref q_book, .ref q_sums])), (q_cycles, .inr (2, [.ref q_cycles_lengths, .int f_cycles_size])), (q_cycles_lengths, .inl (cI, 4, .inl f_cycles_lengths))] → va_S A s.heap H locs → W p l e (headSpec wsX7_factor { frames := 4, cells := 0, slots := 0, locals := 94 }).room s m ([.ref q, .int y1, .int y2] : List Value).toArray below meth c H locs 0 0 (MQ below (hb_Qi G r.1 [(q, .inr (5, [.ref q_shelf, .ref q_images, .ref q_cycles, .ref q_above, .ref q_book, .ref q_sums])), (q_cycles, .inr (2, [.ref q_cycles_lengths, .int r.2.2])), (q_cycles_lengths, .inl (cI, 4, .inl r.2.1))] A) ([.ref q, .int y1, .int y2] : List Value).toArray s 0 0 A) (F0 m 0 ls []) from hh s.heap [] hP hD hS
  intro H locs hP hD hS
  unfold p_X7_factor at h
  refine lv_iload_n hx hb dX7_factor_0 rfl (lv_at hl 1 rfl) ?_
  obtain ⟨v1, hv1, h⟩ := pf_bind h
  refine pf_call (As := [.int y1]) (rest := []) S0 (c_X7_isM l y1 v1 hv1) (va_cwS 1 hts gX7_factor_X7_isM rfl rfl rfl kd_X7_isM ⟨Nat.le_of_ble_eq_true rfl, Nat.le_of_ble_eq_true rfl⟩) rfl hl.1 rfl (Nat.le_of_ble_eq_true rfl) dX7_factor_1 ⟨Nat.zero_le _, Nat.zero_le _⟩ ?_
  refine lv_if_eq (tgt := 11) hx hb dX7_factor_4 (by decide) (fun c4 => ?_) (fun c4 => ?_)
  · have h := pf_pos h c4
    refine lv_iconst (v := -1) hx hb dX7_factor_11 (by decide) ?_
    cases h
    exact hb_iret hx hb hr hlocks hP hD hS dX7_factor_12
  · have h := pf_neg h c4
    refine lv_iload_n hx hb dX7_factor_7 rfl (lv_at hl 2 rfl) ?_
    refine lv_if_ge (tgt := 13) hx hb dX7_factor_8 (by decide) (fun c8 => ?_) (fun c8 => ?_)
    · have h := pf_pos h c8
      refine lv_aload_n hx hb dX7_factor_13 rfl (lv_at hl 0 rfl) ?_
      refine va_get (D := G) (ci := 5) (v := .ref q_cycles) (C := RX7) (T := TX7) (N := 6) hx hb hts in_X7_factor_X7 hown hK.1 hP 0 rfl rfl 2 (by decide) (hts (.fieldLink RX7 23 "FieldsByClasses" "cycles" "LFieldsByClasses$Cycles;") (by decide +kernel)) (fun _ h9 => h9) rfl dX7_factor_14 ?_
      refine lv_iload_n hx hb dX7_factor_17 rfl (lv_at hl 1 rfl) ?_
      obtain ⟨v18, hv18, h⟩ := pf_bind h
      refine hb_callv (hb_runV (G := G) (T := hbT cI cJ cZ cS) (As := [.int y1]) (rest := []) S0 (c_X2_find l G cI cJ cZ cS q_cycles q_cycles_lengths H.size f_cycles_lengths f_cycles_size y1 v18 hv18) (cwV 1 hts gX7_factor_X2_find rfl rfl rfl kv_X2_find ⟨Nat.le_of_ble_eq_true rfl, Nat.le_of_ble_eq_true rfl⟩) hK (hP.sub [1, 2] rfl) (hD.sub [1, 2] (by decide) rfl) rfl rfl rfl hl.1 rfl (Nat.le_of_ble_eq_true rfl) dX7_factor_18 ⟨Nat.zero_le _, Nat.zero_le _⟩) hP hD hS hA [1, 2] [0] [0, 1, 2] rfl (wr := [(q, .inr (5, [.ref q_shelf, .ref q_images, .ref q_cycles, .ref q_above, .ref q_book, .ref q_sums]))]) rfl (by decide) (by decide) (w2 := [(q, .inr (5, [.ref q_shelf, .ref q_images, .ref q_cycles, .ref q_above, .ref q_book, .ref q_sums])), (q_cycles, .inr (2, [.ref q_cycles_lengths, .int v18.2])), (q_cycles_lengths, .inl (cI, 4, .inl v18.1))]) (by decide) rfl rfl (fun H locs hP hD hS => ?_)
      refine lv_aload_n hx hb dX7_factor_21 rfl (lv_at hl 0 rfl) ?_
      refine va_get (D := G) (ci := 5) (v := .ref q_cycles) (C := RX7) (T := TX7) (N := 6) hx hb hts in_X7_factor_X7 hown hK.1 hP 0 rfl rfl 2 (by decide) (hts (.fieldLink RX7 23 "FieldsByClasses" "cycles" "LFieldsByClasses$Cycles;") (by decide +kernel)) (fun _ h9 => h9) rfl dX7_factor_22 ?_
      refine lv_iload_n hx hb dX7_factor_25 rfl (lv_at hl 2 rfl) ?_
      obtain ⟨v26, hv26, h⟩ := pf_bind h
      refine hb_calli (hb_runV (G := G) (T := hbT cI cJ cZ cS) (As := [.int y2]) (rest := []) S0 (c_X2_above1 l G cI cJ cZ cS q_cycles q_cycles_lengths H.size v18.1 v18.2 y2 v26 hv26) (cwV 1 hts gX7_factor_X2_above1 rfl rfl rfl kv_X2_above1 ⟨Nat.le_of_ble_eq_true rfl, Nat.le_of_ble_eq_true rfl⟩) hK (hP.sub [1, 2] rfl) (hD.sub [1, 2] (by decide) rfl) rfl rfl rfl hl.1 rfl (Nat.le_of_ble_eq_true rfl) dX7_factor_26 ⟨Nat.zero_le _, Nat.zero_le _⟩) hP hD hS hA [1, 2] [0] [0, 1, 2] rfl (wr := [(q, .inr (5, [.ref q_shelf, .ref q_images, .ref q_cycles, .ref q_above, .ref q_book, .ref q_sums]))]) rfl (by decide) (by decide) (w2 := [(q, .inr (5, [.ref q_shelf, .ref q_images, .ref q_cycles, .ref q_above, .ref q_book, .ref q_sums])), (q_cycles, .inr (2, [.ref q_cycles_lengths, .int v18.2])), (q_cycles_lengths, .inl (cI, 4, .inl v18.1))]) (by decide) rfl rfl (fun H locs hP hD hS => ?_)
      cases h
      exact hb_iret hx hb hr hlocks hP hD hS dX7_factor_29
    · have h := pf_neg h c8
      refine lv_iconst (v := -1) hx hb dX7_factor_11 (by decide) ?_
      cases h
      exact hb_iret hx hb hr hlocks hP hD hS dX7_factor_12
-- X7_order
def p_X7_order  (y1 : Int32) (y2 : Int32) : Option Int32 :=
  ((p_X7_isM y1).bind fun v1 => (if v1 = 0 then some (-1 : Int32) else ((p_X3_all y1).bind fun v8 => ((p_X3_has v8 y2).bind fun v12 => (if v12 = 0 then some (-1 : Int32) else ((p_X3_one y1).bind fun v21 => ((p_X3_orderOver v21 y2 y1).bind fun v26 => some v26)))))))
theorem kv_X7_order : yX7_order.cls = RX7 ∧ yX7_order.cls ≠ "java/lang/invoke/MethodHandle" ∧ yX7_order.cls ≠ "java/lang/invoke/VarHandle" ∧ (parseMethodDescriptor yX7_order.desc).map (fun d => d.parameters.length) = some 2 := by decide +kernel
set_option maxHeartbeats 4000000 in
set_option maxRecDepth 100000 in
theorem c_X7_order (l : Launch) (G : va_G) (cI cJ cZ cS : ClassId) (q q_shelf q_images q_cycles q_above q_book q_sums : Nat) (sz : Nat)  (y1 : Int32) (y2 : Int32) (r : Int32) (h : p_X7_order  y1 y2 = some r) : Met l yX7_order wsX7_order { frames := 2, cells := 0, slots := 0, locals := 48 } (hb_pre G (hbT cI cJ cZ cS) [.ref q, .int y1, .int y2] sz [(q, .inr (5, [.ref q_shelf, .ref q_images, .ref q_cycles, .ref q_above, .ref q_book, .ref q_sums]))]) (hb_Qi G r [(q, .inr (5, [.ref q_shelf, .ref q_images, .ref q_cycles, .ref q_above, .ref q_book, .ref q_sums]))] (va_A [(q, .inr (5, [.ref q_shelf, .ref q_images, .ref q_cycles, .ref q_above, .ref q_book, .ref q_sums]))] sz)) 0 0 (va_A [(q, .inr (5, [.ref q_shelf, .ref q_images, .ref q_cycles, .ref q_above, .ref q_book, .ref q_sums]))] sz) := by
  refine hb_met (Qc := fun A => hb_Qi G r [(q, .inr (5, [.ref q_shelf, .ref q_images, .ref q_cycles, .ref q_above, .ref q_book, .ref q_sums]))] A) (cc := cX7_order) (maxL := 3) (ret := some .int) (by decide) rfl (Nat.le_of_ble_eq_true rfl) ?_
  intro p e s m below meth c A hx hb hr hts hown hlocks hml hin hK hA hP hD hS ls hl
  have hown : s.vm.findClass RX7 = some m.cls := hown
  have S0 : CallFix p m c cX7_order 3 s ([.ref q, .int y1, .int y2] : List Value).toArray wsX7_order RX7 := ⟨hx, hb, hml, hown, hts⟩
  have hl : lv_has ls 3 [(0, .ref q), (1, .int y1), (2, .int y2)] := hl
  suffices hh : ∀ (H : Heap) (locs : List Loc), va_P G vwCl [(q, .inr (5, [.ref q_shelf, .ref q_images, .ref q_cycles, .ref q_above, .ref q_book, .ref q_sums]))] H → va_D A [(q, .inr (5, [.ref q_shelf, .ref q_images, .ref q_cycles, .ref q_above, .ref q_book, .ref q_sums]))] → va_S A s.heap H locs → W p l e (headSpec wsX7_order { frames := 2, cells := 0, slots := 0, locals := 48 }).room s m ([.ref q, .int y1, .int y2] : List Value).toArray below meth c H locs 0 0 (MQ below (hb_Qi G r [(q, .inr (5, [.ref q_shelf, .ref q_images, .ref q_cycles, .ref q_above, .ref q_book, .ref q_sums]))] A) ([.ref q, .int y1, .int y2] : List Value).toArray s 0 0 A) (F0 m 0 ls []) from hh s.heap [] hP hD hS
  intro H locs hP hD hS
  unfold p_X7_order at h
  refine lv_iload_n hx hb dX7_order_0 rfl (lv_at hl 1 rfl) ?_
  obtain ⟨v1, hv1, h⟩ := pf_bind h
  refine pf_call (As := [.int y1]) (rest := []) S0 (c_X7_isM l y1 v1 hv1) (va_cwS 1 hts gX7_order_X7_isM rfl rfl rfl kd_X7_isM ⟨Nat.le_of_ble_eq_true rfl, Nat.le_of_ble_eq_true rfl⟩) rfl hl.1 rfl (Nat.le_of_ble_eq_true rfl) dX7_order_1 ⟨Nat.zero_le _, Nat.zero_le _⟩ ?_
  refine lv_if_eq (tgt := 18) hx hb dX7_order_4 (by decide) (fun c4 => ?_) (fun c4 => ?_)
  · have h := pf_pos h c4
    refine lv_iconst (v := -1) hx hb dX7_order_18 (by decide) ?_
    cases h
    exact hb_iret hx hb hr hlocks hP hD hS dX7_order_19
  · have h := pf_neg h c4
    refine lv_iload_n hx hb dX7_order_7 rfl (lv_at hl 1 rfl) ?_
    obtain ⟨v8, hv8, h⟩ := pf_bind h
    refine pf_call (As := [.int y1]) (rest := []) S0 (c_X3_all l y1 v8 hv8) (va_cwS 1 hts gX7_order_X3_all rfl rfl rfl kd_X3_all ⟨Nat.le_of_ble_eq_true rfl, Nat.le_of_ble_eq_true rfl⟩) rfl hl.1 rfl (Nat.le_of_ble_eq_true rfl) dX7_order_8 ⟨Nat.zero_le _, Nat.zero_le _⟩ ?_
    refine lv_iload_n hx hb dX7_order_11 rfl (lv_at hl 2 rfl) ?_
    obtain ⟨v12, hv12, h⟩ := pf_bind h
    refine pf_call (As := [.long v8, .int y2]) (rest := []) S0 (c_X3_has l v8 y2 v12 hv12) (va_cwS 2 hts gX7_order_X3_has rfl rfl rfl kd_X3_has ⟨Nat.le_of_ble_eq_true rfl, Nat.le_of_ble_eq_true rfl⟩) rfl hl.1 rfl (Nat.le_of_ble_eq_true rfl) dX7_order_12 ⟨Nat.zero_le _, Nat.zero_le _⟩ ?_
    refine lv_if_ne (tgt := 20) hx hb dX7_order_15 (by decide) (fun c15 => ?_) (fun c15 => ?_)
    · have h := pf_neg h c15
      refine lv_iload_n hx hb dX7_order_20 rfl (lv_at hl 1 rfl) ?_
      obtain ⟨v21, hv21, h⟩ := pf_bind h
      refine pf_call (As := [.int y1]) (rest := []) S0 (c_X3_one l y1 v21 hv21) (va_cwS 1 hts gX7_order_X3_one rfl rfl rfl kd_X3_one ⟨Nat.le_of_ble_eq_true rfl, Nat.le_of_ble_eq_true rfl⟩) rfl hl.1 rfl (Nat.le_of_ble_eq_true rfl) dX7_order_21 ⟨Nat.zero_le _, Nat.zero_le _⟩ ?_
      refine lv_iload_n hx hb dX7_order_24 rfl (lv_at hl 2 rfl) ?_
      refine lv_iload_n hx hb dX7_order_25 rfl (lv_at hl 1 rfl) ?_
      obtain ⟨v26, hv26, h⟩ := pf_bind h
      refine pf_call (As := [.long v21, .int y2, .int y1]) (rest := []) S0 (c_X3_orderOver l v21 y2 y1 v26 hv26) (va_cwS 3 hts gX7_order_X3_orderOver rfl rfl rfl kd_X3_orderOver ⟨Nat.le_of_ble_eq_true rfl, Nat.le_of_ble_eq_true rfl⟩) rfl hl.1 rfl (Nat.le_of_ble_eq_true rfl) dX7_order_26 ⟨Nat.zero_le _, Nat.zero_le _⟩ ?_
      cases h
      exact hb_iret hx hb hr hlocks hP hD hS dX7_order_29
    · have h := pf_pos h c15
      refine lv_iconst (v := -1) hx hb dX7_order_18 (by decide) ?_
      cases h
      exact hb_iret hx hb hr hlocks hP hD hS dX7_order_19
-- X7_keep
def p_X7_keep (f_shelf_bars : (Nat → Int32)) (f_shelf_groups : (Nat → Int64)) (f_shelf_size : Int32) (y1 : Int64) (y3 : Int32) : Option (Int32 × (Nat → Int32) × (Nat → Int64) × Int32) :=
  ((p_X3_bar y1 y3).bind fun v2 => ((p_X3_lowered y1 v2).bind fun v16 => ((p_X4_put f_shelf_bars f_shelf_groups f_shelf_size v2 v16).bind fun v19 => some (v19.1, v19.2.1, v19.2.2.1, v19.2.2.2))))
theorem in_X7_keep_X7 : ∀ w ∈ u_ws RX7 TX7 6, w ∈ wsX7_keep := fun w h => List.mem_cons_of_mem _ (List.mem_append_left _ (List.mem_append_right _ h))
theorem kv_X7_keep : yX7_keep.cls = RX7 ∧ yX7_keep.cls ≠ "java/lang/invoke/MethodHandle" ∧ yX7_keep.cls ≠ "java/lang/invoke/VarHandle" ∧ (parseMethodDescriptor yX7_keep.desc).map (fun d => d.parameters.length) = some 2 := by decide +kernel
set_option maxHeartbeats 4000000 in
set_option maxRecDepth 100000 in
theorem c_X7_keep (l : Launch) (G : va_G) (cI cJ cZ cS : ClassId) (q q_shelf q_images q_cycles q_above q_book q_sums q_shelf_bars q_shelf_groups : Nat) (sz : Nat) (f_shelf_bars : (Nat → Int32)) (f_shelf_groups : (Nat → Int64)) (f_shelf_size : Int32) (y1 : Int64) (y3 : Int32) (r : (Int32 × (Nat → Int32) × (Nat → Int64) × Int32)) (h : p_X7_keep f_shelf_bars f_shelf_groups f_shelf_size y1 y3 = some r) : Met l yX7_keep wsX7_keep { frames := 3, cells := 0, slots := 0, locals := 73 } (hb_pre G (hbT cI cJ cZ cS) [.ref q, .long y1, .int y3] sz [(q, .inr (5, [.ref q_shelf, .ref q_images, .ref q_cycles, .ref q_above, .ref q_book, .ref q_sums])), (q_shelf, .inr (3, [.ref q_shelf_bars, .ref q_shelf_groups, .int f_shelf_size])), (q_shelf_bars, .inl (cI, 40, .inl f_shelf_bars)), (q_shelf_groups, .inl (cJ, 40, .inr (.inl f_shelf_groups)))]) (hb_Qi G r.1 [(q, .inr (5, [.ref q_shelf, .ref q_images, .ref q_cycles, .ref q_above, .ref q_book, .ref q_sums])), (q_shelf, .inr (3, [.ref q_shelf_bars, .ref q_shelf_groups, .int r.2.2.2])), (q_shelf_bars, .inl (cI, 40, .inl r.2.1)), (q_shelf_groups, .inl (cJ, 40, .inr (.inl r.2.2.1)))] (va_A [(q, .inr (5, [.ref q_shelf, .ref q_images, .ref q_cycles, .ref q_above, .ref q_book, .ref q_sums])), (q_shelf, .inr (3, [.ref q_shelf_bars, .ref q_shelf_groups, .int f_shelf_size])), (q_shelf_bars, .inl (cI, 40, .inl f_shelf_bars)), (q_shelf_groups, .inl (cJ, 40, .inr (.inl f_shelf_groups)))] sz)) 0 0 (va_A [(q, .inr (5, [.ref q_shelf, .ref q_images, .ref q_cycles, .ref q_above, .ref q_book, .ref q_sums])), (q_shelf, .inr (3, [.ref q_shelf_bars, .ref q_shelf_groups, .int f_shelf_size])), (q_shelf_bars, .inl (cI, 40, .inl f_shelf_bars)), (q_shelf_groups, .inl (cJ, 40, .inr (.inl f_shelf_groups)))] sz) := by
  refine hb_met (Qc := fun A => hb_Qi G r.1 [(q, .inr (5, [.ref q_shelf, .ref q_images, .ref q_cycles, .ref q_above, .ref q_book, .ref q_sums])), (q_shelf, .inr (3, [.ref q_shelf_bars, .ref q_shelf_groups, .int r.2.2.2])), (q_shelf_bars, .inl (cI, 40, .inl r.2.1)), (q_shelf_groups, .inl (cJ, 40, .inr (.inl r.2.2.1)))] A) (cc := cX7_keep) (maxL := 5) (ret := some .int) (by decide) rfl (Nat.le_of_ble_eq_true rfl) ?_
  intro p e s m below meth c A hx hb hr hts hown hlocks hml hin hK hA hP hD hS ls hl
  have hown : s.vm.findClass RX7 = some m.cls := hown
  have S0 : CallFix p m c cX7_keep 5 s ([.ref q, .long y1, .int y3] : List Value).toArray wsX7_keep RX7 := ⟨hx, hb, hml, hown, hts⟩
  have hl : lv_has ls 5 [(0, .ref q), (1, .long y1), (3, .int y3)] := hl
  suffices hh : ∀ (H : Heap) (locs : List Loc), va_P G vwCl [(q, .inr (5, [.ref q_shelf, .ref q_images, .ref q_cycles, .ref q_above, .ref q_book, .ref q_sums])), (q_shelf, .inr (3, [.ref q_shelf_bars, .ref q_shelf_groups, .int f_shelf_size])), (q_shelf_bars, .inl (cI, 40, .inl f_shelf_bars)), (q_shelf_groups, .inl (cJ, 40, .inr (.inl f_shelf_groups)))] H → va_D A [(q, .inr (5, [.ref q_shelf, .ref q_images, .ref q_cycles, .ref q_above, .ref q_book, .ref q_sums])), (q_shelf, .inr (3, [.ref q_shelf_bars, .ref q_shelf_groups, .int f_shelf_size])), (q_shelf_bars, .inl (cI, 40, .inl f_shelf_bars)), (q_shelf_groups, .inl (cJ, 40, .inr (.inl f_shelf_groups)))] → va_S A s.heap H locs → W p l e (headSpec wsX7_keep { frames := 3, cells := 0, slots := 0, locals := 73 }).room s m ([.ref q, .long y1, .int y3] : List Value).toArray below meth c H locs 0 0 (MQ below (hb_Qi G r.1 [(q, .inr (5, [.ref q_shelf, .ref q_images, .ref q_cycles, .ref q_above, .ref q_book, .ref q_sums])), (q_shelf, .inr (3, [.ref q_shelf_bars, .ref q_shelf_groups, .int r.2.2.2])), (q_shelf_bars, .inl (cI, 40, .inl r.2.1)), (q_shelf_groups, .inl (cJ, 40, .inr (.inl r.2.2.1)))] A) ([.ref q, .long y1, .int y3] : List Value).toArray s 0 0 A) (F0 m 0 ls []) from hh s.heap [] hP hD hS
  intro H locs hP hD hS
  unfold p_X7_keep at h
  refine lv_lload_n hx hb dX7_keep_0 rfl (lv_at hl 1 rfl) ?_
  refine lv_iload_n hx hb dX7_keep_1 rfl (lv_at hl 2 rfl) ?_
  obtain ⟨v2, hv2, h⟩ := pf_bind h
  refine pf_call (As := [.long y1, .int y3]) (rest := []) S0 (c_X3_bar l y1 y3 v2 hv2) (va_cwS 2 hts gX7_keep_X3_bar rfl rfl rfl kd_X3_bar ⟨Nat.le_of_ble_eq_true rfl, Nat.le_of_ble_eq_true rfl⟩) rfl hl.1 rfl (Nat.le_of_ble_eq_true rfl) dX7_keep_2 ⟨Nat.zero_le _, Nat.zero_le _⟩ ?_
  refine lv_istore (lv' := [(4, .int v2), (0, .ref q), (1, .long y1), (3, .int y3)]) hx hb dX7_keep_5 hl (by decide) rfl (fun ls hl => ?_)
  refine lv_aload_n hx hb dX7_keep_7 rfl (lv_at hl 1 rfl) ?_
  refine va_get (D := G) (ci := 5) (v := .ref q_shelf) (C := RX7) (T := TX7) (N := 6) hx hb hts in_X7_keep_X7 hown hK.1 hP 0 rfl rfl 0 (by decide) (hts (.fieldLink RX7 10 "FieldsByClasses" "shelf" "LFieldsByClasses$Shelf;") (by decide +kernel)) (fun _ h9 => h9) rfl dX7_keep_8 ?_
  refine lv_iload hx hb dX7_keep_11 (lv_at hl 0 rfl) ?_
  refine lv_lload_n hx hb dX7_keep_13 rfl (lv_at hl 2 rfl) ?_
  refine lv_iload hx hb dX7_keep_14 (lv_at hl 0 rfl) ?_
  obtain ⟨v16, hv16, h⟩ := pf_bind h
  refine pf_call (As := [.long y1, .int v2]) (rest := [.int v2, .ref q_shelf]) S0 (c_X3_lowered l y1 v2 v16 hv16) (va_cwS 2 hts gX7_keep_X3_lowered rfl rfl rfl kd_X3_lowered ⟨Nat.le_of_ble_eq_true rfl, Nat.le_of_ble_eq_true rfl⟩) rfl hl.1 rfl (Nat.le_of_ble_eq_true rfl) dX7_keep_16 ⟨Nat.zero_le _, Nat.zero_le _⟩ ?_
  obtain ⟨v19, hv19, h⟩ := pf_bind h
  refine hb_calli (hb_runV (G := G) (T := hbT cI cJ cZ cS) (As := [.int v2, .long v16]) (rest := []) S0 (c_X4_put l G cI cJ cZ cS q_shelf q_shelf_bars q_shelf_groups H.size f_shelf_bars f_shelf_groups f_shelf_size v2 v16 v19 hv19) (cwV 2 hts gX7_keep_X4_put rfl rfl rfl kv_X4_put ⟨Nat.le_of_ble_eq_true rfl, Nat.le_of_ble_eq_true rfl⟩) hK (hP.sub [1, 2, 3] rfl) (hD.sub [1, 2, 3] (by decide) rfl) rfl rfl rfl hl.1 rfl (Nat.le_of_ble_eq_true rfl) dX7_keep_19 ⟨Nat.zero_le _, Nat.zero_le _⟩) hP hD hS hA [1, 2, 3] [0] [0, 1, 2, 3] rfl (wr := [(q, .inr (5, [.ref q_shelf, .ref q_images, .ref q_cycles, .ref q_above, .ref q_book, .ref q_sums]))]) rfl (by decide) (by decide) (w2 := [(q, .inr (5, [.ref q_shelf, .ref q_images, .ref q_cycles, .ref q_above, .ref q_book, .ref q_sums])), (q_shelf, .inr (3, [.ref q_shelf_bars, .ref q_shelf_groups, .int v19.2.2.2])), (q_shelf_bars, .inl (cI, 40, .inl v19.2.1)), (q_shelf_groups, .inl (cJ, 40, .inr (.inl v19.2.2.1)))]) (by decide) rfl rfl (fun H locs hP hD hS => ?_)
  cases h
  exact hb_iret hx hb hr hlocks hP hD hS dX7_keep_22
-- X7_make
def p_X7_make (f_shelf_bars : (Nat → Int32)) (f_shelf_groups : (Nat → Int64)) (f_shelf_size : Int32) (y1 : Int32) (y2 : Int64) : Option (Int32 × (Nat → Int32) × (Nat → Int64) × Int32) :=
  ((p_X7_isM y1).bind fun v1 => (if v1 = 0 then some ((-1 : Int32), f_shelf_bars, f_shelf_groups, f_shelf_size) else ((p_X3_all y1).bind fun v9 => (if (y2 &&& (v9 ^^^ (-1 : Int64))) = (0 : Int64) then ((p_X3_madeOf y2 y1).bind fun v27 => ((p_X7_keep f_shelf_bars f_shelf_groups f_shelf_size v27 y1).bind fun v31 => some (v31.1, v31.2.1, v31.2.2.1, v31.2.2.2))) else some ((-1 : Int32), f_shelf_bars, f_shelf_groups, f_shelf_size)))))
theorem kv_X7_make : yX7_make.cls = RX7 ∧ yX7_make.cls ≠ "java/lang/invoke/MethodHandle" ∧ yX7_make.cls ≠ "java/lang/invoke/VarHandle" ∧ (parseMethodDescriptor yX7_make.desc).map (fun d => d.parameters.length) = some 2 := by decide +kernel
set_option maxHeartbeats 4000000 in
set_option maxRecDepth 100000 in
theorem c_X7_make (l : Launch) (G : va_G) (cI cJ cZ cS : ClassId) (q q_shelf q_images q_cycles q_above q_book q_sums q_shelf_bars q_shelf_groups : Nat) (sz : Nat) (f_shelf_bars : (Nat → Int32)) (f_shelf_groups : (Nat → Int64)) (f_shelf_size : Int32) (y1 : Int32) (y2 : Int64) (r : (Int32 × (Nat → Int32) × (Nat → Int64) × Int32)) (h : p_X7_make f_shelf_bars f_shelf_groups f_shelf_size y1 y2 = some r) : Met l yX7_make wsX7_make { frames := 4, cells := 0, slots := 0, locals := 100 } (hb_pre G (hbT cI cJ cZ cS) [.ref q, .int y1, .long y2] sz [(q, .inr (5, [.ref q_shelf, .ref q_images, .ref q_cycles, .ref q_above, .ref q_book, .ref q_sums])), (q_shelf, .inr (3, [.ref q_shelf_bars, .ref q_shelf_groups, .int f_shelf_size])), (q_shelf_bars, .inl (cI, 40, .inl f_shelf_bars)), (q_shelf_groups, .inl (cJ, 40, .inr (.inl f_shelf_groups)))]) (hb_Qi G r.1 [(q, .inr (5, [.ref q_shelf, .ref q_images, .ref q_cycles, .ref q_above, .ref q_book, .ref q_sums])), (q_shelf, .inr (3, [.ref q_shelf_bars, .ref q_shelf_groups, .int r.2.2.2])), (q_shelf_bars, .inl (cI, 40, .inl r.2.1)), (q_shelf_groups, .inl (cJ, 40, .inr (.inl r.2.2.1)))] (va_A [(q, .inr (5, [.ref q_shelf, .ref q_images, .ref q_cycles, .ref q_above, .ref q_book, .ref q_sums])), (q_shelf, .inr (3, [.ref q_shelf_bars, .ref q_shelf_groups, .int f_shelf_size])), (q_shelf_bars, .inl (cI, 40, .inl f_shelf_bars)), (q_shelf_groups, .inl (cJ, 40, .inr (.inl f_shelf_groups)))] sz)) 0 0 (va_A [(q, .inr (5, [.ref q_shelf, .ref q_images, .ref q_cycles, .ref q_above, .ref q_book, .ref q_sums])), (q_shelf, .inr (3, [.ref q_shelf_bars, .ref q_shelf_groups, .int f_shelf_size])), (q_shelf_bars, .inl (cI, 40, .inl f_shelf_bars)), (q_shelf_groups, .inl (cJ, 40, .inr (.inl f_shelf_groups)))] sz) := by
  refine hb_met (Qc := fun A => hb_Qi G r.1 [(q, .inr (5, [.ref q_shelf, .ref q_images, .ref q_cycles, .ref q_above, .ref q_book, .ref q_sums])), (q_shelf, .inr (3, [.ref q_shelf_bars, .ref q_shelf_groups, .int r.2.2.2])), (q_shelf_bars, .inl (cI, 40, .inl r.2.1)), (q_shelf_groups, .inl (cJ, 40, .inr (.inl r.2.2.1)))] A) (cc := cX7_make) (maxL := 4) (ret := some .int) (by decide) rfl (Nat.le_of_ble_eq_true rfl) ?_
  intro p e s m below meth c A hx hb hr hts hown hlocks hml hin hK hA hP hD hS ls hl
  have hown : s.vm.findClass RX7 = some m.cls := hown
  have S0 : CallFix p m c cX7_make 4 s ([.ref q, .int y1, .long y2] : List Value).toArray wsX7_make RX7 := ⟨hx, hb, hml, hown, hts⟩
  have hl : lv_has ls 4 [(0, .ref q), (1, .int y1), (2, .long y2)] := hl
  suffices hh : ∀ (H : Heap) (locs : List Loc), va_P G vwCl [(q, .inr (5, [.ref q_shelf, .ref q_images, .ref q_cycles, .ref q_above, .ref q_book, .ref q_sums])), (q_shelf, .inr (3, [.ref q_shelf_bars, .ref q_shelf_groups, .int f_shelf_size])), (q_shelf_bars, .inl (cI, 40, .inl f_shelf_bars)), (q_shelf_groups, .inl (cJ, 40, .inr (.inl f_shelf_groups)))] H → va_D A [(q, .inr (5, [.ref q_shelf, .ref q_images, .ref q_cycles, .ref q_above, .ref q_book, .ref q_sums])), (q_shelf, .inr (3, [.ref q_shelf_bars, .ref q_shelf_groups, .int f_shelf_size])), (q_shelf_bars, .inl (cI, 40, .inl f_shelf_bars)), (q_shelf_groups, .inl (cJ, 40, .inr (.inl f_shelf_groups)))] → va_S A s.heap H locs → W p l e (headSpec wsX7_make { frames := 4, cells := 0, slots := 0, locals := 100 }).room s m ([.ref q, .int y1, .long y2] : List Value).toArray below meth c H locs 0 0 (MQ below (hb_Qi G r.1 [(q, .inr (5, [.ref q_shelf, .ref q_images, .ref q_cycles, .ref q_above, .ref q_book, .ref q_sums])), (q_shelf, .inr (3, [.ref q_shelf_bars, .ref q_shelf_groups, .int r.2.2.2])), (q_shelf_bars, .inl (cI, 40, .inl r.2.1)), (q_shelf_groups, .inl (cJ, 40, .inr (.inl r.2.2.1)))] A) ([.ref q, .int y1, .long y2] : List Value).toArray s 0 0 A) (F0 m 0 ls []) from hh s.heap [] hP hD hS
  intro H locs hP hD hS
  unfold p_X7_make at h
  refine lv_iload_n hx hb dX7_make_0 rfl (lv_at hl 1 rfl) ?_
  obtain ⟨v1, hv1, h⟩ := pf_bind h
  refine pf_call (As := [.int y1]) (rest := []) S0 (c_X7_isM l y1 v1 hv1) (va_cwS 1 hts gX7_make_X7_isM rfl rfl rfl kd_X7_isM ⟨Nat.le_of_ble_eq_true rfl, Nat.le_of_ble_eq_true rfl⟩) rfl hl.1 rfl (Nat.le_of_ble_eq_true rfl) dX7_make_1 ⟨Nat.zero_le _, Nat.zero_le _⟩ ?_
  refine lv_if_eq (tgt := 22) hx hb dX7_make_4 (by decide) (fun c4 => ?_) (fun c4 => ?_)
  · have h := pf_pos h c4
    refine lv_iconst (v := -1) hx hb dX7_make_22 (by decide) ?_
    cases h
    exact hb_iret hx hb hr hlocks hP hD hS dX7_make_23
  · have h := pf_neg h c4
    refine lv_lload_n hx hb dX7_make_7 rfl (lv_at hl 2 rfl) ?_
    refine lv_iload_n hx hb dX7_make_8 rfl (lv_at hl 1 rfl) ?_
    obtain ⟨v9, hv9, h⟩ := pf_bind h
    refine pf_call (As := [.int y1]) (rest := [.long y2]) S0 (c_X3_all l y1 v9 hv9) (va_cwS 1 hts gX7_make_X3_all rfl rfl rfl kd_X3_all ⟨Nat.le_of_ble_eq_true rfl, Nat.le_of_ble_eq_true rfl⟩) rfl hl.1 rfl (Nat.le_of_ble_eq_true rfl) dX7_make_9 ⟨Nat.zero_le _, Nat.zero_le _⟩ ?_
    refine lv_ldc2 (v := -1) hx hb hown (hts (.constantLong RX7 81 (-1)) (by decide +kernel)) dX7_make_12 ?_
    refine lv_lxor hx hb dX7_make_15 ?_
    refine lv_land hx hb dX7_make_16 ?_
    refine lv_lconst (v := 0) hx hb dX7_make_17 (by decide) ?_
    refine W.lcmp hx hb dX7_make_18 ?_
    refine lv_if_eq (tgt := 24) hx hb dX7_make_19 (by decide) (fun c19 => ?_) (fun c19 => ?_)
    · have h := pf_pos h ((lg_cmp_eq _ _).mp c19)
      refine lv_aload_n hx hb dX7_make_24 rfl (lv_at hl 0 rfl) ?_
      refine lv_lload_n hx hb dX7_make_25 rfl (lv_at hl 2 rfl) ?_
      refine lv_iload_n hx hb dX7_make_26 rfl (lv_at hl 1 rfl) ?_
      obtain ⟨v27, hv27, h⟩ := pf_bind h
      refine pf_call (As := [.long y2, .int y1]) (rest := [.ref q]) S0 (c_X3_madeOf l y2 y1 v27 hv27) (va_cwS 2 hts gX7_make_X3_madeOf rfl rfl rfl kd_X3_madeOf ⟨Nat.le_of_ble_eq_true rfl, Nat.le_of_ble_eq_true rfl⟩) rfl hl.1 rfl (Nat.le_of_ble_eq_true rfl) dX7_make_27 ⟨Nat.zero_le _, Nat.zero_le _⟩ ?_
      refine lv_iload_n hx hb dX7_make_30 rfl (lv_at hl 1 rfl) ?_
      obtain ⟨v31, hv31, h⟩ := pf_bind h
      refine hb_calli (hb_runV (G := G) (T := hbT cI cJ cZ cS) (As := [.long v27, .int y1]) (rest := []) S0 (c_X7_keep l G cI cJ cZ cS q q_shelf q_images q_cycles q_above q_book q_sums q_shelf_bars q_shelf_groups H.size f_shelf_bars f_shelf_groups f_shelf_size v27 y1 v31 hv31) (cwV 2 hts gX7_make_X7_keep rfl rfl rfl kv_X7_keep ⟨Nat.le_of_ble_eq_true rfl, Nat.le_of_ble_eq_true rfl⟩) hK (hP.sub [0, 1, 2, 3] rfl) (hD.sub [0, 1, 2, 3] (by decide) rfl) rfl rfl rfl hl.1 rfl (Nat.le_of_ble_eq_true rfl) dX7_make_31 ⟨Nat.zero_le _, Nat.zero_le _⟩) hP hD hS hA [0, 1, 2, 3] [] [0, 1, 2, 3] rfl (wr := []) rfl (by decide) (by decide) (w2 := [(q, .inr (5, [.ref q_shelf, .ref q_images, .ref q_cycles, .ref q_above, .ref q_book, .ref q_sums])), (q_shelf, .inr (3, [.ref q_shelf_bars, .ref q_shelf_groups, .int v31.2.2.2])), (q_shelf_bars, .inl (cI, 40, .inl v31.2.1)), (q_shelf_groups, .inl (cJ, 40, .inr (.inl v31.2.2.1)))]) (by decide) rfl rfl (fun H locs hP hD hS => ?_)
      cases h
      exact hb_iret hx hb hr hlocks hP hD hS dX7_make_34
    · have h := pf_neg h (fun q => c19 ((lg_cmp_eq _ _).mpr q))
      refine lv_iconst (v := -1) hx hb dX7_make_22 (by decide) ?_
      cases h
      exact hb_iret hx hb hr hlocks hP hD hS dX7_make_23
-- X7_powers
def p_X7_powers (f_shelf_bars : (Nat → Int32)) (f_shelf_groups : (Nat → Int64)) (f_shelf_size : Int32) (y1 : Int32) (y2 : Int32) : Option (Int32 × (Nat → Int32) × (Nat → Int64) × Int32) :=
  ((p_X7_isM y1).bind fun v1 => (if v1 = 0 then some ((-1 : Int32), f_shelf_bars, f_shelf_groups, f_shelf_size) else (if y2 < (1 : Int32) then some ((-1 : Int32), f_shelf_bars, f_shelf_groups, f_shelf_size) else (if y2 ≤ (60 : Int32) then ((p_X3_allPowers y1 y2).bind fun v23 => ((p_X7_keep f_shelf_bars f_shelf_groups f_shelf_size v23 y1).bind fun v27 => some (v27.1, v27.2.1, v27.2.2.1, v27.2.2.2))) else some ((-1 : Int32), f_shelf_bars, f_shelf_groups, f_shelf_size)))))
theorem kv_X7_powers : yX7_powers.cls = RX7 ∧ yX7_powers.cls ≠ "java/lang/invoke/MethodHandle" ∧ yX7_powers.cls ≠ "java/lang/invoke/VarHandle" ∧ (parseMethodDescriptor yX7_powers.desc).map (fun d => d.parameters.length) = some 2 := by decide +kernel
set_option maxHeartbeats 4000000 in
set_option maxRecDepth 100000 in
theorem c_X7_powers (l : Launch) (G : va_G) (cI cJ cZ cS : ClassId) (q q_shelf q_images q_cycles q_above q_book q_sums q_shelf_bars q_shelf_groups : Nat) (sz : Nat) (f_shelf_bars : (Nat → Int32)) (f_shelf_groups : (Nat → Int64)) (f_shelf_size : Int32) (y1 : Int32) (y2 : Int32) (r : (Int32 × (Nat → Int32) × (Nat → Int64) × Int32)) (h : p_X7_powers f_shelf_bars f_shelf_groups f_shelf_size y1 y2 = some r) : Met l yX7_powers wsX7_powers { frames := 4, cells := 0, slots := 0, locals := 97 } (hb_pre G (hbT cI cJ cZ cS) [.ref q, .int y1, .int y2] sz [(q, .inr (5, [.ref q_shelf, .ref q_images, .ref q_cycles, .ref q_above, .ref q_book, .ref q_sums])), (q_shelf, .inr (3, [.ref q_shelf_bars, .ref q_shelf_groups, .int f_shelf_size])), (q_shelf_bars, .inl (cI, 40, .inl f_shelf_bars)), (q_shelf_groups, .inl (cJ, 40, .inr (.inl f_shelf_groups)))]) (hb_Qi G r.1 [(q, .inr (5, [.ref q_shelf, .ref q_images, .ref q_cycles, .ref q_above, .ref q_book, .ref q_sums])), (q_shelf, .inr (3, [.ref q_shelf_bars, .ref q_shelf_groups, .int r.2.2.2])), (q_shelf_bars, .inl (cI, 40, .inl r.2.1)), (q_shelf_groups, .inl (cJ, 40, .inr (.inl r.2.2.1)))] (va_A [(q, .inr (5, [.ref q_shelf, .ref q_images, .ref q_cycles, .ref q_above, .ref q_book, .ref q_sums])), (q_shelf, .inr (3, [.ref q_shelf_bars, .ref q_shelf_groups, .int f_shelf_size])), (q_shelf_bars, .inl (cI, 40, .inl f_shelf_bars)), (q_shelf_groups, .inl (cJ, 40, .inr (.inl f_shelf_groups)))] sz)) 0 0 (va_A [(q, .inr (5, [.ref q_shelf, .ref q_images, .ref q_cycles, .ref q_above, .ref q_book, .ref q_sums])), (q_shelf, .inr (3, [.ref q_shelf_bars, .ref q_shelf_groups, .int f_shelf_size])), (q_shelf_bars, .inl (cI, 40, .inl f_shelf_bars)), (q_shelf_groups, .inl (cJ, 40, .inr (.inl f_shelf_groups)))] sz) := by
  refine hb_met (Qc := fun A => hb_Qi G r.1 [(q, .inr (5, [.ref q_shelf, .ref q_images, .ref q_cycles, .ref q_above, .ref q_book, .ref q_sums])), (q_shelf, .inr (3, [.ref q_shelf_bars, .ref q_shelf_groups, .int r.2.2.2])), (q_shelf_bars, .inl (cI, 40, .inl r.2.1)), (q_shelf_groups, .inl (cJ, 40, .inr (.inl r.2.2.1)))] A) (cc := cX7_powers) (maxL := 3) (ret := some .int) (by decide) rfl (Nat.le_of_ble_eq_true rfl) ?_
  intro p e s m below meth c A hx hb hr hts hown hlocks hml hin hK hA hP hD hS ls hl
  have hown : s.vm.findClass RX7 = some m.cls := hown
  have S0 : CallFix p m c cX7_powers 3 s ([.ref q, .int y1, .int y2] : List Value).toArray wsX7_powers RX7 := ⟨hx, hb, hml, hown, hts⟩
  have hl : lv_has ls 3 [(0, .ref q), (1, .int y1), (2, .int y2)] := hl
  suffices hh : ∀ (H : Heap) (locs : List Loc), va_P G vwCl [(q, .inr (5, [.ref q_shelf, .ref q_images, .ref q_cycles, .ref q_above, .ref q_book, .ref q_sums])), (q_shelf, .inr (3, [.ref q_shelf_bars, .ref q_shelf_groups, .int f_shelf_size])), (q_shelf_bars, .inl (cI, 40, .inl f_shelf_bars)), (q_shelf_groups, .inl (cJ, 40, .inr (.inl f_shelf_groups)))] H → va_D A [(q, .inr (5, [.ref q_shelf, .ref q_images, .ref q_cycles, .ref q_above, .ref q_book, .ref q_sums])), (q_shelf, .inr (3, [.ref q_shelf_bars, .ref q_shelf_groups, .int f_shelf_size])), (q_shelf_bars, .inl (cI, 40, .inl f_shelf_bars)), (q_shelf_groups, .inl (cJ, 40, .inr (.inl f_shelf_groups)))] → va_S A s.heap H locs → W p l e (headSpec wsX7_powers { frames := 4, cells := 0, slots := 0, locals := 97 }).room s m ([.ref q, .int y1, .int y2] : List Value).toArray below meth c H locs 0 0 (MQ below (hb_Qi G r.1 [(q, .inr (5, [.ref q_shelf, .ref q_images, .ref q_cycles, .ref q_above, .ref q_book, .ref q_sums])), (q_shelf, .inr (3, [.ref q_shelf_bars, .ref q_shelf_groups, .int r.2.2.2])), (q_shelf_bars, .inl (cI, 40, .inl r.2.1)), (q_shelf_groups, .inl (cJ, 40, .inr (.inl r.2.2.1)))] A) ([.ref q, .int y1, .int y2] : List Value).toArray s 0 0 A) (F0 m 0 ls []) from hh s.heap [] hP hD hS
  intro H locs hP hD hS
  unfold p_X7_powers at h
  refine lv_iload_n hx hb dX7_powers_0 rfl (lv_at hl 1 rfl) ?_
  obtain ⟨v1, hv1, h⟩ := pf_bind h
  refine pf_call (As := [.int y1]) (rest := []) S0 (c_X7_isM l y1 v1 hv1) (va_cwS 1 hts gX7_powers_X7_isM rfl rfl rfl kd_X7_isM ⟨Nat.le_of_ble_eq_true rfl, Nat.le_of_ble_eq_true rfl⟩) rfl hl.1 rfl (Nat.le_of_ble_eq_true rfl) dX7_powers_1 ⟨Nat.zero_le _, Nat.zero_le _⟩ ?_
  refine lv_if_eq (tgt := 18) hx hb dX7_powers_4 (by decide) (fun c4 => ?_) (fun c4 => ?_)
  · have h := pf_pos h c4
    refine lv_iconst (v := -1) hx hb dX7_powers_18 (by decide) ?_
    cases h
    exact hb_iret hx hb hr hlocks hP hD hS dX7_powers_19
  · have h := pf_neg h c4
    refine lv_iload_n hx hb dX7_powers_7 rfl (lv_at hl 2 rfl) ?_
    refine lv_iconst (v := 1) hx hb dX7_powers_8 (by decide) ?_
    refine lv_icmp_lt (tgt := 18) hx hb dX7_powers_9 (by decide) (fun c9 => ?_) (fun c9 => ?_)
    · have h := pf_pos h c9
      refine lv_iconst (v := -1) hx hb dX7_powers_18 (by decide) ?_
      cases h
      exact hb_iret hx hb hr hlocks hP hD hS dX7_powers_19
    · have h := pf_neg h c9
      refine lv_iload_n hx hb dX7_powers_12 rfl (lv_at hl 2 rfl) ?_
      refine lv_bipush (v := 60) hx hb dX7_powers_13 (by decide) ?_
      refine lv_icmp_le (tgt := 20) hx hb dX7_powers_15 (by decide) (fun c15 => ?_) (fun c15 => ?_)
      · have h := pf_pos h c15
        refine lv_aload_n hx hb dX7_powers_20 rfl (lv_at hl 0 rfl) ?_
        refine lv_iload_n hx hb dX7_powers_21 rfl (lv_at hl 1 rfl) ?_
        refine lv_iload_n hx hb dX7_powers_22 rfl (lv_at hl 2 rfl) ?_
        obtain ⟨v23, hv23, h⟩ := pf_bind h
        refine pf_call (As := [.int y1, .int y2]) (rest := [.ref q]) S0 (c_X3_allPowers l y1 y2 v23 hv23) (va_cwS 2 hts gX7_powers_X3_allPowers rfl rfl rfl kd_X3_allPowers ⟨Nat.le_of_ble_eq_true rfl, Nat.le_of_ble_eq_true rfl⟩) rfl hl.1 rfl (Nat.le_of_ble_eq_true rfl) dX7_powers_23 ⟨Nat.zero_le _, Nat.zero_le _⟩ ?_
        refine lv_iload_n hx hb dX7_powers_26 rfl (lv_at hl 1 rfl) ?_
        obtain ⟨v27, hv27, h⟩ := pf_bind h
        refine hb_calli (hb_runV (G := G) (T := hbT cI cJ cZ cS) (As := [.long v23, .int y1]) (rest := []) S0 (c_X7_keep l G cI cJ cZ cS q q_shelf q_images q_cycles q_above q_book q_sums q_shelf_bars q_shelf_groups H.size f_shelf_bars f_shelf_groups f_shelf_size v23 y1 v27 hv27) (cwV 2 hts gX7_powers_X7_keep rfl rfl rfl kv_X7_keep ⟨Nat.le_of_ble_eq_true rfl, Nat.le_of_ble_eq_true rfl⟩) hK (hP.sub [0, 1, 2, 3] rfl) (hD.sub [0, 1, 2, 3] (by decide) rfl) rfl rfl rfl hl.1 rfl (Nat.le_of_ble_eq_true rfl) dX7_powers_27 ⟨Nat.zero_le _, Nat.zero_le _⟩) hP hD hS hA [0, 1, 2, 3] [] [0, 1, 2, 3] rfl (wr := []) rfl (by decide) (by decide) (w2 := [(q, .inr (5, [.ref q_shelf, .ref q_images, .ref q_cycles, .ref q_above, .ref q_book, .ref q_sums])), (q_shelf, .inr (3, [.ref q_shelf_bars, .ref q_shelf_groups, .int v27.2.2.2])), (q_shelf_bars, .inl (cI, 40, .inl v27.2.1)), (q_shelf_groups, .inl (cJ, 40, .inr (.inl v27.2.2.1)))]) (by decide) rfl rfl (fun H locs hP hD hS => ?_)
        cases h
        exact hb_iret hx hb hr hlocks hP hD hS dX7_powers_30
      · have h := pf_neg h c15
        refine lv_iconst (v := -1) hx hb dX7_powers_18 (by decide) ?_
        cases h
        exact hb_iret hx hb hr hlocks hP hD hS dX7_powers_19
-- X7_commonM
def p_X7_commonM (f_shelf_bars : (Nat → Int32)) (f_shelf_size : Int32) (y1 : Int32) (y2 : Int32) : Option Int32 :=
  ((p_X4_holds f_shelf_size y1).bind fun v5 => (if v5 = 0 then some (-1 : Int32) else ((p_X4_holds f_shelf_size y2).bind fun v16 => (if v16 = 0 then some (-1 : Int32) else ((p_X4_barOf f_shelf_bars f_shelf_size y1).bind fun v29 => ((p_X4_barOf f_shelf_bars f_shelf_size y2).bind fun v37 => ((p_X6_leastMultiple v29 v37).bind fun v40 => ((p_X7_isM v40).bind fun v45 => (if v45 = 0 then some (-1 : Int32) else some v40)))))))))
theorem in_X7_commonM_X7 : ∀ w ∈ u_ws RX7 TX7 6, w ∈ wsX7_commonM := fun w h => List.mem_cons_of_mem _ (List.mem_append_left _ (List.mem_append_right _ h))
theorem kv_X7_commonM : yX7_commonM.cls = RX7 ∧ yX7_commonM.cls ≠ "java/lang/invoke/MethodHandle" ∧ yX7_commonM.cls ≠ "java/lang/invoke/VarHandle" ∧ (parseMethodDescriptor yX7_commonM.desc).map (fun d => d.parameters.length) = some 2 := by decide +kernel
set_option maxHeartbeats 4000000 in
set_option maxRecDepth 100000 in
theorem c_X7_commonM (l : Launch) (G : va_G) (cI cJ cZ cS : ClassId) (q q_shelf q_images q_cycles q_above q_book q_sums q_shelf_bars q_shelf_groups : Nat) (sz : Nat) (f_shelf_bars : (Nat → Int32)) (f_shelf_groups : (Nat → Int64)) (f_shelf_size : Int32) (y1 : Int32) (y2 : Int32) (r : Int32) (h : p_X7_commonM f_shelf_bars f_shelf_size y1 y2 = some r) : Met l yX7_commonM wsX7_commonM { frames := 2, cells := 0, slots := 0, locals := 46 } (hb_pre G (hbT cI cJ cZ cS) [.ref q, .int y1, .int y2] sz [(q, .inr (5, [.ref q_shelf, .ref q_images, .ref q_cycles, .ref q_above, .ref q_book, .ref q_sums])), (q_shelf, .inr (3, [.ref q_shelf_bars, .ref q_shelf_groups, .int f_shelf_size])), (q_shelf_bars, .inl (cI, 40, .inl f_shelf_bars)), (q_shelf_groups, .inl (cJ, 40, .inr (.inl f_shelf_groups)))]) (hb_Qi G r [(q, .inr (5, [.ref q_shelf, .ref q_images, .ref q_cycles, .ref q_above, .ref q_book, .ref q_sums])), (q_shelf, .inr (3, [.ref q_shelf_bars, .ref q_shelf_groups, .int f_shelf_size])), (q_shelf_bars, .inl (cI, 40, .inl f_shelf_bars)), (q_shelf_groups, .inl (cJ, 40, .inr (.inl f_shelf_groups)))] (va_A [(q, .inr (5, [.ref q_shelf, .ref q_images, .ref q_cycles, .ref q_above, .ref q_book, .ref q_sums])), (q_shelf, .inr (3, [.ref q_shelf_bars, .ref q_shelf_groups, .int f_shelf_size])), (q_shelf_bars, .inl (cI, 40, .inl f_shelf_bars)), (q_shelf_groups, .inl (cJ, 40, .inr (.inl f_shelf_groups)))] sz)) 0 0 (va_A [(q, .inr (5, [.ref q_shelf, .ref q_images, .ref q_cycles, .ref q_above, .ref q_book, .ref q_sums])), (q_shelf, .inr (3, [.ref q_shelf_bars, .ref q_shelf_groups, .int f_shelf_size])), (q_shelf_bars, .inl (cI, 40, .inl f_shelf_bars)), (q_shelf_groups, .inl (cJ, 40, .inr (.inl f_shelf_groups)))] sz) := by
  refine hb_met (Qc := fun A => hb_Qi G r [(q, .inr (5, [.ref q_shelf, .ref q_images, .ref q_cycles, .ref q_above, .ref q_book, .ref q_sums])), (q_shelf, .inr (3, [.ref q_shelf_bars, .ref q_shelf_groups, .int f_shelf_size])), (q_shelf_bars, .inl (cI, 40, .inl f_shelf_bars)), (q_shelf_groups, .inl (cJ, 40, .inr (.inl f_shelf_groups)))] A) (cc := cX7_commonM) (maxL := 4) (ret := some .int) (by decide) rfl (Nat.le_of_ble_eq_true rfl) ?_
  intro p e s m below meth c A hx hb hr hts hown hlocks hml hin hK hA hP hD hS ls hl
  have hown : s.vm.findClass RX7 = some m.cls := hown
  have S0 : CallFix p m c cX7_commonM 4 s ([.ref q, .int y1, .int y2] : List Value).toArray wsX7_commonM RX7 := ⟨hx, hb, hml, hown, hts⟩
  have hl : lv_has ls 4 [(0, .ref q), (1, .int y1), (2, .int y2)] := hl
  suffices hh : ∀ (H : Heap) (locs : List Loc), va_P G vwCl [(q, .inr (5, [.ref q_shelf, .ref q_images, .ref q_cycles, .ref q_above, .ref q_book, .ref q_sums])), (q_shelf, .inr (3, [.ref q_shelf_bars, .ref q_shelf_groups, .int f_shelf_size])), (q_shelf_bars, .inl (cI, 40, .inl f_shelf_bars)), (q_shelf_groups, .inl (cJ, 40, .inr (.inl f_shelf_groups)))] H → va_D A [(q, .inr (5, [.ref q_shelf, .ref q_images, .ref q_cycles, .ref q_above, .ref q_book, .ref q_sums])), (q_shelf, .inr (3, [.ref q_shelf_bars, .ref q_shelf_groups, .int f_shelf_size])), (q_shelf_bars, .inl (cI, 40, .inl f_shelf_bars)), (q_shelf_groups, .inl (cJ, 40, .inr (.inl f_shelf_groups)))] → va_S A s.heap H locs → W p l e (headSpec wsX7_commonM { frames := 2, cells := 0, slots := 0, locals := 46 }).room s m ([.ref q, .int y1, .int y2] : List Value).toArray below meth c H locs 0 0 (MQ below (hb_Qi G r [(q, .inr (5, [.ref q_shelf, .ref q_images, .ref q_cycles, .ref q_above, .ref q_book, .ref q_sums])), (q_shelf, .inr (3, [.ref q_shelf_bars, .ref q_shelf_groups, .int f_shelf_size])), (q_shelf_bars, .inl (cI, 40, .inl f_shelf_bars)), (q_shelf_groups, .inl (cJ, 40, .inr (.inl f_shelf_groups)))] A) ([.ref q, .int y1, .int y2] : List Value).toArray s 0 0 A) (F0 m 0 ls []) from hh s.heap [] hP hD hS
  intro H locs hP hD hS
  unfold p_X7_commonM at h
  refine lv_aload_n hx hb dX7_commonM_0 rfl (lv_at hl 0 rfl) ?_
  refine va_get (D := G) (ci := 5) (v := .ref q_shelf) (C := RX7) (T := TX7) (N := 6) hx hb hts in_X7_commonM_X7 hown hK.1 hP 0 rfl rfl 0 (by decide) (hts (.fieldLink RX7 10 "FieldsByClasses" "shelf" "LFieldsByClasses$Shelf;") (by decide +kernel)) (fun _ h9 => h9) rfl dX7_commonM_1 ?_
  refine lv_iload_n hx hb dX7_commonM_4 rfl (lv_at hl 1 rfl) ?_
  obtain ⟨v5, hv5, h⟩ := pf_bind h
  refine hb_calli (hb_runV (G := G) (T := hbT cI cJ cZ cS) (As := [.int y1]) (rest := []) S0 (c_X4_holds l G cI cJ cZ cS q_shelf q_shelf_bars q_shelf_groups H.size f_shelf_bars f_shelf_groups f_shelf_size y1 v5 hv5) (cwV 1 hts gX7_commonM_X4_holds rfl rfl rfl kv_X4_holds ⟨Nat.le_of_ble_eq_true rfl, Nat.le_of_ble_eq_true rfl⟩) hK (hP.sub [1, 2, 3] rfl) (hD.sub [1, 2, 3] (by decide) rfl) rfl rfl rfl hl.1 rfl (Nat.le_of_ble_eq_true rfl) dX7_commonM_5 ⟨Nat.zero_le _, Nat.zero_le _⟩) hP hD hS hA [1, 2, 3] [0] [0, 1, 2, 3] rfl (wr := [(q, .inr (5, [.ref q_shelf, .ref q_images, .ref q_cycles, .ref q_above, .ref q_book, .ref q_sums]))]) rfl (by decide) (by decide) (w2 := [(q, .inr (5, [.ref q_shelf, .ref q_images, .ref q_cycles, .ref q_above, .ref q_book, .ref q_sums])), (q_shelf, .inr (3, [.ref q_shelf_bars, .ref q_shelf_groups, .int f_shelf_size])), (q_shelf_bars, .inl (cI, 40, .inl f_shelf_bars)), (q_shelf_groups, .inl (cJ, 40, .inr (.inl f_shelf_groups)))]) (by decide) rfl rfl (fun H locs hP hD hS => ?_)
  refine lv_if_eq (tgt := 22) hx hb dX7_commonM_8 (by decide) (fun c8 => ?_) (fun c8 => ?_)
  · have h := pf_pos h c8
    refine lv_iconst (v := -1) hx hb dX7_commonM_22 (by decide) ?_
    cases h
    exact hb_iret hx hb hr hlocks hP hD hS dX7_commonM_23
  · have h := pf_neg h c8
    refine lv_aload_n hx hb dX7_commonM_11 rfl (lv_at hl 0 rfl) ?_
    refine va_get (D := G) (ci := 5) (v := .ref q_shelf) (C := RX7) (T := TX7) (N := 6) hx hb hts in_X7_commonM_X7 hown hK.1 hP 0 rfl rfl 0 (by decide) (hts (.fieldLink RX7 10 "FieldsByClasses" "shelf" "LFieldsByClasses$Shelf;") (by decide +kernel)) (fun _ h9 => h9) rfl dX7_commonM_12 ?_
    refine lv_iload_n hx hb dX7_commonM_15 rfl (lv_at hl 2 rfl) ?_
    obtain ⟨v16, hv16, h⟩ := pf_bind h
    refine hb_calli (hb_runV (G := G) (T := hbT cI cJ cZ cS) (As := [.int y2]) (rest := []) S0 (c_X4_holds l G cI cJ cZ cS q_shelf q_shelf_bars q_shelf_groups H.size f_shelf_bars f_shelf_groups f_shelf_size y2 v16 hv16) (cwV 1 hts gX7_commonM_X4_holds rfl rfl rfl kv_X4_holds ⟨Nat.le_of_ble_eq_true rfl, Nat.le_of_ble_eq_true rfl⟩) hK (hP.sub [1, 2, 3] rfl) (hD.sub [1, 2, 3] (by decide) rfl) rfl rfl rfl hl.1 rfl (Nat.le_of_ble_eq_true rfl) dX7_commonM_16 ⟨Nat.zero_le _, Nat.zero_le _⟩) hP hD hS hA [1, 2, 3] [0] [0, 1, 2, 3] rfl (wr := [(q, .inr (5, [.ref q_shelf, .ref q_images, .ref q_cycles, .ref q_above, .ref q_book, .ref q_sums]))]) rfl (by decide) (by decide) (w2 := [(q, .inr (5, [.ref q_shelf, .ref q_images, .ref q_cycles, .ref q_above, .ref q_book, .ref q_sums])), (q_shelf, .inr (3, [.ref q_shelf_bars, .ref q_shelf_groups, .int f_shelf_size])), (q_shelf_bars, .inl (cI, 40, .inl f_shelf_bars)), (q_shelf_groups, .inl (cJ, 40, .inr (.inl f_shelf_groups)))]) (by decide) rfl rfl (fun H locs hP hD hS => ?_)
    refine lv_if_ne (tgt := 24) hx hb dX7_commonM_19 (by decide) (fun c19 => ?_) (fun c19 => ?_)
    · have h := pf_neg h c19
      refine lv_aload_n hx hb dX7_commonM_24 rfl (lv_at hl 0 rfl) ?_
      refine va_get (D := G) (ci := 5) (v := .ref q_shelf) (C := RX7) (T := TX7) (N := 6) hx hb hts in_X7_commonM_X7 hown hK.1 hP 0 rfl rfl 0 (by decide) (hts (.fieldLink RX7 10 "FieldsByClasses" "shelf" "LFieldsByClasses$Shelf;") (by decide +kernel)) (fun _ h9 => h9) rfl dX7_commonM_25 ?_
      refine lv_iload_n hx hb dX7_commonM_28 rfl (lv_at hl 1 rfl) ?_
      obtain ⟨v29, hv29, h⟩ := pf_bind h
      refine hb_calli (hb_runV (G := G) (T := hbT cI cJ cZ cS) (As := [.int y1]) (rest := []) S0 (c_X4_barOf l G cI cJ cZ cS q_shelf q_shelf_bars q_shelf_groups H.size f_shelf_bars f_shelf_groups f_shelf_size y1 v29 hv29) (cwV 1 hts gX7_commonM_X4_barOf rfl rfl rfl kv_X4_barOf ⟨Nat.le_of_ble_eq_true rfl, Nat.le_of_ble_eq_true rfl⟩) hK (hP.sub [1, 2, 3] rfl) (hD.sub [1, 2, 3] (by decide) rfl) rfl rfl rfl hl.1 rfl (Nat.le_of_ble_eq_true rfl) dX7_commonM_29 ⟨Nat.zero_le _, Nat.zero_le _⟩) hP hD hS hA [1, 2, 3] [0] [0, 1, 2, 3] rfl (wr := [(q, .inr (5, [.ref q_shelf, .ref q_images, .ref q_cycles, .ref q_above, .ref q_book, .ref q_sums]))]) rfl (by decide) (by decide) (w2 := [(q, .inr (5, [.ref q_shelf, .ref q_images, .ref q_cycles, .ref q_above, .ref q_book, .ref q_sums])), (q_shelf, .inr (3, [.ref q_shelf_bars, .ref q_shelf_groups, .int f_shelf_size])), (q_shelf_bars, .inl (cI, 40, .inl f_shelf_bars)), (q_shelf_groups, .inl (cJ, 40, .inr (.inl f_shelf_groups)))]) (by decide) rfl rfl (fun H locs hP hD hS => ?_)
      refine lv_aload_n hx hb dX7_commonM_32 rfl (lv_at hl 0 rfl) ?_
      refine va_get (D := G) (ci := 5) (v := .ref q_shelf) (C := RX7) (T := TX7) (N := 6) hx hb hts in_X7_commonM_X7 hown hK.1 hP 0 rfl rfl 0 (by decide) (hts (.fieldLink RX7 10 "FieldsByClasses" "shelf" "LFieldsByClasses$Shelf;") (by decide +kernel)) (fun _ h9 => h9) rfl dX7_commonM_33 ?_
      refine lv_iload_n hx hb dX7_commonM_36 rfl (lv_at hl 2 rfl) ?_
      obtain ⟨v37, hv37, h⟩ := pf_bind h
      refine hb_calli (hb_runV (G := G) (T := hbT cI cJ cZ cS) (As := [.int y2]) (rest := [.int v29]) S0 (c_X4_barOf l G cI cJ cZ cS q_shelf q_shelf_bars q_shelf_groups H.size f_shelf_bars f_shelf_groups f_shelf_size y2 v37 hv37) (cwV 1 hts gX7_commonM_X4_barOf rfl rfl rfl kv_X4_barOf ⟨Nat.le_of_ble_eq_true rfl, Nat.le_of_ble_eq_true rfl⟩) hK (hP.sub [1, 2, 3] rfl) (hD.sub [1, 2, 3] (by decide) rfl) rfl rfl rfl hl.1 rfl (Nat.le_of_ble_eq_true rfl) dX7_commonM_37 ⟨Nat.zero_le _, Nat.zero_le _⟩) hP hD hS hA [1, 2, 3] [0] [0, 1, 2, 3] rfl (wr := [(q, .inr (5, [.ref q_shelf, .ref q_images, .ref q_cycles, .ref q_above, .ref q_book, .ref q_sums]))]) rfl (by decide) (by decide) (w2 := [(q, .inr (5, [.ref q_shelf, .ref q_images, .ref q_cycles, .ref q_above, .ref q_book, .ref q_sums])), (q_shelf, .inr (3, [.ref q_shelf_bars, .ref q_shelf_groups, .int f_shelf_size])), (q_shelf_bars, .inl (cI, 40, .inl f_shelf_bars)), (q_shelf_groups, .inl (cJ, 40, .inr (.inl f_shelf_groups)))]) (by decide) rfl rfl (fun H locs hP hD hS => ?_)
      obtain ⟨v40, hv40, h⟩ := pf_bind h
      refine pf_call (As := [.int v29, .int v37]) (rest := []) S0 (c_X6_leastMultiple l v29 v37 v40 hv40) (va_cwS 2 hts gX7_commonM_X6_leastMultiple rfl rfl rfl kd_X6_leastMultiple ⟨Nat.le_of_ble_eq_true rfl, Nat.le_of_ble_eq_true rfl⟩) rfl hl.1 rfl (Nat.le_of_ble_eq_true rfl) dX7_commonM_40 ⟨Nat.zero_le _, Nat.zero_le _⟩ ?_
      refine lv_istore_n (lv' := [(3, .int v40), (0, .ref q), (1, .int y1), (2, .int y2)]) hx hb dX7_commonM_43 rfl hl (by decide) rfl (fun ls hl => ?_)
      refine lv_iload_n hx hb dX7_commonM_44 rfl (lv_at hl 0 rfl) ?_
      obtain ⟨v45, hv45, h⟩ := pf_bind h
      refine pf_call (As := [.int v40]) (rest := []) S0 (c_X7_isM l v40 v45 hv45) (va_cwS 1 hts gX7_commonM_X7_isM rfl rfl rfl kd_X7_isM ⟨Nat.le_of_ble_eq_true rfl, Nat.le_of_ble_eq_true rfl⟩) rfl hl.1 rfl (Nat.le_of_ble_eq_true rfl) dX7_commonM_45 ⟨Nat.zero_le _, Nat.zero_le _⟩ ?_
      refine lv_if_eq (tgt := 55) hx hb dX7_commonM_48 (by decide) (fun c48 => ?_) (fun c48 => ?_)
      · have h := pf_pos h c48
        refine lv_iconst (v := -1) hx hb dX7_commonM_55 (by decide) ?_
        cases h
        exact hb_iret hx hb hr hlocks hP hD hS dX7_commonM_56
      · have h := pf_neg h c48
        refine lv_iload_n hx hb dX7_commonM_51 rfl (lv_at hl 0 rfl) ?_
        refine lv_goto (tgt := 56) hx hb dX7_commonM_52 (by decide) ?_
        cases h
        exact hb_iret hx hb hr hlocks hP hD hS dX7_commonM_56
    · have h := pf_pos h c19
      refine lv_iconst (v := -1) hx hb dX7_commonM_22 (by decide) ?_
      cases h
      exact hb_iret hx hb hr hlocks hP hD hS dX7_commonM_23
-- X7_join
def p_X7_join (f_shelf_bars : (Nat → Int32)) (f_shelf_groups : (Nat → Int64)) (f_shelf_size : Int32) (y1 : Int32) (y2 : Int32) : Option (Int32 × (Nat → Int32) × (Nat → Int64) × Int32) :=
  ((p_X7_commonM f_shelf_bars f_shelf_size y1 y2).bind fun v3 => (if v3 = (-1 : Int32) then some ((-1 : Int32), f_shelf_bars, f_shelf_groups, f_shelf_size) else ((p_X4_bitsBy f_shelf_bars f_shelf_groups f_shelf_size y1 v3).bind fun v23 => ((p_X4_bitsBy f_shelf_bars f_shelf_groups f_shelf_size y2 v3).bind fun v32 => ((p_X7_keep f_shelf_bars f_shelf_groups f_shelf_size (v23 &&& v32) v3).bind fun v37 => some (v37.1, v37.2.1, v37.2.2.1, v37.2.2.2))))))
theorem in_X7_join_X7 : ∀ w ∈ u_ws RX7 TX7 6, w ∈ wsX7_join := fun w h => List.mem_cons_of_mem _ (List.mem_append_left _ (List.mem_append_right _ h))
theorem kv_X7_join : yX7_join.cls = RX7 ∧ yX7_join.cls ≠ "java/lang/invoke/MethodHandle" ∧ yX7_join.cls ≠ "java/lang/invoke/VarHandle" ∧ (parseMethodDescriptor yX7_join.desc).map (fun d => d.parameters.length) = some 2 := by decide +kernel
set_option maxHeartbeats 4000000 in
set_option maxRecDepth 100000 in
theorem c_X7_join (l : Launch) (G : va_G) (cI cJ cZ cS : ClassId) (q q_shelf q_images q_cycles q_above q_book q_sums q_shelf_bars q_shelf_groups : Nat) (sz : Nat) (f_shelf_bars : (Nat → Int32)) (f_shelf_groups : (Nat → Int64)) (f_shelf_size : Int32) (y1 : Int32) (y2 : Int32) (r : (Int32 × (Nat → Int32) × (Nat → Int64) × Int32)) (h : p_X7_join f_shelf_bars f_shelf_groups f_shelf_size y1 y2 = some r) : Met l yX7_join wsX7_join { frames := 4, cells := 0, slots := 0, locals := 98 } (hb_pre G (hbT cI cJ cZ cS) [.ref q, .int y1, .int y2] sz [(q, .inr (5, [.ref q_shelf, .ref q_images, .ref q_cycles, .ref q_above, .ref q_book, .ref q_sums])), (q_shelf, .inr (3, [.ref q_shelf_bars, .ref q_shelf_groups, .int f_shelf_size])), (q_shelf_bars, .inl (cI, 40, .inl f_shelf_bars)), (q_shelf_groups, .inl (cJ, 40, .inr (.inl f_shelf_groups)))]) (hb_Qi G r.1 [(q, .inr (5, [.ref q_shelf, .ref q_images, .ref q_cycles, .ref q_above, .ref q_book, .ref q_sums])), (q_shelf, .inr (3, [.ref q_shelf_bars, .ref q_shelf_groups, .int r.2.2.2])), (q_shelf_bars, .inl (cI, 40, .inl r.2.1)), (q_shelf_groups, .inl (cJ, 40, .inr (.inl r.2.2.1)))] (va_A [(q, .inr (5, [.ref q_shelf, .ref q_images, .ref q_cycles, .ref q_above, .ref q_book, .ref q_sums])), (q_shelf, .inr (3, [.ref q_shelf_bars, .ref q_shelf_groups, .int f_shelf_size])), (q_shelf_bars, .inl (cI, 40, .inl f_shelf_bars)), (q_shelf_groups, .inl (cJ, 40, .inr (.inl f_shelf_groups)))] sz)) 0 0 (va_A [(q, .inr (5, [.ref q_shelf, .ref q_images, .ref q_cycles, .ref q_above, .ref q_book, .ref q_sums])), (q_shelf, .inr (3, [.ref q_shelf_bars, .ref q_shelf_groups, .int f_shelf_size])), (q_shelf_bars, .inl (cI, 40, .inl f_shelf_bars)), (q_shelf_groups, .inl (cJ, 40, .inr (.inl f_shelf_groups)))] sz) := by
  refine hb_met (Qc := fun A => hb_Qi G r.1 [(q, .inr (5, [.ref q_shelf, .ref q_images, .ref q_cycles, .ref q_above, .ref q_book, .ref q_sums])), (q_shelf, .inr (3, [.ref q_shelf_bars, .ref q_shelf_groups, .int r.2.2.2])), (q_shelf_bars, .inl (cI, 40, .inl r.2.1)), (q_shelf_groups, .inl (cJ, 40, .inr (.inl r.2.2.1)))] A) (cc := cX7_join) (maxL := 4) (ret := some .int) (by decide) rfl (Nat.le_of_ble_eq_true rfl) ?_
  intro p e s m below meth c A hx hb hr hts hown hlocks hml hin hK hA hP hD hS ls hl
  have hown : s.vm.findClass RX7 = some m.cls := hown
  have S0 : CallFix p m c cX7_join 4 s ([.ref q, .int y1, .int y2] : List Value).toArray wsX7_join RX7 := ⟨hx, hb, hml, hown, hts⟩
  have hl : lv_has ls 4 [(0, .ref q), (1, .int y1), (2, .int y2)] := hl
  suffices hh : ∀ (H : Heap) (locs : List Loc), va_P G vwCl [(q, .inr (5, [.ref q_shelf, .ref q_images, .ref q_cycles, .ref q_above, .ref q_book, .ref q_sums])), (q_shelf, .inr (3, [.ref q_shelf_bars, .ref q_shelf_groups, .int f_shelf_size])), (q_shelf_bars, .inl (cI, 40, .inl f_shelf_bars)), (q_shelf_groups, .inl (cJ, 40, .inr (.inl f_shelf_groups)))] H → va_D A [(q, .inr (5, [.ref q_shelf, .ref q_images, .ref q_cycles, .ref q_above, .ref q_book, .ref q_sums])), (q_shelf, .inr (3, [.ref q_shelf_bars, .ref q_shelf_groups, .int f_shelf_size])), (q_shelf_bars, .inl (cI, 40, .inl f_shelf_bars)), (q_shelf_groups, .inl (cJ, 40, .inr (.inl f_shelf_groups)))] → va_S A s.heap H locs → W p l e (headSpec wsX7_join { frames := 4, cells := 0, slots := 0, locals := 98 }).room s m ([.ref q, .int y1, .int y2] : List Value).toArray below meth c H locs 0 0 (MQ below (hb_Qi G r.1 [(q, .inr (5, [.ref q_shelf, .ref q_images, .ref q_cycles, .ref q_above, .ref q_book, .ref q_sums])), (q_shelf, .inr (3, [.ref q_shelf_bars, .ref q_shelf_groups, .int r.2.2.2])), (q_shelf_bars, .inl (cI, 40, .inl r.2.1)), (q_shelf_groups, .inl (cJ, 40, .inr (.inl r.2.2.1)))] A) ([.ref q, .int y1, .int y2] : List Value).toArray s 0 0 A) (F0 m 0 ls []) from hh s.heap [] hP hD hS
  intro H locs hP hD hS
  unfold p_X7_join at h
  refine lv_aload_n hx hb dX7_join_0 rfl (lv_at hl 0 rfl) ?_
  refine lv_iload_n hx hb dX7_join_1 rfl (lv_at hl 1 rfl) ?_
  refine lv_iload_n hx hb dX7_join_2 rfl (lv_at hl 2 rfl) ?_
  obtain ⟨v3, hv3, h⟩ := pf_bind h
  refine hb_calli (hb_runV (G := G) (T := hbT cI cJ cZ cS) (As := [.int y1, .int y2]) (rest := []) S0 (c_X7_commonM l G cI cJ cZ cS q q_shelf q_images q_cycles q_above q_book q_sums q_shelf_bars q_shelf_groups H.size f_shelf_bars f_shelf_groups f_shelf_size y1 y2 v3 hv3) (cwV 2 hts gX7_join_X7_commonM rfl rfl rfl kv_X7_commonM ⟨Nat.le_of_ble_eq_true rfl, Nat.le_of_ble_eq_true rfl⟩) hK (hP.sub [0, 1, 2, 3] rfl) (hD.sub [0, 1, 2, 3] (by decide) rfl) rfl rfl rfl hl.1 rfl (Nat.le_of_ble_eq_true rfl) dX7_join_3 ⟨Nat.zero_le _, Nat.zero_le _⟩) hP hD hS hA [0, 1, 2, 3] [] [0, 1, 2, 3] rfl (wr := []) rfl (by decide) (by decide) (w2 := [(q, .inr (5, [.ref q_shelf, .ref q_images, .ref q_cycles, .ref q_above, .ref q_book, .ref q_sums])), (q_shelf, .inr (3, [.ref q_shelf_bars, .ref q_shelf_groups, .int f_shelf_size])), (q_shelf_bars, .inl (cI, 40, .inl f_shelf_bars)), (q_shelf_groups, .inl (cJ, 40, .inr (.inl f_shelf_groups)))]) (by decide) rfl rfl (fun H locs hP hD hS => ?_)
  refine lv_istore_n (lv' := [(3, .int v3), (0, .ref q), (1, .int y1), (2, .int y2)]) hx hb dX7_join_6 rfl hl (by decide) rfl (fun ls hl => ?_)
  refine lv_iload_n hx hb dX7_join_7 rfl (lv_at hl 0 rfl) ?_
  refine lv_iconst (v := -1) hx hb dX7_join_8 (by decide) ?_
  refine lv_icmp_ne (tgt := 16) hx hb dX7_join_9 (by decide) (fun c9 => ?_) (fun c9 => ?_)
  · have h := pf_neg h c9
    refine lv_aload_n hx hb dX7_join_16 rfl (lv_at hl 1 rfl) ?_
    refine lv_aload_n hx hb dX7_join_17 rfl (lv_at hl 1 rfl) ?_
    refine va_get (D := G) (ci := 5) (v := .ref q_shelf) (C := RX7) (T := TX7) (N := 6) hx hb hts in_X7_join_X7 hown hK.1 hP 0 rfl rfl 0 (by decide) (hts (.fieldLink RX7 10 "FieldsByClasses" "shelf" "LFieldsByClasses$Shelf;") (by decide +kernel)) (fun _ h9 => h9) rfl dX7_join_18 ?_
    refine lv_iload_n hx hb dX7_join_21 rfl (lv_at hl 2 rfl) ?_
    refine lv_iload_n hx hb dX7_join_22 rfl (lv_at hl 0 rfl) ?_
    obtain ⟨v23, hv23, h⟩ := pf_bind h
    refine hb_calll (hb_runV (G := G) (T := hbT cI cJ cZ cS) (As := [.int y1, .int v3]) (rest := [.ref q]) S0 (c_X4_bitsBy l G cI cJ cZ cS q_shelf q_shelf_bars q_shelf_groups H.size f_shelf_bars f_shelf_groups f_shelf_size y1 v3 v23 hv23) (cwV 2 hts gX7_join_X4_bitsBy rfl rfl rfl kv_X4_bitsBy ⟨Nat.le_of_ble_eq_true rfl, Nat.le_of_ble_eq_true rfl⟩) hK (hP.sub [1, 2, 3] rfl) (hD.sub [1, 2, 3] (by decide) rfl) rfl rfl rfl hl.1 rfl (Nat.le_of_ble_eq_true rfl) dX7_join_23 ⟨Nat.zero_le _, Nat.zero_le _⟩) hP hD hS hA [1, 2, 3] [0] [0, 1, 2, 3] rfl (wr := [(q, .inr (5, [.ref q_shelf, .ref q_images, .ref q_cycles, .ref q_above, .ref q_book, .ref q_sums]))]) rfl (by decide) (by decide) (w2 := [(q, .inr (5, [.ref q_shelf, .ref q_images, .ref q_cycles, .ref q_above, .ref q_book, .ref q_sums])), (q_shelf, .inr (3, [.ref q_shelf_bars, .ref q_shelf_groups, .int f_shelf_size])), (q_shelf_bars, .inl (cI, 40, .inl f_shelf_bars)), (q_shelf_groups, .inl (cJ, 40, .inr (.inl f_shelf_groups)))]) (by decide) rfl rfl (fun H locs hP hD hS => ?_)
    refine lv_aload_n hx hb dX7_join_26 rfl (lv_at hl 1 rfl) ?_
    refine va_get (D := G) (ci := 5) (v := .ref q_shelf) (C := RX7) (T := TX7) (N := 6) hx hb hts in_X7_join_X7 hown hK.1 hP 0 rfl rfl 0 (by decide) (hts (.fieldLink RX7 10 "FieldsByClasses" "shelf" "LFieldsByClasses$Shelf;") (by decide +kernel)) (fun _ h9 => h9) rfl dX7_join_27 ?_
    refine lv_iload_n hx hb dX7_join_30 rfl (lv_at hl 3 rfl) ?_
    refine lv_iload_n hx hb dX7_join_31 rfl (lv_at hl 0 rfl) ?_
    obtain ⟨v32, hv32, h⟩ := pf_bind h
    refine hb_calll (hb_runV (G := G) (T := hbT cI cJ cZ cS) (As := [.int y2, .int v3]) (rest := [.long v23, .ref q]) S0 (c_X4_bitsBy l G cI cJ cZ cS q_shelf q_shelf_bars q_shelf_groups H.size f_shelf_bars f_shelf_groups f_shelf_size y2 v3 v32 hv32) (cwV 2 hts gX7_join_X4_bitsBy rfl rfl rfl kv_X4_bitsBy ⟨Nat.le_of_ble_eq_true rfl, Nat.le_of_ble_eq_true rfl⟩) hK (hP.sub [1, 2, 3] rfl) (hD.sub [1, 2, 3] (by decide) rfl) rfl rfl rfl hl.1 rfl (Nat.le_of_ble_eq_true rfl) dX7_join_32 ⟨Nat.zero_le _, Nat.zero_le _⟩) hP hD hS hA [1, 2, 3] [0] [0, 1, 2, 3] rfl (wr := [(q, .inr (5, [.ref q_shelf, .ref q_images, .ref q_cycles, .ref q_above, .ref q_book, .ref q_sums]))]) rfl (by decide) (by decide) (w2 := [(q, .inr (5, [.ref q_shelf, .ref q_images, .ref q_cycles, .ref q_above, .ref q_book, .ref q_sums])), (q_shelf, .inr (3, [.ref q_shelf_bars, .ref q_shelf_groups, .int f_shelf_size])), (q_shelf_bars, .inl (cI, 40, .inl f_shelf_bars)), (q_shelf_groups, .inl (cJ, 40, .inr (.inl f_shelf_groups)))]) (by decide) rfl rfl (fun H locs hP hD hS => ?_)
    refine lv_land hx hb dX7_join_35 ?_
    refine lv_iload_n hx hb dX7_join_36 rfl (lv_at hl 0 rfl) ?_
    obtain ⟨v37, hv37, h⟩ := pf_bind h
    refine hb_calli (hb_runV (G := G) (T := hbT cI cJ cZ cS) (As := [.long (v23 &&& v32), .int v3]) (rest := []) S0 (c_X7_keep l G cI cJ cZ cS q q_shelf q_images q_cycles q_above q_book q_sums q_shelf_bars q_shelf_groups H.size f_shelf_bars f_shelf_groups f_shelf_size (v23 &&& v32) v3 v37 hv37) (cwV 2 hts gX7_join_X7_keep rfl rfl rfl kv_X7_keep ⟨Nat.le_of_ble_eq_true rfl, Nat.le_of_ble_eq_true rfl⟩) hK (hP.sub [0, 1, 2, 3] rfl) (hD.sub [0, 1, 2, 3] (by decide) rfl) rfl rfl rfl hl.1 rfl (Nat.le_of_ble_eq_true rfl) dX7_join_37 ⟨Nat.zero_le _, Nat.zero_le _⟩) hP hD hS hA [0, 1, 2, 3] [] [0, 1, 2, 3] rfl (wr := []) rfl (by decide) (by decide) (w2 := [(q, .inr (5, [.ref q_shelf, .ref q_images, .ref q_cycles, .ref q_above, .ref q_book, .ref q_sums])), (q_shelf, .inr (3, [.ref q_shelf_bars, .ref q_shelf_groups, .int v37.2.2.2])), (q_shelf_bars, .inl (cI, 40, .inl v37.2.1)), (q_shelf_groups, .inl (cJ, 40, .inr (.inl v37.2.2.1)))]) (by decide) rfl rfl (fun H locs hP hD hS => ?_)
    cases h
    exact hb_iret hx hb hr hlocks hP hD hS dX7_join_40
  · have h := pf_pos h c9
    refine lv_iconst (v := -1) hx hb dX7_join_12 (by decide) ?_
    refine lv_goto (tgt := 40) hx hb dX7_join_13 (by decide) ?_
    cases h
    exact hb_iret hx hb hr hlocks hP hD hS dX7_join_40
-- X7_meet
def p_X7_meet (f_shelf_bars : (Nat → Int32)) (f_shelf_groups : (Nat → Int64)) (f_shelf_size : Int32) (y1 : Int32) (y2 : Int32) : Option (Int32 × (Nat → Int32) × (Nat → Int64) × Int32) :=
  ((p_X7_commonM f_shelf_bars f_shelf_size y1 y2).bind fun v3 => (if v3 = (-1 : Int32) then some ((-1 : Int32), f_shelf_bars, f_shelf_groups, f_shelf_size) else ((p_X4_bitsBy f_shelf_bars f_shelf_groups f_shelf_size y1 v3).bind fun v23 => ((p_X4_bitsBy f_shelf_bars f_shelf_groups f_shelf_size y2 v3).bind fun v32 => ((p_X3_product v23 v32 v3).bind fun v36 => ((p_X7_keep f_shelf_bars f_shelf_groups f_shelf_size v36 v3).bind fun v40 => some (v40.1, v40.2.1, v40.2.2.1, v40.2.2.2)))))))
theorem in_X7_meet_X7 : ∀ w ∈ u_ws RX7 TX7 6, w ∈ wsX7_meet := fun w h => List.mem_cons_of_mem _ (List.mem_append_left _ (List.mem_append_right _ h))
theorem kv_X7_meet : yX7_meet.cls = RX7 ∧ yX7_meet.cls ≠ "java/lang/invoke/MethodHandle" ∧ yX7_meet.cls ≠ "java/lang/invoke/VarHandle" ∧ (parseMethodDescriptor yX7_meet.desc).map (fun d => d.parameters.length) = some 2 := by decide +kernel
set_option maxHeartbeats 4000000 in
set_option maxRecDepth 100000 in
theorem c_X7_meet (l : Launch) (G : va_G) (cI cJ cZ cS : ClassId) (q q_shelf q_images q_cycles q_above q_book q_sums q_shelf_bars q_shelf_groups : Nat) (sz : Nat) (f_shelf_bars : (Nat → Int32)) (f_shelf_groups : (Nat → Int64)) (f_shelf_size : Int32) (y1 : Int32) (y2 : Int32) (r : (Int32 × (Nat → Int32) × (Nat → Int64) × Int32)) (h : p_X7_meet f_shelf_bars f_shelf_groups f_shelf_size y1 y2 = some r) : Met l yX7_meet wsX7_meet { frames := 4, cells := 0, slots := 0, locals := 98 } (hb_pre G (hbT cI cJ cZ cS) [.ref q, .int y1, .int y2] sz [(q, .inr (5, [.ref q_shelf, .ref q_images, .ref q_cycles, .ref q_above, .ref q_book, .ref q_sums])), (q_shelf, .inr (3, [.ref q_shelf_bars, .ref q_shelf_groups, .int f_shelf_size])), (q_shelf_bars, .inl (cI, 40, .inl f_shelf_bars)), (q_shelf_groups, .inl (cJ, 40, .inr (.inl f_shelf_groups)))]) (hb_Qi G r.1 [(q, .inr (5, [.ref q_shelf, .ref q_images, .ref q_cycles, .ref q_above, .ref q_book, .ref q_sums])), (q_shelf, .inr (3, [.ref q_shelf_bars, .ref q_shelf_groups, .int r.2.2.2])), (q_shelf_bars, .inl (cI, 40, .inl r.2.1)), (q_shelf_groups, .inl (cJ, 40, .inr (.inl r.2.2.1)))] (va_A [(q, .inr (5, [.ref q_shelf, .ref q_images, .ref q_cycles, .ref q_above, .ref q_book, .ref q_sums])), (q_shelf, .inr (3, [.ref q_shelf_bars, .ref q_shelf_groups, .int f_shelf_size])), (q_shelf_bars, .inl (cI, 40, .inl f_shelf_bars)), (q_shelf_groups, .inl (cJ, 40, .inr (.inl f_shelf_groups)))] sz)) 0 0 (va_A [(q, .inr (5, [.ref q_shelf, .ref q_images, .ref q_cycles, .ref q_above, .ref q_book, .ref q_sums])), (q_shelf, .inr (3, [.ref q_shelf_bars, .ref q_shelf_groups, .int f_shelf_size])), (q_shelf_bars, .inl (cI, 40, .inl f_shelf_bars)), (q_shelf_groups, .inl (cJ, 40, .inr (.inl f_shelf_groups)))] sz) := by
  refine hb_met (Qc := fun A => hb_Qi G r.1 [(q, .inr (5, [.ref q_shelf, .ref q_images, .ref q_cycles, .ref q_above, .ref q_book, .ref q_sums])), (q_shelf, .inr (3, [.ref q_shelf_bars, .ref q_shelf_groups, .int r.2.2.2])), (q_shelf_bars, .inl (cI, 40, .inl r.2.1)), (q_shelf_groups, .inl (cJ, 40, .inr (.inl r.2.2.1)))] A) (cc := cX7_meet) (maxL := 4) (ret := some .int) (by decide) rfl (Nat.le_of_ble_eq_true rfl) ?_
  intro p e s m below meth c A hx hb hr hts hown hlocks hml hin hK hA hP hD hS ls hl
  have hown : s.vm.findClass RX7 = some m.cls := hown
  have S0 : CallFix p m c cX7_meet 4 s ([.ref q, .int y1, .int y2] : List Value).toArray wsX7_meet RX7 := ⟨hx, hb, hml, hown, hts⟩
  have hl : lv_has ls 4 [(0, .ref q), (1, .int y1), (2, .int y2)] := hl
  suffices hh : ∀ (H : Heap) (locs : List Loc), va_P G vwCl [(q, .inr (5, [.ref q_shelf, .ref q_images, .ref q_cycles, .ref q_above, .ref q_book, .ref q_sums])), (q_shelf, .inr (3, [.ref q_shelf_bars, .ref q_shelf_groups, .int f_shelf_size])), (q_shelf_bars, .inl (cI, 40, .inl f_shelf_bars)), (q_shelf_groups, .inl (cJ, 40, .inr (.inl f_shelf_groups)))] H → va_D A [(q, .inr (5, [.ref q_shelf, .ref q_images, .ref q_cycles, .ref q_above, .ref q_book, .ref q_sums])), (q_shelf, .inr (3, [.ref q_shelf_bars, .ref q_shelf_groups, .int f_shelf_size])), (q_shelf_bars, .inl (cI, 40, .inl f_shelf_bars)), (q_shelf_groups, .inl (cJ, 40, .inr (.inl f_shelf_groups)))] → va_S A s.heap H locs → W p l e (headSpec wsX7_meet { frames := 4, cells := 0, slots := 0, locals := 98 }).room s m ([.ref q, .int y1, .int y2] : List Value).toArray below meth c H locs 0 0 (MQ below (hb_Qi G r.1 [(q, .inr (5, [.ref q_shelf, .ref q_images, .ref q_cycles, .ref q_above, .ref q_book, .ref q_sums])), (q_shelf, .inr (3, [.ref q_shelf_bars, .ref q_shelf_groups, .int r.2.2.2])), (q_shelf_bars, .inl (cI, 40, .inl r.2.1)), (q_shelf_groups, .inl (cJ, 40, .inr (.inl r.2.2.1)))] A) ([.ref q, .int y1, .int y2] : List Value).toArray s 0 0 A) (F0 m 0 ls []) from hh s.heap [] hP hD hS
  intro H locs hP hD hS
  unfold p_X7_meet at h
  refine lv_aload_n hx hb dX7_meet_0 rfl (lv_at hl 0 rfl) ?_
  refine lv_iload_n hx hb dX7_meet_1 rfl (lv_at hl 1 rfl) ?_
  refine lv_iload_n hx hb dX7_meet_2 rfl (lv_at hl 2 rfl) ?_
  obtain ⟨v3, hv3, h⟩ := pf_bind h
  refine hb_calli (hb_runV (G := G) (T := hbT cI cJ cZ cS) (As := [.int y1, .int y2]) (rest := []) S0 (c_X7_commonM l G cI cJ cZ cS q q_shelf q_images q_cycles q_above q_book q_sums q_shelf_bars q_shelf_groups H.size f_shelf_bars f_shelf_groups f_shelf_size y1 y2 v3 hv3) (cwV 2 hts gX7_meet_X7_commonM rfl rfl rfl kv_X7_commonM ⟨Nat.le_of_ble_eq_true rfl, Nat.le_of_ble_eq_true rfl⟩) hK (hP.sub [0, 1, 2, 3] rfl) (hD.sub [0, 1, 2, 3] (by decide) rfl) rfl rfl rfl hl.1 rfl (Nat.le_of_ble_eq_true rfl) dX7_meet_3 ⟨Nat.zero_le _, Nat.zero_le _⟩) hP hD hS hA [0, 1, 2, 3] [] [0, 1, 2, 3] rfl (wr := []) rfl (by decide) (by decide) (w2 := [(q, .inr (5, [.ref q_shelf, .ref q_images, .ref q_cycles, .ref q_above, .ref q_book, .ref q_sums])), (q_shelf, .inr (3, [.ref q_shelf_bars, .ref q_shelf_groups, .int f_shelf_size])), (q_shelf_bars, .inl (cI, 40, .inl f_shelf_bars)), (q_shelf_groups, .inl (cJ, 40, .inr (.inl f_shelf_groups)))]) (by decide) rfl rfl (fun H locs hP hD hS => ?_)
  refine lv_istore_n (lv' := [(3, .int v3), (0, .ref q), (1, .int y1), (2, .int y2)]) hx hb dX7_meet_6 rfl hl (by decide) rfl (fun ls hl => ?_)
  refine lv_iload_n hx hb dX7_meet_7 rfl (lv_at hl 0 rfl) ?_
  refine lv_iconst (v := -1) hx hb dX7_meet_8 (by decide) ?_
  refine lv_icmp_ne (tgt := 16) hx hb dX7_meet_9 (by decide) (fun c9 => ?_) (fun c9 => ?_)
  · have h := pf_neg h c9
    refine lv_aload_n hx hb dX7_meet_16 rfl (lv_at hl 1 rfl) ?_
    refine lv_aload_n hx hb dX7_meet_17 rfl (lv_at hl 1 rfl) ?_
    refine va_get (D := G) (ci := 5) (v := .ref q_shelf) (C := RX7) (T := TX7) (N := 6) hx hb hts in_X7_meet_X7 hown hK.1 hP 0 rfl rfl 0 (by decide) (hts (.fieldLink RX7 10 "FieldsByClasses" "shelf" "LFieldsByClasses$Shelf;") (by decide +kernel)) (fun _ h9 => h9) rfl dX7_meet_18 ?_
    refine lv_iload_n hx hb dX7_meet_21 rfl (lv_at hl 2 rfl) ?_
    refine lv_iload_n hx hb dX7_meet_22 rfl (lv_at hl 0 rfl) ?_
    obtain ⟨v23, hv23, h⟩ := pf_bind h
    refine hb_calll (hb_runV (G := G) (T := hbT cI cJ cZ cS) (As := [.int y1, .int v3]) (rest := [.ref q]) S0 (c_X4_bitsBy l G cI cJ cZ cS q_shelf q_shelf_bars q_shelf_groups H.size f_shelf_bars f_shelf_groups f_shelf_size y1 v3 v23 hv23) (cwV 2 hts gX7_meet_X4_bitsBy rfl rfl rfl kv_X4_bitsBy ⟨Nat.le_of_ble_eq_true rfl, Nat.le_of_ble_eq_true rfl⟩) hK (hP.sub [1, 2, 3] rfl) (hD.sub [1, 2, 3] (by decide) rfl) rfl rfl rfl hl.1 rfl (Nat.le_of_ble_eq_true rfl) dX7_meet_23 ⟨Nat.zero_le _, Nat.zero_le _⟩) hP hD hS hA [1, 2, 3] [0] [0, 1, 2, 3] rfl (wr := [(q, .inr (5, [.ref q_shelf, .ref q_images, .ref q_cycles, .ref q_above, .ref q_book, .ref q_sums]))]) rfl (by decide) (by decide) (w2 := [(q, .inr (5, [.ref q_shelf, .ref q_images, .ref q_cycles, .ref q_above, .ref q_book, .ref q_sums])), (q_shelf, .inr (3, [.ref q_shelf_bars, .ref q_shelf_groups, .int f_shelf_size])), (q_shelf_bars, .inl (cI, 40, .inl f_shelf_bars)), (q_shelf_groups, .inl (cJ, 40, .inr (.inl f_shelf_groups)))]) (by decide) rfl rfl (fun H locs hP hD hS => ?_)
    refine lv_aload_n hx hb dX7_meet_26 rfl (lv_at hl 1 rfl) ?_
    refine va_get (D := G) (ci := 5) (v := .ref q_shelf) (C := RX7) (T := TX7) (N := 6) hx hb hts in_X7_meet_X7 hown hK.1 hP 0 rfl rfl 0 (by decide) (hts (.fieldLink RX7 10 "FieldsByClasses" "shelf" "LFieldsByClasses$Shelf;") (by decide +kernel)) (fun _ h9 => h9) rfl dX7_meet_27 ?_
    refine lv_iload_n hx hb dX7_meet_30 rfl (lv_at hl 3 rfl) ?_
    refine lv_iload_n hx hb dX7_meet_31 rfl (lv_at hl 0 rfl) ?_
    obtain ⟨v32, hv32, h⟩ := pf_bind h
    refine hb_calll (hb_runV (G := G) (T := hbT cI cJ cZ cS) (As := [.int y2, .int v3]) (rest := [.long v23, .ref q]) S0 (c_X4_bitsBy l G cI cJ cZ cS q_shelf q_shelf_bars q_shelf_groups H.size f_shelf_bars f_shelf_groups f_shelf_size y2 v3 v32 hv32) (cwV 2 hts gX7_meet_X4_bitsBy rfl rfl rfl kv_X4_bitsBy ⟨Nat.le_of_ble_eq_true rfl, Nat.le_of_ble_eq_true rfl⟩) hK (hP.sub [1, 2, 3] rfl) (hD.sub [1, 2, 3] (by decide) rfl) rfl rfl rfl hl.1 rfl (Nat.le_of_ble_eq_true rfl) dX7_meet_32 ⟨Nat.zero_le _, Nat.zero_le _⟩) hP hD hS hA [1, 2, 3] [0] [0, 1, 2, 3] rfl (wr := [(q, .inr (5, [.ref q_shelf, .ref q_images, .ref q_cycles, .ref q_above, .ref q_book, .ref q_sums]))]) rfl (by decide) (by decide) (w2 := [(q, .inr (5, [.ref q_shelf, .ref q_images, .ref q_cycles, .ref q_above, .ref q_book, .ref q_sums])), (q_shelf, .inr (3, [.ref q_shelf_bars, .ref q_shelf_groups, .int f_shelf_size])), (q_shelf_bars, .inl (cI, 40, .inl f_shelf_bars)), (q_shelf_groups, .inl (cJ, 40, .inr (.inl f_shelf_groups)))]) (by decide) rfl rfl (fun H locs hP hD hS => ?_)
    refine lv_iload_n hx hb dX7_meet_35 rfl (lv_at hl 0 rfl) ?_
    obtain ⟨v36, hv36, h⟩ := pf_bind h
    refine pf_call (As := [.long v23, .long v32, .int v3]) (rest := [.ref q]) S0 (c_X3_product l v23 v32 v3 v36 hv36) (va_cwS 3 hts gX7_meet_X3_product rfl rfl rfl kd_X3_product ⟨Nat.le_of_ble_eq_true rfl, Nat.le_of_ble_eq_true rfl⟩) rfl hl.1 rfl (Nat.le_of_ble_eq_true rfl) dX7_meet_36 ⟨Nat.zero_le _, Nat.zero_le _⟩ ?_
    refine lv_iload_n hx hb dX7_meet_39 rfl (lv_at hl 0 rfl) ?_
    obtain ⟨v40, hv40, h⟩ := pf_bind h
    refine hb_calli (hb_runV (G := G) (T := hbT cI cJ cZ cS) (As := [.long v36, .int v3]) (rest := []) S0 (c_X7_keep l G cI cJ cZ cS q q_shelf q_images q_cycles q_above q_book q_sums q_shelf_bars q_shelf_groups H.size f_shelf_bars f_shelf_groups f_shelf_size v36 v3 v40 hv40) (cwV 2 hts gX7_meet_X7_keep rfl rfl rfl kv_X7_keep ⟨Nat.le_of_ble_eq_true rfl, Nat.le_of_ble_eq_true rfl⟩) hK (hP.sub [0, 1, 2, 3] rfl) (hD.sub [0, 1, 2, 3] (by decide) rfl) rfl rfl rfl hl.1 rfl (Nat.le_of_ble_eq_true rfl) dX7_meet_40 ⟨Nat.zero_le _, Nat.zero_le _⟩) hP hD hS hA [0, 1, 2, 3] [] [0, 1, 2, 3] rfl (wr := []) rfl (by decide) (by decide) (w2 := [(q, .inr (5, [.ref q_shelf, .ref q_images, .ref q_cycles, .ref q_above, .ref q_book, .ref q_sums])), (q_shelf, .inr (3, [.ref q_shelf_bars, .ref q_shelf_groups, .int v40.2.2.2])), (q_shelf_bars, .inl (cI, 40, .inl v40.2.1)), (q_shelf_groups, .inl (cJ, 40, .inr (.inl v40.2.2.1)))]) (by decide) rfl rfl (fun H locs hP hD hS => ?_)
    cases h
    exact hb_iret hx hb hr hlocks hP hD hS dX7_meet_43
  · have h := pf_pos h c9
    refine lv_iconst (v := -1) hx hb dX7_meet_12 (by decide) ?_
    refine lv_goto (tgt := 43) hx hb dX7_meet_13 (by decide) ?_
    cases h
    exact hb_iret hx hb hr hlocks hP hD hS dX7_meet_43
-- X7_liesIn
def p_X7_liesIn (f_shelf_bars : (Nat → Int32)) (f_shelf_groups : (Nat → Int64)) (f_shelf_size : Int32) (y1 : Int32) (y2 : Int32) : Option Int32 :=
  ((p_X4_holds f_shelf_size y1).bind fun v5 => (if v5 = 0 then some (0 : Int32) else ((p_X4_holds f_shelf_size y2).bind fun v16 => (if v16 = 0 then some (0 : Int32) else ((p_X4_barOf f_shelf_bars f_shelf_size y2).bind fun v29 => ((p_X4_barOf f_shelf_bars f_shelf_size y1).bind fun v38 => ((p_X6_goesInto v38 v29).bind fun v42 => (if v42 = 0 then some (0 : Int32) else ((p_X4_bitsOf f_shelf_groups f_shelf_size y2).bind fun v53 => ((p_X4_bitsBy f_shelf_bars f_shelf_groups f_shelf_size y1 v29).bind fun v62 => (if (v53 &&& (v62 ^^^ (-1 : Int64))) = (0 : Int64) then some (1 : Int32) else some (0 : Int32))))))))))))
theorem in_X7_liesIn_X7 : ∀ w ∈ u_ws RX7 TX7 6, w ∈ wsX7_liesIn := fun w h => List.mem_cons_of_mem _ (List.mem_append_left _ (List.mem_append_right _ h))
theorem kv_X7_liesIn : yX7_liesIn.cls = RX7 ∧ yX7_liesIn.cls ≠ "java/lang/invoke/MethodHandle" ∧ yX7_liesIn.cls ≠ "java/lang/invoke/VarHandle" ∧ (parseMethodDescriptor yX7_liesIn.desc).map (fun d => d.parameters.length) = some 2 := by decide +kernel
set_option maxHeartbeats 4000000 in
set_option maxRecDepth 100000 in
theorem c_X7_liesIn (l : Launch) (G : va_G) (cI cJ cZ cS : ClassId) (q q_shelf q_images q_cycles q_above q_book q_sums q_shelf_bars q_shelf_groups : Nat) (sz : Nat) (f_shelf_bars : (Nat → Int32)) (f_shelf_groups : (Nat → Int64)) (f_shelf_size : Int32) (y1 : Int32) (y2 : Int32) (r : Int32) (h : p_X7_liesIn f_shelf_bars f_shelf_groups f_shelf_size y1 y2 = some r) : Met l yX7_liesIn wsX7_liesIn { frames := 4, cells := 0, slots := 0, locals := 98 } (hb_pre G (hbT cI cJ cZ cS) [.ref q, .int y1, .int y2] sz [(q, .inr (5, [.ref q_shelf, .ref q_images, .ref q_cycles, .ref q_above, .ref q_book, .ref q_sums])), (q_shelf, .inr (3, [.ref q_shelf_bars, .ref q_shelf_groups, .int f_shelf_size])), (q_shelf_bars, .inl (cI, 40, .inl f_shelf_bars)), (q_shelf_groups, .inl (cJ, 40, .inr (.inl f_shelf_groups)))]) (hb_Qi G r [(q, .inr (5, [.ref q_shelf, .ref q_images, .ref q_cycles, .ref q_above, .ref q_book, .ref q_sums])), (q_shelf, .inr (3, [.ref q_shelf_bars, .ref q_shelf_groups, .int f_shelf_size])), (q_shelf_bars, .inl (cI, 40, .inl f_shelf_bars)), (q_shelf_groups, .inl (cJ, 40, .inr (.inl f_shelf_groups)))] (va_A [(q, .inr (5, [.ref q_shelf, .ref q_images, .ref q_cycles, .ref q_above, .ref q_book, .ref q_sums])), (q_shelf, .inr (3, [.ref q_shelf_bars, .ref q_shelf_groups, .int f_shelf_size])), (q_shelf_bars, .inl (cI, 40, .inl f_shelf_bars)), (q_shelf_groups, .inl (cJ, 40, .inr (.inl f_shelf_groups)))] sz)) 0 0 (va_A [(q, .inr (5, [.ref q_shelf, .ref q_images, .ref q_cycles, .ref q_above, .ref q_book, .ref q_sums])), (q_shelf, .inr (3, [.ref q_shelf_bars, .ref q_shelf_groups, .int f_shelf_size])), (q_shelf_bars, .inl (cI, 40, .inl f_shelf_bars)), (q_shelf_groups, .inl (cJ, 40, .inr (.inl f_shelf_groups)))] sz) := by
  refine hb_met (Qc := fun A => hb_Qi G r [(q, .inr (5, [.ref q_shelf, .ref q_images, .ref q_cycles, .ref q_above, .ref q_book, .ref q_sums])), (q_shelf, .inr (3, [.ref q_shelf_bars, .ref q_shelf_groups, .int f_shelf_size])), (q_shelf_bars, .inl (cI, 40, .inl f_shelf_bars)), (q_shelf_groups, .inl (cJ, 40, .inr (.inl f_shelf_groups)))] A) (cc := cX7_liesIn) (maxL := 4) (ret := some .boolean) (by decide) rfl (Nat.le_of_ble_eq_true rfl) ?_
  intro p e s m below meth c A hx hb hr hts hown hlocks hml hin hK hA hP hD hS ls hl
  have hown : s.vm.findClass RX7 = some m.cls := hown
  have S0 : CallFix p m c cX7_liesIn 4 s ([.ref q, .int y1, .int y2] : List Value).toArray wsX7_liesIn RX7 := ⟨hx, hb, hml, hown, hts⟩
  have hl : lv_has ls 4 [(0, .ref q), (1, .int y1), (2, .int y2)] := hl
  suffices hh : ∀ (H : Heap) (locs : List Loc), va_P G vwCl [(q, .inr (5, [.ref q_shelf, .ref q_images, .ref q_cycles, .ref q_above, .ref q_book, .ref q_sums])), (q_shelf, .inr (3, [.ref q_shelf_bars, .ref q_shelf_groups, .int f_shelf_size])), (q_shelf_bars, .inl (cI, 40, .inl f_shelf_bars)), (q_shelf_groups, .inl (cJ, 40, .inr (.inl f_shelf_groups)))] H → va_D A [(q, .inr (5, [.ref q_shelf, .ref q_images, .ref q_cycles, .ref q_above, .ref q_book, .ref q_sums])), (q_shelf, .inr (3, [.ref q_shelf_bars, .ref q_shelf_groups, .int f_shelf_size])), (q_shelf_bars, .inl (cI, 40, .inl f_shelf_bars)), (q_shelf_groups, .inl (cJ, 40, .inr (.inl f_shelf_groups)))] → va_S A s.heap H locs → W p l e (headSpec wsX7_liesIn { frames := 4, cells := 0, slots := 0, locals := 98 }).room s m ([.ref q, .int y1, .int y2] : List Value).toArray below meth c H locs 0 0 (MQ below (hb_Qi G r [(q, .inr (5, [.ref q_shelf, .ref q_images, .ref q_cycles, .ref q_above, .ref q_book, .ref q_sums])), (q_shelf, .inr (3, [.ref q_shelf_bars, .ref q_shelf_groups, .int f_shelf_size])), (q_shelf_bars, .inl (cI, 40, .inl f_shelf_bars)), (q_shelf_groups, .inl (cJ, 40, .inr (.inl f_shelf_groups)))] A) ([.ref q, .int y1, .int y2] : List Value).toArray s 0 0 A) (F0 m 0 ls []) from hh s.heap [] hP hD hS
  intro H locs hP hD hS
  unfold p_X7_liesIn at h
  refine lv_aload_n hx hb dX7_liesIn_0 rfl (lv_at hl 0 rfl) ?_
  refine va_get (D := G) (ci := 5) (v := .ref q_shelf) (C := RX7) (T := TX7) (N := 6) hx hb hts in_X7_liesIn_X7 hown hK.1 hP 0 rfl rfl 0 (by decide) (hts (.fieldLink RX7 10 "FieldsByClasses" "shelf" "LFieldsByClasses$Shelf;") (by decide +kernel)) (fun _ h9 => h9) rfl dX7_liesIn_1 ?_
  refine lv_iload_n hx hb dX7_liesIn_4 rfl (lv_at hl 1 rfl) ?_
  obtain ⟨v5, hv5, h⟩ := pf_bind h
  refine hb_calli (hb_runV (G := G) (T := hbT cI cJ cZ cS) (As := [.int y1]) (rest := []) S0 (c_X4_holds l G cI cJ cZ cS q_shelf q_shelf_bars q_shelf_groups H.size f_shelf_bars f_shelf_groups f_shelf_size y1 v5 hv5) (cwV 1 hts gX7_liesIn_X4_holds rfl rfl rfl kv_X4_holds ⟨Nat.le_of_ble_eq_true rfl, Nat.le_of_ble_eq_true rfl⟩) hK (hP.sub [1, 2, 3] rfl) (hD.sub [1, 2, 3] (by decide) rfl) rfl rfl rfl hl.1 rfl (Nat.le_of_ble_eq_true rfl) dX7_liesIn_5 ⟨Nat.zero_le _, Nat.zero_le _⟩) hP hD hS hA [1, 2, 3] [0] [0, 1, 2, 3] rfl (wr := [(q, .inr (5, [.ref q_shelf, .ref q_images, .ref q_cycles, .ref q_above, .ref q_book, .ref q_sums]))]) rfl (by decide) (by decide) (w2 := [(q, .inr (5, [.ref q_shelf, .ref q_images, .ref q_cycles, .ref q_above, .ref q_book, .ref q_sums])), (q_shelf, .inr (3, [.ref q_shelf_bars, .ref q_shelf_groups, .int f_shelf_size])), (q_shelf_bars, .inl (cI, 40, .inl f_shelf_bars)), (q_shelf_groups, .inl (cJ, 40, .inr (.inl f_shelf_groups)))]) (by decide) rfl rfl (fun H locs hP hD hS => ?_)
  refine lv_if_eq (tgt := 22) hx hb dX7_liesIn_8 (by decide) (fun c8 => ?_) (fun c8 => ?_)
  · have h := pf_pos h c8
    refine lv_iconst (v := 0) hx hb dX7_liesIn_22 (by decide) ?_
    cases h
    exact hb_zret hx hb hr hlocks pf_b0 hP hD hS dX7_liesIn_23
  · have h := pf_neg h c8
    refine lv_aload_n hx hb dX7_liesIn_11 rfl (lv_at hl 0 rfl) ?_
    refine va_get (D := G) (ci := 5) (v := .ref q_shelf) (C := RX7) (T := TX7) (N := 6) hx hb hts in_X7_liesIn_X7 hown hK.1 hP 0 rfl rfl 0 (by decide) (hts (.fieldLink RX7 10 "FieldsByClasses" "shelf" "LFieldsByClasses$Shelf;") (by decide +kernel)) (fun _ h9 => h9) rfl dX7_liesIn_12 ?_
    refine lv_iload_n hx hb dX7_liesIn_15 rfl (lv_at hl 2 rfl) ?_
    obtain ⟨v16, hv16, h⟩ := pf_bind h
    refine hb_calli (hb_runV (G := G) (T := hbT cI cJ cZ cS) (As := [.int y2]) (rest := []) S0 (c_X4_holds l G cI cJ cZ cS q_shelf q_shelf_bars q_shelf_groups H.size f_shelf_bars f_shelf_groups f_shelf_size y2 v16 hv16) (cwV 1 hts gX7_liesIn_X4_holds rfl rfl rfl kv_X4_holds ⟨Nat.le_of_ble_eq_true rfl, Nat.le_of_ble_eq_true rfl⟩) hK (hP.sub [1, 2, 3] rfl) (hD.sub [1, 2, 3] (by decide) rfl) rfl rfl rfl hl.1 rfl (Nat.le_of_ble_eq_true rfl) dX7_liesIn_16 ⟨Nat.zero_le _, Nat.zero_le _⟩) hP hD hS hA [1, 2, 3] [0] [0, 1, 2, 3] rfl (wr := [(q, .inr (5, [.ref q_shelf, .ref q_images, .ref q_cycles, .ref q_above, .ref q_book, .ref q_sums]))]) rfl (by decide) (by decide) (w2 := [(q, .inr (5, [.ref q_shelf, .ref q_images, .ref q_cycles, .ref q_above, .ref q_book, .ref q_sums])), (q_shelf, .inr (3, [.ref q_shelf_bars, .ref q_shelf_groups, .int f_shelf_size])), (q_shelf_bars, .inl (cI, 40, .inl f_shelf_bars)), (q_shelf_groups, .inl (cJ, 40, .inr (.inl f_shelf_groups)))]) (by decide) rfl rfl (fun H locs hP hD hS => ?_)
    refine lv_if_ne (tgt := 24) hx hb dX7_liesIn_19 (by decide) (fun c19 => ?_) (fun c19 => ?_)
    · have h := pf_neg h c19
      refine lv_aload_n hx hb dX7_liesIn_24 rfl (lv_at hl 0 rfl) ?_
      refine va_get (D := G) (ci := 5) (v := .ref q_shelf) (C := RX7) (T := TX7) (N := 6) hx hb hts in_X7_liesIn_X7 hown hK.1 hP 0 rfl rfl 0 (by decide) (hts (.fieldLink RX7 10 "FieldsByClasses" "shelf" "LFieldsByClasses$Shelf;") (by decide +kernel)) (fun _ h9 => h9) rfl dX7_liesIn_25 ?_
      refine lv_iload_n hx hb dX7_liesIn_28 rfl (lv_at hl 2 rfl) ?_
      obtain ⟨v29, hv29, h⟩ := pf_bind h
      refine hb_calli (hb_runV (G := G) (T := hbT cI cJ cZ cS) (As := [.int y2]) (rest := []) S0 (c_X4_barOf l G cI cJ cZ cS q_shelf q_shelf_bars q_shelf_groups H.size f_shelf_bars f_shelf_groups f_shelf_size y2 v29 hv29) (cwV 1 hts gX7_liesIn_X4_barOf rfl rfl rfl kv_X4_barOf ⟨Nat.le_of_ble_eq_true rfl, Nat.le_of_ble_eq_true rfl⟩) hK (hP.sub [1, 2, 3] rfl) (hD.sub [1, 2, 3] (by decide) rfl) rfl rfl rfl hl.1 rfl (Nat.le_of_ble_eq_true rfl) dX7_liesIn_29 ⟨Nat.zero_le _, Nat.zero_le _⟩) hP hD hS hA [1, 2, 3] [0] [0, 1, 2, 3] rfl (wr := [(q, .inr (5, [.ref q_shelf, .ref q_images, .ref q_cycles, .ref q_above, .ref q_book, .ref q_sums]))]) rfl (by decide) (by decide) (w2 := [(q, .inr (5, [.ref q_shelf, .ref q_images, .ref q_cycles, .ref q_above, .ref q_book, .ref q_sums])), (q_shelf, .inr (3, [.ref q_shelf_bars, .ref q_shelf_groups, .int f_shelf_size])), (q_shelf_bars, .inl (cI, 40, .inl f_shelf_bars)), (q_shelf_groups, .inl (cJ, 40, .inr (.inl f_shelf_groups)))]) (by decide) rfl rfl (fun H locs hP hD hS => ?_)
      refine lv_istore_n (lv' := [(3, .int v29), (0, .ref q), (1, .int y1), (2, .int y2)]) hx hb dX7_liesIn_32 rfl hl (by decide) rfl (fun ls hl => ?_)
      refine lv_aload_n hx hb dX7_liesIn_33 rfl (lv_at hl 1 rfl) ?_
      refine va_get (D := G) (ci := 5) (v := .ref q_shelf) (C := RX7) (T := TX7) (N := 6) hx hb hts in_X7_liesIn_X7 hown hK.1 hP 0 rfl rfl 0 (by decide) (hts (.fieldLink RX7 10 "FieldsByClasses" "shelf" "LFieldsByClasses$Shelf;") (by decide +kernel)) (fun _ h9 => h9) rfl dX7_liesIn_34 ?_
      refine lv_iload_n hx hb dX7_liesIn_37 rfl (lv_at hl 2 rfl) ?_
      obtain ⟨v38, hv38, h⟩ := pf_bind h
      refine hb_calli (hb_runV (G := G) (T := hbT cI cJ cZ cS) (As := [.int y1]) (rest := []) S0 (c_X4_barOf l G cI cJ cZ cS q_shelf q_shelf_bars q_shelf_groups H.size f_shelf_bars f_shelf_groups f_shelf_size y1 v38 hv38) (cwV 1 hts gX7_liesIn_X4_barOf rfl rfl rfl kv_X4_barOf ⟨Nat.le_of_ble_eq_true rfl, Nat.le_of_ble_eq_true rfl⟩) hK (hP.sub [1, 2, 3] rfl) (hD.sub [1, 2, 3] (by decide) rfl) rfl rfl rfl hl.1 rfl (Nat.le_of_ble_eq_true rfl) dX7_liesIn_38 ⟨Nat.zero_le _, Nat.zero_le _⟩) hP hD hS hA [1, 2, 3] [0] [0, 1, 2, 3] rfl (wr := [(q, .inr (5, [.ref q_shelf, .ref q_images, .ref q_cycles, .ref q_above, .ref q_book, .ref q_sums]))]) rfl (by decide) (by decide) (w2 := [(q, .inr (5, [.ref q_shelf, .ref q_images, .ref q_cycles, .ref q_above, .ref q_book, .ref q_sums])), (q_shelf, .inr (3, [.ref q_shelf_bars, .ref q_shelf_groups, .int f_shelf_size])), (q_shelf_bars, .inl (cI, 40, .inl f_shelf_bars)), (q_shelf_groups, .inl (cJ, 40, .inr (.inl f_shelf_groups)))]) (by decide) rfl rfl (fun H locs hP hD hS => ?_)
      refine lv_iload_n hx hb dX7_liesIn_41 rfl (lv_at hl 0 rfl) ?_
      obtain ⟨v42, hv42, h⟩ := pf_bind h
      refine pf_call (As := [.int v38, .int v29]) (rest := []) S0 (c_X6_goesInto l v38 v29 v42 hv42) (va_cwS 2 hts gX7_liesIn_X6_goesInto rfl rfl rfl kd_X6_goesInto ⟨Nat.le_of_ble_eq_true rfl, Nat.le_of_ble_eq_true rfl⟩) rfl hl.1 rfl (Nat.le_of_ble_eq_true rfl) dX7_liesIn_42 ⟨Nat.zero_le _, Nat.zero_le _⟩ ?_
      refine lv_if_eq (tgt := 79) hx hb dX7_liesIn_45 (by decide) (fun c45 => ?_) (fun c45 => ?_)
      · have h := pf_pos h c45
        refine lv_iconst (v := 0) hx hb dX7_liesIn_79 (by decide) ?_
        cases h
        exact hb_zret hx hb hr hlocks pf_b0 hP hD hS dX7_liesIn_80
      · have h := pf_neg h c45
        refine lv_aload_n hx hb dX7_liesIn_48 rfl (lv_at hl 1 rfl) ?_
        refine va_get (D := G) (ci := 5) (v := .ref q_shelf) (C := RX7) (T := TX7) (N := 6) hx hb hts in_X7_liesIn_X7 hown hK.1 hP 0 rfl rfl 0 (by decide) (hts (.fieldLink RX7 10 "FieldsByClasses" "shelf" "LFieldsByClasses$Shelf;") (by decide +kernel)) (fun _ h9 => h9) rfl dX7_liesIn_49 ?_
        refine lv_iload_n hx hb dX7_liesIn_52 rfl (lv_at hl 3 rfl) ?_
        obtain ⟨v53, hv53, h⟩ := pf_bind h
        refine hb_calll (hb_runV (G := G) (T := hbT cI cJ cZ cS) (As := [.int y2]) (rest := []) S0 (c_X4_bitsOf l G cI cJ cZ cS q_shelf q_shelf_bars q_shelf_groups H.size f_shelf_bars f_shelf_groups f_shelf_size y2 v53 hv53) (cwV 1 hts gX7_liesIn_X4_bitsOf rfl rfl rfl kv_X4_bitsOf ⟨Nat.le_of_ble_eq_true rfl, Nat.le_of_ble_eq_true rfl⟩) hK (hP.sub [1, 2, 3] rfl) (hD.sub [1, 2, 3] (by decide) rfl) rfl rfl rfl hl.1 rfl (Nat.le_of_ble_eq_true rfl) dX7_liesIn_53 ⟨Nat.zero_le _, Nat.zero_le _⟩) hP hD hS hA [1, 2, 3] [0] [0, 1, 2, 3] rfl (wr := [(q, .inr (5, [.ref q_shelf, .ref q_images, .ref q_cycles, .ref q_above, .ref q_book, .ref q_sums]))]) rfl (by decide) (by decide) (w2 := [(q, .inr (5, [.ref q_shelf, .ref q_images, .ref q_cycles, .ref q_above, .ref q_book, .ref q_sums])), (q_shelf, .inr (3, [.ref q_shelf_bars, .ref q_shelf_groups, .int f_shelf_size])), (q_shelf_bars, .inl (cI, 40, .inl f_shelf_bars)), (q_shelf_groups, .inl (cJ, 40, .inr (.inl f_shelf_groups)))]) (by decide) rfl rfl (fun H locs hP hD hS => ?_)
        refine lv_aload_n hx hb dX7_liesIn_56 rfl (lv_at hl 1 rfl) ?_
        refine va_get (D := G) (ci := 5) (v := .ref q_shelf) (C := RX7) (T := TX7) (N := 6) hx hb hts in_X7_liesIn_X7 hown hK.1 hP 0 rfl rfl 0 (by decide) (hts (.fieldLink RX7 10 "FieldsByClasses" "shelf" "LFieldsByClasses$Shelf;") (by decide +kernel)) (fun _ h9 => h9) rfl dX7_liesIn_57 ?_
        refine lv_iload_n hx hb dX7_liesIn_60 rfl (lv_at hl 2 rfl) ?_
        refine lv_iload_n hx hb dX7_liesIn_61 rfl (lv_at hl 0 rfl) ?_
        obtain ⟨v62, hv62, h⟩ := pf_bind h
        refine hb_calll (hb_runV (G := G) (T := hbT cI cJ cZ cS) (As := [.int y1, .int v29]) (rest := [.long v53]) S0 (c_X4_bitsBy l G cI cJ cZ cS q_shelf q_shelf_bars q_shelf_groups H.size f_shelf_bars f_shelf_groups f_shelf_size y1 v29 v62 hv62) (cwV 2 hts gX7_liesIn_X4_bitsBy rfl rfl rfl kv_X4_bitsBy ⟨Nat.le_of_ble_eq_true rfl, Nat.le_of_ble_eq_true rfl⟩) hK (hP.sub [1, 2, 3] rfl) (hD.sub [1, 2, 3] (by decide) rfl) rfl rfl rfl hl.1 rfl (Nat.le_of_ble_eq_true rfl) dX7_liesIn_62 ⟨Nat.zero_le _, Nat.zero_le _⟩) hP hD hS hA [1, 2, 3] [0] [0, 1, 2, 3] rfl (wr := [(q, .inr (5, [.ref q_shelf, .ref q_images, .ref q_cycles, .ref q_above, .ref q_book, .ref q_sums]))]) rfl (by decide) (by decide) (w2 := [(q, .inr (5, [.ref q_shelf, .ref q_images, .ref q_cycles, .ref q_above, .ref q_book, .ref q_sums])), (q_shelf, .inr (3, [.ref q_shelf_bars, .ref q_shelf_groups, .int f_shelf_size])), (q_shelf_bars, .inl (cI, 40, .inl f_shelf_bars)), (q_shelf_groups, .inl (cJ, 40, .inr (.inl f_shelf_groups)))]) (by decide) rfl rfl (fun H locs hP hD hS => ?_)
        refine lv_ldc2 (v := -1) hx hb hown (hts (.constantLong RX7 81 (-1)) (by decide +kernel)) dX7_liesIn_65 ?_
        refine lv_lxor hx hb dX7_liesIn_68 ?_
        refine lv_land hx hb dX7_liesIn_69 ?_
        refine lv_lconst (v := 0) hx hb dX7_liesIn_70 (by decide) ?_
        refine W.lcmp hx hb dX7_liesIn_71 ?_
        refine lv_if_ne (tgt := 79) hx hb dX7_liesIn_72 (by decide) (fun c72 => ?_) (fun c72 => ?_)
        · have h := pf_neg h (fun q => c72 ((lg_cmp_eq _ _).mpr q))
          refine lv_iconst (v := 0) hx hb dX7_liesIn_79 (by decide) ?_
          cases h
          exact hb_zret hx hb hr hlocks pf_b0 hP hD hS dX7_liesIn_80
        · have h := pf_pos h ((lg_cmp_eq _ _).mp c72)
          refine lv_iconst (v := 1) hx hb dX7_liesIn_75 (by decide) ?_
          refine lv_goto (tgt := 80) hx hb dX7_liesIn_76 (by decide) ?_
          cases h
          exact hb_zret hx hb hr hlocks pf_b1 hP hD hS dX7_liesIn_80
    · have h := pf_pos h c19
      refine lv_iconst (v := 0) hx hb dX7_liesIn_22 (by decide) ?_
      cases h
      exact hb_zret hx hb hr hlocks pf_b0 hP hD hS dX7_liesIn_23
