-- X4_size
def p_X4_size (f_size : Int32)  : Option Int32 :=
  some f_size
theorem in_X4_size_X4 : ∀ w ∈ u_ws RX4 TX4 3, w ∈ wsX4_size := fun w h => List.mem_cons_of_mem _ (List.mem_append_right _ h)
theorem kv_X4_size : yX4_size.cls = RX4 ∧ yX4_size.cls ≠ "java/lang/invoke/MethodHandle" ∧ yX4_size.cls ≠ "java/lang/invoke/VarHandle" ∧ (parseMethodDescriptor yX4_size.desc).map (fun d => d.parameters.length) = some 0 := by decide +kernel
set_option maxHeartbeats 4000000 in
set_option maxRecDepth 100000 in
theorem c_X4_size (l : Launch) (G : va_G) (cI cJ cZ cS : ClassId) (q q_bars q_groups : Nat) (sz : Nat) (f_bars : (Nat → Int32)) (f_groups : (Nat → Int64)) (f_size : Int32)  (r : Int32) (h : p_X4_size f_size  = some r) : Met l yX4_size wsX4_size { frames := 0, cells := 0, slots := 0, locals := 0 } (hb_pre G (hbT cI cJ cZ cS) [.ref q] sz [(q, .inr (3, [.ref q_bars, .ref q_groups, .int f_size])), (q_bars, .inl (cI, 40, .inl f_bars)), (q_groups, .inl (cJ, 40, .inr (.inl f_groups)))]) (hb_Qi G r [(q, .inr (3, [.ref q_bars, .ref q_groups, .int f_size])), (q_bars, .inl (cI, 40, .inl f_bars)), (q_groups, .inl (cJ, 40, .inr (.inl f_groups)))] (va_A [(q, .inr (3, [.ref q_bars, .ref q_groups, .int f_size])), (q_bars, .inl (cI, 40, .inl f_bars)), (q_groups, .inl (cJ, 40, .inr (.inl f_groups)))] sz)) 0 0 (va_A [(q, .inr (3, [.ref q_bars, .ref q_groups, .int f_size])), (q_bars, .inl (cI, 40, .inl f_bars)), (q_groups, .inl (cJ, 40, .inr (.inl f_groups)))] sz) := by
  refine hb_met (Qc := fun A => hb_Qi G r [(q, .inr (3, [.ref q_bars, .ref q_groups, .int f_size])), (q_bars, .inl (cI, 40, .inl f_bars)), (q_groups, .inl (cJ, 40, .inr (.inl f_groups)))] A) (cc := cX4_size) (maxL := 1) (ret := some .int) (by decide) rfl (Nat.le_of_ble_eq_true rfl) ?_
  intro p e s m below meth c A hx hb hr hts hown hlocks hml hin hK hA hP hD hS ls hl
  have hown : s.vm.findClass RX4 = some m.cls := hown
  have S0 : CallFix p m c cX4_size 1 s ([.ref q] : List Value).toArray wsX4_size RX4 := ⟨hx, hb, hml, hown, hts⟩
  have hl : lv_has ls 1 [(0, .ref q)] := hl
  suffices hh : ∀ (H : Heap) (locs : List Loc), va_P G vwCl [(q, .inr (3, [.ref q_bars, .ref q_groups, .int f_size])), (q_bars, .inl (cI, 40, .inl f_bars)), (q_groups, .inl (cJ, 40, .inr (.inl f_groups)))] H → va_D A [(q, .inr (3, [.ref q_bars, .ref q_groups, .int f_size])), (q_bars, .inl (cI, 40, .inl f_bars)), (q_groups, .inl (cJ, 40, .inr (.inl f_groups)))] → va_S A s.heap H locs → W p l e (headSpec wsX4_size { frames := 0, cells := 0, slots := 0, locals := 0 }).room s m ([.ref q] : List Value).toArray below meth c H locs 0 0 (MQ below (hb_Qi G r [(q, .inr (3, [.ref q_bars, .ref q_groups, .int f_size])), (q_bars, .inl (cI, 40, .inl f_bars)), (q_groups, .inl (cJ, 40, .inr (.inl f_groups)))] A) ([.ref q] : List Value).toArray s 0 0 A) (F0 m 0 ls []) from hh s.heap [] hP hD hS
  intro H locs hP hD hS
  unfold p_X4_size at h
  refine lv_aload_n hx hb dX4_size_0 rfl (lv_at hl 0 rfl) ?_
  refine va_get (D := G) (ci := 3) (v := .int f_size) (C := RX4) (T := TX4) (N := 3) hx hb hts in_X4_size_X4 hown hK.1 hP 0 rfl rfl 2 (by decide) (hts (.fieldLink RX4 19 "FieldsByClasses$Shelf" "size" "I") (by decide +kernel)) (fun _ h9 => h9) rfl dX4_size_1 ?_
  cases h
  exact hb_iret hx hb hr hlocks hP hD hS dX4_size_4
-- X4_holds
def p_X4_holds (f_size : Int32) (y1 : Int32) : Option Int32 :=
  (if y1 < 0 then some (0 : Int32) else (if f_size ≤ y1 then some (0 : Int32) else (if (40 : Int32) ≤ y1 then some (0 : Int32) else some (1 : Int32))))
theorem in_X4_holds_X4 : ∀ w ∈ u_ws RX4 TX4 3, w ∈ wsX4_holds := fun w h => List.mem_cons_of_mem _ (List.mem_append_right _ h)
theorem kv_X4_holds : yX4_holds.cls = RX4 ∧ yX4_holds.cls ≠ "java/lang/invoke/MethodHandle" ∧ yX4_holds.cls ≠ "java/lang/invoke/VarHandle" ∧ (parseMethodDescriptor yX4_holds.desc).map (fun d => d.parameters.length) = some 1 := by decide +kernel
set_option maxHeartbeats 4000000 in
set_option maxRecDepth 100000 in
theorem c_X4_holds (l : Launch) (G : va_G) (cI cJ cZ cS : ClassId) (q q_bars q_groups : Nat) (sz : Nat) (f_bars : (Nat → Int32)) (f_groups : (Nat → Int64)) (f_size : Int32) (y1 : Int32) (r : Int32) (h : p_X4_holds f_size y1 = some r) : Met l yX4_holds wsX4_holds { frames := 0, cells := 0, slots := 0, locals := 0 } (hb_pre G (hbT cI cJ cZ cS) [.ref q, .int y1] sz [(q, .inr (3, [.ref q_bars, .ref q_groups, .int f_size])), (q_bars, .inl (cI, 40, .inl f_bars)), (q_groups, .inl (cJ, 40, .inr (.inl f_groups)))]) (hb_Qi G r [(q, .inr (3, [.ref q_bars, .ref q_groups, .int f_size])), (q_bars, .inl (cI, 40, .inl f_bars)), (q_groups, .inl (cJ, 40, .inr (.inl f_groups)))] (va_A [(q, .inr (3, [.ref q_bars, .ref q_groups, .int f_size])), (q_bars, .inl (cI, 40, .inl f_bars)), (q_groups, .inl (cJ, 40, .inr (.inl f_groups)))] sz)) 0 0 (va_A [(q, .inr (3, [.ref q_bars, .ref q_groups, .int f_size])), (q_bars, .inl (cI, 40, .inl f_bars)), (q_groups, .inl (cJ, 40, .inr (.inl f_groups)))] sz) := by
  refine hb_met (Qc := fun A => hb_Qi G r [(q, .inr (3, [.ref q_bars, .ref q_groups, .int f_size])), (q_bars, .inl (cI, 40, .inl f_bars)), (q_groups, .inl (cJ, 40, .inr (.inl f_groups)))] A) (cc := cX4_holds) (maxL := 2) (ret := some .boolean) (by decide) rfl (Nat.le_of_ble_eq_true rfl) ?_
  intro p e s m below meth c A hx hb hr hts hown hlocks hml hin hK hA hP hD hS ls hl
  have hown : s.vm.findClass RX4 = some m.cls := hown
  have S0 : CallFix p m c cX4_holds 2 s ([.ref q, .int y1] : List Value).toArray wsX4_holds RX4 := ⟨hx, hb, hml, hown, hts⟩
  have hl : lv_has ls 2 [(0, .ref q), (1, .int y1)] := hl
  suffices hh : ∀ (H : Heap) (locs : List Loc), va_P G vwCl [(q, .inr (3, [.ref q_bars, .ref q_groups, .int f_size])), (q_bars, .inl (cI, 40, .inl f_bars)), (q_groups, .inl (cJ, 40, .inr (.inl f_groups)))] H → va_D A [(q, .inr (3, [.ref q_bars, .ref q_groups, .int f_size])), (q_bars, .inl (cI, 40, .inl f_bars)), (q_groups, .inl (cJ, 40, .inr (.inl f_groups)))] → va_S A s.heap H locs → W p l e (headSpec wsX4_holds { frames := 0, cells := 0, slots := 0, locals := 0 }).room s m ([.ref q, .int y1] : List Value).toArray below meth c H locs 0 0 (MQ below (hb_Qi G r [(q, .inr (3, [.ref q_bars, .ref q_groups, .int f_size])), (q_bars, .inl (cI, 40, .inl f_bars)), (q_groups, .inl (cJ, 40, .inr (.inl f_groups)))] A) ([.ref q, .int y1] : List Value).toArray s 0 0 A) (F0 m 0 ls []) from hh s.heap [] hP hD hS
  intro H locs hP hD hS
  unfold p_X4_holds at h
  refine lv_iload_n hx hb dX4_holds_0 rfl (lv_at hl 1 rfl) ?_
  refine lv_if_lt (tgt := 22) hx hb dX4_holds_1 (by decide) (fun c1 => ?_) (fun c1 => ?_)
  · have h := pf_pos h c1
    refine lv_iconst (v := 0) hx hb dX4_holds_22 (by decide) ?_
    cases h
    exact hb_zret hx hb hr hlocks pf_b0 hP hD hS dX4_holds_23
  · have h := pf_neg h c1
    refine lv_iload_n hx hb dX4_holds_4 rfl (lv_at hl 1 rfl) ?_
    refine lv_aload_n hx hb dX4_holds_5 rfl (lv_at hl 0 rfl) ?_
    refine va_get (D := G) (ci := 3) (v := .int f_size) (C := RX4) (T := TX4) (N := 3) hx hb hts in_X4_holds_X4 hown hK.1 hP 0 rfl rfl 2 (by decide) (hts (.fieldLink RX4 19 "FieldsByClasses$Shelf" "size" "I") (by decide +kernel)) (fun _ h9 => h9) rfl dX4_holds_6 ?_
    refine lv_icmp_ge (tgt := 22) hx hb dX4_holds_9 (by decide) (fun c9 => ?_) (fun c9 => ?_)
    · have h := pf_pos h c9
      refine lv_iconst (v := 0) hx hb dX4_holds_22 (by decide) ?_
      cases h
      exact hb_zret hx hb hr hlocks pf_b0 hP hD hS dX4_holds_23
    · have h := pf_neg h c9
      refine lv_iload_n hx hb dX4_holds_12 rfl (lv_at hl 1 rfl) ?_
      refine lv_bipush (v := 40) hx hb dX4_holds_13 (by decide) ?_
      refine lv_icmp_ge (tgt := 22) hx hb dX4_holds_15 (by decide) (fun c15 => ?_) (fun c15 => ?_)
      · have h := pf_pos h c15
        refine lv_iconst (v := 0) hx hb dX4_holds_22 (by decide) ?_
        cases h
        exact hb_zret hx hb hr hlocks pf_b0 hP hD hS dX4_holds_23
      · have h := pf_neg h c15
        refine lv_iconst (v := 1) hx hb dX4_holds_18 (by decide) ?_
        refine lv_goto (tgt := 23) hx hb dX4_holds_19 (by decide) ?_
        cases h
        exact hb_zret hx hb hr hlocks pf_b1 hP hD hS dX4_holds_23
-- X4_barOf
def p_X4_barOf (f_bars : (Nat → Int32)) (f_size : Int32) (y1 : Int32) : Option Int32 :=
  ((p_X4_holds f_size y1).bind fun v2 => (if v2 = 0 then some (-1 : Int32) else (if ainB y1 40 = true then some (f_bars (y1).toNatClampNeg) else none)))
theorem in_X4_barOf_X4 : ∀ w ∈ u_ws RX4 TX4 3, w ∈ wsX4_barOf := fun w h => List.mem_cons_of_mem _ (List.mem_append_right _ h)
theorem kv_X4_barOf : yX4_barOf.cls = RX4 ∧ yX4_barOf.cls ≠ "java/lang/invoke/MethodHandle" ∧ yX4_barOf.cls ≠ "java/lang/invoke/VarHandle" ∧ (parseMethodDescriptor yX4_barOf.desc).map (fun d => d.parameters.length) = some 1 := by decide +kernel
set_option maxHeartbeats 4000000 in
set_option maxRecDepth 100000 in
theorem c_X4_barOf (l : Launch) (G : va_G) (cI cJ cZ cS : ClassId) (q q_bars q_groups : Nat) (sz : Nat) (f_bars : (Nat → Int32)) (f_groups : (Nat → Int64)) (f_size : Int32) (y1 : Int32) (r : Int32) (h : p_X4_barOf f_bars f_size y1 = some r) : Met l yX4_barOf wsX4_barOf { frames := 1, cells := 0, slots := 0, locals := 21 } (hb_pre G (hbT cI cJ cZ cS) [.ref q, .int y1] sz [(q, .inr (3, [.ref q_bars, .ref q_groups, .int f_size])), (q_bars, .inl (cI, 40, .inl f_bars)), (q_groups, .inl (cJ, 40, .inr (.inl f_groups)))]) (hb_Qi G r [(q, .inr (3, [.ref q_bars, .ref q_groups, .int f_size])), (q_bars, .inl (cI, 40, .inl f_bars)), (q_groups, .inl (cJ, 40, .inr (.inl f_groups)))] (va_A [(q, .inr (3, [.ref q_bars, .ref q_groups, .int f_size])), (q_bars, .inl (cI, 40, .inl f_bars)), (q_groups, .inl (cJ, 40, .inr (.inl f_groups)))] sz)) 0 0 (va_A [(q, .inr (3, [.ref q_bars, .ref q_groups, .int f_size])), (q_bars, .inl (cI, 40, .inl f_bars)), (q_groups, .inl (cJ, 40, .inr (.inl f_groups)))] sz) := by
  refine hb_met (Qc := fun A => hb_Qi G r [(q, .inr (3, [.ref q_bars, .ref q_groups, .int f_size])), (q_bars, .inl (cI, 40, .inl f_bars)), (q_groups, .inl (cJ, 40, .inr (.inl f_groups)))] A) (cc := cX4_barOf) (maxL := 2) (ret := some .int) (by decide) rfl (Nat.le_of_ble_eq_true rfl) ?_
  intro p e s m below meth c A hx hb hr hts hown hlocks hml hin hK hA hP hD hS ls hl
  have hown : s.vm.findClass RX4 = some m.cls := hown
  have S0 : CallFix p m c cX4_barOf 2 s ([.ref q, .int y1] : List Value).toArray wsX4_barOf RX4 := ⟨hx, hb, hml, hown, hts⟩
  have hl : lv_has ls 2 [(0, .ref q), (1, .int y1)] := hl
  suffices hh : ∀ (H : Heap) (locs : List Loc), va_P G vwCl [(q, .inr (3, [.ref q_bars, .ref q_groups, .int f_size])), (q_bars, .inl (cI, 40, .inl f_bars)), (q_groups, .inl (cJ, 40, .inr (.inl f_groups)))] H → va_D A [(q, .inr (3, [.ref q_bars, .ref q_groups, .int f_size])), (q_bars, .inl (cI, 40, .inl f_bars)), (q_groups, .inl (cJ, 40, .inr (.inl f_groups)))] → va_S A s.heap H locs → W p l e (headSpec wsX4_barOf { frames := 1, cells := 0, slots := 0, locals := 21 }).room s m ([.ref q, .int y1] : List Value).toArray below meth c H locs 0 0 (MQ below (hb_Qi G r [(q, .inr (3, [.ref q_bars, .ref q_groups, .int f_size])), (q_bars, .inl (cI, 40, .inl f_bars)), (q_groups, .inl (cJ, 40, .inr (.inl f_groups)))] A) ([.ref q, .int y1] : List Value).toArray s 0 0 A) (F0 m 0 ls []) from hh s.heap [] hP hD hS
  intro H locs hP hD hS
  unfold p_X4_barOf at h
  refine lv_aload_n hx hb dX4_barOf_0 rfl (lv_at hl 0 rfl) ?_
  refine lv_iload_n hx hb dX4_barOf_1 rfl (lv_at hl 1 rfl) ?_
  obtain ⟨v2, hv2, h⟩ := pf_bind h
  refine hb_calli (hb_runV (G := G) (T := hbT cI cJ cZ cS) (As := [.int y1]) (rest := []) S0 (c_X4_holds l G cI cJ cZ cS q q_bars q_groups H.size f_bars f_groups f_size y1 v2 hv2) (cwV 1 hts gX4_barOf_X4_holds rfl rfl rfl kv_X4_holds ⟨Nat.le_of_ble_eq_true rfl, Nat.le_of_ble_eq_true rfl⟩) hK (hP.sub [0, 1, 2] rfl) (hD.sub [0, 1, 2] (by decide) rfl) rfl rfl rfl hl.1 rfl (Nat.le_of_ble_eq_true rfl) dX4_barOf_2 ⟨Nat.zero_le _, Nat.zero_le _⟩) hP hD hS hA [0, 1, 2] [] [0, 1, 2] rfl (wr := []) rfl (by decide) (by decide) (w2 := [(q, .inr (3, [.ref q_bars, .ref q_groups, .int f_size])), (q_bars, .inl (cI, 40, .inl f_bars)), (q_groups, .inl (cJ, 40, .inr (.inl f_groups)))]) (by decide) rfl rfl (fun H locs hP hD hS => ?_)
  refine lv_if_eq (tgt := 17) hx hb dX4_barOf_5 (by decide) (fun c5 => ?_) (fun c5 => ?_)
  · have h := pf_pos h c5
    refine lv_iconst (v := -1) hx hb dX4_barOf_17 (by decide) ?_
    cases h
    exact hb_iret hx hb hr hlocks hP hD hS dX4_barOf_18
  · have h := pf_neg h c5
    refine lv_aload_n hx hb dX4_barOf_8 rfl (lv_at hl 0 rfl) ?_
    refine va_get (D := G) (ci := 3) (v := .ref q_bars) (C := RX4) (T := TX4) (N := 3) hx hb hts in_X4_barOf_X4 hown hK.1 hP 0 rfl rfl 0 (by decide) (hts (.fieldLink RX4 9 "FieldsByClasses$Shelf" "bars" "[I") (by decide +kernel)) (fun _ h9 => h9) rfl dX4_barOf_9 ?_
    refine lv_iload_n hx hb dX4_barOf_12 rfl (lv_at hl 1 rfl) ?_
    obtain ⟨hi13, h⟩ := pf_need h
    refine va_iald hx hb hK.1 hP 1 0 rfl rfl (ain_of hi13) dX4_barOf_13 ?_
    refine lv_goto (tgt := 18) hx hb dX4_barOf_14 (by decide) ?_
    cases h
    exact hb_iret hx hb hr hlocks hP hD hS dX4_barOf_18
-- X4_bitsOf
def p_X4_bitsOf (f_groups : (Nat → Int64)) (f_size : Int32) (y1 : Int32) : Option Int64 :=
  ((p_X4_holds f_size y1).bind fun v2 => (if v2 = 0 then some (0 : Int64) else (if ainB y1 40 = true then some (f_groups (y1).toNatClampNeg) else none)))
theorem in_X4_bitsOf_X4 : ∀ w ∈ u_ws RX4 TX4 3, w ∈ wsX4_bitsOf := fun w h => List.mem_cons_of_mem _ (List.mem_append_right _ h)
theorem kv_X4_bitsOf : yX4_bitsOf.cls = RX4 ∧ yX4_bitsOf.cls ≠ "java/lang/invoke/MethodHandle" ∧ yX4_bitsOf.cls ≠ "java/lang/invoke/VarHandle" ∧ (parseMethodDescriptor yX4_bitsOf.desc).map (fun d => d.parameters.length) = some 1 := by decide +kernel
set_option maxHeartbeats 4000000 in
set_option maxRecDepth 100000 in
theorem c_X4_bitsOf (l : Launch) (G : va_G) (cI cJ cZ cS : ClassId) (q q_bars q_groups : Nat) (sz : Nat) (f_bars : (Nat → Int32)) (f_groups : (Nat → Int64)) (f_size : Int32) (y1 : Int32) (r : Int64) (h : p_X4_bitsOf f_groups f_size y1 = some r) : Met l yX4_bitsOf wsX4_bitsOf { frames := 1, cells := 0, slots := 0, locals := 21 } (hb_pre G (hbT cI cJ cZ cS) [.ref q, .int y1] sz [(q, .inr (3, [.ref q_bars, .ref q_groups, .int f_size])), (q_bars, .inl (cI, 40, .inl f_bars)), (q_groups, .inl (cJ, 40, .inr (.inl f_groups)))]) (hb_Ql G r [(q, .inr (3, [.ref q_bars, .ref q_groups, .int f_size])), (q_bars, .inl (cI, 40, .inl f_bars)), (q_groups, .inl (cJ, 40, .inr (.inl f_groups)))] (va_A [(q, .inr (3, [.ref q_bars, .ref q_groups, .int f_size])), (q_bars, .inl (cI, 40, .inl f_bars)), (q_groups, .inl (cJ, 40, .inr (.inl f_groups)))] sz)) 0 0 (va_A [(q, .inr (3, [.ref q_bars, .ref q_groups, .int f_size])), (q_bars, .inl (cI, 40, .inl f_bars)), (q_groups, .inl (cJ, 40, .inr (.inl f_groups)))] sz) := by
  refine hb_met (Qc := fun A => hb_Ql G r [(q, .inr (3, [.ref q_bars, .ref q_groups, .int f_size])), (q_bars, .inl (cI, 40, .inl f_bars)), (q_groups, .inl (cJ, 40, .inr (.inl f_groups)))] A) (cc := cX4_bitsOf) (maxL := 2) (ret := some .long) (by decide) rfl (Nat.le_of_ble_eq_true rfl) ?_
  intro p e s m below meth c A hx hb hr hts hown hlocks hml hin hK hA hP hD hS ls hl
  have hown : s.vm.findClass RX4 = some m.cls := hown
  have S0 : CallFix p m c cX4_bitsOf 2 s ([.ref q, .int y1] : List Value).toArray wsX4_bitsOf RX4 := ⟨hx, hb, hml, hown, hts⟩
  have hl : lv_has ls 2 [(0, .ref q), (1, .int y1)] := hl
  suffices hh : ∀ (H : Heap) (locs : List Loc), va_P G vwCl [(q, .inr (3, [.ref q_bars, .ref q_groups, .int f_size])), (q_bars, .inl (cI, 40, .inl f_bars)), (q_groups, .inl (cJ, 40, .inr (.inl f_groups)))] H → va_D A [(q, .inr (3, [.ref q_bars, .ref q_groups, .int f_size])), (q_bars, .inl (cI, 40, .inl f_bars)), (q_groups, .inl (cJ, 40, .inr (.inl f_groups)))] → va_S A s.heap H locs → W p l e (headSpec wsX4_bitsOf { frames := 1, cells := 0, slots := 0, locals := 21 }).room s m ([.ref q, .int y1] : List Value).toArray below meth c H locs 0 0 (MQ below (hb_Ql G r [(q, .inr (3, [.ref q_bars, .ref q_groups, .int f_size])), (q_bars, .inl (cI, 40, .inl f_bars)), (q_groups, .inl (cJ, 40, .inr (.inl f_groups)))] A) ([.ref q, .int y1] : List Value).toArray s 0 0 A) (F0 m 0 ls []) from hh s.heap [] hP hD hS
  intro H locs hP hD hS
  unfold p_X4_bitsOf at h
  refine lv_aload_n hx hb dX4_bitsOf_0 rfl (lv_at hl 0 rfl) ?_
  refine lv_iload_n hx hb dX4_bitsOf_1 rfl (lv_at hl 1 rfl) ?_
  obtain ⟨v2, hv2, h⟩ := pf_bind h
  refine hb_calli (hb_runV (G := G) (T := hbT cI cJ cZ cS) (As := [.int y1]) (rest := []) S0 (c_X4_holds l G cI cJ cZ cS q q_bars q_groups H.size f_bars f_groups f_size y1 v2 hv2) (cwV 1 hts gX4_bitsOf_X4_holds rfl rfl rfl kv_X4_holds ⟨Nat.le_of_ble_eq_true rfl, Nat.le_of_ble_eq_true rfl⟩) hK (hP.sub [0, 1, 2] rfl) (hD.sub [0, 1, 2] (by decide) rfl) rfl rfl rfl hl.1 rfl (Nat.le_of_ble_eq_true rfl) dX4_bitsOf_2 ⟨Nat.zero_le _, Nat.zero_le _⟩) hP hD hS hA [0, 1, 2] [] [0, 1, 2] rfl (wr := []) rfl (by decide) (by decide) (w2 := [(q, .inr (3, [.ref q_bars, .ref q_groups, .int f_size])), (q_bars, .inl (cI, 40, .inl f_bars)), (q_groups, .inl (cJ, 40, .inr (.inl f_groups)))]) (by decide) rfl rfl (fun H locs hP hD hS => ?_)
  refine lv_if_eq (tgt := 17) hx hb dX4_bitsOf_5 (by decide) (fun c5 => ?_) (fun c5 => ?_)
  · have h := pf_pos h c5
    refine lv_lconst (v := 0) hx hb dX4_bitsOf_17 (by decide) ?_
    cases h
    exact hb_lret hx hb hr hlocks hP hD hS dX4_bitsOf_18
  · have h := pf_neg h c5
    refine lv_aload_n hx hb dX4_bitsOf_8 rfl (lv_at hl 0 rfl) ?_
    refine va_get (D := G) (ci := 3) (v := .ref q_groups) (C := RX4) (T := TX4) (N := 3) hx hb hts in_X4_bitsOf_X4 hown hK.1 hP 0 rfl rfl 1 (by decide) (hts (.fieldLink RX4 15 "FieldsByClasses$Shelf" "groups" "[J") (by decide +kernel)) (fun _ h9 => h9) rfl dX4_bitsOf_9 ?_
    refine lv_iload_n hx hb dX4_bitsOf_12 rfl (lv_at hl 1 rfl) ?_
    obtain ⟨hi13, h⟩ := pf_need h
    refine va_lald hx hb hK.1 hP 2 1 rfl rfl (ain_of hi13) dX4_bitsOf_13 ?_
    refine lv_goto (tgt := 18) hx hb dX4_bitsOf_14 (by decide) ?_
    cases h
    exact hb_lret hx hb hr hlocks hP hD hS dX4_bitsOf_18
-- X4_bitsBy
def p_X4_bitsBy (f_bars : (Nat → Int32)) (f_groups : (Nat → Int64)) (f_size : Int32) (y1 : Int32) (y2 : Int32) : Option Int64 :=
  ((p_X4_bitsOf f_groups f_size y1).bind fun v2 => ((p_X4_barOf f_bars f_size y1).bind fun v7 => ((p_X3_lifted v2 v7 y2).bind fun v11 => some v11)))
theorem kv_X4_bitsBy : yX4_bitsBy.cls = RX4 ∧ yX4_bitsBy.cls ≠ "java/lang/invoke/MethodHandle" ∧ yX4_bitsBy.cls ≠ "java/lang/invoke/VarHandle" ∧ (parseMethodDescriptor yX4_bitsBy.desc).map (fun d => d.parameters.length) = some 2 := by decide +kernel
set_option maxHeartbeats 4000000 in
set_option maxRecDepth 100000 in
theorem c_X4_bitsBy (l : Launch) (G : va_G) (cI cJ cZ cS : ClassId) (q q_bars q_groups : Nat) (sz : Nat) (f_bars : (Nat → Int32)) (f_groups : (Nat → Int64)) (f_size : Int32) (y1 : Int32) (y2 : Int32) (r : Int64) (h : p_X4_bitsBy f_bars f_groups f_size y1 y2 = some r) : Met l yX4_bitsBy wsX4_bitsBy { frames := 3, cells := 0, slots := 0, locals := 76 } (hb_pre G (hbT cI cJ cZ cS) [.ref q, .int y1, .int y2] sz [(q, .inr (3, [.ref q_bars, .ref q_groups, .int f_size])), (q_bars, .inl (cI, 40, .inl f_bars)), (q_groups, .inl (cJ, 40, .inr (.inl f_groups)))]) (hb_Ql G r [(q, .inr (3, [.ref q_bars, .ref q_groups, .int f_size])), (q_bars, .inl (cI, 40, .inl f_bars)), (q_groups, .inl (cJ, 40, .inr (.inl f_groups)))] (va_A [(q, .inr (3, [.ref q_bars, .ref q_groups, .int f_size])), (q_bars, .inl (cI, 40, .inl f_bars)), (q_groups, .inl (cJ, 40, .inr (.inl f_groups)))] sz)) 0 0 (va_A [(q, .inr (3, [.ref q_bars, .ref q_groups, .int f_size])), (q_bars, .inl (cI, 40, .inl f_bars)), (q_groups, .inl (cJ, 40, .inr (.inl f_groups)))] sz) := by
  refine hb_met (Qc := fun A => hb_Ql G r [(q, .inr (3, [.ref q_bars, .ref q_groups, .int f_size])), (q_bars, .inl (cI, 40, .inl f_bars)), (q_groups, .inl (cJ, 40, .inr (.inl f_groups)))] A) (cc := cX4_bitsBy) (maxL := 3) (ret := some .long) (by decide) rfl (Nat.le_of_ble_eq_true rfl) ?_
  intro p e s m below meth c A hx hb hr hts hown hlocks hml hin hK hA hP hD hS ls hl
  have hown : s.vm.findClass RX4 = some m.cls := hown
  have S0 : CallFix p m c cX4_bitsBy 3 s ([.ref q, .int y1, .int y2] : List Value).toArray wsX4_bitsBy RX4 := ⟨hx, hb, hml, hown, hts⟩
  have hl : lv_has ls 3 [(0, .ref q), (1, .int y1), (2, .int y2)] := hl
  suffices hh : ∀ (H : Heap) (locs : List Loc), va_P G vwCl [(q, .inr (3, [.ref q_bars, .ref q_groups, .int f_size])), (q_bars, .inl (cI, 40, .inl f_bars)), (q_groups, .inl (cJ, 40, .inr (.inl f_groups)))] H → va_D A [(q, .inr (3, [.ref q_bars, .ref q_groups, .int f_size])), (q_bars, .inl (cI, 40, .inl f_bars)), (q_groups, .inl (cJ, 40, .inr (.inl f_groups)))] → va_S A s.heap H locs → W p l e (headSpec wsX4_bitsBy { frames := 3, cells := 0, slots := 0, locals := 76 }).room s m ([.ref q, .int y1, .int y2] : List Value).toArray below meth c H locs 0 0 (MQ below (hb_Ql G r [(q, .inr (3, [.ref q_bars, .ref q_groups, .int f_size])), (q_bars, .inl (cI, 40, .inl f_bars)), (q_groups, .inl (cJ, 40, .inr (.inl f_groups)))] A) ([.ref q, .int y1, .int y2] : List Value).toArray s 0 0 A) (F0 m 0 ls []) from hh s.heap [] hP hD hS
  intro H locs hP hD hS
  unfold p_X4_bitsBy at h
  refine lv_aload_n hx hb dX4_bitsBy_0 rfl (lv_at hl 0 rfl) ?_
  refine lv_iload_n hx hb dX4_bitsBy_1 rfl (lv_at hl 1 rfl) ?_
  obtain ⟨v2, hv2, h⟩ := pf_bind h
  refine hb_calll (hb_runV (G := G) (T := hbT cI cJ cZ cS) (As := [.int y1]) (rest := []) S0 (c_X4_bitsOf l G cI cJ cZ cS q q_bars q_groups H.size f_bars f_groups f_size y1 v2 hv2) (cwV 1 hts gX4_bitsBy_X4_bitsOf rfl rfl rfl kv_X4_bitsOf ⟨Nat.le_of_ble_eq_true rfl, Nat.le_of_ble_eq_true rfl⟩) hK (hP.sub [0, 1, 2] rfl) (hD.sub [0, 1, 2] (by decide) rfl) rfl rfl rfl hl.1 rfl (Nat.le_of_ble_eq_true rfl) dX4_bitsBy_2 ⟨Nat.zero_le _, Nat.zero_le _⟩) hP hD hS hA [0, 1, 2] [] [0, 1, 2] rfl (wr := []) rfl (by decide) (by decide) (w2 := [(q, .inr (3, [.ref q_bars, .ref q_groups, .int f_size])), (q_bars, .inl (cI, 40, .inl f_bars)), (q_groups, .inl (cJ, 40, .inr (.inl f_groups)))]) (by decide) rfl rfl (fun H locs hP hD hS => ?_)
  refine lv_aload_n hx hb dX4_bitsBy_5 rfl (lv_at hl 0 rfl) ?_
  refine lv_iload_n hx hb dX4_bitsBy_6 rfl (lv_at hl 1 rfl) ?_
  obtain ⟨v7, hv7, h⟩ := pf_bind h
  refine hb_calli (hb_runV (G := G) (T := hbT cI cJ cZ cS) (As := [.int y1]) (rest := [.long v2]) S0 (c_X4_barOf l G cI cJ cZ cS q q_bars q_groups H.size f_bars f_groups f_size y1 v7 hv7) (cwV 1 hts gX4_bitsBy_X4_barOf rfl rfl rfl kv_X4_barOf ⟨Nat.le_of_ble_eq_true rfl, Nat.le_of_ble_eq_true rfl⟩) hK (hP.sub [0, 1, 2] rfl) (hD.sub [0, 1, 2] (by decide) rfl) rfl rfl rfl hl.1 rfl (Nat.le_of_ble_eq_true rfl) dX4_bitsBy_7 ⟨Nat.zero_le _, Nat.zero_le _⟩) hP hD hS hA [0, 1, 2] [] [0, 1, 2] rfl (wr := []) rfl (by decide) (by decide) (w2 := [(q, .inr (3, [.ref q_bars, .ref q_groups, .int f_size])), (q_bars, .inl (cI, 40, .inl f_bars)), (q_groups, .inl (cJ, 40, .inr (.inl f_groups)))]) (by decide) rfl rfl (fun H locs hP hD hS => ?_)
  refine lv_iload_n hx hb dX4_bitsBy_10 rfl (lv_at hl 2 rfl) ?_
  obtain ⟨v11, hv11, h⟩ := pf_bind h
  refine pf_call (As := [.long v2, .int v7, .int y2]) (rest := []) S0 (c_X3_lifted l v2 v7 y2 v11 hv11) (va_cwS 3 hts gX4_bitsBy_X3_lifted rfl rfl rfl kd_X3_lifted ⟨Nat.le_of_ble_eq_true rfl, Nat.le_of_ble_eq_true rfl⟩) rfl hl.1 rfl (Nat.le_of_ble_eq_true rfl) dX4_bitsBy_11 ⟨Nat.zero_le _, Nat.zero_le _⟩ ?_
  cases h
  exact hb_lret hx hb hr hlocks hP hD hS dX4_bitsBy_14
-- X4_put
def e_X4_put_51 (x1 : Int32) (x2 : Int64) (f_bars : (Nat → Int32)) (f_groups : (Nat → Int64)) (f_size : Int32) : Option (Int32 × (Nat → Int32) × (Nat → Int64) × Int32) :=
  (if f_size < 0 then some ((-1 : Int32), f_bars, f_groups, f_size) else (if f_size < (40 : Int32) then (if ainB f_size 40 = true then (if ainB f_size 40 = true then some (((f_size + (1 : Int32)) - (1 : Int32)), (upd f_bars (f_size).toNatClampNeg x1), (vp_updL f_groups (f_size).toNatClampNeg x2), (f_size + (1 : Int32))) else none) else none) else some ((-1 : Int32), f_bars, f_groups, f_size)))
def e_X4_put_42 (x4 : Int32) (f_bars : (Nat → Int32)) (f_groups : (Nat → Int64)) (f_size : Int32) : Option (Int32 × (Nat → Int32) × (Nat → Int64) × Int32) :=
  some (x4, f_bars, f_groups, f_size)
def s_X4_put_3 (x1 : Int32) (x2 : Int64) (x4 : Int32) (f_bars : (Nat → Int32)) (f_groups : (Nat → Int64)) (f_size : Int32) : Option (Int32 ⊕ (Int32 ⊕ Unit)) :=
  (if f_size ≤ x4 then some (Sum.inr (Sum.inr ())) else (if (40 : Int32) ≤ x4 then some (Sum.inr (Sum.inr ())) else (if ainB x4 40 = true then (if (f_bars (x4).toNatClampNeg) = x1 then (if ainB x4 40 = true then (if (f_groups (x4).toNatClampNeg) = x2 then some (Sum.inr (Sum.inl x4)) else some (Sum.inl (x4 + (1 : Int32)))) else none) else some (Sum.inl (x4 + (1 : Int32)))) else none)))
def a_X4_put_3 (x1 : Int32) (x2 : Int64) (f_bars : (Nat → Int32)) (f_groups : (Nat → Int64)) (f_size : Int32) (b : Int32 ⊕ Unit) : Option (Int32 × (Nat → Int32) × (Nat → Int64) × Int32) := Sum.elim (fun q : Int32 => e_X4_put_42 q f_bars f_groups f_size) (fun q : Unit => e_X4_put_51 x1 x2 f_bars f_groups f_size) b
def g_X4_put_3 (x1 : Int32) (x2 : Int64) (x4 : Int32) (f_bars : (Nat → Int32)) (f_groups : (Nat → Int64)) (f_size : Int32) : Option (Int32 × (Nat → Int32) × (Nat → Int64) × Int32) := (lpF (fun q : Int32 => s_X4_put_3 x1 x2 q f_bars f_groups f_size) pfFU x4).bind (a_X4_put_3 x1 x2 f_bars f_groups f_size)
def p_X4_put (f_bars : (Nat → Int32)) (f_groups : (Nat → Int64)) (f_size : Int32) (y1 : Int32) (y2 : Int64) : Option (Int32 × (Nat → Int32) × (Nat → Int64) × Int32) :=
  g_X4_put_3 y1 y2 (0 : Int32) f_bars f_groups f_size
theorem in_X4_put_X4 : ∀ w ∈ u_ws RX4 TX4 3, w ∈ wsX4_put := fun w h => List.mem_cons_of_mem _ (List.mem_append_right _ h)
theorem kv_X4_put : yX4_put.cls = RX4 ∧ yX4_put.cls ≠ "java/lang/invoke/MethodHandle" ∧ yX4_put.cls ≠ "java/lang/invoke/VarHandle" ∧ (parseMethodDescriptor yX4_put.desc).map (fun d => d.parameters.length) = some 2 := by decide +kernel
set_option maxHeartbeats 4000000 in
set_option maxRecDepth 100000 in
theorem c_X4_put (l : Launch) (G : va_G) (cI cJ cZ cS : ClassId) (q q_bars q_groups : Nat) (sz : Nat) (f_bars : (Nat → Int32)) (f_groups : (Nat → Int64)) (f_size : Int32) (y1 : Int32) (y2 : Int64) (r : (Int32 × (Nat → Int32) × (Nat → Int64) × Int32)) (h : p_X4_put f_bars f_groups f_size y1 y2 = some r) : Met l yX4_put wsX4_put { frames := 0, cells := 0, slots := 0, locals := 0 } (hb_pre G (hbT cI cJ cZ cS) [.ref q, .int y1, .long y2] sz [(q, .inr (3, [.ref q_bars, .ref q_groups, .int f_size])), (q_bars, .inl (cI, 40, .inl f_bars)), (q_groups, .inl (cJ, 40, .inr (.inl f_groups)))]) (hb_Qi G r.1 [(q, .inr (3, [.ref q_bars, .ref q_groups, .int r.2.2.2])), (q_bars, .inl (cI, 40, .inl r.2.1)), (q_groups, .inl (cJ, 40, .inr (.inl r.2.2.1)))] (va_A [(q, .inr (3, [.ref q_bars, .ref q_groups, .int f_size])), (q_bars, .inl (cI, 40, .inl f_bars)), (q_groups, .inl (cJ, 40, .inr (.inl f_groups)))] sz)) 0 0 (va_A [(q, .inr (3, [.ref q_bars, .ref q_groups, .int f_size])), (q_bars, .inl (cI, 40, .inl f_bars)), (q_groups, .inl (cJ, 40, .inr (.inl f_groups)))] sz) := by
  refine hb_met (Qc := fun A => hb_Qi G r.1 [(q, .inr (3, [.ref q_bars, .ref q_groups, .int r.2.2.2])), (q_bars, .inl (cI, 40, .inl r.2.1)), (q_groups, .inl (cJ, 40, .inr (.inl r.2.2.1)))] A) (cc := cX4_put) (maxL := 5) (ret := some .int) (by decide) rfl (Nat.le_of_ble_eq_true rfl) ?_
  intro p e s m below meth c A hx hb hr hts hown hlocks hml hin hK hA hP hD hS ls hl
  have hown : s.vm.findClass RX4 = some m.cls := hown
  have S0 : CallFix p m c cX4_put 5 s ([.ref q, .int y1, .long y2] : List Value).toArray wsX4_put RX4 := ⟨hx, hb, hml, hown, hts⟩
  have hl : lv_has ls 5 [(0, .ref q), (1, .int y1), (2, .long y2)] := hl
  have K51 : ∀ (x1 : Int32) (x2 : Int64) (f_bars : (Nat → Int32)) (f_groups : (Nat → Int64)) (f_size : Int32), e_X4_put_51 x1 x2 f_bars f_groups f_size = some r → ∀ (H : Heap) (locs : List Loc), va_P G vwCl [(q, .inr (3, [.ref q_bars, .ref q_groups, .int f_size])), (q_bars, .inl (cI, 40, .inl f_bars)), (q_groups, .inl (cJ, 40, .inr (.inl f_groups)))] H → va_D A [(q, .inr (3, [.ref q_bars, .ref q_groups, .int f_size])), (q_bars, .inl (cI, 40, .inl f_bars)), (q_groups, .inl (cJ, 40, .inr (.inl f_groups)))] → va_S A s.heap H locs → ∀ ls, lv_has ls 5 [(0, .ref q), (1, .int x1), (2, .long x2)] → W p l e (headSpec wsX4_put { frames := 0, cells := 0, slots := 0, locals := 0 }).room s m ([.ref q, .int y1, .long y2] : List Value).toArray below meth c H locs 0 0 (MQ below (hb_Qi G r.1 [(q, .inr (3, [.ref q_bars, .ref q_groups, .int r.2.2.2])), (q_bars, .inl (cI, 40, .inl r.2.1)), (q_groups, .inl (cJ, 40, .inr (.inl r.2.2.1)))] A) ([.ref q, .int y1, .long y2] : List Value).toArray s 0 0 A) (F0 m 51 ls []) := by
    intro x1 x2 f_bars f_groups f_size h H locs hP hD hS ls hl
    unfold e_X4_put_51 at h
    refine lv_aload_n hx hb dX4_put_51 rfl (lv_at hl 0 rfl) ?_
    refine va_get (D := G) (ci := 3) (v := .int f_size) (C := RX4) (T := TX4) (N := 3) hx hb hts in_X4_put_X4 hown hK.1 hP 0 rfl rfl 2 (by decide) (hts (.fieldLink RX4 19 "FieldsByClasses$Shelf" "size" "I") (by decide +kernel)) (fun _ h9 => h9) rfl dX4_put_52 ?_
    refine lv_if_lt (tgt := 67) hx hb dX4_put_55 (by decide) (fun c55 => ?_) (fun c55 => ?_)
    · have h := pf_pos h c55
      refine lv_iconst (v := -1) hx hb dX4_put_67 (by decide) ?_
      cases h
      exact hb_iret hx hb hr hlocks hP hD hS dX4_put_68
    · have h := pf_neg h c55
      refine lv_aload_n hx hb dX4_put_58 rfl (lv_at hl 0 rfl) ?_
      refine va_get (D := G) (ci := 3) (v := .int f_size) (C := RX4) (T := TX4) (N := 3) hx hb hts in_X4_put_X4 hown hK.1 hP 0 rfl rfl 2 (by decide) (hts (.fieldLink RX4 19 "FieldsByClasses$Shelf" "size" "I") (by decide +kernel)) (fun _ h9 => h9) rfl dX4_put_59 ?_
      refine lv_bipush (v := 40) hx hb dX4_put_62 (by decide) ?_
      refine lv_icmp_lt (tgt := 69) hx hb dX4_put_64 (by decide) (fun c64 => ?_) (fun c64 => ?_)
      · have h := pf_pos h c64
        refine lv_aload_n hx hb dX4_put_69 rfl (lv_at hl 0 rfl) ?_
        refine va_get (D := G) (ci := 3) (v := .ref q_bars) (C := RX4) (T := TX4) (N := 3) hx hb hts in_X4_put_X4 hown hK.1 hP 0 rfl rfl 0 (by decide) (hts (.fieldLink RX4 9 "FieldsByClasses$Shelf" "bars" "[I") (by decide +kernel)) (fun _ h9 => h9) rfl dX4_put_70 ?_
        refine lv_aload_n hx hb dX4_put_73 rfl (lv_at hl 0 rfl) ?_
        refine va_get (D := G) (ci := 3) (v := .int f_size) (C := RX4) (T := TX4) (N := 3) hx hb hts in_X4_put_X4 hown hK.1 hP 0 rfl rfl 2 (by decide) (hts (.fieldLink RX4 19 "FieldsByClasses$Shelf" "size" "I") (by decide +kernel)) (fun _ h9 => h9) rfl dX4_put_74 ?_
        refine lv_iload_n hx hb dX4_put_77 rfl (lv_at hl 1 rfl) ?_
        obtain ⟨hi78, h⟩ := pf_need h
        refine va_iast hx hb hK.1 hP hD hS 1 0 rfl rfl (ain_of hi78) dX4_put_78 (fun H locs hP hD hS => ?_)
        have hP : va_P G vwCl [(q, .inr (3, [.ref q_bars, .ref q_groups, .int f_size])), (q_bars, .inl (cI, 40, .inl (upd f_bars (f_size).toNatClampNeg x1))), (q_groups, .inl (cJ, 40, .inr (.inl f_groups)))] H := hP
        have hD : va_D A [(q, .inr (3, [.ref q_bars, .ref q_groups, .int f_size])), (q_bars, .inl (cI, 40, .inl (upd f_bars (f_size).toNatClampNeg x1))), (q_groups, .inl (cJ, 40, .inr (.inl f_groups)))] := hD
        refine lv_aload_n hx hb dX4_put_79 rfl (lv_at hl 0 rfl) ?_
        refine va_get (D := G) (ci := 3) (v := .ref q_groups) (C := RX4) (T := TX4) (N := 3) hx hb hts in_X4_put_X4 hown hK.1 hP 0 rfl rfl 1 (by decide) (hts (.fieldLink RX4 15 "FieldsByClasses$Shelf" "groups" "[J") (by decide +kernel)) (fun _ h9 => h9) rfl dX4_put_80 ?_
        refine lv_aload_n hx hb dX4_put_83 rfl (lv_at hl 0 rfl) ?_
        refine va_get (D := G) (ci := 3) (v := .int f_size) (C := RX4) (T := TX4) (N := 3) hx hb hts in_X4_put_X4 hown hK.1 hP 0 rfl rfl 2 (by decide) (hts (.fieldLink RX4 19 "FieldsByClasses$Shelf" "size" "I") (by decide +kernel)) (fun _ h9 => h9) rfl dX4_put_84 ?_
        refine lv_lload_n hx hb dX4_put_87 rfl (lv_at hl 2 rfl) ?_
        obtain ⟨hi88, h⟩ := pf_need h
        refine va_last hx hb hK.1 hP hD hS 2 1 rfl rfl (ain_of hi88) dX4_put_88 (fun H locs hP hD hS => ?_)
        have hP : va_P G vwCl [(q, .inr (3, [.ref q_bars, .ref q_groups, .int f_size])), (q_bars, .inl (cI, 40, .inl (upd f_bars (f_size).toNatClampNeg x1))), (q_groups, .inl (cJ, 40, .inr (.inl (vp_updL f_groups (f_size).toNatClampNeg x2))))] H := hP
        have hD : va_D A [(q, .inr (3, [.ref q_bars, .ref q_groups, .int f_size])), (q_bars, .inl (cI, 40, .inl (upd f_bars (f_size).toNatClampNeg x1))), (q_groups, .inl (cJ, 40, .inr (.inl (vp_updL f_groups (f_size).toNatClampNeg x2))))] := hD
        refine lv_aload_n hx hb dX4_put_89 rfl (lv_at hl 0 rfl) ?_
        refine lv_dup hx hb dX4_put_90 rfl ?_
        refine va_get (D := G) (ci := 3) (v := .int f_size) (C := RX4) (T := TX4) (N := 3) hx hb hts in_X4_put_X4 hown hK.1 hP 0 rfl rfl 2 (by decide) (hts (.fieldLink RX4 19 "FieldsByClasses$Shelf" "size" "I") (by decide +kernel)) (fun _ h9 => h9) rfl dX4_put_91 ?_
        refine lv_iconst (v := 1) hx hb dX4_put_94 (by decide) ?_
        refine lv_iadd hx hb dX4_put_95 ?_
        refine va_put (D := G) (ci := 3) (v := .int (f_size + (1 : Int32))) (ty := .int) (C := RX4) (T := TX4) (N := 3) hx hb hts in_X4_put_X4 tyX4 tyX4_ok nmX4 hown hK.1 hP hD hS 0 rfl rfl 2 (by decide) (hts (.fieldLink RX4 19 "FieldsByClasses$Shelf" "size" "I") (by decide +kernel)) (fun _ h9 => h9) rfl (tyX4_ok 2 (by decide)) rfl rfl (Nat.le_of_ble_eq_true rfl) dX4_put_96 (fun H locs hP hD hS => ?_)
        have hP : va_P G vwCl [(q, .inr (3, [.ref q_bars, .ref q_groups, .int (f_size + (1 : Int32))])), (q_bars, .inl (cI, 40, .inl (upd f_bars (f_size).toNatClampNeg x1))), (q_groups, .inl (cJ, 40, .inr (.inl (vp_updL f_groups (f_size).toNatClampNeg x2))))] H := hP
        have hD : va_D A [(q, .inr (3, [.ref q_bars, .ref q_groups, .int (f_size + (1 : Int32))])), (q_bars, .inl (cI, 40, .inl (upd f_bars (f_size).toNatClampNeg x1))), (q_groups, .inl (cJ, 40, .inr (.inl (vp_updL f_groups (f_size).toNatClampNeg x2))))] := hD
        refine lv_aload_n hx hb dX4_put_99 rfl (lv_at hl 0 rfl) ?_
        refine va_get (D := G) (ci := 3) (v := .int (f_size + (1 : Int32))) (C := RX4) (T := TX4) (N := 3) hx hb hts in_X4_put_X4 hown hK.1 hP 0 rfl rfl 2 (by decide) (hts (.fieldLink RX4 19 "FieldsByClasses$Shelf" "size" "I") (by decide +kernel)) (fun _ h9 => h9) rfl dX4_put_100 ?_
        refine lv_iconst (v := 1) hx hb dX4_put_103 (by decide) ?_
        refine lv_isub hx hb dX4_put_104 ?_
        cases h
        exact hb_iret hx hb hr hlocks hP hD hS dX4_put_105
      · have h := pf_neg h c64
        refine lv_iconst (v := -1) hx hb dX4_put_67 (by decide) ?_
        cases h
        exact hb_iret hx hb hr hlocks hP hD hS dX4_put_68
  have K42 : ∀ (x4 : Int32) (f_bars : (Nat → Int32)) (f_groups : (Nat → Int64)) (f_size : Int32), e_X4_put_42 x4 f_bars f_groups f_size = some r → ∀ (H : Heap) (locs : List Loc), va_P G vwCl [(q, .inr (3, [.ref q_bars, .ref q_groups, .int f_size])), (q_bars, .inl (cI, 40, .inl f_bars)), (q_groups, .inl (cJ, 40, .inr (.inl f_groups)))] H → va_D A [(q, .inr (3, [.ref q_bars, .ref q_groups, .int f_size])), (q_bars, .inl (cI, 40, .inl f_bars)), (q_groups, .inl (cJ, 40, .inr (.inl f_groups)))] → va_S A s.heap H locs → ∀ ls, lv_has ls 5 [(4, .int x4)] → W p l e (headSpec wsX4_put { frames := 0, cells := 0, slots := 0, locals := 0 }).room s m ([.ref q, .int y1, .long y2] : List Value).toArray below meth c H locs 0 0 (MQ below (hb_Qi G r.1 [(q, .inr (3, [.ref q_bars, .ref q_groups, .int r.2.2.2])), (q_bars, .inl (cI, 40, .inl r.2.1)), (q_groups, .inl (cJ, 40, .inr (.inl r.2.2.1)))] A) ([.ref q, .int y1, .long y2] : List Value).toArray s 0 0 A) (F0 m 42 ls []) := by
    intro x4 f_bars f_groups f_size h H locs hP hD hS ls hl
    unfold e_X4_put_42 at h
    refine lv_iload hx hb dX4_put_42 (lv_at hl 0 rfl) ?_
    cases h
    exact hb_iret hx hb hr hlocks hP hD hS dX4_put_44
  have L3 : ∀ (n : Nat) (x1 : Int32) (x2 : Int64) (x4 : Int32) (f_bars : (Nat → Int32)) (f_groups : (Nat → Int64)) (f_size : Int32) (b : Int32 ⊕ Unit), lpF (fun q : Int32 => s_X4_put_3 x1 x2 q f_bars f_groups f_size) n x4 = some b → a_X4_put_3 x1 x2 f_bars f_groups f_size b = some r → ∀ (H : Heap) (locs : List Loc), va_P G vwCl [(q, .inr (3, [.ref q_bars, .ref q_groups, .int f_size])), (q_bars, .inl (cI, 40, .inl f_bars)), (q_groups, .inl (cJ, 40, .inr (.inl f_groups)))] H → va_D A [(q, .inr (3, [.ref q_bars, .ref q_groups, .int f_size])), (q_bars, .inl (cI, 40, .inl f_bars)), (q_groups, .inl (cJ, 40, .inr (.inl f_groups)))] → va_S A s.heap H locs → ∀ ls, lv_has ls 5 [(0, .ref q), (1, .int x1), (2, .long x2), (4, .int x4)] → W p l e (headSpec wsX4_put { frames := 0, cells := 0, slots := 0, locals := 0 }).room s m ([.ref q, .int y1, .long y2] : List Value).toArray below meth c H locs 0 0 (MQ below (hb_Qi G r.1 [(q, .inr (3, [.ref q_bars, .ref q_groups, .int r.2.2.2])), (q_bars, .inl (cI, 40, .inl r.2.1)), (q_groups, .inl (cJ, 40, .inr (.inl r.2.2.1)))] A) ([.ref q, .int y1, .long y2] : List Value).toArray s 0 0 A) (F0 m 3 ls []) := by
    intro n
    induction n with
    | zero => intro x1 x2 x4 f_bars f_groups f_size b h; exact lp_zero h
    | succ n ih =>
      intro x1 x2 x4 f_bars f_groups f_size b h ha H locs hP hD hS ls hl
      obtain ⟨z3, h, hz⟩ := lp_open h
      have h : s_X4_put_3 x1 x2 x4 f_bars f_groups f_size = some z3 := h
      unfold s_X4_put_3 at h
      refine lv_iload hx hb dX4_put_3 (lv_at hl 3 rfl) ?_
      refine lv_aload_n hx hb dX4_put_5 rfl (lv_at hl 0 rfl) ?_
      refine va_get (D := G) (ci := 3) (v := .int f_size) (C := RX4) (T := TX4) (N := 3) hx hb hts in_X4_put_X4 hown hK.1 hP 0 rfl rfl 2 (by decide) (hts (.fieldLink RX4 19 "FieldsByClasses$Shelf" "size" "I") (by decide +kernel)) (fun _ h9 => h9) rfl dX4_put_6 ?_
      refine lv_icmp_ge (tgt := 51) hx hb dX4_put_9 (by decide) (fun c9 => ?_) (fun c9 => ?_)
      · have h := pf_pos h c9
        have ha := pf_aft ha (lp_exit h hz)
        exact K51 x1 x2 f_bars f_groups f_size ha H locs hP hD hS ls (lv_sub hl [0, 1, 2] rfl)
      · have h := pf_neg h c9
        refine lv_iload hx hb dX4_put_12 (lv_at hl 3 rfl) ?_
        refine lv_bipush (v := 40) hx hb dX4_put_14 (by decide) ?_
        refine lv_icmp_ge (tgt := 51) hx hb dX4_put_16 (by decide) (fun c16 => ?_) (fun c16 => ?_)
        · have h := pf_pos h c16
          have ha := pf_aft ha (lp_exit h hz)
          exact K51 x1 x2 f_bars f_groups f_size ha H locs hP hD hS ls (lv_sub hl [0, 1, 2] rfl)
        · have h := pf_neg h c16
          refine lv_aload_n hx hb dX4_put_19 rfl (lv_at hl 0 rfl) ?_
          refine va_get (D := G) (ci := 3) (v := .ref q_bars) (C := RX4) (T := TX4) (N := 3) hx hb hts in_X4_put_X4 hown hK.1 hP 0 rfl rfl 0 (by decide) (hts (.fieldLink RX4 9 "FieldsByClasses$Shelf" "bars" "[I") (by decide +kernel)) (fun _ h9 => h9) rfl dX4_put_20 ?_
          refine lv_iload hx hb dX4_put_23 (lv_at hl 3 rfl) ?_
          obtain ⟨hi25, h⟩ := pf_need h
          refine va_iald hx hb hK.1 hP 1 0 rfl rfl (ain_of hi25) dX4_put_25 ?_
          refine lv_iload_n hx hb dX4_put_26 rfl (lv_at hl 1 rfl) ?_
          refine lv_icmp_ne (tgt := 45) hx hb dX4_put_27 (by decide) (fun c27 => ?_) (fun c27 => ?_)
          · have h := pf_neg h c27
            refine lv_iinc (v := (x4 + (1 : Int32))) (lv' := [(4, .int (x4 + (1 : Int32))), (0, .ref q), (1, .int x1), (2, .long x2)]) hx hb dX4_put_45 hl (k := 3) rfl rfl (by decide) rfl (fun ls hl => ?_)
            refine lv_goto (tgt := 3) hx hb dX4_put_48 (by decide) ?_
            exact ih x1 x2 (x4 + (1 : Int32)) f_bars f_groups f_size b (lp_cont h hz) ha H locs hP hD hS ls (lv_sub hl [1, 2, 3, 0] rfl)
          · have h := pf_pos h c27
            refine lv_aload_n hx hb dX4_put_30 rfl (lv_at hl 0 rfl) ?_
            refine va_get (D := G) (ci := 3) (v := .ref q_groups) (C := RX4) (T := TX4) (N := 3) hx hb hts in_X4_put_X4 hown hK.1 hP 0 rfl rfl 1 (by decide) (hts (.fieldLink RX4 15 "FieldsByClasses$Shelf" "groups" "[J") (by decide +kernel)) (fun _ h9 => h9) rfl dX4_put_31 ?_
            refine lv_iload hx hb dX4_put_34 (lv_at hl 3 rfl) ?_
            obtain ⟨hi36, h⟩ := pf_need h
            refine va_lald hx hb hK.1 hP 2 1 rfl rfl (ain_of hi36) dX4_put_36 ?_
            refine lv_lload_n hx hb dX4_put_37 rfl (lv_at hl 2 rfl) ?_
            refine W.lcmp hx hb dX4_put_38 ?_
            refine lv_if_ne (tgt := 45) hx hb dX4_put_39 (by decide) (fun c39 => ?_) (fun c39 => ?_)
            · have h := pf_neg h (fun q => c39 ((lg_cmp_eq _ _).mpr q))
              refine lv_iinc (v := (x4 + (1 : Int32))) (lv' := [(4, .int (x4 + (1 : Int32))), (0, .ref q), (1, .int x1), (2, .long x2)]) hx hb dX4_put_45 hl (k := 3) rfl rfl (by decide) rfl (fun ls hl => ?_)
              refine lv_goto (tgt := 3) hx hb dX4_put_48 (by decide) ?_
              exact ih x1 x2 (x4 + (1 : Int32)) f_bars f_groups f_size b (lp_cont h hz) ha H locs hP hD hS ls (lv_sub hl [1, 2, 3, 0] rfl)
            · have h := pf_pos h ((lg_cmp_eq _ _).mp c39)
              have ha := pf_aft ha (lp_exit h hz)
              exact K42 x4 f_bars f_groups f_size ha H locs hP hD hS ls (lv_sub hl [3] rfl)
  have G3 : ∀ (x1 : Int32) (x2 : Int64) (x4 : Int32) (f_bars : (Nat → Int32)) (f_groups : (Nat → Int64)) (f_size : Int32), g_X4_put_3 x1 x2 x4 f_bars f_groups f_size = some r → ∀ (H : Heap) (locs : List Loc), va_P G vwCl [(q, .inr (3, [.ref q_bars, .ref q_groups, .int f_size])), (q_bars, .inl (cI, 40, .inl f_bars)), (q_groups, .inl (cJ, 40, .inr (.inl f_groups)))] H → va_D A [(q, .inr (3, [.ref q_bars, .ref q_groups, .int f_size])), (q_bars, .inl (cI, 40, .inl f_bars)), (q_groups, .inl (cJ, 40, .inr (.inl f_groups)))] → va_S A s.heap H locs → ∀ ls, lv_has ls 5 [(0, .ref q), (1, .int x1), (2, .long x2), (4, .int x4)] → W p l e (headSpec wsX4_put { frames := 0, cells := 0, slots := 0, locals := 0 }).room s m ([.ref q, .int y1, .long y2] : List Value).toArray below meth c H locs 0 0 (MQ below (hb_Qi G r.1 [(q, .inr (3, [.ref q_bars, .ref q_groups, .int r.2.2.2])), (q_bars, .inl (cI, 40, .inl r.2.1)), (q_groups, .inl (cJ, 40, .inr (.inl r.2.2.1)))] A) ([.ref q, .int y1, .long y2] : List Value).toArray s 0 0 A) (F0 m 3 ls []) := by
    intro x1 x2 x4 f_bars f_groups f_size h
    unfold g_X4_put_3 at h
    obtain ⟨b, h, ha⟩ := pf_bind h
    exact L3 pfFU x1 x2 x4 f_bars f_groups f_size b h ha
  suffices hh : ∀ (H : Heap) (locs : List Loc), va_P G vwCl [(q, .inr (3, [.ref q_bars, .ref q_groups, .int f_size])), (q_bars, .inl (cI, 40, .inl f_bars)), (q_groups, .inl (cJ, 40, .inr (.inl f_groups)))] H → va_D A [(q, .inr (3, [.ref q_bars, .ref q_groups, .int f_size])), (q_bars, .inl (cI, 40, .inl f_bars)), (q_groups, .inl (cJ, 40, .inr (.inl f_groups)))] → va_S A s.heap H locs → W p l e (headSpec wsX4_put { frames := 0, cells := 0, slots := 0, locals := 0 }).room s m ([.ref q, .int y1, .long y2] : List Value).toArray below meth c H locs 0 0 (MQ below (hb_Qi G r.1 [(q, .inr (3, [.ref q_bars, .ref q_groups, .int r.2.2.2])), (q_bars, .inl (cI, 40, .inl r.2.1)), (q_groups, .inl (cJ, 40, .inr (.inl r.2.2.1)))] A) ([.ref q, .int y1, .long y2] : List Value).toArray s 0 0 A) (F0 m 0 ls []) from hh s.heap [] hP hD hS
  intro H locs hP hD hS
  unfold p_X4_put at h
  refine lv_iconst (v := 0) hx hb dX4_put_0 (by decide) ?_
  refine lv_istore (lv' := [(4, .int (0 : Int32)), (0, .ref q), (1, .int y1), (2, .long y2)]) hx hb dX4_put_1 hl (by decide) rfl (fun ls hl => ?_)
  exact G3 y1 y2 (0 : Int32) f_bars f_groups f_size h H locs hP hD hS ls (lv_sub hl [1, 2, 3, 0] rfl)
-- X4_greatestBar
def e_X4_greatestBar_35 (x1 : Int32) : Option Int32 :=
  some x1
def s_X4_greatestBar_4 (x1 : Int32) (x2 : Int32) (f_bars : (Nat → Int32)) (f_size : Int32) : Option ((Int32 × Int32) ⊕ (Int32)) :=
  (if f_size ≤ x2 then some (Sum.inr x1) else (if (40 : Int32) ≤ x2 then some (Sum.inr x1) else (if ainB x2 40 = true then ((some (if x1 < (f_bars (x2).toNatClampNeg) then (f_bars (x2).toNatClampNeg) else x1)).bind fun w28 => some (Sum.inl (w28, (x2 + (1 : Int32))))) else none)))
def a_X4_greatestBar_4  (b : Int32) : Option Int32 := (fun q : Int32 => e_X4_greatestBar_35 q) b
def g_X4_greatestBar_4 (x1 : Int32) (x2 : Int32) (f_bars : (Nat → Int32)) (f_size : Int32) : Option Int32 := (lpF (fun q : (Int32 × Int32) => s_X4_greatestBar_4 q.1 q.2 f_bars f_size) pfFU (x1, x2)).bind (a_X4_greatestBar_4 )
def p_X4_greatestBar (f_bars : (Nat → Int32)) (f_size : Int32)  : Option Int32 :=
  g_X4_greatestBar_4 (0 : Int32) (0 : Int32) f_bars f_size
theorem in_X4_greatestBar_X4 : ∀ w ∈ u_ws RX4 TX4 3, w ∈ wsX4_greatestBar := fun w h => List.mem_cons_of_mem _ (List.mem_append_right _ h)
theorem kv_X4_greatestBar : yX4_greatestBar.cls = RX4 ∧ yX4_greatestBar.cls ≠ "java/lang/invoke/MethodHandle" ∧ yX4_greatestBar.cls ≠ "java/lang/invoke/VarHandle" ∧ (parseMethodDescriptor yX4_greatestBar.desc).map (fun d => d.parameters.length) = some 0 := by decide +kernel
set_option maxHeartbeats 4000000 in
set_option maxRecDepth 100000 in
theorem c_X4_greatestBar (l : Launch) (G : va_G) (cI cJ cZ cS : ClassId) (q q_bars q_groups : Nat) (sz : Nat) (f_bars : (Nat → Int32)) (f_groups : (Nat → Int64)) (f_size : Int32)  (r : Int32) (h : p_X4_greatestBar f_bars f_size  = some r) : Met l yX4_greatestBar wsX4_greatestBar { frames := 1, cells := 0, slots := 0, locals := 21 } (hb_pre G (hbT cI cJ cZ cS) [.ref q] sz [(q, .inr (3, [.ref q_bars, .ref q_groups, .int f_size])), (q_bars, .inl (cI, 40, .inl f_bars)), (q_groups, .inl (cJ, 40, .inr (.inl f_groups)))]) (hb_Qi G r [(q, .inr (3, [.ref q_bars, .ref q_groups, .int f_size])), (q_bars, .inl (cI, 40, .inl f_bars)), (q_groups, .inl (cJ, 40, .inr (.inl f_groups)))] (va_A [(q, .inr (3, [.ref q_bars, .ref q_groups, .int f_size])), (q_bars, .inl (cI, 40, .inl f_bars)), (q_groups, .inl (cJ, 40, .inr (.inl f_groups)))] sz)) 0 0 (va_A [(q, .inr (3, [.ref q_bars, .ref q_groups, .int f_size])), (q_bars, .inl (cI, 40, .inl f_bars)), (q_groups, .inl (cJ, 40, .inr (.inl f_groups)))] sz) := by
  refine hb_met (Qc := fun A => hb_Qi G r [(q, .inr (3, [.ref q_bars, .ref q_groups, .int f_size])), (q_bars, .inl (cI, 40, .inl f_bars)), (q_groups, .inl (cJ, 40, .inr (.inl f_groups)))] A) (cc := cX4_greatestBar) (maxL := 3) (ret := some .int) (by decide) rfl (Nat.le_of_ble_eq_true rfl) ?_
  intro p e s m below meth c A hx hb hr hts hown hlocks hml hin hK hA hP hD hS ls hl
  have hown : s.vm.findClass RX4 = some m.cls := hown
  have S0 : CallFix p m c cX4_greatestBar 3 s ([.ref q] : List Value).toArray wsX4_greatestBar RX4 := ⟨hx, hb, hml, hown, hts⟩
  have hl : lv_has ls 3 [(0, .ref q)] := hl
  have K35 : ∀ (x1 : Int32), e_X4_greatestBar_35 x1 = some r → ∀ (H : Heap) (locs : List Loc), va_P G vwCl [(q, .inr (3, [.ref q_bars, .ref q_groups, .int f_size])), (q_bars, .inl (cI, 40, .inl f_bars)), (q_groups, .inl (cJ, 40, .inr (.inl f_groups)))] H → va_D A [(q, .inr (3, [.ref q_bars, .ref q_groups, .int f_size])), (q_bars, .inl (cI, 40, .inl f_bars)), (q_groups, .inl (cJ, 40, .inr (.inl f_groups)))] → va_S A s.heap H locs → ∀ ls, lv_has ls 3 [(1, .int x1)] → W p l e (headSpec wsX4_greatestBar { frames := 1, cells := 0, slots := 0, locals := 21 }).room s m ([.ref q] : List Value).toArray below meth c H locs 0 0 (MQ below (hb_Qi G r [(q, .inr (3, [.ref q_bars, .ref q_groups, .int f_size])), (q_bars, .inl (cI, 40, .inl f_bars)), (q_groups, .inl (cJ, 40, .inr (.inl f_groups)))] A) ([.ref q] : List Value).toArray s 0 0 A) (F0 m 35 ls []) := by
    intro x1 h H locs hP hD hS ls hl
    unfold e_X4_greatestBar_35 at h
    refine lv_iload_n hx hb dX4_greatestBar_35 rfl (lv_at hl 0 rfl) ?_
    cases h
    exact hb_iret hx hb hr hlocks hP hD hS dX4_greatestBar_36
  have L4 : ∀ (n : Nat) (x1 : Int32) (x2 : Int32) (b : Int32), lpF (fun q : (Int32 × Int32) => s_X4_greatestBar_4 q.1 q.2 f_bars f_size) n (x1, x2) = some b → a_X4_greatestBar_4 b = some r → ∀ (H : Heap) (locs : List Loc), va_P G vwCl [(q, .inr (3, [.ref q_bars, .ref q_groups, .int f_size])), (q_bars, .inl (cI, 40, .inl f_bars)), (q_groups, .inl (cJ, 40, .inr (.inl f_groups)))] H → va_D A [(q, .inr (3, [.ref q_bars, .ref q_groups, .int f_size])), (q_bars, .inl (cI, 40, .inl f_bars)), (q_groups, .inl (cJ, 40, .inr (.inl f_groups)))] → va_S A s.heap H locs → ∀ ls, lv_has ls 3 [(0, .ref q), (1, .int x1), (2, .int x2)] → W p l e (headSpec wsX4_greatestBar { frames := 1, cells := 0, slots := 0, locals := 21 }).room s m ([.ref q] : List Value).toArray below meth c H locs 0 0 (MQ below (hb_Qi G r [(q, .inr (3, [.ref q_bars, .ref q_groups, .int f_size])), (q_bars, .inl (cI, 40, .inl f_bars)), (q_groups, .inl (cJ, 40, .inr (.inl f_groups)))] A) ([.ref q] : List Value).toArray s 0 0 A) (F0 m 4 ls []) := by
    intro n
    induction n with
    | zero => intro x1 x2 b h; exact lp_zero h
    | succ n ih =>
      intro x1 x2 b h ha H locs hP hD hS ls hl
      obtain ⟨z4, h, hz⟩ := lp_open h
      have h : s_X4_greatestBar_4 x1 x2 f_bars f_size = some z4 := h
      unfold s_X4_greatestBar_4 at h
      refine lv_iload_n hx hb dX4_greatestBar_4 rfl (lv_at hl 2 rfl) ?_
      refine lv_aload_n hx hb dX4_greatestBar_5 rfl (lv_at hl 0 rfl) ?_
      refine va_get (D := G) (ci := 3) (v := .int f_size) (C := RX4) (T := TX4) (N := 3) hx hb hts in_X4_greatestBar_X4 hown hK.1 hP 0 rfl rfl 2 (by decide) (hts (.fieldLink RX4 19 "FieldsByClasses$Shelf" "size" "I") (by decide +kernel)) (fun _ h9 => h9) rfl dX4_greatestBar_6 ?_
      refine lv_icmp_ge (tgt := 35) hx hb dX4_greatestBar_9 (by decide) (fun c9 => ?_) (fun c9 => ?_)
      · have h := pf_pos h c9
        have ha := pf_aft ha (lp_exit h hz)
        exact K35 x1 ha H locs hP hD hS ls (lv_sub hl [1] rfl)
      · have h := pf_neg h c9
        refine lv_iload_n hx hb dX4_greatestBar_12 rfl (lv_at hl 2 rfl) ?_
        refine lv_bipush (v := 40) hx hb dX4_greatestBar_13 (by decide) ?_
        refine lv_icmp_ge (tgt := 35) hx hb dX4_greatestBar_15 (by decide) (fun c15 => ?_) (fun c15 => ?_)
        · have h := pf_pos h c15
          have ha := pf_aft ha (lp_exit h hz)
          exact K35 x1 ha H locs hP hD hS ls (lv_sub hl [1] rfl)
        · have h := pf_neg h c15
          refine lv_iload_n hx hb dX4_greatestBar_18 rfl (lv_at hl 1 rfl) ?_
          refine lv_aload_n hx hb dX4_greatestBar_19 rfl (lv_at hl 0 rfl) ?_
          refine va_get (D := G) (ci := 3) (v := .ref q_bars) (C := RX4) (T := TX4) (N := 3) hx hb hts in_X4_greatestBar_X4 hown hK.1 hP 0 rfl rfl 0 (by decide) (hts (.fieldLink RX4 9 "FieldsByClasses$Shelf" "bars" "[I") (by decide +kernel)) (fun _ h9 => h9) rfl dX4_greatestBar_20 ?_
          refine lv_iload_n hx hb dX4_greatestBar_23 rfl (lv_at hl 2 rfl) ?_
          obtain ⟨hi24, h⟩ := pf_need h
          refine va_iald hx hb hK.1 hP 1 0 rfl rfl (ain_of hi24) dX4_greatestBar_24 ?_
          refine va_mmax hx hb (by rw [hml]; exact hl.1.symm) hown (hts (.methodLink RX4 41 Lib.Math.max.name) (by decide +kernel)) (hts (.static Lib.Math.max.name) (by decide +kernel)) (hts (.initialized "java/lang/Math") (by decide +kernel)) (hts _ (by decide +kernel)) (Nat.le_of_ble_eq_true rfl) (Nat.le_of_ble_eq_true rfl) (Nat.zero_le _) (Nat.zero_le _) dX4_greatestBar_25 ?_
          obtain ⟨w28, hw28, h⟩ := pf_bind h
          refine pf_topi hw28 ?_
          refine lv_istore_n (lv' := [(1, .int w28), (0, .ref q), (2, .int x2)]) hx hb dX4_greatestBar_28 rfl hl (by decide) rfl (fun ls hl => ?_)
          refine lv_iinc (v := (x2 + (1 : Int32))) (lv' := [(2, .int (x2 + (1 : Int32))), (1, .int w28), (0, .ref q)]) hx hb dX4_greatestBar_29 hl (k := 2) rfl rfl (by decide) rfl (fun ls hl => ?_)
          refine lv_goto (tgt := 4) hx hb dX4_greatestBar_32 (by decide) ?_
          exact ih w28 (x2 + (1 : Int32)) b (lp_cont h hz) ha H locs hP hD hS ls (lv_sub hl [2, 1, 0] rfl)
  have G4 : ∀ (x1 : Int32) (x2 : Int32), g_X4_greatestBar_4 x1 x2 f_bars f_size = some r → ∀ (H : Heap) (locs : List Loc), va_P G vwCl [(q, .inr (3, [.ref q_bars, .ref q_groups, .int f_size])), (q_bars, .inl (cI, 40, .inl f_bars)), (q_groups, .inl (cJ, 40, .inr (.inl f_groups)))] H → va_D A [(q, .inr (3, [.ref q_bars, .ref q_groups, .int f_size])), (q_bars, .inl (cI, 40, .inl f_bars)), (q_groups, .inl (cJ, 40, .inr (.inl f_groups)))] → va_S A s.heap H locs → ∀ ls, lv_has ls 3 [(0, .ref q), (1, .int x1), (2, .int x2)] → W p l e (headSpec wsX4_greatestBar { frames := 1, cells := 0, slots := 0, locals := 21 }).room s m ([.ref q] : List Value).toArray below meth c H locs 0 0 (MQ below (hb_Qi G r [(q, .inr (3, [.ref q_bars, .ref q_groups, .int f_size])), (q_bars, .inl (cI, 40, .inl f_bars)), (q_groups, .inl (cJ, 40, .inr (.inl f_groups)))] A) ([.ref q] : List Value).toArray s 0 0 A) (F0 m 4 ls []) := by
    intro x1 x2 h
    unfold g_X4_greatestBar_4 at h
    obtain ⟨b, h, ha⟩ := pf_bind h
    exact L4 pfFU x1 x2 b h ha
  suffices hh : ∀ (H : Heap) (locs : List Loc), va_P G vwCl [(q, .inr (3, [.ref q_bars, .ref q_groups, .int f_size])), (q_bars, .inl (cI, 40, .inl f_bars)), (q_groups, .inl (cJ, 40, .inr (.inl f_groups)))] H → va_D A [(q, .inr (3, [.ref q_bars, .ref q_groups, .int f_size])), (q_bars, .inl (cI, 40, .inl f_bars)), (q_groups, .inl (cJ, 40, .inr (.inl f_groups)))] → va_S A s.heap H locs → W p l e (headSpec wsX4_greatestBar { frames := 1, cells := 0, slots := 0, locals := 21 }).room s m ([.ref q] : List Value).toArray below meth c H locs 0 0 (MQ below (hb_Qi G r [(q, .inr (3, [.ref q_bars, .ref q_groups, .int f_size])), (q_bars, .inl (cI, 40, .inl f_bars)), (q_groups, .inl (cJ, 40, .inr (.inl f_groups)))] A) ([.ref q] : List Value).toArray s 0 0 A) (F0 m 0 ls []) from hh s.heap [] hP hD hS
  intro H locs hP hD hS
  unfold p_X4_greatestBar at h
  refine lv_iconst (v := 0) hx hb dX4_greatestBar_0 (by decide) ?_
  refine lv_istore_n (lv' := [(1, .int (0 : Int32)), (0, .ref q)]) hx hb dX4_greatestBar_1 rfl hl (by decide) rfl (fun ls hl => ?_)
  refine lv_iconst (v := 0) hx hb dX4_greatestBar_2 (by decide) ?_
  refine lv_istore_n (lv' := [(2, .int (0 : Int32)), (1, .int (0 : Int32)), (0, .ref q)]) hx hb dX4_greatestBar_3 rfl hl (by decide) rfl (fun ls hl => ?_)
  exact G4 (0 : Int32) (0 : Int32) h H locs hP hD hS ls (lv_sub hl [2, 1, 0] rfl)
-- X4_empty
def p_X4_empty (f_size : Int32)  : Option Int32 :=
  some (0 : Int32)
theorem in_X4_empty_X4 : ∀ w ∈ u_ws RX4 TX4 3, w ∈ wsX4_empty := fun w h => List.mem_cons_of_mem _ (List.mem_append_right _ h)
theorem kv_X4_empty : yX4_empty.cls = RX4 ∧ yX4_empty.cls ≠ "java/lang/invoke/MethodHandle" ∧ yX4_empty.cls ≠ "java/lang/invoke/VarHandle" ∧ (parseMethodDescriptor yX4_empty.desc).map (fun d => d.parameters.length) = some 0 := by decide +kernel
set_option maxHeartbeats 4000000 in
set_option maxRecDepth 100000 in
theorem c_X4_empty (l : Launch) (G : va_G) (cI cJ cZ cS : ClassId) (q q_bars q_groups : Nat) (sz : Nat) (f_bars : (Nat → Int32)) (f_groups : (Nat → Int64)) (f_size : Int32)  (r : Int32) (h : p_X4_empty f_size  = some r) : Met l yX4_empty wsX4_empty { frames := 0, cells := 0, slots := 0, locals := 0 } (hb_pre G (hbT cI cJ cZ cS) [.ref q] sz [(q, .inr (3, [.ref q_bars, .ref q_groups, .int f_size])), (q_bars, .inl (cI, 40, .inl f_bars)), (q_groups, .inl (cJ, 40, .inr (.inl f_groups)))]) (hb_Qv G [(q, .inr (3, [.ref q_bars, .ref q_groups, .int r])), (q_bars, .inl (cI, 40, .inl f_bars)), (q_groups, .inl (cJ, 40, .inr (.inl f_groups)))] (va_A [(q, .inr (3, [.ref q_bars, .ref q_groups, .int f_size])), (q_bars, .inl (cI, 40, .inl f_bars)), (q_groups, .inl (cJ, 40, .inr (.inl f_groups)))] sz)) 0 0 (va_A [(q, .inr (3, [.ref q_bars, .ref q_groups, .int f_size])), (q_bars, .inl (cI, 40, .inl f_bars)), (q_groups, .inl (cJ, 40, .inr (.inl f_groups)))] sz) := by
  refine hb_met (Qc := fun A => hb_Qv G [(q, .inr (3, [.ref q_bars, .ref q_groups, .int r])), (q_bars, .inl (cI, 40, .inl f_bars)), (q_groups, .inl (cJ, 40, .inr (.inl f_groups)))] A) (cc := cX4_empty) (maxL := 1) (ret := none) (by decide) rfl (Nat.le_of_ble_eq_true rfl) ?_
  intro p e s m below meth c A hx hb hr hts hown hlocks hml hin hK hA hP hD hS ls hl
  have hown : s.vm.findClass RX4 = some m.cls := hown
  have S0 : CallFix p m c cX4_empty 1 s ([.ref q] : List Value).toArray wsX4_empty RX4 := ⟨hx, hb, hml, hown, hts⟩
  have hl : lv_has ls 1 [(0, .ref q)] := hl
  suffices hh : ∀ (H : Heap) (locs : List Loc), va_P G vwCl [(q, .inr (3, [.ref q_bars, .ref q_groups, .int f_size])), (q_bars, .inl (cI, 40, .inl f_bars)), (q_groups, .inl (cJ, 40, .inr (.inl f_groups)))] H → va_D A [(q, .inr (3, [.ref q_bars, .ref q_groups, .int f_size])), (q_bars, .inl (cI, 40, .inl f_bars)), (q_groups, .inl (cJ, 40, .inr (.inl f_groups)))] → va_S A s.heap H locs → W p l e (headSpec wsX4_empty { frames := 0, cells := 0, slots := 0, locals := 0 }).room s m ([.ref q] : List Value).toArray below meth c H locs 0 0 (MQ below (hb_Qv G [(q, .inr (3, [.ref q_bars, .ref q_groups, .int r])), (q_bars, .inl (cI, 40, .inl f_bars)), (q_groups, .inl (cJ, 40, .inr (.inl f_groups)))] A) ([.ref q] : List Value).toArray s 0 0 A) (F0 m 0 ls []) from hh s.heap [] hP hD hS
  intro H locs hP hD hS
  unfold p_X4_empty at h
  refine lv_aload_n hx hb dX4_empty_0 rfl (lv_at hl 0 rfl) ?_
  refine lv_iconst (v := 0) hx hb dX4_empty_1 (by decide) ?_
  refine va_put (D := G) (ci := 3) (v := .int (0 : Int32)) (ty := .int) (C := RX4) (T := TX4) (N := 3) hx hb hts in_X4_empty_X4 tyX4 tyX4_ok nmX4 hown hK.1 hP hD hS 0 rfl rfl 2 (by decide) (hts (.fieldLink RX4 19 "FieldsByClasses$Shelf" "size" "I") (by decide +kernel)) (fun _ h9 => h9) rfl (tyX4_ok 2 (by decide)) rfl rfl (Nat.le_of_ble_eq_true rfl) dX4_empty_2 (fun H locs hP hD hS => ?_)
  have hP : va_P G vwCl [(q, .inr (3, [.ref q_bars, .ref q_groups, .int (0 : Int32)])), (q_bars, .inl (cI, 40, .inl f_bars)), (q_groups, .inl (cJ, 40, .inr (.inl f_groups)))] H := hP
  have hD : va_D A [(q, .inr (3, [.ref q_bars, .ref q_groups, .int (0 : Int32)])), (q_bars, .inl (cI, 40, .inl f_bars)), (q_groups, .inl (cJ, 40, .inr (.inl f_groups)))] := hD
  cases h
  exact hb_vret hx hb hr hlocks hP hD hS dX4_empty_5
-- X4_copyFrom
def e_X4_copyFrom_43 (f_bars : (Nat → Int32)) (f_groups : (Nat → Int64)) (f_o_size : Int32) : Option ((Nat → Int32) × (Nat → Int64) × Int32) :=
  some (f_bars, f_groups, f_o_size)
def s_X4_copyFrom_7 (x2 : Int32) (f_bars : (Nat → Int32)) (f_groups : (Nat → Int64)) (f_o_bars : (Nat → Int32)) (f_o_groups : (Nat → Int64)) (f_o_size : Int32) : Option ((Int32 × (Nat → Int32) × (Nat → Int64)) ⊕ (((Nat → Int32) × (Nat → Int64)))) :=
  (if (40 : Int32) ≤ x2 then some (Sum.inr (f_bars, f_groups)) else (if ainB x2 40 = true then (if ainB x2 40 = true then (if ainB x2 40 = true then (if ainB x2 40 = true then some (Sum.inl ((x2 + (1 : Int32)), (upd f_bars (x2).toNatClampNeg (f_o_bars (x2).toNatClampNeg)), (vp_updL f_groups (x2).toNatClampNeg (f_o_groups (x2).toNatClampNeg)))) else none) else none) else none) else none))
def a_X4_copyFrom_7 (f_o_size : Int32) (b : ((Nat → Int32) × (Nat → Int64))) : Option ((Nat → Int32) × (Nat → Int64) × Int32) := (fun q : ((Nat → Int32) × (Nat → Int64)) => e_X4_copyFrom_43 q.1 q.2 f_o_size) b
def g_X4_copyFrom_7 (x2 : Int32) (f_bars : (Nat → Int32)) (f_groups : (Nat → Int64)) (f_o_bars : (Nat → Int32)) (f_o_groups : (Nat → Int64)) (f_o_size : Int32) : Option ((Nat → Int32) × (Nat → Int64) × Int32) := (lpF (fun q : (Int32 × (Nat → Int32) × (Nat → Int64)) => s_X4_copyFrom_7 q.1 q.2.1 q.2.2 f_o_bars f_o_groups f_o_size) pfFU (x2, f_bars, f_groups)).bind (a_X4_copyFrom_7 f_o_size)
def p_X4_copyFrom (f_bars : (Nat → Int32)) (f_groups : (Nat → Int64)) (f_size : Int32) (f_o_bars : (Nat → Int32)) (f_o_groups : (Nat → Int64)) (f_o_size : Int32)  : Option ((Nat → Int32) × (Nat → Int64) × Int32) :=
  g_X4_copyFrom_7 (0 : Int32) f_bars f_groups f_o_bars f_o_groups f_o_size
theorem in_X4_copyFrom_X4 : ∀ w ∈ u_ws RX4 TX4 3, w ∈ wsX4_copyFrom := fun w h => List.mem_cons_of_mem _ (List.mem_append_right _ h)
theorem kv_X4_copyFrom : yX4_copyFrom.cls = RX4 ∧ yX4_copyFrom.cls ≠ "java/lang/invoke/MethodHandle" ∧ yX4_copyFrom.cls ≠ "java/lang/invoke/VarHandle" ∧ (parseMethodDescriptor yX4_copyFrom.desc).map (fun d => d.parameters.length) = some 1 := by decide +kernel
set_option maxHeartbeats 4000000 in
set_option maxRecDepth 100000 in
theorem c_X4_copyFrom (l : Launch) (G : va_G) (cI cJ cZ cS : ClassId) (q q_bars q_groups q_o q_o_bars q_o_groups : Nat) (sz : Nat) (f_bars : (Nat → Int32)) (f_groups : (Nat → Int64)) (f_size : Int32) (f_o_bars : (Nat → Int32)) (f_o_groups : (Nat → Int64)) (f_o_size : Int32)  (r : ((Nat → Int32) × (Nat → Int64) × Int32)) (h : p_X4_copyFrom f_bars f_groups f_size f_o_bars f_o_groups f_o_size  = some r) : Met l yX4_copyFrom wsX4_copyFrom { frames := 0, cells := 0, slots := 0, locals := 0 } (hb_pre G (hbT cI cJ cZ cS) [.ref q, .ref q_o] sz [(q, .inr (3, [.ref q_bars, .ref q_groups, .int f_size])), (q_bars, .inl (cI, 40, .inl f_bars)), (q_groups, .inl (cJ, 40, .inr (.inl f_groups))), (q_o, .inr (3, [.ref q_o_bars, .ref q_o_groups, .int f_o_size])), (q_o_bars, .inl (cI, 40, .inl f_o_bars)), (q_o_groups, .inl (cJ, 40, .inr (.inl f_o_groups)))]) (hb_Qv G [(q, .inr (3, [.ref q_bars, .ref q_groups, .int r.2.2])), (q_bars, .inl (cI, 40, .inl r.1)), (q_groups, .inl (cJ, 40, .inr (.inl r.2.1))), (q_o, .inr (3, [.ref q_o_bars, .ref q_o_groups, .int f_o_size])), (q_o_bars, .inl (cI, 40, .inl f_o_bars)), (q_o_groups, .inl (cJ, 40, .inr (.inl f_o_groups)))] (va_A [(q, .inr (3, [.ref q_bars, .ref q_groups, .int f_size])), (q_bars, .inl (cI, 40, .inl f_bars)), (q_groups, .inl (cJ, 40, .inr (.inl f_groups))), (q_o, .inr (3, [.ref q_o_bars, .ref q_o_groups, .int f_o_size])), (q_o_bars, .inl (cI, 40, .inl f_o_bars)), (q_o_groups, .inl (cJ, 40, .inr (.inl f_o_groups)))] sz)) 0 0 (va_A [(q, .inr (3, [.ref q_bars, .ref q_groups, .int f_size])), (q_bars, .inl (cI, 40, .inl f_bars)), (q_groups, .inl (cJ, 40, .inr (.inl f_groups))), (q_o, .inr (3, [.ref q_o_bars, .ref q_o_groups, .int f_o_size])), (q_o_bars, .inl (cI, 40, .inl f_o_bars)), (q_o_groups, .inl (cJ, 40, .inr (.inl f_o_groups)))] sz) := by
  refine hb_met (Qc := fun A => hb_Qv G [(q, .inr (3, [.ref q_bars, .ref q_groups, .int r.2.2])), (q_bars, .inl (cI, 40, .inl r.1)), (q_groups, .inl (cJ, 40, .inr (.inl r.2.1))), (q_o, .inr (3, [.ref q_o_bars, .ref q_o_groups, .int f_o_size])), (q_o_bars, .inl (cI, 40, .inl f_o_bars)), (q_o_groups, .inl (cJ, 40, .inr (.inl f_o_groups)))] A) (cc := cX4_copyFrom) (maxL := 3) (ret := none) (by decide) rfl (Nat.le_of_ble_eq_true rfl) ?_
  intro p e s m below meth c A hx hb hr hts hown hlocks hml hin hK hA hP hD hS ls hl
  have hown : s.vm.findClass RX4 = some m.cls := hown
  have S0 : CallFix p m c cX4_copyFrom 3 s ([.ref q, .ref q_o] : List Value).toArray wsX4_copyFrom RX4 := ⟨hx, hb, hml, hown, hts⟩
  have hl : lv_has ls 3 [(0, .ref q), (1, .ref q_o)] := hl
  have K43 : ∀ (f_bars : (Nat → Int32)) (f_groups : (Nat → Int64)), e_X4_copyFrom_43 f_bars f_groups f_o_size = some r → ∀ (H : Heap) (locs : List Loc), va_P G vwCl [(q, .inr (3, [.ref q_bars, .ref q_groups, .int f_size])), (q_bars, .inl (cI, 40, .inl f_bars)), (q_groups, .inl (cJ, 40, .inr (.inl f_groups))), (q_o, .inr (3, [.ref q_o_bars, .ref q_o_groups, .int f_o_size])), (q_o_bars, .inl (cI, 40, .inl f_o_bars)), (q_o_groups, .inl (cJ, 40, .inr (.inl f_o_groups)))] H → va_D A [(q, .inr (3, [.ref q_bars, .ref q_groups, .int f_size])), (q_bars, .inl (cI, 40, .inl f_bars)), (q_groups, .inl (cJ, 40, .inr (.inl f_groups))), (q_o, .inr (3, [.ref q_o_bars, .ref q_o_groups, .int f_o_size])), (q_o_bars, .inl (cI, 40, .inl f_o_bars)), (q_o_groups, .inl (cJ, 40, .inr (.inl f_o_groups)))] → va_S A s.heap H locs → ∀ ls, lv_has ls 3 [(0, .ref q), (1, .ref q_o)] → W p l e (headSpec wsX4_copyFrom { frames := 0, cells := 0, slots := 0, locals := 0 }).room s m ([.ref q, .ref q_o] : List Value).toArray below meth c H locs 0 0 (MQ below (hb_Qv G [(q, .inr (3, [.ref q_bars, .ref q_groups, .int r.2.2])), (q_bars, .inl (cI, 40, .inl r.1)), (q_groups, .inl (cJ, 40, .inr (.inl r.2.1))), (q_o, .inr (3, [.ref q_o_bars, .ref q_o_groups, .int f_o_size])), (q_o_bars, .inl (cI, 40, .inl f_o_bars)), (q_o_groups, .inl (cJ, 40, .inr (.inl f_o_groups)))] A) ([.ref q, .ref q_o] : List Value).toArray s 0 0 A) (F0 m 43 ls []) := by
    intro f_bars f_groups h H locs hP hD hS ls hl
    unfold e_X4_copyFrom_43 at h
    refine lv_aload_n hx hb dX4_copyFrom_43 rfl (lv_at hl 0 rfl) ?_
    refine lv_aload_n hx hb dX4_copyFrom_44 rfl (lv_at hl 1 rfl) ?_
    refine va_get (D := G) (ci := 3) (v := .int f_o_size) (C := RX4) (T := TX4) (N := 3) hx hb hts in_X4_copyFrom_X4 hown hK.1 hP 3 rfl rfl 2 (by decide) (hts (.fieldLink RX4 19 "FieldsByClasses$Shelf" "size" "I") (by decide +kernel)) (fun _ h9 => h9) rfl dX4_copyFrom_45 ?_
    refine va_put (D := G) (ci := 3) (v := .int f_o_size) (ty := .int) (C := RX4) (T := TX4) (N := 3) hx hb hts in_X4_copyFrom_X4 tyX4 tyX4_ok nmX4 hown hK.1 hP hD hS 0 rfl rfl 2 (by decide) (hts (.fieldLink RX4 19 "FieldsByClasses$Shelf" "size" "I") (by decide +kernel)) (fun _ h9 => h9) rfl (tyX4_ok 2 (by decide)) rfl rfl (Nat.le_of_ble_eq_true rfl) dX4_copyFrom_48 (fun H locs hP hD hS => ?_)
    have hP : va_P G vwCl [(q, .inr (3, [.ref q_bars, .ref q_groups, .int f_o_size])), (q_bars, .inl (cI, 40, .inl f_bars)), (q_groups, .inl (cJ, 40, .inr (.inl f_groups))), (q_o, .inr (3, [.ref q_o_bars, .ref q_o_groups, .int f_o_size])), (q_o_bars, .inl (cI, 40, .inl f_o_bars)), (q_o_groups, .inl (cJ, 40, .inr (.inl f_o_groups)))] H := hP
    have hD : va_D A [(q, .inr (3, [.ref q_bars, .ref q_groups, .int f_o_size])), (q_bars, .inl (cI, 40, .inl f_bars)), (q_groups, .inl (cJ, 40, .inr (.inl f_groups))), (q_o, .inr (3, [.ref q_o_bars, .ref q_o_groups, .int f_o_size])), (q_o_bars, .inl (cI, 40, .inl f_o_bars)), (q_o_groups, .inl (cJ, 40, .inr (.inl f_o_groups)))] := hD
    cases h
    exact hb_vret hx hb hr hlocks hP hD hS dX4_copyFrom_51
  have L7 : ∀ (n : Nat) (x2 : Int32) (f_bars : (Nat → Int32)) (f_groups : (Nat → Int64)) (b : ((Nat → Int32) × (Nat → Int64))), lpF (fun q : (Int32 × (Nat → Int32) × (Nat → Int64)) => s_X4_copyFrom_7 q.1 q.2.1 q.2.2 f_o_bars f_o_groups f_o_size) n (x2, f_bars, f_groups) = some b → a_X4_copyFrom_7 f_o_size b = some r → ∀ (H : Heap) (locs : List Loc), va_P G vwCl [(q, .inr (3, [.ref q_bars, .ref q_groups, .int f_size])), (q_bars, .inl (cI, 40, .inl f_bars)), (q_groups, .inl (cJ, 40, .inr (.inl f_groups))), (q_o, .inr (3, [.ref q_o_bars, .ref q_o_groups, .int f_o_size])), (q_o_bars, .inl (cI, 40, .inl f_o_bars)), (q_o_groups, .inl (cJ, 40, .inr (.inl f_o_groups)))] H → va_D A [(q, .inr (3, [.ref q_bars, .ref q_groups, .int f_size])), (q_bars, .inl (cI, 40, .inl f_bars)), (q_groups, .inl (cJ, 40, .inr (.inl f_groups))), (q_o, .inr (3, [.ref q_o_bars, .ref q_o_groups, .int f_o_size])), (q_o_bars, .inl (cI, 40, .inl f_o_bars)), (q_o_groups, .inl (cJ, 40, .inr (.inl f_o_groups)))] → va_S A s.heap H locs → ∀ ls, lv_has ls 3 [(0, .ref q), (1, .ref q_o), (2, .int x2)] → W p l e (headSpec wsX4_copyFrom { frames := 0, cells := 0, slots := 0, locals := 0 }).room s m ([.ref q, .ref q_o] : List Value).toArray below meth c H locs 0 0 (MQ below (hb_Qv G [(q, .inr (3, [.ref q_bars, .ref q_groups, .int r.2.2])), (q_bars, .inl (cI, 40, .inl r.1)), (q_groups, .inl (cJ, 40, .inr (.inl r.2.1))), (q_o, .inr (3, [.ref q_o_bars, .ref q_o_groups, .int f_o_size])), (q_o_bars, .inl (cI, 40, .inl f_o_bars)), (q_o_groups, .inl (cJ, 40, .inr (.inl f_o_groups)))] A) ([.ref q, .ref q_o] : List Value).toArray s 0 0 A) (F0 m 7 ls []) := by
    intro n
    induction n with
    | zero => intro x2 f_bars f_groups b h; exact lp_zero h
    | succ n ih =>
      intro x2 f_bars f_groups b h ha H locs hP hD hS ls hl
      obtain ⟨z7, h, hz⟩ := lp_open h
      have h : s_X4_copyFrom_7 x2 f_bars f_groups f_o_bars f_o_groups f_o_size = some z7 := h
      unfold s_X4_copyFrom_7 at h
      refine lv_iload_n hx hb dX4_copyFrom_7 rfl (lv_at hl 2 rfl) ?_
      refine lv_bipush (v := 40) hx hb dX4_copyFrom_8 (by decide) ?_
      refine lv_icmp_ge (tgt := 43) hx hb dX4_copyFrom_10 (by decide) (fun c10 => ?_) (fun c10 => ?_)
      · have h := pf_pos h c10
        have ha := pf_aft ha (lp_exit h hz)
        exact K43 f_bars f_groups ha H locs hP hD hS ls (lv_sub hl [0, 1] rfl)
      · have h := pf_neg h c10
        refine lv_aload_n hx hb dX4_copyFrom_13 rfl (lv_at hl 0 rfl) ?_
        refine va_get (D := G) (ci := 3) (v := .ref q_bars) (C := RX4) (T := TX4) (N := 3) hx hb hts in_X4_copyFrom_X4 hown hK.1 hP 0 rfl rfl 0 (by decide) (hts (.fieldLink RX4 9 "FieldsByClasses$Shelf" "bars" "[I") (by decide +kernel)) (fun _ h9 => h9) rfl dX4_copyFrom_14 ?_
        refine lv_iload_n hx hb dX4_copyFrom_17 rfl (lv_at hl 2 rfl) ?_
        refine lv_aload_n hx hb dX4_copyFrom_18 rfl (lv_at hl 1 rfl) ?_
        refine va_get (D := G) (ci := 3) (v := .ref q_o_bars) (C := RX4) (T := TX4) (N := 3) hx hb hts in_X4_copyFrom_X4 hown hK.1 hP 3 rfl rfl 0 (by decide) (hts (.fieldLink RX4 9 "FieldsByClasses$Shelf" "bars" "[I") (by decide +kernel)) (fun _ h9 => h9) rfl dX4_copyFrom_19 ?_
        refine lv_iload_n hx hb dX4_copyFrom_22 rfl (lv_at hl 2 rfl) ?_
        obtain ⟨hi23, h⟩ := pf_need h
        refine va_iald hx hb hK.1 hP 4 0 rfl rfl (ain_of hi23) dX4_copyFrom_23 ?_
        obtain ⟨hi24, h⟩ := pf_need h
        refine va_iast hx hb hK.1 hP hD hS 1 0 rfl rfl (ain_of hi24) dX4_copyFrom_24 (fun H locs hP hD hS => ?_)
        have hP : va_P G vwCl [(q, .inr (3, [.ref q_bars, .ref q_groups, .int f_size])), (q_bars, .inl (cI, 40, .inl (upd f_bars (x2).toNatClampNeg (f_o_bars (x2).toNatClampNeg)))), (q_groups, .inl (cJ, 40, .inr (.inl f_groups))), (q_o, .inr (3, [.ref q_o_bars, .ref q_o_groups, .int f_o_size])), (q_o_bars, .inl (cI, 40, .inl f_o_bars)), (q_o_groups, .inl (cJ, 40, .inr (.inl f_o_groups)))] H := hP
        have hD : va_D A [(q, .inr (3, [.ref q_bars, .ref q_groups, .int f_size])), (q_bars, .inl (cI, 40, .inl (upd f_bars (x2).toNatClampNeg (f_o_bars (x2).toNatClampNeg)))), (q_groups, .inl (cJ, 40, .inr (.inl f_groups))), (q_o, .inr (3, [.ref q_o_bars, .ref q_o_groups, .int f_o_size])), (q_o_bars, .inl (cI, 40, .inl f_o_bars)), (q_o_groups, .inl (cJ, 40, .inr (.inl f_o_groups)))] := hD
        refine lv_aload_n hx hb dX4_copyFrom_25 rfl (lv_at hl 0 rfl) ?_
        refine va_get (D := G) (ci := 3) (v := .ref q_groups) (C := RX4) (T := TX4) (N := 3) hx hb hts in_X4_copyFrom_X4 hown hK.1 hP 0 rfl rfl 1 (by decide) (hts (.fieldLink RX4 15 "FieldsByClasses$Shelf" "groups" "[J") (by decide +kernel)) (fun _ h9 => h9) rfl dX4_copyFrom_26 ?_
        refine lv_iload_n hx hb dX4_copyFrom_29 rfl (lv_at hl 2 rfl) ?_
        refine lv_aload_n hx hb dX4_copyFrom_30 rfl (lv_at hl 1 rfl) ?_
        refine va_get (D := G) (ci := 3) (v := .ref q_o_groups) (C := RX4) (T := TX4) (N := 3) hx hb hts in_X4_copyFrom_X4 hown hK.1 hP 3 rfl rfl 1 (by decide) (hts (.fieldLink RX4 15 "FieldsByClasses$Shelf" "groups" "[J") (by decide +kernel)) (fun _ h9 => h9) rfl dX4_copyFrom_31 ?_
        refine lv_iload_n hx hb dX4_copyFrom_34 rfl (lv_at hl 2 rfl) ?_
        obtain ⟨hi35, h⟩ := pf_need h
        refine va_lald hx hb hK.1 hP 5 1 rfl rfl (ain_of hi35) dX4_copyFrom_35 ?_
        obtain ⟨hi36, h⟩ := pf_need h
        refine va_last hx hb hK.1 hP hD hS 2 1 rfl rfl (ain_of hi36) dX4_copyFrom_36 (fun H locs hP hD hS => ?_)
        have hP : va_P G vwCl [(q, .inr (3, [.ref q_bars, .ref q_groups, .int f_size])), (q_bars, .inl (cI, 40, .inl (upd f_bars (x2).toNatClampNeg (f_o_bars (x2).toNatClampNeg)))), (q_groups, .inl (cJ, 40, .inr (.inl (vp_updL f_groups (x2).toNatClampNeg (f_o_groups (x2).toNatClampNeg))))), (q_o, .inr (3, [.ref q_o_bars, .ref q_o_groups, .int f_o_size])), (q_o_bars, .inl (cI, 40, .inl f_o_bars)), (q_o_groups, .inl (cJ, 40, .inr (.inl f_o_groups)))] H := hP
        have hD : va_D A [(q, .inr (3, [.ref q_bars, .ref q_groups, .int f_size])), (q_bars, .inl (cI, 40, .inl (upd f_bars (x2).toNatClampNeg (f_o_bars (x2).toNatClampNeg)))), (q_groups, .inl (cJ, 40, .inr (.inl (vp_updL f_groups (x2).toNatClampNeg (f_o_groups (x2).toNatClampNeg))))), (q_o, .inr (3, [.ref q_o_bars, .ref q_o_groups, .int f_o_size])), (q_o_bars, .inl (cI, 40, .inl f_o_bars)), (q_o_groups, .inl (cJ, 40, .inr (.inl f_o_groups)))] := hD
        refine lv_iinc (v := (x2 + (1 : Int32))) (lv' := [(2, .int (x2 + (1 : Int32))), (0, .ref q), (1, .ref q_o)]) hx hb dX4_copyFrom_37 hl (k := 2) rfl rfl (by decide) rfl (fun ls hl => ?_)
        refine lv_goto (tgt := 7) hx hb dX4_copyFrom_40 (by decide) ?_
        exact ih (x2 + (1 : Int32)) (upd f_bars (x2).toNatClampNeg (f_o_bars (x2).toNatClampNeg)) (vp_updL f_groups (x2).toNatClampNeg (f_o_groups (x2).toNatClampNeg)) b (lp_cont h hz) ha H locs hP hD hS ls (lv_sub hl [1, 2, 0] rfl)
  have G7 : ∀ (x2 : Int32) (f_bars : (Nat → Int32)) (f_groups : (Nat → Int64)), g_X4_copyFrom_7 x2 f_bars f_groups f_o_bars f_o_groups f_o_size = some r → ∀ (H : Heap) (locs : List Loc), va_P G vwCl [(q, .inr (3, [.ref q_bars, .ref q_groups, .int f_size])), (q_bars, .inl (cI, 40, .inl f_bars)), (q_groups, .inl (cJ, 40, .inr (.inl f_groups))), (q_o, .inr (3, [.ref q_o_bars, .ref q_o_groups, .int f_o_size])), (q_o_bars, .inl (cI, 40, .inl f_o_bars)), (q_o_groups, .inl (cJ, 40, .inr (.inl f_o_groups)))] H → va_D A [(q, .inr (3, [.ref q_bars, .ref q_groups, .int f_size])), (q_bars, .inl (cI, 40, .inl f_bars)), (q_groups, .inl (cJ, 40, .inr (.inl f_groups))), (q_o, .inr (3, [.ref q_o_bars, .ref q_o_groups, .int f_o_size])), (q_o_bars, .inl (cI, 40, .inl f_o_bars)), (q_o_groups, .inl (cJ, 40, .inr (.inl f_o_groups)))] → va_S A s.heap H locs → ∀ ls, lv_has ls 3 [(0, .ref q), (1, .ref q_o), (2, .int x2)] → W p l e (headSpec wsX4_copyFrom { frames := 0, cells := 0, slots := 0, locals := 0 }).room s m ([.ref q, .ref q_o] : List Value).toArray below meth c H locs 0 0 (MQ below (hb_Qv G [(q, .inr (3, [.ref q_bars, .ref q_groups, .int r.2.2])), (q_bars, .inl (cI, 40, .inl r.1)), (q_groups, .inl (cJ, 40, .inr (.inl r.2.1))), (q_o, .inr (3, [.ref q_o_bars, .ref q_o_groups, .int f_o_size])), (q_o_bars, .inl (cI, 40, .inl f_o_bars)), (q_o_groups, .inl (cJ, 40, .inr (.inl f_o_groups)))] A) ([.ref q, .ref q_o] : List Value).toArray s 0 0 A) (F0 m 7 ls []) := by
    intro x2 f_bars f_groups h
    unfold g_X4_copyFrom_7 at h
    obtain ⟨b, h, ha⟩ := pf_bind h
    exact L7 pfFU x2 f_bars f_groups b h ha
  suffices hh : ∀ (H : Heap) (locs : List Loc), va_P G vwCl [(q, .inr (3, [.ref q_bars, .ref q_groups, .int f_size])), (q_bars, .inl (cI, 40, .inl f_bars)), (q_groups, .inl (cJ, 40, .inr (.inl f_groups))), (q_o, .inr (3, [.ref q_o_bars, .ref q_o_groups, .int f_o_size])), (q_o_bars, .inl (cI, 40, .inl f_o_bars)), (q_o_groups, .inl (cJ, 40, .inr (.inl f_o_groups)))] H → va_D A [(q, .inr (3, [.ref q_bars, .ref q_groups, .int f_size])), (q_bars, .inl (cI, 40, .inl f_bars)), (q_groups, .inl (cJ, 40, .inr (.inl f_groups))), (q_o, .inr (3, [.ref q_o_bars, .ref q_o_groups, .int f_o_size])), (q_o_bars, .inl (cI, 40, .inl f_o_bars)), (q_o_groups, .inl (cJ, 40, .inr (.inl f_o_groups)))] → va_S A s.heap H locs → W p l e (headSpec wsX4_copyFrom { frames := 0, cells := 0, slots := 0, locals := 0 }).room s m ([.ref q, .ref q_o] : List Value).toArray below meth c H locs 0 0 (MQ below (hb_Qv G [(q, .inr (3, [.ref q_bars, .ref q_groups, .int r.2.2])), (q_bars, .inl (cI, 40, .inl r.1)), (q_groups, .inl (cJ, 40, .inr (.inl r.2.1))), (q_o, .inr (3, [.ref q_o_bars, .ref q_o_groups, .int f_o_size])), (q_o_bars, .inl (cI, 40, .inl f_o_bars)), (q_o_groups, .inl (cJ, 40, .inr (.inl f_o_groups)))] A) ([.ref q, .ref q_o] : List Value).toArray s 0 0 A) (F0 m 0 ls []) from hh s.heap [] hP hD hS
  intro H locs hP hD hS
  unfold p_X4_copyFrom at h
  refine lv_aload_n hx hb dX4_copyFrom_0 rfl (lv_at hl 1 rfl) ?_
  refine lv_ifnonnull (tgt := 5) hx hb dX4_copyFrom_1 (by decide) ?_
  refine lv_iconst (v := 0) hx hb dX4_copyFrom_5 (by decide) ?_
  refine lv_istore_n (lv' := [(2, .int (0 : Int32)), (0, .ref q), (1, .ref q_o)]) hx hb dX4_copyFrom_6 rfl hl (by decide) rfl (fun ls hl => ?_)
  exact G7 (0 : Int32) f_bars f_groups h H locs hP hD hS ls (lv_sub hl [1, 2, 0] rfl)
