-- X3_bit
def p_X3_bit (y0 : Int32) : Option Int64 :=
  (if y0 < 0 then some (0 : Int64) else (if y0 < (63 : Int32) then some (jshl (1 : Int64) y0) else some (0 : Int64)))
theorem kd_X3_bit : yX3_bit.cls ≠ "java/lang/invoke/MethodHandle" ∧ yX3_bit.cls ≠ "java/lang/invoke/VarHandle" ∧ (parseMethodDescriptor yX3_bit.desc).map (fun d => d.parameters.length) = some 1 := by decide +kernel
set_option maxHeartbeats 4000000 in
set_option maxRecDepth 100000 in
theorem c_X3_bit (l : Launch) (y0 : Int32) (r : Int64) (h : p_X3_bit y0 = some r) : Met l yX3_bit wsX3_bit { frames := 0, cells := 0, slots := 0, locals := 0 } (fun v _ => v = ([.int y0] : List Value).toArray) (k2_QcV (.long r)) 0 0 (fun _ => False) := by
  refine Met.ofW (cc := cX3_bit) (maxL := 1) (ret := some .long) (by decide) rfl ?_
  intro p e s m args below meth c s₁ B hml hv
  subst hv
  have hx := B.exec
  have hb := B.bytes
  have hr := B.returns
  have hts := atoms_spec (ws := wsX3_bit) B.pre
  have hown : s.vm.findClass RX3 = some m.cls := findClass_of_methodNamed B.named
  have hlocks := B.notSynchronized
  have S0 : CallFix p m c cX3_bit 1 s ([.int y0] : List Value).toArray wsX3_bit RX3 := ⟨hx, hb, hml, hown, hts⟩
  have hl := lv_entry [.int y0] (n := 1) (Nat.le_of_ble_eq_true rfl)
  rw [lg_entry_eq]
  generalize (lg_sl [.int y0] ++ List.replicate (1 - (lg_sl [.int y0]).length) Slot.unset).toArray = ls at hl ⊢
  have hl : lv_has ls 1 [(0, .int y0)] := hl
  unfold p_X3_bit at h
  refine lv_iload_n hx hb dX3_bit_0 rfl (lv_at hl 0 rfl) ?_
  refine lv_if_lt (tgt := 10) hx hb dX3_bit_1 (by decide) (fun c1 => ?_) (fun c1 => ?_)
  · have h := pf_pos h c1
    refine lv_lconst (v := 0) hx hb dX3_bit_10 (by decide) ?_
    refine lv_goto (tgt := 17) hx hb dX3_bit_11 (by decide) ?_
    exact W.lret hx hb hr (fun t ht _ => ⟨pf_rl h, ht⟩) (fun q hq => absurd hq List.not_mem_nil) dX3_bit_17
  · have h := pf_neg h c1
    refine lv_iload_n hx hb dX3_bit_4 rfl (lv_at hl 0 rfl) ?_
    refine lv_bipush (v := 63) hx hb dX3_bit_5 (by decide) ?_
    refine lv_icmp_lt (tgt := 14) hx hb dX3_bit_7 (by decide) (fun c7 => ?_) (fun c7 => ?_)
    · have h := pf_pos h c7
      refine lv_lconst (v := 1) hx hb dX3_bit_14 (by decide) ?_
      refine lv_iload_n hx hb dX3_bit_15 rfl (lv_at hl 0 rfl) ?_
      refine pf_lshl hx hb dX3_bit_16 ?_
      exact W.lret hx hb hr (fun t ht _ => ⟨pf_rl h, ht⟩) (fun q hq => absurd hq List.not_mem_nil) dX3_bit_17
    · have h := pf_neg h c7
      refine lv_lconst (v := 0) hx hb dX3_bit_10 (by decide) ?_
      refine lv_goto (tgt := 17) hx hb dX3_bit_11 (by decide) ?_
      exact W.lret hx hb hr (fun t ht _ => ⟨pf_rl h, ht⟩) (fun q hq => absurd hq List.not_mem_nil) dX3_bit_17
-- X3_has
def p_X3_has (y0 : Int64) (y2 : Int32) : Option Int32 :=
  (if y2 < 0 then some (0 : Int32) else (if (63 : Int32) ≤ y2 then some (0 : Int32) else (if ((jshr y0 y2) &&& (1 : Int64)) = (0 : Int64) then some (0 : Int32) else some (1 : Int32))))
theorem kd_X3_has : yX3_has.cls ≠ "java/lang/invoke/MethodHandle" ∧ yX3_has.cls ≠ "java/lang/invoke/VarHandle" ∧ (parseMethodDescriptor yX3_has.desc).map (fun d => d.parameters.length) = some 2 := by decide +kernel
set_option maxHeartbeats 4000000 in
set_option maxRecDepth 100000 in
theorem c_X3_has (l : Launch) (y0 : Int64) (y2 : Int32) (r : Int32) (h : p_X3_has y0 y2 = some r) : Met l yX3_has wsX3_has { frames := 0, cells := 0, slots := 0, locals := 0 } (fun v _ => v = ([.long y0, .int y2] : List Value).toArray) (k2_QcV (.int r)) 0 0 (fun _ => False) := by
  refine Met.ofW (cc := cX3_has) (maxL := 3) (ret := some .boolean) (by decide) rfl ?_
  intro p e s m args below meth c s₁ B hml hv
  subst hv
  have hx := B.exec
  have hb := B.bytes
  have hr := B.returns
  have hts := atoms_spec (ws := wsX3_has) B.pre
  have hown : s.vm.findClass RX3 = some m.cls := findClass_of_methodNamed B.named
  have hlocks := B.notSynchronized
  have S0 : CallFix p m c cX3_has 3 s ([.long y0, .int y2] : List Value).toArray wsX3_has RX3 := ⟨hx, hb, hml, hown, hts⟩
  have hl := lv_entry [.long y0, .int y2] (n := 3) (Nat.le_of_ble_eq_true rfl)
  rw [lg_entry_eq]
  generalize (lg_sl [.long y0, .int y2] ++ List.replicate (3 - (lg_sl [.long y0, .int y2]).length) Slot.unset).toArray = ls at hl ⊢
  have hl : lv_has ls 3 [(0, .long y0), (2, .int y2)] := hl
  unfold p_X3_has at h
  refine lv_iload_n hx hb dX3_has_0 rfl (lv_at hl 1 rfl) ?_
  refine lv_if_lt (tgt := 24) hx hb dX3_has_1 (by decide) (fun c1 => ?_) (fun c1 => ?_)
  · have h := pf_pos h c1
    refine lv_iconst (v := 0) hx hb dX3_has_24 (by decide) ?_
    exact W.zret hx hb hr rfl (fun t ht _ => ⟨pf_ri h, ht⟩) (fun q hq => absurd hq List.not_mem_nil) dX3_has_25
  · have h := pf_neg h c1
    refine lv_iload_n hx hb dX3_has_4 rfl (lv_at hl 1 rfl) ?_
    refine lv_bipush (v := 63) hx hb dX3_has_5 (by decide) ?_
    refine lv_icmp_ge (tgt := 24) hx hb dX3_has_7 (by decide) (fun c7 => ?_) (fun c7 => ?_)
    · have h := pf_pos h c7
      refine lv_iconst (v := 0) hx hb dX3_has_24 (by decide) ?_
      exact W.zret hx hb hr rfl (fun t ht _ => ⟨pf_ri h, ht⟩) (fun q hq => absurd hq List.not_mem_nil) dX3_has_25
    · have h := pf_neg h c7
      refine lv_lload_n hx hb dX3_has_10 rfl (lv_at hl 0 rfl) ?_
      refine lv_iload_n hx hb dX3_has_11 rfl (lv_at hl 1 rfl) ?_
      refine pf_lshr hx hb dX3_has_12 ?_
      refine lv_lconst (v := 1) hx hb dX3_has_13 (by decide) ?_
      refine lv_land hx hb dX3_has_14 ?_
      refine lv_lconst (v := 0) hx hb dX3_has_15 (by decide) ?_
      refine W.lcmp hx hb dX3_has_16 ?_
      refine lv_if_eq (tgt := 24) hx hb dX3_has_17 (by decide) (fun c17 => ?_) (fun c17 => ?_)
      · have h := pf_pos h ((lg_cmp_eq _ _).mp c17)
        refine lv_iconst (v := 0) hx hb dX3_has_24 (by decide) ?_
        exact W.zret hx hb hr rfl (fun t ht _ => ⟨pf_ri h, ht⟩) (fun q hq => absurd hq List.not_mem_nil) dX3_has_25
      · have h := pf_neg h (fun q => c17 ((lg_cmp_eq _ _).mpr q))
        refine lv_iconst (v := 1) hx hb dX3_has_20 (by decide) ?_
        refine lv_goto (tgt := 25) hx hb dX3_has_21 (by decide) ?_
        exact W.zret hx hb hr rfl (fun t ht _ => ⟨pf_ri h, ht⟩) (fun q hq => absurd hq List.not_mem_nil) dX3_has_25
-- J13_bitCount_95d88
def p_J13_bitCount_95d88 (y0 : Int64) : Option Int32 :=
  ((some (((y0 - ((jushr y0 (1 : Int32)) &&& (6148914691236517205 : Int64))) &&& (3689348814741910323 : Int64)) + ((jushr (y0 - ((jushr y0 (1 : Int32)) &&& (6148914691236517205 : Int64))) (2 : Int32)) &&& (3689348814741910323 : Int64)))).bind fun w23 => ((some (((w23 + (jushr w23 (4 : Int32))) &&& (1085102592571150095 : Int64)) + (jushr ((w23 + (jushr w23 (4 : Int32))) &&& (1085102592571150095 : Int64)) (8 : Int32)))).bind fun w40 => ((some ((w40 + (jushr w40 (16 : Int32))) + (jushr (w40 + (jushr w40 (16 : Int32))) (32 : Int32)))).bind fun w54 => some ((w54).toInt32 &&& (127 : Int32)))))
theorem kd_J13_bitCount_95d88 : yJ13_bitCount_95d88.cls ≠ "java/lang/invoke/MethodHandle" ∧ yJ13_bitCount_95d88.cls ≠ "java/lang/invoke/VarHandle" ∧ (parseMethodDescriptor yJ13_bitCount_95d88.desc).map (fun d => d.parameters.length) = some 1 := by decide +kernel
set_option maxHeartbeats 4000000 in
set_option maxRecDepth 100000 in
theorem c_J13_bitCount_95d88 (l : Launch) (y0 : Int64) (r : Int32) (h : p_J13_bitCount_95d88 y0 = some r) : Met l yJ13_bitCount_95d88 wsJ13_bitCount_95d88 { frames := 0, cells := 0, slots := 0, locals := 0 } (fun v _ => v = ([.long y0] : List Value).toArray) (k2_QcV (.int r)) 0 0 (fun _ => False) := by
  refine Met.ofW (cc := cJ13_bitCount_95d88) (maxL := 2) (ret := some .int) (by decide) rfl ?_
  intro p e s m args below meth c s₁ B hml hv
  subst hv
  have hx := B.exec
  have hb := B.bytes
  have hr := B.returns
  have hts := atoms_spec (ws := wsJ13_bitCount_95d88) B.pre
  have hown : s.vm.findClass RJ13 = some m.cls := findClass_of_methodNamed B.named
  have hlocks := B.notSynchronized
  have S0 : CallFix p m c cJ13_bitCount_95d88 2 s ([.long y0] : List Value).toArray wsJ13_bitCount_95d88 RJ13 := ⟨hx, hb, hml, hown, hts⟩
  have hl := lv_entry [.long y0] (n := 2) (Nat.le_of_ble_eq_true rfl)
  rw [lg_entry_eq]
  generalize (lg_sl [.long y0] ++ List.replicate (2 - (lg_sl [.long y0]).length) Slot.unset).toArray = ls at hl ⊢
  have hl : lv_has ls 2 [(0, .long y0)] := hl
  unfold p_J13_bitCount_95d88 at h
  refine lv_lload_n hx hb dJ13_bitCount_95d88_0 rfl (lv_at hl 0 rfl) ?_
  refine lv_lload_n hx hb dJ13_bitCount_95d88_1 rfl (lv_at hl 0 rfl) ?_
  refine lv_iconst (v := 1) hx hb dJ13_bitCount_95d88_2 (by decide) ?_
  refine pf_lushr hx hb dJ13_bitCount_95d88_3 ?_
  refine lv_ldc2 (v := 6148914691236517205) hx hb hown (hts (.constantLong RJ13 314 (6148914691236517205)) (by decide +kernel)) dJ13_bitCount_95d88_4 ?_
  refine lv_land hx hb dJ13_bitCount_95d88_7 ?_
  refine lv_lsub hx hb dJ13_bitCount_95d88_8 ?_
  refine lv_lstore_n (lv' := [(0, .long (y0 - ((jushr y0 (1 : Int32)) &&& (6148914691236517205 : Int64))))]) hx hb dJ13_bitCount_95d88_9 rfl hl (by decide) rfl (fun ls hl => ?_)
  refine lv_lload_n hx hb dJ13_bitCount_95d88_10 rfl (lv_at hl 0 rfl) ?_
  refine lv_ldc2 (v := 3689348814741910323) hx hb hown (hts (.constantLong RJ13 316 (3689348814741910323)) (by decide +kernel)) dJ13_bitCount_95d88_11 ?_
  refine lv_land hx hb dJ13_bitCount_95d88_14 ?_
  refine lv_lload_n hx hb dJ13_bitCount_95d88_15 rfl (lv_at hl 0 rfl) ?_
  refine lv_iconst (v := 2) hx hb dJ13_bitCount_95d88_16 (by decide) ?_
  refine pf_lushr hx hb dJ13_bitCount_95d88_17 ?_
  refine lv_ldc2 (v := 3689348814741910323) hx hb hown (hts (.constantLong RJ13 316 (3689348814741910323)) (by decide +kernel)) dJ13_bitCount_95d88_18 ?_
  refine lv_land hx hb dJ13_bitCount_95d88_21 ?_
  refine lv_ladd hx hb dJ13_bitCount_95d88_22 ?_
  obtain ⟨w23, hw23, h⟩ := pf_bind h
  refine pf_topl hw23 ?_
  refine lv_lstore_n (lv' := [(0, .long w23)]) hx hb dJ13_bitCount_95d88_23 rfl hl (by decide) rfl (fun ls hl => ?_)
  refine lv_lload_n hx hb dJ13_bitCount_95d88_24 rfl (lv_at hl 0 rfl) ?_
  refine lv_lload_n hx hb dJ13_bitCount_95d88_25 rfl (lv_at hl 0 rfl) ?_
  refine lv_iconst (v := 4) hx hb dJ13_bitCount_95d88_26 (by decide) ?_
  refine pf_lushr hx hb dJ13_bitCount_95d88_27 ?_
  refine lv_ladd hx hb dJ13_bitCount_95d88_28 ?_
  refine lv_ldc2 (v := 1085102592571150095) hx hb hown (hts (.constantLong RJ13 318 (1085102592571150095)) (by decide +kernel)) dJ13_bitCount_95d88_29 ?_
  refine lv_land hx hb dJ13_bitCount_95d88_32 ?_
  refine lv_lstore_n (lv' := [(0, .long ((w23 + (jushr w23 (4 : Int32))) &&& (1085102592571150095 : Int64)))]) hx hb dJ13_bitCount_95d88_33 rfl hl (by decide) rfl (fun ls hl => ?_)
  refine lv_lload_n hx hb dJ13_bitCount_95d88_34 rfl (lv_at hl 0 rfl) ?_
  refine lv_lload_n hx hb dJ13_bitCount_95d88_35 rfl (lv_at hl 0 rfl) ?_
  refine lv_bipush (v := 8) hx hb dJ13_bitCount_95d88_36 (by decide) ?_
  refine pf_lushr hx hb dJ13_bitCount_95d88_38 ?_
  refine lv_ladd hx hb dJ13_bitCount_95d88_39 ?_
  obtain ⟨w40, hw40, h⟩ := pf_bind h
  refine pf_topl hw40 ?_
  refine lv_lstore_n (lv' := [(0, .long w40)]) hx hb dJ13_bitCount_95d88_40 rfl hl (by decide) rfl (fun ls hl => ?_)
  refine lv_lload_n hx hb dJ13_bitCount_95d88_41 rfl (lv_at hl 0 rfl) ?_
  refine lv_lload_n hx hb dJ13_bitCount_95d88_42 rfl (lv_at hl 0 rfl) ?_
  refine lv_bipush (v := 16) hx hb dJ13_bitCount_95d88_43 (by decide) ?_
  refine pf_lushr hx hb dJ13_bitCount_95d88_45 ?_
  refine lv_ladd hx hb dJ13_bitCount_95d88_46 ?_
  refine lv_lstore_n (lv' := [(0, .long (w40 + (jushr w40 (16 : Int32))))]) hx hb dJ13_bitCount_95d88_47 rfl hl (by decide) rfl (fun ls hl => ?_)
  refine lv_lload_n hx hb dJ13_bitCount_95d88_48 rfl (lv_at hl 0 rfl) ?_
  refine lv_lload_n hx hb dJ13_bitCount_95d88_49 rfl (lv_at hl 0 rfl) ?_
  refine lv_bipush (v := 32) hx hb dJ13_bitCount_95d88_50 (by decide) ?_
  refine pf_lushr hx hb dJ13_bitCount_95d88_52 ?_
  refine lv_ladd hx hb dJ13_bitCount_95d88_53 ?_
  obtain ⟨w54, hw54, h⟩ := pf_bind h
  refine pf_topl hw54 ?_
  refine lv_lstore_n (lv' := [(0, .long w54)]) hx hb dJ13_bitCount_95d88_54 rfl hl (by decide) rfl (fun ls hl => ?_)
  refine lv_lload_n hx hb dJ13_bitCount_95d88_55 rfl (lv_at hl 0 rfl) ?_
  refine lv_l2i hx hb dJ13_bitCount_95d88_56 rfl ?_
  refine lv_bipush (v := 127) hx hb dJ13_bitCount_95d88_57 (by decide) ?_
  refine lv_iand hx hb dJ13_bitCount_95d88_59 ?_
  exact W.iret hx hb hr (fun t ht _ => ⟨pf_ri h, ht⟩) (fun q hq => absurd hq List.not_mem_nil) dJ13_bitCount_95d88_60
-- X3_size
def p_X3_size (y0 : Int64) : Option Int32 :=
  ((p_J13_bitCount_95d88 y0).bind fun v1 => some v1)
theorem kd_X3_size : yX3_size.cls ≠ "java/lang/invoke/MethodHandle" ∧ yX3_size.cls ≠ "java/lang/invoke/VarHandle" ∧ (parseMethodDescriptor yX3_size.desc).map (fun d => d.parameters.length) = some 1 := by decide +kernel
set_option maxHeartbeats 4000000 in
set_option maxRecDepth 100000 in
theorem c_X3_size (l : Launch) (y0 : Int64) (r : Int32) (h : p_X3_size y0 = some r) : Met l yX3_size wsX3_size { frames := 1, cells := 0, slots := 0, locals := 21 } (fun v _ => v = ([.long y0] : List Value).toArray) (k2_QcV (.int r)) 0 0 (fun _ => False) := by
  refine Met.ofW (cc := cX3_size) (maxL := 2) (ret := some .int) (by decide) rfl ?_
  intro p e s m args below meth c s₁ B hml hv
  subst hv
  have hx := B.exec
  have hb := B.bytes
  have hr := B.returns
  have hts := atoms_spec (ws := wsX3_size) B.pre
  have hown : s.vm.findClass RX3 = some m.cls := findClass_of_methodNamed B.named
  have hlocks := B.notSynchronized
  have S0 : CallFix p m c cX3_size 2 s ([.long y0] : List Value).toArray wsX3_size RX3 := ⟨hx, hb, hml, hown, hts⟩
  have hl := lv_entry [.long y0] (n := 2) (Nat.le_of_ble_eq_true rfl)
  rw [lg_entry_eq]
  generalize (lg_sl [.long y0] ++ List.replicate (2 - (lg_sl [.long y0]).length) Slot.unset).toArray = ls at hl ⊢
  have hl : lv_has ls 2 [(0, .long y0)] := hl
  unfold p_X3_size at h
  refine lv_lload_n hx hb dX3_size_0 rfl (lv_at hl 0 rfl) ?_
  obtain ⟨v1, hv1, h⟩ := pf_bind h
  refine pf_call (As := [.long y0]) (rest := []) S0 (c_J13_bitCount_95d88 l y0 v1 hv1) (va_cwS 1 hts gX3_size_J13_bitCount_95d88 rfl rfl rfl kd_J13_bitCount_95d88 ⟨Nat.le_of_ble_eq_true rfl, Nat.le_of_ble_eq_true rfl⟩) rfl hl.1 rfl (Nat.le_of_ble_eq_true rfl) dX3_size_1 ⟨Nat.zero_le _, Nat.zero_le _⟩ ?_
  exact W.iret hx hb hr (fun t ht _ => ⟨pf_ri h, ht⟩) (fun q hq => absurd hq List.not_mem_nil) dX3_size_4
-- X6_greatestDivisor
def e_X6_greatestDivisor_34 (x2 : Int32) : Option Int32 :=
  some x2
def s_X6_greatestDivisor_7 (x2 : Int32) (x3 : Int32) (x4 : Int32) : Option ((Int32 × Int32 × Int32) ⊕ (Int32)) :=
  (if (63 : Int32) ≤ x4 then some (Sum.inr x2) else (if x3 ≤ 0 then some (Sum.inr x2) else (if x3 = 0 then none else some (Sum.inl (x3, (jrem x2 x3), (x4 + (1 : Int32)))))))
def a_X6_greatestDivisor_7  (b : Int32) : Option Int32 := (fun q : Int32 => e_X6_greatestDivisor_34 q) b
def g_X6_greatestDivisor_7 (x2 : Int32) (x3 : Int32) (x4 : Int32) : Option Int32 := (lpF (fun q : (Int32 × Int32 × Int32) => s_X6_greatestDivisor_7 q.1 q.2.1 q.2.2) pfFU (x2, x3, x4)).bind (a_X6_greatestDivisor_7 )
def p_X6_greatestDivisor (y0 : Int32) (y1 : Int32) : Option Int32 :=
  g_X6_greatestDivisor_7 y0 y1 (0 : Int32)
theorem kd_X6_greatestDivisor : yX6_greatestDivisor.cls ≠ "java/lang/invoke/MethodHandle" ∧ yX6_greatestDivisor.cls ≠ "java/lang/invoke/VarHandle" ∧ (parseMethodDescriptor yX6_greatestDivisor.desc).map (fun d => d.parameters.length) = some 2 := by decide +kernel
set_option maxHeartbeats 4000000 in
set_option maxRecDepth 100000 in
theorem c_X6_greatestDivisor (l : Launch) (y0 : Int32) (y1 : Int32) (r : Int32) (h : p_X6_greatestDivisor y0 y1 = some r) : Met l yX6_greatestDivisor wsX6_greatestDivisor { frames := 0, cells := 0, slots := 0, locals := 0 } (fun v _ => v = ([.int y0, .int y1] : List Value).toArray) (k2_QcV (.int r)) 0 0 (fun _ => False) := by
  refine Met.ofW (cc := cX6_greatestDivisor) (maxL := 6) (ret := some .int) (by decide) rfl ?_
  intro p e s m args below meth c s₁ B hml hv
  subst hv
  have hx := B.exec
  have hb := B.bytes
  have hr := B.returns
  have hts := atoms_spec (ws := wsX6_greatestDivisor) B.pre
  have hown : s.vm.findClass RX6 = some m.cls := findClass_of_methodNamed B.named
  have hlocks := B.notSynchronized
  have S0 : CallFix p m c cX6_greatestDivisor 6 s ([.int y0, .int y1] : List Value).toArray wsX6_greatestDivisor RX6 := ⟨hx, hb, hml, hown, hts⟩
  have hl := lv_entry [.int y0, .int y1] (n := 6) (Nat.le_of_ble_eq_true rfl)
  rw [lg_entry_eq]
  generalize (lg_sl [.int y0, .int y1] ++ List.replicate (6 - (lg_sl [.int y0, .int y1]).length) Slot.unset).toArray = ls at hl ⊢
  have hl : lv_has ls 6 [(0, .int y0), (1, .int y1)] := hl
  have K34 : ∀ (x2 : Int32), e_X6_greatestDivisor_34 x2 = some r → ∀ ls, lv_has ls 6 [(2, .int x2)] → W p l e (headSpec wsX6_greatestDivisor { frames := 0, cells := 0, slots := 0, locals := 0 }).room s m ([.int y0, .int y1] : List Value).toArray below meth c s.heap [] 0 0 (MQ below (k2_QcV (.int r)) ([.int y0, .int y1] : List Value).toArray s 0 0 (fun _ => False)) (F0 m 34 ls []) := by
    intro x2 h ls hl
    unfold e_X6_greatestDivisor_34 at h
    refine lv_iload_n hx hb dX6_greatestDivisor_34 rfl (lv_at hl 0 rfl) ?_
    exact W.iret hx hb hr (fun t ht _ => ⟨pf_ri h, ht⟩) (fun q hq => absurd hq List.not_mem_nil) dX6_greatestDivisor_35
  have L7 : ∀ (n : Nat) (x2 : Int32) (x3 : Int32) (x4 : Int32) (b : Int32), lpF (fun q : (Int32 × Int32 × Int32) => s_X6_greatestDivisor_7 q.1 q.2.1 q.2.2) n (x2, x3, x4) = some b → a_X6_greatestDivisor_7 b = some r → ∀ ls, lv_has ls 6 [(2, .int x2), (3, .int x3), (4, .int x4)] → W p l e (headSpec wsX6_greatestDivisor { frames := 0, cells := 0, slots := 0, locals := 0 }).room s m ([.int y0, .int y1] : List Value).toArray below meth c s.heap [] 0 0 (MQ below (k2_QcV (.int r)) ([.int y0, .int y1] : List Value).toArray s 0 0 (fun _ => False)) (F0 m 7 ls []) := by
    intro n
    induction n with
    | zero => intro x2 x3 x4 b h; exact lp_zero h
    | succ n ih =>
      intro x2 x3 x4 b h ha ls hl
      obtain ⟨z7, h, hz⟩ := lp_open h
      have h : s_X6_greatestDivisor_7 x2 x3 x4 = some z7 := h
      unfold s_X6_greatestDivisor_7 at h
      refine lv_iload hx hb dX6_greatestDivisor_7 (lv_at hl 2 rfl) ?_
      refine lv_bipush (v := 63) hx hb dX6_greatestDivisor_9 (by decide) ?_
      refine lv_icmp_ge (tgt := 34) hx hb dX6_greatestDivisor_11 (by decide) (fun c11 => ?_) (fun c11 => ?_)
      · have h := pf_pos h c11
        have ha := pf_aft ha (lp_exit h hz)
        exact K34 x2 ha ls (lv_sub hl [0] rfl)
      · have h := pf_neg h c11
        refine lv_iload_n hx hb dX6_greatestDivisor_14 rfl (lv_at hl 1 rfl) ?_
        refine lv_if_le (tgt := 34) hx hb dX6_greatestDivisor_15 (by decide) (fun c15 => ?_) (fun c15 => ?_)
        · have h := pf_pos h c15
          have ha := pf_aft ha (lp_exit h hz)
          exact K34 x2 ha ls (lv_sub hl [0] rfl)
        · have h := pf_neg h c15
          refine lv_iload_n hx hb dX6_greatestDivisor_18 rfl (lv_at hl 0 rfl) ?_
          refine lv_iload_n hx hb dX6_greatestDivisor_19 rfl (lv_at hl 1 rfl) ?_
          obtain ⟨hd20, h⟩ := pf_guard h
          refine pf_irem hx hb dX6_greatestDivisor_20 hd20 ?_
          refine lv_istore (lv' := [(5, .int (jrem x2 x3)), (2, .int x2), (3, .int x3), (4, .int x4)]) hx hb dX6_greatestDivisor_21 hl (by decide) rfl (fun ls hl => ?_)
          refine lv_iload_n hx hb dX6_greatestDivisor_23 rfl (lv_at hl 2 rfl) ?_
          refine lv_istore_n (lv' := [(2, .int x3), (5, .int (jrem x2 x3)), (3, .int x3), (4, .int x4)]) hx hb dX6_greatestDivisor_24 rfl hl (by decide) rfl (fun ls hl => ?_)
          refine lv_iload hx hb dX6_greatestDivisor_25 (lv_at hl 1 rfl) ?_
          refine lv_istore_n (lv' := [(3, .int (jrem x2 x3)), (2, .int x3), (5, .int (jrem x2 x3)), (4, .int x4)]) hx hb dX6_greatestDivisor_27 rfl hl (by decide) rfl (fun ls hl => ?_)
          refine lv_iinc (v := (x4 + (1 : Int32))) (lv' := [(4, .int (x4 + (1 : Int32))), (3, .int (jrem x2 x3)), (2, .int x3), (5, .int (jrem x2 x3))]) hx hb dX6_greatestDivisor_28 hl (k := 3) rfl rfl (by decide) rfl (fun ls hl => ?_)
          refine lv_goto (tgt := 7) hx hb dX6_greatestDivisor_31 (by decide) ?_
          exact ih x3 (jrem x2 x3) (x4 + (1 : Int32)) b (lp_cont h hz) ha ls (lv_sub hl [2, 1, 0] rfl)
  have G7 : ∀ (x2 : Int32) (x3 : Int32) (x4 : Int32), g_X6_greatestDivisor_7 x2 x3 x4 = some r → ∀ ls, lv_has ls 6 [(2, .int x2), (3, .int x3), (4, .int x4)] → W p l e (headSpec wsX6_greatestDivisor { frames := 0, cells := 0, slots := 0, locals := 0 }).room s m ([.int y0, .int y1] : List Value).toArray below meth c s.heap [] 0 0 (MQ below (k2_QcV (.int r)) ([.int y0, .int y1] : List Value).toArray s 0 0 (fun _ => False)) (F0 m 7 ls []) := by
    intro x2 x3 x4 h ls hl
    unfold g_X6_greatestDivisor_7 at h
    obtain ⟨b, h, ha⟩ := pf_bind h
    exact L7 pfFU x2 x3 x4 b h ha ls hl
  unfold p_X6_greatestDivisor at h
  refine lv_iload_n hx hb dX6_greatestDivisor_0 rfl (lv_at hl 0 rfl) ?_
  refine lv_istore_n (lv' := [(2, .int y0), (0, .int y0), (1, .int y1)]) hx hb dX6_greatestDivisor_1 rfl hl (by decide) rfl (fun ls hl => ?_)
  refine lv_iload_n hx hb dX6_greatestDivisor_2 rfl (lv_at hl 2 rfl) ?_
  refine lv_istore_n (lv' := [(3, .int y1), (2, .int y0), (0, .int y0), (1, .int y1)]) hx hb dX6_greatestDivisor_3 rfl hl (by decide) rfl (fun ls hl => ?_)
  refine lv_iconst (v := 0) hx hb dX6_greatestDivisor_4 (by decide) ?_
  refine lv_istore (lv' := [(4, .int (0 : Int32)), (3, .int y1), (2, .int y0), (0, .int y0), (1, .int y1)]) hx hb dX6_greatestDivisor_5 hl (by decide) rfl (fun ls hl => ?_)
  exact G7 y0 y1 (0 : Int32) h ls (lv_sub hl [2, 1, 0] rfl)
-- X3_all
def e_X3_all_37 (x1 : Int64) : Option Int64 :=
  some x1
def s_X3_all_4 (x0 : Int32) (x1 : Int64) (x3 : Int32) : Option ((Int64 × Int32) ⊕ (Int64)) :=
  (if x0 ≤ x3 then some (Sum.inr x1) else (if (63 : Int32) ≤ x3 then some (Sum.inr x1) else ((p_X6_greatestDivisor x3 x0).bind fun v17 => (if v17 = (1 : Int32) then ((p_X3_bit x3).bind fun v26 => some (Sum.inl ((x1 ||| v26), (x3 + (1 : Int32))))) else some (Sum.inl (x1, (x3 + (1 : Int32))))))))
def a_X3_all_4  (b : Int64) : Option Int64 := (fun q : Int64 => e_X3_all_37 q) b
def g_X3_all_4 (x0 : Int32) (x1 : Int64) (x3 : Int32) : Option Int64 := (lpF (fun q : (Int64 × Int32) => s_X3_all_4 x0 q.1 q.2) pfFU (x1, x3)).bind (a_X3_all_4 )
def p_X3_all (y0 : Int32) : Option Int64 :=
  g_X3_all_4 y0 (0 : Int64) (0 : Int32)
theorem kd_X3_all : yX3_all.cls ≠ "java/lang/invoke/MethodHandle" ∧ yX3_all.cls ≠ "java/lang/invoke/VarHandle" ∧ (parseMethodDescriptor yX3_all.desc).map (fun d => d.parameters.length) = some 1 := by decide +kernel
set_option maxHeartbeats 4000000 in
set_option maxRecDepth 100000 in
theorem c_X3_all (l : Launch) (y0 : Int32) (r : Int64) (h : p_X3_all y0 = some r) : Met l yX3_all wsX3_all { frames := 1, cells := 0, slots := 0, locals := 25 } (fun v _ => v = ([.int y0] : List Value).toArray) (k2_QcV (.long r)) 0 0 (fun _ => False) := by
  refine Met.ofW (cc := cX3_all) (maxL := 4) (ret := some .long) (by decide) rfl ?_
  intro p e s m args below meth c s₁ B hml hv
  subst hv
  have hx := B.exec
  have hb := B.bytes
  have hr := B.returns
  have hts := atoms_spec (ws := wsX3_all) B.pre
  have hown : s.vm.findClass RX3 = some m.cls := findClass_of_methodNamed B.named
  have hlocks := B.notSynchronized
  have S0 : CallFix p m c cX3_all 4 s ([.int y0] : List Value).toArray wsX3_all RX3 := ⟨hx, hb, hml, hown, hts⟩
  have hl := lv_entry [.int y0] (n := 4) (Nat.le_of_ble_eq_true rfl)
  rw [lg_entry_eq]
  generalize (lg_sl [.int y0] ++ List.replicate (4 - (lg_sl [.int y0]).length) Slot.unset).toArray = ls at hl ⊢
  have hl : lv_has ls 4 [(0, .int y0)] := hl
  have K37 : ∀ (x1 : Int64), e_X3_all_37 x1 = some r → ∀ ls, lv_has ls 4 [(1, .long x1)] → W p l e (headSpec wsX3_all { frames := 1, cells := 0, slots := 0, locals := 25 }).room s m ([.int y0] : List Value).toArray below meth c s.heap [] 0 0 (MQ below (k2_QcV (.long r)) ([.int y0] : List Value).toArray s 0 0 (fun _ => False)) (F0 m 37 ls []) := by
    intro x1 h ls hl
    unfold e_X3_all_37 at h
    refine lv_lload_n hx hb dX3_all_37 rfl (lv_at hl 0 rfl) ?_
    exact W.lret hx hb hr (fun t ht _ => ⟨pf_rl h, ht⟩) (fun q hq => absurd hq List.not_mem_nil) dX3_all_38
  have L4 : ∀ (n : Nat) (x0 : Int32) (x1 : Int64) (x3 : Int32) (b : Int64), lpF (fun q : (Int64 × Int32) => s_X3_all_4 x0 q.1 q.2) n (x1, x3) = some b → a_X3_all_4 b = some r → ∀ ls, lv_has ls 4 [(0, .int x0), (1, .long x1), (3, .int x3)] → W p l e (headSpec wsX3_all { frames := 1, cells := 0, slots := 0, locals := 25 }).room s m ([.int y0] : List Value).toArray below meth c s.heap [] 0 0 (MQ below (k2_QcV (.long r)) ([.int y0] : List Value).toArray s 0 0 (fun _ => False)) (F0 m 4 ls []) := by
    intro n
    induction n with
    | zero => intro x0 x1 x3 b h; exact lp_zero h
    | succ n ih =>
      intro x0 x1 x3 b h ha ls hl
      obtain ⟨z4, h, hz⟩ := lp_open h
      have h : s_X3_all_4 x0 x1 x3 = some z4 := h
      unfold s_X3_all_4 at h
      refine lv_iload_n hx hb dX3_all_4 rfl (lv_at hl 2 rfl) ?_
      refine lv_iload_n hx hb dX3_all_5 rfl (lv_at hl 0 rfl) ?_
      refine lv_icmp_ge (tgt := 37) hx hb dX3_all_6 (by decide) (fun c6 => ?_) (fun c6 => ?_)
      · have h := pf_pos h c6
        have ha := pf_aft ha (lp_exit h hz)
        exact K37 x1 ha ls (lv_sub hl [1] rfl)
      · have h := pf_neg h c6
        refine lv_iload_n hx hb dX3_all_9 rfl (lv_at hl 2 rfl) ?_
        refine lv_bipush (v := 63) hx hb dX3_all_10 (by decide) ?_
        refine lv_icmp_ge (tgt := 37) hx hb dX3_all_12 (by decide) (fun c12 => ?_) (fun c12 => ?_)
        · have h := pf_pos h c12
          have ha := pf_aft ha (lp_exit h hz)
          exact K37 x1 ha ls (lv_sub hl [1] rfl)
        · have h := pf_neg h c12
          refine lv_iload_n hx hb dX3_all_15 rfl (lv_at hl 2 rfl) ?_
          refine lv_iload_n hx hb dX3_all_16 rfl (lv_at hl 0 rfl) ?_
          obtain ⟨v17, hv17, h⟩ := pf_bind h
          refine pf_call (As := [.int x3, .int x0]) (rest := []) S0 (c_X6_greatestDivisor l x3 x0 v17 hv17) (va_cwS 2 hts gX3_all_X6_greatestDivisor rfl rfl rfl kd_X6_greatestDivisor ⟨Nat.le_of_ble_eq_true rfl, Nat.le_of_ble_eq_true rfl⟩) rfl hl.1 rfl (Nat.le_of_ble_eq_true rfl) dX3_all_17 ⟨Nat.zero_le _, Nat.zero_le _⟩ ?_
          refine lv_iconst (v := 1) hx hb dX3_all_20 (by decide) ?_
          refine lv_icmp_ne (tgt := 31) hx hb dX3_all_21 (by decide) (fun c21 => ?_) (fun c21 => ?_)
          · have h := pf_neg h c21
            refine lv_iinc (v := (x3 + (1 : Int32))) (lv' := [(3, .int (x3 + (1 : Int32))), (0, .int x0), (1, .long x1)]) hx hb dX3_all_31 hl (k := 2) rfl rfl (by decide) rfl (fun ls hl => ?_)
            refine lv_goto (tgt := 4) hx hb dX3_all_34 (by decide) ?_
            exact ih x0 x1 (x3 + (1 : Int32)) b (lp_cont h hz) ha ls (lv_sub hl [1, 2, 0] rfl)
          · have h := pf_pos h c21
            refine lv_lload_n hx hb dX3_all_24 rfl (lv_at hl 1 rfl) ?_
            refine lv_iload_n hx hb dX3_all_25 rfl (lv_at hl 2 rfl) ?_
            obtain ⟨v26, hv26, h⟩ := pf_bind h
            refine pf_call (As := [.int x3]) (rest := [.long x1]) S0 (c_X3_bit l x3 v26 hv26) (va_cwS 1 hts gX3_all_X3_bit rfl rfl rfl kd_X3_bit ⟨Nat.le_of_ble_eq_true rfl, Nat.le_of_ble_eq_true rfl⟩) rfl hl.1 rfl (Nat.le_of_ble_eq_true rfl) dX3_all_26 ⟨Nat.zero_le _, Nat.zero_le _⟩ ?_
            refine lv_lor hx hb dX3_all_29 ?_
            refine lv_lstore_n (lv' := [(1, .long (x1 ||| v26)), (0, .int x0), (3, .int x3)]) hx hb dX3_all_30 rfl hl (by decide) rfl (fun ls hl => ?_)
            refine lv_iinc (v := (x3 + (1 : Int32))) (lv' := [(3, .int (x3 + (1 : Int32))), (1, .long (x1 ||| v26)), (0, .int x0)]) hx hb dX3_all_31 hl (k := 2) rfl rfl (by decide) rfl (fun ls hl => ?_)
            refine lv_goto (tgt := 4) hx hb dX3_all_34 (by decide) ?_
            exact ih x0 (x1 ||| v26) (x3 + (1 : Int32)) b (lp_cont h hz) ha ls (lv_sub hl [2, 1, 0] rfl)
  have G4 : ∀ (x0 : Int32) (x1 : Int64) (x3 : Int32), g_X3_all_4 x0 x1 x3 = some r → ∀ ls, lv_has ls 4 [(0, .int x0), (1, .long x1), (3, .int x3)] → W p l e (headSpec wsX3_all { frames := 1, cells := 0, slots := 0, locals := 25 }).room s m ([.int y0] : List Value).toArray below meth c s.heap [] 0 0 (MQ below (k2_QcV (.long r)) ([.int y0] : List Value).toArray s 0 0 (fun _ => False)) (F0 m 4 ls []) := by
    intro x0 x1 x3 h ls hl
    unfold g_X3_all_4 at h
    obtain ⟨b, h, ha⟩ := pf_bind h
    exact L4 pfFU x0 x1 x3 b h ha ls hl
  unfold p_X3_all at h
  refine lv_lconst (v := 0) hx hb dX3_all_0 (by decide) ?_
  refine lv_lstore_n (lv' := [(1, .long (0 : Int64)), (0, .int y0)]) hx hb dX3_all_1 rfl hl (by decide) rfl (fun ls hl => ?_)
  refine lv_iconst (v := 0) hx hb dX3_all_2 (by decide) ?_
  refine lv_istore_n (lv' := [(3, .int (0 : Int32)), (1, .long (0 : Int64)), (0, .int y0)]) hx hb dX3_all_3 rfl hl (by decide) rfl (fun ls hl => ?_)
  exact G4 y0 (0 : Int64) (0 : Int32) h ls (lv_sub hl [2, 1, 0] rfl)
-- X6_rest
def p_X6_rest (y0 : Int32) (y1 : Int32) : Option Int32 :=
  (if (1 : Int32) ≤ y1 then (if y1 = 0 then none else some (jrem y0 y1)) else some (0 : Int32))
theorem kd_X6_rest : yX6_rest.cls ≠ "java/lang/invoke/MethodHandle" ∧ yX6_rest.cls ≠ "java/lang/invoke/VarHandle" ∧ (parseMethodDescriptor yX6_rest.desc).map (fun d => d.parameters.length) = some 2 := by decide +kernel
set_option maxHeartbeats 4000000 in
set_option maxRecDepth 100000 in
theorem c_X6_rest (l : Launch) (y0 : Int32) (y1 : Int32) (r : Int32) (h : p_X6_rest y0 y1 = some r) : Met l yX6_rest wsX6_rest { frames := 0, cells := 0, slots := 0, locals := 0 } (fun v _ => v = ([.int y0, .int y1] : List Value).toArray) (k2_QcV (.int r)) 0 0 (fun _ => False) := by
  refine Met.ofW (cc := cX6_rest) (maxL := 2) (ret := some .int) (by decide) rfl ?_
  intro p e s m args below meth c s₁ B hml hv
  subst hv
  have hx := B.exec
  have hb := B.bytes
  have hr := B.returns
  have hts := atoms_spec (ws := wsX6_rest) B.pre
  have hown : s.vm.findClass RX6 = some m.cls := findClass_of_methodNamed B.named
  have hlocks := B.notSynchronized
  have S0 : CallFix p m c cX6_rest 2 s ([.int y0, .int y1] : List Value).toArray wsX6_rest RX6 := ⟨hx, hb, hml, hown, hts⟩
  have hl := lv_entry [.int y0, .int y1] (n := 2) (Nat.le_of_ble_eq_true rfl)
  rw [lg_entry_eq]
  generalize (lg_sl [.int y0, .int y1] ++ List.replicate (2 - (lg_sl [.int y0, .int y1]).length) Slot.unset).toArray = ls at hl ⊢
  have hl : lv_has ls 2 [(0, .int y0), (1, .int y1)] := hl
  unfold p_X6_rest at h
  refine lv_iload_n hx hb dX6_rest_0 rfl (lv_at hl 1 rfl) ?_
  refine lv_iconst (v := 1) hx hb dX6_rest_1 (by decide) ?_
  refine lv_icmp_ge (tgt := 9) hx hb dX6_rest_2 (by decide) (fun c2 => ?_) (fun c2 => ?_)
  · have h := pf_pos h c2
    refine lv_iload_n hx hb dX6_rest_9 rfl (lv_at hl 0 rfl) ?_
    refine lv_iload_n hx hb dX6_rest_10 rfl (lv_at hl 1 rfl) ?_
    obtain ⟨hd11, h⟩ := pf_guard h
    refine pf_irem hx hb dX6_rest_11 hd11 ?_
    exact W.iret hx hb hr (fun t ht _ => ⟨pf_ri h, ht⟩) (fun q hq => absurd hq List.not_mem_nil) dX6_rest_12
  · have h := pf_neg h c2
    refine lv_iconst (v := 0) hx hb dX6_rest_5 (by decide) ?_
    refine lv_goto (tgt := 12) hx hb dX6_rest_6 (by decide) ?_
    exact W.iret hx hb hr (fun t ht _ => ⟨pf_ri h, ht⟩) (fun q hq => absurd hq List.not_mem_nil) dX6_rest_12
-- X3_one
def p_X3_one (y0 : Int32) : Option Int64 :=
  ((p_X6_rest (1 : Int32) y0).bind fun v2 => ((p_X3_bit v2).bind fun v5 => some v5))
theorem kd_X3_one : yX3_one.cls ≠ "java/lang/invoke/MethodHandle" ∧ yX3_one.cls ≠ "java/lang/invoke/VarHandle" ∧ (parseMethodDescriptor yX3_one.desc).map (fun d => d.parameters.length) = some 1 := by decide +kernel
set_option maxHeartbeats 4000000 in
set_option maxRecDepth 100000 in
theorem c_X3_one (l : Launch) (y0 : Int32) (r : Int64) (h : p_X3_one y0 = some r) : Met l yX3_one wsX3_one { frames := 1, cells := 0, slots := 0, locals := 21 } (fun v _ => v = ([.int y0] : List Value).toArray) (k2_QcV (.long r)) 0 0 (fun _ => False) := by
  refine Met.ofW (cc := cX3_one) (maxL := 1) (ret := some .long) (by decide) rfl ?_
  intro p e s m args below meth c s₁ B hml hv
  subst hv
  have hx := B.exec
  have hb := B.bytes
  have hr := B.returns
  have hts := atoms_spec (ws := wsX3_one) B.pre
  have hown : s.vm.findClass RX3 = some m.cls := findClass_of_methodNamed B.named
  have hlocks := B.notSynchronized
  have S0 : CallFix p m c cX3_one 1 s ([.int y0] : List Value).toArray wsX3_one RX3 := ⟨hx, hb, hml, hown, hts⟩
  have hl := lv_entry [.int y0] (n := 1) (Nat.le_of_ble_eq_true rfl)
  rw [lg_entry_eq]
  generalize (lg_sl [.int y0] ++ List.replicate (1 - (lg_sl [.int y0]).length) Slot.unset).toArray = ls at hl ⊢
  have hl : lv_has ls 1 [(0, .int y0)] := hl
  unfold p_X3_one at h
  refine lv_iconst (v := 1) hx hb dX3_one_0 (by decide) ?_
  refine lv_iload_n hx hb dX3_one_1 rfl (lv_at hl 0 rfl) ?_
  obtain ⟨v2, hv2, h⟩ := pf_bind h
  refine pf_call (As := [.int (1 : Int32), .int y0]) (rest := []) S0 (c_X6_rest l (1 : Int32) y0 v2 hv2) (va_cwS 2 hts gX3_one_X6_rest rfl rfl rfl kd_X6_rest ⟨Nat.le_of_ble_eq_true rfl, Nat.le_of_ble_eq_true rfl⟩) rfl hl.1 rfl (Nat.le_of_ble_eq_true rfl) dX3_one_2 ⟨Nat.zero_le _, Nat.zero_le _⟩ ?_
  obtain ⟨v5, hv5, h⟩ := pf_bind h
  refine pf_call (As := [.int v2]) (rest := []) S0 (c_X3_bit l v2 v5 hv5) (va_cwS 1 hts gX3_one_X3_bit rfl rfl rfl kd_X3_bit ⟨Nat.le_of_ble_eq_true rfl, Nat.le_of_ble_eq_true rfl⟩) rfl hl.1 rfl (Nat.le_of_ble_eq_true rfl) dX3_one_5 ⟨Nat.zero_le _, Nat.zero_le _⟩ ?_
  exact W.lret hx hb hr (fun t ht _ => ⟨pf_rl h, ht⟩) (fun q hq => absurd hq List.not_mem_nil) dX3_one_8
-- X3_times
def e_X3_times_43 (x4 : Int64) : Option Int64 :=
  some x4
def s_X3_times_6 (x0 : Int64) (x2 : Int32) (x3 : Int32) (x4 : Int64) (x6 : Int32) : Option ((Int64 × Int32) ⊕ (Int64)) :=
  (if x3 ≤ x6 then some (Sum.inr x4) else ((p_X3_has x0 x6).bind fun v15 => (if v15 = 0 then some (Sum.inl (x4, (x6 + (1 : Int32)))) else ((p_X6_rest (x2 * x6) x3).bind fun v28 => ((p_X3_bit v28).bind fun v31 => some (Sum.inl ((x4 ||| v31), (x6 + (1 : Int32)))))))))
def a_X3_times_6  (b : Int64) : Option Int64 := (fun q : Int64 => e_X3_times_43 q) b
def g_X3_times_6 (x0 : Int64) (x2 : Int32) (x3 : Int32) (x4 : Int64) (x6 : Int32) : Option Int64 := (lpF (fun q : (Int64 × Int32) => s_X3_times_6 x0 x2 x3 q.1 q.2) pfFU (x4, x6)).bind (a_X3_times_6 )
def p_X3_times (y0 : Int64) (y2 : Int32) (y3 : Int32) : Option Int64 :=
  g_X3_times_6 y0 y2 y3 (0 : Int64) (0 : Int32)
theorem kd_X3_times : yX3_times.cls ≠ "java/lang/invoke/MethodHandle" ∧ yX3_times.cls ≠ "java/lang/invoke/VarHandle" ∧ (parseMethodDescriptor yX3_times.desc).map (fun d => d.parameters.length) = some 3 := by decide +kernel
set_option maxHeartbeats 4000000 in
set_option maxRecDepth 100000 in
theorem c_X3_times (l : Launch) (y0 : Int64) (y2 : Int32) (y3 : Int32) (r : Int64) (h : p_X3_times y0 y2 y3 = some r) : Met l yX3_times wsX3_times { frames := 1, cells := 0, slots := 0, locals := 22 } (fun v _ => v = ([.long y0, .int y2, .int y3] : List Value).toArray) (k2_QcV (.long r)) 0 0 (fun _ => False) := by
  refine Met.ofW (cc := cX3_times) (maxL := 7) (ret := some .long) (by decide) rfl ?_
  intro p e s m args below meth c s₁ B hml hv
  subst hv
  have hx := B.exec
  have hb := B.bytes
  have hr := B.returns
  have hts := atoms_spec (ws := wsX3_times) B.pre
  have hown : s.vm.findClass RX3 = some m.cls := findClass_of_methodNamed B.named
  have hlocks := B.notSynchronized
  have S0 : CallFix p m c cX3_times 7 s ([.long y0, .int y2, .int y3] : List Value).toArray wsX3_times RX3 := ⟨hx, hb, hml, hown, hts⟩
  have hl := lv_entry [.long y0, .int y2, .int y3] (n := 7) (Nat.le_of_ble_eq_true rfl)
  rw [lg_entry_eq]
  generalize (lg_sl [.long y0, .int y2, .int y3] ++ List.replicate (7 - (lg_sl [.long y0, .int y2, .int y3]).length) Slot.unset).toArray = ls at hl ⊢
  have hl : lv_has ls 7 [(0, .long y0), (2, .int y2), (3, .int y3)] := hl
  have K43 : ∀ (x4 : Int64), e_X3_times_43 x4 = some r → ∀ ls, lv_has ls 7 [(4, .long x4)] → W p l e (headSpec wsX3_times { frames := 1, cells := 0, slots := 0, locals := 22 }).room s m ([.long y0, .int y2, .int y3] : List Value).toArray below meth c s.heap [] 0 0 (MQ below (k2_QcV (.long r)) ([.long y0, .int y2, .int y3] : List Value).toArray s 0 0 (fun _ => False)) (F0 m 43 ls []) := by
    intro x4 h ls hl
    unfold e_X3_times_43 at h
    refine lv_lload hx hb dX3_times_43 (lv_at hl 0 rfl) ?_
    exact W.lret hx hb hr (fun t ht _ => ⟨pf_rl h, ht⟩) (fun q hq => absurd hq List.not_mem_nil) dX3_times_45
  have L6 : ∀ (n : Nat) (x0 : Int64) (x2 : Int32) (x3 : Int32) (x4 : Int64) (x6 : Int32) (b : Int64), lpF (fun q : (Int64 × Int32) => s_X3_times_6 x0 x2 x3 q.1 q.2) n (x4, x6) = some b → a_X3_times_6 b = some r → ∀ ls, lv_has ls 7 [(0, .long x0), (2, .int x2), (3, .int x3), (4, .long x4), (6, .int x6)] → W p l e (headSpec wsX3_times { frames := 1, cells := 0, slots := 0, locals := 22 }).room s m ([.long y0, .int y2, .int y3] : List Value).toArray below meth c s.heap [] 0 0 (MQ below (k2_QcV (.long r)) ([.long y0, .int y2, .int y3] : List Value).toArray s 0 0 (fun _ => False)) (F0 m 6 ls []) := by
    intro n
    induction n with
    | zero => intro x0 x2 x3 x4 x6 b h; exact lp_zero h
    | succ n ih =>
      intro x0 x2 x3 x4 x6 b h ha ls hl
      obtain ⟨z6, h, hz⟩ := lp_open h
      have h : s_X3_times_6 x0 x2 x3 x4 x6 = some z6 := h
      unfold s_X3_times_6 at h
      refine lv_iload hx hb dX3_times_6 (lv_at hl 4 rfl) ?_
      refine lv_iload_n hx hb dX3_times_8 rfl (lv_at hl 2 rfl) ?_
      refine lv_icmp_ge (tgt := 43) hx hb dX3_times_9 (by decide) (fun c9 => ?_) (fun c9 => ?_)
      · have h := pf_pos h c9
        have ha := pf_aft ha (lp_exit h hz)
        exact K43 x4 ha ls (lv_sub hl [3] rfl)
      · have h := pf_neg h c9
        refine lv_lload_n hx hb dX3_times_12 rfl (lv_at hl 0 rfl) ?_
        refine lv_iload hx hb dX3_times_13 (lv_at hl 4 rfl) ?_
        obtain ⟨v15, hv15, h⟩ := pf_bind h
        refine pf_call (As := [.long x0, .int x6]) (rest := []) S0 (c_X3_has l x0 x6 v15 hv15) (va_cwS 2 hts gX3_times_X3_has rfl rfl rfl kd_X3_has ⟨Nat.le_of_ble_eq_true rfl, Nat.le_of_ble_eq_true rfl⟩) rfl hl.1 rfl (Nat.le_of_ble_eq_true rfl) dX3_times_15 ⟨Nat.zero_le _, Nat.zero_le _⟩ ?_
        refine lv_if_eq (tgt := 37) hx hb dX3_times_18 (by decide) (fun c18 => ?_) (fun c18 => ?_)
        · have h := pf_pos h c18
          refine lv_iinc (v := (x6 + (1 : Int32))) (lv' := [(6, .int (x6 + (1 : Int32))), (0, .long x0), (2, .int x2), (3, .int x3), (4, .long x4)]) hx hb dX3_times_37 hl (k := 4) rfl rfl (by decide) rfl (fun ls hl => ?_)
          refine lv_goto (tgt := 6) hx hb dX3_times_40 (by decide) ?_
          exact ih x0 x2 x3 x4 (x6 + (1 : Int32)) b (lp_cont h hz) ha ls (lv_sub hl [1, 2, 3, 4, 0] rfl)
        · have h := pf_neg h c18
          refine lv_lload hx hb dX3_times_21 (lv_at hl 3 rfl) ?_
          refine lv_iload_n hx hb dX3_times_23 rfl (lv_at hl 1 rfl) ?_
          refine lv_iload hx hb dX3_times_24 (lv_at hl 4 rfl) ?_
          refine lv_imul hx hb dX3_times_26 ?_
          refine lv_iload_n hx hb dX3_times_27 rfl (lv_at hl 2 rfl) ?_
          obtain ⟨v28, hv28, h⟩ := pf_bind h
          refine pf_call (As := [.int (x2 * x6), .int x3]) (rest := [.long x4]) S0 (c_X6_rest l (x2 * x6) x3 v28 hv28) (va_cwS 2 hts gX3_times_X6_rest rfl rfl rfl kd_X6_rest ⟨Nat.le_of_ble_eq_true rfl, Nat.le_of_ble_eq_true rfl⟩) rfl hl.1 rfl (Nat.le_of_ble_eq_true rfl) dX3_times_28 ⟨Nat.zero_le _, Nat.zero_le _⟩ ?_
          obtain ⟨v31, hv31, h⟩ := pf_bind h
          refine pf_call (As := [.int v28]) (rest := [.long x4]) S0 (c_X3_bit l v28 v31 hv31) (va_cwS 1 hts gX3_times_X3_bit rfl rfl rfl kd_X3_bit ⟨Nat.le_of_ble_eq_true rfl, Nat.le_of_ble_eq_true rfl⟩) rfl hl.1 rfl (Nat.le_of_ble_eq_true rfl) dX3_times_31 ⟨Nat.zero_le _, Nat.zero_le _⟩ ?_
          refine lv_lor hx hb dX3_times_34 ?_
          refine lv_lstore (lv' := [(4, .long (x4 ||| v31)), (0, .long x0), (2, .int x2), (3, .int x3), (6, .int x6)]) hx hb dX3_times_35 hl (by decide) rfl (fun ls hl => ?_)
          refine lv_iinc (v := (x6 + (1 : Int32))) (lv' := [(6, .int (x6 + (1 : Int32))), (4, .long (x4 ||| v31)), (0, .long x0), (2, .int x2), (3, .int x3)]) hx hb dX3_times_37 hl (k := 4) rfl rfl (by decide) rfl (fun ls hl => ?_)
          refine lv_goto (tgt := 6) hx hb dX3_times_40 (by decide) ?_
          exact ih x0 x2 x3 (x4 ||| v31) (x6 + (1 : Int32)) b (lp_cont h hz) ha ls (lv_sub hl [2, 3, 4, 1, 0] rfl)
  have G6 : ∀ (x0 : Int64) (x2 : Int32) (x3 : Int32) (x4 : Int64) (x6 : Int32), g_X3_times_6 x0 x2 x3 x4 x6 = some r → ∀ ls, lv_has ls 7 [(0, .long x0), (2, .int x2), (3, .int x3), (4, .long x4), (6, .int x6)] → W p l e (headSpec wsX3_times { frames := 1, cells := 0, slots := 0, locals := 22 }).room s m ([.long y0, .int y2, .int y3] : List Value).toArray below meth c s.heap [] 0 0 (MQ below (k2_QcV (.long r)) ([.long y0, .int y2, .int y3] : List Value).toArray s 0 0 (fun _ => False)) (F0 m 6 ls []) := by
    intro x0 x2 x3 x4 x6 h ls hl
    unfold g_X3_times_6 at h
    obtain ⟨b, h, ha⟩ := pf_bind h
    exact L6 pfFU x0 x2 x3 x4 x6 b h ha ls hl
  unfold p_X3_times at h
  refine lv_lconst (v := 0) hx hb dX3_times_0 (by decide) ?_
  refine lv_lstore (lv' := [(4, .long (0 : Int64)), (0, .long y0), (2, .int y2), (3, .int y3)]) hx hb dX3_times_1 hl (by decide) rfl (fun ls hl => ?_)
  refine lv_iconst (v := 0) hx hb dX3_times_3 (by decide) ?_
  refine lv_istore (lv' := [(6, .int (0 : Int32)), (4, .long (0 : Int64)), (0, .long y0), (2, .int y2), (3, .int y3)]) hx hb dX3_times_4 hl (by decide) rfl (fun ls hl => ?_)
  exact G6 y0 y2 y3 (0 : Int64) (0 : Int32) h ls (lv_sub hl [2, 3, 4, 1, 0] rfl)
-- X3_product
def e_X3_product_48 (x5 : Int64) : Option Int64 :=
  some x5
def s_X3_product_6 (x0 : Int64) (x2 : Int64) (x4 : Int32) (x5 : Int64) (x7 : Int32) : Option ((Int64 × Int32) ⊕ (Int64)) :=
  (if x4 ≤ x7 then some (Sum.inr x5) else ((p_X3_has (x2 &&& (x5 ^^^ (-1 : Int64))) x7).bind fun v23 => (if v23 = 0 then some (Sum.inl (x5, (x7 + (1 : Int32)))) else ((p_X3_times x0 x7 x4).bind fun v36 => some (Sum.inl ((x5 ||| v36), (x7 + (1 : Int32))))))))
def a_X3_product_6  (b : Int64) : Option Int64 := (fun q : Int64 => e_X3_product_48 q) b
def g_X3_product_6 (x0 : Int64) (x2 : Int64) (x4 : Int32) (x5 : Int64) (x7 : Int32) : Option Int64 := (lpF (fun q : (Int64 × Int32) => s_X3_product_6 x0 x2 x4 q.1 q.2) pfFU (x5, x7)).bind (a_X3_product_6 )
def p_X3_product (y0 : Int64) (y2 : Int64) (y4 : Int32) : Option Int64 :=
  g_X3_product_6 y0 y2 y4 y0 (0 : Int32)
theorem kd_X3_product : yX3_product.cls ≠ "java/lang/invoke/MethodHandle" ∧ yX3_product.cls ≠ "java/lang/invoke/VarHandle" ∧ (parseMethodDescriptor yX3_product.desc).map (fun d => d.parameters.length) = some 3 := by decide +kernel
set_option maxHeartbeats 4000000 in
set_option maxRecDepth 100000 in
theorem c_X3_product (l : Launch) (y0 : Int64) (y2 : Int64) (y4 : Int32) (r : Int64) (h : p_X3_product y0 y2 y4 = some r) : Met l yX3_product wsX3_product { frames := 2, cells := 0, slots := 0, locals := 48 } (fun v _ => v = ([.long y0, .long y2, .int y4] : List Value).toArray) (k2_QcV (.long r)) 0 0 (fun _ => False) := by
  refine Met.ofW (cc := cX3_product) (maxL := 8) (ret := some .long) (by decide) rfl ?_
  intro p e s m args below meth c s₁ B hml hv
  subst hv
  have hx := B.exec
  have hb := B.bytes
  have hr := B.returns
  have hts := atoms_spec (ws := wsX3_product) B.pre
  have hown : s.vm.findClass RX3 = some m.cls := findClass_of_methodNamed B.named
  have hlocks := B.notSynchronized
  have S0 : CallFix p m c cX3_product 8 s ([.long y0, .long y2, .int y4] : List Value).toArray wsX3_product RX3 := ⟨hx, hb, hml, hown, hts⟩
  have hl := lv_entry [.long y0, .long y2, .int y4] (n := 8) (Nat.le_of_ble_eq_true rfl)
  rw [lg_entry_eq]
  generalize (lg_sl [.long y0, .long y2, .int y4] ++ List.replicate (8 - (lg_sl [.long y0, .long y2, .int y4]).length) Slot.unset).toArray = ls at hl ⊢
  have hl : lv_has ls 8 [(0, .long y0), (2, .long y2), (4, .int y4)] := hl
  have K48 : ∀ (x5 : Int64), e_X3_product_48 x5 = some r → ∀ ls, lv_has ls 8 [(5, .long x5)] → W p l e (headSpec wsX3_product { frames := 2, cells := 0, slots := 0, locals := 48 }).room s m ([.long y0, .long y2, .int y4] : List Value).toArray below meth c s.heap [] 0 0 (MQ below (k2_QcV (.long r)) ([.long y0, .long y2, .int y4] : List Value).toArray s 0 0 (fun _ => False)) (F0 m 48 ls []) := by
    intro x5 h ls hl
    unfold e_X3_product_48 at h
    refine lv_lload hx hb dX3_product_48 (lv_at hl 0 rfl) ?_
    exact W.lret hx hb hr (fun t ht _ => ⟨pf_rl h, ht⟩) (fun q hq => absurd hq List.not_mem_nil) dX3_product_50
  have L6 : ∀ (n : Nat) (x0 : Int64) (x2 : Int64) (x4 : Int32) (x5 : Int64) (x7 : Int32) (b : Int64), lpF (fun q : (Int64 × Int32) => s_X3_product_6 x0 x2 x4 q.1 q.2) n (x5, x7) = some b → a_X3_product_6 b = some r → ∀ ls, lv_has ls 8 [(0, .long x0), (2, .long x2), (4, .int x4), (5, .long x5), (7, .int x7)] → W p l e (headSpec wsX3_product { frames := 2, cells := 0, slots := 0, locals := 48 }).room s m ([.long y0, .long y2, .int y4] : List Value).toArray below meth c s.heap [] 0 0 (MQ below (k2_QcV (.long r)) ([.long y0, .long y2, .int y4] : List Value).toArray s 0 0 (fun _ => False)) (F0 m 6 ls []) := by
    intro n
    induction n with
    | zero => intro x0 x2 x4 x5 x7 b h; exact lp_zero h
    | succ n ih =>
      intro x0 x2 x4 x5 x7 b h ha ls hl
      obtain ⟨z6, h, hz⟩ := lp_open h
      have h : s_X3_product_6 x0 x2 x4 x5 x7 = some z6 := h
      unfold s_X3_product_6 at h
      refine lv_iload hx hb dX3_product_6 (lv_at hl 4 rfl) ?_
      refine lv_iload hx hb dX3_product_8 (lv_at hl 2 rfl) ?_
      refine lv_icmp_ge (tgt := 48) hx hb dX3_product_10 (by decide) (fun c10 => ?_) (fun c10 => ?_)
      · have h := pf_pos h c10
        have ha := pf_aft ha (lp_exit h hz)
        exact K48 x5 ha ls (lv_sub hl [3] rfl)
      · have h := pf_neg h c10
        refine lv_lload_n hx hb dX3_product_13 rfl (lv_at hl 1 rfl) ?_
        refine lv_lload hx hb dX3_product_14 (lv_at hl 3 rfl) ?_
        refine lv_ldc2 (v := -1) hx hb hown (hts (.constantLong RX3 34 (-1)) (by decide +kernel)) dX3_product_16 ?_
        refine lv_lxor hx hb dX3_product_19 ?_
        refine lv_land hx hb dX3_product_20 ?_
        refine lv_iload hx hb dX3_product_21 (lv_at hl 4 rfl) ?_
        obtain ⟨v23, hv23, h⟩ := pf_bind h
        refine pf_call (As := [.long (x2 &&& (x5 ^^^ (-1 : Int64))), .int x7]) (rest := []) S0 (c_X3_has l (x2 &&& (x5 ^^^ (-1 : Int64))) x7 v23 hv23) (va_cwS 2 hts gX3_product_X3_has rfl rfl rfl kd_X3_has ⟨Nat.le_of_ble_eq_true rfl, Nat.le_of_ble_eq_true rfl⟩) rfl hl.1 rfl (Nat.le_of_ble_eq_true rfl) dX3_product_23 ⟨Nat.zero_le _, Nat.zero_le _⟩ ?_
        refine lv_if_eq (tgt := 42) hx hb dX3_product_26 (by decide) (fun c26 => ?_) (fun c26 => ?_)
        · have h := pf_pos h c26
          refine lv_iinc (v := (x7 + (1 : Int32))) (lv' := [(7, .int (x7 + (1 : Int32))), (0, .long x0), (2, .long x2), (4, .int x4), (5, .long x5)]) hx hb dX3_product_42 hl (k := 4) rfl rfl (by decide) rfl (fun ls hl => ?_)
          refine lv_goto (tgt := 6) hx hb dX3_product_45 (by decide) ?_
          exact ih x0 x2 x4 x5 (x7 + (1 : Int32)) b (lp_cont h hz) ha ls (lv_sub hl [1, 2, 3, 4, 0] rfl)
        · have h := pf_neg h c26
          refine lv_lload hx hb dX3_product_29 (lv_at hl 3 rfl) ?_
          refine lv_lload_n hx hb dX3_product_31 rfl (lv_at hl 0 rfl) ?_
          refine lv_iload hx hb dX3_product_32 (lv_at hl 4 rfl) ?_
          refine lv_iload hx hb dX3_product_34 (lv_at hl 2 rfl) ?_
          obtain ⟨v36, hv36, h⟩ := pf_bind h
          refine pf_call (As := [.long x0, .int x7, .int x4]) (rest := [.long x5]) S0 (c_X3_times l x0 x7 x4 v36 hv36) (va_cwS 3 hts gX3_product_X3_times rfl rfl rfl kd_X3_times ⟨Nat.le_of_ble_eq_true rfl, Nat.le_of_ble_eq_true rfl⟩) rfl hl.1 rfl (Nat.le_of_ble_eq_true rfl) dX3_product_36 ⟨Nat.zero_le _, Nat.zero_le _⟩ ?_
          refine lv_lor hx hb dX3_product_39 ?_
          refine lv_lstore (lv' := [(5, .long (x5 ||| v36)), (0, .long x0), (2, .long x2), (4, .int x4), (7, .int x7)]) hx hb dX3_product_40 hl (by decide) rfl (fun ls hl => ?_)
          refine lv_iinc (v := (x7 + (1 : Int32))) (lv' := [(7, .int (x7 + (1 : Int32))), (5, .long (x5 ||| v36)), (0, .long x0), (2, .long x2), (4, .int x4)]) hx hb dX3_product_42 hl (k := 4) rfl rfl (by decide) rfl (fun ls hl => ?_)
          refine lv_goto (tgt := 6) hx hb dX3_product_45 (by decide) ?_
          exact ih x0 x2 x4 (x5 ||| v36) (x7 + (1 : Int32)) b (lp_cont h hz) ha ls (lv_sub hl [2, 3, 4, 1, 0] rfl)
  have G6 : ∀ (x0 : Int64) (x2 : Int64) (x4 : Int32) (x5 : Int64) (x7 : Int32), g_X3_product_6 x0 x2 x4 x5 x7 = some r → ∀ ls, lv_has ls 8 [(0, .long x0), (2, .long x2), (4, .int x4), (5, .long x5), (7, .int x7)] → W p l e (headSpec wsX3_product { frames := 2, cells := 0, slots := 0, locals := 48 }).room s m ([.long y0, .long y2, .int y4] : List Value).toArray below meth c s.heap [] 0 0 (MQ below (k2_QcV (.long r)) ([.long y0, .long y2, .int y4] : List Value).toArray s 0 0 (fun _ => False)) (F0 m 6 ls []) := by
    intro x0 x2 x4 x5 x7 h ls hl
    unfold g_X3_product_6 at h
    obtain ⟨b, h, ha⟩ := pf_bind h
    exact L6 pfFU x0 x2 x4 x5 x7 b h ha ls hl
  unfold p_X3_product at h
  refine lv_lload_n hx hb dX3_product_0 rfl (lv_at hl 0 rfl) ?_
  refine lv_lstore (lv' := [(5, .long y0), (0, .long y0), (2, .long y2), (4, .int y4)]) hx hb dX3_product_1 hl (by decide) rfl (fun ls hl => ?_)
  refine lv_iconst (v := 0) hx hb dX3_product_3 (by decide) ?_
  refine lv_istore (lv' := [(7, .int (0 : Int32)), (5, .long y0), (0, .long y0), (2, .long y2), (4, .int y4)]) hx hb dX3_product_4 hl (by decide) rfl (fun ls hl => ?_)
  exact G6 y0 y2 y4 y0 (0 : Int32) h ls (lv_sub hl [2, 3, 4, 1, 0] rfl)
