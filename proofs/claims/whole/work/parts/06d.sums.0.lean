-- X5_degree
def p_X5_degree (f_degree : Int32)  : Option Int32 :=
  some f_degree
theorem in_X5_degree_X5 : ∀ w ∈ u_ws RX5 TX5 6, w ∈ wsX5_degree := fun w h => List.mem_cons_of_mem _ (List.mem_append_right _ h)
theorem kv_X5_degree : yX5_degree.cls = RX5 ∧ yX5_degree.cls ≠ "java/lang/invoke/MethodHandle" ∧ yX5_degree.cls ≠ "java/lang/invoke/VarHandle" ∧ (parseMethodDescriptor yX5_degree.desc).map (fun d => d.parameters.length) = some 0 := by decide +kernel
set_option maxHeartbeats 4000000 in
set_option maxRecDepth 100000 in
theorem c_X5_degree (l : Launch) (G : va_G) (cI cJ cZ cS : ClassId) (q q_traces q_power q_next q_together q_numbers : Nat) (sz : Nat) (f_traces : (Nat → Int64)) (f_power : (Nat → Int64)) (f_next : (Nat → Int64)) (f_together : (Nat → Int64)) (f_numbers : (Nat → Int64)) (f_degree : Int32)  (r : Int32) (h : p_X5_degree f_degree  = some r) : Met l yX5_degree wsX5_degree { frames := 0, cells := 0, slots := 0, locals := 0 } (hb_pre G (hbT cI cJ cZ cS) [.ref q] sz [(q, .inr (4, [.ref q_traces, .ref q_power, .ref q_next, .ref q_together, .ref q_numbers, .int f_degree])), (q_traces, .inl (cJ, 63, .inr (.inl f_traces))), (q_power, .inl (cJ, 63, .inr (.inl f_power))), (q_next, .inl (cJ, 63, .inr (.inl f_next))), (q_together, .inl (cJ, 9, .inr (.inl f_together))), (q_numbers, .inl (cJ, 9, .inr (.inl f_numbers)))]) (hb_Qi G r [(q, .inr (4, [.ref q_traces, .ref q_power, .ref q_next, .ref q_together, .ref q_numbers, .int f_degree])), (q_traces, .inl (cJ, 63, .inr (.inl f_traces))), (q_power, .inl (cJ, 63, .inr (.inl f_power))), (q_next, .inl (cJ, 63, .inr (.inl f_next))), (q_together, .inl (cJ, 9, .inr (.inl f_together))), (q_numbers, .inl (cJ, 9, .inr (.inl f_numbers)))] (va_A [(q, .inr (4, [.ref q_traces, .ref q_power, .ref q_next, .ref q_together, .ref q_numbers, .int f_degree])), (q_traces, .inl (cJ, 63, .inr (.inl f_traces))), (q_power, .inl (cJ, 63, .inr (.inl f_power))), (q_next, .inl (cJ, 63, .inr (.inl f_next))), (q_together, .inl (cJ, 9, .inr (.inl f_together))), (q_numbers, .inl (cJ, 9, .inr (.inl f_numbers)))] sz)) 0 0 (va_A [(q, .inr (4, [.ref q_traces, .ref q_power, .ref q_next, .ref q_together, .ref q_numbers, .int f_degree])), (q_traces, .inl (cJ, 63, .inr (.inl f_traces))), (q_power, .inl (cJ, 63, .inr (.inl f_power))), (q_next, .inl (cJ, 63, .inr (.inl f_next))), (q_together, .inl (cJ, 9, .inr (.inl f_together))), (q_numbers, .inl (cJ, 9, .inr (.inl f_numbers)))] sz) := by
  refine hb_met (Qc := fun A => hb_Qi G r [(q, .inr (4, [.ref q_traces, .ref q_power, .ref q_next, .ref q_together, .ref q_numbers, .int f_degree])), (q_traces, .inl (cJ, 63, .inr (.inl f_traces))), (q_power, .inl (cJ, 63, .inr (.inl f_power))), (q_next, .inl (cJ, 63, .inr (.inl f_next))), (q_together, .inl (cJ, 9, .inr (.inl f_together))), (q_numbers, .inl (cJ, 9, .inr (.inl f_numbers)))] A) (cc := cX5_degree) (maxL := 1) (ret := some .int) (by decide) rfl (Nat.le_of_ble_eq_true rfl) ?_
  intro p e s m below meth c A hx hb hr hts hown hlocks hml hin hK hA hP hD hS ls hl
  have hown : s.vm.findClass RX5 = some m.cls := hown
  have S0 : CallFix p m c cX5_degree 1 s ([.ref q] : List Value).toArray wsX5_degree RX5 := ⟨hx, hb, hml, hown, hts⟩
  have hl : lv_has ls 1 [(0, .ref q)] := hl
  suffices hh : ∀ (H : Heap) (locs : List Loc), va_P G vwCl [(q, .inr (4, [.ref q_traces, .ref q_power, .ref q_next, .ref q_together, .ref q_numbers, .int f_degree])), (q_traces, .inl (cJ, 63, .inr (.inl f_traces))), (q_power, .inl (cJ, 63, .inr (.inl f_power))), (q_next, .inl (cJ, 63, .inr (.inl f_next))), (q_together, .inl (cJ, 9, .inr (.inl f_together))), (q_numbers, .inl (cJ, 9, .inr (.inl f_numbers)))] H → va_D A [(q, .inr (4, [.ref q_traces, .ref q_power, .ref q_next, .ref q_together, .ref q_numbers, .int f_degree])), (q_traces, .inl (cJ, 63, .inr (.inl f_traces))), (q_power, .inl (cJ, 63, .inr (.inl f_power))), (q_next, .inl (cJ, 63, .inr (.inl f_next))), (q_together, .inl (cJ, 9, .inr (.inl f_together))), (q_numbers, .inl (cJ, 9, .inr (.inl f_numbers)))] → va_S A s.heap H locs → W p l e (headSpec wsX5_degree { frames := 0, cells := 0, slots := 0, locals := 0 }).room s m ([.ref q] : List Value).toArray below meth c H locs 0 0 (MQ below (hb_Qi G r [(q, .inr (4, [.ref q_traces, .ref q_power, .ref q_next, .ref q_together, .ref q_numbers, .int f_degree])), (q_traces, .inl (cJ, 63, .inr (.inl f_traces))), (q_power, .inl (cJ, 63, .inr (.inl f_power))), (q_next, .inl (cJ, 63, .inr (.inl f_next))), (q_together, .inl (cJ, 9, .inr (.inl f_together))), (q_numbers, .inl (cJ, 9, .inr (.inl f_numbers)))] A) ([.ref q] : List Value).toArray s 0 0 A) (F0 m 0 ls []) from hh s.heap [] hP hD hS
  intro H locs hP hD hS
  unfold p_X5_degree at h
  refine lv_aload_n hx hb dX5_degree_0 rfl (lv_at hl 0 rfl) ?_
  refine va_get (D := G) (ci := 4) (v := .int f_degree) (C := RX5) (T := TX5) (N := 6) hx hb hts in_X5_degree_X5 hown hK.1 hP 0 rfl rfl 5 (by decide) (hts (.fieldLink RX5 27 "FieldsByClasses$Sums" "degree" "I") (by decide +kernel)) (fun _ h9 => h9) rfl dX5_degree_1 ?_
  cases h
  exact hb_iret hx hb hr hlocks hP hD hS dX5_degree_4
-- X5_numberAt
def p_X5_numberAt (f_numbers : (Nat → Int64)) (f_degree : Int32) (y1 : Int32) : Option Int64 :=
  (if (f_degree - y1) < 0 then some (0 : Int64) else (if (9 : Int32) ≤ (f_degree - y1) then some (0 : Int64) else (if ainB (f_degree - y1) 9 = true then some (f_numbers ((f_degree - y1)).toNatClampNeg) else none)))
theorem in_X5_numberAt_X5 : ∀ w ∈ u_ws RX5 TX5 6, w ∈ wsX5_numberAt := fun w h => List.mem_cons_of_mem _ (List.mem_append_right _ h)
theorem kv_X5_numberAt : yX5_numberAt.cls = RX5 ∧ yX5_numberAt.cls ≠ "java/lang/invoke/MethodHandle" ∧ yX5_numberAt.cls ≠ "java/lang/invoke/VarHandle" ∧ (parseMethodDescriptor yX5_numberAt.desc).map (fun d => d.parameters.length) = some 1 := by decide +kernel
set_option maxHeartbeats 4000000 in
set_option maxRecDepth 100000 in
theorem c_X5_numberAt (l : Launch) (G : va_G) (cI cJ cZ cS : ClassId) (q q_traces q_power q_next q_together q_numbers : Nat) (sz : Nat) (f_traces : (Nat → Int64)) (f_power : (Nat → Int64)) (f_next : (Nat → Int64)) (f_together : (Nat → Int64)) (f_numbers : (Nat → Int64)) (f_degree : Int32) (y1 : Int32) (r : Int64) (h : p_X5_numberAt f_numbers f_degree y1 = some r) : Met l yX5_numberAt wsX5_numberAt { frames := 0, cells := 0, slots := 0, locals := 0 } (hb_pre G (hbT cI cJ cZ cS) [.ref q, .int y1] sz [(q, .inr (4, [.ref q_traces, .ref q_power, .ref q_next, .ref q_together, .ref q_numbers, .int f_degree])), (q_traces, .inl (cJ, 63, .inr (.inl f_traces))), (q_power, .inl (cJ, 63, .inr (.inl f_power))), (q_next, .inl (cJ, 63, .inr (.inl f_next))), (q_together, .inl (cJ, 9, .inr (.inl f_together))), (q_numbers, .inl (cJ, 9, .inr (.inl f_numbers)))]) (hb_Ql G r [(q, .inr (4, [.ref q_traces, .ref q_power, .ref q_next, .ref q_together, .ref q_numbers, .int f_degree])), (q_traces, .inl (cJ, 63, .inr (.inl f_traces))), (q_power, .inl (cJ, 63, .inr (.inl f_power))), (q_next, .inl (cJ, 63, .inr (.inl f_next))), (q_together, .inl (cJ, 9, .inr (.inl f_together))), (q_numbers, .inl (cJ, 9, .inr (.inl f_numbers)))] (va_A [(q, .inr (4, [.ref q_traces, .ref q_power, .ref q_next, .ref q_together, .ref q_numbers, .int f_degree])), (q_traces, .inl (cJ, 63, .inr (.inl f_traces))), (q_power, .inl (cJ, 63, .inr (.inl f_power))), (q_next, .inl (cJ, 63, .inr (.inl f_next))), (q_together, .inl (cJ, 9, .inr (.inl f_together))), (q_numbers, .inl (cJ, 9, .inr (.inl f_numbers)))] sz)) 0 0 (va_A [(q, .inr (4, [.ref q_traces, .ref q_power, .ref q_next, .ref q_together, .ref q_numbers, .int f_degree])), (q_traces, .inl (cJ, 63, .inr (.inl f_traces))), (q_power, .inl (cJ, 63, .inr (.inl f_power))), (q_next, .inl (cJ, 63, .inr (.inl f_next))), (q_together, .inl (cJ, 9, .inr (.inl f_together))), (q_numbers, .inl (cJ, 9, .inr (.inl f_numbers)))] sz) := by
  refine hb_met (Qc := fun A => hb_Ql G r [(q, .inr (4, [.ref q_traces, .ref q_power, .ref q_next, .ref q_together, .ref q_numbers, .int f_degree])), (q_traces, .inl (cJ, 63, .inr (.inl f_traces))), (q_power, .inl (cJ, 63, .inr (.inl f_power))), (q_next, .inl (cJ, 63, .inr (.inl f_next))), (q_together, .inl (cJ, 9, .inr (.inl f_together))), (q_numbers, .inl (cJ, 9, .inr (.inl f_numbers)))] A) (cc := cX5_numberAt) (maxL := 3) (ret := some .long) (by decide) rfl (Nat.le_of_ble_eq_true rfl) ?_
  intro p e s m below meth c A hx hb hr hts hown hlocks hml hin hK hA hP hD hS ls hl
  have hown : s.vm.findClass RX5 = some m.cls := hown
  have S0 : CallFix p m c cX5_numberAt 3 s ([.ref q, .int y1] : List Value).toArray wsX5_numberAt RX5 := ⟨hx, hb, hml, hown, hts⟩
  have hl : lv_has ls 3 [(0, .ref q), (1, .int y1)] := hl
  suffices hh : ∀ (H : Heap) (locs : List Loc), va_P G vwCl [(q, .inr (4, [.ref q_traces, .ref q_power, .ref q_next, .ref q_together, .ref q_numbers, .int f_degree])), (q_traces, .inl (cJ, 63, .inr (.inl f_traces))), (q_power, .inl (cJ, 63, .inr (.inl f_power))), (q_next, .inl (cJ, 63, .inr (.inl f_next))), (q_together, .inl (cJ, 9, .inr (.inl f_together))), (q_numbers, .inl (cJ, 9, .inr (.inl f_numbers)))] H → va_D A [(q, .inr (4, [.ref q_traces, .ref q_power, .ref q_next, .ref q_together, .ref q_numbers, .int f_degree])), (q_traces, .inl (cJ, 63, .inr (.inl f_traces))), (q_power, .inl (cJ, 63, .inr (.inl f_power))), (q_next, .inl (cJ, 63, .inr (.inl f_next))), (q_together, .inl (cJ, 9, .inr (.inl f_together))), (q_numbers, .inl (cJ, 9, .inr (.inl f_numbers)))] → va_S A s.heap H locs → W p l e (headSpec wsX5_numberAt { frames := 0, cells := 0, slots := 0, locals := 0 }).room s m ([.ref q, .int y1] : List Value).toArray below meth c H locs 0 0 (MQ below (hb_Ql G r [(q, .inr (4, [.ref q_traces, .ref q_power, .ref q_next, .ref q_together, .ref q_numbers, .int f_degree])), (q_traces, .inl (cJ, 63, .inr (.inl f_traces))), (q_power, .inl (cJ, 63, .inr (.inl f_power))), (q_next, .inl (cJ, 63, .inr (.inl f_next))), (q_together, .inl (cJ, 9, .inr (.inl f_together))), (q_numbers, .inl (cJ, 9, .inr (.inl f_numbers)))] A) ([.ref q, .int y1] : List Value).toArray s 0 0 A) (F0 m 0 ls []) from hh s.heap [] hP hD hS
  intro H locs hP hD hS
  unfold p_X5_numberAt at h
  refine lv_aload_n hx hb dX5_numberAt_0 rfl (lv_at hl 0 rfl) ?_
  refine va_get (D := G) (ci := 4) (v := .int f_degree) (C := RX5) (T := TX5) (N := 6) hx hb hts in_X5_numberAt_X5 hown hK.1 hP 0 rfl rfl 5 (by decide) (hts (.fieldLink RX5 27 "FieldsByClasses$Sums" "degree" "I") (by decide +kernel)) (fun _ h9 => h9) rfl dX5_numberAt_1 ?_
  refine lv_iload_n hx hb dX5_numberAt_4 rfl (lv_at hl 1 rfl) ?_
  refine lv_isub hx hb dX5_numberAt_5 ?_
  refine lv_istore_n (lv' := [(2, .int (f_degree - y1)), (0, .ref q), (1, .int y1)]) hx hb dX5_numberAt_6 rfl hl (by decide) rfl (fun ls hl => ?_)
  refine lv_iload_n hx hb dX5_numberAt_7 rfl (lv_at hl 0 rfl) ?_
  refine lv_if_lt (tgt := 29) hx hb dX5_numberAt_8 (by decide) (fun c8 => ?_) (fun c8 => ?_)
  · have h := pf_pos h c8
    refine lv_lconst (v := 0) hx hb dX5_numberAt_29 (by decide) ?_
    cases h
    exact hb_lret hx hb hr hlocks hP hD hS dX5_numberAt_30
  · have h := pf_neg h c8
    refine lv_iload_n hx hb dX5_numberAt_11 rfl (lv_at hl 0 rfl) ?_
    refine lv_aload_n hx hb dX5_numberAt_12 rfl (lv_at hl 1 rfl) ?_
    refine va_get (D := G) (ci := 4) (v := .ref q_numbers) (C := RX5) (T := TX5) (N := 6) hx hb hts in_X5_numberAt_X5 hown hK.1 hP 0 rfl rfl 4 (by decide) (hts (.fieldLink RX5 24 "FieldsByClasses$Sums" "numbers" "[J") (by decide +kernel)) (fun _ h9 => h9) rfl dX5_numberAt_13 ?_
    refine va_alen (v := 9) hx hb hK.1 hP 5 1 rfl rfl rfl dX5_numberAt_16 ?_
    refine lv_icmp_ge (tgt := 29) hx hb dX5_numberAt_17 (by decide) (fun c17 => ?_) (fun c17 => ?_)
    · have h := pf_pos h c17
      refine lv_lconst (v := 0) hx hb dX5_numberAt_29 (by decide) ?_
      cases h
      exact hb_lret hx hb hr hlocks hP hD hS dX5_numberAt_30
    · have h := pf_neg h c17
      refine lv_aload_n hx hb dX5_numberAt_20 rfl (lv_at hl 1 rfl) ?_
      refine va_get (D := G) (ci := 4) (v := .ref q_numbers) (C := RX5) (T := TX5) (N := 6) hx hb hts in_X5_numberAt_X5 hown hK.1 hP 0 rfl rfl 4 (by decide) (hts (.fieldLink RX5 24 "FieldsByClasses$Sums" "numbers" "[J") (by decide +kernel)) (fun _ h9 => h9) rfl dX5_numberAt_21 ?_
      refine lv_iload_n hx hb dX5_numberAt_24 rfl (lv_at hl 0 rfl) ?_
      obtain ⟨hi25, h⟩ := pf_need h
      refine va_lald hx hb hK.1 hP 5 1 rfl rfl (ain_of hi25) dX5_numberAt_25 ?_
      refine lv_goto (tgt := 30) hx hb dX5_numberAt_26 (by decide) ?_
      cases h
      exact hb_lret hx hb hr hlocks hP hD hS dX5_numberAt_30
-- X5_fillTraces
def e_X5_fillTraces_96 (f_traces : (Nat → Int64)) : Option (Nat → Int64) :=
  some f_traces
def e_X5_fillTraces_90 (x1 : Int32) (x2 : Int32) (f_traces : (Nat → Int64)) : Option ((Int32 × (Nat → Int64)) ⊕ ((Nat → Int64))) :=
  some (Sum.inl ((x2 + (1 : Int32)), f_traces))
def s_X5_fillTraces_54 (x1 : Int32) (x2 : Int32) (x3 : Int64) (x5 : Int32) (f_traces : (Nat → Int64)) : Option ((Int32 × (Nat → Int64)) ⊕ ((Nat → Int64))) :=
  (if x1 ≤ x5 then some (Sum.inr f_traces) else (if (63 : Int32) ≤ x5 then some (Sum.inr f_traces) else (if ainB x5 63 = true then (if ainB x5 63 = true then some (Sum.inl ((x5 + x2), (vp_updL f_traces (x5).toNatClampNeg ((f_traces (x5).toNatClampNeg) + x3)))) else none) else none)))
def a_X5_fillTraces_54 (x1 : Int32) (x2 : Int32) (b : (Nat → Int64)) : Option ((Int32 × (Nat → Int64)) ⊕ ((Nat → Int64))) := (fun q : (Nat → Int64) => e_X5_fillTraces_90 x1 x2 q) b
def g_X5_fillTraces_54 (x1 : Int32) (x2 : Int32) (x3 : Int64) (x5 : Int32) (f_traces : (Nat → Int64)) : Option ((Int32 × (Nat → Int64)) ⊕ ((Nat → Int64))) := (lpF (fun q : (Int32 × (Nat → Int64)) => s_X5_fillTraces_54 x1 x2 x3 q.1 q.2) pfFU (x5, f_traces)).bind (a_X5_fillTraces_54 x1 x2)
def s_X5_fillTraces_26 (x1 : Int32) (x2 : Int32) (f_traces : (Nat → Int64)) : Option ((Int32 × (Nat → Int64)) ⊕ ((Nat → Int64))) :=
  (if x1 < x2 then some (Sum.inr f_traces) else ((p_X6_goesInto x2 x1).bind fun v33 => (if v33 = 0 then some (Sum.inl ((x2 + (1 : Int32)), f_traces)) else ((p_X6_quotient x1 x2).bind fun v42 => ((p_X6_signOfPrimes v42).bind fun v45 => g_X5_fillTraces_54 x1 x2 ((x2 * v45)).toInt64 (0 : Int32) f_traces)))))
def a_X5_fillTraces_26  (b : (Nat → Int64)) : Option (Nat → Int64) := (fun q : (Nat → Int64) => e_X5_fillTraces_96 q) b
def g_X5_fillTraces_26 (x1 : Int32) (x2 : Int32) (f_traces : (Nat → Int64)) : Option (Nat → Int64) := (lpF (fun q : (Int32 × (Nat → Int64)) => s_X5_fillTraces_26 x1 q.1 q.2) pfFU (x2, f_traces)).bind (a_X5_fillTraces_26 )
def e_X5_fillTraces_24 (x1 : Int32) (f_traces : (Nat → Int64)) : Option (Nat → Int64) :=
  g_X5_fillTraces_26 x1 (1 : Int32) f_traces
def s_X5_fillTraces_2 (x1 : Int32) (x2 : Int32) (f_traces : (Nat → Int64)) : Option ((Int32 × (Nat → Int64)) ⊕ ((Nat → Int64))) :=
  (if (63 : Int32) ≤ x2 then some (Sum.inr f_traces) else (if ainB x2 63 = true then some (Sum.inl ((x2 + (1 : Int32)), (vp_updL f_traces (x2).toNatClampNeg (0 : Int64)))) else none))
def a_X5_fillTraces_2 (x1 : Int32) (b : (Nat → Int64)) : Option (Nat → Int64) := (fun q : (Nat → Int64) => e_X5_fillTraces_24 x1 q) b
def g_X5_fillTraces_2 (x1 : Int32) (x2 : Int32) (f_traces : (Nat → Int64)) : Option (Nat → Int64) := (lpF (fun q : (Int32 × (Nat → Int64)) => s_X5_fillTraces_2 x1 q.1 q.2) pfFU (x2, f_traces)).bind (a_X5_fillTraces_2 x1)
def p_X5_fillTraces (f_traces : (Nat → Int64)) (y1 : Int32) : Option (Nat → Int64) :=
  g_X5_fillTraces_2 y1 (0 : Int32) f_traces
theorem in_X5_fillTraces_X5 : ∀ w ∈ u_ws RX5 TX5 6, w ∈ wsX5_fillTraces := fun w h => List.mem_cons_of_mem _ (List.mem_append_right _ h)
theorem kv_X5_fillTraces : yX5_fillTraces.cls = RX5 ∧ yX5_fillTraces.cls ≠ "java/lang/invoke/MethodHandle" ∧ yX5_fillTraces.cls ≠ "java/lang/invoke/VarHandle" ∧ (parseMethodDescriptor yX5_fillTraces.desc).map (fun d => d.parameters.length) = some 1 := by decide +kernel
set_option maxHeartbeats 4000000 in
set_option maxRecDepth 100000 in
theorem c_X5_fillTraces (l : Launch) (G : va_G) (cI cJ cZ cS : ClassId) (q q_traces q_power q_next q_together q_numbers : Nat) (sz : Nat) (f_traces : (Nat → Int64)) (f_power : (Nat → Int64)) (f_next : (Nat → Int64)) (f_together : (Nat → Int64)) (f_numbers : (Nat → Int64)) (f_degree : Int32) (y1 : Int32) (r : (Nat → Int64)) (h : p_X5_fillTraces f_traces y1 = some r) : Met l yX5_fillTraces wsX5_fillTraces { frames := 3, cells := 0, slots := 0, locals := 66 } (hb_pre G (hbT cI cJ cZ cS) [.ref q, .int y1] sz [(q, .inr (4, [.ref q_traces, .ref q_power, .ref q_next, .ref q_together, .ref q_numbers, .int f_degree])), (q_traces, .inl (cJ, 63, .inr (.inl f_traces))), (q_power, .inl (cJ, 63, .inr (.inl f_power))), (q_next, .inl (cJ, 63, .inr (.inl f_next))), (q_together, .inl (cJ, 9, .inr (.inl f_together))), (q_numbers, .inl (cJ, 9, .inr (.inl f_numbers)))]) (hb_Qv G [(q, .inr (4, [.ref q_traces, .ref q_power, .ref q_next, .ref q_together, .ref q_numbers, .int f_degree])), (q_traces, .inl (cJ, 63, .inr (.inl r))), (q_power, .inl (cJ, 63, .inr (.inl f_power))), (q_next, .inl (cJ, 63, .inr (.inl f_next))), (q_together, .inl (cJ, 9, .inr (.inl f_together))), (q_numbers, .inl (cJ, 9, .inr (.inl f_numbers)))] (va_A [(q, .inr (4, [.ref q_traces, .ref q_power, .ref q_next, .ref q_together, .ref q_numbers, .int f_degree])), (q_traces, .inl (cJ, 63, .inr (.inl f_traces))), (q_power, .inl (cJ, 63, .inr (.inl f_power))), (q_next, .inl (cJ, 63, .inr (.inl f_next))), (q_together, .inl (cJ, 9, .inr (.inl f_together))), (q_numbers, .inl (cJ, 9, .inr (.inl f_numbers)))] sz)) 0 0 (va_A [(q, .inr (4, [.ref q_traces, .ref q_power, .ref q_next, .ref q_together, .ref q_numbers, .int f_degree])), (q_traces, .inl (cJ, 63, .inr (.inl f_traces))), (q_power, .inl (cJ, 63, .inr (.inl f_power))), (q_next, .inl (cJ, 63, .inr (.inl f_next))), (q_together, .inl (cJ, 9, .inr (.inl f_together))), (q_numbers, .inl (cJ, 9, .inr (.inl f_numbers)))] sz) := by
  refine hb_met (Qc := fun A => hb_Qv G [(q, .inr (4, [.ref q_traces, .ref q_power, .ref q_next, .ref q_together, .ref q_numbers, .int f_degree])), (q_traces, .inl (cJ, 63, .inr (.inl r))), (q_power, .inl (cJ, 63, .inr (.inl f_power))), (q_next, .inl (cJ, 63, .inr (.inl f_next))), (q_together, .inl (cJ, 9, .inr (.inl f_together))), (q_numbers, .inl (cJ, 9, .inr (.inl f_numbers)))] A) (cc := cX5_fillTraces) (maxL := 6) (ret := none) (by decide) rfl (Nat.le_of_ble_eq_true rfl) ?_
  intro p e s m below meth c A hx hb hr hts hown hlocks hml hin hK hA hP hD hS ls hl
  have hown : s.vm.findClass RX5 = some m.cls := hown
  have S0 : CallFix p m c cX5_fillTraces 6 s ([.ref q, .int y1] : List Value).toArray wsX5_fillTraces RX5 := ⟨hx, hb, hml, hown, hts⟩
  have hl : lv_has ls 6 [(0, .ref q), (1, .int y1)] := hl
  have K96 : ∀ (f_traces : (Nat → Int64)), e_X5_fillTraces_96 f_traces = some r → ∀ (H : Heap) (locs : List Loc), va_P G vwCl [(q, .inr (4, [.ref q_traces, .ref q_power, .ref q_next, .ref q_together, .ref q_numbers, .int f_degree])), (q_traces, .inl (cJ, 63, .inr (.inl f_traces))), (q_power, .inl (cJ, 63, .inr (.inl f_power))), (q_next, .inl (cJ, 63, .inr (.inl f_next))), (q_together, .inl (cJ, 9, .inr (.inl f_together))), (q_numbers, .inl (cJ, 9, .inr (.inl f_numbers)))] H → va_D A [(q, .inr (4, [.ref q_traces, .ref q_power, .ref q_next, .ref q_together, .ref q_numbers, .int f_degree])), (q_traces, .inl (cJ, 63, .inr (.inl f_traces))), (q_power, .inl (cJ, 63, .inr (.inl f_power))), (q_next, .inl (cJ, 63, .inr (.inl f_next))), (q_together, .inl (cJ, 9, .inr (.inl f_together))), (q_numbers, .inl (cJ, 9, .inr (.inl f_numbers)))] → va_S A s.heap H locs → ∀ ls, lv_has ls 6 [] → W p l e (headSpec wsX5_fillTraces { frames := 3, cells := 0, slots := 0, locals := 66 }).room s m ([.ref q, .int y1] : List Value).toArray below meth c H locs 0 0 (MQ below (hb_Qv G [(q, .inr (4, [.ref q_traces, .ref q_power, .ref q_next, .ref q_together, .ref q_numbers, .int f_degree])), (q_traces, .inl (cJ, 63, .inr (.inl r))), (q_power, .inl (cJ, 63, .inr (.inl f_power))), (q_next, .inl (cJ, 63, .inr (.inl f_next))), (q_together, .inl (cJ, 9, .inr (.inl f_together))), (q_numbers, .inl (cJ, 9, .inr (.inl f_numbers)))] A) ([.ref q, .int y1] : List Value).toArray s 0 0 A) (F0 m 96 ls []) := by
    intro f_traces h H locs hP hD hS ls hl
    unfold e_X5_fillTraces_96 at h
    cases h
    exact hb_vret hx hb hr hlocks hP hD hS dX5_fillTraces_96
  have L26 : ∀ (n : Nat) (x1 : Int32) (x2 : Int32) (f_traces : (Nat → Int64)) (b : (Nat → Int64)), lpF (fun q : (Int32 × (Nat → Int64)) => s_X5_fillTraces_26 x1 q.1 q.2) n (x2, f_traces) = some b → a_X5_fillTraces_26 b = some r → ∀ (H : Heap) (locs : List Loc), va_P G vwCl [(q, .inr (4, [.ref q_traces, .ref q_power, .ref q_next, .ref q_together, .ref q_numbers, .int f_degree])), (q_traces, .inl (cJ, 63, .inr (.inl f_traces))), (q_power, .inl (cJ, 63, .inr (.inl f_power))), (q_next, .inl (cJ, 63, .inr (.inl f_next))), (q_together, .inl (cJ, 9, .inr (.inl f_together))), (q_numbers, .inl (cJ, 9, .inr (.inl f_numbers)))] H → va_D A [(q, .inr (4, [.ref q_traces, .ref q_power, .ref q_next, .ref q_together, .ref q_numbers, .int f_degree])), (q_traces, .inl (cJ, 63, .inr (.inl f_traces))), (q_power, .inl (cJ, 63, .inr (.inl f_power))), (q_next, .inl (cJ, 63, .inr (.inl f_next))), (q_together, .inl (cJ, 9, .inr (.inl f_together))), (q_numbers, .inl (cJ, 9, .inr (.inl f_numbers)))] → va_S A s.heap H locs → ∀ ls, lv_has ls 6 [(0, .ref q), (1, .int x1), (2, .int x2)] → W p l e (headSpec wsX5_fillTraces { frames := 3, cells := 0, slots := 0, locals := 66 }).room s m ([.ref q, .int y1] : List Value).toArray below meth c H locs 0 0 (MQ below (hb_Qv G [(q, .inr (4, [.ref q_traces, .ref q_power, .ref q_next, .ref q_together, .ref q_numbers, .int f_degree])), (q_traces, .inl (cJ, 63, .inr (.inl r))), (q_power, .inl (cJ, 63, .inr (.inl f_power))), (q_next, .inl (cJ, 63, .inr (.inl f_next))), (q_together, .inl (cJ, 9, .inr (.inl f_together))), (q_numbers, .inl (cJ, 9, .inr (.inl f_numbers)))] A) ([.ref q, .int y1] : List Value).toArray s 0 0 A) (F0 m 26 ls []) := by
    intro n
    induction n with
    | zero => intro x1 x2 f_traces b h; exact lp_zero h
    | succ n ih =>
      intro x1 x2 f_traces b h ha H locs hP hD hS ls hl
      obtain ⟨z26, h, hz⟩ := lp_open h
      have h : s_X5_fillTraces_26 x1 x2 f_traces = some z26 := h
      have K90 : ∀ (x2 : Int32) (f_traces : (Nat → Int64)), e_X5_fillTraces_90 x1 x2 f_traces = some z26 → ∀ (H : Heap) (locs : List Loc), va_P G vwCl [(q, .inr (4, [.ref q_traces, .ref q_power, .ref q_next, .ref q_together, .ref q_numbers, .int f_degree])), (q_traces, .inl (cJ, 63, .inr (.inl f_traces))), (q_power, .inl (cJ, 63, .inr (.inl f_power))), (q_next, .inl (cJ, 63, .inr (.inl f_next))), (q_together, .inl (cJ, 9, .inr (.inl f_together))), (q_numbers, .inl (cJ, 9, .inr (.inl f_numbers)))] H → va_D A [(q, .inr (4, [.ref q_traces, .ref q_power, .ref q_next, .ref q_together, .ref q_numbers, .int f_degree])), (q_traces, .inl (cJ, 63, .inr (.inl f_traces))), (q_power, .inl (cJ, 63, .inr (.inl f_power))), (q_next, .inl (cJ, 63, .inr (.inl f_next))), (q_together, .inl (cJ, 9, .inr (.inl f_together))), (q_numbers, .inl (cJ, 9, .inr (.inl f_numbers)))] → va_S A s.heap H locs → ∀ ls, lv_has ls 6 [(0, .ref q), (1, .int x1), (2, .int x2)] → W p l e (headSpec wsX5_fillTraces { frames := 3, cells := 0, slots := 0, locals := 66 }).room s m ([.ref q, .int y1] : List Value).toArray below meth c H locs 0 0 (MQ below (hb_Qv G [(q, .inr (4, [.ref q_traces, .ref q_power, .ref q_next, .ref q_together, .ref q_numbers, .int f_degree])), (q_traces, .inl (cJ, 63, .inr (.inl r))), (q_power, .inl (cJ, 63, .inr (.inl f_power))), (q_next, .inl (cJ, 63, .inr (.inl f_next))), (q_together, .inl (cJ, 9, .inr (.inl f_together))), (q_numbers, .inl (cJ, 9, .inr (.inl f_numbers)))] A) ([.ref q, .int y1] : List Value).toArray s 0 0 A) (F0 m 90 ls []) := by
        intro x2 f_traces h H locs hP hD hS ls hl
        unfold e_X5_fillTraces_90 at h
        refine lv_iinc (v := (x2 + (1 : Int32))) (lv' := [(2, .int (x2 + (1 : Int32))), (0, .ref q), (1, .int x1)]) hx hb dX5_fillTraces_90 hl (k := 2) rfl rfl (by decide) rfl (fun ls hl => ?_)
        refine lv_goto (tgt := 26) hx hb dX5_fillTraces_93 (by decide) ?_
        exact ih x1 (x2 + (1 : Int32)) f_traces b (lp_cont h hz) ha H locs hP hD hS ls (lv_sub hl [1, 2, 0] rfl)
      have L54 : ∀ (n : Nat) (x2 : Int32) (x3 : Int64) (x5 : Int32) (f_traces : (Nat → Int64)) (b : (Nat → Int64)), lpF (fun q : (Int32 × (Nat → Int64)) => s_X5_fillTraces_54 x1 x2 x3 q.1 q.2) n (x5, f_traces) = some b → a_X5_fillTraces_54 x1 x2 b = some z26 → ∀ (H : Heap) (locs : List Loc), va_P G vwCl [(q, .inr (4, [.ref q_traces, .ref q_power, .ref q_next, .ref q_together, .ref q_numbers, .int f_degree])), (q_traces, .inl (cJ, 63, .inr (.inl f_traces))), (q_power, .inl (cJ, 63, .inr (.inl f_power))), (q_next, .inl (cJ, 63, .inr (.inl f_next))), (q_together, .inl (cJ, 9, .inr (.inl f_together))), (q_numbers, .inl (cJ, 9, .inr (.inl f_numbers)))] H → va_D A [(q, .inr (4, [.ref q_traces, .ref q_power, .ref q_next, .ref q_together, .ref q_numbers, .int f_degree])), (q_traces, .inl (cJ, 63, .inr (.inl f_traces))), (q_power, .inl (cJ, 63, .inr (.inl f_power))), (q_next, .inl (cJ, 63, .inr (.inl f_next))), (q_together, .inl (cJ, 9, .inr (.inl f_together))), (q_numbers, .inl (cJ, 9, .inr (.inl f_numbers)))] → va_S A s.heap H locs → ∀ ls, lv_has ls 6 [(0, .ref q), (1, .int x1), (2, .int x2), (3, .long x3), (5, .int x5)] → W p l e (headSpec wsX5_fillTraces { frames := 3, cells := 0, slots := 0, locals := 66 }).room s m ([.ref q, .int y1] : List Value).toArray below meth c H locs 0 0 (MQ below (hb_Qv G [(q, .inr (4, [.ref q_traces, .ref q_power, .ref q_next, .ref q_together, .ref q_numbers, .int f_degree])), (q_traces, .inl (cJ, 63, .inr (.inl r))), (q_power, .inl (cJ, 63, .inr (.inl f_power))), (q_next, .inl (cJ, 63, .inr (.inl f_next))), (q_together, .inl (cJ, 9, .inr (.inl f_together))), (q_numbers, .inl (cJ, 9, .inr (.inl f_numbers)))] A) ([.ref q, .int y1] : List Value).toArray s 0 0 A) (F0 m 54 ls []) := by
        intro n
        induction n with
        | zero => intro x2 x3 x5 f_traces b h; exact lp_zero h
        | succ n ih =>
          intro x2 x3 x5 f_traces b h ha H locs hP hD hS ls hl
          obtain ⟨z54, h, hz⟩ := lp_open h
          have h : s_X5_fillTraces_54 x1 x2 x3 x5 f_traces = some z54 := h
          unfold s_X5_fillTraces_54 at h
          refine lv_iload hx hb dX5_fillTraces_54 (lv_at hl 4 rfl) ?_
          refine lv_iload_n hx hb dX5_fillTraces_56 rfl (lv_at hl 1 rfl) ?_
          refine lv_icmp_ge (tgt := 90) hx hb dX5_fillTraces_57 (by decide) (fun c57 => ?_) (fun c57 => ?_)
          · have h := pf_pos h c57
            have ha := pf_aft ha (lp_exit h hz)
            exact K90 x2 f_traces ha H locs hP hD hS ls (lv_sub hl [0, 1, 2] rfl)
          · have h := pf_neg h c57
            refine lv_iload hx hb dX5_fillTraces_60 (lv_at hl 4 rfl) ?_
            refine lv_aload_n hx hb dX5_fillTraces_62 rfl (lv_at hl 0 rfl) ?_
            refine va_get (D := G) (ci := 4) (v := .ref q_traces) (C := RX5) (T := TX5) (N := 6) hx hb hts in_X5_fillTraces_X5 hown hK.1 hP 0 rfl rfl 0 (by decide) (hts (.fieldLink RX5 9 "FieldsByClasses$Sums" "traces" "[J") (by decide +kernel)) (fun _ h9 => h9) rfl dX5_fillTraces_63 ?_
            refine va_alen (v := 63) hx hb hK.1 hP 1 1 rfl rfl rfl dX5_fillTraces_66 ?_
            refine lv_icmp_ge (tgt := 90) hx hb dX5_fillTraces_67 (by decide) (fun c67 => ?_) (fun c67 => ?_)
            · have h := pf_pos h c67
              have ha := pf_aft ha (lp_exit h hz)
              exact K90 x2 f_traces ha H locs hP hD hS ls (lv_sub hl [0, 1, 2] rfl)
            · have h := pf_neg h c67
              refine lv_aload_n hx hb dX5_fillTraces_70 rfl (lv_at hl 0 rfl) ?_
              refine va_get (D := G) (ci := 4) (v := .ref q_traces) (C := RX5) (T := TX5) (N := 6) hx hb hts in_X5_fillTraces_X5 hown hK.1 hP 0 rfl rfl 0 (by decide) (hts (.fieldLink RX5 9 "FieldsByClasses$Sums" "traces" "[J") (by decide +kernel)) (fun _ h9 => h9) rfl dX5_fillTraces_71 ?_
              refine lv_iload hx hb dX5_fillTraces_74 (lv_at hl 4 rfl) ?_
              refine lv_dup2_11 hx hb dX5_fillTraces_76 rfl rfl ?_
              obtain ⟨hi77, h⟩ := pf_need h
              refine va_lald hx hb hK.1 hP 1 1 rfl rfl (ain_of hi77) dX5_fillTraces_77 ?_
              refine lv_lload_n hx hb dX5_fillTraces_78 rfl (lv_at hl 3 rfl) ?_
              refine lv_ladd hx hb dX5_fillTraces_79 ?_
              obtain ⟨hi80, h⟩ := pf_need h
              refine va_last hx hb hK.1 hP hD hS 1 1 rfl rfl (ain_of hi80) dX5_fillTraces_80 (fun H locs hP hD hS => ?_)
              have hP : va_P G vwCl [(q, .inr (4, [.ref q_traces, .ref q_power, .ref q_next, .ref q_together, .ref q_numbers, .int f_degree])), (q_traces, .inl (cJ, 63, .inr (.inl (vp_updL f_traces (x5).toNatClampNeg ((f_traces (x5).toNatClampNeg) + x3))))), (q_power, .inl (cJ, 63, .inr (.inl f_power))), (q_next, .inl (cJ, 63, .inr (.inl f_next))), (q_together, .inl (cJ, 9, .inr (.inl f_together))), (q_numbers, .inl (cJ, 9, .inr (.inl f_numbers)))] H := hP
              have hD : va_D A [(q, .inr (4, [.ref q_traces, .ref q_power, .ref q_next, .ref q_together, .ref q_numbers, .int f_degree])), (q_traces, .inl (cJ, 63, .inr (.inl (vp_updL f_traces (x5).toNatClampNeg ((f_traces (x5).toNatClampNeg) + x3))))), (q_power, .inl (cJ, 63, .inr (.inl f_power))), (q_next, .inl (cJ, 63, .inr (.inl f_next))), (q_together, .inl (cJ, 9, .inr (.inl f_together))), (q_numbers, .inl (cJ, 9, .inr (.inl f_numbers)))] := hD
              refine lv_iload hx hb dX5_fillTraces_81 (lv_at hl 4 rfl) ?_
              refine lv_iload_n hx hb dX5_fillTraces_83 rfl (lv_at hl 2 rfl) ?_
              refine lv_iadd hx hb dX5_fillTraces_84 ?_
              refine lv_istore (lv' := [(5, .int (x5 + x2)), (0, .ref q), (1, .int x1), (2, .int x2), (3, .long x3)]) hx hb dX5_fillTraces_85 hl (by decide) rfl (fun ls hl => ?_)
              refine lv_goto (tgt := 54) hx hb dX5_fillTraces_87 (by decide) ?_
              exact ih x2 x3 (x5 + x2) (vp_updL f_traces (x5).toNatClampNeg ((f_traces (x5).toNatClampNeg) + x3)) b (lp_cont h hz) ha H locs hP hD hS ls (lv_sub hl [1, 2, 3, 4, 0] rfl)
      have G54 : ∀ (x2 : Int32) (x3 : Int64) (x5 : Int32) (f_traces : (Nat → Int64)), g_X5_fillTraces_54 x1 x2 x3 x5 f_traces = some z26 → ∀ (H : Heap) (locs : List Loc), va_P G vwCl [(q, .inr (4, [.ref q_traces, .ref q_power, .ref q_next, .ref q_together, .ref q_numbers, .int f_degree])), (q_traces, .inl (cJ, 63, .inr (.inl f_traces))), (q_power, .inl (cJ, 63, .inr (.inl f_power))), (q_next, .inl (cJ, 63, .inr (.inl f_next))), (q_together, .inl (cJ, 9, .inr (.inl f_together))), (q_numbers, .inl (cJ, 9, .inr (.inl f_numbers)))] H → va_D A [(q, .inr (4, [.ref q_traces, .ref q_power, .ref q_next, .ref q_together, .ref q_numbers, .int f_degree])), (q_traces, .inl (cJ, 63, .inr (.inl f_traces))), (q_power, .inl (cJ, 63, .inr (.inl f_power))), (q_next, .inl (cJ, 63, .inr (.inl f_next))), (q_together, .inl (cJ, 9, .inr (.inl f_together))), (q_numbers, .inl (cJ, 9, .inr (.inl f_numbers)))] → va_S A s.heap H locs → ∀ ls, lv_has ls 6 [(0, .ref q), (1, .int x1), (2, .int x2), (3, .long x3), (5, .int x5)] → W p l e (headSpec wsX5_fillTraces { frames := 3, cells := 0, slots := 0, locals := 66 }).room s m ([.ref q, .int y1] : List Value).toArray below meth c H locs 0 0 (MQ below (hb_Qv G [(q, .inr (4, [.ref q_traces, .ref q_power, .ref q_next, .ref q_together, .ref q_numbers, .int f_degree])), (q_traces, .inl (cJ, 63, .inr (.inl r))), (q_power, .inl (cJ, 63, .inr (.inl f_power))), (q_next, .inl (cJ, 63, .inr (.inl f_next))), (q_together, .inl (cJ, 9, .inr (.inl f_together))), (q_numbers, .inl (cJ, 9, .inr (.inl f_numbers)))] A) ([.ref q, .int y1] : List Value).toArray s 0 0 A) (F0 m 54 ls []) := by
        intro x2 x3 x5 f_traces h
        unfold g_X5_fillTraces_54 at h
        obtain ⟨b, h, ha⟩ := pf_bind h
        exact L54 pfFU x2 x3 x5 f_traces b h ha
      unfold s_X5_fillTraces_26 at h
      refine lv_iload_n hx hb dX5_fillTraces_26 rfl (lv_at hl 2 rfl) ?_
      refine lv_iload_n hx hb dX5_fillTraces_27 rfl (lv_at hl 1 rfl) ?_
      refine lv_icmp_gt (tgt := 96) hx hb dX5_fillTraces_28 (by decide) (fun c28 => ?_) (fun c28 => ?_)
      · have h := pf_pos h c28
        have ha := pf_aft ha (lp_exit h hz)
        exact K96 f_traces ha H locs hP hD hS ls (lv_sub hl [] rfl)
      · have h := pf_neg h c28
        refine lv_iload_n hx hb dX5_fillTraces_31 rfl (lv_at hl 2 rfl) ?_
        refine lv_iload_n hx hb dX5_fillTraces_32 rfl (lv_at hl 1 rfl) ?_
        obtain ⟨v33, hv33, h⟩ := pf_bind h
        refine pf_call (As := [.int x2, .int x1]) (rest := []) S0 (c_X6_goesInto l x2 x1 v33 hv33) (va_cwS 2 hts gX5_fillTraces_X6_goesInto rfl rfl rfl kd_X6_goesInto ⟨Nat.le_of_ble_eq_true rfl, Nat.le_of_ble_eq_true rfl⟩) rfl hl.1 rfl (Nat.le_of_ble_eq_true rfl) dX5_fillTraces_33 ⟨Nat.zero_le _, Nat.zero_le _⟩ ?_
        refine lv_if_eq (tgt := 90) hx hb dX5_fillTraces_36 (by decide) (fun c36 => ?_) (fun c36 => ?_)
        · have h := pf_pos h c36
          refine lv_iinc (v := (x2 + (1 : Int32))) (lv' := [(2, .int (x2 + (1 : Int32))), (0, .ref q), (1, .int x1)]) hx hb dX5_fillTraces_90 hl (k := 2) rfl rfl (by decide) rfl (fun ls hl => ?_)
          refine lv_goto (tgt := 26) hx hb dX5_fillTraces_93 (by decide) ?_
          exact ih x1 (x2 + (1 : Int32)) f_traces b (lp_cont h hz) ha H locs hP hD hS ls (lv_sub hl [1, 2, 0] rfl)
        · have h := pf_neg h c36
          refine lv_iload_n hx hb dX5_fillTraces_39 rfl (lv_at hl 2 rfl) ?_
          refine lv_iload_n hx hb dX5_fillTraces_40 rfl (lv_at hl 1 rfl) ?_
          refine lv_iload_n hx hb dX5_fillTraces_41 rfl (lv_at hl 2 rfl) ?_
          obtain ⟨v42, hv42, h⟩ := pf_bind h
          refine pf_call (As := [.int x1, .int x2]) (rest := [.int x2]) S0 (c_X6_quotient l x1 x2 v42 hv42) (va_cwS 2 hts gX5_fillTraces_X6_quotient rfl rfl rfl kd_X6_quotient ⟨Nat.le_of_ble_eq_true rfl, Nat.le_of_ble_eq_true rfl⟩) rfl hl.1 rfl (Nat.le_of_ble_eq_true rfl) dX5_fillTraces_42 ⟨Nat.zero_le _, Nat.zero_le _⟩ ?_
          obtain ⟨v45, hv45, h⟩ := pf_bind h
          refine pf_call (As := [.int v42]) (rest := [.int x2]) S0 (c_X6_signOfPrimes l v42 v45 hv45) (va_cwS 1 hts gX5_fillTraces_X6_signOfPrimes rfl rfl rfl kd_X6_signOfPrimes ⟨Nat.le_of_ble_eq_true rfl, Nat.le_of_ble_eq_true rfl⟩) rfl hl.1 rfl (Nat.le_of_ble_eq_true rfl) dX5_fillTraces_45 ⟨Nat.zero_le _, Nat.zero_le _⟩ ?_
          refine lv_imul hx hb dX5_fillTraces_48 ?_
          refine lv_i2l hx hb dX5_fillTraces_49 rfl ?_
          refine lv_lstore_n (lv' := [(3, .long ((x2 * v45)).toInt64), (0, .ref q), (1, .int x1), (2, .int x2)]) hx hb dX5_fillTraces_50 rfl hl (by decide) rfl (fun ls hl => ?_)
          refine lv_iconst (v := 0) hx hb dX5_fillTraces_51 (by decide) ?_
          refine lv_istore (lv' := [(5, .int (0 : Int32)), (3, .long ((x2 * v45)).toInt64), (0, .ref q), (1, .int x1), (2, .int x2)]) hx hb dX5_fillTraces_52 hl (by decide) rfl (fun ls hl => ?_)
          exact G54 x2 ((x2 * v45)).toInt64 (0 : Int32) f_traces h H locs hP hD hS ls (lv_sub hl [2, 3, 4, 1, 0] rfl)
  have G26 : ∀ (x1 : Int32) (x2 : Int32) (f_traces : (Nat → Int64)), g_X5_fillTraces_26 x1 x2 f_traces = some r → ∀ (H : Heap) (locs : List Loc), va_P G vwCl [(q, .inr (4, [.ref q_traces, .ref q_power, .ref q_next, .ref q_together, .ref q_numbers, .int f_degree])), (q_traces, .inl (cJ, 63, .inr (.inl f_traces))), (q_power, .inl (cJ, 63, .inr (.inl f_power))), (q_next, .inl (cJ, 63, .inr (.inl f_next))), (q_together, .inl (cJ, 9, .inr (.inl f_together))), (q_numbers, .inl (cJ, 9, .inr (.inl f_numbers)))] H → va_D A [(q, .inr (4, [.ref q_traces, .ref q_power, .ref q_next, .ref q_together, .ref q_numbers, .int f_degree])), (q_traces, .inl (cJ, 63, .inr (.inl f_traces))), (q_power, .inl (cJ, 63, .inr (.inl f_power))), (q_next, .inl (cJ, 63, .inr (.inl f_next))), (q_together, .inl (cJ, 9, .inr (.inl f_together))), (q_numbers, .inl (cJ, 9, .inr (.inl f_numbers)))] → va_S A s.heap H locs → ∀ ls, lv_has ls 6 [(0, .ref q), (1, .int x1), (2, .int x2)] → W p l e (headSpec wsX5_fillTraces { frames := 3, cells := 0, slots := 0, locals := 66 }).room s m ([.ref q, .int y1] : List Value).toArray below meth c H locs 0 0 (MQ below (hb_Qv G [(q, .inr (4, [.ref q_traces, .ref q_power, .ref q_next, .ref q_together, .ref q_numbers, .int f_degree])), (q_traces, .inl (cJ, 63, .inr (.inl r))), (q_power, .inl (cJ, 63, .inr (.inl f_power))), (q_next, .inl (cJ, 63, .inr (.inl f_next))), (q_together, .inl (cJ, 9, .inr (.inl f_together))), (q_numbers, .inl (cJ, 9, .inr (.inl f_numbers)))] A) ([.ref q, .int y1] : List Value).toArray s 0 0 A) (F0 m 26 ls []) := by
    intro x1 x2 f_traces h
    unfold g_X5_fillTraces_26 at h
    obtain ⟨b, h, ha⟩ := pf_bind h
    exact L26 pfFU x1 x2 f_traces b h ha
  have K24 : ∀ (x1 : Int32) (f_traces : (Nat → Int64)), e_X5_fillTraces_24 x1 f_traces = some r → ∀ (H : Heap) (locs : List Loc), va_P G vwCl [(q, .inr (4, [.ref q_traces, .ref q_power, .ref q_next, .ref q_together, .ref q_numbers, .int f_degree])), (q_traces, .inl (cJ, 63, .inr (.inl f_traces))), (q_power, .inl (cJ, 63, .inr (.inl f_power))), (q_next, .inl (cJ, 63, .inr (.inl f_next))), (q_together, .inl (cJ, 9, .inr (.inl f_together))), (q_numbers, .inl (cJ, 9, .inr (.inl f_numbers)))] H → va_D A [(q, .inr (4, [.ref q_traces, .ref q_power, .ref q_next, .ref q_together, .ref q_numbers, .int f_degree])), (q_traces, .inl (cJ, 63, .inr (.inl f_traces))), (q_power, .inl (cJ, 63, .inr (.inl f_power))), (q_next, .inl (cJ, 63, .inr (.inl f_next))), (q_together, .inl (cJ, 9, .inr (.inl f_together))), (q_numbers, .inl (cJ, 9, .inr (.inl f_numbers)))] → va_S A s.heap H locs → ∀ ls, lv_has ls 6 [(0, .ref q), (1, .int x1)] → W p l e (headSpec wsX5_fillTraces { frames := 3, cells := 0, slots := 0, locals := 66 }).room s m ([.ref q, .int y1] : List Value).toArray below meth c H locs 0 0 (MQ below (hb_Qv G [(q, .inr (4, [.ref q_traces, .ref q_power, .ref q_next, .ref q_together, .ref q_numbers, .int f_degree])), (q_traces, .inl (cJ, 63, .inr (.inl r))), (q_power, .inl (cJ, 63, .inr (.inl f_power))), (q_next, .inl (cJ, 63, .inr (.inl f_next))), (q_together, .inl (cJ, 9, .inr (.inl f_together))), (q_numbers, .inl (cJ, 9, .inr (.inl f_numbers)))] A) ([.ref q, .int y1] : List Value).toArray s 0 0 A) (F0 m 24 ls []) := by
    intro x1 f_traces h H locs hP hD hS ls hl
    unfold e_X5_fillTraces_24 at h
    refine lv_iconst (v := 1) hx hb dX5_fillTraces_24 (by decide) ?_
    refine lv_istore_n (lv' := [(2, .int (1 : Int32)), (0, .ref q), (1, .int x1)]) hx hb dX5_fillTraces_25 rfl hl (by decide) rfl (fun ls hl => ?_)
    exact G26 x1 (1 : Int32) f_traces h H locs hP hD hS ls (lv_sub hl [1, 2, 0] rfl)
  have L2 : ∀ (n : Nat) (x1 : Int32) (x2 : Int32) (f_traces : (Nat → Int64)) (b : (Nat → Int64)), lpF (fun q : (Int32 × (Nat → Int64)) => s_X5_fillTraces_2 x1 q.1 q.2) n (x2, f_traces) = some b → a_X5_fillTraces_2 x1 b = some r → ∀ (H : Heap) (locs : List Loc), va_P G vwCl [(q, .inr (4, [.ref q_traces, .ref q_power, .ref q_next, .ref q_together, .ref q_numbers, .int f_degree])), (q_traces, .inl (cJ, 63, .inr (.inl f_traces))), (q_power, .inl (cJ, 63, .inr (.inl f_power))), (q_next, .inl (cJ, 63, .inr (.inl f_next))), (q_together, .inl (cJ, 9, .inr (.inl f_together))), (q_numbers, .inl (cJ, 9, .inr (.inl f_numbers)))] H → va_D A [(q, .inr (4, [.ref q_traces, .ref q_power, .ref q_next, .ref q_together, .ref q_numbers, .int f_degree])), (q_traces, .inl (cJ, 63, .inr (.inl f_traces))), (q_power, .inl (cJ, 63, .inr (.inl f_power))), (q_next, .inl (cJ, 63, .inr (.inl f_next))), (q_together, .inl (cJ, 9, .inr (.inl f_together))), (q_numbers, .inl (cJ, 9, .inr (.inl f_numbers)))] → va_S A s.heap H locs → ∀ ls, lv_has ls 6 [(0, .ref q), (1, .int x1), (2, .int x2)] → W p l e (headSpec wsX5_fillTraces { frames := 3, cells := 0, slots := 0, locals := 66 }).room s m ([.ref q, .int y1] : List Value).toArray below meth c H locs 0 0 (MQ below (hb_Qv G [(q, .inr (4, [.ref q_traces, .ref q_power, .ref q_next, .ref q_together, .ref q_numbers, .int f_degree])), (q_traces, .inl (cJ, 63, .inr (.inl r))), (q_power, .inl (cJ, 63, .inr (.inl f_power))), (q_next, .inl (cJ, 63, .inr (.inl f_next))), (q_together, .inl (cJ, 9, .inr (.inl f_together))), (q_numbers, .inl (cJ, 9, .inr (.inl f_numbers)))] A) ([.ref q, .int y1] : List Value).toArray s 0 0 A) (F0 m 2 ls []) := by
    intro n
    induction n with
    | zero => intro x1 x2 f_traces b h; exact lp_zero h
    | succ n ih =>
      intro x1 x2 f_traces b h ha H locs hP hD hS ls hl
      obtain ⟨z2, h, hz⟩ := lp_open h
      have h : s_X5_fillTraces_2 x1 x2 f_traces = some z2 := h
      unfold s_X5_fillTraces_2 at h
      refine lv_iload_n hx hb dX5_fillTraces_2 rfl (lv_at hl 2 rfl) ?_
      refine lv_aload_n hx hb dX5_fillTraces_3 rfl (lv_at hl 0 rfl) ?_
      refine va_get (D := G) (ci := 4) (v := .ref q_traces) (C := RX5) (T := TX5) (N := 6) hx hb hts in_X5_fillTraces_X5 hown hK.1 hP 0 rfl rfl 0 (by decide) (hts (.fieldLink RX5 9 "FieldsByClasses$Sums" "traces" "[J") (by decide +kernel)) (fun _ h9 => h9) rfl dX5_fillTraces_4 ?_
      refine va_alen (v := 63) hx hb hK.1 hP 1 1 rfl rfl rfl dX5_fillTraces_7 ?_
      refine lv_icmp_ge (tgt := 24) hx hb dX5_fillTraces_8 (by decide) (fun c8 => ?_) (fun c8 => ?_)
      · have h := pf_pos h c8
        have ha := pf_aft ha (lp_exit h hz)
        exact K24 x1 f_traces ha H locs hP hD hS ls (lv_sub hl [0, 1] rfl)
      · have h := pf_neg h c8
        refine lv_aload_n hx hb dX5_fillTraces_11 rfl (lv_at hl 0 rfl) ?_
        refine va_get (D := G) (ci := 4) (v := .ref q_traces) (C := RX5) (T := TX5) (N := 6) hx hb hts in_X5_fillTraces_X5 hown hK.1 hP 0 rfl rfl 0 (by decide) (hts (.fieldLink RX5 9 "FieldsByClasses$Sums" "traces" "[J") (by decide +kernel)) (fun _ h9 => h9) rfl dX5_fillTraces_12 ?_
        refine lv_iload_n hx hb dX5_fillTraces_15 rfl (lv_at hl 2 rfl) ?_
        refine lv_lconst (v := 0) hx hb dX5_fillTraces_16 (by decide) ?_
        obtain ⟨hi17, h⟩ := pf_need h
        refine va_last hx hb hK.1 hP hD hS 1 1 rfl rfl (ain_of hi17) dX5_fillTraces_17 (fun H locs hP hD hS => ?_)
        have hP : va_P G vwCl [(q, .inr (4, [.ref q_traces, .ref q_power, .ref q_next, .ref q_together, .ref q_numbers, .int f_degree])), (q_traces, .inl (cJ, 63, .inr (.inl (vp_updL f_traces (x2).toNatClampNeg (0 : Int64))))), (q_power, .inl (cJ, 63, .inr (.inl f_power))), (q_next, .inl (cJ, 63, .inr (.inl f_next))), (q_together, .inl (cJ, 9, .inr (.inl f_together))), (q_numbers, .inl (cJ, 9, .inr (.inl f_numbers)))] H := hP
        have hD : va_D A [(q, .inr (4, [.ref q_traces, .ref q_power, .ref q_next, .ref q_together, .ref q_numbers, .int f_degree])), (q_traces, .inl (cJ, 63, .inr (.inl (vp_updL f_traces (x2).toNatClampNeg (0 : Int64))))), (q_power, .inl (cJ, 63, .inr (.inl f_power))), (q_next, .inl (cJ, 63, .inr (.inl f_next))), (q_together, .inl (cJ, 9, .inr (.inl f_together))), (q_numbers, .inl (cJ, 9, .inr (.inl f_numbers)))] := hD
        refine lv_iinc (v := (x2 + (1 : Int32))) (lv' := [(2, .int (x2 + (1 : Int32))), (0, .ref q), (1, .int x1)]) hx hb dX5_fillTraces_18 hl (k := 2) rfl rfl (by decide) rfl (fun ls hl => ?_)
        refine lv_goto (tgt := 2) hx hb dX5_fillTraces_21 (by decide) ?_
        exact ih x1 (x2 + (1 : Int32)) (vp_updL f_traces (x2).toNatClampNeg (0 : Int64)) b (lp_cont h hz) ha H locs hP hD hS ls (lv_sub hl [1, 2, 0] rfl)
  have G2 : ∀ (x1 : Int32) (x2 : Int32) (f_traces : (Nat → Int64)), g_X5_fillTraces_2 x1 x2 f_traces = some r → ∀ (H : Heap) (locs : List Loc), va_P G vwCl [(q, .inr (4, [.ref q_traces, .ref q_power, .ref q_next, .ref q_together, .ref q_numbers, .int f_degree])), (q_traces, .inl (cJ, 63, .inr (.inl f_traces))), (q_power, .inl (cJ, 63, .inr (.inl f_power))), (q_next, .inl (cJ, 63, .inr (.inl f_next))), (q_together, .inl (cJ, 9, .inr (.inl f_together))), (q_numbers, .inl (cJ, 9, .inr (.inl f_numbers)))] H → va_D A [(q, .inr (4, [.ref q_traces, .ref q_power, .ref q_next, .ref q_together, .ref q_numbers, .int f_degree])), (q_traces, .inl (cJ, 63, .inr (.inl f_traces))), (q_power, .inl (cJ, 63, .inr (.inl f_power))), (q_next, .inl (cJ, 63, .inr (.inl f_next))), (q_together, .inl (cJ, 9, .inr (.inl f_together))), (q_numbers, .inl (cJ, 9, .inr (.inl f_numbers)))] → va_S A s.heap H locs → ∀ ls, lv_has ls 6 [(0, .ref q), (1, .int x1), (2, .int x2)] → W p l e (headSpec wsX5_fillTraces { frames := 3, cells := 0, slots := 0, locals := 66 }).room s m ([.ref q, .int y1] : List Value).toArray below meth c H locs 0 0 (MQ below (hb_Qv G [(q, .inr (4, [.ref q_traces, .ref q_power, .ref q_next, .ref q_together, .ref q_numbers, .int f_degree])), (q_traces, .inl (cJ, 63, .inr (.inl r))), (q_power, .inl (cJ, 63, .inr (.inl f_power))), (q_next, .inl (cJ, 63, .inr (.inl f_next))), (q_together, .inl (cJ, 9, .inr (.inl f_together))), (q_numbers, .inl (cJ, 9, .inr (.inl f_numbers)))] A) ([.ref q, .int y1] : List Value).toArray s 0 0 A) (F0 m 2 ls []) := by
    intro x1 x2 f_traces h
    unfold g_X5_fillTraces_2 at h
    obtain ⟨b, h, ha⟩ := pf_bind h
    exact L2 pfFU x1 x2 f_traces b h ha
  suffices hh : ∀ (H : Heap) (locs : List Loc), va_P G vwCl [(q, .inr (4, [.ref q_traces, .ref q_power, .ref q_next, .ref q_together, .ref q_numbers, .int f_degree])), (q_traces, .inl (cJ, 63, .inr (.inl f_traces))), (q_power, .inl (cJ, 63, .inr (.inl f_power))), (q_next, .inl (cJ, 63, .inr (.inl f_next))), (q_together, .inl (cJ, 9, .inr (.inl f_together))), (q_numbers, .inl (cJ, 9, .inr (.inl f_numbers)))] H → va_D A [(q, .inr (4, [.ref q_traces, .ref q_power, .ref q_next, .ref q_together, .ref q_numbers, .int f_degree])), (q_traces, .inl (cJ, 63, .inr (.inl f_traces))), (q_power, .inl (cJ, 63, .inr (.inl f_power))), (q_next, .inl (cJ, 63, .inr (.inl f_next))), (q_together, .inl (cJ, 9, .inr (.inl f_together))), (q_numbers, .inl (cJ, 9, .inr (.inl f_numbers)))] → va_S A s.heap H locs → W p l e (headSpec wsX5_fillTraces { frames := 3, cells := 0, slots := 0, locals := 66 }).room s m ([.ref q, .int y1] : List Value).toArray below meth c H locs 0 0 (MQ below (hb_Qv G [(q, .inr (4, [.ref q_traces, .ref q_power, .ref q_next, .ref q_together, .ref q_numbers, .int f_degree])), (q_traces, .inl (cJ, 63, .inr (.inl r))), (q_power, .inl (cJ, 63, .inr (.inl f_power))), (q_next, .inl (cJ, 63, .inr (.inl f_next))), (q_together, .inl (cJ, 9, .inr (.inl f_together))), (q_numbers, .inl (cJ, 9, .inr (.inl f_numbers)))] A) ([.ref q, .int y1] : List Value).toArray s 0 0 A) (F0 m 0 ls []) from hh s.heap [] hP hD hS
  intro H locs hP hD hS
  unfold p_X5_fillTraces at h
  refine lv_iconst (v := 0) hx hb dX5_fillTraces_0 (by decide) ?_
  refine lv_istore_n (lv' := [(2, .int (0 : Int32)), (0, .ref q), (1, .int y1)]) hx hb dX5_fillTraces_1 rfl hl (by decide) rfl (fun ls hl => ?_)
  exact G2 y1 (0 : Int32) f_traces h H locs hP hD hS ls (lv_sub hl [1, 2, 0] rfl)
-- X5_traceAt
def p_X5_traceAt (f_traces : (Nat → Int64)) (y1 : Int32) : Option Int64 :=
  (if y1 < 0 then some (0 : Int64) else (if (63 : Int32) ≤ y1 then some (0 : Int64) else (if ainB y1 63 = true then some (f_traces (y1).toNatClampNeg) else none)))
theorem in_X5_traceAt_X5 : ∀ w ∈ u_ws RX5 TX5 6, w ∈ wsX5_traceAt := fun w h => List.mem_cons_of_mem _ (List.mem_append_right _ h)
theorem kv_X5_traceAt : yX5_traceAt.cls = RX5 ∧ yX5_traceAt.cls ≠ "java/lang/invoke/MethodHandle" ∧ yX5_traceAt.cls ≠ "java/lang/invoke/VarHandle" ∧ (parseMethodDescriptor yX5_traceAt.desc).map (fun d => d.parameters.length) = some 1 := by decide +kernel
set_option maxHeartbeats 4000000 in
set_option maxRecDepth 100000 in
theorem c_X5_traceAt (l : Launch) (G : va_G) (cI cJ cZ cS : ClassId) (q q_traces q_power q_next q_together q_numbers : Nat) (sz : Nat) (f_traces : (Nat → Int64)) (f_power : (Nat → Int64)) (f_next : (Nat → Int64)) (f_together : (Nat → Int64)) (f_numbers : (Nat → Int64)) (f_degree : Int32) (y1 : Int32) (r : Int64) (h : p_X5_traceAt f_traces y1 = some r) : Met l yX5_traceAt wsX5_traceAt { frames := 0, cells := 0, slots := 0, locals := 0 } (hb_pre G (hbT cI cJ cZ cS) [.ref q, .int y1] sz [(q, .inr (4, [.ref q_traces, .ref q_power, .ref q_next, .ref q_together, .ref q_numbers, .int f_degree])), (q_traces, .inl (cJ, 63, .inr (.inl f_traces))), (q_power, .inl (cJ, 63, .inr (.inl f_power))), (q_next, .inl (cJ, 63, .inr (.inl f_next))), (q_together, .inl (cJ, 9, .inr (.inl f_together))), (q_numbers, .inl (cJ, 9, .inr (.inl f_numbers)))]) (hb_Ql G r [(q, .inr (4, [.ref q_traces, .ref q_power, .ref q_next, .ref q_together, .ref q_numbers, .int f_degree])), (q_traces, .inl (cJ, 63, .inr (.inl f_traces))), (q_power, .inl (cJ, 63, .inr (.inl f_power))), (q_next, .inl (cJ, 63, .inr (.inl f_next))), (q_together, .inl (cJ, 9, .inr (.inl f_together))), (q_numbers, .inl (cJ, 9, .inr (.inl f_numbers)))] (va_A [(q, .inr (4, [.ref q_traces, .ref q_power, .ref q_next, .ref q_together, .ref q_numbers, .int f_degree])), (q_traces, .inl (cJ, 63, .inr (.inl f_traces))), (q_power, .inl (cJ, 63, .inr (.inl f_power))), (q_next, .inl (cJ, 63, .inr (.inl f_next))), (q_together, .inl (cJ, 9, .inr (.inl f_together))), (q_numbers, .inl (cJ, 9, .inr (.inl f_numbers)))] sz)) 0 0 (va_A [(q, .inr (4, [.ref q_traces, .ref q_power, .ref q_next, .ref q_together, .ref q_numbers, .int f_degree])), (q_traces, .inl (cJ, 63, .inr (.inl f_traces))), (q_power, .inl (cJ, 63, .inr (.inl f_power))), (q_next, .inl (cJ, 63, .inr (.inl f_next))), (q_together, .inl (cJ, 9, .inr (.inl f_together))), (q_numbers, .inl (cJ, 9, .inr (.inl f_numbers)))] sz) := by
  refine hb_met (Qc := fun A => hb_Ql G r [(q, .inr (4, [.ref q_traces, .ref q_power, .ref q_next, .ref q_together, .ref q_numbers, .int f_degree])), (q_traces, .inl (cJ, 63, .inr (.inl f_traces))), (q_power, .inl (cJ, 63, .inr (.inl f_power))), (q_next, .inl (cJ, 63, .inr (.inl f_next))), (q_together, .inl (cJ, 9, .inr (.inl f_together))), (q_numbers, .inl (cJ, 9, .inr (.inl f_numbers)))] A) (cc := cX5_traceAt) (maxL := 2) (ret := some .long) (by decide) rfl (Nat.le_of_ble_eq_true rfl) ?_
  intro p e s m below meth c A hx hb hr hts hown hlocks hml hin hK hA hP hD hS ls hl
  have hown : s.vm.findClass RX5 = some m.cls := hown
  have S0 : CallFix p m c cX5_traceAt 2 s ([.ref q, .int y1] : List Value).toArray wsX5_traceAt RX5 := ⟨hx, hb, hml, hown, hts⟩
  have hl : lv_has ls 2 [(0, .ref q), (1, .int y1)] := hl
  suffices hh : ∀ (H : Heap) (locs : List Loc), va_P G vwCl [(q, .inr (4, [.ref q_traces, .ref q_power, .ref q_next, .ref q_together, .ref q_numbers, .int f_degree])), (q_traces, .inl (cJ, 63, .inr (.inl f_traces))), (q_power, .inl (cJ, 63, .inr (.inl f_power))), (q_next, .inl (cJ, 63, .inr (.inl f_next))), (q_together, .inl (cJ, 9, .inr (.inl f_together))), (q_numbers, .inl (cJ, 9, .inr (.inl f_numbers)))] H → va_D A [(q, .inr (4, [.ref q_traces, .ref q_power, .ref q_next, .ref q_together, .ref q_numbers, .int f_degree])), (q_traces, .inl (cJ, 63, .inr (.inl f_traces))), (q_power, .inl (cJ, 63, .inr (.inl f_power))), (q_next, .inl (cJ, 63, .inr (.inl f_next))), (q_together, .inl (cJ, 9, .inr (.inl f_together))), (q_numbers, .inl (cJ, 9, .inr (.inl f_numbers)))] → va_S A s.heap H locs → W p l e (headSpec wsX5_traceAt { frames := 0, cells := 0, slots := 0, locals := 0 }).room s m ([.ref q, .int y1] : List Value).toArray below meth c H locs 0 0 (MQ below (hb_Ql G r [(q, .inr (4, [.ref q_traces, .ref q_power, .ref q_next, .ref q_together, .ref q_numbers, .int f_degree])), (q_traces, .inl (cJ, 63, .inr (.inl f_traces))), (q_power, .inl (cJ, 63, .inr (.inl f_power))), (q_next, .inl (cJ, 63, .inr (.inl f_next))), (q_together, .inl (cJ, 9, .inr (.inl f_together))), (q_numbers, .inl (cJ, 9, .inr (.inl f_numbers)))] A) ([.ref q, .int y1] : List Value).toArray s 0 0 A) (F0 m 0 ls []) from hh s.heap [] hP hD hS
  intro H locs hP hD hS
  unfold p_X5_traceAt at h
  refine lv_iload_n hx hb dX5_traceAt_0 rfl (lv_at hl 1 rfl) ?_
  refine lv_if_lt (tgt := 22) hx hb dX5_traceAt_1 (by decide) (fun c1 => ?_) (fun c1 => ?_)
  · have h := pf_pos h c1
    refine lv_lconst (v := 0) hx hb dX5_traceAt_22 (by decide) ?_
    cases h
    exact hb_lret hx hb hr hlocks hP hD hS dX5_traceAt_23
  · have h := pf_neg h c1
    refine lv_iload_n hx hb dX5_traceAt_4 rfl (lv_at hl 1 rfl) ?_
    refine lv_aload_n hx hb dX5_traceAt_5 rfl (lv_at hl 0 rfl) ?_
    refine va_get (D := G) (ci := 4) (v := .ref q_traces) (C := RX5) (T := TX5) (N := 6) hx hb hts in_X5_traceAt_X5 hown hK.1 hP 0 rfl rfl 0 (by decide) (hts (.fieldLink RX5 9 "FieldsByClasses$Sums" "traces" "[J") (by decide +kernel)) (fun _ h9 => h9) rfl dX5_traceAt_6 ?_
    refine va_alen (v := 63) hx hb hK.1 hP 1 1 rfl rfl rfl dX5_traceAt_9 ?_
    refine lv_icmp_ge (tgt := 22) hx hb dX5_traceAt_10 (by decide) (fun c10 => ?_) (fun c10 => ?_)
    · have h := pf_pos h c10
      refine lv_lconst (v := 0) hx hb dX5_traceAt_22 (by decide) ?_
      cases h
      exact hb_lret hx hb hr hlocks hP hD hS dX5_traceAt_23
    · have h := pf_neg h c10
      refine lv_aload_n hx hb dX5_traceAt_13 rfl (lv_at hl 0 rfl) ?_
      refine va_get (D := G) (ci := 4) (v := .ref q_traces) (C := RX5) (T := TX5) (N := 6) hx hb hts in_X5_traceAt_X5 hown hK.1 hP 0 rfl rfl 0 (by decide) (hts (.fieldLink RX5 9 "FieldsByClasses$Sums" "traces" "[J") (by decide +kernel)) (fun _ h9 => h9) rfl dX5_traceAt_14 ?_
      refine lv_iload_n hx hb dX5_traceAt_17 rfl (lv_at hl 1 rfl) ?_
      obtain ⟨hi18, h⟩ := pf_need h
      refine va_lald hx hb hK.1 hP 1 1 rfl rfl (ain_of hi18) dX5_traceAt_18 ?_
      refine lv_goto (tgt := 23) hx hb dX5_traceAt_19 (by decide) ?_
      cases h
      exact hb_lret hx hb hr hlocks hP hD hS dX5_traceAt_23
-- X5_pairs
def e_X5_pairs_75 (x6 : Int64) : Option Int64 :=
  some x6
def e_X5_pairs_69 (x1 : Int64) (x3 : Int64) (x5 : Int32) (x6 : Int64) (x8 : Int32) (f_traces : (Nat → Int64)) : Option ((Int64 × Int32) ⊕ (Int64)) :=
  some (Sum.inl (x6, (x8 + (1 : Int32))))
def s_X5_pairs_25 (x1 : Int64) (x3 : Int64) (x5 : Int32) (x6 : Int64) (x8 : Int32) (x9 : Int32) (f_traces : (Nat → Int64)) : Option ((Int64 × Int32) ⊕ (Int64)) :=
  (if x5 ≤ x9 then some (Sum.inr x6) else ((p_X3_has x3 x9).bind fun v35 => (if v35 = 0 then some (Sum.inl (x6, (x9 + (1 : Int32)))) else ((p_X6_rest ((x8 - x9) + x5) x5).bind fun v54 => ((p_X5_traceAt f_traces v54).bind fun v57 => some (Sum.inl ((x6 + v57), (x9 + (1 : Int32)))))))))
def a_X5_pairs_25 (x1 : Int64) (x3 : Int64) (x5 : Int32) (x8 : Int32) (f_traces : (Nat → Int64)) (b : Int64) : Option ((Int64 × Int32) ⊕ (Int64)) := (fun q : Int64 => e_X5_pairs_69 x1 x3 x5 q x8 f_traces) b
def g_X5_pairs_25 (x1 : Int64) (x3 : Int64) (x5 : Int32) (x6 : Int64) (x8 : Int32) (x9 : Int32) (f_traces : (Nat → Int64)) : Option ((Int64 × Int32) ⊕ (Int64)) := (lpF (fun q : (Int64 × Int32) => s_X5_pairs_25 x1 x3 x5 q.1 x8 q.2 f_traces) pfFU (x6, x9)).bind (a_X5_pairs_25 x1 x3 x5 x8 f_traces)
def s_X5_pairs_6 (x1 : Int64) (x3 : Int64) (x5 : Int32) (x6 : Int64) (x8 : Int32) (f_traces : (Nat → Int64)) : Option ((Int64 × Int32) ⊕ (Int64)) :=
  (if x5 ≤ x8 then some (Sum.inr x6) else ((p_X3_has x1 x8).bind fun v16 => (if v16 = 0 then some (Sum.inl (x6, (x8 + (1 : Int32)))) else g_X5_pairs_25 x1 x3 x5 x6 x8 (0 : Int32) f_traces)))
def a_X5_pairs_6  (b : Int64) : Option Int64 := (fun q : Int64 => e_X5_pairs_75 q) b
def g_X5_pairs_6 (x1 : Int64) (x3 : Int64) (x5 : Int32) (x6 : Int64) (x8 : Int32) (f_traces : (Nat → Int64)) : Option Int64 := (lpF (fun q : (Int64 × Int32) => s_X5_pairs_6 x1 x3 x5 q.1 q.2 f_traces) pfFU (x6, x8)).bind (a_X5_pairs_6 )
def p_X5_pairs (f_traces : (Nat → Int64)) (y1 : Int64) (y3 : Int64) (y5 : Int32) : Option Int64 :=
  g_X5_pairs_6 y1 y3 y5 (0 : Int64) (0 : Int32) f_traces
theorem kv_X5_pairs : yX5_pairs.cls = RX5 ∧ yX5_pairs.cls ≠ "java/lang/invoke/MethodHandle" ∧ yX5_pairs.cls ≠ "java/lang/invoke/VarHandle" ∧ (parseMethodDescriptor yX5_pairs.desc).map (fun d => d.parameters.length) = some 3 := by decide +kernel
set_option maxHeartbeats 4000000 in
set_option maxRecDepth 100000 in
theorem c_X5_pairs (l : Launch) (G : va_G) (cI cJ cZ cS : ClassId) (q q_traces q_power q_next q_together q_numbers : Nat) (sz : Nat) (f_traces : (Nat → Int64)) (f_power : (Nat → Int64)) (f_next : (Nat → Int64)) (f_together : (Nat → Int64)) (f_numbers : (Nat → Int64)) (f_degree : Int32) (y1 : Int64) (y3 : Int64) (y5 : Int32) (r : Int64) (h : p_X5_pairs f_traces y1 y3 y5 = some r) : Met l yX5_pairs wsX5_pairs { frames := 1, cells := 0, slots := 0, locals := 22 } (hb_pre G (hbT cI cJ cZ cS) [.ref q, .long y1, .long y3, .int y5] sz [(q, .inr (4, [.ref q_traces, .ref q_power, .ref q_next, .ref q_together, .ref q_numbers, .int f_degree])), (q_traces, .inl (cJ, 63, .inr (.inl f_traces))), (q_power, .inl (cJ, 63, .inr (.inl f_power))), (q_next, .inl (cJ, 63, .inr (.inl f_next))), (q_together, .inl (cJ, 9, .inr (.inl f_together))), (q_numbers, .inl (cJ, 9, .inr (.inl f_numbers)))]) (hb_Ql G r [(q, .inr (4, [.ref q_traces, .ref q_power, .ref q_next, .ref q_together, .ref q_numbers, .int f_degree])), (q_traces, .inl (cJ, 63, .inr (.inl f_traces))), (q_power, .inl (cJ, 63, .inr (.inl f_power))), (q_next, .inl (cJ, 63, .inr (.inl f_next))), (q_together, .inl (cJ, 9, .inr (.inl f_together))), (q_numbers, .inl (cJ, 9, .inr (.inl f_numbers)))] (va_A [(q, .inr (4, [.ref q_traces, .ref q_power, .ref q_next, .ref q_together, .ref q_numbers, .int f_degree])), (q_traces, .inl (cJ, 63, .inr (.inl f_traces))), (q_power, .inl (cJ, 63, .inr (.inl f_power))), (q_next, .inl (cJ, 63, .inr (.inl f_next))), (q_together, .inl (cJ, 9, .inr (.inl f_together))), (q_numbers, .inl (cJ, 9, .inr (.inl f_numbers)))] sz)) 0 0 (va_A [(q, .inr (4, [.ref q_traces, .ref q_power, .ref q_next, .ref q_together, .ref q_numbers, .int f_degree])), (q_traces, .inl (cJ, 63, .inr (.inl f_traces))), (q_power, .inl (cJ, 63, .inr (.inl f_power))), (q_next, .inl (cJ, 63, .inr (.inl f_next))), (q_together, .inl (cJ, 9, .inr (.inl f_together))), (q_numbers, .inl (cJ, 9, .inr (.inl f_numbers)))] sz) := by
  refine hb_met (Qc := fun A => hb_Ql G r [(q, .inr (4, [.ref q_traces, .ref q_power, .ref q_next, .ref q_together, .ref q_numbers, .int f_degree])), (q_traces, .inl (cJ, 63, .inr (.inl f_traces))), (q_power, .inl (cJ, 63, .inr (.inl f_power))), (q_next, .inl (cJ, 63, .inr (.inl f_next))), (q_together, .inl (cJ, 9, .inr (.inl f_together))), (q_numbers, .inl (cJ, 9, .inr (.inl f_numbers)))] A) (cc := cX5_pairs) (maxL := 10) (ret := some .long) (by decide) rfl (Nat.le_of_ble_eq_true rfl) ?_
  intro p e s m below meth c A hx hb hr hts hown hlocks hml hin hK hA hP hD hS ls hl
  have hown : s.vm.findClass RX5 = some m.cls := hown
  have S0 : CallFix p m c cX5_pairs 10 s ([.ref q, .long y1, .long y3, .int y5] : List Value).toArray wsX5_pairs RX5 := ⟨hx, hb, hml, hown, hts⟩
  have hl : lv_has ls 10 [(0, .ref q), (1, .long y1), (3, .long y3), (5, .int y5)] := hl
  have K75 : ∀ (x6 : Int64), e_X5_pairs_75 x6 = some r → ∀ (H : Heap) (locs : List Loc), va_P G vwCl [(q, .inr (4, [.ref q_traces, .ref q_power, .ref q_next, .ref q_together, .ref q_numbers, .int f_degree])), (q_traces, .inl (cJ, 63, .inr (.inl f_traces))), (q_power, .inl (cJ, 63, .inr (.inl f_power))), (q_next, .inl (cJ, 63, .inr (.inl f_next))), (q_together, .inl (cJ, 9, .inr (.inl f_together))), (q_numbers, .inl (cJ, 9, .inr (.inl f_numbers)))] H → va_D A [(q, .inr (4, [.ref q_traces, .ref q_power, .ref q_next, .ref q_together, .ref q_numbers, .int f_degree])), (q_traces, .inl (cJ, 63, .inr (.inl f_traces))), (q_power, .inl (cJ, 63, .inr (.inl f_power))), (q_next, .inl (cJ, 63, .inr (.inl f_next))), (q_together, .inl (cJ, 9, .inr (.inl f_together))), (q_numbers, .inl (cJ, 9, .inr (.inl f_numbers)))] → va_S A s.heap H locs → ∀ ls, lv_has ls 10 [(6, .long x6)] → W p l e (headSpec wsX5_pairs { frames := 1, cells := 0, slots := 0, locals := 22 }).room s m ([.ref q, .long y1, .long y3, .int y5] : List Value).toArray below meth c H locs 0 0 (MQ below (hb_Ql G r [(q, .inr (4, [.ref q_traces, .ref q_power, .ref q_next, .ref q_together, .ref q_numbers, .int f_degree])), (q_traces, .inl (cJ, 63, .inr (.inl f_traces))), (q_power, .inl (cJ, 63, .inr (.inl f_power))), (q_next, .inl (cJ, 63, .inr (.inl f_next))), (q_together, .inl (cJ, 9, .inr (.inl f_together))), (q_numbers, .inl (cJ, 9, .inr (.inl f_numbers)))] A) ([.ref q, .long y1, .long y3, .int y5] : List Value).toArray s 0 0 A) (F0 m 75 ls []) := by
    intro x6 h H locs hP hD hS ls hl
    unfold e_X5_pairs_75 at h
    refine lv_lload hx hb dX5_pairs_75 (lv_at hl 0 rfl) ?_
    cases h
    exact hb_lret hx hb hr hlocks hP hD hS dX5_pairs_77
  have L6 : ∀ (n : Nat) (x1 : Int64) (x3 : Int64) (x5 : Int32) (x6 : Int64) (x8 : Int32) (b : Int64), lpF (fun q : (Int64 × Int32) => s_X5_pairs_6 x1 x3 x5 q.1 q.2 f_traces) n (x6, x8) = some b → a_X5_pairs_6 b = some r → ∀ (H : Heap) (locs : List Loc), va_P G vwCl [(q, .inr (4, [.ref q_traces, .ref q_power, .ref q_next, .ref q_together, .ref q_numbers, .int f_degree])), (q_traces, .inl (cJ, 63, .inr (.inl f_traces))), (q_power, .inl (cJ, 63, .inr (.inl f_power))), (q_next, .inl (cJ, 63, .inr (.inl f_next))), (q_together, .inl (cJ, 9, .inr (.inl f_together))), (q_numbers, .inl (cJ, 9, .inr (.inl f_numbers)))] H → va_D A [(q, .inr (4, [.ref q_traces, .ref q_power, .ref q_next, .ref q_together, .ref q_numbers, .int f_degree])), (q_traces, .inl (cJ, 63, .inr (.inl f_traces))), (q_power, .inl (cJ, 63, .inr (.inl f_power))), (q_next, .inl (cJ, 63, .inr (.inl f_next))), (q_together, .inl (cJ, 9, .inr (.inl f_together))), (q_numbers, .inl (cJ, 9, .inr (.inl f_numbers)))] → va_S A s.heap H locs → ∀ ls, lv_has ls 10 [(0, .ref q), (1, .long x1), (3, .long x3), (5, .int x5), (6, .long x6), (8, .int x8)] → W p l e (headSpec wsX5_pairs { frames := 1, cells := 0, slots := 0, locals := 22 }).room s m ([.ref q, .long y1, .long y3, .int y5] : List Value).toArray below meth c H locs 0 0 (MQ below (hb_Ql G r [(q, .inr (4, [.ref q_traces, .ref q_power, .ref q_next, .ref q_together, .ref q_numbers, .int f_degree])), (q_traces, .inl (cJ, 63, .inr (.inl f_traces))), (q_power, .inl (cJ, 63, .inr (.inl f_power))), (q_next, .inl (cJ, 63, .inr (.inl f_next))), (q_together, .inl (cJ, 9, .inr (.inl f_together))), (q_numbers, .inl (cJ, 9, .inr (.inl f_numbers)))] A) ([.ref q, .long y1, .long y3, .int y5] : List Value).toArray s 0 0 A) (F0 m 6 ls []) := by
    intro n
    induction n with
    | zero => intro x1 x3 x5 x6 x8 b h; exact lp_zero h
    | succ n ih =>
      intro x1 x3 x5 x6 x8 b h ha H locs hP hD hS ls hl
      obtain ⟨z6, h, hz⟩ := lp_open h
      have h : s_X5_pairs_6 x1 x3 x5 x6 x8 f_traces = some z6 := h
      have K69 : ∀ (x6 : Int64) (x8 : Int32), e_X5_pairs_69 x1 x3 x5 x6 x8 f_traces = some z6 → ∀ (H : Heap) (locs : List Loc), va_P G vwCl [(q, .inr (4, [.ref q_traces, .ref q_power, .ref q_next, .ref q_together, .ref q_numbers, .int f_degree])), (q_traces, .inl (cJ, 63, .inr (.inl f_traces))), (q_power, .inl (cJ, 63, .inr (.inl f_power))), (q_next, .inl (cJ, 63, .inr (.inl f_next))), (q_together, .inl (cJ, 9, .inr (.inl f_together))), (q_numbers, .inl (cJ, 9, .inr (.inl f_numbers)))] H → va_D A [(q, .inr (4, [.ref q_traces, .ref q_power, .ref q_next, .ref q_together, .ref q_numbers, .int f_degree])), (q_traces, .inl (cJ, 63, .inr (.inl f_traces))), (q_power, .inl (cJ, 63, .inr (.inl f_power))), (q_next, .inl (cJ, 63, .inr (.inl f_next))), (q_together, .inl (cJ, 9, .inr (.inl f_together))), (q_numbers, .inl (cJ, 9, .inr (.inl f_numbers)))] → va_S A s.heap H locs → ∀ ls, lv_has ls 10 [(0, .ref q), (1, .long x1), (3, .long x3), (5, .int x5), (6, .long x6), (8, .int x8)] → W p l e (headSpec wsX5_pairs { frames := 1, cells := 0, slots := 0, locals := 22 }).room s m ([.ref q, .long y1, .long y3, .int y5] : List Value).toArray below meth c H locs 0 0 (MQ below (hb_Ql G r [(q, .inr (4, [.ref q_traces, .ref q_power, .ref q_next, .ref q_together, .ref q_numbers, .int f_degree])), (q_traces, .inl (cJ, 63, .inr (.inl f_traces))), (q_power, .inl (cJ, 63, .inr (.inl f_power))), (q_next, .inl (cJ, 63, .inr (.inl f_next))), (q_together, .inl (cJ, 9, .inr (.inl f_together))), (q_numbers, .inl (cJ, 9, .inr (.inl f_numbers)))] A) ([.ref q, .long y1, .long y3, .int y5] : List Value).toArray s 0 0 A) (F0 m 69 ls []) := by
        intro x6 x8 h H locs hP hD hS ls hl
        unfold e_X5_pairs_69 at h
        refine lv_iinc (v := (x8 + (1 : Int32))) (lv' := [(8, .int (x8 + (1 : Int32))), (0, .ref q), (1, .long x1), (3, .long x3), (5, .int x5), (6, .long x6)]) hx hb dX5_pairs_69 hl (k := 5) rfl rfl (by decide) rfl (fun ls hl => ?_)
        refine lv_goto (tgt := 6) hx hb dX5_pairs_72 (by decide) ?_
        exact ih x1 x3 x5 x6 (x8 + (1 : Int32)) b (lp_cont h hz) ha H locs hP hD hS ls (lv_sub hl [1, 2, 3, 4, 5, 0] rfl)
      have L25 : ∀ (n : Nat) (x6 : Int64) (x8 : Int32) (x9 : Int32) (b : Int64), lpF (fun q : (Int64 × Int32) => s_X5_pairs_25 x1 x3 x5 q.1 x8 q.2 f_traces) n (x6, x9) = some b → a_X5_pairs_25 x1 x3 x5 x8 f_traces b = some z6 → ∀ (H : Heap) (locs : List Loc), va_P G vwCl [(q, .inr (4, [.ref q_traces, .ref q_power, .ref q_next, .ref q_together, .ref q_numbers, .int f_degree])), (q_traces, .inl (cJ, 63, .inr (.inl f_traces))), (q_power, .inl (cJ, 63, .inr (.inl f_power))), (q_next, .inl (cJ, 63, .inr (.inl f_next))), (q_together, .inl (cJ, 9, .inr (.inl f_together))), (q_numbers, .inl (cJ, 9, .inr (.inl f_numbers)))] H → va_D A [(q, .inr (4, [.ref q_traces, .ref q_power, .ref q_next, .ref q_together, .ref q_numbers, .int f_degree])), (q_traces, .inl (cJ, 63, .inr (.inl f_traces))), (q_power, .inl (cJ, 63, .inr (.inl f_power))), (q_next, .inl (cJ, 63, .inr (.inl f_next))), (q_together, .inl (cJ, 9, .inr (.inl f_together))), (q_numbers, .inl (cJ, 9, .inr (.inl f_numbers)))] → va_S A s.heap H locs → ∀ ls, lv_has ls 10 [(0, .ref q), (1, .long x1), (3, .long x3), (5, .int x5), (6, .long x6), (8, .int x8), (9, .int x9)] → W p l e (headSpec wsX5_pairs { frames := 1, cells := 0, slots := 0, locals := 22 }).room s m ([.ref q, .long y1, .long y3, .int y5] : List Value).toArray below meth c H locs 0 0 (MQ below (hb_Ql G r [(q, .inr (4, [.ref q_traces, .ref q_power, .ref q_next, .ref q_together, .ref q_numbers, .int f_degree])), (q_traces, .inl (cJ, 63, .inr (.inl f_traces))), (q_power, .inl (cJ, 63, .inr (.inl f_power))), (q_next, .inl (cJ, 63, .inr (.inl f_next))), (q_together, .inl (cJ, 9, .inr (.inl f_together))), (q_numbers, .inl (cJ, 9, .inr (.inl f_numbers)))] A) ([.ref q, .long y1, .long y3, .int y5] : List Value).toArray s 0 0 A) (F0 m 25 ls []) := by
        intro n
        induction n with
        | zero => intro x6 x8 x9 b h; exact lp_zero h
        | succ n ih =>
          intro x6 x8 x9 b h ha H locs hP hD hS ls hl
          obtain ⟨z25, h, hz⟩ := lp_open h
          have h : s_X5_pairs_25 x1 x3 x5 x6 x8 x9 f_traces = some z25 := h
          unfold s_X5_pairs_25 at h
          refine lv_iload hx hb dX5_pairs_25 (lv_at hl 6 rfl) ?_
          refine lv_iload hx hb dX5_pairs_27 (lv_at hl 3 rfl) ?_
          refine lv_icmp_ge (tgt := 69) hx hb dX5_pairs_29 (by decide) (fun c29 => ?_) (fun c29 => ?_)
          · have h := pf_pos h c29
            have ha := pf_aft ha (lp_exit h hz)
            exact K69 x6 x8 ha H locs hP hD hS ls (lv_sub hl [0, 1, 2, 3, 4, 5] rfl)
          · have h := pf_neg h c29
            refine lv_lload_n hx hb dX5_pairs_32 rfl (lv_at hl 2 rfl) ?_
            refine lv_iload hx hb dX5_pairs_33 (lv_at hl 6 rfl) ?_
            obtain ⟨v35, hv35, h⟩ := pf_bind h
            refine pf_call (As := [.long x3, .int x9]) (rest := []) S0 (c_X3_has l x3 x9 v35 hv35) (va_cwS 2 hts gX5_pairs_X3_has rfl rfl rfl kd_X3_has ⟨Nat.le_of_ble_eq_true rfl, Nat.le_of_ble_eq_true rfl⟩) rfl hl.1 rfl (Nat.le_of_ble_eq_true rfl) dX5_pairs_35 ⟨Nat.zero_le _, Nat.zero_le _⟩ ?_
            refine lv_if_eq (tgt := 63) hx hb dX5_pairs_38 (by decide) (fun c38 => ?_) (fun c38 => ?_)
            · have h := pf_pos h c38
              refine lv_iinc (v := (x9 + (1 : Int32))) (lv' := [(9, .int (x9 + (1 : Int32))), (0, .ref q), (1, .long x1), (3, .long x3), (5, .int x5), (6, .long x6), (8, .int x8)]) hx hb dX5_pairs_63 hl (k := 6) rfl rfl (by decide) rfl (fun ls hl => ?_)
              refine lv_goto (tgt := 25) hx hb dX5_pairs_66 (by decide) ?_
              exact ih x6 x8 (x9 + (1 : Int32)) b (lp_cont h hz) ha H locs hP hD hS ls (lv_sub hl [1, 2, 3, 4, 5, 6, 0] rfl)
            · have h := pf_neg h c38
              refine lv_lload hx hb dX5_pairs_41 (lv_at hl 4 rfl) ?_
              refine lv_aload_n hx hb dX5_pairs_43 rfl (lv_at hl 0 rfl) ?_
              refine lv_iload hx hb dX5_pairs_44 (lv_at hl 5 rfl) ?_
              refine lv_iload hx hb dX5_pairs_46 (lv_at hl 6 rfl) ?_
              refine lv_isub hx hb dX5_pairs_48 ?_
              refine lv_iload hx hb dX5_pairs_49 (lv_at hl 3 rfl) ?_
              refine lv_iadd hx hb dX5_pairs_51 ?_
              refine lv_iload hx hb dX5_pairs_52 (lv_at hl 3 rfl) ?_
              obtain ⟨v54, hv54, h⟩ := pf_bind h
              refine pf_call (As := [.int ((x8 - x9) + x5), .int x5]) (rest := [.ref q, .long x6]) S0 (c_X6_rest l ((x8 - x9) + x5) x5 v54 hv54) (va_cwS 2 hts gX5_pairs_X6_rest rfl rfl rfl kd_X6_rest ⟨Nat.le_of_ble_eq_true rfl, Nat.le_of_ble_eq_true rfl⟩) rfl hl.1 rfl (Nat.le_of_ble_eq_true rfl) dX5_pairs_54 ⟨Nat.zero_le _, Nat.zero_le _⟩ ?_
              obtain ⟨v57, hv57, h⟩ := pf_bind h
              refine hb_calll (hb_runV (G := G) (T := hbT cI cJ cZ cS) (As := [.int v54]) (rest := [.long x6]) S0 (c_X5_traceAt l G cI cJ cZ cS q q_traces q_power q_next q_together q_numbers H.size f_traces f_power f_next f_together f_numbers f_degree v54 v57 hv57) (cwV 1 hts gX5_pairs_X5_traceAt rfl rfl rfl kv_X5_traceAt ⟨Nat.le_of_ble_eq_true rfl, Nat.le_of_ble_eq_true rfl⟩) hK (hP.sub [0, 1, 2, 3, 4, 5] rfl) (hD.sub [0, 1, 2, 3, 4, 5] (by decide) rfl) rfl rfl rfl hl.1 rfl (Nat.le_of_ble_eq_true rfl) dX5_pairs_57 ⟨Nat.zero_le _, Nat.zero_le _⟩) hP hD hS hA [0, 1, 2, 3, 4, 5] [] [0, 1, 2, 3, 4, 5] rfl (wr := []) rfl (by decide) (by decide) (w2 := [(q, .inr (4, [.ref q_traces, .ref q_power, .ref q_next, .ref q_together, .ref q_numbers, .int f_degree])), (q_traces, .inl (cJ, 63, .inr (.inl f_traces))), (q_power, .inl (cJ, 63, .inr (.inl f_power))), (q_next, .inl (cJ, 63, .inr (.inl f_next))), (q_together, .inl (cJ, 9, .inr (.inl f_together))), (q_numbers, .inl (cJ, 9, .inr (.inl f_numbers)))]) (by decide) rfl rfl (fun H locs hP hD hS => ?_)
              refine lv_ladd hx hb dX5_pairs_60 ?_
              refine lv_lstore (lv' := [(6, .long (x6 + v57)), (0, .ref q), (1, .long x1), (3, .long x3), (5, .int x5), (8, .int x8), (9, .int x9)]) hx hb dX5_pairs_61 hl (by decide) rfl (fun ls hl => ?_)
              refine lv_iinc (v := (x9 + (1 : Int32))) (lv' := [(9, .int (x9 + (1 : Int32))), (6, .long (x6 + v57)), (0, .ref q), (1, .long x1), (3, .long x3), (5, .int x5), (8, .int x8)]) hx hb dX5_pairs_63 hl (k := 6) rfl rfl (by decide) rfl (fun ls hl => ?_)
              refine lv_goto (tgt := 25) hx hb dX5_pairs_66 (by decide) ?_
              exact ih (x6 + v57) x8 (x9 + (1 : Int32)) b (lp_cont h hz) ha H locs hP hD hS ls (lv_sub hl [2, 3, 4, 5, 1, 6, 0] rfl)
      have G25 : ∀ (x6 : Int64) (x8 : Int32) (x9 : Int32), g_X5_pairs_25 x1 x3 x5 x6 x8 x9 f_traces = some z6 → ∀ (H : Heap) (locs : List Loc), va_P G vwCl [(q, .inr (4, [.ref q_traces, .ref q_power, .ref q_next, .ref q_together, .ref q_numbers, .int f_degree])), (q_traces, .inl (cJ, 63, .inr (.inl f_traces))), (q_power, .inl (cJ, 63, .inr (.inl f_power))), (q_next, .inl (cJ, 63, .inr (.inl f_next))), (q_together, .inl (cJ, 9, .inr (.inl f_together))), (q_numbers, .inl (cJ, 9, .inr (.inl f_numbers)))] H → va_D A [(q, .inr (4, [.ref q_traces, .ref q_power, .ref q_next, .ref q_together, .ref q_numbers, .int f_degree])), (q_traces, .inl (cJ, 63, .inr (.inl f_traces))), (q_power, .inl (cJ, 63, .inr (.inl f_power))), (q_next, .inl (cJ, 63, .inr (.inl f_next))), (q_together, .inl (cJ, 9, .inr (.inl f_together))), (q_numbers, .inl (cJ, 9, .inr (.inl f_numbers)))] → va_S A s.heap H locs → ∀ ls, lv_has ls 10 [(0, .ref q), (1, .long x1), (3, .long x3), (5, .int x5), (6, .long x6), (8, .int x8), (9, .int x9)] → W p l e (headSpec wsX5_pairs { frames := 1, cells := 0, slots := 0, locals := 22 }).room s m ([.ref q, .long y1, .long y3, .int y5] : List Value).toArray below meth c H locs 0 0 (MQ below (hb_Ql G r [(q, .inr (4, [.ref q_traces, .ref q_power, .ref q_next, .ref q_together, .ref q_numbers, .int f_degree])), (q_traces, .inl (cJ, 63, .inr (.inl f_traces))), (q_power, .inl (cJ, 63, .inr (.inl f_power))), (q_next, .inl (cJ, 63, .inr (.inl f_next))), (q_together, .inl (cJ, 9, .inr (.inl f_together))), (q_numbers, .inl (cJ, 9, .inr (.inl f_numbers)))] A) ([.ref q, .long y1, .long y3, .int y5] : List Value).toArray s 0 0 A) (F0 m 25 ls []) := by
        intro x6 x8 x9 h
        unfold g_X5_pairs_25 at h
        obtain ⟨b, h, ha⟩ := pf_bind h
        exact L25 pfFU x6 x8 x9 b h ha
      unfold s_X5_pairs_6 at h
      refine lv_iload hx hb dX5_pairs_6 (lv_at hl 5 rfl) ?_
      refine lv_iload hx hb dX5_pairs_8 (lv_at hl 3 rfl) ?_
      refine lv_icmp_ge (tgt := 75) hx hb dX5_pairs_10 (by decide) (fun c10 => ?_) (fun c10 => ?_)
      · have h := pf_pos h c10
        have ha := pf_aft ha (lp_exit h hz)
        exact K75 x6 ha H locs hP hD hS ls (lv_sub hl [4] rfl)
      · have h := pf_neg h c10
        refine lv_lload_n hx hb dX5_pairs_13 rfl (lv_at hl 1 rfl) ?_
        refine lv_iload hx hb dX5_pairs_14 (lv_at hl 5 rfl) ?_
        obtain ⟨v16, hv16, h⟩ := pf_bind h
        refine pf_call (As := [.long x1, .int x8]) (rest := []) S0 (c_X3_has l x1 x8 v16 hv16) (va_cwS 2 hts gX5_pairs_X3_has rfl rfl rfl kd_X3_has ⟨Nat.le_of_ble_eq_true rfl, Nat.le_of_ble_eq_true rfl⟩) rfl hl.1 rfl (Nat.le_of_ble_eq_true rfl) dX5_pairs_16 ⟨Nat.zero_le _, Nat.zero_le _⟩ ?_
        refine lv_if_eq (tgt := 69) hx hb dX5_pairs_19 (by decide) (fun c19 => ?_) (fun c19 => ?_)
        · have h := pf_pos h c19
          refine lv_iinc (v := (x8 + (1 : Int32))) (lv' := [(8, .int (x8 + (1 : Int32))), (0, .ref q), (1, .long x1), (3, .long x3), (5, .int x5), (6, .long x6)]) hx hb dX5_pairs_69 hl (k := 5) rfl rfl (by decide) rfl (fun ls hl => ?_)
          refine lv_goto (tgt := 6) hx hb dX5_pairs_72 (by decide) ?_
          exact ih x1 x3 x5 x6 (x8 + (1 : Int32)) b (lp_cont h hz) ha H locs hP hD hS ls (lv_sub hl [1, 2, 3, 4, 5, 0] rfl)
        · have h := pf_neg h c19
          refine lv_iconst (v := 0) hx hb dX5_pairs_22 (by decide) ?_
          refine lv_istore (lv' := [(9, .int (0 : Int32)), (0, .ref q), (1, .long x1), (3, .long x3), (5, .int x5), (6, .long x6), (8, .int x8)]) hx hb dX5_pairs_23 hl (by decide) rfl (fun ls hl => ?_)
          exact G25 x6 x8 (0 : Int32) h H locs hP hD hS ls (lv_sub hl [1, 2, 3, 4, 5, 6, 0] rfl)
  have G6 : ∀ (x1 : Int64) (x3 : Int64) (x5 : Int32) (x6 : Int64) (x8 : Int32), g_X5_pairs_6 x1 x3 x5 x6 x8 f_traces = some r → ∀ (H : Heap) (locs : List Loc), va_P G vwCl [(q, .inr (4, [.ref q_traces, .ref q_power, .ref q_next, .ref q_together, .ref q_numbers, .int f_degree])), (q_traces, .inl (cJ, 63, .inr (.inl f_traces))), (q_power, .inl (cJ, 63, .inr (.inl f_power))), (q_next, .inl (cJ, 63, .inr (.inl f_next))), (q_together, .inl (cJ, 9, .inr (.inl f_together))), (q_numbers, .inl (cJ, 9, .inr (.inl f_numbers)))] H → va_D A [(q, .inr (4, [.ref q_traces, .ref q_power, .ref q_next, .ref q_together, .ref q_numbers, .int f_degree])), (q_traces, .inl (cJ, 63, .inr (.inl f_traces))), (q_power, .inl (cJ, 63, .inr (.inl f_power))), (q_next, .inl (cJ, 63, .inr (.inl f_next))), (q_together, .inl (cJ, 9, .inr (.inl f_together))), (q_numbers, .inl (cJ, 9, .inr (.inl f_numbers)))] → va_S A s.heap H locs → ∀ ls, lv_has ls 10 [(0, .ref q), (1, .long x1), (3, .long x3), (5, .int x5), (6, .long x6), (8, .int x8)] → W p l e (headSpec wsX5_pairs { frames := 1, cells := 0, slots := 0, locals := 22 }).room s m ([.ref q, .long y1, .long y3, .int y5] : List Value).toArray below meth c H locs 0 0 (MQ below (hb_Ql G r [(q, .inr (4, [.ref q_traces, .ref q_power, .ref q_next, .ref q_together, .ref q_numbers, .int f_degree])), (q_traces, .inl (cJ, 63, .inr (.inl f_traces))), (q_power, .inl (cJ, 63, .inr (.inl f_power))), (q_next, .inl (cJ, 63, .inr (.inl f_next))), (q_together, .inl (cJ, 9, .inr (.inl f_together))), (q_numbers, .inl (cJ, 9, .inr (.inl f_numbers)))] A) ([.ref q, .long y1, .long y3, .int y5] : List Value).toArray s 0 0 A) (F0 m 6 ls []) := by
    intro x1 x3 x5 x6 x8 h
    unfold g_X5_pairs_6 at h
    obtain ⟨b, h, ha⟩ := pf_bind h
    exact L6 pfFU x1 x3 x5 x6 x8 b h ha
  suffices hh : ∀ (H : Heap) (locs : List Loc), va_P G vwCl [(q, .inr (4, [.ref q_traces, .ref q_power, .ref q_next, .ref q_together, .ref q_numbers, .int f_degree])), (q_traces, .inl (cJ, 63, .inr (.inl f_traces))), (q_power, .inl (cJ, 63, .inr (.inl f_power))), (q_next, .inl (cJ, 63, .inr (.inl f_next))), (q_together, .inl (cJ, 9, .inr (.inl f_together))), (q_numbers, .inl (cJ, 9, .inr (.inl f_numbers)))] H → va_D A [(q, .inr (4, [.ref q_traces, .ref q_power, .ref q_next, .ref q_together, .ref q_numbers, .int f_degree])), (q_traces, .inl (cJ, 63, .inr (.inl f_traces))), (q_power, .inl (cJ, 63, .inr (.inl f_power))), (q_next, .inl (cJ, 63, .inr (.inl f_next))), (q_together, .inl (cJ, 9, .inr (.inl f_together))), (q_numbers, .inl (cJ, 9, .inr (.inl f_numbers)))] → va_S A s.heap H locs → W p l e (headSpec wsX5_pairs { frames := 1, cells := 0, slots := 0, locals := 22 }).room s m ([.ref q, .long y1, .long y3, .int y5] : List Value).toArray below meth c H locs 0 0 (MQ below (hb_Ql G r [(q, .inr (4, [.ref q_traces, .ref q_power, .ref q_next, .ref q_together, .ref q_numbers, .int f_degree])), (q_traces, .inl (cJ, 63, .inr (.inl f_traces))), (q_power, .inl (cJ, 63, .inr (.inl f_power))), (q_next, .inl (cJ, 63, .inr (.inl f_next))), (q_together, .inl (cJ, 9, .inr (.inl f_together))), (q_numbers, .inl (cJ, 9, .inr (.inl f_numbers)))] A) ([.ref q, .long y1, .long y3, .int y5] : List Value).toArray s 0 0 A) (F0 m 0 ls []) from hh s.heap [] hP hD hS
  intro H locs hP hD hS
  unfold p_X5_pairs at h
  refine lv_lconst (v := 0) hx hb dX5_pairs_0 (by decide) ?_
  refine lv_lstore (lv' := [(6, .long (0 : Int64)), (0, .ref q), (1, .long y1), (3, .long y3), (5, .int y5)]) hx hb dX5_pairs_1 hl (by decide) rfl (fun ls hl => ?_)
  refine lv_iconst (v := 0) hx hb dX5_pairs_3 (by decide) ?_
  refine lv_istore (lv' := [(8, .int (0 : Int32)), (6, .long (0 : Int64)), (0, .ref q), (1, .long y1), (3, .long y3), (5, .int y5)]) hx hb dX5_pairs_4 hl (by decide) rfl (fun ls hl => ?_)
  exact G6 y1 y3 y5 (0 : Int64) (0 : Int32) h H locs hP hD hS ls (lv_sub hl [2, 3, 4, 5, 1, 0] rfl)
-- X5_hasAlike
def e_X5_hasAlike_82  : Option Int32 :=
  some (0 : Int32)
def e_X5_hasAlike_63  : Option Int32 :=
  some (1 : Int32)
def s_X5_hasAlike_24 (x1 : Int64) (x3 : Int32) (x4 : Int64) (x6 : Int64) (x8 : Int32) (f_traces : (Nat → Int64)) : Option ((Int64 × Int32) ⊕ (Unit ⊕ Unit)) :=
  (if x3 ≤ x8 then some (Sum.inr (Sum.inr ())) else ((p_X3_has x6 x8).bind fun v34 => (if v34 = 0 then some (Sum.inl (x6, (x8 + (1 : Int32)))) else ((p_X3_times x1 x8 x3).bind fun v44 => ((p_X5_pairs f_traces x1 v44 x3).bind fun v56 => (if x4 = v56 then some (Sum.inr (Sum.inl ())) else some (Sum.inl ((x6 &&& (v44 ^^^ (-1 : Int64))), (x8 + (1 : Int32))))))))))
def a_X5_hasAlike_24  (b : Unit ⊕ Unit) : Option Int32 := Sum.elim (fun q : Unit => e_X5_hasAlike_63 ) (fun q : Unit => e_X5_hasAlike_82 ) b
def g_X5_hasAlike_24 (x1 : Int64) (x3 : Int32) (x4 : Int64) (x6 : Int64) (x8 : Int32) (f_traces : (Nat → Int64)) : Option Int32 := (lpF (fun q : (Int64 × Int32) => s_X5_hasAlike_24 x1 x3 x4 q.1 q.2 f_traces) pfFU (x6, x8)).bind (a_X5_hasAlike_24 )
def p_X5_hasAlike (f_traces : (Nat → Int64)) (y1 : Int64) (y3 : Int32) : Option Int32 :=
  ((p_X5_pairs f_traces y1 y1 y3).bind fun v4 => ((p_X3_all y3).bind fun v10 => g_X5_hasAlike_24 y1 y3 v4 (v10 &&& (y1 ^^^ (-1 : Int64))) (0 : Int32) f_traces))
theorem kv_X5_hasAlike : yX5_hasAlike.cls = RX5 ∧ yX5_hasAlike.cls ≠ "java/lang/invoke/MethodHandle" ∧ yX5_hasAlike.cls ≠ "java/lang/invoke/VarHandle" ∧ (parseMethodDescriptor yX5_hasAlike.desc).map (fun d => d.parameters.length) = some 2 := by decide +kernel
set_option maxHeartbeats 4000000 in
set_option maxRecDepth 100000 in
theorem c_X5_hasAlike (l : Launch) (G : va_G) (cI cJ cZ cS : ClassId) (q q_traces q_power q_next q_together q_numbers : Nat) (sz : Nat) (f_traces : (Nat → Int64)) (f_power : (Nat → Int64)) (f_next : (Nat → Int64)) (f_together : (Nat → Int64)) (f_numbers : (Nat → Int64)) (f_degree : Int32) (y1 : Int64) (y3 : Int32) (r : Int32) (h : p_X5_hasAlike f_traces y1 y3 = some r) : Met l yX5_hasAlike wsX5_hasAlike { frames := 2, cells := 0, slots := 0, locals := 51 } (hb_pre G (hbT cI cJ cZ cS) [.ref q, .long y1, .int y3] sz [(q, .inr (4, [.ref q_traces, .ref q_power, .ref q_next, .ref q_together, .ref q_numbers, .int f_degree])), (q_traces, .inl (cJ, 63, .inr (.inl f_traces))), (q_power, .inl (cJ, 63, .inr (.inl f_power))), (q_next, .inl (cJ, 63, .inr (.inl f_next))), (q_together, .inl (cJ, 9, .inr (.inl f_together))), (q_numbers, .inl (cJ, 9, .inr (.inl f_numbers)))]) (hb_Qi G r [(q, .inr (4, [.ref q_traces, .ref q_power, .ref q_next, .ref q_together, .ref q_numbers, .int f_degree])), (q_traces, .inl (cJ, 63, .inr (.inl f_traces))), (q_power, .inl (cJ, 63, .inr (.inl f_power))), (q_next, .inl (cJ, 63, .inr (.inl f_next))), (q_together, .inl (cJ, 9, .inr (.inl f_together))), (q_numbers, .inl (cJ, 9, .inr (.inl f_numbers)))] (va_A [(q, .inr (4, [.ref q_traces, .ref q_power, .ref q_next, .ref q_together, .ref q_numbers, .int f_degree])), (q_traces, .inl (cJ, 63, .inr (.inl f_traces))), (q_power, .inl (cJ, 63, .inr (.inl f_power))), (q_next, .inl (cJ, 63, .inr (.inl f_next))), (q_together, .inl (cJ, 9, .inr (.inl f_together))), (q_numbers, .inl (cJ, 9, .inr (.inl f_numbers)))] sz)) 0 0 (va_A [(q, .inr (4, [.ref q_traces, .ref q_power, .ref q_next, .ref q_together, .ref q_numbers, .int f_degree])), (q_traces, .inl (cJ, 63, .inr (.inl f_traces))), (q_power, .inl (cJ, 63, .inr (.inl f_power))), (q_next, .inl (cJ, 63, .inr (.inl f_next))), (q_together, .inl (cJ, 9, .inr (.inl f_together))), (q_numbers, .inl (cJ, 9, .inr (.inl f_numbers)))] sz) := by
  refine hb_met (Qc := fun A => hb_Qi G r [(q, .inr (4, [.ref q_traces, .ref q_power, .ref q_next, .ref q_together, .ref q_numbers, .int f_degree])), (q_traces, .inl (cJ, 63, .inr (.inl f_traces))), (q_power, .inl (cJ, 63, .inr (.inl f_power))), (q_next, .inl (cJ, 63, .inr (.inl f_next))), (q_together, .inl (cJ, 9, .inr (.inl f_together))), (q_numbers, .inl (cJ, 9, .inr (.inl f_numbers)))] A) (cc := cX5_hasAlike) (maxL := 11) (ret := some .boolean) (by decide) rfl (Nat.le_of_ble_eq_true rfl) ?_
  intro p e s m below meth c A hx hb hr hts hown hlocks hml hin hK hA hP hD hS ls hl
  have hown : s.vm.findClass RX5 = some m.cls := hown
  have S0 : CallFix p m c cX5_hasAlike 11 s ([.ref q, .long y1, .int y3] : List Value).toArray wsX5_hasAlike RX5 := ⟨hx, hb, hml, hown, hts⟩
  have hl : lv_has ls 11 [(0, .ref q), (1, .long y1), (3, .int y3)] := hl
  have K82 : ∀ (_ : Unit), e_X5_hasAlike_82  = some r → ∀ (H : Heap) (locs : List Loc), va_P G vwCl [(q, .inr (4, [.ref q_traces, .ref q_power, .ref q_next, .ref q_together, .ref q_numbers, .int f_degree])), (q_traces, .inl (cJ, 63, .inr (.inl f_traces))), (q_power, .inl (cJ, 63, .inr (.inl f_power))), (q_next, .inl (cJ, 63, .inr (.inl f_next))), (q_together, .inl (cJ, 9, .inr (.inl f_together))), (q_numbers, .inl (cJ, 9, .inr (.inl f_numbers)))] H → va_D A [(q, .inr (4, [.ref q_traces, .ref q_power, .ref q_next, .ref q_together, .ref q_numbers, .int f_degree])), (q_traces, .inl (cJ, 63, .inr (.inl f_traces))), (q_power, .inl (cJ, 63, .inr (.inl f_power))), (q_next, .inl (cJ, 63, .inr (.inl f_next))), (q_together, .inl (cJ, 9, .inr (.inl f_together))), (q_numbers, .inl (cJ, 9, .inr (.inl f_numbers)))] → va_S A s.heap H locs → ∀ ls, lv_has ls 11 [] → W p l e (headSpec wsX5_hasAlike { frames := 2, cells := 0, slots := 0, locals := 51 }).room s m ([.ref q, .long y1, .int y3] : List Value).toArray below meth c H locs 0 0 (MQ below (hb_Qi G r [(q, .inr (4, [.ref q_traces, .ref q_power, .ref q_next, .ref q_together, .ref q_numbers, .int f_degree])), (q_traces, .inl (cJ, 63, .inr (.inl f_traces))), (q_power, .inl (cJ, 63, .inr (.inl f_power))), (q_next, .inl (cJ, 63, .inr (.inl f_next))), (q_together, .inl (cJ, 9, .inr (.inl f_together))), (q_numbers, .inl (cJ, 9, .inr (.inl f_numbers)))] A) ([.ref q, .long y1, .int y3] : List Value).toArray s 0 0 A) (F0 m 82 ls []) := by
    intro _ h H locs hP hD hS ls hl
    unfold e_X5_hasAlike_82 at h
    refine lv_iconst (v := 0) hx hb dX5_hasAlike_82 (by decide) ?_
    cases h
    exact hb_zret hx hb hr hlocks pf_b0 hP hD hS dX5_hasAlike_83
  have K63 : ∀ (_ : Unit), e_X5_hasAlike_63  = some r → ∀ (H : Heap) (locs : List Loc), va_P G vwCl [(q, .inr (4, [.ref q_traces, .ref q_power, .ref q_next, .ref q_together, .ref q_numbers, .int f_degree])), (q_traces, .inl (cJ, 63, .inr (.inl f_traces))), (q_power, .inl (cJ, 63, .inr (.inl f_power))), (q_next, .inl (cJ, 63, .inr (.inl f_next))), (q_together, .inl (cJ, 9, .inr (.inl f_together))), (q_numbers, .inl (cJ, 9, .inr (.inl f_numbers)))] H → va_D A [(q, .inr (4, [.ref q_traces, .ref q_power, .ref q_next, .ref q_together, .ref q_numbers, .int f_degree])), (q_traces, .inl (cJ, 63, .inr (.inl f_traces))), (q_power, .inl (cJ, 63, .inr (.inl f_power))), (q_next, .inl (cJ, 63, .inr (.inl f_next))), (q_together, .inl (cJ, 9, .inr (.inl f_together))), (q_numbers, .inl (cJ, 9, .inr (.inl f_numbers)))] → va_S A s.heap H locs → ∀ ls, lv_has ls 11 [] → W p l e (headSpec wsX5_hasAlike { frames := 2, cells := 0, slots := 0, locals := 51 }).room s m ([.ref q, .long y1, .int y3] : List Value).toArray below meth c H locs 0 0 (MQ below (hb_Qi G r [(q, .inr (4, [.ref q_traces, .ref q_power, .ref q_next, .ref q_together, .ref q_numbers, .int f_degree])), (q_traces, .inl (cJ, 63, .inr (.inl f_traces))), (q_power, .inl (cJ, 63, .inr (.inl f_power))), (q_next, .inl (cJ, 63, .inr (.inl f_next))), (q_together, .inl (cJ, 9, .inr (.inl f_together))), (q_numbers, .inl (cJ, 9, .inr (.inl f_numbers)))] A) ([.ref q, .long y1, .int y3] : List Value).toArray s 0 0 A) (F0 m 63 ls []) := by
    intro _ h H locs hP hD hS ls hl
    unfold e_X5_hasAlike_63 at h
    refine lv_iconst (v := 1) hx hb dX5_hasAlike_63 (by decide) ?_
    cases h
    exact hb_zret hx hb hr hlocks pf_b1 hP hD hS dX5_hasAlike_64
  have L24 : ∀ (n : Nat) (x1 : Int64) (x3 : Int32) (x4 : Int64) (x6 : Int64) (x8 : Int32) (b : Unit ⊕ Unit), lpF (fun q : (Int64 × Int32) => s_X5_hasAlike_24 x1 x3 x4 q.1 q.2 f_traces) n (x6, x8) = some b → a_X5_hasAlike_24 b = some r → ∀ (H : Heap) (locs : List Loc), va_P G vwCl [(q, .inr (4, [.ref q_traces, .ref q_power, .ref q_next, .ref q_together, .ref q_numbers, .int f_degree])), (q_traces, .inl (cJ, 63, .inr (.inl f_traces))), (q_power, .inl (cJ, 63, .inr (.inl f_power))), (q_next, .inl (cJ, 63, .inr (.inl f_next))), (q_together, .inl (cJ, 9, .inr (.inl f_together))), (q_numbers, .inl (cJ, 9, .inr (.inl f_numbers)))] H → va_D A [(q, .inr (4, [.ref q_traces, .ref q_power, .ref q_next, .ref q_together, .ref q_numbers, .int f_degree])), (q_traces, .inl (cJ, 63, .inr (.inl f_traces))), (q_power, .inl (cJ, 63, .inr (.inl f_power))), (q_next, .inl (cJ, 63, .inr (.inl f_next))), (q_together, .inl (cJ, 9, .inr (.inl f_together))), (q_numbers, .inl (cJ, 9, .inr (.inl f_numbers)))] → va_S A s.heap H locs → ∀ ls, lv_has ls 11 [(0, .ref q), (1, .long x1), (3, .int x3), (4, .long x4), (6, .long x6), (8, .int x8)] → W p l e (headSpec wsX5_hasAlike { frames := 2, cells := 0, slots := 0, locals := 51 }).room s m ([.ref q, .long y1, .int y3] : List Value).toArray below meth c H locs 0 0 (MQ below (hb_Qi G r [(q, .inr (4, [.ref q_traces, .ref q_power, .ref q_next, .ref q_together, .ref q_numbers, .int f_degree])), (q_traces, .inl (cJ, 63, .inr (.inl f_traces))), (q_power, .inl (cJ, 63, .inr (.inl f_power))), (q_next, .inl (cJ, 63, .inr (.inl f_next))), (q_together, .inl (cJ, 9, .inr (.inl f_together))), (q_numbers, .inl (cJ, 9, .inr (.inl f_numbers)))] A) ([.ref q, .long y1, .int y3] : List Value).toArray s 0 0 A) (F0 m 24 ls []) := by
    intro n
    induction n with
    | zero => intro x1 x3 x4 x6 x8 b h; exact lp_zero h
    | succ n ih =>
      intro x1 x3 x4 x6 x8 b h ha H locs hP hD hS ls hl
      obtain ⟨z24, h, hz⟩ := lp_open h
      have h : s_X5_hasAlike_24 x1 x3 x4 x6 x8 f_traces = some z24 := h
      unfold s_X5_hasAlike_24 at h
      refine lv_iload hx hb dX5_hasAlike_24 (lv_at hl 5 rfl) ?_
      refine lv_iload_n hx hb dX5_hasAlike_26 rfl (lv_at hl 2 rfl) ?_
      refine lv_icmp_ge (tgt := 82) hx hb dX5_hasAlike_27 (by decide) (fun c27 => ?_) (fun c27 => ?_)
      · have h := pf_pos h c27
        have ha := pf_aft ha (lp_exit h hz)
        exact K82 () ha H locs hP hD hS ls (lv_sub hl [] rfl)
      · have h := pf_neg h c27
        refine lv_lload hx hb dX5_hasAlike_30 (lv_at hl 4 rfl) ?_
        refine lv_iload hx hb dX5_hasAlike_32 (lv_at hl 5 rfl) ?_
        obtain ⟨v34, hv34, h⟩ := pf_bind h
        refine pf_call (As := [.long x6, .int x8]) (rest := []) S0 (c_X3_has l x6 x8 v34 hv34) (va_cwS 2 hts gX5_hasAlike_X3_has rfl rfl rfl kd_X3_has ⟨Nat.le_of_ble_eq_true rfl, Nat.le_of_ble_eq_true rfl⟩) rfl hl.1 rfl (Nat.le_of_ble_eq_true rfl) dX5_hasAlike_34 ⟨Nat.zero_le _, Nat.zero_le _⟩ ?_
        refine lv_if_eq (tgt := 76) hx hb dX5_hasAlike_37 (by decide) (fun c37 => ?_) (fun c37 => ?_)
        · have h := pf_pos h c37
          refine lv_iinc (v := (x8 + (1 : Int32))) (lv' := [(8, .int (x8 + (1 : Int32))), (0, .ref q), (1, .long x1), (3, .int x3), (4, .long x4), (6, .long x6)]) hx hb dX5_hasAlike_76 hl (k := 5) rfl rfl (by decide) rfl (fun ls hl => ?_)
          refine lv_goto (tgt := 24) hx hb dX5_hasAlike_79 (by decide) ?_
          exact ih x1 x3 x4 x6 (x8 + (1 : Int32)) b (lp_cont h hz) ha H locs hP hD hS ls (lv_sub hl [1, 2, 3, 4, 5, 0] rfl)
        · have h := pf_neg h c37
          refine lv_lload_n hx hb dX5_hasAlike_40 rfl (lv_at hl 1 rfl) ?_
          refine lv_iload hx hb dX5_hasAlike_41 (lv_at hl 5 rfl) ?_
          refine lv_iload_n hx hb dX5_hasAlike_43 rfl (lv_at hl 2 rfl) ?_
          obtain ⟨v44, hv44, h⟩ := pf_bind h
          refine pf_call (As := [.long x1, .int x8, .int x3]) (rest := []) S0 (c_X3_times l x1 x8 x3 v44 hv44) (va_cwS 3 hts gX5_hasAlike_X3_times rfl rfl rfl kd_X3_times ⟨Nat.le_of_ble_eq_true rfl, Nat.le_of_ble_eq_true rfl⟩) rfl hl.1 rfl (Nat.le_of_ble_eq_true rfl) dX5_hasAlike_44 ⟨Nat.zero_le _, Nat.zero_le _⟩ ?_
          refine lv_lstore (lv' := [(9, .long v44), (0, .ref q), (1, .long x1), (3, .int x3), (4, .long x4), (6, .long x6), (8, .int x8)]) hx hb dX5_hasAlike_47 hl (by decide) rfl (fun ls hl => ?_)
          refine lv_lload hx hb dX5_hasAlike_49 (lv_at hl 4 rfl) ?_
          refine lv_aload_n hx hb dX5_hasAlike_51 rfl (lv_at hl 1 rfl) ?_
          refine lv_lload_n hx hb dX5_hasAlike_52 rfl (lv_at hl 2 rfl) ?_
          refine lv_lload hx hb dX5_hasAlike_53 (lv_at hl 0 rfl) ?_
          refine lv_iload_n hx hb dX5_hasAlike_55 rfl (lv_at hl 3 rfl) ?_
          obtain ⟨v56, hv56, h⟩ := pf_bind h
          refine hb_calll (hb_runV (G := G) (T := hbT cI cJ cZ cS) (As := [.long x1, .long v44, .int x3]) (rest := [.long x4]) S0 (c_X5_pairs l G cI cJ cZ cS q q_traces q_power q_next q_together q_numbers H.size f_traces f_power f_next f_together f_numbers f_degree x1 v44 x3 v56 hv56) (cwV 3 hts gX5_hasAlike_X5_pairs rfl rfl rfl kv_X5_pairs ⟨Nat.le_of_ble_eq_true rfl, Nat.le_of_ble_eq_true rfl⟩) hK (hP.sub [0, 1, 2, 3, 4, 5] rfl) (hD.sub [0, 1, 2, 3, 4, 5] (by decide) rfl) rfl rfl rfl hl.1 rfl (Nat.le_of_ble_eq_true rfl) dX5_hasAlike_56 ⟨Nat.zero_le _, Nat.zero_le _⟩) hP hD hS hA [0, 1, 2, 3, 4, 5] [] [0, 1, 2, 3, 4, 5] rfl (wr := []) rfl (by decide) (by decide) (w2 := [(q, .inr (4, [.ref q_traces, .ref q_power, .ref q_next, .ref q_together, .ref q_numbers, .int f_degree])), (q_traces, .inl (cJ, 63, .inr (.inl f_traces))), (q_power, .inl (cJ, 63, .inr (.inl f_power))), (q_next, .inl (cJ, 63, .inr (.inl f_next))), (q_together, .inl (cJ, 9, .inr (.inl f_together))), (q_numbers, .inl (cJ, 9, .inr (.inl f_numbers)))]) (by decide) rfl rfl (fun H locs hP hD hS => ?_)
          refine W.lcmp hx hb dX5_hasAlike_59 ?_
          refine lv_if_ne (tgt := 65) hx hb dX5_hasAlike_60 (by decide) (fun c60 => ?_) (fun c60 => ?_)
          · have h := pf_neg h (fun q => c60 ((lg_cmp_eq _ _).mpr q))
            refine lv_lload hx hb dX5_hasAlike_65 (lv_at hl 5 rfl) ?_
            refine lv_lload hx hb dX5_hasAlike_67 (lv_at hl 0 rfl) ?_
            refine lv_ldc2 (v := -1) hx hb hown (hts (.constantLong RX5 89 (-1)) (by decide +kernel)) dX5_hasAlike_69 ?_
            refine lv_lxor hx hb dX5_hasAlike_72 ?_
            refine lv_land hx hb dX5_hasAlike_73 ?_
            refine lv_lstore (lv' := [(6, .long (x6 &&& (v44 ^^^ (-1 : Int64)))), (9, .long v44), (0, .ref q), (1, .long x1), (3, .int x3), (4, .long x4), (8, .int x8)]) hx hb dX5_hasAlike_74 hl (by decide) rfl (fun ls hl => ?_)
            refine lv_iinc (v := (x8 + (1 : Int32))) (lv' := [(8, .int (x8 + (1 : Int32))), (6, .long (x6 &&& (v44 ^^^ (-1 : Int64)))), (9, .long v44), (0, .ref q), (1, .long x1), (3, .int x3), (4, .long x4)]) hx hb dX5_hasAlike_76 hl (k := 6) rfl rfl (by decide) rfl (fun ls hl => ?_)
            refine lv_goto (tgt := 24) hx hb dX5_hasAlike_79 (by decide) ?_
            exact ih x1 x3 x4 (x6 &&& (v44 ^^^ (-1 : Int64))) (x8 + (1 : Int32)) b (lp_cont h hz) ha H locs hP hD hS ls (lv_sub hl [3, 4, 5, 6, 1, 0] rfl)
          · have h := pf_pos h ((lg_cmp_eq _ _).mp c60)
            have ha := pf_aft ha (lp_exit h hz)
            exact K63 () ha H locs hP hD hS ls (lv_sub hl [] rfl)
  have G24 : ∀ (x1 : Int64) (x3 : Int32) (x4 : Int64) (x6 : Int64) (x8 : Int32), g_X5_hasAlike_24 x1 x3 x4 x6 x8 f_traces = some r → ∀ (H : Heap) (locs : List Loc), va_P G vwCl [(q, .inr (4, [.ref q_traces, .ref q_power, .ref q_next, .ref q_together, .ref q_numbers, .int f_degree])), (q_traces, .inl (cJ, 63, .inr (.inl f_traces))), (q_power, .inl (cJ, 63, .inr (.inl f_power))), (q_next, .inl (cJ, 63, .inr (.inl f_next))), (q_together, .inl (cJ, 9, .inr (.inl f_together))), (q_numbers, .inl (cJ, 9, .inr (.inl f_numbers)))] H → va_D A [(q, .inr (4, [.ref q_traces, .ref q_power, .ref q_next, .ref q_together, .ref q_numbers, .int f_degree])), (q_traces, .inl (cJ, 63, .inr (.inl f_traces))), (q_power, .inl (cJ, 63, .inr (.inl f_power))), (q_next, .inl (cJ, 63, .inr (.inl f_next))), (q_together, .inl (cJ, 9, .inr (.inl f_together))), (q_numbers, .inl (cJ, 9, .inr (.inl f_numbers)))] → va_S A s.heap H locs → ∀ ls, lv_has ls 11 [(0, .ref q), (1, .long x1), (3, .int x3), (4, .long x4), (6, .long x6), (8, .int x8)] → W p l e (headSpec wsX5_hasAlike { frames := 2, cells := 0, slots := 0, locals := 51 }).room s m ([.ref q, .long y1, .int y3] : List Value).toArray below meth c H locs 0 0 (MQ below (hb_Qi G r [(q, .inr (4, [.ref q_traces, .ref q_power, .ref q_next, .ref q_together, .ref q_numbers, .int f_degree])), (q_traces, .inl (cJ, 63, .inr (.inl f_traces))), (q_power, .inl (cJ, 63, .inr (.inl f_power))), (q_next, .inl (cJ, 63, .inr (.inl f_next))), (q_together, .inl (cJ, 9, .inr (.inl f_together))), (q_numbers, .inl (cJ, 9, .inr (.inl f_numbers)))] A) ([.ref q, .long y1, .int y3] : List Value).toArray s 0 0 A) (F0 m 24 ls []) := by
    intro x1 x3 x4 x6 x8 h
    unfold g_X5_hasAlike_24 at h
    obtain ⟨b, h, ha⟩ := pf_bind h
    exact L24 pfFU x1 x3 x4 x6 x8 b h ha
  suffices hh : ∀ (H : Heap) (locs : List Loc), va_P G vwCl [(q, .inr (4, [.ref q_traces, .ref q_power, .ref q_next, .ref q_together, .ref q_numbers, .int f_degree])), (q_traces, .inl (cJ, 63, .inr (.inl f_traces))), (q_power, .inl (cJ, 63, .inr (.inl f_power))), (q_next, .inl (cJ, 63, .inr (.inl f_next))), (q_together, .inl (cJ, 9, .inr (.inl f_together))), (q_numbers, .inl (cJ, 9, .inr (.inl f_numbers)))] H → va_D A [(q, .inr (4, [.ref q_traces, .ref q_power, .ref q_next, .ref q_together, .ref q_numbers, .int f_degree])), (q_traces, .inl (cJ, 63, .inr (.inl f_traces))), (q_power, .inl (cJ, 63, .inr (.inl f_power))), (q_next, .inl (cJ, 63, .inr (.inl f_next))), (q_together, .inl (cJ, 9, .inr (.inl f_together))), (q_numbers, .inl (cJ, 9, .inr (.inl f_numbers)))] → va_S A s.heap H locs → W p l e (headSpec wsX5_hasAlike { frames := 2, cells := 0, slots := 0, locals := 51 }).room s m ([.ref q, .long y1, .int y3] : List Value).toArray below meth c H locs 0 0 (MQ below (hb_Qi G r [(q, .inr (4, [.ref q_traces, .ref q_power, .ref q_next, .ref q_together, .ref q_numbers, .int f_degree])), (q_traces, .inl (cJ, 63, .inr (.inl f_traces))), (q_power, .inl (cJ, 63, .inr (.inl f_power))), (q_next, .inl (cJ, 63, .inr (.inl f_next))), (q_together, .inl (cJ, 9, .inr (.inl f_together))), (q_numbers, .inl (cJ, 9, .inr (.inl f_numbers)))] A) ([.ref q, .long y1, .int y3] : List Value).toArray s 0 0 A) (F0 m 0 ls []) from hh s.heap [] hP hD hS
  intro H locs hP hD hS
  unfold p_X5_hasAlike at h
  refine lv_aload_n hx hb dX5_hasAlike_0 rfl (lv_at hl 0 rfl) ?_
  refine lv_lload_n hx hb dX5_hasAlike_1 rfl (lv_at hl 1 rfl) ?_
  refine lv_lload_n hx hb dX5_hasAlike_2 rfl (lv_at hl 1 rfl) ?_
  refine lv_iload_n hx hb dX5_hasAlike_3 rfl (lv_at hl 2 rfl) ?_
  obtain ⟨v4, hv4, h⟩ := pf_bind h
  refine hb_calll (hb_runV (G := G) (T := hbT cI cJ cZ cS) (As := [.long y1, .long y1, .int y3]) (rest := []) S0 (c_X5_pairs l G cI cJ cZ cS q q_traces q_power q_next q_together q_numbers H.size f_traces f_power f_next f_together f_numbers f_degree y1 y1 y3 v4 hv4) (cwV 3 hts gX5_hasAlike_X5_pairs rfl rfl rfl kv_X5_pairs ⟨Nat.le_of_ble_eq_true rfl, Nat.le_of_ble_eq_true rfl⟩) hK (hP.sub [0, 1, 2, 3, 4, 5] rfl) (hD.sub [0, 1, 2, 3, 4, 5] (by decide) rfl) rfl rfl rfl hl.1 rfl (Nat.le_of_ble_eq_true rfl) dX5_hasAlike_4 ⟨Nat.zero_le _, Nat.zero_le _⟩) hP hD hS hA [0, 1, 2, 3, 4, 5] [] [0, 1, 2, 3, 4, 5] rfl (wr := []) rfl (by decide) (by decide) (w2 := [(q, .inr (4, [.ref q_traces, .ref q_power, .ref q_next, .ref q_together, .ref q_numbers, .int f_degree])), (q_traces, .inl (cJ, 63, .inr (.inl f_traces))), (q_power, .inl (cJ, 63, .inr (.inl f_power))), (q_next, .inl (cJ, 63, .inr (.inl f_next))), (q_together, .inl (cJ, 9, .inr (.inl f_together))), (q_numbers, .inl (cJ, 9, .inr (.inl f_numbers)))]) (by decide) rfl rfl (fun H locs hP hD hS => ?_)
  refine lv_lstore (lv' := [(4, .long v4), (0, .ref q), (1, .long y1), (3, .int y3)]) hx hb dX5_hasAlike_7 hl (by decide) rfl (fun ls hl => ?_)
  refine lv_iload_n hx hb dX5_hasAlike_9 rfl (lv_at hl 3 rfl) ?_
  obtain ⟨v10, hv10, h⟩ := pf_bind h
  refine pf_call (As := [.int y3]) (rest := []) S0 (c_X3_all l y3 v10 hv10) (va_cwS 1 hts gX5_hasAlike_X3_all rfl rfl rfl kd_X3_all ⟨Nat.le_of_ble_eq_true rfl, Nat.le_of_ble_eq_true rfl⟩) rfl hl.1 rfl (Nat.le_of_ble_eq_true rfl) dX5_hasAlike_10 ⟨Nat.zero_le _, Nat.zero_le _⟩ ?_
  refine lv_lload_n hx hb dX5_hasAlike_13 rfl (lv_at hl 2 rfl) ?_
  refine lv_ldc2 (v := -1) hx hb hown (hts (.constantLong RX5 89 (-1)) (by decide +kernel)) dX5_hasAlike_14 ?_
  refine lv_lxor hx hb dX5_hasAlike_17 ?_
  refine lv_land hx hb dX5_hasAlike_18 ?_
  refine lv_lstore (lv' := [(6, .long (v10 &&& (y1 ^^^ (-1 : Int64)))), (4, .long v4), (0, .ref q), (1, .long y1), (3, .int y3)]) hx hb dX5_hasAlike_19 hl (by decide) rfl (fun ls hl => ?_)
  refine lv_iconst (v := 0) hx hb dX5_hasAlike_21 (by decide) ?_
  refine lv_istore (lv' := [(8, .int (0 : Int32)), (6, .long (v10 &&& (y1 ^^^ (-1 : Int64)))), (4, .long v4), (0, .ref q), (1, .long y1), (3, .int y3)]) hx hb dX5_hasAlike_22 hl (by decide) rfl (fun ls hl => ?_)
  exact G24 y1 y3 v4 (v10 &&& (y1 ^^^ (-1 : Int64))) (0 : Int32) h H locs hP hD hS ls (lv_sub hl [3, 4, 5, 2, 1, 0] rfl)
