-- X0_size
def p_X0_size (f_size : Int32)  : Option Int32 :=
  some f_size
theorem in_X0_size_X0 : ∀ w ∈ u_ws RX0 TX0 2, w ∈ wsX0_size := fun w h => List.mem_cons_of_mem _ (List.mem_append_right _ h)
theorem kv_X0_size : yX0_size.cls = RX0 ∧ yX0_size.cls ≠ "java/lang/invoke/MethodHandle" ∧ yX0_size.cls ≠ "java/lang/invoke/VarHandle" ∧ (parseMethodDescriptor yX0_size.desc).map (fun d => d.parameters.length) = some 0 := by decide +kernel
set_option maxHeartbeats 4000000 in
set_option maxRecDepth 100000 in
theorem c_X0_size (l : Launch) (G : va_G) (cI cJ cZ cS : ClassId) (q q_found : Nat) (sz : Nat) (f_found : (Nat → Int64)) (f_size : Int32)  (r : Int32) (h : p_X0_size f_size  = some r) : Met l yX0_size wsX0_size { frames := 0, cells := 0, slots := 0, locals := 0 } (hb_pre G (hbT cI cJ cZ cS) [.ref q] sz [(q, .inr (0, [.ref q_found, .int f_size])), (q_found, .inl (cJ, 64, .inr (.inl f_found)))]) (hb_Qi G r [(q, .inr (0, [.ref q_found, .int f_size])), (q_found, .inl (cJ, 64, .inr (.inl f_found)))] (va_A [(q, .inr (0, [.ref q_found, .int f_size])), (q_found, .inl (cJ, 64, .inr (.inl f_found)))] sz)) 0 0 (va_A [(q, .inr (0, [.ref q_found, .int f_size])), (q_found, .inl (cJ, 64, .inr (.inl f_found)))] sz) := by
  refine hb_met (Qc := fun A => hb_Qi G r [(q, .inr (0, [.ref q_found, .int f_size])), (q_found, .inl (cJ, 64, .inr (.inl f_found)))] A) (cc := cX0_size) (maxL := 1) (ret := some .int) (by decide) rfl (Nat.le_of_ble_eq_true rfl) ?_
  intro p e s m below meth c A hx hb hr hts hown hlocks hml hin hK hA hP hD hS ls hl
  have hown : s.vm.findClass RX0 = some m.cls := hown
  have S0 : CallFix p m c cX0_size 1 s ([.ref q] : List Value).toArray wsX0_size RX0 := ⟨hx, hb, hml, hown, hts⟩
  have hl : lv_has ls 1 [(0, .ref q)] := hl
  suffices hh : ∀ (H : Heap) (locs : List Loc), va_P G vwCl [(q, .inr (0, [.ref q_found, .int f_size])), (q_found, .inl (cJ, 64, .inr (.inl f_found)))] H → va_D A [(q, .inr (0, [.ref q_found, .int f_size])), (q_found, .inl (cJ, 64, .inr (.inl f_found)))] → va_S A s.heap H locs → W p l e (headSpec wsX0_size { frames := 0, cells := 0, slots := 0, locals := 0 }).room s m ([.ref q] : List Value).toArray below meth c H locs 0 0 (MQ below (hb_Qi G r [(q, .inr (0, [.ref q_found, .int f_size])), (q_found, .inl (cJ, 64, .inr (.inl f_found)))] A) ([.ref q] : List Value).toArray s 0 0 A) (F0 m 0 ls []) from hh s.heap [] hP hD hS
  intro H locs hP hD hS
  unfold p_X0_size at h
  refine lv_aload_n hx hb dX0_size_0 rfl (lv_at hl 0 rfl) ?_
  refine va_get (D := G) (ci := 0) (v := .int f_size) (C := RX0) (T := TX0) (N := 2) hx hb hts in_X0_size_X0 hown hK.1 hP 0 rfl rfl 1 (by decide) (hts (.fieldLink RX0 13 "FieldsByClasses$Above" "size" "I") (by decide +kernel)) (fun _ h9 => h9) rfl dX0_size_1 ?_
  cases h
  exact hb_iret hx hb hr hlocks hP hD hS dX0_size_4
-- X0_at
def p_X0_at (f_found : (Nat → Int64)) (f_size : Int32) (y1 : Int32) : Option Int64 :=
  (if y1 < 0 then some (0 : Int64) else (if f_size ≤ y1 then some (0 : Int64) else (if (64 : Int32) ≤ y1 then some (0 : Int64) else (if ainB y1 64 = true then some (f_found (y1).toNatClampNeg) else none))))
theorem in_X0_at_X0 : ∀ w ∈ u_ws RX0 TX0 2, w ∈ wsX0_at := fun w h => List.mem_cons_of_mem _ (List.mem_append_right _ h)
theorem kv_X0_at : yX0_at.cls = RX0 ∧ yX0_at.cls ≠ "java/lang/invoke/MethodHandle" ∧ yX0_at.cls ≠ "java/lang/invoke/VarHandle" ∧ (parseMethodDescriptor yX0_at.desc).map (fun d => d.parameters.length) = some 1 := by decide +kernel
set_option maxHeartbeats 4000000 in
set_option maxRecDepth 100000 in
theorem c_X0_at (l : Launch) (G : va_G) (cI cJ cZ cS : ClassId) (q q_found : Nat) (sz : Nat) (f_found : (Nat → Int64)) (f_size : Int32) (y1 : Int32) (r : Int64) (h : p_X0_at f_found f_size y1 = some r) : Met l yX0_at wsX0_at { frames := 0, cells := 0, slots := 0, locals := 0 } (hb_pre G (hbT cI cJ cZ cS) [.ref q, .int y1] sz [(q, .inr (0, [.ref q_found, .int f_size])), (q_found, .inl (cJ, 64, .inr (.inl f_found)))]) (hb_Ql G r [(q, .inr (0, [.ref q_found, .int f_size])), (q_found, .inl (cJ, 64, .inr (.inl f_found)))] (va_A [(q, .inr (0, [.ref q_found, .int f_size])), (q_found, .inl (cJ, 64, .inr (.inl f_found)))] sz)) 0 0 (va_A [(q, .inr (0, [.ref q_found, .int f_size])), (q_found, .inl (cJ, 64, .inr (.inl f_found)))] sz) := by
  refine hb_met (Qc := fun A => hb_Ql G r [(q, .inr (0, [.ref q_found, .int f_size])), (q_found, .inl (cJ, 64, .inr (.inl f_found)))] A) (cc := cX0_at) (maxL := 2) (ret := some .long) (by decide) rfl (Nat.le_of_ble_eq_true rfl) ?_
  intro p e s m below meth c A hx hb hr hts hown hlocks hml hin hK hA hP hD hS ls hl
  have hown : s.vm.findClass RX0 = some m.cls := hown
  have S0 : CallFix p m c cX0_at 2 s ([.ref q, .int y1] : List Value).toArray wsX0_at RX0 := ⟨hx, hb, hml, hown, hts⟩
  have hl : lv_has ls 2 [(0, .ref q), (1, .int y1)] := hl
  suffices hh : ∀ (H : Heap) (locs : List Loc), va_P G vwCl [(q, .inr (0, [.ref q_found, .int f_size])), (q_found, .inl (cJ, 64, .inr (.inl f_found)))] H → va_D A [(q, .inr (0, [.ref q_found, .int f_size])), (q_found, .inl (cJ, 64, .inr (.inl f_found)))] → va_S A s.heap H locs → W p l e (headSpec wsX0_at { frames := 0, cells := 0, slots := 0, locals := 0 }).room s m ([.ref q, .int y1] : List Value).toArray below meth c H locs 0 0 (MQ below (hb_Ql G r [(q, .inr (0, [.ref q_found, .int f_size])), (q_found, .inl (cJ, 64, .inr (.inl f_found)))] A) ([.ref q, .int y1] : List Value).toArray s 0 0 A) (F0 m 0 ls []) from hh s.heap [] hP hD hS
  intro H locs hP hD hS
  unfold p_X0_at at h
  refine lv_iload_n hx hb dX0_at_0 rfl (lv_at hl 1 rfl) ?_
  refine lv_if_lt (tgt := 27) hx hb dX0_at_1 (by decide) (fun c1 => ?_) (fun c1 => ?_)
  · have h := pf_pos h c1
    refine lv_lconst (v := 0) hx hb dX0_at_27 (by decide) ?_
    cases h
    exact hb_lret hx hb hr hlocks hP hD hS dX0_at_28
  · have h := pf_neg h c1
    refine lv_iload_n hx hb dX0_at_4 rfl (lv_at hl 1 rfl) ?_
    refine lv_aload_n hx hb dX0_at_5 rfl (lv_at hl 0 rfl) ?_
    refine va_get (D := G) (ci := 0) (v := .int f_size) (C := RX0) (T := TX0) (N := 2) hx hb hts in_X0_at_X0 hown hK.1 hP 0 rfl rfl 1 (by decide) (hts (.fieldLink RX0 13 "FieldsByClasses$Above" "size" "I") (by decide +kernel)) (fun _ h9 => h9) rfl dX0_at_6 ?_
    refine lv_icmp_ge (tgt := 27) hx hb dX0_at_9 (by decide) (fun c9 => ?_) (fun c9 => ?_)
    · have h := pf_pos h c9
      refine lv_lconst (v := 0) hx hb dX0_at_27 (by decide) ?_
      cases h
      exact hb_lret hx hb hr hlocks hP hD hS dX0_at_28
    · have h := pf_neg h c9
      refine lv_iload_n hx hb dX0_at_12 rfl (lv_at hl 1 rfl) ?_
      refine lv_bipush (v := 64) hx hb dX0_at_13 (by decide) ?_
      refine lv_icmp_ge (tgt := 27) hx hb dX0_at_15 (by decide) (fun c15 => ?_) (fun c15 => ?_)
      · have h := pf_pos h c15
        refine lv_lconst (v := 0) hx hb dX0_at_27 (by decide) ?_
        cases h
        exact hb_lret hx hb hr hlocks hP hD hS dX0_at_28
      · have h := pf_neg h c15
        refine lv_aload_n hx hb dX0_at_18 rfl (lv_at hl 0 rfl) ?_
        refine va_get (D := G) (ci := 0) (v := .ref q_found) (C := RX0) (T := TX0) (N := 2) hx hb hts in_X0_at_X0 hown hK.1 hP 0 rfl rfl 0 (by decide) (hts (.fieldLink RX0 9 "FieldsByClasses$Above" "found" "[J") (by decide +kernel)) (fun _ h9 => h9) rfl dX0_at_19 ?_
        refine lv_iload_n hx hb dX0_at_22 rfl (lv_at hl 1 rfl) ?_
        obtain ⟨hi23, h⟩ := pf_need h
        refine va_lald hx hb hK.1 hP 1 1 rfl rfl (ain_of hi23) dX0_at_23 ?_
        refine lv_goto (tgt := 28) hx hb dX0_at_24 (by decide) ?_
        cases h
        exact hb_lret hx hb hr hlocks hP hD hS dX0_at_28
-- X0_add
def e_X0_add_34 (x1 : Int64) (f_found : (Nat → Int64)) (f_size : Int32) : Option ((Nat → Int64) × Int32) :=
  (if f_size < 0 then some (f_found, f_size) else (if (64 : Int32) ≤ f_size then some (f_found, f_size) else (if ainB f_size 64 = true then some ((vp_updL f_found (f_size).toNatClampNeg x1), (f_size + (1 : Int32))) else none)))
def e_X0_add_27 (f_found : (Nat → Int64)) (f_size : Int32) : Option ((Nat → Int64) × Int32) :=
  some (f_found, f_size)
def s_X0_add_2 (x1 : Int64) (x3 : Int32) (f_found : (Nat → Int64)) (f_size : Int32) : Option (Int32 ⊕ (Unit ⊕ Unit)) :=
  (if f_size ≤ x3 then some (Sum.inr (Sum.inr ())) else (if (64 : Int32) ≤ x3 then some (Sum.inr (Sum.inr ())) else (if ainB x3 64 = true then (if (f_found (x3).toNatClampNeg) = x1 then some (Sum.inr (Sum.inl ())) else some (Sum.inl (x3 + (1 : Int32)))) else none)))
def a_X0_add_2 (x1 : Int64) (f_found : (Nat → Int64)) (f_size : Int32) (b : Unit ⊕ Unit) : Option ((Nat → Int64) × Int32) := Sum.elim (fun q : Unit => e_X0_add_27 f_found f_size) (fun q : Unit => e_X0_add_34 x1 f_found f_size) b
def g_X0_add_2 (x1 : Int64) (x3 : Int32) (f_found : (Nat → Int64)) (f_size : Int32) : Option ((Nat → Int64) × Int32) := (lpF (fun q : Int32 => s_X0_add_2 x1 q f_found f_size) pfFU x3).bind (a_X0_add_2 x1 f_found f_size)
def p_X0_add (f_found : (Nat → Int64)) (f_size : Int32) (y1 : Int64) : Option ((Nat → Int64) × Int32) :=
  g_X0_add_2 y1 (0 : Int32) f_found f_size
theorem in_X0_add_X0 : ∀ w ∈ u_ws RX0 TX0 2, w ∈ wsX0_add := fun w h => List.mem_cons_of_mem _ (List.mem_append_right _ h)
theorem kv_X0_add : yX0_add.cls = RX0 ∧ yX0_add.cls ≠ "java/lang/invoke/MethodHandle" ∧ yX0_add.cls ≠ "java/lang/invoke/VarHandle" ∧ (parseMethodDescriptor yX0_add.desc).map (fun d => d.parameters.length) = some 1 := by decide +kernel
set_option maxHeartbeats 4000000 in
set_option maxRecDepth 100000 in
theorem c_X0_add (l : Launch) (G : va_G) (cI cJ cZ cS : ClassId) (q q_found : Nat) (sz : Nat) (f_found : (Nat → Int64)) (f_size : Int32) (y1 : Int64) (r : ((Nat → Int64) × Int32)) (h : p_X0_add f_found f_size y1 = some r) : Met l yX0_add wsX0_add { frames := 0, cells := 0, slots := 0, locals := 0 } (hb_pre G (hbT cI cJ cZ cS) [.ref q, .long y1] sz [(q, .inr (0, [.ref q_found, .int f_size])), (q_found, .inl (cJ, 64, .inr (.inl f_found)))]) (hb_Qv G [(q, .inr (0, [.ref q_found, .int r.2])), (q_found, .inl (cJ, 64, .inr (.inl r.1)))] (va_A [(q, .inr (0, [.ref q_found, .int f_size])), (q_found, .inl (cJ, 64, .inr (.inl f_found)))] sz)) 0 0 (va_A [(q, .inr (0, [.ref q_found, .int f_size])), (q_found, .inl (cJ, 64, .inr (.inl f_found)))] sz) := by
  refine hb_met (Qc := fun A => hb_Qv G [(q, .inr (0, [.ref q_found, .int r.2])), (q_found, .inl (cJ, 64, .inr (.inl r.1)))] A) (cc := cX0_add) (maxL := 4) (ret := none) (by decide) rfl (Nat.le_of_ble_eq_true rfl) ?_
  intro p e s m below meth c A hx hb hr hts hown hlocks hml hin hK hA hP hD hS ls hl
  have hown : s.vm.findClass RX0 = some m.cls := hown
  have S0 : CallFix p m c cX0_add 4 s ([.ref q, .long y1] : List Value).toArray wsX0_add RX0 := ⟨hx, hb, hml, hown, hts⟩
  have hl : lv_has ls 4 [(0, .ref q), (1, .long y1)] := hl
  have K34 : ∀ (x1 : Int64) (f_found : (Nat → Int64)) (f_size : Int32), e_X0_add_34 x1 f_found f_size = some r → ∀ (H : Heap) (locs : List Loc), va_P G vwCl [(q, .inr (0, [.ref q_found, .int f_size])), (q_found, .inl (cJ, 64, .inr (.inl f_found)))] H → va_D A [(q, .inr (0, [.ref q_found, .int f_size])), (q_found, .inl (cJ, 64, .inr (.inl f_found)))] → va_S A s.heap H locs → ∀ ls, lv_has ls 4 [(0, .ref q), (1, .long x1)] → W p l e (headSpec wsX0_add { frames := 0, cells := 0, slots := 0, locals := 0 }).room s m ([.ref q, .long y1] : List Value).toArray below meth c H locs 0 0 (MQ below (hb_Qv G [(q, .inr (0, [.ref q_found, .int r.2])), (q_found, .inl (cJ, 64, .inr (.inl r.1)))] A) ([.ref q, .long y1] : List Value).toArray s 0 0 A) (F0 m 34 ls []) := by
    intro x1 f_found f_size h H locs hP hD hS ls hl
    unfold e_X0_add_34 at h
    refine lv_aload_n hx hb dX0_add_34 rfl (lv_at hl 0 rfl) ?_
    refine va_get (D := G) (ci := 0) (v := .int f_size) (C := RX0) (T := TX0) (N := 2) hx hb hts in_X0_add_X0 hown hK.1 hP 0 rfl rfl 1 (by decide) (hts (.fieldLink RX0 13 "FieldsByClasses$Above" "size" "I") (by decide +kernel)) (fun _ h9 => h9) rfl dX0_add_35 ?_
    refine lv_if_lt (tgt := 70) hx hb dX0_add_38 (by decide) (fun c38 => ?_) (fun c38 => ?_)
    · have h := pf_pos h c38
      cases h
      exact hb_vret hx hb hr hlocks hP hD hS dX0_add_70
    · have h := pf_neg h c38
      refine lv_aload_n hx hb dX0_add_41 rfl (lv_at hl 0 rfl) ?_
      refine va_get (D := G) (ci := 0) (v := .int f_size) (C := RX0) (T := TX0) (N := 2) hx hb hts in_X0_add_X0 hown hK.1 hP 0 rfl rfl 1 (by decide) (hts (.fieldLink RX0 13 "FieldsByClasses$Above" "size" "I") (by decide +kernel)) (fun _ h9 => h9) rfl dX0_add_42 ?_
      refine lv_bipush (v := 64) hx hb dX0_add_45 (by decide) ?_
      refine lv_icmp_ge (tgt := 70) hx hb dX0_add_47 (by decide) (fun c47 => ?_) (fun c47 => ?_)
      · have h := pf_pos h c47
        cases h
        exact hb_vret hx hb hr hlocks hP hD hS dX0_add_70
      · have h := pf_neg h c47
        refine lv_aload_n hx hb dX0_add_50 rfl (lv_at hl 0 rfl) ?_
        refine va_get (D := G) (ci := 0) (v := .ref q_found) (C := RX0) (T := TX0) (N := 2) hx hb hts in_X0_add_X0 hown hK.1 hP 0 rfl rfl 0 (by decide) (hts (.fieldLink RX0 9 "FieldsByClasses$Above" "found" "[J") (by decide +kernel)) (fun _ h9 => h9) rfl dX0_add_51 ?_
        refine lv_aload_n hx hb dX0_add_54 rfl (lv_at hl 0 rfl) ?_
        refine va_get (D := G) (ci := 0) (v := .int f_size) (C := RX0) (T := TX0) (N := 2) hx hb hts in_X0_add_X0 hown hK.1 hP 0 rfl rfl 1 (by decide) (hts (.fieldLink RX0 13 "FieldsByClasses$Above" "size" "I") (by decide +kernel)) (fun _ h9 => h9) rfl dX0_add_55 ?_
        refine lv_lload_n hx hb dX0_add_58 rfl (lv_at hl 1 rfl) ?_
        obtain ⟨hi59, h⟩ := pf_need h
        refine va_last hx hb hK.1 hP hD hS 1 1 rfl rfl (ain_of hi59) dX0_add_59 (fun H locs hP hD hS => ?_)
        have hP : va_P G vwCl [(q, .inr (0, [.ref q_found, .int f_size])), (q_found, .inl (cJ, 64, .inr (.inl (vp_updL f_found (f_size).toNatClampNeg x1))))] H := hP
        have hD : va_D A [(q, .inr (0, [.ref q_found, .int f_size])), (q_found, .inl (cJ, 64, .inr (.inl (vp_updL f_found (f_size).toNatClampNeg x1))))] := hD
        refine lv_aload_n hx hb dX0_add_60 rfl (lv_at hl 0 rfl) ?_
        refine lv_dup hx hb dX0_add_61 rfl ?_
        refine va_get (D := G) (ci := 0) (v := .int f_size) (C := RX0) (T := TX0) (N := 2) hx hb hts in_X0_add_X0 hown hK.1 hP 0 rfl rfl 1 (by decide) (hts (.fieldLink RX0 13 "FieldsByClasses$Above" "size" "I") (by decide +kernel)) (fun _ h9 => h9) rfl dX0_add_62 ?_
        refine lv_iconst (v := 1) hx hb dX0_add_65 (by decide) ?_
        refine lv_iadd hx hb dX0_add_66 ?_
        refine va_put (D := G) (ci := 0) (v := .int (f_size + (1 : Int32))) (ty := .int) (C := RX0) (T := TX0) (N := 2) hx hb hts in_X0_add_X0 tyX0 tyX0_ok nmX0 hown hK.1 hP hD hS 0 rfl rfl 1 (by decide) (hts (.fieldLink RX0 13 "FieldsByClasses$Above" "size" "I") (by decide +kernel)) (fun _ h9 => h9) rfl (tyX0_ok 1 (by decide)) rfl rfl (Nat.le_of_ble_eq_true rfl) dX0_add_67 (fun H locs hP hD hS => ?_)
        have hP : va_P G vwCl [(q, .inr (0, [.ref q_found, .int (f_size + (1 : Int32))])), (q_found, .inl (cJ, 64, .inr (.inl (vp_updL f_found (f_size).toNatClampNeg x1))))] H := hP
        have hD : va_D A [(q, .inr (0, [.ref q_found, .int (f_size + (1 : Int32))])), (q_found, .inl (cJ, 64, .inr (.inl (vp_updL f_found (f_size).toNatClampNeg x1))))] := hD
        cases h
        exact hb_vret hx hb hr hlocks hP hD hS dX0_add_70
  have K27 : ∀ (f_found : (Nat → Int64)) (f_size : Int32), e_X0_add_27 f_found f_size = some r → ∀ (H : Heap) (locs : List Loc), va_P G vwCl [(q, .inr (0, [.ref q_found, .int f_size])), (q_found, .inl (cJ, 64, .inr (.inl f_found)))] H → va_D A [(q, .inr (0, [.ref q_found, .int f_size])), (q_found, .inl (cJ, 64, .inr (.inl f_found)))] → va_S A s.heap H locs → ∀ ls, lv_has ls 4 [] → W p l e (headSpec wsX0_add { frames := 0, cells := 0, slots := 0, locals := 0 }).room s m ([.ref q, .long y1] : List Value).toArray below meth c H locs 0 0 (MQ below (hb_Qv G [(q, .inr (0, [.ref q_found, .int r.2])), (q_found, .inl (cJ, 64, .inr (.inl r.1)))] A) ([.ref q, .long y1] : List Value).toArray s 0 0 A) (F0 m 27 ls []) := by
    intro f_found f_size h H locs hP hD hS ls hl
    unfold e_X0_add_27 at h
    cases h
    exact hb_vret hx hb hr hlocks hP hD hS dX0_add_27
  have L2 : ∀ (n : Nat) (x1 : Int64) (x3 : Int32) (f_found : (Nat → Int64)) (f_size : Int32) (b : Unit ⊕ Unit), lpF (fun q : Int32 => s_X0_add_2 x1 q f_found f_size) n x3 = some b → a_X0_add_2 x1 f_found f_size b = some r → ∀ (H : Heap) (locs : List Loc), va_P G vwCl [(q, .inr (0, [.ref q_found, .int f_size])), (q_found, .inl (cJ, 64, .inr (.inl f_found)))] H → va_D A [(q, .inr (0, [.ref q_found, .int f_size])), (q_found, .inl (cJ, 64, .inr (.inl f_found)))] → va_S A s.heap H locs → ∀ ls, lv_has ls 4 [(0, .ref q), (1, .long x1), (3, .int x3)] → W p l e (headSpec wsX0_add { frames := 0, cells := 0, slots := 0, locals := 0 }).room s m ([.ref q, .long y1] : List Value).toArray below meth c H locs 0 0 (MQ below (hb_Qv G [(q, .inr (0, [.ref q_found, .int r.2])), (q_found, .inl (cJ, 64, .inr (.inl r.1)))] A) ([.ref q, .long y1] : List Value).toArray s 0 0 A) (F0 m 2 ls []) := by
    intro n
    induction n with
    | zero => intro x1 x3 f_found f_size b h; exact lp_zero h
    | succ n ih =>
      intro x1 x3 f_found f_size b h ha H locs hP hD hS ls hl
      obtain ⟨z2, h, hz⟩ := lp_open h
      have h : s_X0_add_2 x1 x3 f_found f_size = some z2 := h
      unfold s_X0_add_2 at h
      refine lv_iload_n hx hb dX0_add_2 rfl (lv_at hl 2 rfl) ?_
      refine lv_aload_n hx hb dX0_add_3 rfl (lv_at hl 0 rfl) ?_
      refine va_get (D := G) (ci := 0) (v := .int f_size) (C := RX0) (T := TX0) (N := 2) hx hb hts in_X0_add_X0 hown hK.1 hP 0 rfl rfl 1 (by decide) (hts (.fieldLink RX0 13 "FieldsByClasses$Above" "size" "I") (by decide +kernel)) (fun _ h9 => h9) rfl dX0_add_4 ?_
      refine lv_icmp_ge (tgt := 34) hx hb dX0_add_7 (by decide) (fun c7 => ?_) (fun c7 => ?_)
      · have h := pf_pos h c7
        have ha := pf_aft ha (lp_exit h hz)
        exact K34 x1 f_found f_size ha H locs hP hD hS ls (lv_sub hl [0, 1] rfl)
      · have h := pf_neg h c7
        refine lv_iload_n hx hb dX0_add_10 rfl (lv_at hl 2 rfl) ?_
        refine lv_bipush (v := 64) hx hb dX0_add_11 (by decide) ?_
        refine lv_icmp_ge (tgt := 34) hx hb dX0_add_13 (by decide) (fun c13 => ?_) (fun c13 => ?_)
        · have h := pf_pos h c13
          have ha := pf_aft ha (lp_exit h hz)
          exact K34 x1 f_found f_size ha H locs hP hD hS ls (lv_sub hl [0, 1] rfl)
        · have h := pf_neg h c13
          refine lv_aload_n hx hb dX0_add_16 rfl (lv_at hl 0 rfl) ?_
          refine va_get (D := G) (ci := 0) (v := .ref q_found) (C := RX0) (T := TX0) (N := 2) hx hb hts in_X0_add_X0 hown hK.1 hP 0 rfl rfl 0 (by decide) (hts (.fieldLink RX0 9 "FieldsByClasses$Above" "found" "[J") (by decide +kernel)) (fun _ h9 => h9) rfl dX0_add_17 ?_
          refine lv_iload_n hx hb dX0_add_20 rfl (lv_at hl 2 rfl) ?_
          obtain ⟨hi21, h⟩ := pf_need h
          refine va_lald hx hb hK.1 hP 1 1 rfl rfl (ain_of hi21) dX0_add_21 ?_
          refine lv_lload_n hx hb dX0_add_22 rfl (lv_at hl 1 rfl) ?_
          refine W.lcmp hx hb dX0_add_23 ?_
          refine lv_if_ne (tgt := 28) hx hb dX0_add_24 (by decide) (fun c24 => ?_) (fun c24 => ?_)
          · have h := pf_neg h (fun q => c24 ((lg_cmp_eq _ _).mpr q))
            refine lv_iinc (v := (x3 + (1 : Int32))) (lv' := [(3, .int (x3 + (1 : Int32))), (0, .ref q), (1, .long x1)]) hx hb dX0_add_28 hl (k := 2) rfl rfl (by decide) rfl (fun ls hl => ?_)
            refine lv_goto (tgt := 2) hx hb dX0_add_31 (by decide) ?_
            exact ih x1 (x3 + (1 : Int32)) f_found f_size b (lp_cont h hz) ha H locs hP hD hS ls (lv_sub hl [1, 2, 0] rfl)
          · have h := pf_pos h ((lg_cmp_eq _ _).mp c24)
            have ha := pf_aft ha (lp_exit h hz)
            exact K27 f_found f_size ha H locs hP hD hS ls (lv_sub hl [] rfl)
  have G2 : ∀ (x1 : Int64) (x3 : Int32) (f_found : (Nat → Int64)) (f_size : Int32), g_X0_add_2 x1 x3 f_found f_size = some r → ∀ (H : Heap) (locs : List Loc), va_P G vwCl [(q, .inr (0, [.ref q_found, .int f_size])), (q_found, .inl (cJ, 64, .inr (.inl f_found)))] H → va_D A [(q, .inr (0, [.ref q_found, .int f_size])), (q_found, .inl (cJ, 64, .inr (.inl f_found)))] → va_S A s.heap H locs → ∀ ls, lv_has ls 4 [(0, .ref q), (1, .long x1), (3, .int x3)] → W p l e (headSpec wsX0_add { frames := 0, cells := 0, slots := 0, locals := 0 }).room s m ([.ref q, .long y1] : List Value).toArray below meth c H locs 0 0 (MQ below (hb_Qv G [(q, .inr (0, [.ref q_found, .int r.2])), (q_found, .inl (cJ, 64, .inr (.inl r.1)))] A) ([.ref q, .long y1] : List Value).toArray s 0 0 A) (F0 m 2 ls []) := by
    intro x1 x3 f_found f_size h
    unfold g_X0_add_2 at h
    obtain ⟨b, h, ha⟩ := pf_bind h
    exact L2 pfFU x1 x3 f_found f_size b h ha
  suffices hh : ∀ (H : Heap) (locs : List Loc), va_P G vwCl [(q, .inr (0, [.ref q_found, .int f_size])), (q_found, .inl (cJ, 64, .inr (.inl f_found)))] H → va_D A [(q, .inr (0, [.ref q_found, .int f_size])), (q_found, .inl (cJ, 64, .inr (.inl f_found)))] → va_S A s.heap H locs → W p l e (headSpec wsX0_add { frames := 0, cells := 0, slots := 0, locals := 0 }).room s m ([.ref q, .long y1] : List Value).toArray below meth c H locs 0 0 (MQ below (hb_Qv G [(q, .inr (0, [.ref q_found, .int r.2])), (q_found, .inl (cJ, 64, .inr (.inl r.1)))] A) ([.ref q, .long y1] : List Value).toArray s 0 0 A) (F0 m 0 ls []) from hh s.heap [] hP hD hS
  intro H locs hP hD hS
  unfold p_X0_add at h
  refine lv_iconst (v := 0) hx hb dX0_add_0 (by decide) ?_
  refine lv_istore_n (lv' := [(3, .int (0 : Int32)), (0, .ref q), (1, .long y1)]) hx hb dX0_add_1 rfl hl (by decide) rfl (fun ls hl => ?_)
  exact G2 y1 (0 : Int32) f_found f_size h H locs hP hD hS ls (lv_sub hl [1, 2, 0] rfl)
-- X0_addNextTo
def e_X0_addNextTo_64 (f_found : (Nat → Int64)) (f_size : Int32) : Option ((Nat → Int64) × Int32) :=
  some (f_found, f_size)
def s_X0_addNextTo_15 (x1 : Int64) (x3 : Int32) (x4 : Int64) (x6 : Int32) (f_found : (Nat → Int64)) (f_size : Int32) : Option ((Int64 × Int32 × (Nat → Int64) × Int32) ⊕ (((Nat → Int64) × Int32))) :=
  (if x3 ≤ x6 then some (Sum.inr (f_found, f_size)) else ((p_X3_has x4 x6).bind fun v25 => (if v25 = 0 then some (Sum.inl (x4, (x6 + (1 : Int32)), f_found, f_size)) else ((p_X3_with x1 x6 x3).bind fun v36 => ((p_X0_add f_found f_size v36).bind fun v39 => ((p_X3_times x1 x6 x3).bind fun v48 => some (Sum.inl ((x4 &&& (v48 ^^^ (-1 : Int64))), (x6 + (1 : Int32)), v39.1, v39.2))))))))
def a_X0_addNextTo_15  (b : ((Nat → Int64) × Int32)) : Option ((Nat → Int64) × Int32) := (fun q : ((Nat → Int64) × Int32) => e_X0_addNextTo_64 q.1 q.2) b
def g_X0_addNextTo_15 (x1 : Int64) (x3 : Int32) (x4 : Int64) (x6 : Int32) (f_found : (Nat → Int64)) (f_size : Int32) : Option ((Nat → Int64) × Int32) := (lpF (fun q : (Int64 × Int32 × (Nat → Int64) × Int32) => s_X0_addNextTo_15 x1 x3 q.1 q.2.1 q.2.2.1 q.2.2.2) pfFU (x4, x6, f_found, f_size)).bind (a_X0_addNextTo_15 )
def p_X0_addNextTo (f_found : (Nat → Int64)) (f_size : Int32) (y1 : Int64) (y3 : Int32) : Option ((Nat → Int64) × Int32) :=
  ((p_X3_all y3).bind fun v1 => g_X0_addNextTo_15 y1 y3 (v1 &&& (y1 ^^^ (-1 : Int64))) (0 : Int32) f_found f_size)
theorem kv_X0_addNextTo : yX0_addNextTo.cls = RX0 ∧ yX0_addNextTo.cls ≠ "java/lang/invoke/MethodHandle" ∧ yX0_addNextTo.cls ≠ "java/lang/invoke/VarHandle" ∧ (parseMethodDescriptor yX0_addNextTo.desc).map (fun d => d.parameters.length) = some 2 := by decide +kernel
set_option maxHeartbeats 4000000 in
set_option maxRecDepth 100000 in
theorem c_X0_addNextTo (l : Launch) (G : va_G) (cI cJ cZ cS : ClassId) (q q_found : Nat) (sz : Nat) (f_found : (Nat → Int64)) (f_size : Int32) (y1 : Int64) (y3 : Int32) (r : ((Nat → Int64) × Int32)) (h : p_X0_addNextTo f_found f_size y1 y3 = some r) : Met l yX0_addNextTo wsX0_addNextTo { frames := 3, cells := 0, slots := 0, locals := 75 } (hb_pre G (hbT cI cJ cZ cS) [.ref q, .long y1, .int y3] sz [(q, .inr (0, [.ref q_found, .int f_size])), (q_found, .inl (cJ, 64, .inr (.inl f_found)))]) (hb_Qv G [(q, .inr (0, [.ref q_found, .int r.2])), (q_found, .inl (cJ, 64, .inr (.inl r.1)))] (va_A [(q, .inr (0, [.ref q_found, .int f_size])), (q_found, .inl (cJ, 64, .inr (.inl f_found)))] sz)) 0 0 (va_A [(q, .inr (0, [.ref q_found, .int f_size])), (q_found, .inl (cJ, 64, .inr (.inl f_found)))] sz) := by
  refine hb_met (Qc := fun A => hb_Qv G [(q, .inr (0, [.ref q_found, .int r.2])), (q_found, .inl (cJ, 64, .inr (.inl r.1)))] A) (cc := cX0_addNextTo) (maxL := 7) (ret := none) (by decide) rfl (Nat.le_of_ble_eq_true rfl) ?_
  intro p e s m below meth c A hx hb hr hts hown hlocks hml hin hK hA hP hD hS ls hl
  have hown : s.vm.findClass RX0 = some m.cls := hown
  have S0 : CallFix p m c cX0_addNextTo 7 s ([.ref q, .long y1, .int y3] : List Value).toArray wsX0_addNextTo RX0 := ⟨hx, hb, hml, hown, hts⟩
  have hl : lv_has ls 7 [(0, .ref q), (1, .long y1), (3, .int y3)] := hl
  have K64 : ∀ (f_found : (Nat → Int64)) (f_size : Int32), e_X0_addNextTo_64 f_found f_size = some r → ∀ (H : Heap) (locs : List Loc), va_P G vwCl [(q, .inr (0, [.ref q_found, .int f_size])), (q_found, .inl (cJ, 64, .inr (.inl f_found)))] H → va_D A [(q, .inr (0, [.ref q_found, .int f_size])), (q_found, .inl (cJ, 64, .inr (.inl f_found)))] → va_S A s.heap H locs → ∀ ls, lv_has ls 7 [] → W p l e (headSpec wsX0_addNextTo { frames := 3, cells := 0, slots := 0, locals := 75 }).room s m ([.ref q, .long y1, .int y3] : List Value).toArray below meth c H locs 0 0 (MQ below (hb_Qv G [(q, .inr (0, [.ref q_found, .int r.2])), (q_found, .inl (cJ, 64, .inr (.inl r.1)))] A) ([.ref q, .long y1, .int y3] : List Value).toArray s 0 0 A) (F0 m 64 ls []) := by
    intro f_found f_size h H locs hP hD hS ls hl
    unfold e_X0_addNextTo_64 at h
    cases h
    exact hb_vret hx hb hr hlocks hP hD hS dX0_addNextTo_64
  have L15 : ∀ (n : Nat) (x1 : Int64) (x3 : Int32) (x4 : Int64) (x6 : Int32) (f_found : (Nat → Int64)) (f_size : Int32) (b : ((Nat → Int64) × Int32)), lpF (fun q : (Int64 × Int32 × (Nat → Int64) × Int32) => s_X0_addNextTo_15 x1 x3 q.1 q.2.1 q.2.2.1 q.2.2.2) n (x4, x6, f_found, f_size) = some b → a_X0_addNextTo_15 b = some r → ∀ (H : Heap) (locs : List Loc), va_P G vwCl [(q, .inr (0, [.ref q_found, .int f_size])), (q_found, .inl (cJ, 64, .inr (.inl f_found)))] H → va_D A [(q, .inr (0, [.ref q_found, .int f_size])), (q_found, .inl (cJ, 64, .inr (.inl f_found)))] → va_S A s.heap H locs → ∀ ls, lv_has ls 7 [(0, .ref q), (1, .long x1), (3, .int x3), (4, .long x4), (6, .int x6)] → W p l e (headSpec wsX0_addNextTo { frames := 3, cells := 0, slots := 0, locals := 75 }).room s m ([.ref q, .long y1, .int y3] : List Value).toArray below meth c H locs 0 0 (MQ below (hb_Qv G [(q, .inr (0, [.ref q_found, .int r.2])), (q_found, .inl (cJ, 64, .inr (.inl r.1)))] A) ([.ref q, .long y1, .int y3] : List Value).toArray s 0 0 A) (F0 m 15 ls []) := by
    intro n
    induction n with
    | zero => intro x1 x3 x4 x6 f_found f_size b h; exact lp_zero h
    | succ n ih =>
      intro x1 x3 x4 x6 f_found f_size b h ha H locs hP hD hS ls hl
      obtain ⟨z15, h, hz⟩ := lp_open h
      have h : s_X0_addNextTo_15 x1 x3 x4 x6 f_found f_size = some z15 := h
      unfold s_X0_addNextTo_15 at h
      refine lv_iload hx hb dX0_addNextTo_15 (lv_at hl 4 rfl) ?_
      refine lv_iload_n hx hb dX0_addNextTo_17 rfl (lv_at hl 2 rfl) ?_
      refine lv_icmp_ge (tgt := 64) hx hb dX0_addNextTo_18 (by decide) (fun c18 => ?_) (fun c18 => ?_)
      · have h := pf_pos h c18
        have ha := pf_aft ha (lp_exit h hz)
        exact K64 f_found f_size ha H locs hP hD hS ls (lv_sub hl [] rfl)
      · have h := pf_neg h c18
        refine lv_lload hx hb dX0_addNextTo_21 (lv_at hl 3 rfl) ?_
        refine lv_iload hx hb dX0_addNextTo_23 (lv_at hl 4 rfl) ?_
        obtain ⟨v25, hv25, h⟩ := pf_bind h
        refine pf_call (As := [.long x4, .int x6]) (rest := []) S0 (c_X3_has l x4 x6 v25 hv25) (va_cwS 2 hts gX0_addNextTo_X3_has rfl rfl rfl kd_X3_has ⟨Nat.le_of_ble_eq_true rfl, Nat.le_of_ble_eq_true rfl⟩) rfl hl.1 rfl (Nat.le_of_ble_eq_true rfl) dX0_addNextTo_25 ⟨Nat.zero_le _, Nat.zero_le _⟩ ?_
        refine lv_if_eq (tgt := 58) hx hb dX0_addNextTo_28 (by decide) (fun c28 => ?_) (fun c28 => ?_)
        · have h := pf_pos h c28
          refine lv_iinc (v := (x6 + (1 : Int32))) (lv' := [(6, .int (x6 + (1 : Int32))), (0, .ref q), (1, .long x1), (3, .int x3), (4, .long x4)]) hx hb dX0_addNextTo_58 hl (k := 4) rfl rfl (by decide) rfl (fun ls hl => ?_)
          refine lv_goto (tgt := 15) hx hb dX0_addNextTo_61 (by decide) ?_
          exact ih x1 x3 x4 (x6 + (1 : Int32)) f_found f_size b (lp_cont h hz) ha H locs hP hD hS ls (lv_sub hl [1, 2, 3, 4, 0] rfl)
        · have h := pf_neg h c28
          refine lv_aload_n hx hb dX0_addNextTo_31 rfl (lv_at hl 0 rfl) ?_
          refine lv_lload_n hx hb dX0_addNextTo_32 rfl (lv_at hl 1 rfl) ?_
          refine lv_iload hx hb dX0_addNextTo_33 (lv_at hl 4 rfl) ?_
          refine lv_iload_n hx hb dX0_addNextTo_35 rfl (lv_at hl 2 rfl) ?_
          obtain ⟨v36, hv36, h⟩ := pf_bind h
          refine pf_call (As := [.long x1, .int x6, .int x3]) (rest := [.ref q]) S0 (c_X3_with l x1 x6 x3 v36 hv36) (va_cwS 3 hts gX0_addNextTo_X3_with rfl rfl rfl kd_X3_with ⟨Nat.le_of_ble_eq_true rfl, Nat.le_of_ble_eq_true rfl⟩) rfl hl.1 rfl (Nat.le_of_ble_eq_true rfl) dX0_addNextTo_36 ⟨Nat.zero_le _, Nat.zero_le _⟩ ?_
          obtain ⟨v39, hv39, h⟩ := pf_bind h
          refine hb_callv (hb_runV (G := G) (T := hbT cI cJ cZ cS) (As := [.long v36]) (rest := []) S0 (c_X0_add l G cI cJ cZ cS q q_found H.size f_found f_size v36 v39 hv39) (cwV 1 hts gX0_addNextTo_X0_add rfl rfl rfl kv_X0_add ⟨Nat.le_of_ble_eq_true rfl, Nat.le_of_ble_eq_true rfl⟩) hK (hP.sub [0, 1] rfl) (hD.sub [0, 1] (by decide) rfl) rfl rfl rfl hl.1 rfl (Nat.le_of_ble_eq_true rfl) dX0_addNextTo_39 ⟨Nat.zero_le _, Nat.zero_le _⟩) hP hD hS hA [0, 1] [] [0, 1] rfl (wr := []) rfl (by decide) (by decide) (w2 := [(q, .inr (0, [.ref q_found, .int v39.2])), (q_found, .inl (cJ, 64, .inr (.inl v39.1)))]) (by decide) rfl rfl (fun H locs hP hD hS => ?_)
          refine lv_lload hx hb dX0_addNextTo_42 (lv_at hl 3 rfl) ?_
          refine lv_lload_n hx hb dX0_addNextTo_44 rfl (lv_at hl 1 rfl) ?_
          refine lv_iload hx hb dX0_addNextTo_45 (lv_at hl 4 rfl) ?_
          refine lv_iload_n hx hb dX0_addNextTo_47 rfl (lv_at hl 2 rfl) ?_
          obtain ⟨v48, hv48, h⟩ := pf_bind h
          refine pf_call (As := [.long x1, .int x6, .int x3]) (rest := [.long x4]) S0 (c_X3_times l x1 x6 x3 v48 hv48) (va_cwS 3 hts gX0_addNextTo_X3_times rfl rfl rfl kd_X3_times ⟨Nat.le_of_ble_eq_true rfl, Nat.le_of_ble_eq_true rfl⟩) rfl hl.1 rfl (Nat.le_of_ble_eq_true rfl) dX0_addNextTo_48 ⟨Nat.zero_le _, Nat.zero_le _⟩ ?_
          refine lv_ldc2 (v := -1) hx hb hown (hts (.constantLong RX0 31 (-1)) (by decide +kernel)) dX0_addNextTo_51 ?_
          refine lv_lxor hx hb dX0_addNextTo_54 ?_
          refine lv_land hx hb dX0_addNextTo_55 ?_
          refine lv_lstore (lv' := [(4, .long (x4 &&& (v48 ^^^ (-1 : Int64)))), (0, .ref q), (1, .long x1), (3, .int x3), (6, .int x6)]) hx hb dX0_addNextTo_56 hl (by decide) rfl (fun ls hl => ?_)
          refine lv_iinc (v := (x6 + (1 : Int32))) (lv' := [(6, .int (x6 + (1 : Int32))), (4, .long (x4 &&& (v48 ^^^ (-1 : Int64)))), (0, .ref q), (1, .long x1), (3, .int x3)]) hx hb dX0_addNextTo_58 hl (k := 4) rfl rfl (by decide) rfl (fun ls hl => ?_)
          refine lv_goto (tgt := 15) hx hb dX0_addNextTo_61 (by decide) ?_
          exact ih x1 x3 (x4 &&& (v48 ^^^ (-1 : Int64))) (x6 + (1 : Int32)) v39.1 v39.2 b (lp_cont h hz) ha H locs hP hD hS ls (lv_sub hl [2, 3, 4, 1, 0] rfl)
  have G15 : ∀ (x1 : Int64) (x3 : Int32) (x4 : Int64) (x6 : Int32) (f_found : (Nat → Int64)) (f_size : Int32), g_X0_addNextTo_15 x1 x3 x4 x6 f_found f_size = some r → ∀ (H : Heap) (locs : List Loc), va_P G vwCl [(q, .inr (0, [.ref q_found, .int f_size])), (q_found, .inl (cJ, 64, .inr (.inl f_found)))] H → va_D A [(q, .inr (0, [.ref q_found, .int f_size])), (q_found, .inl (cJ, 64, .inr (.inl f_found)))] → va_S A s.heap H locs → ∀ ls, lv_has ls 7 [(0, .ref q), (1, .long x1), (3, .int x3), (4, .long x4), (6, .int x6)] → W p l e (headSpec wsX0_addNextTo { frames := 3, cells := 0, slots := 0, locals := 75 }).room s m ([.ref q, .long y1, .int y3] : List Value).toArray below meth c H locs 0 0 (MQ below (hb_Qv G [(q, .inr (0, [.ref q_found, .int r.2])), (q_found, .inl (cJ, 64, .inr (.inl r.1)))] A) ([.ref q, .long y1, .int y3] : List Value).toArray s 0 0 A) (F0 m 15 ls []) := by
    intro x1 x3 x4 x6 f_found f_size h
    unfold g_X0_addNextTo_15 at h
    obtain ⟨b, h, ha⟩ := pf_bind h
    exact L15 pfFU x1 x3 x4 x6 f_found f_size b h ha
  suffices hh : ∀ (H : Heap) (locs : List Loc), va_P G vwCl [(q, .inr (0, [.ref q_found, .int f_size])), (q_found, .inl (cJ, 64, .inr (.inl f_found)))] H → va_D A [(q, .inr (0, [.ref q_found, .int f_size])), (q_found, .inl (cJ, 64, .inr (.inl f_found)))] → va_S A s.heap H locs → W p l e (headSpec wsX0_addNextTo { frames := 3, cells := 0, slots := 0, locals := 75 }).room s m ([.ref q, .long y1, .int y3] : List Value).toArray below meth c H locs 0 0 (MQ below (hb_Qv G [(q, .inr (0, [.ref q_found, .int r.2])), (q_found, .inl (cJ, 64, .inr (.inl r.1)))] A) ([.ref q, .long y1, .int y3] : List Value).toArray s 0 0 A) (F0 m 0 ls []) from hh s.heap [] hP hD hS
  intro H locs hP hD hS
  unfold p_X0_addNextTo at h
  refine lv_iload_n hx hb dX0_addNextTo_0 rfl (lv_at hl 2 rfl) ?_
  obtain ⟨v1, hv1, h⟩ := pf_bind h
  refine pf_call (As := [.int y3]) (rest := []) S0 (c_X3_all l y3 v1 hv1) (va_cwS 1 hts gX0_addNextTo_X3_all rfl rfl rfl kd_X3_all ⟨Nat.le_of_ble_eq_true rfl, Nat.le_of_ble_eq_true rfl⟩) rfl hl.1 rfl (Nat.le_of_ble_eq_true rfl) dX0_addNextTo_1 ⟨Nat.zero_le _, Nat.zero_le _⟩ ?_
  refine lv_lload_n hx hb dX0_addNextTo_4 rfl (lv_at hl 1 rfl) ?_
  refine lv_ldc2 (v := -1) hx hb hown (hts (.constantLong RX0 31 (-1)) (by decide +kernel)) dX0_addNextTo_5 ?_
  refine lv_lxor hx hb dX0_addNextTo_8 ?_
  refine lv_land hx hb dX0_addNextTo_9 ?_
  refine lv_lstore (lv' := [(4, .long (v1 &&& (y1 ^^^ (-1 : Int64)))), (0, .ref q), (1, .long y1), (3, .int y3)]) hx hb dX0_addNextTo_10 hl (by decide) rfl (fun ls hl => ?_)
  refine lv_iconst (v := 0) hx hb dX0_addNextTo_12 (by decide) ?_
  refine lv_istore (lv' := [(6, .int (0 : Int32)), (4, .long (v1 &&& (y1 ^^^ (-1 : Int64)))), (0, .ref q), (1, .long y1), (3, .int y3)]) hx hb dX0_addNextTo_13 hl (by decide) rfl (fun ls hl => ?_)
  exact G15 y1 y3 (v1 &&& (y1 ^^^ (-1 : Int64))) (0 : Int32) f_found f_size h H locs hP hD hS ls (lv_sub hl [2, 3, 4, 1, 0] rfl)
-- X0_find
def e_X0_find_47 (f_found : (Nat → Int64)) (f_size : Int32) : Option ((Nat → Int64) × Int32) :=
  some (f_found, f_size)
def s_X0_find_13 (x3 : Int32) (x4 : Int32) (f_found : (Nat → Int64)) (f_size : Int32) : Option ((Int32 × (Nat → Int64) × Int32) ⊕ (((Nat → Int64) × Int32))) :=
  (if f_size ≤ x4 then some (Sum.inr (f_found, f_size)) else (if (64 : Int32) ≤ x4 then some (Sum.inr (f_found, f_size)) else (if ainB x4 64 = true then ((p_X0_addNextTo f_found f_size (f_found (x4).toNatClampNeg) x3).bind fun v38 => some (Sum.inl ((x4 + (1 : Int32)), v38.1, v38.2))) else none)))
def a_X0_find_13  (b : ((Nat → Int64) × Int32)) : Option ((Nat → Int64) × Int32) := (fun q : ((Nat → Int64) × Int32) => e_X0_find_47 q.1 q.2) b
def g_X0_find_13 (x3 : Int32) (x4 : Int32) (f_found : (Nat → Int64)) (f_size : Int32) : Option ((Nat → Int64) × Int32) := (lpF (fun q : (Int32 × (Nat → Int64) × Int32) => s_X0_find_13 x3 q.1 q.2.1 q.2.2) pfFU (x4, f_found, f_size)).bind (a_X0_find_13 )
def p_X0_find (f_found : (Nat → Int64)) (f_size : Int32) (y1 : Int64) (y3 : Int32) : Option ((Nat → Int64) × Int32) :=
  ((p_X0_add f_found (0 : Int32) y1).bind fun v7 => g_X0_find_13 y3 (0 : Int32) v7.1 v7.2)
theorem in_X0_find_X0 : ∀ w ∈ u_ws RX0 TX0 2, w ∈ wsX0_find := fun w h => List.mem_cons_of_mem _ (List.mem_append_right _ h)
theorem kv_X0_find : yX0_find.cls = RX0 ∧ yX0_find.cls ≠ "java/lang/invoke/MethodHandle" ∧ yX0_find.cls ≠ "java/lang/invoke/VarHandle" ∧ (parseMethodDescriptor yX0_find.desc).map (fun d => d.parameters.length) = some 2 := by decide +kernel
set_option maxHeartbeats 4000000 in
set_option maxRecDepth 100000 in
theorem c_X0_find (l : Launch) (G : va_G) (cI cJ cZ cS : ClassId) (q q_found : Nat) (sz : Nat) (f_found : (Nat → Int64)) (f_size : Int32) (y1 : Int64) (y3 : Int32) (r : ((Nat → Int64) × Int32)) (h : p_X0_find f_found f_size y1 y3 = some r) : Met l yX0_find wsX0_find { frames := 4, cells := 0, slots := 0, locals := 101 } (hb_pre G (hbT cI cJ cZ cS) [.ref q, .long y1, .int y3] sz [(q, .inr (0, [.ref q_found, .int f_size])), (q_found, .inl (cJ, 64, .inr (.inl f_found)))]) (hb_Qv G [(q, .inr (0, [.ref q_found, .int r.2])), (q_found, .inl (cJ, 64, .inr (.inl r.1)))] (va_A [(q, .inr (0, [.ref q_found, .int f_size])), (q_found, .inl (cJ, 64, .inr (.inl f_found)))] sz)) 0 0 (va_A [(q, .inr (0, [.ref q_found, .int f_size])), (q_found, .inl (cJ, 64, .inr (.inl f_found)))] sz) := by
  refine hb_met (Qc := fun A => hb_Qv G [(q, .inr (0, [.ref q_found, .int r.2])), (q_found, .inl (cJ, 64, .inr (.inl r.1)))] A) (cc := cX0_find) (maxL := 5) (ret := none) (by decide) rfl (Nat.le_of_ble_eq_true rfl) ?_
  intro p e s m below meth c A hx hb hr hts hown hlocks hml hin hK hA hP hD hS ls hl
  have hown : s.vm.findClass RX0 = some m.cls := hown
  have S0 : CallFix p m c cX0_find 5 s ([.ref q, .long y1, .int y3] : List Value).toArray wsX0_find RX0 := ⟨hx, hb, hml, hown, hts⟩
  have hl : lv_has ls 5 [(0, .ref q), (1, .long y1), (3, .int y3)] := hl
  have K47 : ∀ (f_found : (Nat → Int64)) (f_size : Int32), e_X0_find_47 f_found f_size = some r → ∀ (H : Heap) (locs : List Loc), va_P G vwCl [(q, .inr (0, [.ref q_found, .int f_size])), (q_found, .inl (cJ, 64, .inr (.inl f_found)))] H → va_D A [(q, .inr (0, [.ref q_found, .int f_size])), (q_found, .inl (cJ, 64, .inr (.inl f_found)))] → va_S A s.heap H locs → ∀ ls, lv_has ls 5 [] → W p l e (headSpec wsX0_find { frames := 4, cells := 0, slots := 0, locals := 101 }).room s m ([.ref q, .long y1, .int y3] : List Value).toArray below meth c H locs 0 0 (MQ below (hb_Qv G [(q, .inr (0, [.ref q_found, .int r.2])), (q_found, .inl (cJ, 64, .inr (.inl r.1)))] A) ([.ref q, .long y1, .int y3] : List Value).toArray s 0 0 A) (F0 m 47 ls []) := by
    intro f_found f_size h H locs hP hD hS ls hl
    unfold e_X0_find_47 at h
    cases h
    exact hb_vret hx hb hr hlocks hP hD hS dX0_find_47
  have L13 : ∀ (n : Nat) (x3 : Int32) (x4 : Int32) (f_found : (Nat → Int64)) (f_size : Int32) (b : ((Nat → Int64) × Int32)), lpF (fun q : (Int32 × (Nat → Int64) × Int32) => s_X0_find_13 x3 q.1 q.2.1 q.2.2) n (x4, f_found, f_size) = some b → a_X0_find_13 b = some r → ∀ (H : Heap) (locs : List Loc), va_P G vwCl [(q, .inr (0, [.ref q_found, .int f_size])), (q_found, .inl (cJ, 64, .inr (.inl f_found)))] H → va_D A [(q, .inr (0, [.ref q_found, .int f_size])), (q_found, .inl (cJ, 64, .inr (.inl f_found)))] → va_S A s.heap H locs → ∀ ls, lv_has ls 5 [(0, .ref q), (3, .int x3), (4, .int x4)] → W p l e (headSpec wsX0_find { frames := 4, cells := 0, slots := 0, locals := 101 }).room s m ([.ref q, .long y1, .int y3] : List Value).toArray below meth c H locs 0 0 (MQ below (hb_Qv G [(q, .inr (0, [.ref q_found, .int r.2])), (q_found, .inl (cJ, 64, .inr (.inl r.1)))] A) ([.ref q, .long y1, .int y3] : List Value).toArray s 0 0 A) (F0 m 13 ls []) := by
    intro n
    induction n with
    | zero => intro x3 x4 f_found f_size b h; exact lp_zero h
    | succ n ih =>
      intro x3 x4 f_found f_size b h ha H locs hP hD hS ls hl
      obtain ⟨z13, h, hz⟩ := lp_open h
      have h : s_X0_find_13 x3 x4 f_found f_size = some z13 := h
      unfold s_X0_find_13 at h
      refine lv_iload hx hb dX0_find_13 (lv_at hl 2 rfl) ?_
      refine lv_aload_n hx hb dX0_find_15 rfl (lv_at hl 0 rfl) ?_
      refine va_get (D := G) (ci := 0) (v := .int f_size) (C := RX0) (T := TX0) (N := 2) hx hb hts in_X0_find_X0 hown hK.1 hP 0 rfl rfl 1 (by decide) (hts (.fieldLink RX0 13 "FieldsByClasses$Above" "size" "I") (by decide +kernel)) (fun _ h9 => h9) rfl dX0_find_16 ?_
      refine lv_icmp_ge (tgt := 47) hx hb dX0_find_19 (by decide) (fun c19 => ?_) (fun c19 => ?_)
      · have h := pf_pos h c19
        have ha := pf_aft ha (lp_exit h hz)
        exact K47 f_found f_size ha H locs hP hD hS ls (lv_sub hl [] rfl)
      · have h := pf_neg h c19
        refine lv_iload hx hb dX0_find_22 (lv_at hl 2 rfl) ?_
        refine lv_bipush (v := 64) hx hb dX0_find_24 (by decide) ?_
        refine lv_icmp_ge (tgt := 47) hx hb dX0_find_26 (by decide) (fun c26 => ?_) (fun c26 => ?_)
        · have h := pf_pos h c26
          have ha := pf_aft ha (lp_exit h hz)
          exact K47 f_found f_size ha H locs hP hD hS ls (lv_sub hl [] rfl)
        · have h := pf_neg h c26
          refine lv_aload_n hx hb dX0_find_29 rfl (lv_at hl 0 rfl) ?_
          refine lv_aload_n hx hb dX0_find_30 rfl (lv_at hl 0 rfl) ?_
          refine va_get (D := G) (ci := 0) (v := .ref q_found) (C := RX0) (T := TX0) (N := 2) hx hb hts in_X0_find_X0 hown hK.1 hP 0 rfl rfl 0 (by decide) (hts (.fieldLink RX0 9 "FieldsByClasses$Above" "found" "[J") (by decide +kernel)) (fun _ h9 => h9) rfl dX0_find_31 ?_
          refine lv_iload hx hb dX0_find_34 (lv_at hl 2 rfl) ?_
          obtain ⟨hi36, h⟩ := pf_need h
          refine va_lald hx hb hK.1 hP 1 1 rfl rfl (ain_of hi36) dX0_find_36 ?_
          refine lv_iload_n hx hb dX0_find_37 rfl (lv_at hl 1 rfl) ?_
          obtain ⟨v38, hv38, h⟩ := pf_bind h
          refine hb_callv (hb_runV (G := G) (T := hbT cI cJ cZ cS) (As := [.long (f_found (x4).toNatClampNeg), .int x3]) (rest := []) S0 (c_X0_addNextTo l G cI cJ cZ cS q q_found H.size f_found f_size (f_found (x4).toNatClampNeg) x3 v38 hv38) (cwV 2 hts gX0_find_X0_addNextTo rfl rfl rfl kv_X0_addNextTo ⟨Nat.le_of_ble_eq_true rfl, Nat.le_of_ble_eq_true rfl⟩) hK (hP.sub [0, 1] rfl) (hD.sub [0, 1] (by decide) rfl) rfl rfl rfl hl.1 rfl (Nat.le_of_ble_eq_true rfl) dX0_find_38 ⟨Nat.zero_le _, Nat.zero_le _⟩) hP hD hS hA [0, 1] [] [0, 1] rfl (wr := []) rfl (by decide) (by decide) (w2 := [(q, .inr (0, [.ref q_found, .int v38.2])), (q_found, .inl (cJ, 64, .inr (.inl v38.1)))]) (by decide) rfl rfl (fun H locs hP hD hS => ?_)
          refine lv_iinc (v := (x4 + (1 : Int32))) (lv' := [(4, .int (x4 + (1 : Int32))), (0, .ref q), (3, .int x3)]) hx hb dX0_find_41 hl (k := 2) rfl rfl (by decide) rfl (fun ls hl => ?_)
          refine lv_goto (tgt := 13) hx hb dX0_find_44 (by decide) ?_
          exact ih x3 (x4 + (1 : Int32)) v38.1 v38.2 b (lp_cont h hz) ha H locs hP hD hS ls (lv_sub hl [1, 2, 0] rfl)
  have G13 : ∀ (x3 : Int32) (x4 : Int32) (f_found : (Nat → Int64)) (f_size : Int32), g_X0_find_13 x3 x4 f_found f_size = some r → ∀ (H : Heap) (locs : List Loc), va_P G vwCl [(q, .inr (0, [.ref q_found, .int f_size])), (q_found, .inl (cJ, 64, .inr (.inl f_found)))] H → va_D A [(q, .inr (0, [.ref q_found, .int f_size])), (q_found, .inl (cJ, 64, .inr (.inl f_found)))] → va_S A s.heap H locs → ∀ ls, lv_has ls 5 [(0, .ref q), (3, .int x3), (4, .int x4)] → W p l e (headSpec wsX0_find { frames := 4, cells := 0, slots := 0, locals := 101 }).room s m ([.ref q, .long y1, .int y3] : List Value).toArray below meth c H locs 0 0 (MQ below (hb_Qv G [(q, .inr (0, [.ref q_found, .int r.2])), (q_found, .inl (cJ, 64, .inr (.inl r.1)))] A) ([.ref q, .long y1, .int y3] : List Value).toArray s 0 0 A) (F0 m 13 ls []) := by
    intro x3 x4 f_found f_size h
    unfold g_X0_find_13 at h
    obtain ⟨b, h, ha⟩ := pf_bind h
    exact L13 pfFU x3 x4 f_found f_size b h ha
  suffices hh : ∀ (H : Heap) (locs : List Loc), va_P G vwCl [(q, .inr (0, [.ref q_found, .int f_size])), (q_found, .inl (cJ, 64, .inr (.inl f_found)))] H → va_D A [(q, .inr (0, [.ref q_found, .int f_size])), (q_found, .inl (cJ, 64, .inr (.inl f_found)))] → va_S A s.heap H locs → W p l e (headSpec wsX0_find { frames := 4, cells := 0, slots := 0, locals := 101 }).room s m ([.ref q, .long y1, .int y3] : List Value).toArray below meth c H locs 0 0 (MQ below (hb_Qv G [(q, .inr (0, [.ref q_found, .int r.2])), (q_found, .inl (cJ, 64, .inr (.inl r.1)))] A) ([.ref q, .long y1, .int y3] : List Value).toArray s 0 0 A) (F0 m 0 ls []) from hh s.heap [] hP hD hS
  intro H locs hP hD hS
  unfold p_X0_find at h
  refine lv_aload_n hx hb dX0_find_0 rfl (lv_at hl 0 rfl) ?_
  refine lv_iconst (v := 0) hx hb dX0_find_1 (by decide) ?_
  refine va_put (D := G) (ci := 0) (v := .int (0 : Int32)) (ty := .int) (C := RX0) (T := TX0) (N := 2) hx hb hts in_X0_find_X0 tyX0 tyX0_ok nmX0 hown hK.1 hP hD hS 0 rfl rfl 1 (by decide) (hts (.fieldLink RX0 13 "FieldsByClasses$Above" "size" "I") (by decide +kernel)) (fun _ h9 => h9) rfl (tyX0_ok 1 (by decide)) rfl rfl (Nat.le_of_ble_eq_true rfl) dX0_find_2 (fun H locs hP hD hS => ?_)
  have hP : va_P G vwCl [(q, .inr (0, [.ref q_found, .int (0 : Int32)])), (q_found, .inl (cJ, 64, .inr (.inl f_found)))] H := hP
  have hD : va_D A [(q, .inr (0, [.ref q_found, .int (0 : Int32)])), (q_found, .inl (cJ, 64, .inr (.inl f_found)))] := hD
  refine lv_aload_n hx hb dX0_find_5 rfl (lv_at hl 0 rfl) ?_
  refine lv_lload_n hx hb dX0_find_6 rfl (lv_at hl 1 rfl) ?_
  obtain ⟨v7, hv7, h⟩ := pf_bind h
  refine hb_callv (hb_runV (G := G) (T := hbT cI cJ cZ cS) (As := [.long y1]) (rest := []) S0 (c_X0_add l G cI cJ cZ cS q q_found H.size f_found (0 : Int32) y1 v7 hv7) (cwV 1 hts gX0_find_X0_add rfl rfl rfl kv_X0_add ⟨Nat.le_of_ble_eq_true rfl, Nat.le_of_ble_eq_true rfl⟩) hK (hP.sub [0, 1] rfl) (hD.sub [0, 1] (by decide) rfl) rfl rfl rfl hl.1 rfl (Nat.le_of_ble_eq_true rfl) dX0_find_7 ⟨Nat.zero_le _, Nat.zero_le _⟩) hP hD hS hA [0, 1] [] [0, 1] rfl (wr := []) rfl (by decide) (by decide) (w2 := [(q, .inr (0, [.ref q_found, .int v7.2])), (q_found, .inl (cJ, 64, .inr (.inl v7.1)))]) (by decide) rfl rfl (fun H locs hP hD hS => ?_)
  refine lv_iconst (v := 0) hx hb dX0_find_10 (by decide) ?_
  refine lv_istore (lv' := [(4, .int (0 : Int32)), (0, .ref q), (1, .long y1), (3, .int y3)]) hx hb dX0_find_11 hl (by decide) rfl (fun ls hl => ?_)
  exact G13 y3 (0 : Int32) v7.1 v7.2 h H locs hP hD hS ls (lv_sub hl [1, 3, 0] rfl)
