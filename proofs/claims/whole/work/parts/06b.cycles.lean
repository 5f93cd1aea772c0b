-- X2_add
def p_X2_add (f_lengths : (Nat → Int32)) (f_size : Int32) (y1 : Int32) : Option ((Nat → Int32) × Int32) :=
  (if f_size < 0 then some (f_lengths, f_size) else (if (4 : Int32) ≤ f_size then some (f_lengths, f_size) else (if ainB f_size 4 = true then some ((upd f_lengths (f_size).toNatClampNeg y1), (f_size + (1 : Int32))) else none)))
theorem in_X2_add_X2 : ∀ w ∈ u_ws RX2 TX2 2, w ∈ wsX2_add := fun w h => List.mem_cons_of_mem _ (List.mem_append_right _ h)
theorem kv_X2_add : yX2_add.cls = RX2 ∧ yX2_add.cls ≠ "java/lang/invoke/MethodHandle" ∧ yX2_add.cls ≠ "java/lang/invoke/VarHandle" ∧ (parseMethodDescriptor yX2_add.desc).map (fun d => d.parameters.length) = some 1 := by decide +kernel
set_option maxHeartbeats 4000000 in
set_option maxRecDepth 100000 in
theorem c_X2_add (l : Launch) (G : va_G) (cI cJ cZ cS : ClassId) (q q_lengths : Nat) (sz : Nat) (f_lengths : (Nat → Int32)) (f_size : Int32) (y1 : Int32) (r : ((Nat → Int32) × Int32)) (h : p_X2_add f_lengths f_size y1 = some r) : Met l yX2_add wsX2_add { frames := 0, cells := 0, slots := 0, locals := 0 } (hb_pre G (hbT cI cJ cZ cS) [.ref q, .int y1] sz [(q, .inr (2, [.ref q_lengths, .int f_size])), (q_lengths, .inl (cI, 4, .inl f_lengths))]) (hb_Qv G [(q, .inr (2, [.ref q_lengths, .int r.2])), (q_lengths, .inl (cI, 4, .inl r.1))] (va_A [(q, .inr (2, [.ref q_lengths, .int f_size])), (q_lengths, .inl (cI, 4, .inl f_lengths))] sz)) 0 0 (va_A [(q, .inr (2, [.ref q_lengths, .int f_size])), (q_lengths, .inl (cI, 4, .inl f_lengths))] sz) := by
  refine hb_met (Qc := fun A => hb_Qv G [(q, .inr (2, [.ref q_lengths, .int r.2])), (q_lengths, .inl (cI, 4, .inl r.1))] A) (cc := cX2_add) (maxL := 2) (ret := none) (by decide) rfl (Nat.le_of_ble_eq_true rfl) ?_
  intro p e s m below meth c A hx hb hr hts hown hlocks hml hin hK hA hP hD hS ls hl
  have hown : s.vm.findClass RX2 = some m.cls := hown
  have S0 : CallFix p m c cX2_add 2 s ([.ref q, .int y1] : List Value).toArray wsX2_add RX2 := ⟨hx, hb, hml, hown, hts⟩
  have hl : lv_has ls 2 [(0, .ref q), (1, .int y1)] := hl
  suffices hh : ∀ (H : Heap) (locs : List Loc), va_P G vwCl [(q, .inr (2, [.ref q_lengths, .int f_size])), (q_lengths, .inl (cI, 4, .inl f_lengths))] H → va_D A [(q, .inr (2, [.ref q_lengths, .int f_size])), (q_lengths, .inl (cI, 4, .inl f_lengths))] → va_S A s.heap H locs → W p l e (headSpec wsX2_add { frames := 0, cells := 0, slots := 0, locals := 0 }).room s m ([.ref q, .int y1] : List Value).toArray below meth c H locs 0 0 (MQ below (hb_Qv G [(q, .inr (2, [.ref q_lengths, .int r.2])), (q_lengths, .inl (cI, 4, .inl r.1))] A) ([.ref q, .int y1] : List Value).toArray s 0 0 A) (F0 m 0 ls []) from hh s.heap [] hP hD hS
  intro H locs hP hD hS
  unfold p_X2_add at h
  refine lv_aload_n hx hb dX2_add_0 rfl (lv_at hl 0 rfl) ?_
  refine va_get (D := G) (ci := 2) (v := .int f_size) (C := RX2) (T := TX2) (N := 2) hx hb hts in_X2_add_X2 hown hK.1 hP 0 rfl rfl 1 (by decide) (hts (.fieldLink RX2 15 "FieldsByClasses$Cycles" "size" "I") (by decide +kernel)) (fun _ h9 => h9) rfl dX2_add_1 ?_
  refine lv_if_lt (tgt := 35) hx hb dX2_add_4 (by decide) (fun c4 => ?_) (fun c4 => ?_)
  · have h := pf_pos h c4
    cases h
    exact hb_vret hx hb hr hlocks hP hD hS dX2_add_35
  · have h := pf_neg h c4
    refine lv_aload_n hx hb dX2_add_7 rfl (lv_at hl 0 rfl) ?_
    refine va_get (D := G) (ci := 2) (v := .int f_size) (C := RX2) (T := TX2) (N := 2) hx hb hts in_X2_add_X2 hown hK.1 hP 0 rfl rfl 1 (by decide) (hts (.fieldLink RX2 15 "FieldsByClasses$Cycles" "size" "I") (by decide +kernel)) (fun _ h9 => h9) rfl dX2_add_8 ?_
    refine lv_iconst (v := 4) hx hb dX2_add_11 (by decide) ?_
    refine lv_icmp_ge (tgt := 35) hx hb dX2_add_12 (by decide) (fun c12 => ?_) (fun c12 => ?_)
    · have h := pf_pos h c12
      cases h
      exact hb_vret hx hb hr hlocks hP hD hS dX2_add_35
    · have h := pf_neg h c12
      refine lv_aload_n hx hb dX2_add_15 rfl (lv_at hl 0 rfl) ?_
      refine va_get (D := G) (ci := 2) (v := .ref q_lengths) (C := RX2) (T := TX2) (N := 2) hx hb hts in_X2_add_X2 hown hK.1 hP 0 rfl rfl 0 (by decide) (hts (.fieldLink RX2 11 "FieldsByClasses$Cycles" "lengths" "[I") (by decide +kernel)) (fun _ h9 => h9) rfl dX2_add_16 ?_
      refine lv_aload_n hx hb dX2_add_19 rfl (lv_at hl 0 rfl) ?_
      refine va_get (D := G) (ci := 2) (v := .int f_size) (C := RX2) (T := TX2) (N := 2) hx hb hts in_X2_add_X2 hown hK.1 hP 0 rfl rfl 1 (by decide) (hts (.fieldLink RX2 15 "FieldsByClasses$Cycles" "size" "I") (by decide +kernel)) (fun _ h9 => h9) rfl dX2_add_20 ?_
      refine lv_iload_n hx hb dX2_add_23 rfl (lv_at hl 1 rfl) ?_
      obtain ⟨hi24, h⟩ := pf_need h
      refine va_iast hx hb hK.1 hP hD hS 1 0 rfl rfl (ain_of hi24) dX2_add_24 (fun H locs hP hD hS => ?_)
      have hP : va_P G vwCl [(q, .inr (2, [.ref q_lengths, .int f_size])), (q_lengths, .inl (cI, 4, .inl (upd f_lengths (f_size).toNatClampNeg y1)))] H := hP
      have hD : va_D A [(q, .inr (2, [.ref q_lengths, .int f_size])), (q_lengths, .inl (cI, 4, .inl (upd f_lengths (f_size).toNatClampNeg y1)))] := hD
      refine lv_aload_n hx hb dX2_add_25 rfl (lv_at hl 0 rfl) ?_
      refine lv_dup hx hb dX2_add_26 rfl ?_
      refine va_get (D := G) (ci := 2) (v := .int f_size) (C := RX2) (T := TX2) (N := 2) hx hb hts in_X2_add_X2 hown hK.1 hP 0 rfl rfl 1 (by decide) (hts (.fieldLink RX2 15 "FieldsByClasses$Cycles" "size" "I") (by decide +kernel)) (fun _ h9 => h9) rfl dX2_add_27 ?_
      refine lv_iconst (v := 1) hx hb dX2_add_30 (by decide) ?_
      refine lv_iadd hx hb dX2_add_31 ?_
      refine va_put (D := G) (ci := 2) (v := .int (f_size + (1 : Int32))) (ty := .int) (C := RX2) (T := TX2) (N := 2) hx hb hts in_X2_add_X2 tyX2 tyX2_ok nmX2 hown hK.1 hP hD hS 0 rfl rfl 1 (by decide) (hts (.fieldLink RX2 15 "FieldsByClasses$Cycles" "size" "I") (by decide +kernel)) (fun _ h9 => h9) rfl (tyX2_ok 1 (by decide)) rfl rfl (Nat.le_of_ble_eq_true rfl) dX2_add_32 (fun H locs hP hD hS => ?_)
      have hP : va_P G vwCl [(q, .inr (2, [.ref q_lengths, .int (f_size + (1 : Int32))])), (q_lengths, .inl (cI, 4, .inl (upd f_lengths (f_size).toNatClampNeg y1)))] H := hP
      have hD : va_D A [(q, .inr (2, [.ref q_lengths, .int (f_size + (1 : Int32))])), (q_lengths, .inl (cI, 4, .inl (upd f_lengths (f_size).toNatClampNeg y1)))] := hD
      cases h
      exact hb_vret hx hb hr hlocks hP hD hS dX2_add_35
-- X2_addThoseBy
def p_X2_addThoseBy (f_lengths : (Nat → Int32)) (f_size : Int32) (y1 : Int32) (y2 : Int32) : Option ((Nat → Int32) × Int32) :=
  ((p_X3_all y2).bind fun v1 => ((p_X3_size v1).bind fun v4 => (if y1 = (2 : Int32) then (if y2 ≤ (4 : Int32) then ((p_X2_add f_lengths f_size v4).bind fun v37 => some (v37.1, v37.2)) else ((p_X2_add f_lengths f_size (2 : Int32)).bind fun v20 => ((p_X6_quotient v4 (2 : Int32)).bind fun v26 => ((p_X2_add v20.1 v20.2 v26).bind fun v29 => some (v29.1, v29.2))))) else ((p_X2_add f_lengths f_size v4).bind fun v37 => some (v37.1, v37.2)))))
theorem kv_X2_addThoseBy : yX2_addThoseBy.cls = RX2 ∧ yX2_addThoseBy.cls ≠ "java/lang/invoke/MethodHandle" ∧ yX2_addThoseBy.cls ≠ "java/lang/invoke/VarHandle" ∧ (parseMethodDescriptor yX2_addThoseBy.desc).map (fun d => d.parameters.length) = some 2 := by decide +kernel
set_option maxHeartbeats 4000000 in
set_option maxRecDepth 100000 in
theorem c_X2_addThoseBy (l : Launch) (G : va_G) (cI cJ cZ cS : ClassId) (q q_lengths : Nat) (sz : Nat) (f_lengths : (Nat → Int32)) (f_size : Int32) (y1 : Int32) (y2 : Int32) (r : ((Nat → Int32) × Int32)) (h : p_X2_addThoseBy f_lengths f_size y1 y2 = some r) : Met l yX2_addThoseBy wsX2_addThoseBy { frames := 2, cells := 0, slots := 0, locals := 48 } (hb_pre G (hbT cI cJ cZ cS) [.ref q, .int y1, .int y2] sz [(q, .inr (2, [.ref q_lengths, .int f_size])), (q_lengths, .inl (cI, 4, .inl f_lengths))]) (hb_Qv G [(q, .inr (2, [.ref q_lengths, .int r.2])), (q_lengths, .inl (cI, 4, .inl r.1))] (va_A [(q, .inr (2, [.ref q_lengths, .int f_size])), (q_lengths, .inl (cI, 4, .inl f_lengths))] sz)) 0 0 (va_A [(q, .inr (2, [.ref q_lengths, .int f_size])), (q_lengths, .inl (cI, 4, .inl f_lengths))] sz) := by
  refine hb_met (Qc := fun A => hb_Qv G [(q, .inr (2, [.ref q_lengths, .int r.2])), (q_lengths, .inl (cI, 4, .inl r.1))] A) (cc := cX2_addThoseBy) (maxL := 4) (ret := none) (by decide) rfl (Nat.le_of_ble_eq_true rfl) ?_
  intro p e s m below meth c A hx hb hr hts hown hlocks hml hin hK hA hP hD hS ls hl
  have hown : s.vm.findClass RX2 = some m.cls := hown
  have S0 : CallFix p m c cX2_addThoseBy 4 s ([.ref q, .int y1, .int y2] : List Value).toArray wsX2_addThoseBy RX2 := ⟨hx, hb, hml, hown, hts⟩
  have hl : lv_has ls 4 [(0, .ref q), (1, .int y1), (2, .int y2)] := hl
  suffices hh : ∀ (H : Heap) (locs : List Loc), va_P G vwCl [(q, .inr (2, [.ref q_lengths, .int f_size])), (q_lengths, .inl (cI, 4, .inl f_lengths))] H → va_D A [(q, .inr (2, [.ref q_lengths, .int f_size])), (q_lengths, .inl (cI, 4, .inl f_lengths))] → va_S A s.heap H locs → W p l e (headSpec wsX2_addThoseBy { frames := 2, cells := 0, slots := 0, locals := 48 }).room s m ([.ref q, .int y1, .int y2] : List Value).toArray below meth c H locs 0 0 (MQ below (hb_Qv G [(q, .inr (2, [.ref q_lengths, .int r.2])), (q_lengths, .inl (cI, 4, .inl r.1))] A) ([.ref q, .int y1, .int y2] : List Value).toArray s 0 0 A) (F0 m 0 ls []) from hh s.heap [] hP hD hS
  intro H locs hP hD hS
  unfold p_X2_addThoseBy at h
  refine lv_iload_n hx hb dX2_addThoseBy_0 rfl (lv_at hl 2 rfl) ?_
  obtain ⟨v1, hv1, h⟩ := pf_bind h
  refine pf_call (As := [.int y2]) (rest := []) S0 (c_X3_all l y2 v1 hv1) (va_cwS 1 hts gX2_addThoseBy_X3_all rfl rfl rfl kd_X3_all ⟨Nat.le_of_ble_eq_true rfl, Nat.le_of_ble_eq_true rfl⟩) rfl hl.1 rfl (Nat.le_of_ble_eq_true rfl) dX2_addThoseBy_1 ⟨Nat.zero_le _, Nat.zero_le _⟩ ?_
  obtain ⟨v4, hv4, h⟩ := pf_bind h
  refine pf_call (As := [.long v1]) (rest := []) S0 (c_X3_size l v1 v4 hv4) (va_cwS 1 hts gX2_addThoseBy_X3_size rfl rfl rfl kd_X3_size ⟨Nat.le_of_ble_eq_true rfl, Nat.le_of_ble_eq_true rfl⟩) rfl hl.1 rfl (Nat.le_of_ble_eq_true rfl) dX2_addThoseBy_4 ⟨Nat.zero_le _, Nat.zero_le _⟩ ?_
  refine lv_istore_n (lv' := [(3, .int v4), (0, .ref q), (1, .int y1), (2, .int y2)]) hx hb dX2_addThoseBy_7 rfl hl (by decide) rfl (fun ls hl => ?_)
  refine lv_iload_n hx hb dX2_addThoseBy_8 rfl (lv_at hl 2 rfl) ?_
  refine lv_iconst (v := 2) hx hb dX2_addThoseBy_9 (by decide) ?_
  refine lv_icmp_ne (tgt := 35) hx hb dX2_addThoseBy_10 (by decide) (fun c10 => ?_) (fun c10 => ?_)
  · have h := pf_neg h c10
    refine lv_aload_n hx hb dX2_addThoseBy_35 rfl (lv_at hl 1 rfl) ?_
    refine lv_iload_n hx hb dX2_addThoseBy_36 rfl (lv_at hl 0 rfl) ?_
    obtain ⟨v37, hv37, h⟩ := pf_bind h
    refine hb_callv (hb_runV (G := G) (T := hbT cI cJ cZ cS) (As := [.int v4]) (rest := []) S0 (c_X2_add l G cI cJ cZ cS q q_lengths H.size f_lengths f_size v4 v37 hv37) (cwV 1 hts gX2_addThoseBy_X2_add rfl rfl rfl kv_X2_add ⟨Nat.le_of_ble_eq_true rfl, Nat.le_of_ble_eq_true rfl⟩) hK (hP.sub [0, 1] rfl) (hD.sub [0, 1] (by decide) rfl) rfl rfl rfl hl.1 rfl (Nat.le_of_ble_eq_true rfl) dX2_addThoseBy_37 ⟨Nat.zero_le _, Nat.zero_le _⟩) hP hD hS hA [0, 1] [] [0, 1] rfl (wr := []) rfl (by decide) (by decide) (w2 := [(q, .inr (2, [.ref q_lengths, .int v37.2])), (q_lengths, .inl (cI, 4, .inl v37.1))]) (by decide) rfl rfl (fun H locs hP hD hS => ?_)
    cases h
    exact hb_vret hx hb hr hlocks hP hD hS dX2_addThoseBy_40
  · have h := pf_pos h c10
    refine lv_iload_n hx hb dX2_addThoseBy_13 rfl (lv_at hl 3 rfl) ?_
    refine lv_iconst (v := 4) hx hb dX2_addThoseBy_14 (by decide) ?_
    refine lv_icmp_le (tgt := 35) hx hb dX2_addThoseBy_15 (by decide) (fun c15 => ?_) (fun c15 => ?_)
    · have h := pf_pos h c15
      refine lv_aload_n hx hb dX2_addThoseBy_35 rfl (lv_at hl 1 rfl) ?_
      refine lv_iload_n hx hb dX2_addThoseBy_36 rfl (lv_at hl 0 rfl) ?_
      obtain ⟨v37, hv37, h⟩ := pf_bind h
      refine hb_callv (hb_runV (G := G) (T := hbT cI cJ cZ cS) (As := [.int v4]) (rest := []) S0 (c_X2_add l G cI cJ cZ cS q q_lengths H.size f_lengths f_size v4 v37 hv37) (cwV 1 hts gX2_addThoseBy_X2_add rfl rfl rfl kv_X2_add ⟨Nat.le_of_ble_eq_true rfl, Nat.le_of_ble_eq_true rfl⟩) hK (hP.sub [0, 1] rfl) (hD.sub [0, 1] (by decide) rfl) rfl rfl rfl hl.1 rfl (Nat.le_of_ble_eq_true rfl) dX2_addThoseBy_37 ⟨Nat.zero_le _, Nat.zero_le _⟩) hP hD hS hA [0, 1] [] [0, 1] rfl (wr := []) rfl (by decide) (by decide) (w2 := [(q, .inr (2, [.ref q_lengths, .int v37.2])), (q_lengths, .inl (cI, 4, .inl v37.1))]) (by decide) rfl rfl (fun H locs hP hD hS => ?_)
      cases h
      exact hb_vret hx hb hr hlocks hP hD hS dX2_addThoseBy_40
    · have h := pf_neg h c15
      refine lv_aload_n hx hb dX2_addThoseBy_18 rfl (lv_at hl 1 rfl) ?_
      refine lv_iconst (v := 2) hx hb dX2_addThoseBy_19 (by decide) ?_
      obtain ⟨v20, hv20, h⟩ := pf_bind h
      refine hb_callv (hb_runV (G := G) (T := hbT cI cJ cZ cS) (As := [.int (2 : Int32)]) (rest := []) S0 (c_X2_add l G cI cJ cZ cS q q_lengths H.size f_lengths f_size (2 : Int32) v20 hv20) (cwV 1 hts gX2_addThoseBy_X2_add rfl rfl rfl kv_X2_add ⟨Nat.le_of_ble_eq_true rfl, Nat.le_of_ble_eq_true rfl⟩) hK (hP.sub [0, 1] rfl) (hD.sub [0, 1] (by decide) rfl) rfl rfl rfl hl.1 rfl (Nat.le_of_ble_eq_true rfl) dX2_addThoseBy_20 ⟨Nat.zero_le _, Nat.zero_le _⟩) hP hD hS hA [0, 1] [] [0, 1] rfl (wr := []) rfl (by decide) (by decide) (w2 := [(q, .inr (2, [.ref q_lengths, .int v20.2])), (q_lengths, .inl (cI, 4, .inl v20.1))]) (by decide) rfl rfl (fun H locs hP hD hS => ?_)
      refine lv_aload_n hx hb dX2_addThoseBy_23 rfl (lv_at hl 1 rfl) ?_
      refine lv_iload_n hx hb dX2_addThoseBy_24 rfl (lv_at hl 0 rfl) ?_
      refine lv_iconst (v := 2) hx hb dX2_addThoseBy_25 (by decide) ?_
      obtain ⟨v26, hv26, h⟩ := pf_bind h
      refine pf_call (As := [.int v4, .int (2 : Int32)]) (rest := [.ref q]) S0 (c_X6_quotient l v4 (2 : Int32) v26 hv26) (va_cwS 2 hts gX2_addThoseBy_X6_quotient rfl rfl rfl kd_X6_quotient ⟨Nat.le_of_ble_eq_true rfl, Nat.le_of_ble_eq_true rfl⟩) rfl hl.1 rfl (Nat.le_of_ble_eq_true rfl) dX2_addThoseBy_26 ⟨Nat.zero_le _, Nat.zero_le _⟩ ?_
      obtain ⟨v29, hv29, h⟩ := pf_bind h
      refine hb_callv (hb_runV (G := G) (T := hbT cI cJ cZ cS) (As := [.int v26]) (rest := []) S0 (c_X2_add l G cI cJ cZ cS q q_lengths H.size v20.1 v20.2 v26 v29 hv29) (cwV 1 hts gX2_addThoseBy_X2_add rfl rfl rfl kv_X2_add ⟨Nat.le_of_ble_eq_true rfl, Nat.le_of_ble_eq_true rfl⟩) hK (hP.sub [0, 1] rfl) (hD.sub [0, 1] (by decide) rfl) rfl rfl rfl hl.1 rfl (Nat.le_of_ble_eq_true rfl) dX2_addThoseBy_29 ⟨Nat.zero_le _, Nat.zero_le _⟩) hP hD hS hA [0, 1] [] [0, 1] rfl (wr := []) rfl (by decide) (by decide) (w2 := [(q, .inr (2, [.ref q_lengths, .int v29.2])), (q_lengths, .inl (cI, 4, .inl v29.1))]) (by decide) rfl rfl (fun H locs hP hD hS => ?_)
      refine lv_goto (tgt := 40) hx hb dX2_addThoseBy_32 (by decide) ?_
      cases h
      exact hb_vret hx hb hr hlocks hP hD hS dX2_addThoseBy_40
-- X2_split
def p_X2_split (f_lengths : (Nat → Int32)) (y1 : Int32) (y2 : Int32) : Option (Nat → Int32) :=
  (if y1 < 0 then some f_lengths else (if y2 < 0 then some f_lengths else (if (4 : Int32) ≤ y1 then some f_lengths else (if y2 < (4 : Int32) then (if ainB y1 4 = true then (if ainB y2 4 = true then ((p_X6_greatestDivisor (f_lengths (y1).toNatClampNeg) (f_lengths (y2).toNatClampNeg)).bind fun v31 => (if ainB y1 4 = true then (if ainB y2 4 = true then ((p_X6_leastMultiple (f_lengths (y1).toNatClampNeg) (f_lengths (y2).toNatClampNeg)).bind fun v47 => (if ainB y1 4 = true then (if ainB y2 4 = true then some (upd (upd f_lengths (y1).toNatClampNeg v31) (y2).toNatClampNeg v47) else none) else none)) else none) else none)) else none) else none) else some f_lengths))))
theorem in_X2_split_X2 : ∀ w ∈ u_ws RX2 TX2 2, w ∈ wsX2_split := fun w h => List.mem_cons_of_mem _ (List.mem_append_right _ h)
theorem kv_X2_split : yX2_split.cls = RX2 ∧ yX2_split.cls ≠ "java/lang/invoke/MethodHandle" ∧ yX2_split.cls ≠ "java/lang/invoke/VarHandle" ∧ (parseMethodDescriptor yX2_split.desc).map (fun d => d.parameters.length) = some 2 := by decide +kernel
set_option maxHeartbeats 4000000 in
set_option maxRecDepth 100000 in
theorem c_X2_split (l : Launch) (G : va_G) (cI cJ cZ cS : ClassId) (q q_lengths : Nat) (sz : Nat) (f_lengths : (Nat → Int32)) (f_size : Int32) (y1 : Int32) (y2 : Int32) (r : (Nat → Int32)) (h : p_X2_split f_lengths y1 y2 = some r) : Met l yX2_split wsX2_split { frames := 2, cells := 0, slots := 0, locals := 46 } (hb_pre G (hbT cI cJ cZ cS) [.ref q, .int y1, .int y2] sz [(q, .inr (2, [.ref q_lengths, .int f_size])), (q_lengths, .inl (cI, 4, .inl f_lengths))]) (hb_Qv G [(q, .inr (2, [.ref q_lengths, .int f_size])), (q_lengths, .inl (cI, 4, .inl r))] (va_A [(q, .inr (2, [.ref q_lengths, .int f_size])), (q_lengths, .inl (cI, 4, .inl f_lengths))] sz)) 0 0 (va_A [(q, .inr (2, [.ref q_lengths, .int f_size])), (q_lengths, .inl (cI, 4, .inl f_lengths))] sz) := by
  refine hb_met (Qc := fun A => hb_Qv G [(q, .inr (2, [.ref q_lengths, .int f_size])), (q_lengths, .inl (cI, 4, .inl r))] A) (cc := cX2_split) (maxL := 5) (ret := none) (by decide) rfl (Nat.le_of_ble_eq_true rfl) ?_
  intro p e s m below meth c A hx hb hr hts hown hlocks hml hin hK hA hP hD hS ls hl
  have hown : s.vm.findClass RX2 = some m.cls := hown
  have S0 : CallFix p m c cX2_split 5 s ([.ref q, .int y1, .int y2] : List Value).toArray wsX2_split RX2 := ⟨hx, hb, hml, hown, hts⟩
  have hl : lv_has ls 5 [(0, .ref q), (1, .int y1), (2, .int y2)] := hl
  suffices hh : ∀ (H : Heap) (locs : List Loc), va_P G vwCl [(q, .inr (2, [.ref q_lengths, .int f_size])), (q_lengths, .inl (cI, 4, .inl f_lengths))] H → va_D A [(q, .inr (2, [.ref q_lengths, .int f_size])), (q_lengths, .inl (cI, 4, .inl f_lengths))] → va_S A s.heap H locs → W p l e (headSpec wsX2_split { frames := 2, cells := 0, slots := 0, locals := 46 }).room s m ([.ref q, .int y1, .int y2] : List Value).toArray below meth c H locs 0 0 (MQ below (hb_Qv G [(q, .inr (2, [.ref q_lengths, .int f_size])), (q_lengths, .inl (cI, 4, .inl r))] A) ([.ref q, .int y1, .int y2] : List Value).toArray s 0 0 A) (F0 m 0 ls []) from hh s.heap [] hP hD hS
  intro H locs hP hD hS
  unfold p_X2_split at h
  refine lv_iload_n hx hb dX2_split_0 rfl (lv_at hl 1 rfl) ?_
  refine lv_if_lt (tgt := 18) hx hb dX2_split_1 (by decide) (fun c1 => ?_) (fun c1 => ?_)
  · have h := pf_pos h c1
    cases h
    exact hb_vret hx hb hr hlocks hP hD hS dX2_split_18
  · have h := pf_neg h c1
    refine lv_iload_n hx hb dX2_split_4 rfl (lv_at hl 2 rfl) ?_
    refine lv_if_lt (tgt := 18) hx hb dX2_split_5 (by decide) (fun c5 => ?_) (fun c5 => ?_)
    · have h := pf_pos h c5
      cases h
      exact hb_vret hx hb hr hlocks hP hD hS dX2_split_18
    · have h := pf_neg h c5
      refine lv_iload_n hx hb dX2_split_8 rfl (lv_at hl 1 rfl) ?_
      refine lv_iconst (v := 4) hx hb dX2_split_9 (by decide) ?_
      refine lv_icmp_ge (tgt := 18) hx hb dX2_split_10 (by decide) (fun c10 => ?_) (fun c10 => ?_)
      · have h := pf_pos h c10
        cases h
        exact hb_vret hx hb hr hlocks hP hD hS dX2_split_18
      · have h := pf_neg h c10
        refine lv_iload_n hx hb dX2_split_13 rfl (lv_at hl 2 rfl) ?_
        refine lv_iconst (v := 4) hx hb dX2_split_14 (by decide) ?_
        refine lv_icmp_lt (tgt := 19) hx hb dX2_split_15 (by decide) (fun c15 => ?_) (fun c15 => ?_)
        · have h := pf_pos h c15
          refine lv_aload_n hx hb dX2_split_19 rfl (lv_at hl 0 rfl) ?_
          refine va_get (D := G) (ci := 2) (v := .ref q_lengths) (C := RX2) (T := TX2) (N := 2) hx hb hts in_X2_split_X2 hown hK.1 hP 0 rfl rfl 0 (by decide) (hts (.fieldLink RX2 11 "FieldsByClasses$Cycles" "lengths" "[I") (by decide +kernel)) (fun _ h9 => h9) rfl dX2_split_20 ?_
          refine lv_iload_n hx hb dX2_split_23 rfl (lv_at hl 1 rfl) ?_
          obtain ⟨hi24, h⟩ := pf_need h
          refine va_iald hx hb hK.1 hP 1 0 rfl rfl (ain_of hi24) dX2_split_24 ?_
          refine lv_aload_n hx hb dX2_split_25 rfl (lv_at hl 0 rfl) ?_
          refine va_get (D := G) (ci := 2) (v := .ref q_lengths) (C := RX2) (T := TX2) (N := 2) hx hb hts in_X2_split_X2 hown hK.1 hP 0 rfl rfl 0 (by decide) (hts (.fieldLink RX2 11 "FieldsByClasses$Cycles" "lengths" "[I") (by decide +kernel)) (fun _ h9 => h9) rfl dX2_split_26 ?_
          refine lv_iload_n hx hb dX2_split_29 rfl (lv_at hl 2 rfl) ?_
          obtain ⟨hi30, h⟩ := pf_need h
          refine va_iald hx hb hK.1 hP 1 0 rfl rfl (ain_of hi30) dX2_split_30 ?_
          obtain ⟨v31, hv31, h⟩ := pf_bind h
          refine pf_call (As := [.int (f_lengths (y1).toNatClampNeg), .int (f_lengths (y2).toNatClampNeg)]) (rest := []) S0 (c_X6_greatestDivisor l (f_lengths (y1).toNatClampNeg) (f_lengths (y2).toNatClampNeg) v31 hv31) (va_cwS 2 hts gX2_split_X6_greatestDivisor rfl rfl rfl kd_X6_greatestDivisor ⟨Nat.le_of_ble_eq_true rfl, Nat.le_of_ble_eq_true rfl⟩) rfl hl.1 rfl (Nat.le_of_ble_eq_true rfl) dX2_split_31 ⟨Nat.zero_le _, Nat.zero_le _⟩ ?_
          refine lv_istore_n (lv' := [(3, .int v31), (0, .ref q), (1, .int y1), (2, .int y2)]) hx hb dX2_split_34 rfl hl (by decide) rfl (fun ls hl => ?_)
          refine lv_aload_n hx hb dX2_split_35 rfl (lv_at hl 1 rfl) ?_
          refine va_get (D := G) (ci := 2) (v := .ref q_lengths) (C := RX2) (T := TX2) (N := 2) hx hb hts in_X2_split_X2 hown hK.1 hP 0 rfl rfl 0 (by decide) (hts (.fieldLink RX2 11 "FieldsByClasses$Cycles" "lengths" "[I") (by decide +kernel)) (fun _ h9 => h9) rfl dX2_split_36 ?_
          refine lv_iload_n hx hb dX2_split_39 rfl (lv_at hl 2 rfl) ?_
          obtain ⟨hi40, h⟩ := pf_need h
          refine va_iald hx hb hK.1 hP 1 0 rfl rfl (ain_of hi40) dX2_split_40 ?_
          refine lv_aload_n hx hb dX2_split_41 rfl (lv_at hl 1 rfl) ?_
          refine va_get (D := G) (ci := 2) (v := .ref q_lengths) (C := RX2) (T := TX2) (N := 2) hx hb hts in_X2_split_X2 hown hK.1 hP 0 rfl rfl 0 (by decide) (hts (.fieldLink RX2 11 "FieldsByClasses$Cycles" "lengths" "[I") (by decide +kernel)) (fun _ h9 => h9) rfl dX2_split_42 ?_
          refine lv_iload_n hx hb dX2_split_45 rfl (lv_at hl 3 rfl) ?_
          obtain ⟨hi46, h⟩ := pf_need h
          refine va_iald hx hb hK.1 hP 1 0 rfl rfl (ain_of hi46) dX2_split_46 ?_
          obtain ⟨v47, hv47, h⟩ := pf_bind h
          refine pf_call (As := [.int (f_lengths (y1).toNatClampNeg), .int (f_lengths (y2).toNatClampNeg)]) (rest := []) S0 (c_X6_leastMultiple l (f_lengths (y1).toNatClampNeg) (f_lengths (y2).toNatClampNeg) v47 hv47) (va_cwS 2 hts gX2_split_X6_leastMultiple rfl rfl rfl kd_X6_leastMultiple ⟨Nat.le_of_ble_eq_true rfl, Nat.le_of_ble_eq_true rfl⟩) rfl hl.1 rfl (Nat.le_of_ble_eq_true rfl) dX2_split_47 ⟨Nat.zero_le _, Nat.zero_le _⟩ ?_
          refine lv_istore (lv' := [(4, .int v47), (3, .int v31), (0, .ref q), (1, .int y1), (2, .int y2)]) hx hb dX2_split_50 hl (by decide) rfl (fun ls hl => ?_)
          refine lv_aload_n hx hb dX2_split_52 rfl (lv_at hl 2 rfl) ?_
          refine va_get (D := G) (ci := 2) (v := .ref q_lengths) (C := RX2) (T := TX2) (N := 2) hx hb hts in_X2_split_X2 hown hK.1 hP 0 rfl rfl 0 (by decide) (hts (.fieldLink RX2 11 "FieldsByClasses$Cycles" "lengths" "[I") (by decide +kernel)) (fun _ h9 => h9) rfl dX2_split_53 ?_
          refine lv_iload_n hx hb dX2_split_56 rfl (lv_at hl 3 rfl) ?_
          refine lv_iload_n hx hb dX2_split_57 rfl (lv_at hl 1 rfl) ?_
          obtain ⟨hi58, h⟩ := pf_need h
          refine va_iast hx hb hK.1 hP hD hS 1 0 rfl rfl (ain_of hi58) dX2_split_58 (fun H locs hP hD hS => ?_)
          have hP : va_P G vwCl [(q, .inr (2, [.ref q_lengths, .int f_size])), (q_lengths, .inl (cI, 4, .inl (upd f_lengths (y1).toNatClampNeg v31)))] H := hP
          have hD : va_D A [(q, .inr (2, [.ref q_lengths, .int f_size])), (q_lengths, .inl (cI, 4, .inl (upd f_lengths (y1).toNatClampNeg v31)))] := hD
          refine lv_aload_n hx hb dX2_split_59 rfl (lv_at hl 2 rfl) ?_
          refine va_get (D := G) (ci := 2) (v := .ref q_lengths) (C := RX2) (T := TX2) (N := 2) hx hb hts in_X2_split_X2 hown hK.1 hP 0 rfl rfl 0 (by decide) (hts (.fieldLink RX2 11 "FieldsByClasses$Cycles" "lengths" "[I") (by decide +kernel)) (fun _ h9 => h9) rfl dX2_split_60 ?_
          refine lv_iload_n hx hb dX2_split_63 rfl (lv_at hl 4 rfl) ?_
          refine lv_iload hx hb dX2_split_64 (lv_at hl 0 rfl) ?_
          obtain ⟨hi66, h⟩ := pf_need h
          refine va_iast hx hb hK.1 hP hD hS 1 0 rfl rfl (ain_of hi66) dX2_split_66 (fun H locs hP hD hS => ?_)
          have hP : va_P G vwCl [(q, .inr (2, [.ref q_lengths, .int f_size])), (q_lengths, .inl (cI, 4, .inl (upd (upd f_lengths (y1).toNatClampNeg v31) (y2).toNatClampNeg v47)))] H := hP
          have hD : va_D A [(q, .inr (2, [.ref q_lengths, .int f_size])), (q_lengths, .inl (cI, 4, .inl (upd (upd f_lengths (y1).toNatClampNeg v31) (y2).toNatClampNeg v47)))] := hD
          cases h
          exact hb_vret hx hb hr hlocks hP hD hS dX2_split_67
        · have h := pf_neg h c15
          cases h
          exact hb_vret hx hb hr hlocks hP hD hS dX2_split_18
-- X2_find
def e_X2_find_87 (f_lengths : (Nat → Int32)) (f_size : Int32) : Option ((Nat → Int32) × Int32) :=
  some (f_lengths, f_size)
def e_X2_find_81 (x2 : Int32) (f_lengths : (Nat → Int32)) (f_size : Int32) : Option ((Int32 × (Nat → Int32)) ⊕ ((Nat → Int32))) :=
  some (Sum.inl ((x2 + (1 : Int32)), f_lengths))
def s_X2_find_61 (x2 : Int32) (x3 : Int32) (f_lengths : (Nat → Int32)) (f_size : Int32) : Option ((Int32 × (Nat → Int32)) ⊕ ((Nat → Int32))) :=
  (if f_size ≤ x3 then some (Sum.inr f_lengths) else ((p_X2_split f_lengths x2 x3).bind fun v72 => some (Sum.inl ((x3 + (1 : Int32)), v72))))
def a_X2_find_61 (x2 : Int32) (f_size : Int32) (b : (Nat → Int32)) : Option ((Int32 × (Nat → Int32)) ⊕ ((Nat → Int32))) := (fun q : (Nat → Int32) => e_X2_find_81 x2 q f_size) b
def g_X2_find_61 (x2 : Int32) (x3 : Int32) (f_lengths : (Nat → Int32)) (f_size : Int32) : Option ((Int32 × (Nat → Int32)) ⊕ ((Nat → Int32))) := (lpF (fun q : (Int32 × (Nat → Int32)) => s_X2_find_61 x2 q.1 q.2 f_size) pfFU (x3, f_lengths)).bind (a_X2_find_61 x2 f_size)
def s_X2_find_49 (x2 : Int32) (f_lengths : (Nat → Int32)) (f_size : Int32) : Option ((Int32 × (Nat → Int32)) ⊕ ((Nat → Int32))) :=
  (if f_size ≤ x2 then some (Sum.inr f_lengths) else g_X2_find_61 x2 (x2 + (1 : Int32)) f_lengths f_size)
def a_X2_find_49 (f_size : Int32) (b : (Nat → Int32)) : Option ((Nat → Int32) × Int32) := (fun q : (Nat → Int32) => e_X2_find_87 q f_size) b
def g_X2_find_49 (x2 : Int32) (f_lengths : (Nat → Int32)) (f_size : Int32) : Option ((Nat → Int32) × Int32) := (lpF (fun q : (Int32 × (Nat → Int32)) => s_X2_find_49 q.1 q.2 f_size) pfFU (x2, f_lengths)).bind (a_X2_find_49 f_size)
def e_X2_find_47 (f_lengths : (Nat → Int32)) (f_size : Int32) : Option ((Nat → Int32) × Int32) :=
  g_X2_find_49 (0 : Int32) f_lengths f_size
def s_X2_find_7 (x1 : Int32) (x2 : Int32) (f_lengths : (Nat → Int32)) (f_size : Int32) : Option ((Int32 × (Nat → Int32) × Int32) ⊕ (((Nat → Int32) × Int32))) :=
  (if x1 < x2 then some (Sum.inr (f_lengths, f_size)) else ((p_X6_goesInto x2 x1).bind fun v14 => (if v14 = 0 then some (Sum.inl ((x2 + (1 : Int32)), f_lengths, f_size)) else ((p_X6_isPrime x2).bind fun v21 => (if v21 = 0 then some (Sum.inl ((x2 + (1 : Int32)), f_lengths, f_size)) else ((p_X6_without x1 x2).bind fun v32 => ((p_X6_quotient x1 v32).bind fun v35 => ((p_X2_addThoseBy f_lengths f_size x2 v35).bind fun v38 => some (Sum.inl ((x2 + (1 : Int32)), v38.1, v38.2))))))))))
def a_X2_find_7  (b : ((Nat → Int32) × Int32)) : Option ((Nat → Int32) × Int32) := (fun q : ((Nat → Int32) × Int32) => e_X2_find_47 q.1 q.2) b
def g_X2_find_7 (x1 : Int32) (x2 : Int32) (f_lengths : (Nat → Int32)) (f_size : Int32) : Option ((Nat → Int32) × Int32) := (lpF (fun q : (Int32 × (Nat → Int32) × Int32) => s_X2_find_7 x1 q.1 q.2.1 q.2.2) pfFU (x2, f_lengths, f_size)).bind (a_X2_find_7 )
def p_X2_find (f_lengths : (Nat → Int32)) (f_size : Int32) (y1 : Int32) : Option ((Nat → Int32) × Int32) :=
  g_X2_find_7 y1 (2 : Int32) f_lengths (0 : Int32)
theorem in_X2_find_X2 : ∀ w ∈ u_ws RX2 TX2 2, w ∈ wsX2_find := fun w h => List.mem_cons_of_mem _ (List.mem_append_right _ h)
theorem kv_X2_find : yX2_find.cls = RX2 ∧ yX2_find.cls ≠ "java/lang/invoke/MethodHandle" ∧ yX2_find.cls ≠ "java/lang/invoke/VarHandle" ∧ (parseMethodDescriptor yX2_find.desc).map (fun d => d.parameters.length) = some 1 := by decide +kernel
set_option maxHeartbeats 4000000 in
set_option maxRecDepth 100000 in
theorem c_X2_find (l : Launch) (G : va_G) (cI cJ cZ cS : ClassId) (q q_lengths : Nat) (sz : Nat) (f_lengths : (Nat → Int32)) (f_size : Int32) (y1 : Int32) (r : ((Nat → Int32) × Int32)) (h : p_X2_find f_lengths f_size y1 = some r) : Met l yX2_find wsX2_find { frames := 3, cells := 0, slots := 0, locals := 71 } (hb_pre G (hbT cI cJ cZ cS) [.ref q, .int y1] sz [(q, .inr (2, [.ref q_lengths, .int f_size])), (q_lengths, .inl (cI, 4, .inl f_lengths))]) (hb_Qv G [(q, .inr (2, [.ref q_lengths, .int r.2])), (q_lengths, .inl (cI, 4, .inl r.1))] (va_A [(q, .inr (2, [.ref q_lengths, .int f_size])), (q_lengths, .inl (cI, 4, .inl f_lengths))] sz)) 0 0 (va_A [(q, .inr (2, [.ref q_lengths, .int f_size])), (q_lengths, .inl (cI, 4, .inl f_lengths))] sz) := by
  refine hb_met (Qc := fun A => hb_Qv G [(q, .inr (2, [.ref q_lengths, .int r.2])), (q_lengths, .inl (cI, 4, .inl r.1))] A) (cc := cX2_find) (maxL := 4) (ret := none) (by decide) rfl (Nat.le_of_ble_eq_true rfl) ?_
  intro p e s m below meth c A hx hb hr hts hown hlocks hml hin hK hA hP hD hS ls hl
  have hown : s.vm.findClass RX2 = some m.cls := hown
  have S0 : CallFix p m c cX2_find 4 s ([.ref q, .int y1] : List Value).toArray wsX2_find RX2 := ⟨hx, hb, hml, hown, hts⟩
  have hl : lv_has ls 4 [(0, .ref q), (1, .int y1)] := hl
  have K87 : ∀ (f_lengths : (Nat → Int32)) (f_size : Int32), e_X2_find_87 f_lengths f_size = some r → ∀ (H : Heap) (locs : List Loc), va_P G vwCl [(q, .inr (2, [.ref q_lengths, .int f_size])), (q_lengths, .inl (cI, 4, .inl f_lengths))] H → va_D A [(q, .inr (2, [.ref q_lengths, .int f_size])), (q_lengths, .inl (cI, 4, .inl f_lengths))] → va_S A s.heap H locs → ∀ ls, lv_has ls 4 [] → W p l e (headSpec wsX2_find { frames := 3, cells := 0, slots := 0, locals := 71 }).room s m ([.ref q, .int y1] : List Value).toArray below meth c H locs 0 0 (MQ below (hb_Qv G [(q, .inr (2, [.ref q_lengths, .int r.2])), (q_lengths, .inl (cI, 4, .inl r.1))] A) ([.ref q, .int y1] : List Value).toArray s 0 0 A) (F0 m 87 ls []) := by
    intro f_lengths f_size h H locs hP hD hS ls hl
    unfold e_X2_find_87 at h
    cases h
    exact hb_vret hx hb hr hlocks hP hD hS dX2_find_87
  have L49 : ∀ (n : Nat) (x2 : Int32) (f_lengths : (Nat → Int32)) (f_size : Int32) (b : (Nat → Int32)), lpF (fun q : (Int32 × (Nat → Int32)) => s_X2_find_49 q.1 q.2 f_size) n (x2, f_lengths) = some b → a_X2_find_49 f_size b = some r → ∀ (H : Heap) (locs : List Loc), va_P G vwCl [(q, .inr (2, [.ref q_lengths, .int f_size])), (q_lengths, .inl (cI, 4, .inl f_lengths))] H → va_D A [(q, .inr (2, [.ref q_lengths, .int f_size])), (q_lengths, .inl (cI, 4, .inl f_lengths))] → va_S A s.heap H locs → ∀ ls, lv_has ls 4 [(0, .ref q), (2, .int x2)] → W p l e (headSpec wsX2_find { frames := 3, cells := 0, slots := 0, locals := 71 }).room s m ([.ref q, .int y1] : List Value).toArray below meth c H locs 0 0 (MQ below (hb_Qv G [(q, .inr (2, [.ref q_lengths, .int r.2])), (q_lengths, .inl (cI, 4, .inl r.1))] A) ([.ref q, .int y1] : List Value).toArray s 0 0 A) (F0 m 49 ls []) := by
    intro n
    induction n with
    | zero => intro x2 f_lengths f_size b h; exact lp_zero h
    | succ n ih =>
      intro x2 f_lengths f_size b h ha H locs hP hD hS ls hl
      obtain ⟨z49, h, hz⟩ := lp_open h
      have h : s_X2_find_49 x2 f_lengths f_size = some z49 := h
      have K81 : ∀ (x2 : Int32) (f_lengths : (Nat → Int32)), e_X2_find_81 x2 f_lengths f_size = some z49 → ∀ (H : Heap) (locs : List Loc), va_P G vwCl [(q, .inr (2, [.ref q_lengths, .int f_size])), (q_lengths, .inl (cI, 4, .inl f_lengths))] H → va_D A [(q, .inr (2, [.ref q_lengths, .int f_size])), (q_lengths, .inl (cI, 4, .inl f_lengths))] → va_S A s.heap H locs → ∀ ls, lv_has ls 4 [(0, .ref q), (2, .int x2)] → W p l e (headSpec wsX2_find { frames := 3, cells := 0, slots := 0, locals := 71 }).room s m ([.ref q, .int y1] : List Value).toArray below meth c H locs 0 0 (MQ below (hb_Qv G [(q, .inr (2, [.ref q_lengths, .int r.2])), (q_lengths, .inl (cI, 4, .inl r.1))] A) ([.ref q, .int y1] : List Value).toArray s 0 0 A) (F0 m 81 ls []) := by
        intro x2 f_lengths h H locs hP hD hS ls hl
        unfold e_X2_find_81 at h
        refine lv_iinc (v := (x2 + (1 : Int32))) (lv' := [(2, .int (x2 + (1 : Int32))), (0, .ref q)]) hx hb dX2_find_81 hl (k := 1) rfl rfl (by decide) rfl (fun ls hl => ?_)
        refine lv_goto (tgt := 49) hx hb dX2_find_84 (by decide) ?_
        exact ih (x2 + (1 : Int32)) f_lengths f_size b (lp_cont h hz) ha H locs hP hD hS ls (lv_sub hl [1, 0] rfl)
      have L61 : ∀ (n : Nat) (x2 : Int32) (x3 : Int32) (f_lengths : (Nat → Int32)) (b : (Nat → Int32)), lpF (fun q : (Int32 × (Nat → Int32)) => s_X2_find_61 x2 q.1 q.2 f_size) n (x3, f_lengths) = some b → a_X2_find_61 x2 f_size b = some z49 → ∀ (H : Heap) (locs : List Loc), va_P G vwCl [(q, .inr (2, [.ref q_lengths, .int f_size])), (q_lengths, .inl (cI, 4, .inl f_lengths))] H → va_D A [(q, .inr (2, [.ref q_lengths, .int f_size])), (q_lengths, .inl (cI, 4, .inl f_lengths))] → va_S A s.heap H locs → ∀ ls, lv_has ls 4 [(0, .ref q), (2, .int x2), (3, .int x3)] → W p l e (headSpec wsX2_find { frames := 3, cells := 0, slots := 0, locals := 71 }).room s m ([.ref q, .int y1] : List Value).toArray below meth c H locs 0 0 (MQ below (hb_Qv G [(q, .inr (2, [.ref q_lengths, .int r.2])), (q_lengths, .inl (cI, 4, .inl r.1))] A) ([.ref q, .int y1] : List Value).toArray s 0 0 A) (F0 m 61 ls []) := by
        intro n
        induction n with
        | zero => intro x2 x3 f_lengths b h; exact lp_zero h
        | succ n ih =>
          intro x2 x3 f_lengths b h ha H locs hP hD hS ls hl
          obtain ⟨z61, h, hz⟩ := lp_open h
          have h : s_X2_find_61 x2 x3 f_lengths f_size = some z61 := h
          unfold s_X2_find_61 at h
          refine lv_iload_n hx hb dX2_find_61 rfl (lv_at hl 2 rfl) ?_
          refine lv_aload_n hx hb dX2_find_62 rfl (lv_at hl 0 rfl) ?_
          refine va_get (D := G) (ci := 2) (v := .int f_size) (C := RX2) (T := TX2) (N := 2) hx hb hts in_X2_find_X2 hown hK.1 hP 0 rfl rfl 1 (by decide) (hts (.fieldLink RX2 15 "FieldsByClasses$Cycles" "size" "I") (by decide +kernel)) (fun _ h9 => h9) rfl dX2_find_63 ?_
          refine lv_icmp_ge (tgt := 81) hx hb dX2_find_66 (by decide) (fun c66 => ?_) (fun c66 => ?_)
          · have h := pf_pos h c66
            have ha := pf_aft ha (lp_exit h hz)
            exact K81 x2 f_lengths ha H locs hP hD hS ls (lv_sub hl [0, 1] rfl)
          · have h := pf_neg h c66
            refine lv_aload_n hx hb dX2_find_69 rfl (lv_at hl 0 rfl) ?_
            refine lv_iload_n hx hb dX2_find_70 rfl (lv_at hl 1 rfl) ?_
            refine lv_iload_n hx hb dX2_find_71 rfl (lv_at hl 2 rfl) ?_
            obtain ⟨v72, hv72, h⟩ := pf_bind h
            refine hb_callv (hb_runV (G := G) (T := hbT cI cJ cZ cS) (As := [.int x2, .int x3]) (rest := []) S0 (c_X2_split l G cI cJ cZ cS q q_lengths H.size f_lengths f_size x2 x3 v72 hv72) (cwV 2 hts gX2_find_X2_split rfl rfl rfl kv_X2_split ⟨Nat.le_of_ble_eq_true rfl, Nat.le_of_ble_eq_true rfl⟩) hK (hP.sub [0, 1] rfl) (hD.sub [0, 1] (by decide) rfl) rfl rfl rfl hl.1 rfl (Nat.le_of_ble_eq_true rfl) dX2_find_72 ⟨Nat.zero_le _, Nat.zero_le _⟩) hP hD hS hA [0, 1] [] [0, 1] rfl (wr := []) rfl (by decide) (by decide) (w2 := [(q, .inr (2, [.ref q_lengths, .int f_size])), (q_lengths, .inl (cI, 4, .inl v72))]) (by decide) rfl rfl (fun H locs hP hD hS => ?_)
            refine lv_iinc (v := (x3 + (1 : Int32))) (lv' := [(3, .int (x3 + (1 : Int32))), (0, .ref q), (2, .int x2)]) hx hb dX2_find_75 hl (k := 2) rfl rfl (by decide) rfl (fun ls hl => ?_)
            refine lv_goto (tgt := 61) hx hb dX2_find_78 (by decide) ?_
            exact ih x2 (x3 + (1 : Int32)) v72 b (lp_cont h hz) ha H locs hP hD hS ls (lv_sub hl [1, 2, 0] rfl)
      have G61 : ∀ (x2 : Int32) (x3 : Int32) (f_lengths : (Nat → Int32)), g_X2_find_61 x2 x3 f_lengths f_size = some z49 → ∀ (H : Heap) (locs : List Loc), va_P G vwCl [(q, .inr (2, [.ref q_lengths, .int f_size])), (q_lengths, .inl (cI, 4, .inl f_lengths))] H → va_D A [(q, .inr (2, [.ref q_lengths, .int f_size])), (q_lengths, .inl (cI, 4, .inl f_lengths))] → va_S A s.heap H locs → ∀ ls, lv_has ls 4 [(0, .ref q), (2, .int x2), (3, .int x3)] → W p l e (headSpec wsX2_find { frames := 3, cells := 0, slots := 0, locals := 71 }).room s m ([.ref q, .int y1] : List Value).toArray below meth c H locs 0 0 (MQ below (hb_Qv G [(q, .inr (2, [.ref q_lengths, .int r.2])), (q_lengths, .inl (cI, 4, .inl r.1))] A) ([.ref q, .int y1] : List Value).toArray s 0 0 A) (F0 m 61 ls []) := by
        intro x2 x3 f_lengths h
        unfold g_X2_find_61 at h
        obtain ⟨b, h, ha⟩ := pf_bind h
        exact L61 pfFU x2 x3 f_lengths b h ha
      unfold s_X2_find_49 at h
      refine lv_iload_n hx hb dX2_find_49 rfl (lv_at hl 1 rfl) ?_
      refine lv_aload_n hx hb dX2_find_50 rfl (lv_at hl 0 rfl) ?_
      refine va_get (D := G) (ci := 2) (v := .int f_size) (C := RX2) (T := TX2) (N := 2) hx hb hts in_X2_find_X2 hown hK.1 hP 0 rfl rfl 1 (by decide) (hts (.fieldLink RX2 15 "FieldsByClasses$Cycles" "size" "I") (by decide +kernel)) (fun _ h9 => h9) rfl dX2_find_51 ?_
      refine lv_icmp_ge (tgt := 87) hx hb dX2_find_54 (by decide) (fun c54 => ?_) (fun c54 => ?_)
      · have h := pf_pos h c54
        have ha := pf_aft ha (lp_exit h hz)
        exact K87 f_lengths f_size ha H locs hP hD hS ls (lv_sub hl [] rfl)
      · have h := pf_neg h c54
        refine lv_iload_n hx hb dX2_find_57 rfl (lv_at hl 1 rfl) ?_
        refine lv_iconst (v := 1) hx hb dX2_find_58 (by decide) ?_
        refine lv_iadd hx hb dX2_find_59 ?_
        refine lv_istore_n (lv' := [(3, .int (x2 + (1 : Int32))), (0, .ref q), (2, .int x2)]) hx hb dX2_find_60 rfl hl (by decide) rfl (fun ls hl => ?_)
        exact G61 x2 (x2 + (1 : Int32)) f_lengths h H locs hP hD hS ls (lv_sub hl [1, 2, 0] rfl)
  have G49 : ∀ (x2 : Int32) (f_lengths : (Nat → Int32)) (f_size : Int32), g_X2_find_49 x2 f_lengths f_size = some r → ∀ (H : Heap) (locs : List Loc), va_P G vwCl [(q, .inr (2, [.ref q_lengths, .int f_size])), (q_lengths, .inl (cI, 4, .inl f_lengths))] H → va_D A [(q, .inr (2, [.ref q_lengths, .int f_size])), (q_lengths, .inl (cI, 4, .inl f_lengths))] → va_S A s.heap H locs → ∀ ls, lv_has ls 4 [(0, .ref q), (2, .int x2)] → W p l e (headSpec wsX2_find { frames := 3, cells := 0, slots := 0, locals := 71 }).room s m ([.ref q, .int y1] : List Value).toArray below meth c H locs 0 0 (MQ below (hb_Qv G [(q, .inr (2, [.ref q_lengths, .int r.2])), (q_lengths, .inl (cI, 4, .inl r.1))] A) ([.ref q, .int y1] : List Value).toArray s 0 0 A) (F0 m 49 ls []) := by
    intro x2 f_lengths f_size h
    unfold g_X2_find_49 at h
    obtain ⟨b, h, ha⟩ := pf_bind h
    exact L49 pfFU x2 f_lengths f_size b h ha
  have K47 : ∀ (f_lengths : (Nat → Int32)) (f_size : Int32), e_X2_find_47 f_lengths f_size = some r → ∀ (H : Heap) (locs : List Loc), va_P G vwCl [(q, .inr (2, [.ref q_lengths, .int f_size])), (q_lengths, .inl (cI, 4, .inl f_lengths))] H → va_D A [(q, .inr (2, [.ref q_lengths, .int f_size])), (q_lengths, .inl (cI, 4, .inl f_lengths))] → va_S A s.heap H locs → ∀ ls, lv_has ls 4 [(0, .ref q)] → W p l e (headSpec wsX2_find { frames := 3, cells := 0, slots := 0, locals := 71 }).room s m ([.ref q, .int y1] : List Value).toArray below meth c H locs 0 0 (MQ below (hb_Qv G [(q, .inr (2, [.ref q_lengths, .int r.2])), (q_lengths, .inl (cI, 4, .inl r.1))] A) ([.ref q, .int y1] : List Value).toArray s 0 0 A) (F0 m 47 ls []) := by
    intro f_lengths f_size h H locs hP hD hS ls hl
    unfold e_X2_find_47 at h
    refine lv_iconst (v := 0) hx hb dX2_find_47 (by decide) ?_
    refine lv_istore_n (lv' := [(2, .int (0 : Int32)), (0, .ref q)]) hx hb dX2_find_48 rfl hl (by decide) rfl (fun ls hl => ?_)
    exact G49 (0 : Int32) f_lengths f_size h H locs hP hD hS ls (lv_sub hl [1, 0] rfl)
  have L7 : ∀ (n : Nat) (x1 : Int32) (x2 : Int32) (f_lengths : (Nat → Int32)) (f_size : Int32) (b : ((Nat → Int32) × Int32)), lpF (fun q : (Int32 × (Nat → Int32) × Int32) => s_X2_find_7 x1 q.1 q.2.1 q.2.2) n (x2, f_lengths, f_size) = some b → a_X2_find_7 b = some r → ∀ (H : Heap) (locs : List Loc), va_P G vwCl [(q, .inr (2, [.ref q_lengths, .int f_size])), (q_lengths, .inl (cI, 4, .inl f_lengths))] H → va_D A [(q, .inr (2, [.ref q_lengths, .int f_size])), (q_lengths, .inl (cI, 4, .inl f_lengths))] → va_S A s.heap H locs → ∀ ls, lv_has ls 4 [(0, .ref q), (1, .int x1), (2, .int x2)] → W p l e (headSpec wsX2_find { frames := 3, cells := 0, slots := 0, locals := 71 }).room s m ([.ref q, .int y1] : List Value).toArray below meth c H locs 0 0 (MQ below (hb_Qv G [(q, .inr (2, [.ref q_lengths, .int r.2])), (q_lengths, .inl (cI, 4, .inl r.1))] A) ([.ref q, .int y1] : List Value).toArray s 0 0 A) (F0 m 7 ls []) := by
    intro n
    induction n with
    | zero => intro x1 x2 f_lengths f_size b h; exact lp_zero h
    | succ n ih =>
      intro x1 x2 f_lengths f_size b h ha H locs hP hD hS ls hl
      obtain ⟨z7, h, hz⟩ := lp_open h
      have h : s_X2_find_7 x1 x2 f_lengths f_size = some z7 := h
      unfold s_X2_find_7 at h
      refine lv_iload_n hx hb dX2_find_7 rfl (lv_at hl 2 rfl) ?_
      refine lv_iload_n hx hb dX2_find_8 rfl (lv_at hl 1 rfl) ?_
      refine lv_icmp_gt (tgt := 47) hx hb dX2_find_9 (by decide) (fun c9 => ?_) (fun c9 => ?_)
      · have h := pf_pos h c9
        have ha := pf_aft ha (lp_exit h hz)
        exact K47 f_lengths f_size ha H locs hP hD hS ls (lv_sub hl [0] rfl)
      · have h := pf_neg h c9
        refine lv_iload_n hx hb dX2_find_12 rfl (lv_at hl 2 rfl) ?_
        refine lv_iload_n hx hb dX2_find_13 rfl (lv_at hl 1 rfl) ?_
        obtain ⟨v14, hv14, h⟩ := pf_bind h
        refine pf_call (As := [.int x2, .int x1]) (rest := []) S0 (c_X6_goesInto l x2 x1 v14 hv14) (va_cwS 2 hts gX2_find_X6_goesInto rfl rfl rfl kd_X6_goesInto ⟨Nat.le_of_ble_eq_true rfl, Nat.le_of_ble_eq_true rfl⟩) rfl hl.1 rfl (Nat.le_of_ble_eq_true rfl) dX2_find_14 ⟨Nat.zero_le _, Nat.zero_le _⟩ ?_
        refine lv_if_eq (tgt := 41) hx hb dX2_find_17 (by decide) (fun c17 => ?_) (fun c17 => ?_)
        · have h := pf_pos h c17
          refine lv_iinc (v := (x2 + (1 : Int32))) (lv' := [(2, .int (x2 + (1 : Int32))), (0, .ref q), (1, .int x1)]) hx hb dX2_find_41 hl (k := 2) rfl rfl (by decide) rfl (fun ls hl => ?_)
          refine lv_goto (tgt := 7) hx hb dX2_find_44 (by decide) ?_
          exact ih x1 (x2 + (1 : Int32)) f_lengths f_size b (lp_cont h hz) ha H locs hP hD hS ls (lv_sub hl [1, 2, 0] rfl)
        · have h := pf_neg h c17
          refine lv_iload_n hx hb dX2_find_20 rfl (lv_at hl 2 rfl) ?_
          obtain ⟨v21, hv21, h⟩ := pf_bind h
          refine pf_call (As := [.int x2]) (rest := []) S0 (c_X6_isPrime l x2 v21 hv21) (va_cwS 1 hts gX2_find_X6_isPrime rfl rfl rfl kd_X6_isPrime ⟨Nat.le_of_ble_eq_true rfl, Nat.le_of_ble_eq_true rfl⟩) rfl hl.1 rfl (Nat.le_of_ble_eq_true rfl) dX2_find_21 ⟨Nat.zero_le _, Nat.zero_le _⟩ ?_
          refine lv_if_eq (tgt := 41) hx hb dX2_find_24 (by decide) (fun c24 => ?_) (fun c24 => ?_)
          · have h := pf_pos h c24
            refine lv_iinc (v := (x2 + (1 : Int32))) (lv' := [(2, .int (x2 + (1 : Int32))), (0, .ref q), (1, .int x1)]) hx hb dX2_find_41 hl (k := 2) rfl rfl (by decide) rfl (fun ls hl => ?_)
            refine lv_goto (tgt := 7) hx hb dX2_find_44 (by decide) ?_
            exact ih x1 (x2 + (1 : Int32)) f_lengths f_size b (lp_cont h hz) ha H locs hP hD hS ls (lv_sub hl [1, 2, 0] rfl)
          · have h := pf_neg h c24
            refine lv_aload_n hx hb dX2_find_27 rfl (lv_at hl 0 rfl) ?_
            refine lv_iload_n hx hb dX2_find_28 rfl (lv_at hl 2 rfl) ?_
            refine lv_iload_n hx hb dX2_find_29 rfl (lv_at hl 1 rfl) ?_
            refine lv_iload_n hx hb dX2_find_30 rfl (lv_at hl 1 rfl) ?_
            refine lv_iload_n hx hb dX2_find_31 rfl (lv_at hl 2 rfl) ?_
            obtain ⟨v32, hv32, h⟩ := pf_bind h
            refine pf_call (As := [.int x1, .int x2]) (rest := [.int x1, .int x2, .ref q]) S0 (c_X6_without l x1 x2 v32 hv32) (va_cwS 2 hts gX2_find_X6_without rfl rfl rfl kd_X6_without ⟨Nat.le_of_ble_eq_true rfl, Nat.le_of_ble_eq_true rfl⟩) rfl hl.1 rfl (Nat.le_of_ble_eq_true rfl) dX2_find_32 ⟨Nat.zero_le _, Nat.zero_le _⟩ ?_
            obtain ⟨v35, hv35, h⟩ := pf_bind h
            refine pf_call (As := [.int x1, .int v32]) (rest := [.int x2, .ref q]) S0 (c_X6_quotient l x1 v32 v35 hv35) (va_cwS 2 hts gX2_find_X6_quotient rfl rfl rfl kd_X6_quotient ⟨Nat.le_of_ble_eq_true rfl, Nat.le_of_ble_eq_true rfl⟩) rfl hl.1 rfl (Nat.le_of_ble_eq_true rfl) dX2_find_35 ⟨Nat.zero_le _, Nat.zero_le _⟩ ?_
            obtain ⟨v38, hv38, h⟩ := pf_bind h
            refine hb_callv (hb_runV (G := G) (T := hbT cI cJ cZ cS) (As := [.int x2, .int v35]) (rest := []) S0 (c_X2_addThoseBy l G cI cJ cZ cS q q_lengths H.size f_lengths f_size x2 v35 v38 hv38) (cwV 2 hts gX2_find_X2_addThoseBy rfl rfl rfl kv_X2_addThoseBy ⟨Nat.le_of_ble_eq_true rfl, Nat.le_of_ble_eq_true rfl⟩) hK (hP.sub [0, 1] rfl) (hD.sub [0, 1] (by decide) rfl) rfl rfl rfl hl.1 rfl (Nat.le_of_ble_eq_true rfl) dX2_find_38 ⟨Nat.zero_le _, Nat.zero_le _⟩) hP hD hS hA [0, 1] [] [0, 1] rfl (wr := []) rfl (by decide) (by decide) (w2 := [(q, .inr (2, [.ref q_lengths, .int v38.2])), (q_lengths, .inl (cI, 4, .inl v38.1))]) (by decide) rfl rfl (fun H locs hP hD hS => ?_)
            refine lv_iinc (v := (x2 + (1 : Int32))) (lv' := [(2, .int (x2 + (1 : Int32))), (0, .ref q), (1, .int x1)]) hx hb dX2_find_41 hl (k := 2) rfl rfl (by decide) rfl (fun ls hl => ?_)
            refine lv_goto (tgt := 7) hx hb dX2_find_44 (by decide) ?_
            exact ih x1 (x2 + (1 : Int32)) v38.1 v38.2 b (lp_cont h hz) ha H locs hP hD hS ls (lv_sub hl [1, 2, 0] rfl)
  have G7 : ∀ (x1 : Int32) (x2 : Int32) (f_lengths : (Nat → Int32)) (f_size : Int32), g_X2_find_7 x1 x2 f_lengths f_size = some r → ∀ (H : Heap) (locs : List Loc), va_P G vwCl [(q, .inr (2, [.ref q_lengths, .int f_size])), (q_lengths, .inl (cI, 4, .inl f_lengths))] H → va_D A [(q, .inr (2, [.ref q_lengths, .int f_size])), (q_lengths, .inl (cI, 4, .inl f_lengths))] → va_S A s.heap H locs → ∀ ls, lv_has ls 4 [(0, .ref q), (1, .int x1), (2, .int x2)] → W p l e (headSpec wsX2_find { frames := 3, cells := 0, slots := 0, locals := 71 }).room s m ([.ref q, .int y1] : List Value).toArray below meth c H locs 0 0 (MQ below (hb_Qv G [(q, .inr (2, [.ref q_lengths, .int r.2])), (q_lengths, .inl (cI, 4, .inl r.1))] A) ([.ref q, .int y1] : List Value).toArray s 0 0 A) (F0 m 7 ls []) := by
    intro x1 x2 f_lengths f_size h
    unfold g_X2_find_7 at h
    obtain ⟨b, h, ha⟩ := pf_bind h
    exact L7 pfFU x1 x2 f_lengths f_size b h ha
  suffices hh : ∀ (H : Heap) (locs : List Loc), va_P G vwCl [(q, .inr (2, [.ref q_lengths, .int f_size])), (q_lengths, .inl (cI, 4, .inl f_lengths))] H → va_D A [(q, .inr (2, [.ref q_lengths, .int f_size])), (q_lengths, .inl (cI, 4, .inl f_lengths))] → va_S A s.heap H locs → W p l e (headSpec wsX2_find { frames := 3, cells := 0, slots := 0, locals := 71 }).room s m ([.ref q, .int y1] : List Value).toArray below meth c H locs 0 0 (MQ below (hb_Qv G [(q, .inr (2, [.ref q_lengths, .int r.2])), (q_lengths, .inl (cI, 4, .inl r.1))] A) ([.ref q, .int y1] : List Value).toArray s 0 0 A) (F0 m 0 ls []) from hh s.heap [] hP hD hS
  intro H locs hP hD hS
  unfold p_X2_find at h
  refine lv_aload_n hx hb dX2_find_0 rfl (lv_at hl 0 rfl) ?_
  refine lv_iconst (v := 0) hx hb dX2_find_1 (by decide) ?_
  refine va_put (D := G) (ci := 2) (v := .int (0 : Int32)) (ty := .int) (C := RX2) (T := TX2) (N := 2) hx hb hts in_X2_find_X2 tyX2 tyX2_ok nmX2 hown hK.1 hP hD hS 0 rfl rfl 1 (by decide) (hts (.fieldLink RX2 15 "FieldsByClasses$Cycles" "size" "I") (by decide +kernel)) (fun _ h9 => h9) rfl (tyX2_ok 1 (by decide)) rfl rfl (Nat.le_of_ble_eq_true rfl) dX2_find_2 (fun H locs hP hD hS => ?_)
  have hP : va_P G vwCl [(q, .inr (2, [.ref q_lengths, .int (0 : Int32)])), (q_lengths, .inl (cI, 4, .inl f_lengths))] H := hP
  have hD : va_D A [(q, .inr (2, [.ref q_lengths, .int (0 : Int32)])), (q_lengths, .inl (cI, 4, .inl f_lengths))] := hD
  refine lv_iconst (v := 2) hx hb dX2_find_5 (by decide) ?_
  refine lv_istore_n (lv' := [(2, .int (2 : Int32)), (0, .ref q), (1, .int y1)]) hx hb dX2_find_6 rfl hl (by decide) rfl (fun ls hl => ?_)
  exact G7 y1 (2 : Int32) f_lengths (0 : Int32) h H locs hP hD hS ls (lv_sub hl [1, 2, 0] rfl)
-- X2_above1
def e_X2_above1_48  : Option Int32 :=
  some (-1 : Int32)
def e_X2_above1_32 (x3 : Int32) (f_lengths : (Nat → Int32)) : Option Int32 :=
  (if ainB x3 4 = true then some (f_lengths (x3).toNatClampNeg) else none)
def s_X2_above1_4 (x1 : Int32) (x2 : Int32) (x3 : Int32) (f_lengths : (Nat → Int32)) (f_size : Int32) : Option ((Int32 × Int32) ⊕ (Int32 ⊕ Unit)) :=
  (if f_size ≤ x3 then some (Sum.inr (Sum.inr ())) else (if (4 : Int32) ≤ x3 then some (Sum.inr (Sum.inr ())) else (if ainB x3 4 = true then (if (f_lengths (x3).toNatClampNeg) ≤ (1 : Int32) then some (Sum.inl (x2, (x3 + (1 : Int32)))) else (if x2 = x1 then some (Sum.inr (Sum.inl x3)) else some (Sum.inl ((x2 + (1 : Int32)), (x3 + (1 : Int32)))))) else none)))
def a_X2_above1_4 (f_lengths : (Nat → Int32)) (b : Int32 ⊕ Unit) : Option Int32 := Sum.elim (fun q : Int32 => e_X2_above1_32 q f_lengths) (fun q : Unit => e_X2_above1_48 ) b
def g_X2_above1_4 (x1 : Int32) (x2 : Int32) (x3 : Int32) (f_lengths : (Nat → Int32)) (f_size : Int32) : Option Int32 := (lpF (fun q : (Int32 × Int32) => s_X2_above1_4 x1 q.1 q.2 f_lengths f_size) pfFU (x2, x3)).bind (a_X2_above1_4 f_lengths)
def p_X2_above1 (f_lengths : (Nat → Int32)) (f_size : Int32) (y1 : Int32) : Option Int32 :=
  g_X2_above1_4 y1 (0 : Int32) (0 : Int32) f_lengths f_size
theorem in_X2_above1_X2 : ∀ w ∈ u_ws RX2 TX2 2, w ∈ wsX2_above1 := fun w h => List.mem_cons_of_mem _ (List.mem_append_right _ h)
theorem kv_X2_above1 : yX2_above1.cls = RX2 ∧ yX2_above1.cls ≠ "java/lang/invoke/MethodHandle" ∧ yX2_above1.cls ≠ "java/lang/invoke/VarHandle" ∧ (parseMethodDescriptor yX2_above1.desc).map (fun d => d.parameters.length) = some 1 := by decide +kernel
set_option maxHeartbeats 4000000 in
set_option maxRecDepth 100000 in
theorem c_X2_above1 (l : Launch) (G : va_G) (cI cJ cZ cS : ClassId) (q q_lengths : Nat) (sz : Nat) (f_lengths : (Nat → Int32)) (f_size : Int32) (y1 : Int32) (r : Int32) (h : p_X2_above1 f_lengths f_size y1 = some r) : Met l yX2_above1 wsX2_above1 { frames := 0, cells := 0, slots := 0, locals := 0 } (hb_pre G (hbT cI cJ cZ cS) [.ref q, .int y1] sz [(q, .inr (2, [.ref q_lengths, .int f_size])), (q_lengths, .inl (cI, 4, .inl f_lengths))]) (hb_Qi G r [(q, .inr (2, [.ref q_lengths, .int f_size])), (q_lengths, .inl (cI, 4, .inl f_lengths))] (va_A [(q, .inr (2, [.ref q_lengths, .int f_size])), (q_lengths, .inl (cI, 4, .inl f_lengths))] sz)) 0 0 (va_A [(q, .inr (2, [.ref q_lengths, .int f_size])), (q_lengths, .inl (cI, 4, .inl f_lengths))] sz) := by
  refine hb_met (Qc := fun A => hb_Qi G r [(q, .inr (2, [.ref q_lengths, .int f_size])), (q_lengths, .inl (cI, 4, .inl f_lengths))] A) (cc := cX2_above1) (maxL := 4) (ret := some .int) (by decide) rfl (Nat.le_of_ble_eq_true rfl) ?_
  intro p e s m below meth c A hx hb hr hts hown hlocks hml hin hK hA hP hD hS ls hl
  have hown : s.vm.findClass RX2 = some m.cls := hown
  have S0 : CallFix p m c cX2_above1 4 s ([.ref q, .int y1] : List Value).toArray wsX2_above1 RX2 := ⟨hx, hb, hml, hown, hts⟩
  have hl : lv_has ls 4 [(0, .ref q), (1, .int y1)] := hl
  have K48 : ∀ (_ : Unit), e_X2_above1_48  = some r → ∀ (H : Heap) (locs : List Loc), va_P G vwCl [(q, .inr (2, [.ref q_lengths, .int f_size])), (q_lengths, .inl (cI, 4, .inl f_lengths))] H → va_D A [(q, .inr (2, [.ref q_lengths, .int f_size])), (q_lengths, .inl (cI, 4, .inl f_lengths))] → va_S A s.heap H locs → ∀ ls, lv_has ls 4 [] → W p l e (headSpec wsX2_above1 { frames := 0, cells := 0, slots := 0, locals := 0 }).room s m ([.ref q, .int y1] : List Value).toArray below meth c H locs 0 0 (MQ below (hb_Qi G r [(q, .inr (2, [.ref q_lengths, .int f_size])), (q_lengths, .inl (cI, 4, .inl f_lengths))] A) ([.ref q, .int y1] : List Value).toArray s 0 0 A) (F0 m 48 ls []) := by
    intro _ h H locs hP hD hS ls hl
    unfold e_X2_above1_48 at h
    refine lv_iconst (v := -1) hx hb dX2_above1_48 (by decide) ?_
    cases h
    exact hb_iret hx hb hr hlocks hP hD hS dX2_above1_49
  have K32 : ∀ (x3 : Int32), e_X2_above1_32 x3 f_lengths = some r → ∀ (H : Heap) (locs : List Loc), va_P G vwCl [(q, .inr (2, [.ref q_lengths, .int f_size])), (q_lengths, .inl (cI, 4, .inl f_lengths))] H → va_D A [(q, .inr (2, [.ref q_lengths, .int f_size])), (q_lengths, .inl (cI, 4, .inl f_lengths))] → va_S A s.heap H locs → ∀ ls, lv_has ls 4 [(0, .ref q), (3, .int x3)] → W p l e (headSpec wsX2_above1 { frames := 0, cells := 0, slots := 0, locals := 0 }).room s m ([.ref q, .int y1] : List Value).toArray below meth c H locs 0 0 (MQ below (hb_Qi G r [(q, .inr (2, [.ref q_lengths, .int f_size])), (q_lengths, .inl (cI, 4, .inl f_lengths))] A) ([.ref q, .int y1] : List Value).toArray s 0 0 A) (F0 m 32 ls []) := by
    intro x3 h H locs hP hD hS ls hl
    unfold e_X2_above1_32 at h
    refine lv_aload_n hx hb dX2_above1_32 rfl (lv_at hl 0 rfl) ?_
    refine va_get (D := G) (ci := 2) (v := .ref q_lengths) (C := RX2) (T := TX2) (N := 2) hx hb hts in_X2_above1_X2 hown hK.1 hP 0 rfl rfl 0 (by decide) (hts (.fieldLink RX2 11 "FieldsByClasses$Cycles" "lengths" "[I") (by decide +kernel)) (fun _ h9 => h9) rfl dX2_above1_33 ?_
    refine lv_iload_n hx hb dX2_above1_36 rfl (lv_at hl 1 rfl) ?_
    obtain ⟨hi37, h⟩ := pf_need h
    refine va_iald hx hb hK.1 hP 1 0 rfl rfl (ain_of hi37) dX2_above1_37 ?_
    cases h
    exact hb_iret hx hb hr hlocks hP hD hS dX2_above1_38
  have L4 : ∀ (n : Nat) (x1 : Int32) (x2 : Int32) (x3 : Int32) (b : Int32 ⊕ Unit), lpF (fun q : (Int32 × Int32) => s_X2_above1_4 x1 q.1 q.2 f_lengths f_size) n (x2, x3) = some b → a_X2_above1_4 f_lengths b = some r → ∀ (H : Heap) (locs : List Loc), va_P G vwCl [(q, .inr (2, [.ref q_lengths, .int f_size])), (q_lengths, .inl (cI, 4, .inl f_lengths))] H → va_D A [(q, .inr (2, [.ref q_lengths, .int f_size])), (q_lengths, .inl (cI, 4, .inl f_lengths))] → va_S A s.heap H locs → ∀ ls, lv_has ls 4 [(0, .ref q), (1, .int x1), (2, .int x2), (3, .int x3)] → W p l e (headSpec wsX2_above1 { frames := 0, cells := 0, slots := 0, locals := 0 }).room s m ([.ref q, .int y1] : List Value).toArray below meth c H locs 0 0 (MQ below (hb_Qi G r [(q, .inr (2, [.ref q_lengths, .int f_size])), (q_lengths, .inl (cI, 4, .inl f_lengths))] A) ([.ref q, .int y1] : List Value).toArray s 0 0 A) (F0 m 4 ls []) := by
    intro n
    induction n with
    | zero => intro x1 x2 x3 b h; exact lp_zero h
    | succ n ih =>
      intro x1 x2 x3 b h ha H locs hP hD hS ls hl
      obtain ⟨z4, h, hz⟩ := lp_open h
      have h : s_X2_above1_4 x1 x2 x3 f_lengths f_size = some z4 := h
      unfold s_X2_above1_4 at h
      refine lv_iload_n hx hb dX2_above1_4 rfl (lv_at hl 3 rfl) ?_
      refine lv_aload_n hx hb dX2_above1_5 rfl (lv_at hl 0 rfl) ?_
      refine va_get (D := G) (ci := 2) (v := .int f_size) (C := RX2) (T := TX2) (N := 2) hx hb hts in_X2_above1_X2 hown hK.1 hP 0 rfl rfl 1 (by decide) (hts (.fieldLink RX2 15 "FieldsByClasses$Cycles" "size" "I") (by decide +kernel)) (fun _ h9 => h9) rfl dX2_above1_6 ?_
      refine lv_icmp_ge (tgt := 48) hx hb dX2_above1_9 (by decide) (fun c9 => ?_) (fun c9 => ?_)
      · have h := pf_pos h c9
        have ha := pf_aft ha (lp_exit h hz)
        exact K48 () ha H locs hP hD hS ls (lv_sub hl [] rfl)
      · have h := pf_neg h c9
        refine lv_iload_n hx hb dX2_above1_12 rfl (lv_at hl 3 rfl) ?_
        refine lv_iconst (v := 4) hx hb dX2_above1_13 (by decide) ?_
        refine lv_icmp_ge (tgt := 48) hx hb dX2_above1_14 (by decide) (fun c14 => ?_) (fun c14 => ?_)
        · have h := pf_pos h c14
          have ha := pf_aft ha (lp_exit h hz)
          exact K48 () ha H locs hP hD hS ls (lv_sub hl [] rfl)
        · have h := pf_neg h c14
          refine lv_aload_n hx hb dX2_above1_17 rfl (lv_at hl 0 rfl) ?_
          refine va_get (D := G) (ci := 2) (v := .ref q_lengths) (C := RX2) (T := TX2) (N := 2) hx hb hts in_X2_above1_X2 hown hK.1 hP 0 rfl rfl 0 (by decide) (hts (.fieldLink RX2 11 "FieldsByClasses$Cycles" "lengths" "[I") (by decide +kernel)) (fun _ h9 => h9) rfl dX2_above1_18 ?_
          refine lv_iload_n hx hb dX2_above1_21 rfl (lv_at hl 3 rfl) ?_
          obtain ⟨hi22, h⟩ := pf_need h
          refine va_iald hx hb hK.1 hP 1 0 rfl rfl (ain_of hi22) dX2_above1_22 ?_
          refine lv_iconst (v := 1) hx hb dX2_above1_23 (by decide) ?_
          refine lv_icmp_le (tgt := 42) hx hb dX2_above1_24 (by decide) (fun c24 => ?_) (fun c24 => ?_)
          · have h := pf_pos h c24
            refine lv_iinc (v := (x3 + (1 : Int32))) (lv' := [(3, .int (x3 + (1 : Int32))), (0, .ref q), (1, .int x1), (2, .int x2)]) hx hb dX2_above1_42 hl (k := 3) rfl rfl (by decide) rfl (fun ls hl => ?_)
            refine lv_goto (tgt := 4) hx hb dX2_above1_45 (by decide) ?_
            exact ih x1 x2 (x3 + (1 : Int32)) b (lp_cont h hz) ha H locs hP hD hS ls (lv_sub hl [1, 2, 3, 0] rfl)
          · have h := pf_neg h c24
            refine lv_iload_n hx hb dX2_above1_27 rfl (lv_at hl 2 rfl) ?_
            refine lv_iload_n hx hb dX2_above1_28 rfl (lv_at hl 1 rfl) ?_
            refine lv_icmp_ne (tgt := 39) hx hb dX2_above1_29 (by decide) (fun c29 => ?_) (fun c29 => ?_)
            · have h := pf_neg h c29
              refine lv_iinc (v := (x2 + (1 : Int32))) (lv' := [(2, .int (x2 + (1 : Int32))), (0, .ref q), (1, .int x1), (3, .int x3)]) hx hb dX2_above1_39 hl (k := 2) rfl rfl (by decide) rfl (fun ls hl => ?_)
              refine lv_iinc (v := (x3 + (1 : Int32))) (lv' := [(3, .int (x3 + (1 : Int32))), (2, .int (x2 + (1 : Int32))), (0, .ref q), (1, .int x1)]) hx hb dX2_above1_42 hl (k := 3) rfl rfl (by decide) rfl (fun ls hl => ?_)
              refine lv_goto (tgt := 4) hx hb dX2_above1_45 (by decide) ?_
              exact ih x1 (x2 + (1 : Int32)) (x3 + (1 : Int32)) b (lp_cont h hz) ha H locs hP hD hS ls (lv_sub hl [2, 3, 1, 0] rfl)
            · have h := pf_pos h c29
              have ha := pf_aft ha (lp_exit h hz)
              exact K32 x3 ha H locs hP hD hS ls (lv_sub hl [0, 3] rfl)
  have G4 : ∀ (x1 : Int32) (x2 : Int32) (x3 : Int32), g_X2_above1_4 x1 x2 x3 f_lengths f_size = some r → ∀ (H : Heap) (locs : List Loc), va_P G vwCl [(q, .inr (2, [.ref q_lengths, .int f_size])), (q_lengths, .inl (cI, 4, .inl f_lengths))] H → va_D A [(q, .inr (2, [.ref q_lengths, .int f_size])), (q_lengths, .inl (cI, 4, .inl f_lengths))] → va_S A s.heap H locs → ∀ ls, lv_has ls 4 [(0, .ref q), (1, .int x1), (2, .int x2), (3, .int x3)] → W p l e (headSpec wsX2_above1 { frames := 0, cells := 0, slots := 0, locals := 0 }).room s m ([.ref q, .int y1] : List Value).toArray below meth c H locs 0 0 (MQ below (hb_Qi G r [(q, .inr (2, [.ref q_lengths, .int f_size])), (q_lengths, .inl (cI, 4, .inl f_lengths))] A) ([.ref q, .int y1] : List Value).toArray s 0 0 A) (F0 m 4 ls []) := by
    intro x1 x2 x3 h
    unfold g_X2_above1_4 at h
    obtain ⟨b, h, ha⟩ := pf_bind h
    exact L4 pfFU x1 x2 x3 b h ha
  suffices hh : ∀ (H : Heap) (locs : List Loc), va_P G vwCl [(q, .inr (2, [.ref q_lengths, .int f_size])), (q_lengths, .inl (cI, 4, .inl f_lengths))] H → va_D A [(q, .inr (2, [.ref q_lengths, .int f_size])), (q_lengths, .inl (cI, 4, .inl f_lengths))] → va_S A s.heap H locs → W p l e (headSpec wsX2_above1 { frames := 0, cells := 0, slots := 0, locals := 0 }).room s m ([.ref q, .int y1] : List Value).toArray below meth c H locs 0 0 (MQ below (hb_Qi G r [(q, .inr (2, [.ref q_lengths, .int f_size])), (q_lengths, .inl (cI, 4, .inl f_lengths))] A) ([.ref q, .int y1] : List Value).toArray s 0 0 A) (F0 m 0 ls []) from hh s.heap [] hP hD hS
  intro H locs hP hD hS
  unfold p_X2_above1 at h
  refine lv_iconst (v := 0) hx hb dX2_above1_0 (by decide) ?_
  refine lv_istore_n (lv' := [(2, .int (0 : Int32)), (0, .ref q), (1, .int y1)]) hx hb dX2_above1_1 rfl hl (by decide) rfl (fun ls hl => ?_)
  refine lv_iconst (v := 0) hx hb dX2_above1_2 (by decide) ?_
  refine lv_istore_n (lv' := [(3, .int (0 : Int32)), (2, .int (0 : Int32)), (0, .ref q), (1, .int y1)]) hx hb dX2_above1_3 rfl hl (by decide) rfl (fun ls hl => ?_)
  exact G4 y1 (0 : Int32) (0 : Int32) h H locs hP hD hS ls (lv_sub hl [2, 3, 1, 0] rfl)
