-- X1_placeOf
def e_X1_placeOf_63  : Option Int32 :=
  some (-1 : Int32)
def e_X1_placeOf_51 (x5 : Int32) : Option Int32 :=
  some x5
def s_X1_placeOf_6 (x1 : Int32) (x2 : Int32) (x3 : Int32) (x4 : Int32) (x5 : Int32) (f_bars : (Nat → Int32)) (f_degrees : (Nat → Int32)) (f_size : Int32) : Option ((Int32 × Int32) ⊕ (Int32 ⊕ Unit)) :=
  (if f_size ≤ x5 then some (Sum.inr (Sum.inr ())) else (if (256 : Int32) ≤ x5 then some (Sum.inr (Sum.inr ())) else (if ainB x5 256 = true then (if x2 < (f_bars (x5).toNatClampNeg) then some (Sum.inr (Sum.inr ())) else (if ainB x5 256 = true then (if (f_degrees (x5).toNatClampNeg) = x1 then (if x4 = x3 then some (Sum.inr (Sum.inl x5)) else some (Sum.inl ((x4 + (1 : Int32)), (x5 + (1 : Int32))))) else some (Sum.inl (x4, (x5 + (1 : Int32))))) else none)) else none)))
def a_X1_placeOf_6  (b : Int32 ⊕ Unit) : Option Int32 := Sum.elim (fun q : Int32 => e_X1_placeOf_51 q) (fun q : Unit => e_X1_placeOf_63 ) b
def g_X1_placeOf_6 (x1 : Int32) (x2 : Int32) (x3 : Int32) (x4 : Int32) (x5 : Int32) (f_bars : (Nat → Int32)) (f_degrees : (Nat → Int32)) (f_size : Int32) : Option Int32 := (lpF (fun q : (Int32 × Int32) => s_X1_placeOf_6 x1 x2 x3 q.1 q.2 f_bars f_degrees f_size) pfFU (x4, x5)).bind (a_X1_placeOf_6 )
def p_X1_placeOf (f_bars : (Nat → Int32)) (f_degrees : (Nat → Int32)) (f_size : Int32) (y1 : Int32) (y2 : Int32) (y3 : Int32) : Option Int32 :=
  g_X1_placeOf_6 y1 y2 y3 (0 : Int32) (0 : Int32) f_bars f_degrees f_size
theorem in_X1_placeOf_X1 : ∀ w ∈ u_ws RX1 TX1 6, w ∈ wsX1_placeOf := fun w h => List.mem_cons_of_mem _ (List.mem_append_right _ h)
theorem kv_X1_placeOf : yX1_placeOf.cls = RX1 ∧ yX1_placeOf.cls ≠ "java/lang/invoke/MethodHandle" ∧ yX1_placeOf.cls ≠ "java/lang/invoke/VarHandle" ∧ (parseMethodDescriptor yX1_placeOf.desc).map (fun d => d.parameters.length) = some 3 := by decide +kernel
set_option maxHeartbeats 4000000 in
set_option maxRecDepth 100000 in
theorem c_X1_placeOf (l : Launch) (G : va_G) (cI cJ cZ cS : ClassId) (q q_above q_above_found q_bars q_groups q_degrees : Nat) (sz : Nat) (f_above_found : (Nat → Int64)) (f_above_size : Int32) (f_bars : (Nat → Int32)) (f_groups : (Nat → Int64)) (f_degrees : (Nat → Int32)) (f_size : Int32) (f_filledTo : Int32) (y1 : Int32) (y2 : Int32) (y3 : Int32) (r : Int32) (h : p_X1_placeOf f_bars f_degrees f_size y1 y2 y3 = some r) : Met l yX1_placeOf wsX1_placeOf { frames := 0, cells := 0, slots := 0, locals := 0 } (hb_pre G (hbT cI cJ cZ cS) [.ref q, .int y1, .int y2, .int y3] sz [(q, .inr (1, [.ref q_above, .ref q_bars, .ref q_groups, .ref q_degrees, .int f_size, .int f_filledTo])), (q_above, .inr (0, [.ref q_above_found, .int f_above_size])), (q_above_found, .inl (cJ, 64, .inr (.inl f_above_found))), (q_bars, .inl (cI, 256, .inl f_bars)), (q_groups, .inl (cJ, 256, .inr (.inl f_groups))), (q_degrees, .inl (cI, 256, .inl f_degrees))]) (hb_Qi G r [(q, .inr (1, [.ref q_above, .ref q_bars, .ref q_groups, .ref q_degrees, .int f_size, .int f_filledTo])), (q_above, .inr (0, [.ref q_above_found, .int f_above_size])), (q_above_found, .inl (cJ, 64, .inr (.inl f_above_found))), (q_bars, .inl (cI, 256, .inl f_bars)), (q_groups, .inl (cJ, 256, .inr (.inl f_groups))), (q_degrees, .inl (cI, 256, .inl f_degrees))] (va_A [(q, .inr (1, [.ref q_above, .ref q_bars, .ref q_groups, .ref q_degrees, .int f_size, .int f_filledTo])), (q_above, .inr (0, [.ref q_above_found, .int f_above_size])), (q_above_found, .inl (cJ, 64, .inr (.inl f_above_found))), (q_bars, .inl (cI, 256, .inl f_bars)), (q_groups, .inl (cJ, 256, .inr (.inl f_groups))), (q_degrees, .inl (cI, 256, .inl f_degrees))] sz)) 0 0 (va_A [(q, .inr (1, [.ref q_above, .ref q_bars, .ref q_groups, .ref q_degrees, .int f_size, .int f_filledTo])), (q_above, .inr (0, [.ref q_above_found, .int f_above_size])), (q_above_found, .inl (cJ, 64, .inr (.inl f_above_found))), (q_bars, .inl (cI, 256, .inl f_bars)), (q_groups, .inl (cJ, 256, .inr (.inl f_groups))), (q_degrees, .inl (cI, 256, .inl f_degrees))] sz) := by
  refine hb_met (Qc := fun A => hb_Qi G r [(q, .inr (1, [.ref q_above, .ref q_bars, .ref q_groups, .ref q_degrees, .int f_size, .int f_filledTo])), (q_above, .inr (0, [.ref q_above_found, .int f_above_size])), (q_above_found, .inl (cJ, 64, .inr (.inl f_above_found))), (q_bars, .inl (cI, 256, .inl f_bars)), (q_groups, .inl (cJ, 256, .inr (.inl f_groups))), (q_degrees, .inl (cI, 256, .inl f_degrees))] A) (cc := cX1_placeOf) (maxL := 6) (ret := some .int) (by decide) rfl (Nat.le_of_ble_eq_true rfl) ?_
  intro p e s m below meth c A hx hb hr hts hown hlocks hml hin hK hA hP hD hS ls hl
  have hown : s.vm.findClass RX1 = some m.cls := hown
  have S0 : CallFix p m c cX1_placeOf 6 s ([.ref q, .int y1, .int y2, .int y3] : List Value).toArray wsX1_placeOf RX1 := ⟨hx, hb, hml, hown, hts⟩
  have hl : lv_has ls 6 [(0, .ref q), (1, .int y1), (2, .int y2), (3, .int y3)] := hl
  have K63 : ∀ (_ : Unit), e_X1_placeOf_63  = some r → ∀ (H : Heap) (locs : List Loc), va_P G vwCl [(q, .inr (1, [.ref q_above, .ref q_bars, .ref q_groups, .ref q_degrees, .int f_size, .int f_filledTo])), (q_above, .inr (0, [.ref q_above_found, .int f_above_size])), (q_above_found, .inl (cJ, 64, .inr (.inl f_above_found))), (q_bars, .inl (cI, 256, .inl f_bars)), (q_groups, .inl (cJ, 256, .inr (.inl f_groups))), (q_degrees, .inl (cI, 256, .inl f_degrees))] H → va_D A [(q, .inr (1, [.ref q_above, .ref q_bars, .ref q_groups, .ref q_degrees, .int f_size, .int f_filledTo])), (q_above, .inr (0, [.ref q_above_found, .int f_above_size])), (q_above_found, .inl (cJ, 64, .inr (.inl f_above_found))), (q_bars, .inl (cI, 256, .inl f_bars)), (q_groups, .inl (cJ, 256, .inr (.inl f_groups))), (q_degrees, .inl (cI, 256, .inl f_degrees))] → va_S A s.heap H locs → ∀ ls, lv_has ls 6 [] → W p l e (headSpec wsX1_placeOf { frames := 0, cells := 0, slots := 0, locals := 0 }).room s m ([.ref q, .int y1, .int y2, .int y3] : List Value).toArray below meth c H locs 0 0 (MQ below (hb_Qi G r [(q, .inr (1, [.ref q_above, .ref q_bars, .ref q_groups, .ref q_degrees, .int f_size, .int f_filledTo])), (q_above, .inr (0, [.ref q_above_found, .int f_above_size])), (q_above_found, .inl (cJ, 64, .inr (.inl f_above_found))), (q_bars, .inl (cI, 256, .inl f_bars)), (q_groups, .inl (cJ, 256, .inr (.inl f_groups))), (q_degrees, .inl (cI, 256, .inl f_degrees))] A) ([.ref q, .int y1, .int y2, .int y3] : List Value).toArray s 0 0 A) (F0 m 63 ls []) := by
    intro _ h H locs hP hD hS ls hl
    unfold e_X1_placeOf_63 at h
    refine lv_iconst (v := -1) hx hb dX1_placeOf_63 (by decide) ?_
    cases h
    exact hb_iret hx hb hr hlocks hP hD hS dX1_placeOf_64
  have K51 : ∀ (x5 : Int32), e_X1_placeOf_51 x5 = some r → ∀ (H : Heap) (locs : List Loc), va_P G vwCl [(q, .inr (1, [.ref q_above, .ref q_bars, .ref q_groups, .ref q_degrees, .int f_size, .int f_filledTo])), (q_above, .inr (0, [.ref q_above_found, .int f_above_size])), (q_above_found, .inl (cJ, 64, .inr (.inl f_above_found))), (q_bars, .inl (cI, 256, .inl f_bars)), (q_groups, .inl (cJ, 256, .inr (.inl f_groups))), (q_degrees, .inl (cI, 256, .inl f_degrees))] H → va_D A [(q, .inr (1, [.ref q_above, .ref q_bars, .ref q_groups, .ref q_degrees, .int f_size, .int f_filledTo])), (q_above, .inr (0, [.ref q_above_found, .int f_above_size])), (q_above_found, .inl (cJ, 64, .inr (.inl f_above_found))), (q_bars, .inl (cI, 256, .inl f_bars)), (q_groups, .inl (cJ, 256, .inr (.inl f_groups))), (q_degrees, .inl (cI, 256, .inl f_degrees))] → va_S A s.heap H locs → ∀ ls, lv_has ls 6 [(5, .int x5)] → W p l e (headSpec wsX1_placeOf { frames := 0, cells := 0, slots := 0, locals := 0 }).room s m ([.ref q, .int y1, .int y2, .int y3] : List Value).toArray below meth c H locs 0 0 (MQ below (hb_Qi G r [(q, .inr (1, [.ref q_above, .ref q_bars, .ref q_groups, .ref q_degrees, .int f_size, .int f_filledTo])), (q_above, .inr (0, [.ref q_above_found, .int f_above_size])), (q_above_found, .inl (cJ, 64, .inr (.inl f_above_found))), (q_bars, .inl (cI, 256, .inl f_bars)), (q_groups, .inl (cJ, 256, .inr (.inl f_groups))), (q_degrees, .inl (cI, 256, .inl f_degrees))] A) ([.ref q, .int y1, .int y2, .int y3] : List Value).toArray s 0 0 A) (F0 m 51 ls []) := by
    intro x5 h H locs hP hD hS ls hl
    unfold e_X1_placeOf_51 at h
    refine lv_iload hx hb dX1_placeOf_51 (lv_at hl 0 rfl) ?_
    cases h
    exact hb_iret hx hb hr hlocks hP hD hS dX1_placeOf_53
  have L6 : ∀ (n : Nat) (x1 : Int32) (x2 : Int32) (x3 : Int32) (x4 : Int32) (x5 : Int32) (b : Int32 ⊕ Unit), lpF (fun q : (Int32 × Int32) => s_X1_placeOf_6 x1 x2 x3 q.1 q.2 f_bars f_degrees f_size) n (x4, x5) = some b → a_X1_placeOf_6 b = some r → ∀ (H : Heap) (locs : List Loc), va_P G vwCl [(q, .inr (1, [.ref q_above, .ref q_bars, .ref q_groups, .ref q_degrees, .int f_size, .int f_filledTo])), (q_above, .inr (0, [.ref q_above_found, .int f_above_size])), (q_above_found, .inl (cJ, 64, .inr (.inl f_above_found))), (q_bars, .inl (cI, 256, .inl f_bars)), (q_groups, .inl (cJ, 256, .inr (.inl f_groups))), (q_degrees, .inl (cI, 256, .inl f_degrees))] H → va_D A [(q, .inr (1, [.ref q_above, .ref q_bars, .ref q_groups, .ref q_degrees, .int f_size, .int f_filledTo])), (q_above, .inr (0, [.ref q_above_found, .int f_above_size])), (q_above_found, .inl (cJ, 64, .inr (.inl f_above_found))), (q_bars, .inl (cI, 256, .inl f_bars)), (q_groups, .inl (cJ, 256, .inr (.inl f_groups))), (q_degrees, .inl (cI, 256, .inl f_degrees))] → va_S A s.heap H locs → ∀ ls, lv_has ls 6 [(0, .ref q), (1, .int x1), (2, .int x2), (3, .int x3), (4, .int x4), (5, .int x5)] → W p l e (headSpec wsX1_placeOf { frames := 0, cells := 0, slots := 0, locals := 0 }).room s m ([.ref q, .int y1, .int y2, .int y3] : List Value).toArray below meth c H locs 0 0 (MQ below (hb_Qi G r [(q, .inr (1, [.ref q_above, .ref q_bars, .ref q_groups, .ref q_degrees, .int f_size, .int f_filledTo])), (q_above, .inr (0, [.ref q_above_found, .int f_above_size])), (q_above_found, .inl (cJ, 64, .inr (.inl f_above_found))), (q_bars, .inl (cI, 256, .inl f_bars)), (q_groups, .inl (cJ, 256, .inr (.inl f_groups))), (q_degrees, .inl (cI, 256, .inl f_degrees))] A) ([.ref q, .int y1, .int y2, .int y3] : List Value).toArray s 0 0 A) (F0 m 6 ls []) := by
    intro n
    induction n with
    | zero => intro x1 x2 x3 x4 x5 b h; exact lp_zero h
    | succ n ih =>
      intro x1 x2 x3 x4 x5 b h ha H locs hP hD hS ls hl
      obtain ⟨z6, h, hz⟩ := lp_open h
      have h : s_X1_placeOf_6 x1 x2 x3 x4 x5 f_bars f_degrees f_size = some z6 := h
      unfold s_X1_placeOf_6 at h
      refine lv_iload hx hb dX1_placeOf_6 (lv_at hl 5 rfl) ?_
      refine lv_aload_n hx hb dX1_placeOf_8 rfl (lv_at hl 0 rfl) ?_
      refine va_get (D := G) (ci := 1) (v := .int f_size) (C := RX1) (T := TX1) (N := 6) hx hb hts in_X1_placeOf_X1 hown hK.1 hP 0 rfl rfl 4 (by decide) (hts (.fieldLink RX1 58 "FieldsByClasses$Book" "size" "I") (by decide +kernel)) (fun _ h9 => h9) rfl dX1_placeOf_9 ?_
      refine lv_icmp_ge (tgt := 63) hx hb dX1_placeOf_12 (by decide) (fun c12 => ?_) (fun c12 => ?_)
      · have h := pf_pos h c12
        have ha := pf_aft ha (lp_exit h hz)
        exact K63 () ha H locs hP hD hS ls (lv_sub hl [] rfl)
      · have h := pf_neg h c12
        refine lv_iload hx hb dX1_placeOf_15 (lv_at hl 5 rfl) ?_
        refine lv_sipush (v := 256) hx hb dX1_placeOf_17 (by decide) ?_
        refine lv_icmp_ge (tgt := 63) hx hb dX1_placeOf_20 (by decide) (fun c20 => ?_) (fun c20 => ?_)
        · have h := pf_pos h c20
          have ha := pf_aft ha (lp_exit h hz)
          exact K63 () ha H locs hP hD hS ls (lv_sub hl [] rfl)
        · have h := pf_neg h c20
          refine lv_aload_n hx hb dX1_placeOf_23 rfl (lv_at hl 0 rfl) ?_
          refine va_get (D := G) (ci := 1) (v := .ref q_bars) (C := RX1) (T := TX1) (N := 6) hx hb hts in_X1_placeOf_X1 hown hK.1 hP 0 rfl rfl 1 (by decide) (hts (.fieldLink RX1 18 "FieldsByClasses$Book" "bars" "[I") (by decide +kernel)) (fun _ h9 => h9) rfl dX1_placeOf_24 ?_
          refine lv_iload hx hb dX1_placeOf_27 (lv_at hl 5 rfl) ?_
          obtain ⟨hi29, h⟩ := pf_need h
          refine va_iald hx hb hK.1 hP 3 0 rfl rfl (ain_of hi29) dX1_placeOf_29 ?_
          refine lv_iload_n hx hb dX1_placeOf_30 rfl (lv_at hl 2 rfl) ?_
          refine lv_icmp_gt (tgt := 63) hx hb dX1_placeOf_31 (by decide) (fun c31 => ?_) (fun c31 => ?_)
          · have h := pf_pos h c31
            have ha := pf_aft ha (lp_exit h hz)
            exact K63 () ha H locs hP hD hS ls (lv_sub hl [] rfl)
          · have h := pf_neg h c31
            refine lv_aload_n hx hb dX1_placeOf_34 rfl (lv_at hl 0 rfl) ?_
            refine va_get (D := G) (ci := 1) (v := .ref q_degrees) (C := RX1) (T := TX1) (N := 6) hx hb hts in_X1_placeOf_X1 hown hK.1 hP 0 rfl rfl 3 (by decide) (hts (.fieldLink RX1 26 "FieldsByClasses$Book" "degrees" "[I") (by decide +kernel)) (fun _ h9 => h9) rfl dX1_placeOf_35 ?_
            refine lv_iload hx hb dX1_placeOf_38 (lv_at hl 5 rfl) ?_
            obtain ⟨hi40, h⟩ := pf_need h
            refine va_iald hx hb hK.1 hP 5 0 rfl rfl (ain_of hi40) dX1_placeOf_40 ?_
            refine lv_iload_n hx hb dX1_placeOf_41 rfl (lv_at hl 1 rfl) ?_
            refine lv_icmp_ne (tgt := 57) hx hb dX1_placeOf_42 (by decide) (fun c42 => ?_) (fun c42 => ?_)
            · have h := pf_neg h c42
              refine lv_iinc (v := (x5 + (1 : Int32))) (lv' := [(5, .int (x5 + (1 : Int32))), (0, .ref q), (1, .int x1), (2, .int x2), (3, .int x3), (4, .int x4)]) hx hb dX1_placeOf_57 hl (k := 5) rfl rfl (by decide) rfl (fun ls hl => ?_)
              refine lv_goto (tgt := 6) hx hb dX1_placeOf_60 (by decide) ?_
              exact ih x1 x2 x3 x4 (x5 + (1 : Int32)) b (lp_cont h hz) ha H locs hP hD hS ls (lv_sub hl [1, 2, 3, 4, 5, 0] rfl)
            · have h := pf_pos h c42
              refine lv_iload hx hb dX1_placeOf_45 (lv_at hl 4 rfl) ?_
              refine lv_iload_n hx hb dX1_placeOf_47 rfl (lv_at hl 3 rfl) ?_
              refine lv_icmp_ne (tgt := 54) hx hb dX1_placeOf_48 (by decide) (fun c48 => ?_) (fun c48 => ?_)
              · have h := pf_neg h c48
                refine lv_iinc (v := (x4 + (1 : Int32))) (lv' := [(4, .int (x4 + (1 : Int32))), (0, .ref q), (1, .int x1), (2, .int x2), (3, .int x3), (5, .int x5)]) hx hb dX1_placeOf_54 hl (k := 4) rfl rfl (by decide) rfl (fun ls hl => ?_)
                refine lv_iinc (v := (x5 + (1 : Int32))) (lv' := [(5, .int (x5 + (1 : Int32))), (4, .int (x4 + (1 : Int32))), (0, .ref q), (1, .int x1), (2, .int x2), (3, .int x3)]) hx hb dX1_placeOf_57 hl (k := 5) rfl rfl (by decide) rfl (fun ls hl => ?_)
                refine lv_goto (tgt := 6) hx hb dX1_placeOf_60 (by decide) ?_
                exact ih x1 x2 x3 (x4 + (1 : Int32)) (x5 + (1 : Int32)) b (lp_cont h hz) ha H locs hP hD hS ls (lv_sub hl [2, 3, 4, 5, 1, 0] rfl)
              · have h := pf_pos h c48
                have ha := pf_aft ha (lp_exit h hz)
                exact K51 x5 ha H locs hP hD hS ls (lv_sub hl [5] rfl)
  have G6 : ∀ (x1 : Int32) (x2 : Int32) (x3 : Int32) (x4 : Int32) (x5 : Int32), g_X1_placeOf_6 x1 x2 x3 x4 x5 f_bars f_degrees f_size = some r → ∀ (H : Heap) (locs : List Loc), va_P G vwCl [(q, .inr (1, [.ref q_above, .ref q_bars, .ref q_groups, .ref q_degrees, .int f_size, .int f_filledTo])), (q_above, .inr (0, [.ref q_above_found, .int f_above_size])), (q_above_found, .inl (cJ, 64, .inr (.inl f_above_found))), (q_bars, .inl (cI, 256, .inl f_bars)), (q_groups, .inl (cJ, 256, .inr (.inl f_groups))), (q_degrees, .inl (cI, 256, .inl f_degrees))] H → va_D A [(q, .inr (1, [.ref q_above, .ref q_bars, .ref q_groups, .ref q_degrees, .int f_size, .int f_filledTo])), (q_above, .inr (0, [.ref q_above_found, .int f_above_size])), (q_above_found, .inl (cJ, 64, .inr (.inl f_above_found))), (q_bars, .inl (cI, 256, .inl f_bars)), (q_groups, .inl (cJ, 256, .inr (.inl f_groups))), (q_degrees, .inl (cI, 256, .inl f_degrees))] → va_S A s.heap H locs → ∀ ls, lv_has ls 6 [(0, .ref q), (1, .int x1), (2, .int x2), (3, .int x3), (4, .int x4), (5, .int x5)] → W p l e (headSpec wsX1_placeOf { frames := 0, cells := 0, slots := 0, locals := 0 }).room s m ([.ref q, .int y1, .int y2, .int y3] : List Value).toArray below meth c H locs 0 0 (MQ below (hb_Qi G r [(q, .inr (1, [.ref q_above, .ref q_bars, .ref q_groups, .ref q_degrees, .int f_size, .int f_filledTo])), (q_above, .inr (0, [.ref q_above_found, .int f_above_size])), (q_above_found, .inl (cJ, 64, .inr (.inl f_above_found))), (q_bars, .inl (cI, 256, .inl f_bars)), (q_groups, .inl (cJ, 256, .inr (.inl f_groups))), (q_degrees, .inl (cI, 256, .inl f_degrees))] A) ([.ref q, .int y1, .int y2, .int y3] : List Value).toArray s 0 0 A) (F0 m 6 ls []) := by
    intro x1 x2 x3 x4 x5 h
    unfold g_X1_placeOf_6 at h
    obtain ⟨b, h, ha⟩ := pf_bind h
    exact L6 pfFU x1 x2 x3 x4 x5 b h ha
  suffices hh : ∀ (H : Heap) (locs : List Loc), va_P G vwCl [(q, .inr (1, [.ref q_above, .ref q_bars, .ref q_groups, .ref q_degrees, .int f_size, .int f_filledTo])), (q_above, .inr (0, [.ref q_above_found, .int f_above_size])), (q_above_found, .inl (cJ, 64, .inr (.inl f_above_found))), (q_bars, .inl (cI, 256, .inl f_bars)), (q_groups, .inl (cJ, 256, .inr (.inl f_groups))), (q_degrees, .inl (cI, 256, .inl f_degrees))] H → va_D A [(q, .inr (1, [.ref q_above, .ref q_bars, .ref q_groups, .ref q_degrees, .int f_size, .int f_filledTo])), (q_above, .inr (0, [.ref q_above_found, .int f_above_size])), (q_above_found, .inl (cJ, 64, .inr (.inl f_above_found))), (q_bars, .inl (cI, 256, .inl f_bars)), (q_groups, .inl (cJ, 256, .inr (.inl f_groups))), (q_degrees, .inl (cI, 256, .inl f_degrees))] → va_S A s.heap H locs → W p l e (headSpec wsX1_placeOf { frames := 0, cells := 0, slots := 0, locals := 0 }).room s m ([.ref q, .int y1, .int y2, .int y3] : List Value).toArray below meth c H locs 0 0 (MQ below (hb_Qi G r [(q, .inr (1, [.ref q_above, .ref q_bars, .ref q_groups, .ref q_degrees, .int f_size, .int f_filledTo])), (q_above, .inr (0, [.ref q_above_found, .int f_above_size])), (q_above_found, .inl (cJ, 64, .inr (.inl f_above_found))), (q_bars, .inl (cI, 256, .inl f_bars)), (q_groups, .inl (cJ, 256, .inr (.inl f_groups))), (q_degrees, .inl (cI, 256, .inl f_degrees))] A) ([.ref q, .int y1, .int y2, .int y3] : List Value).toArray s 0 0 A) (F0 m 0 ls []) from hh s.heap [] hP hD hS
  intro H locs hP hD hS
  unfold p_X1_placeOf at h
  refine lv_iconst (v := 0) hx hb dX1_placeOf_0 (by decide) ?_
  refine lv_istore (lv' := [(4, .int (0 : Int32)), (0, .ref q), (1, .int y1), (2, .int y2), (3, .int y3)]) hx hb dX1_placeOf_1 hl (by decide) rfl (fun ls hl => ?_)
  refine lv_iconst (v := 0) hx hb dX1_placeOf_3 (by decide) ?_
  refine lv_istore (lv' := [(5, .int (0 : Int32)), (4, .int (0 : Int32)), (0, .ref q), (1, .int y1), (2, .int y2), (3, .int y3)]) hx hb dX1_placeOf_4 hl (by decide) rfl (fun ls hl => ?_)
  exact G6 y1 y2 y3 (0 : Int32) (0 : Int32) h H locs hP hD hS ls (lv_sub hl [2, 3, 4, 5, 1, 0] rfl)
