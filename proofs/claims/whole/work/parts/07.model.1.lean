-- X8_powers
def e_X8_powers_57 (x1 : Int32) (x3 : Int64) (f_bar : (Nat → Int32)) (f_bits : (Nat → Int64)) (f_made : (Nat → Int32)) : Option (Int32 × (Nat → Int32) × (Nat → Int64) × (Nat → Int32)) :=
  ((p_X8_keeps f_bar f_bits f_made x1 x3).bind fun v60 => some (v60.1, v60.2.1, v60.2.2.1, v60.2.2.2))
def s_X8_powers_24 (x1 : Int32) (x2 : Int32) (x3 : Int64) (x5 : Int32) (f_bar : (Nat → Int32)) (f_bits : (Nat → Int64)) (f_made : (Nat → Int32)) : Option ((Int64 × Int32) ⊕ (Int64)) :=
  (if x1 ≤ x5 then some (Sum.inr x3) else ((p_X8_isRest x1 x5).bind fun v33 => (if v33 = 0 then some (Sum.inl (x3, (x5 + (1 : Int32)))) else ((p_X8_power x1 x5 x2).bind fun v45 => some (Sum.inl ((x3 ||| (jshl (1 : Int64) v45)), (x5 + (1 : Int32))))))))
def a_X8_powers_24 (x1 : Int32) (f_bar : (Nat → Int32)) (f_bits : (Nat → Int64)) (f_made : (Nat → Int32)) (b : Int64) : Option (Int32 × (Nat → Int32) × (Nat → Int64) × (Nat → Int32)) := (fun q : Int64 => e_X8_powers_57 x1 q f_bar f_bits f_made) b
def g_X8_powers_24 (x1 : Int32) (x2 : Int32) (x3 : Int64) (x5 : Int32) (f_bar : (Nat → Int32)) (f_bits : (Nat → Int64)) (f_made : (Nat → Int32)) : Option (Int32 × (Nat → Int32) × (Nat → Int64) × (Nat → Int32)) := (lpF (fun q : (Int64 × Int32) => s_X8_powers_24 x1 x2 q.1 q.2 f_bar f_bits f_made) pfFU (x3, x5)).bind (a_X8_powers_24 x1 f_bar f_bits f_made)
def p_X8_powers (f_bar : (Nat → Int32)) (f_bits : (Nat → Int64)) (f_made : (Nat → Int32)) (y1 : Int32) (y2 : Int32) : Option (Int32 × (Nat → Int32) × (Nat → Int64) × (Nat → Int32)) :=
  ((p_X8_isM y1).bind fun v1 => (if v1 = 0 then some ((-1 : Int32), f_bar, f_bits, f_made) else ((p_X8_isIn y2 (1 : Int32) (60 : Int32)).bind fun v11 => (if v11 = 0 then some ((-1 : Int32), f_bar, f_bits, f_made) else g_X8_powers_24 y1 y2 (0 : Int64) (0 : Int32) f_bar f_bits f_made))))
theorem kv_X8_powers : yX8_powers.cls = RX8 ∧ yX8_powers.cls ≠ "java/lang/invoke/MethodHandle" ∧ yX8_powers.cls ≠ "java/lang/invoke/VarHandle" ∧ (parseMethodDescriptor yX8_powers.desc).map (fun d => d.parameters.length) = some 2 := by decide +kernel
set_option maxHeartbeats 4000000 in
set_option maxRecDepth 100000 in
theorem c_X8_powers (l : Launch) (G : va_G) (cI cJ cZ cS : ClassId) (q q_bar q_bits q_made q_has q_groups q_sums q_numbers : Nat) (sz : Nat) (f_bar : (Nat → Int32)) (f_bits : (Nat → Int64)) (f_made : (Nat → Int32)) (f_has : (Nat → Int32)) (f_groups : (Nat → Int64)) (f_found : Int32) (f_passed : Int32) (f_looked : Int64) (f_sums : (Nat → Int64)) (f_numbers : (Nat → Int64)) (y1 : Int32) (y2 : Int32) (r : (Int32 × (Nat → Int32) × (Nat → Int64) × (Nat → Int32))) (h : p_X8_powers f_bar f_bits f_made y1 y2 = some r) : Met l yX8_powers wsX8_powers { frames := 5, cells := 0, slots := 0, locals := 121 } (hb_pre G (hbT cI cJ cZ cS) [.ref q, .int y1, .int y2] sz [(q, .inr (6, [.ref q_bar, .ref q_bits, .ref q_made, .ref q_has, .ref q_groups, .int f_found, .int f_passed, .long f_looked, .ref q_sums, .ref q_numbers])), (q_bar, .inl (cI, 160, .inl f_bar)), (q_bits, .inl (cJ, 160, .inr (.inl f_bits))), (q_made, .inl (cI, 4, .inl f_made)), (q_has, .inl (cZ, 3, .inl f_has)), (q_groups, .inl (cJ, 128, .inr (.inl f_groups))), (q_sums, .inl (cJ, 8, .inr (.inl f_sums))), (q_numbers, .inl (cJ, 9, .inr (.inl f_numbers)))]) (hb_Qi G r.1 [(q, .inr (6, [.ref q_bar, .ref q_bits, .ref q_made, .ref q_has, .ref q_groups, .int f_found, .int f_passed, .long f_looked, .ref q_sums, .ref q_numbers])), (q_bar, .inl (cI, 160, .inl r.2.1)), (q_bits, .inl (cJ, 160, .inr (.inl r.2.2.1))), (q_made, .inl (cI, 4, .inl r.2.2.2)), (q_has, .inl (cZ, 3, .inl f_has)), (q_groups, .inl (cJ, 128, .inr (.inl f_groups))), (q_sums, .inl (cJ, 8, .inr (.inl f_sums))), (q_numbers, .inl (cJ, 9, .inr (.inl f_numbers)))] (va_A [(q, .inr (6, [.ref q_bar, .ref q_bits, .ref q_made, .ref q_has, .ref q_groups, .int f_found, .int f_passed, .long f_looked, .ref q_sums, .ref q_numbers])), (q_bar, .inl (cI, 160, .inl f_bar)), (q_bits, .inl (cJ, 160, .inr (.inl f_bits))), (q_made, .inl (cI, 4, .inl f_made)), (q_has, .inl (cZ, 3, .inl f_has)), (q_groups, .inl (cJ, 128, .inr (.inl f_groups))), (q_sums, .inl (cJ, 8, .inr (.inl f_sums))), (q_numbers, .inl (cJ, 9, .inr (.inl f_numbers)))] sz)) 0 0 (va_A [(q, .inr (6, [.ref q_bar, .ref q_bits, .ref q_made, .ref q_has, .ref q_groups, .int f_found, .int f_passed, .long f_looked, .ref q_sums, .ref q_numbers])), (q_bar, .inl (cI, 160, .inl f_bar)), (q_bits, .inl (cJ, 160, .inr (.inl f_bits))), (q_made, .inl (cI, 4, .inl f_made)), (q_has, .inl (cZ, 3, .inl f_has)), (q_groups, .inl (cJ, 128, .inr (.inl f_groups))), (q_sums, .inl (cJ, 8, .inr (.inl f_sums))), (q_numbers, .inl (cJ, 9, .inr (.inl f_numbers)))] sz) := by
  refine hb_met (Qc := fun A => hb_Qi G r.1 [(q, .inr (6, [.ref q_bar, .ref q_bits, .ref q_made, .ref q_has, .ref q_groups, .int f_found, .int f_passed, .long f_looked, .ref q_sums, .ref q_numbers])), (q_bar, .inl (cI, 160, .inl r.2.1)), (q_bits, .inl (cJ, 160, .inr (.inl r.2.2.1))), (q_made, .inl (cI, 4, .inl r.2.2.2)), (q_has, .inl (cZ, 3, .inl f_has)), (q_groups, .inl (cJ, 128, .inr (.inl f_groups))), (q_sums, .inl (cJ, 8, .inr (.inl f_sums))), (q_numbers, .inl (cJ, 9, .inr (.inl f_numbers)))] A) (cc := cX8_powers) (maxL := 6) (ret := some .int) (by decide) rfl (Nat.le_of_ble_eq_true rfl) ?_
  intro p e s m below meth c A hx hb hr hts hown hlocks hml hin hK hA hP hD hS ls hl
  have hown : s.vm.findClass RX8 = some m.cls := hown
  have S0 : CallFix p m c cX8_powers 6 s ([.ref q, .int y1, .int y2] : List Value).toArray wsX8_powers RX8 := ⟨hx, hb, hml, hown, hts⟩
  have hl : lv_has ls 6 [(0, .ref q), (1, .int y1), (2, .int y2)] := hl
  have K57 : ∀ (x1 : Int32) (x3 : Int64) (f_bar : (Nat → Int32)) (f_bits : (Nat → Int64)) (f_made : (Nat → Int32)), e_X8_powers_57 x1 x3 f_bar f_bits f_made = some r → ∀ (H : Heap) (locs : List Loc), va_P G vwCl [(q, .inr (6, [.ref q_bar, .ref q_bits, .ref q_made, .ref q_has, .ref q_groups, .int f_found, .int f_passed, .long f_looked, .ref q_sums, .ref q_numbers])), (q_bar, .inl (cI, 160, .inl f_bar)), (q_bits, .inl (cJ, 160, .inr (.inl f_bits))), (q_made, .inl (cI, 4, .inl f_made)), (q_has, .inl (cZ, 3, .inl f_has)), (q_groups, .inl (cJ, 128, .inr (.inl f_groups))), (q_sums, .inl (cJ, 8, .inr (.inl f_sums))), (q_numbers, .inl (cJ, 9, .inr (.inl f_numbers)))] H → va_D A [(q, .inr (6, [.ref q_bar, .ref q_bits, .ref q_made, .ref q_has, .ref q_groups, .int f_found, .int f_passed, .long f_looked, .ref q_sums, .ref q_numbers])), (q_bar, .inl (cI, 160, .inl f_bar)), (q_bits, .inl (cJ, 160, .inr (.inl f_bits))), (q_made, .inl (cI, 4, .inl f_made)), (q_has, .inl (cZ, 3, .inl f_has)), (q_groups, .inl (cJ, 128, .inr (.inl f_groups))), (q_sums, .inl (cJ, 8, .inr (.inl f_sums))), (q_numbers, .inl (cJ, 9, .inr (.inl f_numbers)))] → va_S A s.heap H locs → ∀ ls, lv_has ls 6 [(0, .ref q), (1, .int x1), (3, .long x3)] → W p l e (headSpec wsX8_powers { frames := 5, cells := 0, slots := 0, locals := 121 }).room s m ([.ref q, .int y1, .int y2] : List Value).toArray below meth c H locs 0 0 (MQ below (hb_Qi G r.1 [(q, .inr (6, [.ref q_bar, .ref q_bits, .ref q_made, .ref q_has, .ref q_groups, .int f_found, .int f_passed, .long f_looked, .ref q_sums, .ref q_numbers])), (q_bar, .inl (cI, 160, .inl r.2.1)), (q_bits, .inl (cJ, 160, .inr (.inl r.2.2.1))), (q_made, .inl (cI, 4, .inl r.2.2.2)), (q_has, .inl (cZ, 3, .inl f_has)), (q_groups, .inl (cJ, 128, .inr (.inl f_groups))), (q_sums, .inl (cJ, 8, .inr (.inl f_sums))), (q_numbers, .inl (cJ, 9, .inr (.inl f_numbers)))] A) ([.ref q, .int y1, .int y2] : List Value).toArray s 0 0 A) (F0 m 57 ls []) := by
    intro x1 x3 f_bar f_bits f_made h H locs hP hD hS ls hl
    unfold e_X8_powers_57 at h
    refine lv_aload_n hx hb dX8_powers_57 rfl (lv_at hl 0 rfl) ?_
    refine lv_iload_n hx hb dX8_powers_58 rfl (lv_at hl 1 rfl) ?_
    refine lv_lload_n hx hb dX8_powers_59 rfl (lv_at hl 2 rfl) ?_
    obtain ⟨v60, hv60, h⟩ := pf_bind h
    refine hb_calli (hb_runV (G := G) (T := hbT cI cJ cZ cS) (As := [.int x1, .long x3]) (rest := []) S0 (c_X8_keeps l G cI cJ cZ cS q q_bar q_bits q_made q_has q_groups q_sums q_numbers H.size f_bar f_bits f_made f_has f_groups f_found f_passed f_looked f_sums f_numbers x1 x3 v60 hv60) (cwV 2 hts gX8_powers_X8_keeps rfl rfl rfl kv_X8_keeps ⟨Nat.le_of_ble_eq_true rfl, Nat.le_of_ble_eq_true rfl⟩) hK (hP.sub [0, 1, 2, 3, 4, 5, 6, 7] rfl) (hD.sub [0, 1, 2, 3, 4, 5, 6, 7] (by decide) rfl) rfl rfl rfl hl.1 rfl (Nat.le_of_ble_eq_true rfl) dX8_powers_60 ⟨Nat.zero_le _, Nat.zero_le _⟩) hP hD hS hA [0, 1, 2, 3, 4, 5, 6, 7] [] [0, 1, 2, 3, 4, 5, 6, 7] rfl (wr := []) rfl (by decide) (by decide) (w2 := [(q, .inr (6, [.ref q_bar, .ref q_bits, .ref q_made, .ref q_has, .ref q_groups, .int f_found, .int f_passed, .long f_looked, .ref q_sums, .ref q_numbers])), (q_bar, .inl (cI, 160, .inl v60.2.1)), (q_bits, .inl (cJ, 160, .inr (.inl v60.2.2.1))), (q_made, .inl (cI, 4, .inl v60.2.2.2)), (q_has, .inl (cZ, 3, .inl f_has)), (q_groups, .inl (cJ, 128, .inr (.inl f_groups))), (q_sums, .inl (cJ, 8, .inr (.inl f_sums))), (q_numbers, .inl (cJ, 9, .inr (.inl f_numbers)))]) (by decide) rfl rfl (fun H locs hP hD hS => ?_)
    cases h
    exact hb_iret hx hb hr hlocks hP hD hS dX8_powers_63
  have L24 : ∀ (n : Nat) (x1 : Int32) (x2 : Int32) (x3 : Int64) (x5 : Int32) (f_bar : (Nat → Int32)) (f_bits : (Nat → Int64)) (f_made : (Nat → Int32)) (b : Int64), lpF (fun q : (Int64 × Int32) => s_X8_powers_24 x1 x2 q.1 q.2 f_bar f_bits f_made) n (x3, x5) = some b → a_X8_powers_24 x1 f_bar f_bits f_made b = some r → ∀ (H : Heap) (locs : List Loc), va_P G vwCl [(q, .inr (6, [.ref q_bar, .ref q_bits, .ref q_made, .ref q_has, .ref q_groups, .int f_found, .int f_passed, .long f_looked, .ref q_sums, .ref q_numbers])), (q_bar, .inl (cI, 160, .inl f_bar)), (q_bits, .inl (cJ, 160, .inr (.inl f_bits))), (q_made, .inl (cI, 4, .inl f_made)), (q_has, .inl (cZ, 3, .inl f_has)), (q_groups, .inl (cJ, 128, .inr (.inl f_groups))), (q_sums, .inl (cJ, 8, .inr (.inl f_sums))), (q_numbers, .inl (cJ, 9, .inr (.inl f_numbers)))] H → va_D A [(q, .inr (6, [.ref q_bar, .ref q_bits, .ref q_made, .ref q_has, .ref q_groups, .int f_found, .int f_passed, .long f_looked, .ref q_sums, .ref q_numbers])), (q_bar, .inl (cI, 160, .inl f_bar)), (q_bits, .inl (cJ, 160, .inr (.inl f_bits))), (q_made, .inl (cI, 4, .inl f_made)), (q_has, .inl (cZ, 3, .inl f_has)), (q_groups, .inl (cJ, 128, .inr (.inl f_groups))), (q_sums, .inl (cJ, 8, .inr (.inl f_sums))), (q_numbers, .inl (cJ, 9, .inr (.inl f_numbers)))] → va_S A s.heap H locs → ∀ ls, lv_has ls 6 [(0, .ref q), (1, .int x1), (2, .int x2), (3, .long x3), (5, .int x5)] → W p l e (headSpec wsX8_powers { frames := 5, cells := 0, slots := 0, locals := 121 }).room s m ([.ref q, .int y1, .int y2] : List Value).toArray below meth c H locs 0 0 (MQ below (hb_Qi G r.1 [(q, .inr (6, [.ref q_bar, .ref q_bits, .ref q_made, .ref q_has, .ref q_groups, .int f_found, .int f_passed, .long f_looked, .ref q_sums, .ref q_numbers])), (q_bar, .inl (cI, 160, .inl r.2.1)), (q_bits, .inl (cJ, 160, .inr (.inl r.2.2.1))), (q_made, .inl (cI, 4, .inl r.2.2.2)), (q_has, .inl (cZ, 3, .inl f_has)), (q_groups, .inl (cJ, 128, .inr (.inl f_groups))), (q_sums, .inl (cJ, 8, .inr (.inl f_sums))), (q_numbers, .inl (cJ, 9, .inr (.inl f_numbers)))] A) ([.ref q, .int y1, .int y2] : List Value).toArray s 0 0 A) (F0 m 24 ls []) := by
    intro n
    induction n with
    | zero => intro x1 x2 x3 x5 f_bar f_bits f_made b h; exact lp_zero h
    | succ n ih =>
      intro x1 x2 x3 x5 f_bar f_bits f_made b h ha H locs hP hD hS ls hl
      obtain ⟨z24, h, hz⟩ := lp_open h
      have h : s_X8_powers_24 x1 x2 x3 x5 f_bar f_bits f_made = some z24 := h
      unfold s_X8_powers_24 at h
      refine lv_iload hx hb dX8_powers_24 (lv_at hl 4 rfl) ?_
      refine lv_iload_n hx hb dX8_powers_26 rfl (lv_at hl 1 rfl) ?_
      refine lv_icmp_ge (tgt := 57) hx hb dX8_powers_27 (by decide) (fun c27 => ?_) (fun c27 => ?_)
      · have h := pf_pos h c27
        have ha := pf_aft ha (lp_exit h hz)
        exact K57 x1 x3 f_bar f_bits f_made ha H locs hP hD hS ls (lv_sub hl [0, 1, 3] rfl)
      · have h := pf_neg h c27
        refine lv_iload_n hx hb dX8_powers_30 rfl (lv_at hl 1 rfl) ?_
        refine lv_iload hx hb dX8_powers_31 (lv_at hl 4 rfl) ?_
        obtain ⟨v33, hv33, h⟩ := pf_bind h
        refine pf_call (As := [.int x1, .int x5]) (rest := []) S0 (c_X8_isRest l x1 x5 v33 hv33) (va_cwS 2 hts gX8_powers_X8_isRest rfl rfl rfl kd_X8_isRest ⟨Nat.le_of_ble_eq_true rfl, Nat.le_of_ble_eq_true rfl⟩) rfl hl.1 rfl (Nat.le_of_ble_eq_true rfl) dX8_powers_33 ⟨Nat.zero_le _, Nat.zero_le _⟩ ?_
        refine lv_if_eq (tgt := 51) hx hb dX8_powers_36 (by decide) (fun c36 => ?_) (fun c36 => ?_)
        · have h := pf_pos h c36
          refine lv_iinc (v := (x5 + (1 : Int32))) (lv' := [(5, .int (x5 + (1 : Int32))), (0, .ref q), (1, .int x1), (2, .int x2), (3, .long x3)]) hx hb dX8_powers_51 hl (k := 4) rfl rfl (by decide) rfl (fun ls hl => ?_)
          refine lv_goto (tgt := 24) hx hb dX8_powers_54 (by decide) ?_
          exact ih x1 x2 x3 (x5 + (1 : Int32)) f_bar f_bits f_made b (lp_cont h hz) ha H locs hP hD hS ls (lv_sub hl [1, 2, 3, 4, 0] rfl)
        · have h := pf_neg h c36
          refine lv_lload_n hx hb dX8_powers_39 rfl (lv_at hl 3 rfl) ?_
          refine lv_lconst (v := 1) hx hb dX8_powers_40 (by decide) ?_
          refine lv_iload_n hx hb dX8_powers_41 rfl (lv_at hl 1 rfl) ?_
          refine lv_iload hx hb dX8_powers_42 (lv_at hl 4 rfl) ?_
          refine lv_iload_n hx hb dX8_powers_44 rfl (lv_at hl 2 rfl) ?_
          obtain ⟨v45, hv45, h⟩ := pf_bind h
          refine pf_call (As := [.int x1, .int x5, .int x2]) (rest := [.long (1 : Int64), .long x3]) S0 (c_X8_power l x1 x5 x2 v45 hv45) (va_cwS 3 hts gX8_powers_X8_power rfl rfl rfl kd_X8_power ⟨Nat.le_of_ble_eq_true rfl, Nat.le_of_ble_eq_true rfl⟩) rfl hl.1 rfl (Nat.le_of_ble_eq_true rfl) dX8_powers_45 ⟨Nat.zero_le _, Nat.zero_le _⟩ ?_
          refine pf_lshl hx hb dX8_powers_48 ?_
          refine lv_lor hx hb dX8_powers_49 ?_
          refine lv_lstore_n (lv' := [(3, .long (x3 ||| (jshl (1 : Int64) v45))), (0, .ref q), (1, .int x1), (2, .int x2), (5, .int x5)]) hx hb dX8_powers_50 rfl hl (by decide) rfl (fun ls hl => ?_)
          refine lv_iinc (v := (x5 + (1 : Int32))) (lv' := [(5, .int (x5 + (1 : Int32))), (3, .long (x3 ||| (jshl (1 : Int64) v45))), (0, .ref q), (1, .int x1), (2, .int x2)]) hx hb dX8_powers_51 hl (k := 4) rfl rfl (by decide) rfl (fun ls hl => ?_)
          refine lv_goto (tgt := 24) hx hb dX8_powers_54 (by decide) ?_
          exact ih x1 x2 (x3 ||| (jshl (1 : Int64) v45)) (x5 + (1 : Int32)) f_bar f_bits f_made b (lp_cont h hz) ha H locs hP hD hS ls (lv_sub hl [2, 3, 4, 1, 0] rfl)
  have G24 : ∀ (x1 : Int32) (x2 : Int32) (x3 : Int64) (x5 : Int32) (f_bar : (Nat → Int32)) (f_bits : (Nat → Int64)) (f_made : (Nat → Int32)), g_X8_powers_24 x1 x2 x3 x5 f_bar f_bits f_made = some r → ∀ (H : Heap) (locs : List Loc), va_P G vwCl [(q, .inr (6, [.ref q_bar, .ref q_bits, .ref q_made, .ref q_has, .ref q_groups, .int f_found, .int f_passed, .long f_looked, .ref q_sums, .ref q_numbers])), (q_bar, .inl (cI, 160, .inl f_bar)), (q_bits, .inl (cJ, 160, .inr (.inl f_bits))), (q_made, .inl (cI, 4, .inl f_made)), (q_has, .inl (cZ, 3, .inl f_has)), (q_groups, .inl (cJ, 128, .inr (.inl f_groups))), (q_sums, .inl (cJ, 8, .inr (.inl f_sums))), (q_numbers, .inl (cJ, 9, .inr (.inl f_numbers)))] H → va_D A [(q, .inr (6, [.ref q_bar, .ref q_bits, .ref q_made, .ref q_has, .ref q_groups, .int f_found, .int f_passed, .long f_looked, .ref q_sums, .ref q_numbers])), (q_bar, .inl (cI, 160, .inl f_bar)), (q_bits, .inl (cJ, 160, .inr (.inl f_bits))), (q_made, .inl (cI, 4, .inl f_made)), (q_has, .inl (cZ, 3, .inl f_has)), (q_groups, .inl (cJ, 128, .inr (.inl f_groups))), (q_sums, .inl (cJ, 8, .inr (.inl f_sums))), (q_numbers, .inl (cJ, 9, .inr (.inl f_numbers)))] → va_S A s.heap H locs → ∀ ls, lv_has ls 6 [(0, .ref q), (1, .int x1), (2, .int x2), (3, .long x3), (5, .int x5)] → W p l e (headSpec wsX8_powers { frames := 5, cells := 0, slots := 0, locals := 121 }).room s m ([.ref q, .int y1, .int y2] : List Value).toArray below meth c H locs 0 0 (MQ below (hb_Qi G r.1 [(q, .inr (6, [.ref q_bar, .ref q_bits, .ref q_made, .ref q_has, .ref q_groups, .int f_found, .int f_passed, .long f_looked, .ref q_sums, .ref q_numbers])), (q_bar, .inl (cI, 160, .inl r.2.1)), (q_bits, .inl (cJ, 160, .inr (.inl r.2.2.1))), (q_made, .inl (cI, 4, .inl r.2.2.2)), (q_has, .inl (cZ, 3, .inl f_has)), (q_groups, .inl (cJ, 128, .inr (.inl f_groups))), (q_sums, .inl (cJ, 8, .inr (.inl f_sums))), (q_numbers, .inl (cJ, 9, .inr (.inl f_numbers)))] A) ([.ref q, .int y1, .int y2] : List Value).toArray s 0 0 A) (F0 m 24 ls []) := by
    intro x1 x2 x3 x5 f_bar f_bits f_made h
    unfold g_X8_powers_24 at h
    obtain ⟨b, h, ha⟩ := pf_bind h
    exact L24 pfFU x1 x2 x3 x5 f_bar f_bits f_made b h ha
  suffices hh : ∀ (H : Heap) (locs : List Loc), va_P G vwCl [(q, .inr (6, [.ref q_bar, .ref q_bits, .ref q_made, .ref q_has, .ref q_groups, .int f_found, .int f_passed, .long f_looked, .ref q_sums, .ref q_numbers])), (q_bar, .inl (cI, 160, .inl f_bar)), (q_bits, .inl (cJ, 160, .inr (.inl f_bits))), (q_made, .inl (cI, 4, .inl f_made)), (q_has, .inl (cZ, 3, .inl f_has)), (q_groups, .inl (cJ, 128, .inr (.inl f_groups))), (q_sums, .inl (cJ, 8, .inr (.inl f_sums))), (q_numbers, .inl (cJ, 9, .inr (.inl f_numbers)))] H → va_D A [(q, .inr (6, [.ref q_bar, .ref q_bits, .ref q_made, .ref q_has, .ref q_groups, .int f_found, .int f_passed, .long f_looked, .ref q_sums, .ref q_numbers])), (q_bar, .inl (cI, 160, .inl f_bar)), (q_bits, .inl (cJ, 160, .inr (.inl f_bits))), (q_made, .inl (cI, 4, .inl f_made)), (q_has, .inl (cZ, 3, .inl f_has)), (q_groups, .inl (cJ, 128, .inr (.inl f_groups))), (q_sums, .inl (cJ, 8, .inr (.inl f_sums))), (q_numbers, .inl (cJ, 9, .inr (.inl f_numbers)))] → va_S A s.heap H locs → W p l e (headSpec wsX8_powers { frames := 5, cells := 0, slots := 0, locals := 121 }).room s m ([.ref q, .int y1, .int y2] : List Value).toArray below meth c H locs 0 0 (MQ below (hb_Qi G r.1 [(q, .inr (6, [.ref q_bar, .ref q_bits, .ref q_made, .ref q_has, .ref q_groups, .int f_found, .int f_passed, .long f_looked, .ref q_sums, .ref q_numbers])), (q_bar, .inl (cI, 160, .inl r.2.1)), (q_bits, .inl (cJ, 160, .inr (.inl r.2.2.1))), (q_made, .inl (cI, 4, .inl r.2.2.2)), (q_has, .inl (cZ, 3, .inl f_has)), (q_groups, .inl (cJ, 128, .inr (.inl f_groups))), (q_sums, .inl (cJ, 8, .inr (.inl f_sums))), (q_numbers, .inl (cJ, 9, .inr (.inl f_numbers)))] A) ([.ref q, .int y1, .int y2] : List Value).toArray s 0 0 A) (F0 m 0 ls []) from hh s.heap [] hP hD hS
  intro H locs hP hD hS
  unfold p_X8_powers at h
  refine lv_iload_n hx hb dX8_powers_0 rfl (lv_at hl 1 rfl) ?_
  obtain ⟨v1, hv1, h⟩ := pf_bind h
  refine pf_call (As := [.int y1]) (rest := []) S0 (c_X8_isM l y1 v1 hv1) (va_cwS 1 hts gX8_powers_X8_isM rfl rfl rfl kd_X8_isM ⟨Nat.le_of_ble_eq_true rfl, Nat.le_of_ble_eq_true rfl⟩) rfl hl.1 rfl (Nat.le_of_ble_eq_true rfl) dX8_powers_1 ⟨Nat.zero_le _, Nat.zero_le _⟩ ?_
  refine lv_if_eq (tgt := 17) hx hb dX8_powers_4 (by decide) (fun c4 => ?_) (fun c4 => ?_)
  · have h := pf_pos h c4
    refine lv_iconst (v := -1) hx hb dX8_powers_17 (by decide) ?_
    cases h
    exact hb_iret hx hb hr hlocks hP hD hS dX8_powers_18
  · have h := pf_neg h c4
    refine lv_iload_n hx hb dX8_powers_7 rfl (lv_at hl 2 rfl) ?_
    refine lv_iconst (v := 1) hx hb dX8_powers_8 (by decide) ?_
    refine lv_bipush (v := 60) hx hb dX8_powers_9 (by decide) ?_
    obtain ⟨v11, hv11, h⟩ := pf_bind h
    refine pf_call (As := [.int y2, .int (1 : Int32), .int (60 : Int32)]) (rest := []) S0 (c_X8_isIn l y2 (1 : Int32) (60 : Int32) v11 hv11) (va_cwS 3 hts gX8_powers_X8_isIn rfl rfl rfl kd_X8_isIn ⟨Nat.le_of_ble_eq_true rfl, Nat.le_of_ble_eq_true rfl⟩) rfl hl.1 rfl (Nat.le_of_ble_eq_true rfl) dX8_powers_11 ⟨Nat.zero_le _, Nat.zero_le _⟩ ?_
    refine lv_if_ne (tgt := 19) hx hb dX8_powers_14 (by decide) (fun c14 => ?_) (fun c14 => ?_)
    · have h := pf_neg h c14
      refine lv_lconst (v := 0) hx hb dX8_powers_19 (by decide) ?_
      refine lv_lstore_n (lv' := [(3, .long (0 : Int64)), (0, .ref q), (1, .int y1), (2, .int y2)]) hx hb dX8_powers_20 rfl hl (by decide) rfl (fun ls hl => ?_)
      refine lv_iconst (v := 0) hx hb dX8_powers_21 (by decide) ?_
      refine lv_istore (lv' := [(5, .int (0 : Int32)), (3, .long (0 : Int64)), (0, .ref q), (1, .int y1), (2, .int y2)]) hx hb dX8_powers_22 hl (by decide) rfl (fun ls hl => ?_)
      exact G24 y1 y2 (0 : Int64) (0 : Int32) f_bar f_bits f_made h H locs hP hD hS ls (lv_sub hl [2, 3, 4, 1, 0] rfl)
    · have h := pf_pos h c14
      refine lv_iconst (v := -1) hx hb dX8_powers_17 (by decide) ?_
      cases h
      exact hb_iret hx hb hr hlocks hP hD hS dX8_powers_18
-- X8_isField
def p_X8_isField (f_made : (Nat → Int32)) (y1 : Int32) : Option Int32 :=
  ((p_X8_isIn y1 (0 : Int32) ((f_made ((0 : Int32)).toNatClampNeg) - (1 : Int32))).bind fun v10 => (if v10 &&& 1 = v10 then some v10 else none))
theorem in_X8_isField_X8 : ∀ w ∈ u_ws RX8 TX8 10, w ∈ wsX8_isField := fun w h => List.mem_cons_of_mem _ (List.mem_append_right _ h)
theorem kv_X8_isField : yX8_isField.cls = RX8 ∧ yX8_isField.cls ≠ "java/lang/invoke/MethodHandle" ∧ yX8_isField.cls ≠ "java/lang/invoke/VarHandle" ∧ (parseMethodDescriptor yX8_isField.desc).map (fun d => d.parameters.length) = some 1 := by decide +kernel
set_option maxHeartbeats 4000000 in
set_option maxRecDepth 100000 in
theorem c_X8_isField (l : Launch) (G : va_G) (cI cJ cZ cS : ClassId) (q q_bar q_bits q_made q_has q_groups q_sums q_numbers : Nat) (sz : Nat) (f_bar : (Nat → Int32)) (f_bits : (Nat → Int64)) (f_made : (Nat → Int32)) (f_has : (Nat → Int32)) (f_groups : (Nat → Int64)) (f_found : Int32) (f_passed : Int32) (f_looked : Int64) (f_sums : (Nat → Int64)) (f_numbers : (Nat → Int64)) (y1 : Int32) (r : Int32) (h : p_X8_isField f_made y1 = some r) : Met l yX8_isField wsX8_isField { frames := 1, cells := 0, slots := 0, locals := 22 } (hb_pre G (hbT cI cJ cZ cS) [.ref q, .int y1] sz [(q, .inr (6, [.ref q_bar, .ref q_bits, .ref q_made, .ref q_has, .ref q_groups, .int f_found, .int f_passed, .long f_looked, .ref q_sums, .ref q_numbers])), (q_bar, .inl (cI, 160, .inl f_bar)), (q_bits, .inl (cJ, 160, .inr (.inl f_bits))), (q_made, .inl (cI, 4, .inl f_made)), (q_has, .inl (cZ, 3, .inl f_has)), (q_groups, .inl (cJ, 128, .inr (.inl f_groups))), (q_sums, .inl (cJ, 8, .inr (.inl f_sums))), (q_numbers, .inl (cJ, 9, .inr (.inl f_numbers)))]) (hb_Qi G r [(q, .inr (6, [.ref q_bar, .ref q_bits, .ref q_made, .ref q_has, .ref q_groups, .int f_found, .int f_passed, .long f_looked, .ref q_sums, .ref q_numbers])), (q_bar, .inl (cI, 160, .inl f_bar)), (q_bits, .inl (cJ, 160, .inr (.inl f_bits))), (q_made, .inl (cI, 4, .inl f_made)), (q_has, .inl (cZ, 3, .inl f_has)), (q_groups, .inl (cJ, 128, .inr (.inl f_groups))), (q_sums, .inl (cJ, 8, .inr (.inl f_sums))), (q_numbers, .inl (cJ, 9, .inr (.inl f_numbers)))] (va_A [(q, .inr (6, [.ref q_bar, .ref q_bits, .ref q_made, .ref q_has, .ref q_groups, .int f_found, .int f_passed, .long f_looked, .ref q_sums, .ref q_numbers])), (q_bar, .inl (cI, 160, .inl f_bar)), (q_bits, .inl (cJ, 160, .inr (.inl f_bits))), (q_made, .inl (cI, 4, .inl f_made)), (q_has, .inl (cZ, 3, .inl f_has)), (q_groups, .inl (cJ, 128, .inr (.inl f_groups))), (q_sums, .inl (cJ, 8, .inr (.inl f_sums))), (q_numbers, .inl (cJ, 9, .inr (.inl f_numbers)))] sz)) 0 0 (va_A [(q, .inr (6, [.ref q_bar, .ref q_bits, .ref q_made, .ref q_has, .ref q_groups, .int f_found, .int f_passed, .long f_looked, .ref q_sums, .ref q_numbers])), (q_bar, .inl (cI, 160, .inl f_bar)), (q_bits, .inl (cJ, 160, .inr (.inl f_bits))), (q_made, .inl (cI, 4, .inl f_made)), (q_has, .inl (cZ, 3, .inl f_has)), (q_groups, .inl (cJ, 128, .inr (.inl f_groups))), (q_sums, .inl (cJ, 8, .inr (.inl f_sums))), (q_numbers, .inl (cJ, 9, .inr (.inl f_numbers)))] sz) := by
  refine hb_met (Qc := fun A => hb_Qi G r [(q, .inr (6, [.ref q_bar, .ref q_bits, .ref q_made, .ref q_has, .ref q_groups, .int f_found, .int f_passed, .long f_looked, .ref q_sums, .ref q_numbers])), (q_bar, .inl (cI, 160, .inl f_bar)), (q_bits, .inl (cJ, 160, .inr (.inl f_bits))), (q_made, .inl (cI, 4, .inl f_made)), (q_has, .inl (cZ, 3, .inl f_has)), (q_groups, .inl (cJ, 128, .inr (.inl f_groups))), (q_sums, .inl (cJ, 8, .inr (.inl f_sums))), (q_numbers, .inl (cJ, 9, .inr (.inl f_numbers)))] A) (cc := cX8_isField) (maxL := 2) (ret := some .boolean) (by decide) rfl (Nat.le_of_ble_eq_true rfl) ?_
  intro p e s m below meth c A hx hb hr hts hown hlocks hml hin hK hA hP hD hS ls hl
  have hown : s.vm.findClass RX8 = some m.cls := hown
  have S0 : CallFix p m c cX8_isField 2 s ([.ref q, .int y1] : List Value).toArray wsX8_isField RX8 := ⟨hx, hb, hml, hown, hts⟩
  have hl : lv_has ls 2 [(0, .ref q), (1, .int y1)] := hl
  suffices hh : ∀ (H : Heap) (locs : List Loc), va_P G vwCl [(q, .inr (6, [.ref q_bar, .ref q_bits, .ref q_made, .ref q_has, .ref q_groups, .int f_found, .int f_passed, .long f_looked, .ref q_sums, .ref q_numbers])), (q_bar, .inl (cI, 160, .inl f_bar)), (q_bits, .inl (cJ, 160, .inr (.inl f_bits))), (q_made, .inl (cI, 4, .inl f_made)), (q_has, .inl (cZ, 3, .inl f_has)), (q_groups, .inl (cJ, 128, .inr (.inl f_groups))), (q_sums, .inl (cJ, 8, .inr (.inl f_sums))), (q_numbers, .inl (cJ, 9, .inr (.inl f_numbers)))] H → va_D A [(q, .inr (6, [.ref q_bar, .ref q_bits, .ref q_made, .ref q_has, .ref q_groups, .int f_found, .int f_passed, .long f_looked, .ref q_sums, .ref q_numbers])), (q_bar, .inl (cI, 160, .inl f_bar)), (q_bits, .inl (cJ, 160, .inr (.inl f_bits))), (q_made, .inl (cI, 4, .inl f_made)), (q_has, .inl (cZ, 3, .inl f_has)), (q_groups, .inl (cJ, 128, .inr (.inl f_groups))), (q_sums, .inl (cJ, 8, .inr (.inl f_sums))), (q_numbers, .inl (cJ, 9, .inr (.inl f_numbers)))] → va_S A s.heap H locs → W p l e (headSpec wsX8_isField { frames := 1, cells := 0, slots := 0, locals := 22 }).room s m ([.ref q, .int y1] : List Value).toArray below meth c H locs 0 0 (MQ below (hb_Qi G r [(q, .inr (6, [.ref q_bar, .ref q_bits, .ref q_made, .ref q_has, .ref q_groups, .int f_found, .int f_passed, .long f_looked, .ref q_sums, .ref q_numbers])), (q_bar, .inl (cI, 160, .inl f_bar)), (q_bits, .inl (cJ, 160, .inr (.inl f_bits))), (q_made, .inl (cI, 4, .inl f_made)), (q_has, .inl (cZ, 3, .inl f_has)), (q_groups, .inl (cJ, 128, .inr (.inl f_groups))), (q_sums, .inl (cJ, 8, .inr (.inl f_sums))), (q_numbers, .inl (cJ, 9, .inr (.inl f_numbers)))] A) ([.ref q, .int y1] : List Value).toArray s 0 0 A) (F0 m 0 ls []) from hh s.heap [] hP hD hS
  intro H locs hP hD hS
  unfold p_X8_isField at h
  refine lv_iload_n hx hb dX8_isField_0 rfl (lv_at hl 1 rfl) ?_
  refine lv_iconst (v := 0) hx hb dX8_isField_1 (by decide) ?_
  refine lv_aload_n hx hb dX8_isField_2 rfl (lv_at hl 0 rfl) ?_
  refine va_get (D := G) (ci := 6) (v := .ref q_made) (C := RX8) (T := TX8) (N := 10) hx hb hts in_X8_isField_X8 hown hK.1 hP 0 rfl rfl 2 (by decide) (hts (.fieldLink RX8 17 "FieldsByClassesModel" "made" "[I") (by decide +kernel)) (fun _ h9 => h9) rfl dX8_isField_3 ?_
  refine lv_iconst (v := 0) hx hb dX8_isField_6 (by decide) ?_
  refine va_iald hx hb hK.1 hP 3 0 rfl rfl (ain_of (by decide)) dX8_isField_7 ?_
  refine lv_iconst (v := 1) hx hb dX8_isField_8 (by decide) ?_
  refine lv_isub hx hb dX8_isField_9 ?_
  obtain ⟨v10, hv10, h⟩ := pf_bind h
  refine pf_call (As := [.int y1, .int (0 : Int32), .int ((f_made ((0 : Int32)).toNatClampNeg) - (1 : Int32))]) (rest := []) S0 (c_X8_isIn l y1 (0 : Int32) ((f_made ((0 : Int32)).toNatClampNeg) - (1 : Int32)) v10 hv10) (va_cwS 3 hts gX8_isField_X8_isIn rfl rfl rfl kd_X8_isIn ⟨Nat.le_of_ble_eq_true rfl, Nat.le_of_ble_eq_true rfl⟩) rfl hl.1 rfl (Nat.le_of_ble_eq_true rfl) dX8_isField_10 ⟨Nat.zero_le _, Nat.zero_le _⟩ ?_
  obtain ⟨hn13, h⟩ := pf_need h
  cases h
  exact hb_zret hx hb hr hlocks hn13 hP hD hS dX8_isField_13
-- X8_join
def p_X8_join (f_bar : (Nat → Int32)) (f_bits : (Nat → Int64)) (f_made : (Nat → Int32)) (y1 : Int32) (y2 : Int32) : Option (Int32 × (Nat → Int32) × (Nat → Int64) × (Nat → Int32)) :=
  ((p_X8_isField f_made y1).bind fun v2 => (if v2 = 0 then some ((-1 : Int32), f_bar, f_bits, f_made) else ((p_X8_isField f_made y2).bind fun v10 => (if v10 = 0 then some ((-1 : Int32), f_bar, f_bits, f_made) else (if ainB y1 160 = true then (if ainB y2 160 = true then ((p_X8_multiple (f_bar (y1).toNatClampNeg) (f_bar (y2).toNatClampNeg)).bind fun v28 => (if v28 ≤ (63 : Int32) then (if ainB y1 160 = true then (if ainB y2 160 = true then ((p_X8_multiple (f_bar (y1).toNatClampNeg) (f_bar (y2).toNatClampNeg)).bind fun v50 => (if ainB y1 160 = true then (if ainB y1 160 = true then ((p_X8_up (f_bar (y1).toNatClampNeg) (f_bits (y1).toNatClampNeg) v50).bind fun v69 => (if ainB y2 160 = true then (if ainB y2 160 = true then ((p_X8_up (f_bar (y2).toNatClampNeg) (f_bits (y2).toNatClampNeg) v50).bind fun v85 => ((p_X8_keeps f_bar f_bits f_made v50 (v69 &&& v85)).bind fun v89 => some (v89.1, v89.2.1, v89.2.2.1, v89.2.2.2))) else none) else none)) else none) else none)) else none) else none) else some ((-1 : Int32), f_bar, f_bits, f_made))) else none) else none)))))
theorem in_X8_join_X8 : ∀ w ∈ u_ws RX8 TX8 10, w ∈ wsX8_join := fun w h => List.mem_cons_of_mem _ (List.mem_append_right _ h)
theorem kv_X8_join : yX8_join.cls = RX8 ∧ yX8_join.cls ≠ "java/lang/invoke/MethodHandle" ∧ yX8_join.cls ≠ "java/lang/invoke/VarHandle" ∧ (parseMethodDescriptor yX8_join.desc).map (fun d => d.parameters.length) = some 2 := by decide +kernel
set_option maxHeartbeats 4000000 in
set_option maxRecDepth 100000 in
theorem c_X8_join (l : Launch) (G : va_G) (cI cJ cZ cS : ClassId) (q q_bar q_bits q_made q_has q_groups q_sums q_numbers : Nat) (sz : Nat) (f_bar : (Nat → Int32)) (f_bits : (Nat → Int64)) (f_made : (Nat → Int32)) (f_has : (Nat → Int32)) (f_groups : (Nat → Int64)) (f_found : Int32) (f_passed : Int32) (f_looked : Int64) (f_sums : (Nat → Int64)) (f_numbers : (Nat → Int64)) (y1 : Int32) (y2 : Int32) (r : (Int32 × (Nat → Int32) × (Nat → Int64) × (Nat → Int32))) (h : p_X8_join f_bar f_bits f_made y1 y2 = some r) : Met l yX8_join wsX8_join { frames := 5, cells := 0, slots := 0, locals := 121 } (hb_pre G (hbT cI cJ cZ cS) [.ref q, .int y1, .int y2] sz [(q, .inr (6, [.ref q_bar, .ref q_bits, .ref q_made, .ref q_has, .ref q_groups, .int f_found, .int f_passed, .long f_looked, .ref q_sums, .ref q_numbers])), (q_bar, .inl (cI, 160, .inl f_bar)), (q_bits, .inl (cJ, 160, .inr (.inl f_bits))), (q_made, .inl (cI, 4, .inl f_made)), (q_has, .inl (cZ, 3, .inl f_has)), (q_groups, .inl (cJ, 128, .inr (.inl f_groups))), (q_sums, .inl (cJ, 8, .inr (.inl f_sums))), (q_numbers, .inl (cJ, 9, .inr (.inl f_numbers)))]) (hb_Qi G r.1 [(q, .inr (6, [.ref q_bar, .ref q_bits, .ref q_made, .ref q_has, .ref q_groups, .int f_found, .int f_passed, .long f_looked, .ref q_sums, .ref q_numbers])), (q_bar, .inl (cI, 160, .inl r.2.1)), (q_bits, .inl (cJ, 160, .inr (.inl r.2.2.1))), (q_made, .inl (cI, 4, .inl r.2.2.2)), (q_has, .inl (cZ, 3, .inl f_has)), (q_groups, .inl (cJ, 128, .inr (.inl f_groups))), (q_sums, .inl (cJ, 8, .inr (.inl f_sums))), (q_numbers, .inl (cJ, 9, .inr (.inl f_numbers)))] (va_A [(q, .inr (6, [.ref q_bar, .ref q_bits, .ref q_made, .ref q_has, .ref q_groups, .int f_found, .int f_passed, .long f_looked, .ref q_sums, .ref q_numbers])), (q_bar, .inl (cI, 160, .inl f_bar)), (q_bits, .inl (cJ, 160, .inr (.inl f_bits))), (q_made, .inl (cI, 4, .inl f_made)), (q_has, .inl (cZ, 3, .inl f_has)), (q_groups, .inl (cJ, 128, .inr (.inl f_groups))), (q_sums, .inl (cJ, 8, .inr (.inl f_sums))), (q_numbers, .inl (cJ, 9, .inr (.inl f_numbers)))] sz)) 0 0 (va_A [(q, .inr (6, [.ref q_bar, .ref q_bits, .ref q_made, .ref q_has, .ref q_groups, .int f_found, .int f_passed, .long f_looked, .ref q_sums, .ref q_numbers])), (q_bar, .inl (cI, 160, .inl f_bar)), (q_bits, .inl (cJ, 160, .inr (.inl f_bits))), (q_made, .inl (cI, 4, .inl f_made)), (q_has, .inl (cZ, 3, .inl f_has)), (q_groups, .inl (cJ, 128, .inr (.inl f_groups))), (q_sums, .inl (cJ, 8, .inr (.inl f_sums))), (q_numbers, .inl (cJ, 9, .inr (.inl f_numbers)))] sz) := by
  refine hb_met (Qc := fun A => hb_Qi G r.1 [(q, .inr (6, [.ref q_bar, .ref q_bits, .ref q_made, .ref q_has, .ref q_groups, .int f_found, .int f_passed, .long f_looked, .ref q_sums, .ref q_numbers])), (q_bar, .inl (cI, 160, .inl r.2.1)), (q_bits, .inl (cJ, 160, .inr (.inl r.2.2.1))), (q_made, .inl (cI, 4, .inl r.2.2.2)), (q_has, .inl (cZ, 3, .inl f_has)), (q_groups, .inl (cJ, 128, .inr (.inl f_groups))), (q_sums, .inl (cJ, 8, .inr (.inl f_sums))), (q_numbers, .inl (cJ, 9, .inr (.inl f_numbers)))] A) (cc := cX8_join) (maxL := 4) (ret := some .int) (by decide) rfl (Nat.le_of_ble_eq_true rfl) ?_
  intro p e s m below meth c A hx hb hr hts hown hlocks hml hin hK hA hP hD hS ls hl
  have hown : s.vm.findClass RX8 = some m.cls := hown
  have S0 : CallFix p m c cX8_join 4 s ([.ref q, .int y1, .int y2] : List Value).toArray wsX8_join RX8 := ⟨hx, hb, hml, hown, hts⟩
  have hl : lv_has ls 4 [(0, .ref q), (1, .int y1), (2, .int y2)] := hl
  suffices hh : ∀ (H : Heap) (locs : List Loc), va_P G vwCl [(q, .inr (6, [.ref q_bar, .ref q_bits, .ref q_made, .ref q_has, .ref q_groups, .int f_found, .int f_passed, .long f_looked, .ref q_sums, .ref q_numbers])), (q_bar, .inl (cI, 160, .inl f_bar)), (q_bits, .inl (cJ, 160, .inr (.inl f_bits))), (q_made, .inl (cI, 4, .inl f_made)), (q_has, .inl (cZ, 3, .inl f_has)), (q_groups, .inl (cJ, 128, .inr (.inl f_groups))), (q_sums, .inl (cJ, 8, .inr (.inl f_sums))), (q_numbers, .inl (cJ, 9, .inr (.inl f_numbers)))] H → va_D A [(q, .inr (6, [.ref q_bar, .ref q_bits, .ref q_made, .ref q_has, .ref q_groups, .int f_found, .int f_passed, .long f_looked, .ref q_sums, .ref q_numbers])), (q_bar, .inl (cI, 160, .inl f_bar)), (q_bits, .inl (cJ, 160, .inr (.inl f_bits))), (q_made, .inl (cI, 4, .inl f_made)), (q_has, .inl (cZ, 3, .inl f_has)), (q_groups, .inl (cJ, 128, .inr (.inl f_groups))), (q_sums, .inl (cJ, 8, .inr (.inl f_sums))), (q_numbers, .inl (cJ, 9, .inr (.inl f_numbers)))] → va_S A s.heap H locs → W p l e (headSpec wsX8_join { frames := 5, cells := 0, slots := 0, locals := 121 }).room s m ([.ref q, .int y1, .int y2] : List Value).toArray below meth c H locs 0 0 (MQ below (hb_Qi G r.1 [(q, .inr (6, [.ref q_bar, .ref q_bits, .ref q_made, .ref q_has, .ref q_groups, .int f_found, .int f_passed, .long f_looked, .ref q_sums, .ref q_numbers])), (q_bar, .inl (cI, 160, .inl r.2.1)), (q_bits, .inl (cJ, 160, .inr (.inl r.2.2.1))), (q_made, .inl (cI, 4, .inl r.2.2.2)), (q_has, .inl (cZ, 3, .inl f_has)), (q_groups, .inl (cJ, 128, .inr (.inl f_groups))), (q_sums, .inl (cJ, 8, .inr (.inl f_sums))), (q_numbers, .inl (cJ, 9, .inr (.inl f_numbers)))] A) ([.ref q, .int y1, .int y2] : List Value).toArray s 0 0 A) (F0 m 0 ls []) from hh s.heap [] hP hD hS
  intro H locs hP hD hS
  unfold p_X8_join at h
  refine lv_aload_n hx hb dX8_join_0 rfl (lv_at hl 0 rfl) ?_
  refine lv_iload_n hx hb dX8_join_1 rfl (lv_at hl 1 rfl) ?_
  obtain ⟨v2, hv2, h⟩ := pf_bind h
  refine hb_calli (hb_runV (G := G) (T := hbT cI cJ cZ cS) (As := [.int y1]) (rest := []) S0 (c_X8_isField l G cI cJ cZ cS q q_bar q_bits q_made q_has q_groups q_sums q_numbers H.size f_bar f_bits f_made f_has f_groups f_found f_passed f_looked f_sums f_numbers y1 v2 hv2) (cwV 1 hts gX8_join_X8_isField rfl rfl rfl kv_X8_isField ⟨Nat.le_of_ble_eq_true rfl, Nat.le_of_ble_eq_true rfl⟩) hK (hP.sub [0, 1, 2, 3, 4, 5, 6, 7] rfl) (hD.sub [0, 1, 2, 3, 4, 5, 6, 7] (by decide) rfl) rfl rfl rfl hl.1 rfl (Nat.le_of_ble_eq_true rfl) dX8_join_2 ⟨Nat.zero_le _, Nat.zero_le _⟩) hP hD hS hA [0, 1, 2, 3, 4, 5, 6, 7] [] [0, 1, 2, 3, 4, 5, 6, 7] rfl (wr := []) rfl (by decide) (by decide) (w2 := [(q, .inr (6, [.ref q_bar, .ref q_bits, .ref q_made, .ref q_has, .ref q_groups, .int f_found, .int f_passed, .long f_looked, .ref q_sums, .ref q_numbers])), (q_bar, .inl (cI, 160, .inl f_bar)), (q_bits, .inl (cJ, 160, .inr (.inl f_bits))), (q_made, .inl (cI, 4, .inl f_made)), (q_has, .inl (cZ, 3, .inl f_has)), (q_groups, .inl (cJ, 128, .inr (.inl f_groups))), (q_sums, .inl (cJ, 8, .inr (.inl f_sums))), (q_numbers, .inl (cJ, 9, .inr (.inl f_numbers)))]) (by decide) rfl rfl (fun H locs hP hD hS => ?_)
  refine lv_if_eq (tgt := 36) hx hb dX8_join_5 (by decide) (fun c5 => ?_) (fun c5 => ?_)
  · have h := pf_pos h c5
    refine lv_iconst (v := -1) hx hb dX8_join_36 (by decide) ?_
    cases h
    exact hb_iret hx hb hr hlocks hP hD hS dX8_join_37
  · have h := pf_neg h c5
    refine lv_aload_n hx hb dX8_join_8 rfl (lv_at hl 0 rfl) ?_
    refine lv_iload_n hx hb dX8_join_9 rfl (lv_at hl 2 rfl) ?_
    obtain ⟨v10, hv10, h⟩ := pf_bind h
    refine hb_calli (hb_runV (G := G) (T := hbT cI cJ cZ cS) (As := [.int y2]) (rest := []) S0 (c_X8_isField l G cI cJ cZ cS q q_bar q_bits q_made q_has q_groups q_sums q_numbers H.size f_bar f_bits f_made f_has f_groups f_found f_passed f_looked f_sums f_numbers y2 v10 hv10) (cwV 1 hts gX8_join_X8_isField rfl rfl rfl kv_X8_isField ⟨Nat.le_of_ble_eq_true rfl, Nat.le_of_ble_eq_true rfl⟩) hK (hP.sub [0, 1, 2, 3, 4, 5, 6, 7] rfl) (hD.sub [0, 1, 2, 3, 4, 5, 6, 7] (by decide) rfl) rfl rfl rfl hl.1 rfl (Nat.le_of_ble_eq_true rfl) dX8_join_10 ⟨Nat.zero_le _, Nat.zero_le _⟩) hP hD hS hA [0, 1, 2, 3, 4, 5, 6, 7] [] [0, 1, 2, 3, 4, 5, 6, 7] rfl (wr := []) rfl (by decide) (by decide) (w2 := [(q, .inr (6, [.ref q_bar, .ref q_bits, .ref q_made, .ref q_has, .ref q_groups, .int f_found, .int f_passed, .long f_looked, .ref q_sums, .ref q_numbers])), (q_bar, .inl (cI, 160, .inl f_bar)), (q_bits, .inl (cJ, 160, .inr (.inl f_bits))), (q_made, .inl (cI, 4, .inl f_made)), (q_has, .inl (cZ, 3, .inl f_has)), (q_groups, .inl (cJ, 128, .inr (.inl f_groups))), (q_sums, .inl (cJ, 8, .inr (.inl f_sums))), (q_numbers, .inl (cJ, 9, .inr (.inl f_numbers)))]) (by decide) rfl rfl (fun H locs hP hD hS => ?_)
    refine lv_if_eq (tgt := 36) hx hb dX8_join_13 (by decide) (fun c13 => ?_) (fun c13 => ?_)
    · have h := pf_pos h c13
      refine lv_iconst (v := -1) hx hb dX8_join_36 (by decide) ?_
      cases h
      exact hb_iret hx hb hr hlocks hP hD hS dX8_join_37
    · have h := pf_neg h c13
      refine lv_aload_n hx hb dX8_join_16 rfl (lv_at hl 0 rfl) ?_
      refine va_get (D := G) (ci := 6) (v := .ref q_bar) (C := RX8) (T := TX8) (N := 10) hx hb hts in_X8_join_X8 hown hK.1 hP 0 rfl rfl 0 (by decide) (hts (.fieldLink RX8 7 "FieldsByClassesModel" "bar" "[I") (by decide +kernel)) (fun _ h9 => h9) rfl dX8_join_17 ?_
      refine lv_iload_n hx hb dX8_join_20 rfl (lv_at hl 1 rfl) ?_
      obtain ⟨hi21, h⟩ := pf_need h
      refine va_iald hx hb hK.1 hP 1 0 rfl rfl (ain_of hi21) dX8_join_21 ?_
      refine lv_aload_n hx hb dX8_join_22 rfl (lv_at hl 0 rfl) ?_
      refine va_get (D := G) (ci := 6) (v := .ref q_bar) (C := RX8) (T := TX8) (N := 10) hx hb hts in_X8_join_X8 hown hK.1 hP 0 rfl rfl 0 (by decide) (hts (.fieldLink RX8 7 "FieldsByClassesModel" "bar" "[I") (by decide +kernel)) (fun _ h9 => h9) rfl dX8_join_23 ?_
      refine lv_iload_n hx hb dX8_join_26 rfl (lv_at hl 2 rfl) ?_
      obtain ⟨hi27, h⟩ := pf_need h
      refine va_iald hx hb hK.1 hP 1 0 rfl rfl (ain_of hi27) dX8_join_27 ?_
      obtain ⟨v28, hv28, h⟩ := pf_bind h
      refine pf_call (As := [.int (f_bar (y1).toNatClampNeg), .int (f_bar (y2).toNatClampNeg)]) (rest := []) S0 (c_X8_multiple l (f_bar (y1).toNatClampNeg) (f_bar (y2).toNatClampNeg) v28 hv28) (va_cwS 2 hts gX8_join_X8_multiple rfl rfl rfl kd_X8_multiple ⟨Nat.le_of_ble_eq_true rfl, Nat.le_of_ble_eq_true rfl⟩) rfl hl.1 rfl (Nat.le_of_ble_eq_true rfl) dX8_join_28 ⟨Nat.zero_le _, Nat.zero_le _⟩ ?_
      refine lv_bipush (v := 63) hx hb dX8_join_31 (by decide) ?_
      refine lv_icmp_le (tgt := 38) hx hb dX8_join_33 (by decide) (fun c33 => ?_) (fun c33 => ?_)
      · have h := pf_pos h c33
        refine lv_aload_n hx hb dX8_join_38 rfl (lv_at hl 0 rfl) ?_
        refine va_get (D := G) (ci := 6) (v := .ref q_bar) (C := RX8) (T := TX8) (N := 10) hx hb hts in_X8_join_X8 hown hK.1 hP 0 rfl rfl 0 (by decide) (hts (.fieldLink RX8 7 "FieldsByClassesModel" "bar" "[I") (by decide +kernel)) (fun _ h9 => h9) rfl dX8_join_39 ?_
        refine lv_iload_n hx hb dX8_join_42 rfl (lv_at hl 1 rfl) ?_
        obtain ⟨hi43, h⟩ := pf_need h
        refine va_iald hx hb hK.1 hP 1 0 rfl rfl (ain_of hi43) dX8_join_43 ?_
        refine lv_aload_n hx hb dX8_join_44 rfl (lv_at hl 0 rfl) ?_
        refine va_get (D := G) (ci := 6) (v := .ref q_bar) (C := RX8) (T := TX8) (N := 10) hx hb hts in_X8_join_X8 hown hK.1 hP 0 rfl rfl 0 (by decide) (hts (.fieldLink RX8 7 "FieldsByClassesModel" "bar" "[I") (by decide +kernel)) (fun _ h9 => h9) rfl dX8_join_45 ?_
        refine lv_iload_n hx hb dX8_join_48 rfl (lv_at hl 2 rfl) ?_
        obtain ⟨hi49, h⟩ := pf_need h
        refine va_iald hx hb hK.1 hP 1 0 rfl rfl (ain_of hi49) dX8_join_49 ?_
        obtain ⟨v50, hv50, h⟩ := pf_bind h
        refine pf_call (As := [.int (f_bar (y1).toNatClampNeg), .int (f_bar (y2).toNatClampNeg)]) (rest := []) S0 (c_X8_multiple l (f_bar (y1).toNatClampNeg) (f_bar (y2).toNatClampNeg) v50 hv50) (va_cwS 2 hts gX8_join_X8_multiple rfl rfl rfl kd_X8_multiple ⟨Nat.le_of_ble_eq_true rfl, Nat.le_of_ble_eq_true rfl⟩) rfl hl.1 rfl (Nat.le_of_ble_eq_true rfl) dX8_join_50 ⟨Nat.zero_le _, Nat.zero_le _⟩ ?_
        refine lv_istore_n (lv' := [(3, .int v50), (0, .ref q), (1, .int y1), (2, .int y2)]) hx hb dX8_join_53 rfl hl (by decide) rfl (fun ls hl => ?_)
        refine lv_aload_n hx hb dX8_join_54 rfl (lv_at hl 1 rfl) ?_
        refine lv_iload_n hx hb dX8_join_55 rfl (lv_at hl 0 rfl) ?_
        refine lv_aload_n hx hb dX8_join_56 rfl (lv_at hl 1 rfl) ?_
        refine va_get (D := G) (ci := 6) (v := .ref q_bar) (C := RX8) (T := TX8) (N := 10) hx hb hts in_X8_join_X8 hown hK.1 hP 0 rfl rfl 0 (by decide) (hts (.fieldLink RX8 7 "FieldsByClassesModel" "bar" "[I") (by decide +kernel)) (fun _ h9 => h9) rfl dX8_join_57 ?_
        refine lv_iload_n hx hb dX8_join_60 rfl (lv_at hl 2 rfl) ?_
        obtain ⟨hi61, h⟩ := pf_need h
        refine va_iald hx hb hK.1 hP 1 0 rfl rfl (ain_of hi61) dX8_join_61 ?_
        refine lv_aload_n hx hb dX8_join_62 rfl (lv_at hl 1 rfl) ?_
        refine va_get (D := G) (ci := 6) (v := .ref q_bits) (C := RX8) (T := TX8) (N := 10) hx hb hts in_X8_join_X8 hown hK.1 hP 0 rfl rfl 1 (by decide) (hts (.fieldLink RX8 13 "FieldsByClassesModel" "bits" "[J") (by decide +kernel)) (fun _ h9 => h9) rfl dX8_join_63 ?_
        refine lv_iload_n hx hb dX8_join_66 rfl (lv_at hl 2 rfl) ?_
        obtain ⟨hi67, h⟩ := pf_need h
        refine va_lald hx hb hK.1 hP 2 1 rfl rfl (ain_of hi67) dX8_join_67 ?_
        refine lv_iload_n hx hb dX8_join_68 rfl (lv_at hl 0 rfl) ?_
        obtain ⟨v69, hv69, h⟩ := pf_bind h
        refine pf_call (As := [.int (f_bar (y1).toNatClampNeg), .long (f_bits (y1).toNatClampNeg), .int v50]) (rest := [.int v50, .ref q]) S0 (c_X8_up l (f_bar (y1).toNatClampNeg) (f_bits (y1).toNatClampNeg) v50 v69 hv69) (va_cwS 3 hts gX8_join_X8_up rfl rfl rfl kd_X8_up ⟨Nat.le_of_ble_eq_true rfl, Nat.le_of_ble_eq_true rfl⟩) rfl hl.1 rfl (Nat.le_of_ble_eq_true rfl) dX8_join_69 ⟨Nat.zero_le _, Nat.zero_le _⟩ ?_
        refine lv_aload_n hx hb dX8_join_72 rfl (lv_at hl 1 rfl) ?_
        refine va_get (D := G) (ci := 6) (v := .ref q_bar) (C := RX8) (T := TX8) (N := 10) hx hb hts in_X8_join_X8 hown hK.1 hP 0 rfl rfl 0 (by decide) (hts (.fieldLink RX8 7 "FieldsByClassesModel" "bar" "[I") (by decide +kernel)) (fun _ h9 => h9) rfl dX8_join_73 ?_
        refine lv_iload_n hx hb dX8_join_76 rfl (lv_at hl 3 rfl) ?_
        obtain ⟨hi77, h⟩ := pf_need h
        refine va_iald hx hb hK.1 hP 1 0 rfl rfl (ain_of hi77) dX8_join_77 ?_
        refine lv_aload_n hx hb dX8_join_78 rfl (lv_at hl 1 rfl) ?_
        refine va_get (D := G) (ci := 6) (v := .ref q_bits) (C := RX8) (T := TX8) (N := 10) hx hb hts in_X8_join_X8 hown hK.1 hP 0 rfl rfl 1 (by decide) (hts (.fieldLink RX8 13 "FieldsByClassesModel" "bits" "[J") (by decide +kernel)) (fun _ h9 => h9) rfl dX8_join_79 ?_
        refine lv_iload_n hx hb dX8_join_82 rfl (lv_at hl 3 rfl) ?_
        obtain ⟨hi83, h⟩ := pf_need h
        refine va_lald hx hb hK.1 hP 2 1 rfl rfl (ain_of hi83) dX8_join_83 ?_
        refine lv_iload_n hx hb dX8_join_84 rfl (lv_at hl 0 rfl) ?_
        obtain ⟨v85, hv85, h⟩ := pf_bind h
        refine pf_call (As := [.int (f_bar (y2).toNatClampNeg), .long (f_bits (y2).toNatClampNeg), .int v50]) (rest := [.long v69, .int v50, .ref q]) S0 (c_X8_up l (f_bar (y2).toNatClampNeg) (f_bits (y2).toNatClampNeg) v50 v85 hv85) (va_cwS 3 hts gX8_join_X8_up rfl rfl rfl kd_X8_up ⟨Nat.le_of_ble_eq_true rfl, Nat.le_of_ble_eq_true rfl⟩) rfl hl.1 rfl (Nat.le_of_ble_eq_true rfl) dX8_join_85 ⟨Nat.zero_le _, Nat.zero_le _⟩ ?_
        refine lv_land hx hb dX8_join_88 ?_
        obtain ⟨v89, hv89, h⟩ := pf_bind h
        refine hb_calli (hb_runV (G := G) (T := hbT cI cJ cZ cS) (As := [.int v50, .long (v69 &&& v85)]) (rest := []) S0 (c_X8_keeps l G cI cJ cZ cS q q_bar q_bits q_made q_has q_groups q_sums q_numbers H.size f_bar f_bits f_made f_has f_groups f_found f_passed f_looked f_sums f_numbers v50 (v69 &&& v85) v89 hv89) (cwV 2 hts gX8_join_X8_keeps rfl rfl rfl kv_X8_keeps ⟨Nat.le_of_ble_eq_true rfl, Nat.le_of_ble_eq_true rfl⟩) hK (hP.sub [0, 1, 2, 3, 4, 5, 6, 7] rfl) (hD.sub [0, 1, 2, 3, 4, 5, 6, 7] (by decide) rfl) rfl rfl rfl hl.1 rfl (Nat.le_of_ble_eq_true rfl) dX8_join_89 ⟨Nat.zero_le _, Nat.zero_le _⟩) hP hD hS hA [0, 1, 2, 3, 4, 5, 6, 7] [] [0, 1, 2, 3, 4, 5, 6, 7] rfl (wr := []) rfl (by decide) (by decide) (w2 := [(q, .inr (6, [.ref q_bar, .ref q_bits, .ref q_made, .ref q_has, .ref q_groups, .int f_found, .int f_passed, .long f_looked, .ref q_sums, .ref q_numbers])), (q_bar, .inl (cI, 160, .inl v89.2.1)), (q_bits, .inl (cJ, 160, .inr (.inl v89.2.2.1))), (q_made, .inl (cI, 4, .inl v89.2.2.2)), (q_has, .inl (cZ, 3, .inl f_has)), (q_groups, .inl (cJ, 128, .inr (.inl f_groups))), (q_sums, .inl (cJ, 8, .inr (.inl f_sums))), (q_numbers, .inl (cJ, 9, .inr (.inl f_numbers)))]) (by decide) rfl rfl (fun H locs hP hD hS => ?_)
        cases h
        exact hb_iret hx hb hr hlocks hP hD hS dX8_join_92
      · have h := pf_neg h c33
        refine lv_iconst (v := -1) hx hb dX8_join_36 (by decide) ?_
        cases h
        exact hb_iret hx hb hr hlocks hP hD hS dX8_join_37
-- X8_meet
def p_X8_meet (f_bar : (Nat → Int32)) (f_bits : (Nat → Int64)) (f_made : (Nat → Int32)) (y1 : Int32) (y2 : Int32) : Option (Int32 × (Nat → Int32) × (Nat → Int64) × (Nat → Int32)) :=
  ((p_X8_isField f_made y1).bind fun v2 => (if v2 = 0 then some ((-1 : Int32), f_bar, f_bits, f_made) else ((p_X8_isField f_made y2).bind fun v10 => (if v10 = 0 then some ((-1 : Int32), f_bar, f_bits, f_made) else (if ainB y1 160 = true then (if ainB y2 160 = true then ((p_X8_multiple (f_bar (y1).toNatClampNeg) (f_bar (y2).toNatClampNeg)).bind fun v28 => (if v28 ≤ (63 : Int32) then (if ainB y1 160 = true then (if ainB y2 160 = true then ((p_X8_multiple (f_bar (y1).toNatClampNeg) (f_bar (y2).toNatClampNeg)).bind fun v50 => (if ainB y1 160 = true then (if ainB y1 160 = true then ((p_X8_up (f_bar (y1).toNatClampNeg) (f_bits (y1).toNatClampNeg) v50).bind fun v70 => (if ainB y2 160 = true then (if ainB y2 160 = true then ((p_X8_up (f_bar (y2).toNatClampNeg) (f_bits (y2).toNatClampNeg) v50).bind fun v86 => ((p_X8_product v50 v70 v86).bind fun v89 => ((p_X8_keeps f_bar f_bits f_made v50 v89).bind fun v92 => some (v92.1, v92.2.1, v92.2.2.1, v92.2.2.2)))) else none) else none)) else none) else none)) else none) else none) else some ((-1 : Int32), f_bar, f_bits, f_made))) else none) else none)))))
theorem in_X8_meet_X8 : ∀ w ∈ u_ws RX8 TX8 10, w ∈ wsX8_meet := fun w h => List.mem_cons_of_mem _ (List.mem_append_right _ h)
theorem kv_X8_meet : yX8_meet.cls = RX8 ∧ yX8_meet.cls ≠ "java/lang/invoke/MethodHandle" ∧ yX8_meet.cls ≠ "java/lang/invoke/VarHandle" ∧ (parseMethodDescriptor yX8_meet.desc).map (fun d => d.parameters.length) = some 2 := by decide +kernel
set_option maxHeartbeats 4000000 in
set_option maxRecDepth 100000 in
theorem c_X8_meet (l : Launch) (G : va_G) (cI cJ cZ cS : ClassId) (q q_bar q_bits q_made q_has q_groups q_sums q_numbers : Nat) (sz : Nat) (f_bar : (Nat → Int32)) (f_bits : (Nat → Int64)) (f_made : (Nat → Int32)) (f_has : (Nat → Int32)) (f_groups : (Nat → Int64)) (f_found : Int32) (f_passed : Int32) (f_looked : Int64) (f_sums : (Nat → Int64)) (f_numbers : (Nat → Int64)) (y1 : Int32) (y2 : Int32) (r : (Int32 × (Nat → Int32) × (Nat → Int64) × (Nat → Int32))) (h : p_X8_meet f_bar f_bits f_made y1 y2 = some r) : Met l yX8_meet wsX8_meet { frames := 5, cells := 0, slots := 0, locals := 121 } (hb_pre G (hbT cI cJ cZ cS) [.ref q, .int y1, .int y2] sz [(q, .inr (6, [.ref q_bar, .ref q_bits, .ref q_made, .ref q_has, .ref q_groups, .int f_found, .int f_passed, .long f_looked, .ref q_sums, .ref q_numbers])), (q_bar, .inl (cI, 160, .inl f_bar)), (q_bits, .inl (cJ, 160, .inr (.inl f_bits))), (q_made, .inl (cI, 4, .inl f_made)), (q_has, .inl (cZ, 3, .inl f_has)), (q_groups, .inl (cJ, 128, .inr (.inl f_groups))), (q_sums, .inl (cJ, 8, .inr (.inl f_sums))), (q_numbers, .inl (cJ, 9, .inr (.inl f_numbers)))]) (hb_Qi G r.1 [(q, .inr (6, [.ref q_bar, .ref q_bits, .ref q_made, .ref q_has, .ref q_groups, .int f_found, .int f_passed, .long f_looked, .ref q_sums, .ref q_numbers])), (q_bar, .inl (cI, 160, .inl r.2.1)), (q_bits, .inl (cJ, 160, .inr (.inl r.2.2.1))), (q_made, .inl (cI, 4, .inl r.2.2.2)), (q_has, .inl (cZ, 3, .inl f_has)), (q_groups, .inl (cJ, 128, .inr (.inl f_groups))), (q_sums, .inl (cJ, 8, .inr (.inl f_sums))), (q_numbers, .inl (cJ, 9, .inr (.inl f_numbers)))] (va_A [(q, .inr (6, [.ref q_bar, .ref q_bits, .ref q_made, .ref q_has, .ref q_groups, .int f_found, .int f_passed, .long f_looked, .ref q_sums, .ref q_numbers])), (q_bar, .inl (cI, 160, .inl f_bar)), (q_bits, .inl (cJ, 160, .inr (.inl f_bits))), (q_made, .inl (cI, 4, .inl f_made)), (q_has, .inl (cZ, 3, .inl f_has)), (q_groups, .inl (cJ, 128, .inr (.inl f_groups))), (q_sums, .inl (cJ, 8, .inr (.inl f_sums))), (q_numbers, .inl (cJ, 9, .inr (.inl f_numbers)))] sz)) 0 0 (va_A [(q, .inr (6, [.ref q_bar, .ref q_bits, .ref q_made, .ref q_has, .ref q_groups, .int f_found, .int f_passed, .long f_looked, .ref q_sums, .ref q_numbers])), (q_bar, .inl (cI, 160, .inl f_bar)), (q_bits, .inl (cJ, 160, .inr (.inl f_bits))), (q_made, .inl (cI, 4, .inl f_made)), (q_has, .inl (cZ, 3, .inl f_has)), (q_groups, .inl (cJ, 128, .inr (.inl f_groups))), (q_sums, .inl (cJ, 8, .inr (.inl f_sums))), (q_numbers, .inl (cJ, 9, .inr (.inl f_numbers)))] sz) := by
  refine hb_met (Qc := fun A => hb_Qi G r.1 [(q, .inr (6, [.ref q_bar, .ref q_bits, .ref q_made, .ref q_has, .ref q_groups, .int f_found, .int f_passed, .long f_looked, .ref q_sums, .ref q_numbers])), (q_bar, .inl (cI, 160, .inl r.2.1)), (q_bits, .inl (cJ, 160, .inr (.inl r.2.2.1))), (q_made, .inl (cI, 4, .inl r.2.2.2)), (q_has, .inl (cZ, 3, .inl f_has)), (q_groups, .inl (cJ, 128, .inr (.inl f_groups))), (q_sums, .inl (cJ, 8, .inr (.inl f_sums))), (q_numbers, .inl (cJ, 9, .inr (.inl f_numbers)))] A) (cc := cX8_meet) (maxL := 4) (ret := some .int) (by decide) rfl (Nat.le_of_ble_eq_true rfl) ?_
  intro p e s m below meth c A hx hb hr hts hown hlocks hml hin hK hA hP hD hS ls hl
  have hown : s.vm.findClass RX8 = some m.cls := hown
  have S0 : CallFix p m c cX8_meet 4 s ([.ref q, .int y1, .int y2] : List Value).toArray wsX8_meet RX8 := ⟨hx, hb, hml, hown, hts⟩
  have hl : lv_has ls 4 [(0, .ref q), (1, .int y1), (2, .int y2)] := hl
  suffices hh : ∀ (H : Heap) (locs : List Loc), va_P G vwCl [(q, .inr (6, [.ref q_bar, .ref q_bits, .ref q_made, .ref q_has, .ref q_groups, .int f_found, .int f_passed, .long f_looked, .ref q_sums, .ref q_numbers])), (q_bar, .inl (cI, 160, .inl f_bar)), (q_bits, .inl (cJ, 160, .inr (.inl f_bits))), (q_made, .inl (cI, 4, .inl f_made)), (q_has, .inl (cZ, 3, .inl f_has)), (q_groups, .inl (cJ, 128, .inr (.inl f_groups))), (q_sums, .inl (cJ, 8, .inr (.inl f_sums))), (q_numbers, .inl (cJ, 9, .inr (.inl f_numbers)))] H → va_D A [(q, .inr (6, [.ref q_bar, .ref q_bits, .ref q_made, .ref q_has, .ref q_groups, .int f_found, .int f_passed, .long f_looked, .ref q_sums, .ref q_numbers])), (q_bar, .inl (cI, 160, .inl f_bar)), (q_bits, .inl (cJ, 160, .inr (.inl f_bits))), (q_made, .inl (cI, 4, .inl f_made)), (q_has, .inl (cZ, 3, .inl f_has)), (q_groups, .inl (cJ, 128, .inr (.inl f_groups))), (q_sums, .inl (cJ, 8, .inr (.inl f_sums))), (q_numbers, .inl (cJ, 9, .inr (.inl f_numbers)))] → va_S A s.heap H locs → W p l e (headSpec wsX8_meet { frames := 5, cells := 0, slots := 0, locals := 121 }).room s m ([.ref q, .int y1, .int y2] : List Value).toArray below meth c H locs 0 0 (MQ below (hb_Qi G r.1 [(q, .inr (6, [.ref q_bar, .ref q_bits, .ref q_made, .ref q_has, .ref q_groups, .int f_found, .int f_passed, .long f_looked, .ref q_sums, .ref q_numbers])), (q_bar, .inl (cI, 160, .inl r.2.1)), (q_bits, .inl (cJ, 160, .inr (.inl r.2.2.1))), (q_made, .inl (cI, 4, .inl r.2.2.2)), (q_has, .inl (cZ, 3, .inl f_has)), (q_groups, .inl (cJ, 128, .inr (.inl f_groups))), (q_sums, .inl (cJ, 8, .inr (.inl f_sums))), (q_numbers, .inl (cJ, 9, .inr (.inl f_numbers)))] A) ([.ref q, .int y1, .int y2] : List Value).toArray s 0 0 A) (F0 m 0 ls []) from hh s.heap [] hP hD hS
  intro H locs hP hD hS
  unfold p_X8_meet at h
  refine lv_aload_n hx hb dX8_meet_0 rfl (lv_at hl 0 rfl) ?_
  refine lv_iload_n hx hb dX8_meet_1 rfl (lv_at hl 1 rfl) ?_
  obtain ⟨v2, hv2, h⟩ := pf_bind h
  refine hb_calli (hb_runV (G := G) (T := hbT cI cJ cZ cS) (As := [.int y1]) (rest := []) S0 (c_X8_isField l G cI cJ cZ cS q q_bar q_bits q_made q_has q_groups q_sums q_numbers H.size f_bar f_bits f_made f_has f_groups f_found f_passed f_looked f_sums f_numbers y1 v2 hv2) (cwV 1 hts gX8_meet_X8_isField rfl rfl rfl kv_X8_isField ⟨Nat.le_of_ble_eq_true rfl, Nat.le_of_ble_eq_true rfl⟩) hK (hP.sub [0, 1, 2, 3, 4, 5, 6, 7] rfl) (hD.sub [0, 1, 2, 3, 4, 5, 6, 7] (by decide) rfl) rfl rfl rfl hl.1 rfl (Nat.le_of_ble_eq_true rfl) dX8_meet_2 ⟨Nat.zero_le _, Nat.zero_le _⟩) hP hD hS hA [0, 1, 2, 3, 4, 5, 6, 7] [] [0, 1, 2, 3, 4, 5, 6, 7] rfl (wr := []) rfl (by decide) (by decide) (w2 := [(q, .inr (6, [.ref q_bar, .ref q_bits, .ref q_made, .ref q_has, .ref q_groups, .int f_found, .int f_passed, .long f_looked, .ref q_sums, .ref q_numbers])), (q_bar, .inl (cI, 160, .inl f_bar)), (q_bits, .inl (cJ, 160, .inr (.inl f_bits))), (q_made, .inl (cI, 4, .inl f_made)), (q_has, .inl (cZ, 3, .inl f_has)), (q_groups, .inl (cJ, 128, .inr (.inl f_groups))), (q_sums, .inl (cJ, 8, .inr (.inl f_sums))), (q_numbers, .inl (cJ, 9, .inr (.inl f_numbers)))]) (by decide) rfl rfl (fun H locs hP hD hS => ?_)
  refine lv_if_eq (tgt := 36) hx hb dX8_meet_5 (by decide) (fun c5 => ?_) (fun c5 => ?_)
  · have h := pf_pos h c5
    refine lv_iconst (v := -1) hx hb dX8_meet_36 (by decide) ?_
    cases h
    exact hb_iret hx hb hr hlocks hP hD hS dX8_meet_37
  · have h := pf_neg h c5
    refine lv_aload_n hx hb dX8_meet_8 rfl (lv_at hl 0 rfl) ?_
    refine lv_iload_n hx hb dX8_meet_9 rfl (lv_at hl 2 rfl) ?_
    obtain ⟨v10, hv10, h⟩ := pf_bind h
    refine hb_calli (hb_runV (G := G) (T := hbT cI cJ cZ cS) (As := [.int y2]) (rest := []) S0 (c_X8_isField l G cI cJ cZ cS q q_bar q_bits q_made q_has q_groups q_sums q_numbers H.size f_bar f_bits f_made f_has f_groups f_found f_passed f_looked f_sums f_numbers y2 v10 hv10) (cwV 1 hts gX8_meet_X8_isField rfl rfl rfl kv_X8_isField ⟨Nat.le_of_ble_eq_true rfl, Nat.le_of_ble_eq_true rfl⟩) hK (hP.sub [0, 1, 2, 3, 4, 5, 6, 7] rfl) (hD.sub [0, 1, 2, 3, 4, 5, 6, 7] (by decide) rfl) rfl rfl rfl hl.1 rfl (Nat.le_of_ble_eq_true rfl) dX8_meet_10 ⟨Nat.zero_le _, Nat.zero_le _⟩) hP hD hS hA [0, 1, 2, 3, 4, 5, 6, 7] [] [0, 1, 2, 3, 4, 5, 6, 7] rfl (wr := []) rfl (by decide) (by decide) (w2 := [(q, .inr (6, [.ref q_bar, .ref q_bits, .ref q_made, .ref q_has, .ref q_groups, .int f_found, .int f_passed, .long f_looked, .ref q_sums, .ref q_numbers])), (q_bar, .inl (cI, 160, .inl f_bar)), (q_bits, .inl (cJ, 160, .inr (.inl f_bits))), (q_made, .inl (cI, 4, .inl f_made)), (q_has, .inl (cZ, 3, .inl f_has)), (q_groups, .inl (cJ, 128, .inr (.inl f_groups))), (q_sums, .inl (cJ, 8, .inr (.inl f_sums))), (q_numbers, .inl (cJ, 9, .inr (.inl f_numbers)))]) (by decide) rfl rfl (fun H locs hP hD hS => ?_)
    refine lv_if_eq (tgt := 36) hx hb dX8_meet_13 (by decide) (fun c13 => ?_) (fun c13 => ?_)
    · have h := pf_pos h c13
      refine lv_iconst (v := -1) hx hb dX8_meet_36 (by decide) ?_
      cases h
      exact hb_iret hx hb hr hlocks hP hD hS dX8_meet_37
    · have h := pf_neg h c13
      refine lv_aload_n hx hb dX8_meet_16 rfl (lv_at hl 0 rfl) ?_
      refine va_get (D := G) (ci := 6) (v := .ref q_bar) (C := RX8) (T := TX8) (N := 10) hx hb hts in_X8_meet_X8 hown hK.1 hP 0 rfl rfl 0 (by decide) (hts (.fieldLink RX8 7 "FieldsByClassesModel" "bar" "[I") (by decide +kernel)) (fun _ h9 => h9) rfl dX8_meet_17 ?_
      refine lv_iload_n hx hb dX8_meet_20 rfl (lv_at hl 1 rfl) ?_
      obtain ⟨hi21, h⟩ := pf_need h
      refine va_iald hx hb hK.1 hP 1 0 rfl rfl (ain_of hi21) dX8_meet_21 ?_
      refine lv_aload_n hx hb dX8_meet_22 rfl (lv_at hl 0 rfl) ?_
      refine va_get (D := G) (ci := 6) (v := .ref q_bar) (C := RX8) (T := TX8) (N := 10) hx hb hts in_X8_meet_X8 hown hK.1 hP 0 rfl rfl 0 (by decide) (hts (.fieldLink RX8 7 "FieldsByClassesModel" "bar" "[I") (by decide +kernel)) (fun _ h9 => h9) rfl dX8_meet_23 ?_
      refine lv_iload_n hx hb dX8_meet_26 rfl (lv_at hl 2 rfl) ?_
      obtain ⟨hi27, h⟩ := pf_need h
      refine va_iald hx hb hK.1 hP 1 0 rfl rfl (ain_of hi27) dX8_meet_27 ?_
      obtain ⟨v28, hv28, h⟩ := pf_bind h
      refine pf_call (As := [.int (f_bar (y1).toNatClampNeg), .int (f_bar (y2).toNatClampNeg)]) (rest := []) S0 (c_X8_multiple l (f_bar (y1).toNatClampNeg) (f_bar (y2).toNatClampNeg) v28 hv28) (va_cwS 2 hts gX8_meet_X8_multiple rfl rfl rfl kd_X8_multiple ⟨Nat.le_of_ble_eq_true rfl, Nat.le_of_ble_eq_true rfl⟩) rfl hl.1 rfl (Nat.le_of_ble_eq_true rfl) dX8_meet_28 ⟨Nat.zero_le _, Nat.zero_le _⟩ ?_
      refine lv_bipush (v := 63) hx hb dX8_meet_31 (by decide) ?_
      refine lv_icmp_le (tgt := 38) hx hb dX8_meet_33 (by decide) (fun c33 => ?_) (fun c33 => ?_)
      · have h := pf_pos h c33
        refine lv_aload_n hx hb dX8_meet_38 rfl (lv_at hl 0 rfl) ?_
        refine va_get (D := G) (ci := 6) (v := .ref q_bar) (C := RX8) (T := TX8) (N := 10) hx hb hts in_X8_meet_X8 hown hK.1 hP 0 rfl rfl 0 (by decide) (hts (.fieldLink RX8 7 "FieldsByClassesModel" "bar" "[I") (by decide +kernel)) (fun _ h9 => h9) rfl dX8_meet_39 ?_
        refine lv_iload_n hx hb dX8_meet_42 rfl (lv_at hl 1 rfl) ?_
        obtain ⟨hi43, h⟩ := pf_need h
        refine va_iald hx hb hK.1 hP 1 0 rfl rfl (ain_of hi43) dX8_meet_43 ?_
        refine lv_aload_n hx hb dX8_meet_44 rfl (lv_at hl 0 rfl) ?_
        refine va_get (D := G) (ci := 6) (v := .ref q_bar) (C := RX8) (T := TX8) (N := 10) hx hb hts in_X8_meet_X8 hown hK.1 hP 0 rfl rfl 0 (by decide) (hts (.fieldLink RX8 7 "FieldsByClassesModel" "bar" "[I") (by decide +kernel)) (fun _ h9 => h9) rfl dX8_meet_45 ?_
        refine lv_iload_n hx hb dX8_meet_48 rfl (lv_at hl 2 rfl) ?_
        obtain ⟨hi49, h⟩ := pf_need h
        refine va_iald hx hb hK.1 hP 1 0 rfl rfl (ain_of hi49) dX8_meet_49 ?_
        obtain ⟨v50, hv50, h⟩ := pf_bind h
        refine pf_call (As := [.int (f_bar (y1).toNatClampNeg), .int (f_bar (y2).toNatClampNeg)]) (rest := []) S0 (c_X8_multiple l (f_bar (y1).toNatClampNeg) (f_bar (y2).toNatClampNeg) v50 hv50) (va_cwS 2 hts gX8_meet_X8_multiple rfl rfl rfl kd_X8_multiple ⟨Nat.le_of_ble_eq_true rfl, Nat.le_of_ble_eq_true rfl⟩) rfl hl.1 rfl (Nat.le_of_ble_eq_true rfl) dX8_meet_50 ⟨Nat.zero_le _, Nat.zero_le _⟩ ?_
        refine lv_istore_n (lv' := [(3, .int v50), (0, .ref q), (1, .int y1), (2, .int y2)]) hx hb dX8_meet_53 rfl hl (by decide) rfl (fun ls hl => ?_)
        refine lv_aload_n hx hb dX8_meet_54 rfl (lv_at hl 1 rfl) ?_
        refine lv_iload_n hx hb dX8_meet_55 rfl (lv_at hl 0 rfl) ?_
        refine lv_iload_n hx hb dX8_meet_56 rfl (lv_at hl 0 rfl) ?_
        refine lv_aload_n hx hb dX8_meet_57 rfl (lv_at hl 1 rfl) ?_
        refine va_get (D := G) (ci := 6) (v := .ref q_bar) (C := RX8) (T := TX8) (N := 10) hx hb hts in_X8_meet_X8 hown hK.1 hP 0 rfl rfl 0 (by decide) (hts (.fieldLink RX8 7 "FieldsByClassesModel" "bar" "[I") (by decide +kernel)) (fun _ h9 => h9) rfl dX8_meet_58 ?_
        refine lv_iload_n hx hb dX8_meet_61 rfl (lv_at hl 2 rfl) ?_
        obtain ⟨hi62, h⟩ := pf_need h
        refine va_iald hx hb hK.1 hP 1 0 rfl rfl (ain_of hi62) dX8_meet_62 ?_
        refine lv_aload_n hx hb dX8_meet_63 rfl (lv_at hl 1 rfl) ?_
        refine va_get (D := G) (ci := 6) (v := .ref q_bits) (C := RX8) (T := TX8) (N := 10) hx hb hts in_X8_meet_X8 hown hK.1 hP 0 rfl rfl 1 (by decide) (hts (.fieldLink RX8 13 "FieldsByClassesModel" "bits" "[J") (by decide +kernel)) (fun _ h9 => h9) rfl dX8_meet_64 ?_
        refine lv_iload_n hx hb dX8_meet_67 rfl (lv_at hl 2 rfl) ?_
        obtain ⟨hi68, h⟩ := pf_need h
        refine va_lald hx hb hK.1 hP 2 1 rfl rfl (ain_of hi68) dX8_meet_68 ?_
        refine lv_iload_n hx hb dX8_meet_69 rfl (lv_at hl 0 rfl) ?_
        obtain ⟨v70, hv70, h⟩ := pf_bind h
        refine pf_call (As := [.int (f_bar (y1).toNatClampNeg), .long (f_bits (y1).toNatClampNeg), .int v50]) (rest := [.int v50, .int v50, .ref q]) S0 (c_X8_up l (f_bar (y1).toNatClampNeg) (f_bits (y1).toNatClampNeg) v50 v70 hv70) (va_cwS 3 hts gX8_meet_X8_up rfl rfl rfl kd_X8_up ⟨Nat.le_of_ble_eq_true rfl, Nat.le_of_ble_eq_true rfl⟩) rfl hl.1 rfl (Nat.le_of_ble_eq_true rfl) dX8_meet_70 ⟨Nat.zero_le _, Nat.zero_le _⟩ ?_
        refine lv_aload_n hx hb dX8_meet_73 rfl (lv_at hl 1 rfl) ?_
        refine va_get (D := G) (ci := 6) (v := .ref q_bar) (C := RX8) (T := TX8) (N := 10) hx hb hts in_X8_meet_X8 hown hK.1 hP 0 rfl rfl 0 (by decide) (hts (.fieldLink RX8 7 "FieldsByClassesModel" "bar" "[I") (by decide +kernel)) (fun _ h9 => h9) rfl dX8_meet_74 ?_
        refine lv_iload_n hx hb dX8_meet_77 rfl (lv_at hl 3 rfl) ?_
        obtain ⟨hi78, h⟩ := pf_need h
        refine va_iald hx hb hK.1 hP 1 0 rfl rfl (ain_of hi78) dX8_meet_78 ?_
        refine lv_aload_n hx hb dX8_meet_79 rfl (lv_at hl 1 rfl) ?_
        refine va_get (D := G) (ci := 6) (v := .ref q_bits) (C := RX8) (T := TX8) (N := 10) hx hb hts in_X8_meet_X8 hown hK.1 hP 0 rfl rfl 1 (by decide) (hts (.fieldLink RX8 13 "FieldsByClassesModel" "bits" "[J") (by decide +kernel)) (fun _ h9 => h9) rfl dX8_meet_80 ?_
        refine lv_iload_n hx hb dX8_meet_83 rfl (lv_at hl 3 rfl) ?_
        obtain ⟨hi84, h⟩ := pf_need h
        refine va_lald hx hb hK.1 hP 2 1 rfl rfl (ain_of hi84) dX8_meet_84 ?_
        refine lv_iload_n hx hb dX8_meet_85 rfl (lv_at hl 0 rfl) ?_
        obtain ⟨v86, hv86, h⟩ := pf_bind h
        refine pf_call (As := [.int (f_bar (y2).toNatClampNeg), .long (f_bits (y2).toNatClampNeg), .int v50]) (rest := [.long v70, .int v50, .int v50, .ref q]) S0 (c_X8_up l (f_bar (y2).toNatClampNeg) (f_bits (y2).toNatClampNeg) v50 v86 hv86) (va_cwS 3 hts gX8_meet_X8_up rfl rfl rfl kd_X8_up ⟨Nat.le_of_ble_eq_true rfl, Nat.le_of_ble_eq_true rfl⟩) rfl hl.1 rfl (Nat.le_of_ble_eq_true rfl) dX8_meet_86 ⟨Nat.zero_le _, Nat.zero_le _⟩ ?_
        obtain ⟨v89, hv89, h⟩ := pf_bind h
        refine pf_call (As := [.int v50, .long v70, .long v86]) (rest := [.int v50, .ref q]) S0 (c_X8_product l v50 v70 v86 v89 hv89) (va_cwS 3 hts gX8_meet_X8_product rfl rfl rfl kd_X8_product ⟨Nat.le_of_ble_eq_true rfl, Nat.le_of_ble_eq_true rfl⟩) rfl hl.1 rfl (Nat.le_of_ble_eq_true rfl) dX8_meet_89 ⟨Nat.zero_le _, Nat.zero_le _⟩ ?_
        obtain ⟨v92, hv92, h⟩ := pf_bind h
        refine hb_calli (hb_runV (G := G) (T := hbT cI cJ cZ cS) (As := [.int v50, .long v89]) (rest := []) S0 (c_X8_keeps l G cI cJ cZ cS q q_bar q_bits q_made q_has q_groups q_sums q_numbers H.size f_bar f_bits f_made f_has f_groups f_found f_passed f_looked f_sums f_numbers v50 v89 v92 hv92) (cwV 2 hts gX8_meet_X8_keeps rfl rfl rfl kv_X8_keeps ⟨Nat.le_of_ble_eq_true rfl, Nat.le_of_ble_eq_true rfl⟩) hK (hP.sub [0, 1, 2, 3, 4, 5, 6, 7] rfl) (hD.sub [0, 1, 2, 3, 4, 5, 6, 7] (by decide) rfl) rfl rfl rfl hl.1 rfl (Nat.le_of_ble_eq_true rfl) dX8_meet_92 ⟨Nat.zero_le _, Nat.zero_le _⟩) hP hD hS hA [0, 1, 2, 3, 4, 5, 6, 7] [] [0, 1, 2, 3, 4, 5, 6, 7] rfl (wr := []) rfl (by decide) (by decide) (w2 := [(q, .inr (6, [.ref q_bar, .ref q_bits, .ref q_made, .ref q_has, .ref q_groups, .int f_found, .int f_passed, .long f_looked, .ref q_sums, .ref q_numbers])), (q_bar, .inl (cI, 160, .inl v92.2.1)), (q_bits, .inl (cJ, 160, .inr (.inl v92.2.2.1))), (q_made, .inl (cI, 4, .inl v92.2.2.2)), (q_has, .inl (cZ, 3, .inl f_has)), (q_groups, .inl (cJ, 128, .inr (.inl f_groups))), (q_sums, .inl (cJ, 8, .inr (.inl f_sums))), (q_numbers, .inl (cJ, 9, .inr (.inl f_numbers)))]) (by decide) rfl rfl (fun H locs hP hD hS => ?_)
        cases h
        exact hb_iret hx hb hr hlocks hP hD hS dX8_meet_95
      · have h := pf_neg h c33
        refine lv_iconst (v := -1) hx hb dX8_meet_36 (by decide) ?_
        cases h
        exact hb_iret hx hb hr hlocks hP hD hS dX8_meet_37
-- X8_liesIn
def p_X8_liesIn (f_bar : (Nat → Int32)) (f_bits : (Nat → Int64)) (f_made : (Nat → Int32)) (y1 : Int32) (y2 : Int32) : Option Int32 :=
  ((p_X8_isField f_made y1).bind fun v2 => (if v2 = 0 then some (0 : Int32) else ((p_X8_isField f_made y2).bind fun v10 => (if v10 = 0 then some (0 : Int32) else (if ainB y2 160 = true then (if ainB y1 160 = true then (if (f_bar (y1).toNatClampNeg) = 0 then none else (if (jrem (f_bar (y2).toNatClampNeg) (f_bar (y1).toNatClampNeg)) = 0 then (if ainB y2 160 = true then (if ainB y1 160 = true then (if ainB y1 160 = true then (if ainB y2 160 = true then ((p_X8_up (f_bar (y1).toNatClampNeg) (f_bits (y1).toNatClampNeg) (f_bar (y2).toNatClampNeg)).bind fun v58 => (if ((f_bits (y2).toNatClampNeg) &&& (v58 ^^^ (-1 : Int64))) = (0 : Int64) then some (1 : Int32) else some (0 : Int32))) else none) else none) else none) else none) else some (0 : Int32))) else none) else none)))))
theorem in_X8_liesIn_X8 : ∀ w ∈ u_ws RX8 TX8 10, w ∈ wsX8_liesIn := fun w h => List.mem_cons_of_mem _ (List.mem_append_right _ h)
theorem kv_X8_liesIn : yX8_liesIn.cls = RX8 ∧ yX8_liesIn.cls ≠ "java/lang/invoke/MethodHandle" ∧ yX8_liesIn.cls ≠ "java/lang/invoke/VarHandle" ∧ (parseMethodDescriptor yX8_liesIn.desc).map (fun d => d.parameters.length) = some 2 := by decide +kernel
set_option maxHeartbeats 4000000 in
set_option maxRecDepth 100000 in
theorem c_X8_liesIn (l : Launch) (G : va_G) (cI cJ cZ cS : ClassId) (q q_bar q_bits q_made q_has q_groups q_sums q_numbers : Nat) (sz : Nat) (f_bar : (Nat → Int32)) (f_bits : (Nat → Int64)) (f_made : (Nat → Int32)) (f_has : (Nat → Int32)) (f_groups : (Nat → Int64)) (f_found : Int32) (f_passed : Int32) (f_looked : Int64) (f_sums : (Nat → Int64)) (f_numbers : (Nat → Int64)) (y1 : Int32) (y2 : Int32) (r : Int32) (h : p_X8_liesIn f_bar f_bits f_made y1 y2 = some r) : Met l yX8_liesIn wsX8_liesIn { frames := 3, cells := 0, slots := 0, locals := 71 } (hb_pre G (hbT cI cJ cZ cS) [.ref q, .int y1, .int y2] sz [(q, .inr (6, [.ref q_bar, .ref q_bits, .ref q_made, .ref q_has, .ref q_groups, .int f_found, .int f_passed, .long f_looked, .ref q_sums, .ref q_numbers])), (q_bar, .inl (cI, 160, .inl f_bar)), (q_bits, .inl (cJ, 160, .inr (.inl f_bits))), (q_made, .inl (cI, 4, .inl f_made)), (q_has, .inl (cZ, 3, .inl f_has)), (q_groups, .inl (cJ, 128, .inr (.inl f_groups))), (q_sums, .inl (cJ, 8, .inr (.inl f_sums))), (q_numbers, .inl (cJ, 9, .inr (.inl f_numbers)))]) (hb_Qi G r [(q, .inr (6, [.ref q_bar, .ref q_bits, .ref q_made, .ref q_has, .ref q_groups, .int f_found, .int f_passed, .long f_looked, .ref q_sums, .ref q_numbers])), (q_bar, .inl (cI, 160, .inl f_bar)), (q_bits, .inl (cJ, 160, .inr (.inl f_bits))), (q_made, .inl (cI, 4, .inl f_made)), (q_has, .inl (cZ, 3, .inl f_has)), (q_groups, .inl (cJ, 128, .inr (.inl f_groups))), (q_sums, .inl (cJ, 8, .inr (.inl f_sums))), (q_numbers, .inl (cJ, 9, .inr (.inl f_numbers)))] (va_A [(q, .inr (6, [.ref q_bar, .ref q_bits, .ref q_made, .ref q_has, .ref q_groups, .int f_found, .int f_passed, .long f_looked, .ref q_sums, .ref q_numbers])), (q_bar, .inl (cI, 160, .inl f_bar)), (q_bits, .inl (cJ, 160, .inr (.inl f_bits))), (q_made, .inl (cI, 4, .inl f_made)), (q_has, .inl (cZ, 3, .inl f_has)), (q_groups, .inl (cJ, 128, .inr (.inl f_groups))), (q_sums, .inl (cJ, 8, .inr (.inl f_sums))), (q_numbers, .inl (cJ, 9, .inr (.inl f_numbers)))] sz)) 0 0 (va_A [(q, .inr (6, [.ref q_bar, .ref q_bits, .ref q_made, .ref q_has, .ref q_groups, .int f_found, .int f_passed, .long f_looked, .ref q_sums, .ref q_numbers])), (q_bar, .inl (cI, 160, .inl f_bar)), (q_bits, .inl (cJ, 160, .inr (.inl f_bits))), (q_made, .inl (cI, 4, .inl f_made)), (q_has, .inl (cZ, 3, .inl f_has)), (q_groups, .inl (cJ, 128, .inr (.inl f_groups))), (q_sums, .inl (cJ, 8, .inr (.inl f_sums))), (q_numbers, .inl (cJ, 9, .inr (.inl f_numbers)))] sz) := by
  refine hb_met (Qc := fun A => hb_Qi G r [(q, .inr (6, [.ref q_bar, .ref q_bits, .ref q_made, .ref q_has, .ref q_groups, .int f_found, .int f_passed, .long f_looked, .ref q_sums, .ref q_numbers])), (q_bar, .inl (cI, 160, .inl f_bar)), (q_bits, .inl (cJ, 160, .inr (.inl f_bits))), (q_made, .inl (cI, 4, .inl f_made)), (q_has, .inl (cZ, 3, .inl f_has)), (q_groups, .inl (cJ, 128, .inr (.inl f_groups))), (q_sums, .inl (cJ, 8, .inr (.inl f_sums))), (q_numbers, .inl (cJ, 9, .inr (.inl f_numbers)))] A) (cc := cX8_liesIn) (maxL := 3) (ret := some .boolean) (by decide) rfl (Nat.le_of_ble_eq_true rfl) ?_
  intro p e s m below meth c A hx hb hr hts hown hlocks hml hin hK hA hP hD hS ls hl
  have hown : s.vm.findClass RX8 = some m.cls := hown
  have S0 : CallFix p m c cX8_liesIn 3 s ([.ref q, .int y1, .int y2] : List Value).toArray wsX8_liesIn RX8 := ⟨hx, hb, hml, hown, hts⟩
  have hl : lv_has ls 3 [(0, .ref q), (1, .int y1), (2, .int y2)] := hl
  suffices hh : ∀ (H : Heap) (locs : List Loc), va_P G vwCl [(q, .inr (6, [.ref q_bar, .ref q_bits, .ref q_made, .ref q_has, .ref q_groups, .int f_found, .int f_passed, .long f_looked, .ref q_sums, .ref q_numbers])), (q_bar, .inl (cI, 160, .inl f_bar)), (q_bits, .inl (cJ, 160, .inr (.inl f_bits))), (q_made, .inl (cI, 4, .inl f_made)), (q_has, .inl (cZ, 3, .inl f_has)), (q_groups, .inl (cJ, 128, .inr (.inl f_groups))), (q_sums, .inl (cJ, 8, .inr (.inl f_sums))), (q_numbers, .inl (cJ, 9, .inr (.inl f_numbers)))] H → va_D A [(q, .inr (6, [.ref q_bar, .ref q_bits, .ref q_made, .ref q_has, .ref q_groups, .int f_found, .int f_passed, .long f_looked, .ref q_sums, .ref q_numbers])), (q_bar, .inl (cI, 160, .inl f_bar)), (q_bits, .inl (cJ, 160, .inr (.inl f_bits))), (q_made, .inl (cI, 4, .inl f_made)), (q_has, .inl (cZ, 3, .inl f_has)), (q_groups, .inl (cJ, 128, .inr (.inl f_groups))), (q_sums, .inl (cJ, 8, .inr (.inl f_sums))), (q_numbers, .inl (cJ, 9, .inr (.inl f_numbers)))] → va_S A s.heap H locs → W p l e (headSpec wsX8_liesIn { frames := 3, cells := 0, slots := 0, locals := 71 }).room s m ([.ref q, .int y1, .int y2] : List Value).toArray below meth c H locs 0 0 (MQ below (hb_Qi G r [(q, .inr (6, [.ref q_bar, .ref q_bits, .ref q_made, .ref q_has, .ref q_groups, .int f_found, .int f_passed, .long f_looked, .ref q_sums, .ref q_numbers])), (q_bar, .inl (cI, 160, .inl f_bar)), (q_bits, .inl (cJ, 160, .inr (.inl f_bits))), (q_made, .inl (cI, 4, .inl f_made)), (q_has, .inl (cZ, 3, .inl f_has)), (q_groups, .inl (cJ, 128, .inr (.inl f_groups))), (q_sums, .inl (cJ, 8, .inr (.inl f_sums))), (q_numbers, .inl (cJ, 9, .inr (.inl f_numbers)))] A) ([.ref q, .int y1, .int y2] : List Value).toArray s 0 0 A) (F0 m 0 ls []) from hh s.heap [] hP hD hS
  intro H locs hP hD hS
  unfold p_X8_liesIn at h
  refine lv_aload_n hx hb dX8_liesIn_0 rfl (lv_at hl 0 rfl) ?_
  refine lv_iload_n hx hb dX8_liesIn_1 rfl (lv_at hl 1 rfl) ?_
  obtain ⟨v2, hv2, h⟩ := pf_bind h
  refine hb_calli (hb_runV (G := G) (T := hbT cI cJ cZ cS) (As := [.int y1]) (rest := []) S0 (c_X8_isField l G cI cJ cZ cS q q_bar q_bits q_made q_has q_groups q_sums q_numbers H.size f_bar f_bits f_made f_has f_groups f_found f_passed f_looked f_sums f_numbers y1 v2 hv2) (cwV 1 hts gX8_liesIn_X8_isField rfl rfl rfl kv_X8_isField ⟨Nat.le_of_ble_eq_true rfl, Nat.le_of_ble_eq_true rfl⟩) hK (hP.sub [0, 1, 2, 3, 4, 5, 6, 7] rfl) (hD.sub [0, 1, 2, 3, 4, 5, 6, 7] (by decide) rfl) rfl rfl rfl hl.1 rfl (Nat.le_of_ble_eq_true rfl) dX8_liesIn_2 ⟨Nat.zero_le _, Nat.zero_le _⟩) hP hD hS hA [0, 1, 2, 3, 4, 5, 6, 7] [] [0, 1, 2, 3, 4, 5, 6, 7] rfl (wr := []) rfl (by decide) (by decide) (w2 := [(q, .inr (6, [.ref q_bar, .ref q_bits, .ref q_made, .ref q_has, .ref q_groups, .int f_found, .int f_passed, .long f_looked, .ref q_sums, .ref q_numbers])), (q_bar, .inl (cI, 160, .inl f_bar)), (q_bits, .inl (cJ, 160, .inr (.inl f_bits))), (q_made, .inl (cI, 4, .inl f_made)), (q_has, .inl (cZ, 3, .inl f_has)), (q_groups, .inl (cJ, 128, .inr (.inl f_groups))), (q_sums, .inl (cJ, 8, .inr (.inl f_sums))), (q_numbers, .inl (cJ, 9, .inr (.inl f_numbers)))]) (by decide) rfl rfl (fun H locs hP hD hS => ?_)
  refine lv_if_eq (tgt := 32) hx hb dX8_liesIn_5 (by decide) (fun c5 => ?_) (fun c5 => ?_)
  · have h := pf_pos h c5
    refine lv_iconst (v := 0) hx hb dX8_liesIn_32 (by decide) ?_
    cases h
    exact hb_zret hx hb hr hlocks pf_b0 hP hD hS dX8_liesIn_33
  · have h := pf_neg h c5
    refine lv_aload_n hx hb dX8_liesIn_8 rfl (lv_at hl 0 rfl) ?_
    refine lv_iload_n hx hb dX8_liesIn_9 rfl (lv_at hl 2 rfl) ?_
    obtain ⟨v10, hv10, h⟩ := pf_bind h
    refine hb_calli (hb_runV (G := G) (T := hbT cI cJ cZ cS) (As := [.int y2]) (rest := []) S0 (c_X8_isField l G cI cJ cZ cS q q_bar q_bits q_made q_has q_groups q_sums q_numbers H.size f_bar f_bits f_made f_has f_groups f_found f_passed f_looked f_sums f_numbers y2 v10 hv10) (cwV 1 hts gX8_liesIn_X8_isField rfl rfl rfl kv_X8_isField ⟨Nat.le_of_ble_eq_true rfl, Nat.le_of_ble_eq_true rfl⟩) hK (hP.sub [0, 1, 2, 3, 4, 5, 6, 7] rfl) (hD.sub [0, 1, 2, 3, 4, 5, 6, 7] (by decide) rfl) rfl rfl rfl hl.1 rfl (Nat.le_of_ble_eq_true rfl) dX8_liesIn_10 ⟨Nat.zero_le _, Nat.zero_le _⟩) hP hD hS hA [0, 1, 2, 3, 4, 5, 6, 7] [] [0, 1, 2, 3, 4, 5, 6, 7] rfl (wr := []) rfl (by decide) (by decide) (w2 := [(q, .inr (6, [.ref q_bar, .ref q_bits, .ref q_made, .ref q_has, .ref q_groups, .int f_found, .int f_passed, .long f_looked, .ref q_sums, .ref q_numbers])), (q_bar, .inl (cI, 160, .inl f_bar)), (q_bits, .inl (cJ, 160, .inr (.inl f_bits))), (q_made, .inl (cI, 4, .inl f_made)), (q_has, .inl (cZ, 3, .inl f_has)), (q_groups, .inl (cJ, 128, .inr (.inl f_groups))), (q_sums, .inl (cJ, 8, .inr (.inl f_sums))), (q_numbers, .inl (cJ, 9, .inr (.inl f_numbers)))]) (by decide) rfl rfl (fun H locs hP hD hS => ?_)
    refine lv_if_eq (tgt := 32) hx hb dX8_liesIn_13 (by decide) (fun c13 => ?_) (fun c13 => ?_)
    · have h := pf_pos h c13
      refine lv_iconst (v := 0) hx hb dX8_liesIn_32 (by decide) ?_
      cases h
      exact hb_zret hx hb hr hlocks pf_b0 hP hD hS dX8_liesIn_33
    · have h := pf_neg h c13
      refine lv_aload_n hx hb dX8_liesIn_16 rfl (lv_at hl 0 rfl) ?_
      refine va_get (D := G) (ci := 6) (v := .ref q_bar) (C := RX8) (T := TX8) (N := 10) hx hb hts in_X8_liesIn_X8 hown hK.1 hP 0 rfl rfl 0 (by decide) (hts (.fieldLink RX8 7 "FieldsByClassesModel" "bar" "[I") (by decide +kernel)) (fun _ h9 => h9) rfl dX8_liesIn_17 ?_
      refine lv_iload_n hx hb dX8_liesIn_20 rfl (lv_at hl 2 rfl) ?_
      obtain ⟨hi21, h⟩ := pf_need h
      refine va_iald hx hb hK.1 hP 1 0 rfl rfl (ain_of hi21) dX8_liesIn_21 ?_
      refine lv_aload_n hx hb dX8_liesIn_22 rfl (lv_at hl 0 rfl) ?_
      refine va_get (D := G) (ci := 6) (v := .ref q_bar) (C := RX8) (T := TX8) (N := 10) hx hb hts in_X8_liesIn_X8 hown hK.1 hP 0 rfl rfl 0 (by decide) (hts (.fieldLink RX8 7 "FieldsByClassesModel" "bar" "[I") (by decide +kernel)) (fun _ h9 => h9) rfl dX8_liesIn_23 ?_
      refine lv_iload_n hx hb dX8_liesIn_26 rfl (lv_at hl 1 rfl) ?_
      obtain ⟨hi27, h⟩ := pf_need h
      refine va_iald hx hb hK.1 hP 1 0 rfl rfl (ain_of hi27) dX8_liesIn_27 ?_
      obtain ⟨hd28, h⟩ := pf_guard h
      refine pf_irem hx hb dX8_liesIn_28 hd28 ?_
      refine lv_if_eq (tgt := 34) hx hb dX8_liesIn_29 (by decide) (fun c29 => ?_) (fun c29 => ?_)
      · have h := pf_pos h c29
        refine lv_aload_n hx hb dX8_liesIn_34 rfl (lv_at hl 0 rfl) ?_
        refine va_get (D := G) (ci := 6) (v := .ref q_bits) (C := RX8) (T := TX8) (N := 10) hx hb hts in_X8_liesIn_X8 hown hK.1 hP 0 rfl rfl 1 (by decide) (hts (.fieldLink RX8 13 "FieldsByClassesModel" "bits" "[J") (by decide +kernel)) (fun _ h9 => h9) rfl dX8_liesIn_35 ?_
        refine lv_iload_n hx hb dX8_liesIn_38 rfl (lv_at hl 2 rfl) ?_
        obtain ⟨hi39, h⟩ := pf_need h
        refine va_lald hx hb hK.1 hP 2 1 rfl rfl (ain_of hi39) dX8_liesIn_39 ?_
        refine lv_aload_n hx hb dX8_liesIn_40 rfl (lv_at hl 0 rfl) ?_
        refine va_get (D := G) (ci := 6) (v := .ref q_bar) (C := RX8) (T := TX8) (N := 10) hx hb hts in_X8_liesIn_X8 hown hK.1 hP 0 rfl rfl 0 (by decide) (hts (.fieldLink RX8 7 "FieldsByClassesModel" "bar" "[I") (by decide +kernel)) (fun _ h9 => h9) rfl dX8_liesIn_41 ?_
        refine lv_iload_n hx hb dX8_liesIn_44 rfl (lv_at hl 1 rfl) ?_
        obtain ⟨hi45, h⟩ := pf_need h
        refine va_iald hx hb hK.1 hP 1 0 rfl rfl (ain_of hi45) dX8_liesIn_45 ?_
        refine lv_aload_n hx hb dX8_liesIn_46 rfl (lv_at hl 0 rfl) ?_
        refine va_get (D := G) (ci := 6) (v := .ref q_bits) (C := RX8) (T := TX8) (N := 10) hx hb hts in_X8_liesIn_X8 hown hK.1 hP 0 rfl rfl 1 (by decide) (hts (.fieldLink RX8 13 "FieldsByClassesModel" "bits" "[J") (by decide +kernel)) (fun _ h9 => h9) rfl dX8_liesIn_47 ?_
        refine lv_iload_n hx hb dX8_liesIn_50 rfl (lv_at hl 1 rfl) ?_
        obtain ⟨hi51, h⟩ := pf_need h
        refine va_lald hx hb hK.1 hP 2 1 rfl rfl (ain_of hi51) dX8_liesIn_51 ?_
        refine lv_aload_n hx hb dX8_liesIn_52 rfl (lv_at hl 0 rfl) ?_
        refine va_get (D := G) (ci := 6) (v := .ref q_bar) (C := RX8) (T := TX8) (N := 10) hx hb hts in_X8_liesIn_X8 hown hK.1 hP 0 rfl rfl 0 (by decide) (hts (.fieldLink RX8 7 "FieldsByClassesModel" "bar" "[I") (by decide +kernel)) (fun _ h9 => h9) rfl dX8_liesIn_53 ?_
        refine lv_iload_n hx hb dX8_liesIn_56 rfl (lv_at hl 2 rfl) ?_
        obtain ⟨hi57, h⟩ := pf_need h
        refine va_iald hx hb hK.1 hP 1 0 rfl rfl (ain_of hi57) dX8_liesIn_57 ?_
        obtain ⟨v58, hv58, h⟩ := pf_bind h
        refine pf_call (As := [.int (f_bar (y1).toNatClampNeg), .long (f_bits (y1).toNatClampNeg), .int (f_bar (y2).toNatClampNeg)]) (rest := [.long (f_bits (y2).toNatClampNeg)]) S0 (c_X8_up l (f_bar (y1).toNatClampNeg) (f_bits (y1).toNatClampNeg) (f_bar (y2).toNatClampNeg) v58 hv58) (va_cwS 3 hts gX8_liesIn_X8_up rfl rfl rfl kd_X8_up ⟨Nat.le_of_ble_eq_true rfl, Nat.le_of_ble_eq_true rfl⟩) rfl hl.1 rfl (Nat.le_of_ble_eq_true rfl) dX8_liesIn_58 ⟨Nat.zero_le _, Nat.zero_le _⟩ ?_
        refine lv_ldc2 (v := -1) hx hb hown (hts (.constantLong RX8 88 (-1)) (by decide +kernel)) dX8_liesIn_61 ?_
        refine lv_lxor hx hb dX8_liesIn_64 ?_
        refine lv_land hx hb dX8_liesIn_65 ?_
        refine lv_lconst (v := 0) hx hb dX8_liesIn_66 (by decide) ?_
        refine W.lcmp hx hb dX8_liesIn_67 ?_
        refine lv_if_ne (tgt := 75) hx hb dX8_liesIn_68 (by decide) (fun c68 => ?_) (fun c68 => ?_)
        · have h := pf_neg h (fun q => c68 ((lg_cmp_eq _ _).mpr q))
          refine lv_iconst (v := 0) hx hb dX8_liesIn_75 (by decide) ?_
          cases h
          exact hb_zret hx hb hr hlocks pf_b0 hP hD hS dX8_liesIn_76
        · have h := pf_pos h ((lg_cmp_eq _ _).mp c68)
          refine lv_iconst (v := 1) hx hb dX8_liesIn_71 (by decide) ?_
          refine lv_goto (tgt := 76) hx hb dX8_liesIn_72 (by decide) ?_
          cases h
          exact hb_zret hx hb hr hlocks pf_b1 hP hD hS dX8_liesIn_76
      · have h := pf_neg h c29
        refine lv_iconst (v := 0) hx hb dX8_liesIn_32 (by decide) ?_
        cases h
        exact hb_zret hx hb hr hlocks pf_b0 hP hD hS dX8_liesIn_33
-- X8_isFound
def e_X8_isFound_42 (x3 : Int32) : Option Int32 :=
  (if x3 &&& 1 = x3 then some x3 else none)
def s_X8_isFound_5 (x1 : Int64) (x3 : Int32) (x4 : Int32) (f_groups : (Nat → Int64)) (f_found : Int32) : Option ((Int32 × Int32) ⊕ (Int32)) :=
  (if f_found ≤ x4 then some (Sum.inr x3) else (if x3 = 0 then (if ainB x4 128 = true then (if (f_groups (x4).toNatClampNeg) = x1 then some (Sum.inl ((1 : Int32), (x4 + (1 : Int32)))) else some (Sum.inl ((0 : Int32), (x4 + (1 : Int32))))) else none) else some (Sum.inl ((1 : Int32), (x4 + (1 : Int32))))))
def a_X8_isFound_5  (b : Int32) : Option Int32 := (fun q : Int32 => e_X8_isFound_42 q) b
def g_X8_isFound_5 (x1 : Int64) (x3 : Int32) (x4 : Int32) (f_groups : (Nat → Int64)) (f_found : Int32) : Option Int32 := (lpF (fun q : (Int32 × Int32) => s_X8_isFound_5 x1 q.1 q.2 f_groups f_found) pfFU (x3, x4)).bind (a_X8_isFound_5 )
def p_X8_isFound (f_groups : (Nat → Int64)) (f_found : Int32) (y1 : Int64) : Option Int32 :=
  g_X8_isFound_5 y1 (0 : Int32) (0 : Int32) f_groups f_found
theorem in_X8_isFound_X8 : ∀ w ∈ u_ws RX8 TX8 10, w ∈ wsX8_isFound := fun w h => List.mem_cons_of_mem _ (List.mem_append_right _ h)
theorem kv_X8_isFound : yX8_isFound.cls = RX8 ∧ yX8_isFound.cls ≠ "java/lang/invoke/MethodHandle" ∧ yX8_isFound.cls ≠ "java/lang/invoke/VarHandle" ∧ (parseMethodDescriptor yX8_isFound.desc).map (fun d => d.parameters.length) = some 1 := by decide +kernel
set_option maxHeartbeats 4000000 in
set_option maxRecDepth 100000 in
theorem c_X8_isFound (l : Launch) (G : va_G) (cI cJ cZ cS : ClassId) (q q_bar q_bits q_made q_has q_groups q_sums q_numbers : Nat) (sz : Nat) (f_bar : (Nat → Int32)) (f_bits : (Nat → Int64)) (f_made : (Nat → Int32)) (f_has : (Nat → Int32)) (f_groups : (Nat → Int64)) (f_found : Int32) (f_passed : Int32) (f_looked : Int64) (f_sums : (Nat → Int64)) (f_numbers : (Nat → Int64)) (y1 : Int64) (r : Int32) (h : p_X8_isFound f_groups f_found y1 = some r) : Met l yX8_isFound wsX8_isFound { frames := 0, cells := 0, slots := 0, locals := 0 } (hb_pre G (hbT cI cJ cZ cS) [.ref q, .long y1] sz [(q, .inr (6, [.ref q_bar, .ref q_bits, .ref q_made, .ref q_has, .ref q_groups, .int f_found, .int f_passed, .long f_looked, .ref q_sums, .ref q_numbers])), (q_bar, .inl (cI, 160, .inl f_bar)), (q_bits, .inl (cJ, 160, .inr (.inl f_bits))), (q_made, .inl (cI, 4, .inl f_made)), (q_has, .inl (cZ, 3, .inl f_has)), (q_groups, .inl (cJ, 128, .inr (.inl f_groups))), (q_sums, .inl (cJ, 8, .inr (.inl f_sums))), (q_numbers, .inl (cJ, 9, .inr (.inl f_numbers)))]) (hb_Qi G r [(q, .inr (6, [.ref q_bar, .ref q_bits, .ref q_made, .ref q_has, .ref q_groups, .int f_found, .int f_passed, .long f_looked, .ref q_sums, .ref q_numbers])), (q_bar, .inl (cI, 160, .inl f_bar)), (q_bits, .inl (cJ, 160, .inr (.inl f_bits))), (q_made, .inl (cI, 4, .inl f_made)), (q_has, .inl (cZ, 3, .inl f_has)), (q_groups, .inl (cJ, 128, .inr (.inl f_groups))), (q_sums, .inl (cJ, 8, .inr (.inl f_sums))), (q_numbers, .inl (cJ, 9, .inr (.inl f_numbers)))] (va_A [(q, .inr (6, [.ref q_bar, .ref q_bits, .ref q_made, .ref q_has, .ref q_groups, .int f_found, .int f_passed, .long f_looked, .ref q_sums, .ref q_numbers])), (q_bar, .inl (cI, 160, .inl f_bar)), (q_bits, .inl (cJ, 160, .inr (.inl f_bits))), (q_made, .inl (cI, 4, .inl f_made)), (q_has, .inl (cZ, 3, .inl f_has)), (q_groups, .inl (cJ, 128, .inr (.inl f_groups))), (q_sums, .inl (cJ, 8, .inr (.inl f_sums))), (q_numbers, .inl (cJ, 9, .inr (.inl f_numbers)))] sz)) 0 0 (va_A [(q, .inr (6, [.ref q_bar, .ref q_bits, .ref q_made, .ref q_has, .ref q_groups, .int f_found, .int f_passed, .long f_looked, .ref q_sums, .ref q_numbers])), (q_bar, .inl (cI, 160, .inl f_bar)), (q_bits, .inl (cJ, 160, .inr (.inl f_bits))), (q_made, .inl (cI, 4, .inl f_made)), (q_has, .inl (cZ, 3, .inl f_has)), (q_groups, .inl (cJ, 128, .inr (.inl f_groups))), (q_sums, .inl (cJ, 8, .inr (.inl f_sums))), (q_numbers, .inl (cJ, 9, .inr (.inl f_numbers)))] sz) := by
  refine hb_met (Qc := fun A => hb_Qi G r [(q, .inr (6, [.ref q_bar, .ref q_bits, .ref q_made, .ref q_has, .ref q_groups, .int f_found, .int f_passed, .long f_looked, .ref q_sums, .ref q_numbers])), (q_bar, .inl (cI, 160, .inl f_bar)), (q_bits, .inl (cJ, 160, .inr (.inl f_bits))), (q_made, .inl (cI, 4, .inl f_made)), (q_has, .inl (cZ, 3, .inl f_has)), (q_groups, .inl (cJ, 128, .inr (.inl f_groups))), (q_sums, .inl (cJ, 8, .inr (.inl f_sums))), (q_numbers, .inl (cJ, 9, .inr (.inl f_numbers)))] A) (cc := cX8_isFound) (maxL := 5) (ret := some .boolean) (by decide) rfl (Nat.le_of_ble_eq_true rfl) ?_
  intro p e s m below meth c A hx hb hr hts hown hlocks hml hin hK hA hP hD hS ls hl
  have hown : s.vm.findClass RX8 = some m.cls := hown
  have S0 : CallFix p m c cX8_isFound 5 s ([.ref q, .long y1] : List Value).toArray wsX8_isFound RX8 := ⟨hx, hb, hml, hown, hts⟩
  have hl : lv_has ls 5 [(0, .ref q), (1, .long y1)] := hl
  have K42 : ∀ (x3 : Int32), e_X8_isFound_42 x3 = some r → ∀ (H : Heap) (locs : List Loc), va_P G vwCl [(q, .inr (6, [.ref q_bar, .ref q_bits, .ref q_made, .ref q_has, .ref q_groups, .int f_found, .int f_passed, .long f_looked, .ref q_sums, .ref q_numbers])), (q_bar, .inl (cI, 160, .inl f_bar)), (q_bits, .inl (cJ, 160, .inr (.inl f_bits))), (q_made, .inl (cI, 4, .inl f_made)), (q_has, .inl (cZ, 3, .inl f_has)), (q_groups, .inl (cJ, 128, .inr (.inl f_groups))), (q_sums, .inl (cJ, 8, .inr (.inl f_sums))), (q_numbers, .inl (cJ, 9, .inr (.inl f_numbers)))] H → va_D A [(q, .inr (6, [.ref q_bar, .ref q_bits, .ref q_made, .ref q_has, .ref q_groups, .int f_found, .int f_passed, .long f_looked, .ref q_sums, .ref q_numbers])), (q_bar, .inl (cI, 160, .inl f_bar)), (q_bits, .inl (cJ, 160, .inr (.inl f_bits))), (q_made, .inl (cI, 4, .inl f_made)), (q_has, .inl (cZ, 3, .inl f_has)), (q_groups, .inl (cJ, 128, .inr (.inl f_groups))), (q_sums, .inl (cJ, 8, .inr (.inl f_sums))), (q_numbers, .inl (cJ, 9, .inr (.inl f_numbers)))] → va_S A s.heap H locs → ∀ ls, lv_has ls 5 [(3, .int x3)] → W p l e (headSpec wsX8_isFound { frames := 0, cells := 0, slots := 0, locals := 0 }).room s m ([.ref q, .long y1] : List Value).toArray below meth c H locs 0 0 (MQ below (hb_Qi G r [(q, .inr (6, [.ref q_bar, .ref q_bits, .ref q_made, .ref q_has, .ref q_groups, .int f_found, .int f_passed, .long f_looked, .ref q_sums, .ref q_numbers])), (q_bar, .inl (cI, 160, .inl f_bar)), (q_bits, .inl (cJ, 160, .inr (.inl f_bits))), (q_made, .inl (cI, 4, .inl f_made)), (q_has, .inl (cZ, 3, .inl f_has)), (q_groups, .inl (cJ, 128, .inr (.inl f_groups))), (q_sums, .inl (cJ, 8, .inr (.inl f_sums))), (q_numbers, .inl (cJ, 9, .inr (.inl f_numbers)))] A) ([.ref q, .long y1] : List Value).toArray s 0 0 A) (F0 m 42 ls []) := by
    intro x3 h H locs hP hD hS ls hl
    unfold e_X8_isFound_42 at h
    refine lv_iload_n hx hb dX8_isFound_42 rfl (lv_at hl 0 rfl) ?_
    obtain ⟨hn43, h⟩ := pf_need h
    cases h
    exact hb_zret hx hb hr hlocks hn43 hP hD hS dX8_isFound_43
  have L5 : ∀ (n : Nat) (x1 : Int64) (x3 : Int32) (x4 : Int32) (b : Int32), lpF (fun q : (Int32 × Int32) => s_X8_isFound_5 x1 q.1 q.2 f_groups f_found) n (x3, x4) = some b → a_X8_isFound_5 b = some r → ∀ (H : Heap) (locs : List Loc), va_P G vwCl [(q, .inr (6, [.ref q_bar, .ref q_bits, .ref q_made, .ref q_has, .ref q_groups, .int f_found, .int f_passed, .long f_looked, .ref q_sums, .ref q_numbers])), (q_bar, .inl (cI, 160, .inl f_bar)), (q_bits, .inl (cJ, 160, .inr (.inl f_bits))), (q_made, .inl (cI, 4, .inl f_made)), (q_has, .inl (cZ, 3, .inl f_has)), (q_groups, .inl (cJ, 128, .inr (.inl f_groups))), (q_sums, .inl (cJ, 8, .inr (.inl f_sums))), (q_numbers, .inl (cJ, 9, .inr (.inl f_numbers)))] H → va_D A [(q, .inr (6, [.ref q_bar, .ref q_bits, .ref q_made, .ref q_has, .ref q_groups, .int f_found, .int f_passed, .long f_looked, .ref q_sums, .ref q_numbers])), (q_bar, .inl (cI, 160, .inl f_bar)), (q_bits, .inl (cJ, 160, .inr (.inl f_bits))), (q_made, .inl (cI, 4, .inl f_made)), (q_has, .inl (cZ, 3, .inl f_has)), (q_groups, .inl (cJ, 128, .inr (.inl f_groups))), (q_sums, .inl (cJ, 8, .inr (.inl f_sums))), (q_numbers, .inl (cJ, 9, .inr (.inl f_numbers)))] → va_S A s.heap H locs → ∀ ls, lv_has ls 5 [(0, .ref q), (1, .long x1), (3, .int x3), (4, .int x4)] → W p l e (headSpec wsX8_isFound { frames := 0, cells := 0, slots := 0, locals := 0 }).room s m ([.ref q, .long y1] : List Value).toArray below meth c H locs 0 0 (MQ below (hb_Qi G r [(q, .inr (6, [.ref q_bar, .ref q_bits, .ref q_made, .ref q_has, .ref q_groups, .int f_found, .int f_passed, .long f_looked, .ref q_sums, .ref q_numbers])), (q_bar, .inl (cI, 160, .inl f_bar)), (q_bits, .inl (cJ, 160, .inr (.inl f_bits))), (q_made, .inl (cI, 4, .inl f_made)), (q_has, .inl (cZ, 3, .inl f_has)), (q_groups, .inl (cJ, 128, .inr (.inl f_groups))), (q_sums, .inl (cJ, 8, .inr (.inl f_sums))), (q_numbers, .inl (cJ, 9, .inr (.inl f_numbers)))] A) ([.ref q, .long y1] : List Value).toArray s 0 0 A) (F0 m 5 ls []) := by
    intro n
    induction n with
    | zero => intro x1 x3 x4 b h; exact lp_zero h
    | succ n ih =>
      intro x1 x3 x4 b h ha H locs hP hD hS ls hl
      obtain ⟨z5, h, hz⟩ := lp_open h
      have h : s_X8_isFound_5 x1 x3 x4 f_groups f_found = some z5 := h
      unfold s_X8_isFound_5 at h
      refine lv_iload hx hb dX8_isFound_5 (lv_at hl 3 rfl) ?_
      refine lv_aload_n hx hb dX8_isFound_7 rfl (lv_at hl 0 rfl) ?_
      refine va_get (D := G) (ci := 6) (v := .int f_found) (C := RX8) (T := TX8) (N := 10) hx hb hts in_X8_isFound_X8 hown hK.1 hP 0 rfl rfl 5 (by decide) (hts (.fieldLink RX8 109 "FieldsByClassesModel" "found" "I") (by decide +kernel)) (fun _ h9 => h9) rfl dX8_isFound_8 ?_
      refine lv_icmp_ge (tgt := 42) hx hb dX8_isFound_11 (by decide) (fun c11 => ?_) (fun c11 => ?_)
      · have h := pf_pos h c11
        have ha := pf_aft ha (lp_exit h hz)
        exact K42 x3 ha H locs hP hD hS ls (lv_sub hl [2] rfl)
      · have h := pf_neg h c11
        refine lv_iload_n hx hb dX8_isFound_14 rfl (lv_at hl 2 rfl) ?_
        refine lv_if_ne (tgt := 30) hx hb dX8_isFound_15 (by decide) (fun c15 => ?_) (fun c15 => ?_)
        · have h := pf_neg h c15
          refine lv_iconst (v := 1) hx hb dX8_isFound_30 (by decide) ?_
          refine lv_goto (tgt := 35) hx hb dX8_isFound_31 (by decide) ?_
          refine lv_istore_n (lv' := [(3, .int (1 : Int32)), (0, .ref q), (1, .long x1), (4, .int x4)]) hx hb dX8_isFound_35 rfl hl (by decide) rfl (fun ls hl => ?_)
          refine lv_iinc (v := (x4 + (1 : Int32))) (lv' := [(4, .int (x4 + (1 : Int32))), (3, .int (1 : Int32)), (0, .ref q), (1, .long x1)]) hx hb dX8_isFound_36 hl (k := 3) rfl rfl (by decide) rfl (fun ls hl => ?_)
          refine lv_goto (tgt := 5) hx hb dX8_isFound_39 (by decide) ?_
          exact ih x1 (1 : Int32) (x4 + (1 : Int32)) b (lp_cont h hz) ha H locs hP hD hS ls (lv_sub hl [2, 3, 1, 0] rfl)
        · have h := pf_pos h c15
          refine lv_aload_n hx hb dX8_isFound_18 rfl (lv_at hl 0 rfl) ?_
          refine va_get (D := G) (ci := 6) (v := .ref q_groups) (C := RX8) (T := TX8) (N := 10) hx hb hts in_X8_isFound_X8 hown hK.1 hP 0 rfl rfl 4 (by decide) (hts (.fieldLink RX8 24 "FieldsByClassesModel" "groups" "[J") (by decide +kernel)) (fun _ h9 => h9) rfl dX8_isFound_19 ?_
          refine lv_iload hx hb dX8_isFound_22 (lv_at hl 3 rfl) ?_
          obtain ⟨hi24, h⟩ := pf_need h
          refine va_lald hx hb hK.1 hP 5 1 rfl rfl (ain_of hi24) dX8_isFound_24 ?_
          refine lv_lload_n hx hb dX8_isFound_25 rfl (lv_at hl 1 rfl) ?_
          refine W.lcmp hx hb dX8_isFound_26 ?_
          refine lv_if_ne (tgt := 34) hx hb dX8_isFound_27 (by decide) (fun c27 => ?_) (fun c27 => ?_)
          · have h := pf_neg h (fun q => c27 ((lg_cmp_eq _ _).mpr q))
            refine lv_iconst (v := 0) hx hb dX8_isFound_34 (by decide) ?_
            refine lv_istore_n (lv' := [(3, .int (0 : Int32)), (0, .ref q), (1, .long x1), (4, .int x4)]) hx hb dX8_isFound_35 rfl hl (by decide) rfl (fun ls hl => ?_)
            refine lv_iinc (v := (x4 + (1 : Int32))) (lv' := [(4, .int (x4 + (1 : Int32))), (3, .int (0 : Int32)), (0, .ref q), (1, .long x1)]) hx hb dX8_isFound_36 hl (k := 3) rfl rfl (by decide) rfl (fun ls hl => ?_)
            refine lv_goto (tgt := 5) hx hb dX8_isFound_39 (by decide) ?_
            exact ih x1 (0 : Int32) (x4 + (1 : Int32)) b (lp_cont h hz) ha H locs hP hD hS ls (lv_sub hl [2, 3, 1, 0] rfl)
          · have h := pf_pos h ((lg_cmp_eq _ _).mp c27)
            refine lv_iconst (v := 1) hx hb dX8_isFound_30 (by decide) ?_
            refine lv_goto (tgt := 35) hx hb dX8_isFound_31 (by decide) ?_
            refine lv_istore_n (lv' := [(3, .int (1 : Int32)), (0, .ref q), (1, .long x1), (4, .int x4)]) hx hb dX8_isFound_35 rfl hl (by decide) rfl (fun ls hl => ?_)
            refine lv_iinc (v := (x4 + (1 : Int32))) (lv' := [(4, .int (x4 + (1 : Int32))), (3, .int (1 : Int32)), (0, .ref q), (1, .long x1)]) hx hb dX8_isFound_36 hl (k := 3) rfl rfl (by decide) rfl (fun ls hl => ?_)
            refine lv_goto (tgt := 5) hx hb dX8_isFound_39 (by decide) ?_
            exact ih x1 (1 : Int32) (x4 + (1 : Int32)) b (lp_cont h hz) ha H locs hP hD hS ls (lv_sub hl [2, 3, 1, 0] rfl)
  have G5 : ∀ (x1 : Int64) (x3 : Int32) (x4 : Int32), g_X8_isFound_5 x1 x3 x4 f_groups f_found = some r → ∀ (H : Heap) (locs : List Loc), va_P G vwCl [(q, .inr (6, [.ref q_bar, .ref q_bits, .ref q_made, .ref q_has, .ref q_groups, .int f_found, .int f_passed, .long f_looked, .ref q_sums, .ref q_numbers])), (q_bar, .inl (cI, 160, .inl f_bar)), (q_bits, .inl (cJ, 160, .inr (.inl f_bits))), (q_made, .inl (cI, 4, .inl f_made)), (q_has, .inl (cZ, 3, .inl f_has)), (q_groups, .inl (cJ, 128, .inr (.inl f_groups))), (q_sums, .inl (cJ, 8, .inr (.inl f_sums))), (q_numbers, .inl (cJ, 9, .inr (.inl f_numbers)))] H → va_D A [(q, .inr (6, [.ref q_bar, .ref q_bits, .ref q_made, .ref q_has, .ref q_groups, .int f_found, .int f_passed, .long f_looked, .ref q_sums, .ref q_numbers])), (q_bar, .inl (cI, 160, .inl f_bar)), (q_bits, .inl (cJ, 160, .inr (.inl f_bits))), (q_made, .inl (cI, 4, .inl f_made)), (q_has, .inl (cZ, 3, .inl f_has)), (q_groups, .inl (cJ, 128, .inr (.inl f_groups))), (q_sums, .inl (cJ, 8, .inr (.inl f_sums))), (q_numbers, .inl (cJ, 9, .inr (.inl f_numbers)))] → va_S A s.heap H locs → ∀ ls, lv_has ls 5 [(0, .ref q), (1, .long x1), (3, .int x3), (4, .int x4)] → W p l e (headSpec wsX8_isFound { frames := 0, cells := 0, slots := 0, locals := 0 }).room s m ([.ref q, .long y1] : List Value).toArray below meth c H locs 0 0 (MQ below (hb_Qi G r [(q, .inr (6, [.ref q_bar, .ref q_bits, .ref q_made, .ref q_has, .ref q_groups, .int f_found, .int f_passed, .long f_looked, .ref q_sums, .ref q_numbers])), (q_bar, .inl (cI, 160, .inl f_bar)), (q_bits, .inl (cJ, 160, .inr (.inl f_bits))), (q_made, .inl (cI, 4, .inl f_made)), (q_has, .inl (cZ, 3, .inl f_has)), (q_groups, .inl (cJ, 128, .inr (.inl f_groups))), (q_sums, .inl (cJ, 8, .inr (.inl f_sums))), (q_numbers, .inl (cJ, 9, .inr (.inl f_numbers)))] A) ([.ref q, .long y1] : List Value).toArray s 0 0 A) (F0 m 5 ls []) := by
    intro x1 x3 x4 h
    unfold g_X8_isFound_5 at h
    obtain ⟨b, h, ha⟩ := pf_bind h
    exact L5 pfFU x1 x3 x4 b h ha
  suffices hh : ∀ (H : Heap) (locs : List Loc), va_P G vwCl [(q, .inr (6, [.ref q_bar, .ref q_bits, .ref q_made, .ref q_has, .ref q_groups, .int f_found, .int f_passed, .long f_looked, .ref q_sums, .ref q_numbers])), (q_bar, .inl (cI, 160, .inl f_bar)), (q_bits, .inl (cJ, 160, .inr (.inl f_bits))), (q_made, .inl (cI, 4, .inl f_made)), (q_has, .inl (cZ, 3, .inl f_has)), (q_groups, .inl (cJ, 128, .inr (.inl f_groups))), (q_sums, .inl (cJ, 8, .inr (.inl f_sums))), (q_numbers, .inl (cJ, 9, .inr (.inl f_numbers)))] H → va_D A [(q, .inr (6, [.ref q_bar, .ref q_bits, .ref q_made, .ref q_has, .ref q_groups, .int f_found, .int f_passed, .long f_looked, .ref q_sums, .ref q_numbers])), (q_bar, .inl (cI, 160, .inl f_bar)), (q_bits, .inl (cJ, 160, .inr (.inl f_bits))), (q_made, .inl (cI, 4, .inl f_made)), (q_has, .inl (cZ, 3, .inl f_has)), (q_groups, .inl (cJ, 128, .inr (.inl f_groups))), (q_sums, .inl (cJ, 8, .inr (.inl f_sums))), (q_numbers, .inl (cJ, 9, .inr (.inl f_numbers)))] → va_S A s.heap H locs → W p l e (headSpec wsX8_isFound { frames := 0, cells := 0, slots := 0, locals := 0 }).room s m ([.ref q, .long y1] : List Value).toArray below meth c H locs 0 0 (MQ below (hb_Qi G r [(q, .inr (6, [.ref q_bar, .ref q_bits, .ref q_made, .ref q_has, .ref q_groups, .int f_found, .int f_passed, .long f_looked, .ref q_sums, .ref q_numbers])), (q_bar, .inl (cI, 160, .inl f_bar)), (q_bits, .inl (cJ, 160, .inr (.inl f_bits))), (q_made, .inl (cI, 4, .inl f_made)), (q_has, .inl (cZ, 3, .inl f_has)), (q_groups, .inl (cJ, 128, .inr (.inl f_groups))), (q_sums, .inl (cJ, 8, .inr (.inl f_sums))), (q_numbers, .inl (cJ, 9, .inr (.inl f_numbers)))] A) ([.ref q, .long y1] : List Value).toArray s 0 0 A) (F0 m 0 ls []) from hh s.heap [] hP hD hS
  intro H locs hP hD hS
  unfold p_X8_isFound at h
  refine lv_iconst (v := 0) hx hb dX8_isFound_0 (by decide) ?_
  refine lv_istore_n (lv' := [(3, .int (0 : Int32)), (0, .ref q), (1, .long y1)]) hx hb dX8_isFound_1 rfl hl (by decide) rfl (fun ls hl => ?_)
  refine lv_iconst (v := 0) hx hb dX8_isFound_2 (by decide) ?_
  refine lv_istore (lv' := [(4, .int (0 : Int32)), (3, .int (0 : Int32)), (0, .ref q), (1, .long y1)]) hx hb dX8_isFound_3 hl (by decide) rfl (fun ls hl => ?_)
  exact G5 y1 (0 : Int32) (0 : Int32) h H locs hP hD hS ls (lv_sub hl [2, 3, 1, 0] rfl)
