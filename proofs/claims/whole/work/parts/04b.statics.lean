-- X3_with
def e_X3_with_52 (x4 : Int64) : Option Int64 :=
  some x4
def s_X3_with_9 (x0 : Int64) (x2 : Int32) (x3 : Int32) (x4 : Int64) (x6 : Int32) (x7 : Int32) : Option ((Int64 × Int32 × Int32) ⊕ (Int64)) :=
  (if x3 ≤ x7 then some (Sum.inr x4) else ((p_X3_has x0 x6).bind fun v18 => (if v18 = 0 then ((p_X3_times x0 x6 x3).bind fun v30 => ((p_X6_rest (x6 * x2) x3).bind fun v41 => some (Sum.inl ((x4 ||| v30), v41, (x7 + (1 : Int32)))))) else some (Sum.inr x4))))
def a_X3_with_9  (b : Int64) : Option Int64 := (fun q : Int64 => e_X3_with_52 q) b
def g_X3_with_9 (x0 : Int64) (x2 : Int32) (x3 : Int32) (x4 : Int64) (x6 : Int32) (x7 : Int32) : Option Int64 := (lpF (fun q : (Int64 × Int32 × Int32) => s_X3_with_9 x0 x2 x3 q.1 q.2.1 q.2.2) pfFU (x4, x6, x7)).bind (a_X3_with_9 )
def p_X3_with (y0 : Int64) (y2 : Int32) (y3 : Int32) : Option Int64 :=
  g_X3_with_9 y0 y2 y3 y0 y2 (0 : Int32)
theorem kd_X3_with : yX3_with.cls ≠ "java/lang/invoke/MethodHandle" ∧ yX3_with.cls ≠ "java/lang/invoke/VarHandle" ∧ (parseMethodDescriptor yX3_with.desc).map (fun d => d.parameters.length) = some 3 := by decide +kernel
set_option maxHeartbeats 4000000 in
set_option maxRecDepth 100000 in
theorem c_X3_with (l : Launch) (y0 : Int64) (y2 : Int32) (y3 : Int32) (r : Int64) (h : p_X3_with y0 y2 y3 = some r) : Met l yX3_with wsX3_with { frames := 2, cells := 0, slots := 0, locals := 48 } (fun v _ => v = ([.long y0, .int y2, .int y3] : List Value).toArray) (k2_QcV (.long r)) 0 0 (fun _ => False) := by
  refine Met.ofW (cc := cX3_with) (maxL := 8) (ret := some .long) (by decide) rfl ?_
  intro p e s m args below meth c s₁ B hml hv
  subst hv
  have hx := B.exec
  have hb := B.bytes
  have hr := B.returns
  have hts := atoms_spec (ws := wsX3_with) B.pre
  have hown : s.vm.findClass RX3 = some m.cls := findClass_of_methodNamed B.named
  have hlocks := B.notSynchronized
  have S0 : CallFix p m c cX3_with 8 s ([.long y0, .int y2, .int y3] : List Value).toArray wsX3_with RX3 := ⟨hx, hb, hml, hown, hts⟩
  have hl := lv_entry [.long y0, .int y2, .int y3] (n := 8) (Nat.le_of_ble_eq_true rfl)
  rw [lg_entry_eq]
  generalize (lg_sl [.long y0, .int y2, .int y3] ++ List.replicate (8 - (lg_sl [.long y0, .int y2, .int y3]).length) Slot.unset).toArray = ls at hl ⊢
  have hl : lv_has ls 8 [(0, .long y0), (2, .int y2), (3, .int y3)] := hl
  have K52 : ∀ (x4 : Int64), e_X3_with_52 x4 = some r → ∀ ls, lv_has ls 8 [(4, .long x4)] → W p l e (headSpec wsX3_with { frames := 2, cells := 0, slots := 0, locals := 48 }).room s m ([.long y0, .int y2, .int y3] : List Value).toArray below meth c s.heap [] 0 0 (MQ below (k2_QcV (.long r)) ([.long y0, .int y2, .int y3] : List Value).toArray s 0 0 (fun _ => False)) (F0 m 52 ls []) := by
    intro x4 h ls hl
    unfold e_X3_with_52 at h
    refine lv_lload hx hb dX3_with_52 (lv_at hl 0 rfl) ?_
    exact W.lret hx hb hr (fun t ht _ => ⟨pf_rl h, ht⟩) (fun q hq => absurd hq List.not_mem_nil) dX3_with_54
  have L9 : ∀ (n : Nat) (x0 : Int64) (x2 : Int32) (x3 : Int32) (x4 : Int64) (x6 : Int32) (x7 : Int32) (b : Int64), lpF (fun q : (Int64 × Int32 × Int32) => s_X3_with_9 x0 x2 x3 q.1 q.2.1 q.2.2) n (x4, x6, x7) = some b → a_X3_with_9 b = some r → ∀ ls, lv_has ls 8 [(0, .long x0), (2, .int x2), (3, .int x3), (4, .long x4), (6, .int x6), (7, .int x7)] → W p l e (headSpec wsX3_with { frames := 2, cells := 0, slots := 0, locals := 48 }).room s m ([.long y0, .int y2, .int y3] : List Value).toArray below meth c s.heap [] 0 0 (MQ below (k2_QcV (.long r)) ([.long y0, .int y2, .int y3] : List Value).toArray s 0 0 (fun _ => False)) (F0 m 9 ls []) := by
    intro n
    induction n with
    | zero => intro x0 x2 x3 x4 x6 x7 b h; exact lp_zero h
    | succ n ih =>
      intro x0 x2 x3 x4 x6 x7 b h ha ls hl
      obtain ⟨z9, h, hz⟩ := lp_open h
      have h : s_X3_with_9 x0 x2 x3 x4 x6 x7 = some z9 := h
      unfold s_X3_with_9 at h
      refine lv_iload hx hb dX3_with_9 (lv_at hl 5 rfl) ?_
      refine lv_iload_n hx hb dX3_with_11 rfl (lv_at hl 2 rfl) ?_
      refine lv_icmp_ge (tgt := 52) hx hb dX3_with_12 (by decide) (fun c12 => ?_) (fun c12 => ?_)
      · have h := pf_pos h c12
        have ha := pf_aft ha (lp_exit h hz)
        exact K52 x4 ha ls (lv_sub hl [3] rfl)
      · have h := pf_neg h c12
        refine lv_lload_n hx hb dX3_with_15 rfl (lv_at hl 0 rfl) ?_
        refine lv_iload hx hb dX3_with_16 (lv_at hl 4 rfl) ?_
        obtain ⟨v18, hv18, h⟩ := pf_bind h
        refine pf_call (As := [.long x0, .int x6]) (rest := []) S0 (c_X3_has l x0 x6 v18 hv18) (va_cwS 2 hts gX3_with_X3_has rfl rfl rfl kd_X3_has ⟨Nat.le_of_ble_eq_true rfl, Nat.le_of_ble_eq_true rfl⟩) rfl hl.1 rfl (Nat.le_of_ble_eq_true rfl) dX3_with_18 ⟨Nat.zero_le _, Nat.zero_le _⟩ ?_
        refine lv_if_ne (tgt := 52) hx hb dX3_with_21 (by decide) (fun c21 => ?_) (fun c21 => ?_)
        · have h := pf_neg h c21
          have ha := pf_aft ha (lp_exit h hz)
          exact K52 x4 ha ls (lv_sub hl [3] rfl)
        · have h := pf_pos h c21
          refine lv_lload hx hb dX3_with_24 (lv_at hl 3 rfl) ?_
          refine lv_lload_n hx hb dX3_with_26 rfl (lv_at hl 0 rfl) ?_
          refine lv_iload hx hb dX3_with_27 (lv_at hl 4 rfl) ?_
          refine lv_iload_n hx hb dX3_with_29 rfl (lv_at hl 2 rfl) ?_
          obtain ⟨v30, hv30, h⟩ := pf_bind h
          refine pf_call (As := [.long x0, .int x6, .int x3]) (rest := [.long x4]) S0 (c_X3_times l x0 x6 x3 v30 hv30) (va_cwS 3 hts gX3_with_X3_times rfl rfl rfl kd_X3_times ⟨Nat.le_of_ble_eq_true rfl, Nat.le_of_ble_eq_true rfl⟩) rfl hl.1 rfl (Nat.le_of_ble_eq_true rfl) dX3_with_30 ⟨Nat.zero_le _, Nat.zero_le _⟩ ?_
          refine lv_lor hx hb dX3_with_33 ?_
          refine lv_lstore (lv' := [(4, .long (x4 ||| v30)), (0, .long x0), (2, .int x2), (3, .int x3), (6, .int x6), (7, .int x7)]) hx hb dX3_with_34 hl (by decide) rfl (fun ls hl => ?_)
          refine lv_iload hx hb dX3_with_36 (lv_at hl 4 rfl) ?_
          refine lv_iload_n hx hb dX3_with_38 rfl (lv_at hl 2 rfl) ?_
          refine lv_imul hx hb dX3_with_39 ?_
          refine lv_iload_n hx hb dX3_with_40 rfl (lv_at hl 3 rfl) ?_
          obtain ⟨v41, hv41, h⟩ := pf_bind h
          refine pf_call (As := [.int (x6 * x2), .int x3]) (rest := []) S0 (c_X6_rest l (x6 * x2) x3 v41 hv41) (va_cwS 2 hts gX3_with_X6_rest rfl rfl rfl kd_X6_rest ⟨Nat.le_of_ble_eq_true rfl, Nat.le_of_ble_eq_true rfl⟩) rfl hl.1 rfl (Nat.le_of_ble_eq_true rfl) dX3_with_41 ⟨Nat.zero_le _, Nat.zero_le _⟩ ?_
          refine lv_istore (lv' := [(6, .int v41), (4, .long (x4 ||| v30)), (0, .long x0), (2, .int x2), (3, .int x3), (7, .int x7)]) hx hb dX3_with_44 hl (by decide) rfl (fun ls hl => ?_)
          refine lv_iinc (v := (x7 + (1 : Int32))) (lv' := [(7, .int (x7 + (1 : Int32))), (6, .int v41), (4, .long (x4 ||| v30)), (0, .long x0), (2, .int x2), (3, .int x3)]) hx hb dX3_with_46 hl (k := 5) rfl rfl (by decide) rfl (fun ls hl => ?_)
          refine lv_goto (tgt := 9) hx hb dX3_with_49 (by decide) ?_
          exact ih x0 x2 x3 (x4 ||| v30) v41 (x7 + (1 : Int32)) b (lp_cont h hz) ha ls (lv_sub hl [3, 4, 5, 2, 1, 0] rfl)
  have G9 : ∀ (x0 : Int64) (x2 : Int32) (x3 : Int32) (x4 : Int64) (x6 : Int32) (x7 : Int32), g_X3_with_9 x0 x2 x3 x4 x6 x7 = some r → ∀ ls, lv_has ls 8 [(0, .long x0), (2, .int x2), (3, .int x3), (4, .long x4), (6, .int x6), (7, .int x7)] → W p l e (headSpec wsX3_with { frames := 2, cells := 0, slots := 0, locals := 48 }).room s m ([.long y0, .int y2, .int y3] : List Value).toArray below meth c s.heap [] 0 0 (MQ below (k2_QcV (.long r)) ([.long y0, .int y2, .int y3] : List Value).toArray s 0 0 (fun _ => False)) (F0 m 9 ls []) := by
    intro x0 x2 x3 x4 x6 x7 h ls hl
    unfold g_X3_with_9 at h
    obtain ⟨b, h, ha⟩ := pf_bind h
    exact L9 pfFU x0 x2 x3 x4 x6 x7 b h ha ls hl
  unfold p_X3_with at h
  refine lv_lload_n hx hb dX3_with_0 rfl (lv_at hl 0 rfl) ?_
  refine lv_lstore (lv' := [(4, .long y0), (0, .long y0), (2, .int y2), (3, .int y3)]) hx hb dX3_with_1 hl (by decide) rfl (fun ls hl => ?_)
  refine lv_iload_n hx hb dX3_with_3 rfl (lv_at hl 2 rfl) ?_
  refine lv_istore (lv' := [(6, .int y2), (4, .long y0), (0, .long y0), (2, .int y2), (3, .int y3)]) hx hb dX3_with_4 hl (by decide) rfl (fun ls hl => ?_)
  refine lv_iconst (v := 0) hx hb dX3_with_6 (by decide) ?_
  refine lv_istore (lv' := [(7, .int (0 : Int32)), (6, .int y2), (4, .long y0), (0, .long y0), (2, .int y2), (3, .int y3)]) hx hb dX3_with_7 hl (by decide) rfl (fun ls hl => ?_)
  exact G9 y0 y2 y3 y0 y2 (0 : Int32) h ls (lv_sub hl [3, 4, 5, 2, 1, 0] rfl)
-- X3_madeOf
def e_X3_madeOf_43 (x3 : Int64) : Option Int64 :=
  some x3
def s_X3_madeOf_8 (x0 : Int64) (x2 : Int32) (x3 : Int64) (x5 : Int32) : Option ((Int64 × Int32) ⊕ (Int64)) :=
  (if x2 ≤ x5 then some (Sum.inr x3) else ((p_X3_has (x0 &&& (x3 ^^^ (-1 : Int64))) x5).bind fun v23 => (if v23 = 0 then some (Sum.inl (x3, (x5 + (1 : Int32)))) else ((p_X3_with x3 x5 x2).bind fun v33 => some (Sum.inl (v33, (x5 + (1 : Int32))))))))
def a_X3_madeOf_8  (b : Int64) : Option Int64 := (fun q : Int64 => e_X3_madeOf_43 q) b
def g_X3_madeOf_8 (x0 : Int64) (x2 : Int32) (x3 : Int64) (x5 : Int32) : Option Int64 := (lpF (fun q : (Int64 × Int32) => s_X3_madeOf_8 x0 x2 q.1 q.2) pfFU (x3, x5)).bind (a_X3_madeOf_8 )
def p_X3_madeOf (y0 : Int64) (y2 : Int32) : Option Int64 :=
  ((p_X3_one y2).bind fun v1 => g_X3_madeOf_8 y0 y2 v1 (0 : Int32))
theorem kd_X3_madeOf : yX3_madeOf.cls ≠ "java/lang/invoke/MethodHandle" ∧ yX3_madeOf.cls ≠ "java/lang/invoke/VarHandle" ∧ (parseMethodDescriptor yX3_madeOf.desc).map (fun d => d.parameters.length) = some 2 := by decide +kernel
set_option maxHeartbeats 4000000 in
set_option maxRecDepth 100000 in
theorem c_X3_madeOf (l : Launch) (y0 : Int64) (y2 : Int32) (r : Int64) (h : p_X3_madeOf y0 y2 = some r) : Met l yX3_madeOf wsX3_madeOf { frames := 3, cells := 0, slots := 0, locals := 75 } (fun v _ => v = ([.long y0, .int y2] : List Value).toArray) (k2_QcV (.long r)) 0 0 (fun _ => False) := by
  refine Met.ofW (cc := cX3_madeOf) (maxL := 6) (ret := some .long) (by decide) rfl ?_
  intro p e s m args below meth c s₁ B hml hv
  subst hv
  have hx := B.exec
  have hb := B.bytes
  have hr := B.returns
  have hts := atoms_spec (ws := wsX3_madeOf) B.pre
  have hown : s.vm.findClass RX3 = some m.cls := findClass_of_methodNamed B.named
  have hlocks := B.notSynchronized
  have S0 : CallFix p m c cX3_madeOf 6 s ([.long y0, .int y2] : List Value).toArray wsX3_madeOf RX3 := ⟨hx, hb, hml, hown, hts⟩
  have hl := lv_entry [.long y0, .int y2] (n := 6) (Nat.le_of_ble_eq_true rfl)
  rw [lg_entry_eq]
  generalize (lg_sl [.long y0, .int y2] ++ List.replicate (6 - (lg_sl [.long y0, .int y2]).length) Slot.unset).toArray = ls at hl ⊢
  have hl : lv_has ls 6 [(0, .long y0), (2, .int y2)] := hl
  have K43 : ∀ (x3 : Int64), e_X3_madeOf_43 x3 = some r → ∀ ls, lv_has ls 6 [(3, .long x3)] → W p l e (headSpec wsX3_madeOf { frames := 3, cells := 0, slots := 0, locals := 75 }).room s m ([.long y0, .int y2] : List Value).toArray below meth c s.heap [] 0 0 (MQ below (k2_QcV (.long r)) ([.long y0, .int y2] : List Value).toArray s 0 0 (fun _ => False)) (F0 m 43 ls []) := by
    intro x3 h ls hl
    unfold e_X3_madeOf_43 at h
    refine lv_lload_n hx hb dX3_madeOf_43 rfl (lv_at hl 0 rfl) ?_
    exact W.lret hx hb hr (fun t ht _ => ⟨pf_rl h, ht⟩) (fun q hq => absurd hq List.not_mem_nil) dX3_madeOf_44
  have L8 : ∀ (n : Nat) (x0 : Int64) (x2 : Int32) (x3 : Int64) (x5 : Int32) (b : Int64), lpF (fun q : (Int64 × Int32) => s_X3_madeOf_8 x0 x2 q.1 q.2) n (x3, x5) = some b → a_X3_madeOf_8 b = some r → ∀ ls, lv_has ls 6 [(0, .long x0), (2, .int x2), (3, .long x3), (5, .int x5)] → W p l e (headSpec wsX3_madeOf { frames := 3, cells := 0, slots := 0, locals := 75 }).room s m ([.long y0, .int y2] : List Value).toArray below meth c s.heap [] 0 0 (MQ below (k2_QcV (.long r)) ([.long y0, .int y2] : List Value).toArray s 0 0 (fun _ => False)) (F0 m 8 ls []) := by
    intro n
    induction n with
    | zero => intro x0 x2 x3 x5 b h; exact lp_zero h
    | succ n ih =>
      intro x0 x2 x3 x5 b h ha ls hl
      obtain ⟨z8, h, hz⟩ := lp_open h
      have h : s_X3_madeOf_8 x0 x2 x3 x5 = some z8 := h
      unfold s_X3_madeOf_8 at h
      refine lv_iload hx hb dX3_madeOf_8 (lv_at hl 3 rfl) ?_
      refine lv_iload_n hx hb dX3_madeOf_10 rfl (lv_at hl 1 rfl) ?_
      refine lv_icmp_ge (tgt := 43) hx hb dX3_madeOf_11 (by decide) (fun c11 => ?_) (fun c11 => ?_)
      · have h := pf_pos h c11
        have ha := pf_aft ha (lp_exit h hz)
        exact K43 x3 ha ls (lv_sub hl [2] rfl)
      · have h := pf_neg h c11
        refine lv_lload_n hx hb dX3_madeOf_14 rfl (lv_at hl 0 rfl) ?_
        refine lv_lload_n hx hb dX3_madeOf_15 rfl (lv_at hl 2 rfl) ?_
        refine lv_ldc2 (v := -1) hx hb hown (hts (.constantLong RX3 34 (-1)) (by decide +kernel)) dX3_madeOf_16 ?_
        refine lv_lxor hx hb dX3_madeOf_19 ?_
        refine lv_land hx hb dX3_madeOf_20 ?_
        refine lv_iload hx hb dX3_madeOf_21 (lv_at hl 3 rfl) ?_
        obtain ⟨v23, hv23, h⟩ := pf_bind h
        refine pf_call (As := [.long (x0 &&& (x3 ^^^ (-1 : Int64))), .int x5]) (rest := []) S0 (c_X3_has l (x0 &&& (x3 ^^^ (-1 : Int64))) x5 v23 hv23) (va_cwS 2 hts gX3_madeOf_X3_has rfl rfl rfl kd_X3_has ⟨Nat.le_of_ble_eq_true rfl, Nat.le_of_ble_eq_true rfl⟩) rfl hl.1 rfl (Nat.le_of_ble_eq_true rfl) dX3_madeOf_23 ⟨Nat.zero_le _, Nat.zero_le _⟩ ?_
        refine lv_if_eq (tgt := 37) hx hb dX3_madeOf_26 (by decide) (fun c26 => ?_) (fun c26 => ?_)
        · have h := pf_pos h c26
          refine lv_iinc (v := (x5 + (1 : Int32))) (lv' := [(5, .int (x5 + (1 : Int32))), (0, .long x0), (2, .int x2), (3, .long x3)]) hx hb dX3_madeOf_37 hl (k := 3) rfl rfl (by decide) rfl (fun ls hl => ?_)
          refine lv_goto (tgt := 8) hx hb dX3_madeOf_40 (by decide) ?_
          exact ih x0 x2 x3 (x5 + (1 : Int32)) b (lp_cont h hz) ha ls (lv_sub hl [1, 2, 3, 0] rfl)
        · have h := pf_neg h c26
          refine lv_lload_n hx hb dX3_madeOf_29 rfl (lv_at hl 2 rfl) ?_
          refine lv_iload hx hb dX3_madeOf_30 (lv_at hl 3 rfl) ?_
          refine lv_iload_n hx hb dX3_madeOf_32 rfl (lv_at hl 1 rfl) ?_
          obtain ⟨v33, hv33, h⟩ := pf_bind h
          refine pf_call (As := [.long x3, .int x5, .int x2]) (rest := []) S0 (c_X3_with l x3 x5 x2 v33 hv33) (va_cwS 3 hts gX3_madeOf_X3_with rfl rfl rfl kd_X3_with ⟨Nat.le_of_ble_eq_true rfl, Nat.le_of_ble_eq_true rfl⟩) rfl hl.1 rfl (Nat.le_of_ble_eq_true rfl) dX3_madeOf_33 ⟨Nat.zero_le _, Nat.zero_le _⟩ ?_
          refine lv_lstore_n (lv' := [(3, .long v33), (0, .long x0), (2, .int x2), (5, .int x5)]) hx hb dX3_madeOf_36 rfl hl (by decide) rfl (fun ls hl => ?_)
          refine lv_iinc (v := (x5 + (1 : Int32))) (lv' := [(5, .int (x5 + (1 : Int32))), (3, .long v33), (0, .long x0), (2, .int x2)]) hx hb dX3_madeOf_37 hl (k := 3) rfl rfl (by decide) rfl (fun ls hl => ?_)
          refine lv_goto (tgt := 8) hx hb dX3_madeOf_40 (by decide) ?_
          exact ih x0 x2 v33 (x5 + (1 : Int32)) b (lp_cont h hz) ha ls (lv_sub hl [2, 3, 1, 0] rfl)
  have G8 : ∀ (x0 : Int64) (x2 : Int32) (x3 : Int64) (x5 : Int32), g_X3_madeOf_8 x0 x2 x3 x5 = some r → ∀ ls, lv_has ls 6 [(0, .long x0), (2, .int x2), (3, .long x3), (5, .int x5)] → W p l e (headSpec wsX3_madeOf { frames := 3, cells := 0, slots := 0, locals := 75 }).room s m ([.long y0, .int y2] : List Value).toArray below meth c s.heap [] 0 0 (MQ below (k2_QcV (.long r)) ([.long y0, .int y2] : List Value).toArray s 0 0 (fun _ => False)) (F0 m 8 ls []) := by
    intro x0 x2 x3 x5 h ls hl
    unfold g_X3_madeOf_8 at h
    obtain ⟨b, h, ha⟩ := pf_bind h
    exact L8 pfFU x0 x2 x3 x5 b h ha ls hl
  unfold p_X3_madeOf at h
  refine lv_iload_n hx hb dX3_madeOf_0 rfl (lv_at hl 1 rfl) ?_
  obtain ⟨v1, hv1, h⟩ := pf_bind h
  refine pf_call (As := [.int y2]) (rest := []) S0 (c_X3_one l y2 v1 hv1) (va_cwS 1 hts gX3_madeOf_X3_one rfl rfl rfl kd_X3_one ⟨Nat.le_of_ble_eq_true rfl, Nat.le_of_ble_eq_true rfl⟩) rfl hl.1 rfl (Nat.le_of_ble_eq_true rfl) dX3_madeOf_1 ⟨Nat.zero_le _, Nat.zero_le _⟩ ?_
  refine lv_lstore_n (lv' := [(3, .long v1), (0, .long y0), (2, .int y2)]) hx hb dX3_madeOf_4 rfl hl (by decide) rfl (fun ls hl => ?_)
  refine lv_iconst (v := 0) hx hb dX3_madeOf_5 (by decide) ?_
  refine lv_istore (lv' := [(5, .int (0 : Int32)), (3, .long v1), (0, .long y0), (2, .int y2)]) hx hb dX3_madeOf_6 hl (by decide) rfl (fun ls hl => ?_)
  exact G8 y0 y2 v1 (0 : Int32) h ls (lv_sub hl [2, 3, 1, 0] rfl)
-- X3_allPowers
def e_X3_allPowers_75 (x4 : Int64) : Option Int64 :=
  some x4
def e_X3_allPowers_59 (x0 : Int32) (x1 : Int32) (x2 : Int64) (x4 : Int64) (x6 : Int32) (x7 : Int32) : Option ((Int64 × Int32) ⊕ (Int64)) :=
  ((p_X3_bit x7).bind fun v63 => some (Sum.inl ((x4 ||| v63), (x6 + (1 : Int32)))))
def s_X3_allPowers_36 (x0 : Int32) (x1 : Int32) (x2 : Int64) (x4 : Int64) (x6 : Int32) (x7 : Int32) (x8 : Int32) : Option ((Int32 × Int32) ⊕ (Int32)) :=
  (if x1 ≤ x8 then some (Sum.inr x7) else ((p_X6_rest (x7 * x6) x0).bind fun v48 => some (Sum.inl (v48, (x8 + (1 : Int32))))))
def a_X3_allPowers_36 (x0 : Int32) (x1 : Int32) (x2 : Int64) (x4 : Int64) (x6 : Int32) (b : Int32) : Option ((Int64 × Int32) ⊕ (Int64)) := (fun q : Int32 => e_X3_allPowers_59 x0 x1 x2 x4 x6 q) b
def g_X3_allPowers_36 (x0 : Int32) (x1 : Int32) (x2 : Int64) (x4 : Int64) (x6 : Int32) (x7 : Int32) (x8 : Int32) : Option ((Int64 × Int32) ⊕ (Int64)) := (lpF (fun q : (Int32 × Int32) => s_X3_allPowers_36 x0 x1 x2 x4 x6 q.1 q.2) pfFU (x7, x8)).bind (a_X3_allPowers_36 x0 x1 x2 x4 x6)
def s_X3_allPowers_11 (x0 : Int32) (x1 : Int32) (x2 : Int64) (x4 : Int64) (x6 : Int32) : Option ((Int64 × Int32) ⊕ (Int64)) :=
  (if x0 ≤ x6 then some (Sum.inr x4) else ((p_X3_has x2 x6).bind fun v20 => (if v20 = 0 then some (Sum.inl (x4, (x6 + (1 : Int32)))) else ((p_X6_rest (1 : Int32) x0).bind fun v28 => g_X3_allPowers_36 x0 x1 x2 x4 x6 v28 (0 : Int32)))))
def a_X3_allPowers_11  (b : Int64) : Option Int64 := (fun q : Int64 => e_X3_allPowers_75 q) b
def g_X3_allPowers_11 (x0 : Int32) (x1 : Int32) (x2 : Int64) (x4 : Int64) (x6 : Int32) : Option Int64 := (lpF (fun q : (Int64 × Int32) => s_X3_allPowers_11 x0 x1 x2 q.1 q.2) pfFU (x4, x6)).bind (a_X3_allPowers_11 )
def p_X3_allPowers (y0 : Int32) (y1 : Int32) : Option Int64 :=
  ((p_X3_all y0).bind fun v1 => g_X3_allPowers_11 y0 y1 v1 (0 : Int64) (0 : Int32))
theorem kd_X3_allPowers : yX3_allPowers.cls ≠ "java/lang/invoke/MethodHandle" ∧ yX3_allPowers.cls ≠ "java/lang/invoke/VarHandle" ∧ (parseMethodDescriptor yX3_allPowers.desc).map (fun d => d.parameters.length) = some 2 := by decide +kernel
set_option maxHeartbeats 4000000 in
set_option maxRecDepth 100000 in
theorem c_X3_allPowers (l : Launch) (y0 : Int32) (y1 : Int32) (r : Int64) (h : p_X3_allPowers y0 y1 = some r) : Met l yX3_allPowers wsX3_allPowers { frames := 2, cells := 0, slots := 0, locals := 48 } (fun v _ => v = ([.int y0, .int y1] : List Value).toArray) (k2_QcV (.long r)) 0 0 (fun _ => False) := by
  refine Met.ofW (cc := cX3_allPowers) (maxL := 9) (ret := some .long) (by decide) rfl ?_
  intro p e s m args below meth c s₁ B hml hv
  subst hv
  have hx := B.exec
  have hb := B.bytes
  have hr := B.returns
  have hts := atoms_spec (ws := wsX3_allPowers) B.pre
  have hown : s.vm.findClass RX3 = some m.cls := findClass_of_methodNamed B.named
  have hlocks := B.notSynchronized
  have S0 : CallFix p m c cX3_allPowers 9 s ([.int y0, .int y1] : List Value).toArray wsX3_allPowers RX3 := ⟨hx, hb, hml, hown, hts⟩
  have hl := lv_entry [.int y0, .int y1] (n := 9) (Nat.le_of_ble_eq_true rfl)
  rw [lg_entry_eq]
  generalize (lg_sl [.int y0, .int y1] ++ List.replicate (9 - (lg_sl [.int y0, .int y1]).length) Slot.unset).toArray = ls at hl ⊢
  have hl : lv_has ls 9 [(0, .int y0), (1, .int y1)] := hl
  have K75 : ∀ (x4 : Int64), e_X3_allPowers_75 x4 = some r → ∀ ls, lv_has ls 9 [(4, .long x4)] → W p l e (headSpec wsX3_allPowers { frames := 2, cells := 0, slots := 0, locals := 48 }).room s m ([.int y0, .int y1] : List Value).toArray below meth c s.heap [] 0 0 (MQ below (k2_QcV (.long r)) ([.int y0, .int y1] : List Value).toArray s 0 0 (fun _ => False)) (F0 m 75 ls []) := by
    intro x4 h ls hl
    unfold e_X3_allPowers_75 at h
    refine lv_lload hx hb dX3_allPowers_75 (lv_at hl 0 rfl) ?_
    exact W.lret hx hb hr (fun t ht _ => ⟨pf_rl h, ht⟩) (fun q hq => absurd hq List.not_mem_nil) dX3_allPowers_77
  have L11 : ∀ (n : Nat) (x0 : Int32) (x1 : Int32) (x2 : Int64) (x4 : Int64) (x6 : Int32) (b : Int64), lpF (fun q : (Int64 × Int32) => s_X3_allPowers_11 x0 x1 x2 q.1 q.2) n (x4, x6) = some b → a_X3_allPowers_11 b = some r → ∀ ls, lv_has ls 9 [(0, .int x0), (1, .int x1), (2, .long x2), (4, .long x4), (6, .int x6)] → W p l e (headSpec wsX3_allPowers { frames := 2, cells := 0, slots := 0, locals := 48 }).room s m ([.int y0, .int y1] : List Value).toArray below meth c s.heap [] 0 0 (MQ below (k2_QcV (.long r)) ([.int y0, .int y1] : List Value).toArray s 0 0 (fun _ => False)) (F0 m 11 ls []) := by
    intro n
    induction n with
    | zero => intro x0 x1 x2 x4 x6 b h; exact lp_zero h
    | succ n ih =>
      intro x0 x1 x2 x4 x6 b h ha ls hl
      obtain ⟨z11, h, hz⟩ := lp_open h
      have h : s_X3_allPowers_11 x0 x1 x2 x4 x6 = some z11 := h
      have K59 : ∀ (x4 : Int64) (x6 : Int32) (x7 : Int32), e_X3_allPowers_59 x0 x1 x2 x4 x6 x7 = some z11 → ∀ ls, lv_has ls 9 [(0, .int x0), (1, .int x1), (2, .long x2), (4, .long x4), (6, .int x6), (7, .int x7)] → W p l e (headSpec wsX3_allPowers { frames := 2, cells := 0, slots := 0, locals := 48 }).room s m ([.int y0, .int y1] : List Value).toArray below meth c s.heap [] 0 0 (MQ below (k2_QcV (.long r)) ([.int y0, .int y1] : List Value).toArray s 0 0 (fun _ => False)) (F0 m 59 ls []) := by
        intro x4 x6 x7 h ls hl
        unfold e_X3_allPowers_59 at h
        refine lv_lload hx hb dX3_allPowers_59 (lv_at hl 3 rfl) ?_
        refine lv_iload hx hb dX3_allPowers_61 (lv_at hl 5 rfl) ?_
        obtain ⟨v63, hv63, h⟩ := pf_bind h
        refine pf_call (As := [.int x7]) (rest := [.long x4]) S0 (c_X3_bit l x7 v63 hv63) (va_cwS 1 hts gX3_allPowers_X3_bit rfl rfl rfl kd_X3_bit ⟨Nat.le_of_ble_eq_true rfl, Nat.le_of_ble_eq_true rfl⟩) rfl hl.1 rfl (Nat.le_of_ble_eq_true rfl) dX3_allPowers_63 ⟨Nat.zero_le _, Nat.zero_le _⟩ ?_
        refine lv_lor hx hb dX3_allPowers_66 ?_
        refine lv_lstore (lv' := [(4, .long (x4 ||| v63)), (0, .int x0), (1, .int x1), (2, .long x2), (6, .int x6), (7, .int x7)]) hx hb dX3_allPowers_67 hl (by decide) rfl (fun ls hl => ?_)
        refine lv_iinc (v := (x6 + (1 : Int32))) (lv' := [(6, .int (x6 + (1 : Int32))), (4, .long (x4 ||| v63)), (0, .int x0), (1, .int x1), (2, .long x2), (7, .int x7)]) hx hb dX3_allPowers_69 hl (k := 4) rfl rfl (by decide) rfl (fun ls hl => ?_)
        refine lv_goto (tgt := 11) hx hb dX3_allPowers_72 (by decide) ?_
        exact ih x0 x1 x2 (x4 ||| v63) (x6 + (1 : Int32)) b (lp_cont h hz) ha ls (lv_sub hl [2, 3, 4, 1, 0] rfl)
      have L36 : ∀ (n : Nat) (x4 : Int64) (x6 : Int32) (x7 : Int32) (x8 : Int32) (b : Int32), lpF (fun q : (Int32 × Int32) => s_X3_allPowers_36 x0 x1 x2 x4 x6 q.1 q.2) n (x7, x8) = some b → a_X3_allPowers_36 x0 x1 x2 x4 x6 b = some z11 → ∀ ls, lv_has ls 9 [(0, .int x0), (1, .int x1), (2, .long x2), (4, .long x4), (6, .int x6), (7, .int x7), (8, .int x8)] → W p l e (headSpec wsX3_allPowers { frames := 2, cells := 0, slots := 0, locals := 48 }).room s m ([.int y0, .int y1] : List Value).toArray below meth c s.heap [] 0 0 (MQ below (k2_QcV (.long r)) ([.int y0, .int y1] : List Value).toArray s 0 0 (fun _ => False)) (F0 m 36 ls []) := by
        intro n
        induction n with
        | zero => intro x4 x6 x7 x8 b h; exact lp_zero h
        | succ n ih =>
          intro x4 x6 x7 x8 b h ha ls hl
          obtain ⟨z36, h, hz⟩ := lp_open h
          have h : s_X3_allPowers_36 x0 x1 x2 x4 x6 x7 x8 = some z36 := h
          unfold s_X3_allPowers_36 at h
          refine lv_iload hx hb dX3_allPowers_36 (lv_at hl 6 rfl) ?_
          refine lv_iload_n hx hb dX3_allPowers_38 rfl (lv_at hl 1 rfl) ?_
          refine lv_icmp_ge (tgt := 59) hx hb dX3_allPowers_39 (by decide) (fun c39 => ?_) (fun c39 => ?_)
          · have h := pf_pos h c39
            have ha := pf_aft ha (lp_exit h hz)
            exact K59 x4 x6 x7 ha ls (lv_sub hl [0, 1, 2, 3, 4, 5] rfl)
          · have h := pf_neg h c39
            refine lv_iload hx hb dX3_allPowers_42 (lv_at hl 5 rfl) ?_
            refine lv_iload hx hb dX3_allPowers_44 (lv_at hl 4 rfl) ?_
            refine lv_imul hx hb dX3_allPowers_46 ?_
            refine lv_iload_n hx hb dX3_allPowers_47 rfl (lv_at hl 0 rfl) ?_
            obtain ⟨v48, hv48, h⟩ := pf_bind h
            refine pf_call (As := [.int (x7 * x6), .int x0]) (rest := []) S0 (c_X6_rest l (x7 * x6) x0 v48 hv48) (va_cwS 2 hts gX3_allPowers_X6_rest rfl rfl rfl kd_X6_rest ⟨Nat.le_of_ble_eq_true rfl, Nat.le_of_ble_eq_true rfl⟩) rfl hl.1 rfl (Nat.le_of_ble_eq_true rfl) dX3_allPowers_48 ⟨Nat.zero_le _, Nat.zero_le _⟩ ?_
            refine lv_istore (lv' := [(7, .int v48), (0, .int x0), (1, .int x1), (2, .long x2), (4, .long x4), (6, .int x6), (8, .int x8)]) hx hb dX3_allPowers_51 hl (by decide) rfl (fun ls hl => ?_)
            refine lv_iinc (v := (x8 + (1 : Int32))) (lv' := [(8, .int (x8 + (1 : Int32))), (7, .int v48), (0, .int x0), (1, .int x1), (2, .long x2), (4, .long x4), (6, .int x6)]) hx hb dX3_allPowers_53 hl (k := 6) rfl rfl (by decide) rfl (fun ls hl => ?_)
            refine lv_goto (tgt := 36) hx hb dX3_allPowers_56 (by decide) ?_
            exact ih x4 x6 v48 (x8 + (1 : Int32)) b (lp_cont h hz) ha ls (lv_sub hl [2, 3, 4, 5, 6, 1, 0] rfl)
      have G36 : ∀ (x4 : Int64) (x6 : Int32) (x7 : Int32) (x8 : Int32), g_X3_allPowers_36 x0 x1 x2 x4 x6 x7 x8 = some z11 → ∀ ls, lv_has ls 9 [(0, .int x0), (1, .int x1), (2, .long x2), (4, .long x4), (6, .int x6), (7, .int x7), (8, .int x8)] → W p l e (headSpec wsX3_allPowers { frames := 2, cells := 0, slots := 0, locals := 48 }).room s m ([.int y0, .int y1] : List Value).toArray below meth c s.heap [] 0 0 (MQ below (k2_QcV (.long r)) ([.int y0, .int y1] : List Value).toArray s 0 0 (fun _ => False)) (F0 m 36 ls []) := by
        intro x4 x6 x7 x8 h ls hl
        unfold g_X3_allPowers_36 at h
        obtain ⟨b, h, ha⟩ := pf_bind h
        exact L36 pfFU x4 x6 x7 x8 b h ha ls hl
      unfold s_X3_allPowers_11 at h
      refine lv_iload hx hb dX3_allPowers_11 (lv_at hl 4 rfl) ?_
      refine lv_iload_n hx hb dX3_allPowers_13 rfl (lv_at hl 0 rfl) ?_
      refine lv_icmp_ge (tgt := 75) hx hb dX3_allPowers_14 (by decide) (fun c14 => ?_) (fun c14 => ?_)
      · have h := pf_pos h c14
        have ha := pf_aft ha (lp_exit h hz)
        exact K75 x4 ha ls (lv_sub hl [3] rfl)
      · have h := pf_neg h c14
        refine lv_lload_n hx hb dX3_allPowers_17 rfl (lv_at hl 2 rfl) ?_
        refine lv_iload hx hb dX3_allPowers_18 (lv_at hl 4 rfl) ?_
        obtain ⟨v20, hv20, h⟩ := pf_bind h
        refine pf_call (As := [.long x2, .int x6]) (rest := []) S0 (c_X3_has l x2 x6 v20 hv20) (va_cwS 2 hts gX3_allPowers_X3_has rfl rfl rfl kd_X3_has ⟨Nat.le_of_ble_eq_true rfl, Nat.le_of_ble_eq_true rfl⟩) rfl hl.1 rfl (Nat.le_of_ble_eq_true rfl) dX3_allPowers_20 ⟨Nat.zero_le _, Nat.zero_le _⟩ ?_
        refine lv_if_eq (tgt := 69) hx hb dX3_allPowers_23 (by decide) (fun c23 => ?_) (fun c23 => ?_)
        · have h := pf_pos h c23
          refine lv_iinc (v := (x6 + (1 : Int32))) (lv' := [(6, .int (x6 + (1 : Int32))), (0, .int x0), (1, .int x1), (2, .long x2), (4, .long x4)]) hx hb dX3_allPowers_69 hl (k := 4) rfl rfl (by decide) rfl (fun ls hl => ?_)
          refine lv_goto (tgt := 11) hx hb dX3_allPowers_72 (by decide) ?_
          exact ih x0 x1 x2 x4 (x6 + (1 : Int32)) b (lp_cont h hz) ha ls (lv_sub hl [1, 2, 3, 4, 0] rfl)
        · have h := pf_neg h c23
          refine lv_iconst (v := 1) hx hb dX3_allPowers_26 (by decide) ?_
          refine lv_iload_n hx hb dX3_allPowers_27 rfl (lv_at hl 0 rfl) ?_
          obtain ⟨v28, hv28, h⟩ := pf_bind h
          refine pf_call (As := [.int (1 : Int32), .int x0]) (rest := []) S0 (c_X6_rest l (1 : Int32) x0 v28 hv28) (va_cwS 2 hts gX3_allPowers_X6_rest rfl rfl rfl kd_X6_rest ⟨Nat.le_of_ble_eq_true rfl, Nat.le_of_ble_eq_true rfl⟩) rfl hl.1 rfl (Nat.le_of_ble_eq_true rfl) dX3_allPowers_28 ⟨Nat.zero_le _, Nat.zero_le _⟩ ?_
          refine lv_istore (lv' := [(7, .int v28), (0, .int x0), (1, .int x1), (2, .long x2), (4, .long x4), (6, .int x6)]) hx hb dX3_allPowers_31 hl (by decide) rfl (fun ls hl => ?_)
          refine lv_iconst (v := 0) hx hb dX3_allPowers_33 (by decide) ?_
          refine lv_istore (lv' := [(8, .int (0 : Int32)), (7, .int v28), (0, .int x0), (1, .int x1), (2, .long x2), (4, .long x4), (6, .int x6)]) hx hb dX3_allPowers_34 hl (by decide) rfl (fun ls hl => ?_)
          exact G36 x4 x6 v28 (0 : Int32) h ls (lv_sub hl [2, 3, 4, 5, 6, 1, 0] rfl)
  have G11 : ∀ (x0 : Int32) (x1 : Int32) (x2 : Int64) (x4 : Int64) (x6 : Int32), g_X3_allPowers_11 x0 x1 x2 x4 x6 = some r → ∀ ls, lv_has ls 9 [(0, .int x0), (1, .int x1), (2, .long x2), (4, .long x4), (6, .int x6)] → W p l e (headSpec wsX3_allPowers { frames := 2, cells := 0, slots := 0, locals := 48 }).room s m ([.int y0, .int y1] : List Value).toArray below meth c s.heap [] 0 0 (MQ below (k2_QcV (.long r)) ([.int y0, .int y1] : List Value).toArray s 0 0 (fun _ => False)) (F0 m 11 ls []) := by
    intro x0 x1 x2 x4 x6 h ls hl
    unfold g_X3_allPowers_11 at h
    obtain ⟨b, h, ha⟩ := pf_bind h
    exact L11 pfFU x0 x1 x2 x4 x6 b h ha ls hl
  unfold p_X3_allPowers at h
  refine lv_iload_n hx hb dX3_allPowers_0 rfl (lv_at hl 0 rfl) ?_
  obtain ⟨v1, hv1, h⟩ := pf_bind h
  refine pf_call (As := [.int y0]) (rest := []) S0 (c_X3_all l y0 v1 hv1) (va_cwS 1 hts gX3_allPowers_X3_all rfl rfl rfl kd_X3_all ⟨Nat.le_of_ble_eq_true rfl, Nat.le_of_ble_eq_true rfl⟩) rfl hl.1 rfl (Nat.le_of_ble_eq_true rfl) dX3_allPowers_1 ⟨Nat.zero_le _, Nat.zero_le _⟩ ?_
  refine lv_lstore_n (lv' := [(2, .long v1), (0, .int y0), (1, .int y1)]) hx hb dX3_allPowers_4 rfl hl (by decide) rfl (fun ls hl => ?_)
  refine lv_lconst (v := 0) hx hb dX3_allPowers_5 (by decide) ?_
  refine lv_lstore (lv' := [(4, .long (0 : Int64)), (2, .long v1), (0, .int y0), (1, .int y1)]) hx hb dX3_allPowers_6 hl (by decide) rfl (fun ls hl => ?_)
  refine lv_iconst (v := 0) hx hb dX3_allPowers_8 (by decide) ?_
  refine lv_istore (lv' := [(6, .int (0 : Int32)), (4, .long (0 : Int64)), (2, .long v1), (0, .int y0), (1, .int y1)]) hx hb dX3_allPowers_9 hl (by decide) rfl (fun ls hl => ?_)
  exact G11 y0 y1 v1 (0 : Int64) (0 : Int32) h ls (lv_sub hl [3, 4, 2, 1, 0] rfl)
-- X3_orderOver
def e_X3_orderOver_40  : Option Int32 :=
  some (1 : Int32)
def e_X3_orderOver_21 (x5 : Int32) : Option Int32 :=
  some x5
def s_X3_orderOver_6 (x0 : Int64) (x2 : Int32) (x3 : Int32) (x4 : Int32) (x5 : Int32) : Option ((Int32 × Int32) ⊕ (Int32 ⊕ Unit)) :=
  (if x3 ≤ x5 then some (Sum.inr (Sum.inr ())) else ((p_X3_has x0 x4).bind fun v15 => (if v15 = 0 then ((p_X6_rest (x4 * x2) x3).bind fun v29 => some (Sum.inl (v29, (x5 + (1 : Int32))))) else some (Sum.inr (Sum.inl x5)))))
def a_X3_orderOver_6  (b : Int32 ⊕ Unit) : Option Int32 := Sum.elim (fun q : Int32 => e_X3_orderOver_21 q) (fun q : Unit => e_X3_orderOver_40 ) b
def g_X3_orderOver_6 (x0 : Int64) (x2 : Int32) (x3 : Int32) (x4 : Int32) (x5 : Int32) : Option Int32 := (lpF (fun q : (Int32 × Int32) => s_X3_orderOver_6 x0 x2 x3 q.1 q.2) pfFU (x4, x5)).bind (a_X3_orderOver_6 )
def p_X3_orderOver (y0 : Int64) (y2 : Int32) (y3 : Int32) : Option Int32 :=
  g_X3_orderOver_6 y0 y2 y3 y2 (1 : Int32)
theorem kd_X3_orderOver : yX3_orderOver.cls ≠ "java/lang/invoke/MethodHandle" ∧ yX3_orderOver.cls ≠ "java/lang/invoke/VarHandle" ∧ (parseMethodDescriptor yX3_orderOver.desc).map (fun d => d.parameters.length) = some 3 := by decide +kernel
set_option maxHeartbeats 4000000 in
set_option maxRecDepth 100000 in
theorem c_X3_orderOver (l : Launch) (y0 : Int64) (y2 : Int32) (y3 : Int32) (r : Int32) (h : p_X3_orderOver y0 y2 y3 = some r) : Met l yX3_orderOver wsX3_orderOver { frames := 1, cells := 0, slots := 0, locals := 22 } (fun v _ => v = ([.long y0, .int y2, .int y3] : List Value).toArray) (k2_QcV (.int r)) 0 0 (fun _ => False) := by
  refine Met.ofW (cc := cX3_orderOver) (maxL := 6) (ret := some .int) (by decide) rfl ?_
  intro p e s m args below meth c s₁ B hml hv
  subst hv
  have hx := B.exec
  have hb := B.bytes
  have hr := B.returns
  have hts := atoms_spec (ws := wsX3_orderOver) B.pre
  have hown : s.vm.findClass RX3 = some m.cls := findClass_of_methodNamed B.named
  have hlocks := B.notSynchronized
  have S0 : CallFix p m c cX3_orderOver 6 s ([.long y0, .int y2, .int y3] : List Value).toArray wsX3_orderOver RX3 := ⟨hx, hb, hml, hown, hts⟩
  have hl := lv_entry [.long y0, .int y2, .int y3] (n := 6) (Nat.le_of_ble_eq_true rfl)
  rw [lg_entry_eq]
  generalize (lg_sl [.long y0, .int y2, .int y3] ++ List.replicate (6 - (lg_sl [.long y0, .int y2, .int y3]).length) Slot.unset).toArray = ls at hl ⊢
  have hl : lv_has ls 6 [(0, .long y0), (2, .int y2), (3, .int y3)] := hl
  have K40 : ∀ (_ : Unit), e_X3_orderOver_40  = some r → ∀ ls, lv_has ls 6 [] → W p l e (headSpec wsX3_orderOver { frames := 1, cells := 0, slots := 0, locals := 22 }).room s m ([.long y0, .int y2, .int y3] : List Value).toArray below meth c s.heap [] 0 0 (MQ below (k2_QcV (.int r)) ([.long y0, .int y2, .int y3] : List Value).toArray s 0 0 (fun _ => False)) (F0 m 40 ls []) := by
    intro _ h ls hl
    unfold e_X3_orderOver_40 at h
    refine lv_iconst (v := 1) hx hb dX3_orderOver_40 (by decide) ?_
    exact W.iret hx hb hr (fun t ht _ => ⟨pf_ri h, ht⟩) (fun q hq => absurd hq List.not_mem_nil) dX3_orderOver_41
  have K21 : ∀ (x5 : Int32), e_X3_orderOver_21 x5 = some r → ∀ ls, lv_has ls 6 [(5, .int x5)] → W p l e (headSpec wsX3_orderOver { frames := 1, cells := 0, slots := 0, locals := 22 }).room s m ([.long y0, .int y2, .int y3] : List Value).toArray below meth c s.heap [] 0 0 (MQ below (k2_QcV (.int r)) ([.long y0, .int y2, .int y3] : List Value).toArray s 0 0 (fun _ => False)) (F0 m 21 ls []) := by
    intro x5 h ls hl
    unfold e_X3_orderOver_21 at h
    refine lv_iload hx hb dX3_orderOver_21 (lv_at hl 0 rfl) ?_
    exact W.iret hx hb hr (fun t ht _ => ⟨pf_ri h, ht⟩) (fun q hq => absurd hq List.not_mem_nil) dX3_orderOver_23
  have L6 : ∀ (n : Nat) (x0 : Int64) (x2 : Int32) (x3 : Int32) (x4 : Int32) (x5 : Int32) (b : Int32 ⊕ Unit), lpF (fun q : (Int32 × Int32) => s_X3_orderOver_6 x0 x2 x3 q.1 q.2) n (x4, x5) = some b → a_X3_orderOver_6 b = some r → ∀ ls, lv_has ls 6 [(0, .long x0), (2, .int x2), (3, .int x3), (4, .int x4), (5, .int x5)] → W p l e (headSpec wsX3_orderOver { frames := 1, cells := 0, slots := 0, locals := 22 }).room s m ([.long y0, .int y2, .int y3] : List Value).toArray below meth c s.heap [] 0 0 (MQ below (k2_QcV (.int r)) ([.long y0, .int y2, .int y3] : List Value).toArray s 0 0 (fun _ => False)) (F0 m 6 ls []) := by
    intro n
    induction n with
    | zero => intro x0 x2 x3 x4 x5 b h; exact lp_zero h
    | succ n ih =>
      intro x0 x2 x3 x4 x5 b h ha ls hl
      obtain ⟨z6, h, hz⟩ := lp_open h
      have h : s_X3_orderOver_6 x0 x2 x3 x4 x5 = some z6 := h
      unfold s_X3_orderOver_6 at h
      refine lv_iload hx hb dX3_orderOver_6 (lv_at hl 4 rfl) ?_
      refine lv_iload_n hx hb dX3_orderOver_8 rfl (lv_at hl 2 rfl) ?_
      refine lv_icmp_ge (tgt := 40) hx hb dX3_orderOver_9 (by decide) (fun c9 => ?_) (fun c9 => ?_)
      · have h := pf_pos h c9
        have ha := pf_aft ha (lp_exit h hz)
        exact K40 () ha ls (lv_sub hl [] rfl)
      · have h := pf_neg h c9
        refine lv_lload_n hx hb dX3_orderOver_12 rfl (lv_at hl 0 rfl) ?_
        refine lv_iload hx hb dX3_orderOver_13 (lv_at hl 3 rfl) ?_
        obtain ⟨v15, hv15, h⟩ := pf_bind h
        refine pf_call (As := [.long x0, .int x4]) (rest := []) S0 (c_X3_has l x0 x4 v15 hv15) (va_cwS 2 hts gX3_orderOver_X3_has rfl rfl rfl kd_X3_has ⟨Nat.le_of_ble_eq_true rfl, Nat.le_of_ble_eq_true rfl⟩) rfl hl.1 rfl (Nat.le_of_ble_eq_true rfl) dX3_orderOver_15 ⟨Nat.zero_le _, Nat.zero_le _⟩ ?_
        refine lv_if_eq (tgt := 24) hx hb dX3_orderOver_18 (by decide) (fun c18 => ?_) (fun c18 => ?_)
        · have h := pf_pos h c18
          refine lv_iload hx hb dX3_orderOver_24 (lv_at hl 3 rfl) ?_
          refine lv_iload_n hx hb dX3_orderOver_26 rfl (lv_at hl 1 rfl) ?_
          refine lv_imul hx hb dX3_orderOver_27 ?_
          refine lv_iload_n hx hb dX3_orderOver_28 rfl (lv_at hl 2 rfl) ?_
          obtain ⟨v29, hv29, h⟩ := pf_bind h
          refine pf_call (As := [.int (x4 * x2), .int x3]) (rest := []) S0 (c_X6_rest l (x4 * x2) x3 v29 hv29) (va_cwS 2 hts gX3_orderOver_X6_rest rfl rfl rfl kd_X6_rest ⟨Nat.le_of_ble_eq_true rfl, Nat.le_of_ble_eq_true rfl⟩) rfl hl.1 rfl (Nat.le_of_ble_eq_true rfl) dX3_orderOver_29 ⟨Nat.zero_le _, Nat.zero_le _⟩ ?_
          refine lv_istore (lv' := [(4, .int v29), (0, .long x0), (2, .int x2), (3, .int x3), (5, .int x5)]) hx hb dX3_orderOver_32 hl (by decide) rfl (fun ls hl => ?_)
          refine lv_iinc (v := (x5 + (1 : Int32))) (lv' := [(5, .int (x5 + (1 : Int32))), (4, .int v29), (0, .long x0), (2, .int x2), (3, .int x3)]) hx hb dX3_orderOver_34 hl (k := 4) rfl rfl (by decide) rfl (fun ls hl => ?_)
          refine lv_goto (tgt := 6) hx hb dX3_orderOver_37 (by decide) ?_
          exact ih x0 x2 x3 v29 (x5 + (1 : Int32)) b (lp_cont h hz) ha ls (lv_sub hl [2, 3, 4, 1, 0] rfl)
        · have h := pf_neg h c18
          have ha := pf_aft ha (lp_exit h hz)
          exact K21 x5 ha ls (lv_sub hl [4] rfl)
  have G6 : ∀ (x0 : Int64) (x2 : Int32) (x3 : Int32) (x4 : Int32) (x5 : Int32), g_X3_orderOver_6 x0 x2 x3 x4 x5 = some r → ∀ ls, lv_has ls 6 [(0, .long x0), (2, .int x2), (3, .int x3), (4, .int x4), (5, .int x5)] → W p l e (headSpec wsX3_orderOver { frames := 1, cells := 0, slots := 0, locals := 22 }).room s m ([.long y0, .int y2, .int y3] : List Value).toArray below meth c s.heap [] 0 0 (MQ below (k2_QcV (.int r)) ([.long y0, .int y2, .int y3] : List Value).toArray s 0 0 (fun _ => False)) (F0 m 6 ls []) := by
    intro x0 x2 x3 x4 x5 h ls hl
    unfold g_X3_orderOver_6 at h
    obtain ⟨b, h, ha⟩ := pf_bind h
    exact L6 pfFU x0 x2 x3 x4 x5 b h ha ls hl
  unfold p_X3_orderOver at h
  refine lv_iload_n hx hb dX3_orderOver_0 rfl (lv_at hl 1 rfl) ?_
  refine lv_istore (lv' := [(4, .int y2), (0, .long y0), (2, .int y2), (3, .int y3)]) hx hb dX3_orderOver_1 hl (by decide) rfl (fun ls hl => ?_)
  refine lv_iconst (v := 1) hx hb dX3_orderOver_3 (by decide) ?_
  refine lv_istore (lv' := [(5, .int (1 : Int32)), (4, .int y2), (0, .long y0), (2, .int y2), (3, .int y3)]) hx hb dX3_orderOver_4 hl (by decide) rfl (fun ls hl => ?_)
  exact G6 y0 y2 y3 y2 (1 : Int32) h ls (lv_sub hl [2, 3, 4, 1, 0] rfl)
-- X3_onesBy
def e_X3_onesBy_56 (x4 : Int64) : Option Int64 :=
  some x4
def s_X3_onesBy_11 (x0 : Int32) (x1 : Int32) (x2 : Int64) (x4 : Int64) (x6 : Int32) : Option ((Int64 × Int32) ⊕ (Int64)) :=
  (if x1 ≤ x6 then some (Sum.inr x4) else ((p_X3_has x2 x6).bind fun v20 => (if v20 = 0 then some (Sum.inl (x4, (x6 + (1 : Int32)))) else ((p_X6_rest x6 x0).bind fun v29 => ((p_X6_rest (1 : Int32) x0).bind fun v34 => (if v29 = v34 then ((p_X3_bit x6).bind fun v44 => some (Sum.inl ((x4 ||| v44), (x6 + (1 : Int32))))) else some (Sum.inl (x4, (x6 + (1 : Int32))))))))))
def a_X3_onesBy_11  (b : Int64) : Option Int64 := (fun q : Int64 => e_X3_onesBy_56 q) b
def g_X3_onesBy_11 (x0 : Int32) (x1 : Int32) (x2 : Int64) (x4 : Int64) (x6 : Int32) : Option Int64 := (lpF (fun q : (Int64 × Int32) => s_X3_onesBy_11 x0 x1 x2 q.1 q.2) pfFU (x4, x6)).bind (a_X3_onesBy_11 )
def p_X3_onesBy (y0 : Int32) (y1 : Int32) : Option Int64 :=
  ((p_X3_all y1).bind fun v1 => g_X3_onesBy_11 y0 y1 v1 (0 : Int64) (0 : Int32))
theorem kd_X3_onesBy : yX3_onesBy.cls ≠ "java/lang/invoke/MethodHandle" ∧ yX3_onesBy.cls ≠ "java/lang/invoke/VarHandle" ∧ (parseMethodDescriptor yX3_onesBy.desc).map (fun d => d.parameters.length) = some 2 := by decide +kernel
set_option maxHeartbeats 4000000 in
set_option maxRecDepth 100000 in
theorem c_X3_onesBy (l : Launch) (y0 : Int32) (y1 : Int32) (r : Int64) (h : p_X3_onesBy y0 y1 = some r) : Met l yX3_onesBy wsX3_onesBy { frames := 2, cells := 0, slots := 0, locals := 48 } (fun v _ => v = ([.int y0, .int y1] : List Value).toArray) (k2_QcV (.long r)) 0 0 (fun _ => False) := by
  refine Met.ofW (cc := cX3_onesBy) (maxL := 7) (ret := some .long) (by decide) rfl ?_
  intro p e s m args below meth c s₁ B hml hv
  subst hv
  have hx := B.exec
  have hb := B.bytes
  have hr := B.returns
  have hts := atoms_spec (ws := wsX3_onesBy) B.pre
  have hown : s.vm.findClass RX3 = some m.cls := findClass_of_methodNamed B.named
  have hlocks := B.notSynchronized
  have S0 : CallFix p m c cX3_onesBy 7 s ([.int y0, .int y1] : List Value).toArray wsX3_onesBy RX3 := ⟨hx, hb, hml, hown, hts⟩
  have hl := lv_entry [.int y0, .int y1] (n := 7) (Nat.le_of_ble_eq_true rfl)
  rw [lg_entry_eq]
  generalize (lg_sl [.int y0, .int y1] ++ List.replicate (7 - (lg_sl [.int y0, .int y1]).length) Slot.unset).toArray = ls at hl ⊢
  have hl : lv_has ls 7 [(0, .int y0), (1, .int y1)] := hl
  have K56 : ∀ (x4 : Int64), e_X3_onesBy_56 x4 = some r → ∀ ls, lv_has ls 7 [(4, .long x4)] → W p l e (headSpec wsX3_onesBy { frames := 2, cells := 0, slots := 0, locals := 48 }).room s m ([.int y0, .int y1] : List Value).toArray below meth c s.heap [] 0 0 (MQ below (k2_QcV (.long r)) ([.int y0, .int y1] : List Value).toArray s 0 0 (fun _ => False)) (F0 m 56 ls []) := by
    intro x4 h ls hl
    unfold e_X3_onesBy_56 at h
    refine lv_lload hx hb dX3_onesBy_56 (lv_at hl 0 rfl) ?_
    exact W.lret hx hb hr (fun t ht _ => ⟨pf_rl h, ht⟩) (fun q hq => absurd hq List.not_mem_nil) dX3_onesBy_58
  have L11 : ∀ (n : Nat) (x0 : Int32) (x1 : Int32) (x2 : Int64) (x4 : Int64) (x6 : Int32) (b : Int64), lpF (fun q : (Int64 × Int32) => s_X3_onesBy_11 x0 x1 x2 q.1 q.2) n (x4, x6) = some b → a_X3_onesBy_11 b = some r → ∀ ls, lv_has ls 7 [(0, .int x0), (1, .int x1), (2, .long x2), (4, .long x4), (6, .int x6)] → W p l e (headSpec wsX3_onesBy { frames := 2, cells := 0, slots := 0, locals := 48 }).room s m ([.int y0, .int y1] : List Value).toArray below meth c s.heap [] 0 0 (MQ below (k2_QcV (.long r)) ([.int y0, .int y1] : List Value).toArray s 0 0 (fun _ => False)) (F0 m 11 ls []) := by
    intro n
    induction n with
    | zero => intro x0 x1 x2 x4 x6 b h; exact lp_zero h
    | succ n ih =>
      intro x0 x1 x2 x4 x6 b h ha ls hl
      obtain ⟨z11, h, hz⟩ := lp_open h
      have h : s_X3_onesBy_11 x0 x1 x2 x4 x6 = some z11 := h
      unfold s_X3_onesBy_11 at h
      refine lv_iload hx hb dX3_onesBy_11 (lv_at hl 4 rfl) ?_
      refine lv_iload_n hx hb dX3_onesBy_13 rfl (lv_at hl 1 rfl) ?_
      refine lv_icmp_ge (tgt := 56) hx hb dX3_onesBy_14 (by decide) (fun c14 => ?_) (fun c14 => ?_)
      · have h := pf_pos h c14
        have ha := pf_aft ha (lp_exit h hz)
        exact K56 x4 ha ls (lv_sub hl [3] rfl)
      · have h := pf_neg h c14
        refine lv_lload_n hx hb dX3_onesBy_17 rfl (lv_at hl 2 rfl) ?_
        refine lv_iload hx hb dX3_onesBy_18 (lv_at hl 4 rfl) ?_
        obtain ⟨v20, hv20, h⟩ := pf_bind h
        refine pf_call (As := [.long x2, .int x6]) (rest := []) S0 (c_X3_has l x2 x6 v20 hv20) (va_cwS 2 hts gX3_onesBy_X3_has rfl rfl rfl kd_X3_has ⟨Nat.le_of_ble_eq_true rfl, Nat.le_of_ble_eq_true rfl⟩) rfl hl.1 rfl (Nat.le_of_ble_eq_true rfl) dX3_onesBy_20 ⟨Nat.zero_le _, Nat.zero_le _⟩ ?_
        refine lv_if_eq (tgt := 50) hx hb dX3_onesBy_23 (by decide) (fun c23 => ?_) (fun c23 => ?_)
        · have h := pf_pos h c23
          refine lv_iinc (v := (x6 + (1 : Int32))) (lv' := [(6, .int (x6 + (1 : Int32))), (0, .int x0), (1, .int x1), (2, .long x2), (4, .long x4)]) hx hb dX3_onesBy_50 hl (k := 4) rfl rfl (by decide) rfl (fun ls hl => ?_)
          refine lv_goto (tgt := 11) hx hb dX3_onesBy_53 (by decide) ?_
          exact ih x0 x1 x2 x4 (x6 + (1 : Int32)) b (lp_cont h hz) ha ls (lv_sub hl [1, 2, 3, 4, 0] rfl)
        · have h := pf_neg h c23
          refine lv_iload hx hb dX3_onesBy_26 (lv_at hl 4 rfl) ?_
          refine lv_iload_n hx hb dX3_onesBy_28 rfl (lv_at hl 0 rfl) ?_
          obtain ⟨v29, hv29, h⟩ := pf_bind h
          refine pf_call (As := [.int x6, .int x0]) (rest := []) S0 (c_X6_rest l x6 x0 v29 hv29) (va_cwS 2 hts gX3_onesBy_X6_rest rfl rfl rfl kd_X6_rest ⟨Nat.le_of_ble_eq_true rfl, Nat.le_of_ble_eq_true rfl⟩) rfl hl.1 rfl (Nat.le_of_ble_eq_true rfl) dX3_onesBy_29 ⟨Nat.zero_le _, Nat.zero_le _⟩ ?_
          refine lv_iconst (v := 1) hx hb dX3_onesBy_32 (by decide) ?_
          refine lv_iload_n hx hb dX3_onesBy_33 rfl (lv_at hl 0 rfl) ?_
          obtain ⟨v34, hv34, h⟩ := pf_bind h
          refine pf_call (As := [.int (1 : Int32), .int x0]) (rest := [.int v29]) S0 (c_X6_rest l (1 : Int32) x0 v34 hv34) (va_cwS 2 hts gX3_onesBy_X6_rest rfl rfl rfl kd_X6_rest ⟨Nat.le_of_ble_eq_true rfl, Nat.le_of_ble_eq_true rfl⟩) rfl hl.1 rfl (Nat.le_of_ble_eq_true rfl) dX3_onesBy_34 ⟨Nat.zero_le _, Nat.zero_le _⟩ ?_
          refine lv_icmp_ne (tgt := 50) hx hb dX3_onesBy_37 (by decide) (fun c37 => ?_) (fun c37 => ?_)
          · have h := pf_neg h c37
            refine lv_iinc (v := (x6 + (1 : Int32))) (lv' := [(6, .int (x6 + (1 : Int32))), (0, .int x0), (1, .int x1), (2, .long x2), (4, .long x4)]) hx hb dX3_onesBy_50 hl (k := 4) rfl rfl (by decide) rfl (fun ls hl => ?_)
            refine lv_goto (tgt := 11) hx hb dX3_onesBy_53 (by decide) ?_
            exact ih x0 x1 x2 x4 (x6 + (1 : Int32)) b (lp_cont h hz) ha ls (lv_sub hl [1, 2, 3, 4, 0] rfl)
          · have h := pf_pos h c37
            refine lv_lload hx hb dX3_onesBy_40 (lv_at hl 3 rfl) ?_
            refine lv_iload hx hb dX3_onesBy_42 (lv_at hl 4 rfl) ?_
            obtain ⟨v44, hv44, h⟩ := pf_bind h
            refine pf_call (As := [.int x6]) (rest := [.long x4]) S0 (c_X3_bit l x6 v44 hv44) (va_cwS 1 hts gX3_onesBy_X3_bit rfl rfl rfl kd_X3_bit ⟨Nat.le_of_ble_eq_true rfl, Nat.le_of_ble_eq_true rfl⟩) rfl hl.1 rfl (Nat.le_of_ble_eq_true rfl) dX3_onesBy_44 ⟨Nat.zero_le _, Nat.zero_le _⟩ ?_
            refine lv_lor hx hb dX3_onesBy_47 ?_
            refine lv_lstore (lv' := [(4, .long (x4 ||| v44)), (0, .int x0), (1, .int x1), (2, .long x2), (6, .int x6)]) hx hb dX3_onesBy_48 hl (by decide) rfl (fun ls hl => ?_)
            refine lv_iinc (v := (x6 + (1 : Int32))) (lv' := [(6, .int (x6 + (1 : Int32))), (4, .long (x4 ||| v44)), (0, .int x0), (1, .int x1), (2, .long x2)]) hx hb dX3_onesBy_50 hl (k := 4) rfl rfl (by decide) rfl (fun ls hl => ?_)
            refine lv_goto (tgt := 11) hx hb dX3_onesBy_53 (by decide) ?_
            exact ih x0 x1 x2 (x4 ||| v44) (x6 + (1 : Int32)) b (lp_cont h hz) ha ls (lv_sub hl [2, 3, 4, 1, 0] rfl)
  have G11 : ∀ (x0 : Int32) (x1 : Int32) (x2 : Int64) (x4 : Int64) (x6 : Int32), g_X3_onesBy_11 x0 x1 x2 x4 x6 = some r → ∀ ls, lv_has ls 7 [(0, .int x0), (1, .int x1), (2, .long x2), (4, .long x4), (6, .int x6)] → W p l e (headSpec wsX3_onesBy { frames := 2, cells := 0, slots := 0, locals := 48 }).room s m ([.int y0, .int y1] : List Value).toArray below meth c s.heap [] 0 0 (MQ below (k2_QcV (.long r)) ([.int y0, .int y1] : List Value).toArray s 0 0 (fun _ => False)) (F0 m 11 ls []) := by
    intro x0 x1 x2 x4 x6 h ls hl
    unfold g_X3_onesBy_11 at h
    obtain ⟨b, h, ha⟩ := pf_bind h
    exact L11 pfFU x0 x1 x2 x4 x6 b h ha ls hl
  unfold p_X3_onesBy at h
  refine lv_iload_n hx hb dX3_onesBy_0 rfl (lv_at hl 1 rfl) ?_
  obtain ⟨v1, hv1, h⟩ := pf_bind h
  refine pf_call (As := [.int y1]) (rest := []) S0 (c_X3_all l y1 v1 hv1) (va_cwS 1 hts gX3_onesBy_X3_all rfl rfl rfl kd_X3_all ⟨Nat.le_of_ble_eq_true rfl, Nat.le_of_ble_eq_true rfl⟩) rfl hl.1 rfl (Nat.le_of_ble_eq_true rfl) dX3_onesBy_1 ⟨Nat.zero_le _, Nat.zero_le _⟩ ?_
  refine lv_lstore_n (lv' := [(2, .long v1), (0, .int y0), (1, .int y1)]) hx hb dX3_onesBy_4 rfl hl (by decide) rfl (fun ls hl => ?_)
  refine lv_lconst (v := 0) hx hb dX3_onesBy_5 (by decide) ?_
  refine lv_lstore (lv' := [(4, .long (0 : Int64)), (2, .long v1), (0, .int y0), (1, .int y1)]) hx hb dX3_onesBy_6 hl (by decide) rfl (fun ls hl => ?_)
  refine lv_iconst (v := 0) hx hb dX3_onesBy_8 (by decide) ?_
  refine lv_istore (lv' := [(6, .int (0 : Int32)), (4, .long (0 : Int64)), (2, .long v1), (0, .int y0), (1, .int y1)]) hx hb dX3_onesBy_9 hl (by decide) rfl (fun ls hl => ?_)
  exact G11 y0 y1 v1 (0 : Int64) (0 : Int32) h ls (lv_sub hl [3, 4, 2, 1, 0] rfl)
-- X3_lifted
def e_X3_lifted_57 (x6 : Int64) : Option Int64 :=
  some x6
def s_X3_lifted_12 (x0 : Int64) (x2 : Int32) (x3 : Int32) (x4 : Int64) (x6 : Int64) (x8 : Int32) : Option ((Int64 × Int32) ⊕ (Int64)) :=
  (if x3 ≤ x8 then some (Sum.inr x6) else ((p_X3_has x4 x8).bind fun v22 => (if v22 = 0 then some (Sum.inl (x6, (x8 + (1 : Int32)))) else ((p_X6_rest x8 x2).bind fun v32 => ((p_X3_has x0 v32).bind fun v35 => (if v35 = 0 then some (Sum.inl (x6, (x8 + (1 : Int32)))) else ((p_X3_bit x8).bind fun v45 => some (Sum.inl ((x6 ||| v45), (x8 + (1 : Int32)))))))))))
def a_X3_lifted_12  (b : Int64) : Option Int64 := (fun q : Int64 => e_X3_lifted_57 q) b
def g_X3_lifted_12 (x0 : Int64) (x2 : Int32) (x3 : Int32) (x4 : Int64) (x6 : Int64) (x8 : Int32) : Option Int64 := (lpF (fun q : (Int64 × Int32) => s_X3_lifted_12 x0 x2 x3 x4 q.1 q.2) pfFU (x6, x8)).bind (a_X3_lifted_12 )
def p_X3_lifted (y0 : Int64) (y2 : Int32) (y3 : Int32) : Option Int64 :=
  ((p_X3_all y3).bind fun v1 => g_X3_lifted_12 y0 y2 y3 v1 (0 : Int64) (0 : Int32))
theorem kd_X3_lifted : yX3_lifted.cls ≠ "java/lang/invoke/MethodHandle" ∧ yX3_lifted.cls ≠ "java/lang/invoke/VarHandle" ∧ (parseMethodDescriptor yX3_lifted.desc).map (fun d => d.parameters.length) = some 3 := by decide +kernel
set_option maxHeartbeats 4000000 in
set_option maxRecDepth 100000 in
theorem c_X3_lifted (l : Launch) (y0 : Int64) (y2 : Int32) (y3 : Int32) (r : Int64) (h : p_X3_lifted y0 y2 y3 = some r) : Met l yX3_lifted wsX3_lifted { frames := 2, cells := 0, slots := 0, locals := 48 } (fun v _ => v = ([.long y0, .int y2, .int y3] : List Value).toArray) (k2_QcV (.long r)) 0 0 (fun _ => False) := by
  refine Met.ofW (cc := cX3_lifted) (maxL := 9) (ret := some .long) (by decide) rfl ?_
  intro p e s m args below meth c s₁ B hml hv
  subst hv
  have hx := B.exec
  have hb := B.bytes
  have hr := B.returns
  have hts := atoms_spec (ws := wsX3_lifted) B.pre
  have hown : s.vm.findClass RX3 = some m.cls := findClass_of_methodNamed B.named
  have hlocks := B.notSynchronized
  have S0 : CallFix p m c cX3_lifted 9 s ([.long y0, .int y2, .int y3] : List Value).toArray wsX3_lifted RX3 := ⟨hx, hb, hml, hown, hts⟩
  have hl := lv_entry [.long y0, .int y2, .int y3] (n := 9) (Nat.le_of_ble_eq_true rfl)
  rw [lg_entry_eq]
  generalize (lg_sl [.long y0, .int y2, .int y3] ++ List.replicate (9 - (lg_sl [.long y0, .int y2, .int y3]).length) Slot.unset).toArray = ls at hl ⊢
  have hl : lv_has ls 9 [(0, .long y0), (2, .int y2), (3, .int y3)] := hl
  have K57 : ∀ (x6 : Int64), e_X3_lifted_57 x6 = some r → ∀ ls, lv_has ls 9 [(6, .long x6)] → W p l e (headSpec wsX3_lifted { frames := 2, cells := 0, slots := 0, locals := 48 }).room s m ([.long y0, .int y2, .int y3] : List Value).toArray below meth c s.heap [] 0 0 (MQ below (k2_QcV (.long r)) ([.long y0, .int y2, .int y3] : List Value).toArray s 0 0 (fun _ => False)) (F0 m 57 ls []) := by
    intro x6 h ls hl
    unfold e_X3_lifted_57 at h
    refine lv_lload hx hb dX3_lifted_57 (lv_at hl 0 rfl) ?_
    exact W.lret hx hb hr (fun t ht _ => ⟨pf_rl h, ht⟩) (fun q hq => absurd hq List.not_mem_nil) dX3_lifted_59
  have L12 : ∀ (n : Nat) (x0 : Int64) (x2 : Int32) (x3 : Int32) (x4 : Int64) (x6 : Int64) (x8 : Int32) (b : Int64), lpF (fun q : (Int64 × Int32) => s_X3_lifted_12 x0 x2 x3 x4 q.1 q.2) n (x6, x8) = some b → a_X3_lifted_12 b = some r → ∀ ls, lv_has ls 9 [(0, .long x0), (2, .int x2), (3, .int x3), (4, .long x4), (6, .long x6), (8, .int x8)] → W p l e (headSpec wsX3_lifted { frames := 2, cells := 0, slots := 0, locals := 48 }).room s m ([.long y0, .int y2, .int y3] : List Value).toArray below meth c s.heap [] 0 0 (MQ below (k2_QcV (.long r)) ([.long y0, .int y2, .int y3] : List Value).toArray s 0 0 (fun _ => False)) (F0 m 12 ls []) := by
    intro n
    induction n with
    | zero => intro x0 x2 x3 x4 x6 x8 b h; exact lp_zero h
    | succ n ih =>
      intro x0 x2 x3 x4 x6 x8 b h ha ls hl
      obtain ⟨z12, h, hz⟩ := lp_open h
      have h : s_X3_lifted_12 x0 x2 x3 x4 x6 x8 = some z12 := h
      unfold s_X3_lifted_12 at h
      refine lv_iload hx hb dX3_lifted_12 (lv_at hl 5 rfl) ?_
      refine lv_iload_n hx hb dX3_lifted_14 rfl (lv_at hl 2 rfl) ?_
      refine lv_icmp_ge (tgt := 57) hx hb dX3_lifted_15 (by decide) (fun c15 => ?_) (fun c15 => ?_)
      · have h := pf_pos h c15
        have ha := pf_aft ha (lp_exit h hz)
        exact K57 x6 ha ls (lv_sub hl [4] rfl)
      · have h := pf_neg h c15
        refine lv_lload hx hb dX3_lifted_18 (lv_at hl 3 rfl) ?_
        refine lv_iload hx hb dX3_lifted_20 (lv_at hl 5 rfl) ?_
        obtain ⟨v22, hv22, h⟩ := pf_bind h
        refine pf_call (As := [.long x4, .int x8]) (rest := []) S0 (c_X3_has l x4 x8 v22 hv22) (va_cwS 2 hts gX3_lifted_X3_has rfl rfl rfl kd_X3_has ⟨Nat.le_of_ble_eq_true rfl, Nat.le_of_ble_eq_true rfl⟩) rfl hl.1 rfl (Nat.le_of_ble_eq_true rfl) dX3_lifted_22 ⟨Nat.zero_le _, Nat.zero_le _⟩ ?_
        refine lv_if_eq (tgt := 51) hx hb dX3_lifted_25 (by decide) (fun c25 => ?_) (fun c25 => ?_)
        · have h := pf_pos h c25
          refine lv_iinc (v := (x8 + (1 : Int32))) (lv' := [(8, .int (x8 + (1 : Int32))), (0, .long x0), (2, .int x2), (3, .int x3), (4, .long x4), (6, .long x6)]) hx hb dX3_lifted_51 hl (k := 5) rfl rfl (by decide) rfl (fun ls hl => ?_)
          refine lv_goto (tgt := 12) hx hb dX3_lifted_54 (by decide) ?_
          exact ih x0 x2 x3 x4 x6 (x8 + (1 : Int32)) b (lp_cont h hz) ha ls (lv_sub hl [1, 2, 3, 4, 5, 0] rfl)
        · have h := pf_neg h c25
          refine lv_lload_n hx hb dX3_lifted_28 rfl (lv_at hl 0 rfl) ?_
          refine lv_iload hx hb dX3_lifted_29 (lv_at hl 5 rfl) ?_
          refine lv_iload_n hx hb dX3_lifted_31 rfl (lv_at hl 1 rfl) ?_
          obtain ⟨v32, hv32, h⟩ := pf_bind h
          refine pf_call (As := [.int x8, .int x2]) (rest := [.long x0]) S0 (c_X6_rest l x8 x2 v32 hv32) (va_cwS 2 hts gX3_lifted_X6_rest rfl rfl rfl kd_X6_rest ⟨Nat.le_of_ble_eq_true rfl, Nat.le_of_ble_eq_true rfl⟩) rfl hl.1 rfl (Nat.le_of_ble_eq_true rfl) dX3_lifted_32 ⟨Nat.zero_le _, Nat.zero_le _⟩ ?_
          obtain ⟨v35, hv35, h⟩ := pf_bind h
          refine pf_call (As := [.long x0, .int v32]) (rest := []) S0 (c_X3_has l x0 v32 v35 hv35) (va_cwS 2 hts gX3_lifted_X3_has rfl rfl rfl kd_X3_has ⟨Nat.le_of_ble_eq_true rfl, Nat.le_of_ble_eq_true rfl⟩) rfl hl.1 rfl (Nat.le_of_ble_eq_true rfl) dX3_lifted_35 ⟨Nat.zero_le _, Nat.zero_le _⟩ ?_
          refine lv_if_eq (tgt := 51) hx hb dX3_lifted_38 (by decide) (fun c38 => ?_) (fun c38 => ?_)
          · have h := pf_pos h c38
            refine lv_iinc (v := (x8 + (1 : Int32))) (lv' := [(8, .int (x8 + (1 : Int32))), (0, .long x0), (2, .int x2), (3, .int x3), (4, .long x4), (6, .long x6)]) hx hb dX3_lifted_51 hl (k := 5) rfl rfl (by decide) rfl (fun ls hl => ?_)
            refine lv_goto (tgt := 12) hx hb dX3_lifted_54 (by decide) ?_
            exact ih x0 x2 x3 x4 x6 (x8 + (1 : Int32)) b (lp_cont h hz) ha ls (lv_sub hl [1, 2, 3, 4, 5, 0] rfl)
          · have h := pf_neg h c38
            refine lv_lload hx hb dX3_lifted_41 (lv_at hl 4 rfl) ?_
            refine lv_iload hx hb dX3_lifted_43 (lv_at hl 5 rfl) ?_
            obtain ⟨v45, hv45, h⟩ := pf_bind h
            refine pf_call (As := [.int x8]) (rest := [.long x6]) S0 (c_X3_bit l x8 v45 hv45) (va_cwS 1 hts gX3_lifted_X3_bit rfl rfl rfl kd_X3_bit ⟨Nat.le_of_ble_eq_true rfl, Nat.le_of_ble_eq_true rfl⟩) rfl hl.1 rfl (Nat.le_of_ble_eq_true rfl) dX3_lifted_45 ⟨Nat.zero_le _, Nat.zero_le _⟩ ?_
            refine lv_lor hx hb dX3_lifted_48 ?_
            refine lv_lstore (lv' := [(6, .long (x6 ||| v45)), (0, .long x0), (2, .int x2), (3, .int x3), (4, .long x4), (8, .int x8)]) hx hb dX3_lifted_49 hl (by decide) rfl (fun ls hl => ?_)
            refine lv_iinc (v := (x8 + (1 : Int32))) (lv' := [(8, .int (x8 + (1 : Int32))), (6, .long (x6 ||| v45)), (0, .long x0), (2, .int x2), (3, .int x3), (4, .long x4)]) hx hb dX3_lifted_51 hl (k := 5) rfl rfl (by decide) rfl (fun ls hl => ?_)
            refine lv_goto (tgt := 12) hx hb dX3_lifted_54 (by decide) ?_
            exact ih x0 x2 x3 x4 (x6 ||| v45) (x8 + (1 : Int32)) b (lp_cont h hz) ha ls (lv_sub hl [2, 3, 4, 5, 1, 0] rfl)
  have G12 : ∀ (x0 : Int64) (x2 : Int32) (x3 : Int32) (x4 : Int64) (x6 : Int64) (x8 : Int32), g_X3_lifted_12 x0 x2 x3 x4 x6 x8 = some r → ∀ ls, lv_has ls 9 [(0, .long x0), (2, .int x2), (3, .int x3), (4, .long x4), (6, .long x6), (8, .int x8)] → W p l e (headSpec wsX3_lifted { frames := 2, cells := 0, slots := 0, locals := 48 }).room s m ([.long y0, .int y2, .int y3] : List Value).toArray below meth c s.heap [] 0 0 (MQ below (k2_QcV (.long r)) ([.long y0, .int y2, .int y3] : List Value).toArray s 0 0 (fun _ => False)) (F0 m 12 ls []) := by
    intro x0 x2 x3 x4 x6 x8 h ls hl
    unfold g_X3_lifted_12 at h
    obtain ⟨b, h, ha⟩ := pf_bind h
    exact L12 pfFU x0 x2 x3 x4 x6 x8 b h ha ls hl
  unfold p_X3_lifted at h
  refine lv_iload_n hx hb dX3_lifted_0 rfl (lv_at hl 2 rfl) ?_
  obtain ⟨v1, hv1, h⟩ := pf_bind h
  refine pf_call (As := [.int y3]) (rest := []) S0 (c_X3_all l y3 v1 hv1) (va_cwS 1 hts gX3_lifted_X3_all rfl rfl rfl kd_X3_all ⟨Nat.le_of_ble_eq_true rfl, Nat.le_of_ble_eq_true rfl⟩) rfl hl.1 rfl (Nat.le_of_ble_eq_true rfl) dX3_lifted_1 ⟨Nat.zero_le _, Nat.zero_le _⟩ ?_
  refine lv_lstore (lv' := [(4, .long v1), (0, .long y0), (2, .int y2), (3, .int y3)]) hx hb dX3_lifted_4 hl (by decide) rfl (fun ls hl => ?_)
  refine lv_lconst (v := 0) hx hb dX3_lifted_6 (by decide) ?_
  refine lv_lstore (lv' := [(6, .long (0 : Int64)), (4, .long v1), (0, .long y0), (2, .int y2), (3, .int y3)]) hx hb dX3_lifted_7 hl (by decide) rfl (fun ls hl => ?_)
  refine lv_iconst (v := 0) hx hb dX3_lifted_9 (by decide) ?_
  refine lv_istore (lv' := [(8, .int (0 : Int32)), (6, .long (0 : Int64)), (4, .long v1), (0, .long y0), (2, .int y2), (3, .int y3)]) hx hb dX3_lifted_10 hl (by decide) rfl (fun ls hl => ?_)
  exact G12 y0 y2 y3 v1 (0 : Int64) (0 : Int32) h ls (lv_sub hl [3, 4, 5, 2, 1, 0] rfl)
