-- X8_multiple
def p_X8_multiple (y0 : Int32) (y1 : Int32) : Option Int32 :=
  ((p_X8_divisor y0 y1).bind fun v3 => (if v3 = 0 then none else some ((y0 / v3) * y1)))
theorem kd_X8_multiple : yX8_multiple.cls ≠ "java/lang/invoke/MethodHandle" ∧ yX8_multiple.cls ≠ "java/lang/invoke/VarHandle" ∧ (parseMethodDescriptor yX8_multiple.desc).map (fun d => d.parameters.length) = some 2 := by decide +kernel
set_option maxHeartbeats 4000000 in
set_option maxRecDepth 100000 in
theorem c_X8_multiple (l : Launch) (y0 : Int32) (y1 : Int32) (r : Int32) (h : p_X8_multiple y0 y1 = some r) : Met l yX8_multiple wsX8_multiple { frames := 1, cells := 0, slots := 0, locals := 24 } (fun v _ => v = ([.int y0, .int y1] : List Value).toArray) (k2_QcV (.int r)) 0 0 (fun _ => False) := by
  refine Met.ofW (cc := cX8_multiple) (maxL := 2) (ret := some .int) (by decide) rfl ?_
  intro p e s m args below meth c s₁ B hml hv
  subst hv
  have hx := B.exec
  have hb := B.bytes
  have hr := B.returns
  have hts := atoms_spec (ws := wsX8_multiple) B.pre
  have hown : s.vm.findClass RX8 = some m.cls := findClass_of_methodNamed B.named
  have hlocks := B.notSynchronized
  have S0 : CallFix p m c cX8_multiple 2 s ([.int y0, .int y1] : List Value).toArray wsX8_multiple RX8 := ⟨hx, hb, hml, hown, hts⟩
  have hl := lv_entry [.int y0, .int y1] (n := 2) (Nat.le_of_ble_eq_true rfl)
  rw [lg_entry_eq]
  generalize (lg_sl [.int y0, .int y1] ++ List.replicate (2 - (lg_sl [.int y0, .int y1]).length) Slot.unset).toArray = ls at hl ⊢
  have hl : lv_has ls 2 [(0, .int y0), (1, .int y1)] := hl
  unfold p_X8_multiple at h
  refine lv_iload_n hx hb dX8_multiple_0 rfl (lv_at hl 0 rfl) ?_
  refine lv_iload_n hx hb dX8_multiple_1 rfl (lv_at hl 0 rfl) ?_
  refine lv_iload_n hx hb dX8_multiple_2 rfl (lv_at hl 1 rfl) ?_
  obtain ⟨v3, hv3, h⟩ := pf_bind h
  refine pf_call (As := [.int y0, .int y1]) (rest := [.int y0]) S0 (c_X8_divisor l y0 y1 v3 hv3) (va_cwS 2 hts gX8_multiple_X8_divisor rfl rfl rfl kd_X8_divisor ⟨Nat.le_of_ble_eq_true rfl, Nat.le_of_ble_eq_true rfl⟩) rfl hl.1 rfl (Nat.le_of_ble_eq_true rfl) dX8_multiple_3 ⟨Nat.zero_le _, Nat.zero_le _⟩ ?_
  obtain ⟨hd6, h⟩ := pf_guard h
  refine lv_idiv hx hb dX8_multiple_6 hd6 ?_
  refine lv_iload_n hx hb dX8_multiple_7 rfl (lv_at hl 1 rfl) ?_
  refine lv_imul hx hb dX8_multiple_8 ?_
  exact W.iret hx hb hr (fun t ht _ => ⟨pf_ri h, ht⟩) (fun q hq => absurd hq List.not_mem_nil) dX8_multiple_9
-- X8_isM
def p_X8_isM (y0 : Int32) : Option Int32 :=
  ((p_X8_isIn y0 (1 : Int32) (63 : Int32)).bind fun v4 => (if v4 &&& 1 = v4 then some v4 else none))
theorem kd_X8_isM : yX8_isM.cls ≠ "java/lang/invoke/MethodHandle" ∧ yX8_isM.cls ≠ "java/lang/invoke/VarHandle" ∧ (parseMethodDescriptor yX8_isM.desc).map (fun d => d.parameters.length) = some 1 := by decide +kernel
set_option maxHeartbeats 4000000 in
set_option maxRecDepth 100000 in
theorem c_X8_isM (l : Launch) (y0 : Int32) (r : Int32) (h : p_X8_isM y0 = some r) : Met l yX8_isM wsX8_isM { frames := 1, cells := 0, slots := 0, locals := 22 } (fun v _ => v = ([.int y0] : List Value).toArray) (k2_QcV (.int r)) 0 0 (fun _ => False) := by
  refine Met.ofW (cc := cX8_isM) (maxL := 1) (ret := some .boolean) (by decide) rfl ?_
  intro p e s m args below meth c s₁ B hml hv
  subst hv
  have hx := B.exec
  have hb := B.bytes
  have hr := B.returns
  have hts := atoms_spec (ws := wsX8_isM) B.pre
  have hown : s.vm.findClass RX8 = some m.cls := findClass_of_methodNamed B.named
  have hlocks := B.notSynchronized
  have S0 : CallFix p m c cX8_isM 1 s ([.int y0] : List Value).toArray wsX8_isM RX8 := ⟨hx, hb, hml, hown, hts⟩
  have hl := lv_entry [.int y0] (n := 1) (Nat.le_of_ble_eq_true rfl)
  rw [lg_entry_eq]
  generalize (lg_sl [.int y0] ++ List.replicate (1 - (lg_sl [.int y0]).length) Slot.unset).toArray = ls at hl ⊢
  have hl : lv_has ls 1 [(0, .int y0)] := hl
  unfold p_X8_isM at h
  refine lv_iload_n hx hb dX8_isM_0 rfl (lv_at hl 0 rfl) ?_
  refine lv_iconst (v := 1) hx hb dX8_isM_1 (by decide) ?_
  refine lv_bipush (v := 63) hx hb dX8_isM_2 (by decide) ?_
  obtain ⟨v4, hv4, h⟩ := pf_bind h
  refine pf_call (As := [.int y0, .int (1 : Int32), .int (63 : Int32)]) (rest := []) S0 (c_X8_isIn l y0 (1 : Int32) (63 : Int32) v4 hv4) (va_cwS 3 hts gX8_isM_X8_isIn rfl rfl rfl kd_X8_isIn ⟨Nat.le_of_ble_eq_true rfl, Nat.le_of_ble_eq_true rfl⟩) rfl hl.1 rfl (Nat.le_of_ble_eq_true rfl) dX8_isM_4 ⟨Nat.zero_le _, Nat.zero_le _⟩ ?_
  obtain ⟨hn7, h⟩ := pf_need h
  exact W.zret hx hb hr (pf_nb hn7) (fun t ht _ => ⟨pf_ri h, ht⟩) (fun q hq => absurd hq List.not_mem_nil) dX8_isM_7
-- X8_isRest
def p_X8_isRest (y0 : Int32) (y1 : Int32) : Option Int32 :=
  (if y0 = (1 : Int32) then (if y1 = 0 then some (1 : Int32) else some (0 : Int32)) else ((p_X8_isIn y1 (1 : Int32) (y0 - (1 : Int32))).bind fun v22 => (if v22 = 0 then some (0 : Int32) else ((p_X8_divisor y1 y0).bind fun v30 => (if v30 = (1 : Int32) then some (1 : Int32) else some (0 : Int32))))))
theorem kd_X8_isRest : yX8_isRest.cls ≠ "java/lang/invoke/MethodHandle" ∧ yX8_isRest.cls ≠ "java/lang/invoke/VarHandle" ∧ (parseMethodDescriptor yX8_isRest.desc).map (fun d => d.parameters.length) = some 2 := by decide +kernel
set_option maxHeartbeats 4000000 in
set_option maxRecDepth 100000 in
theorem c_X8_isRest (l : Launch) (y0 : Int32) (y1 : Int32) (r : Int32) (h : p_X8_isRest y0 y1 = some r) : Met l yX8_isRest wsX8_isRest { frames := 1, cells := 0, slots := 0, locals := 24 } (fun v _ => v = ([.int y0, .int y1] : List Value).toArray) (k2_QcV (.int r)) 0 0 (fun _ => False) := by
  refine Met.ofW (cc := cX8_isRest) (maxL := 2) (ret := some .boolean) (by decide) rfl ?_
  intro p e s m args below meth c s₁ B hml hv
  subst hv
  have hx := B.exec
  have hb := B.bytes
  have hr := B.returns
  have hts := atoms_spec (ws := wsX8_isRest) B.pre
  have hown : s.vm.findClass RX8 = some m.cls := findClass_of_methodNamed B.named
  have hlocks := B.notSynchronized
  have S0 : CallFix p m c cX8_isRest 2 s ([.int y0, .int y1] : List Value).toArray wsX8_isRest RX8 := ⟨hx, hb, hml, hown, hts⟩
  have hl := lv_entry [.int y0, .int y1] (n := 2) (Nat.le_of_ble_eq_true rfl)
  rw [lg_entry_eq]
  generalize (lg_sl [.int y0, .int y1] ++ List.replicate (2 - (lg_sl [.int y0, .int y1]).length) Slot.unset).toArray = ls at hl ⊢
  have hl : lv_has ls 2 [(0, .int y0), (1, .int y1)] := hl
  unfold p_X8_isRest at h
  refine lv_iload_n hx hb dX8_isRest_0 rfl (lv_at hl 0 rfl) ?_
  refine lv_iconst (v := 1) hx hb dX8_isRest_1 (by decide) ?_
  refine lv_icmp_ne (tgt := 17) hx hb dX8_isRest_2 (by decide) (fun c2 => ?_) (fun c2 => ?_)
  · have h := pf_neg h c2
    refine lv_iload_n hx hb dX8_isRest_17 rfl (lv_at hl 1 rfl) ?_
    refine lv_iconst (v := 1) hx hb dX8_isRest_18 (by decide) ?_
    refine lv_iload_n hx hb dX8_isRest_19 rfl (lv_at hl 0 rfl) ?_
    refine lv_iconst (v := 1) hx hb dX8_isRest_20 (by decide) ?_
    refine lv_isub hx hb dX8_isRest_21 ?_
    obtain ⟨v22, hv22, h⟩ := pf_bind h
    refine pf_call (As := [.int y1, .int (1 : Int32), .int (y0 - (1 : Int32))]) (rest := []) S0 (c_X8_isIn l y1 (1 : Int32) (y0 - (1 : Int32)) v22 hv22) (va_cwS 3 hts gX8_isRest_X8_isIn rfl rfl rfl kd_X8_isIn ⟨Nat.le_of_ble_eq_true rfl, Nat.le_of_ble_eq_true rfl⟩) rfl hl.1 rfl (Nat.le_of_ble_eq_true rfl) dX8_isRest_22 ⟨Nat.zero_le _, Nat.zero_le _⟩ ?_
    refine lv_if_eq (tgt := 41) hx hb dX8_isRest_25 (by decide) (fun c25 => ?_) (fun c25 => ?_)
    · have h := pf_pos h c25
      refine lv_iconst (v := 0) hx hb dX8_isRest_41 (by decide) ?_
      exact W.zret hx hb hr rfl (fun t ht _ => ⟨pf_ri h, ht⟩) (fun q hq => absurd hq List.not_mem_nil) dX8_isRest_42
    · have h := pf_neg h c25
      refine lv_iload_n hx hb dX8_isRest_28 rfl (lv_at hl 1 rfl) ?_
      refine lv_iload_n hx hb dX8_isRest_29 rfl (lv_at hl 0 rfl) ?_
      obtain ⟨v30, hv30, h⟩ := pf_bind h
      refine pf_call (As := [.int y1, .int y0]) (rest := []) S0 (c_X8_divisor l y1 y0 v30 hv30) (va_cwS 2 hts gX8_isRest_X8_divisor rfl rfl rfl kd_X8_divisor ⟨Nat.le_of_ble_eq_true rfl, Nat.le_of_ble_eq_true rfl⟩) rfl hl.1 rfl (Nat.le_of_ble_eq_true rfl) dX8_isRest_30 ⟨Nat.zero_le _, Nat.zero_le _⟩ ?_
      refine lv_iconst (v := 1) hx hb dX8_isRest_33 (by decide) ?_
      refine lv_icmp_ne (tgt := 41) hx hb dX8_isRest_34 (by decide) (fun c34 => ?_) (fun c34 => ?_)
      · have h := pf_neg h c34
        refine lv_iconst (v := 0) hx hb dX8_isRest_41 (by decide) ?_
        exact W.zret hx hb hr rfl (fun t ht _ => ⟨pf_ri h, ht⟩) (fun q hq => absurd hq List.not_mem_nil) dX8_isRest_42
      · have h := pf_pos h c34
        refine lv_iconst (v := 1) hx hb dX8_isRest_37 (by decide) ?_
        refine lv_goto (tgt := 42) hx hb dX8_isRest_38 (by decide) ?_
        exact W.zret hx hb hr rfl (fun t ht _ => ⟨pf_ri h, ht⟩) (fun q hq => absurd hq List.not_mem_nil) dX8_isRest_42
  · have h := pf_pos h c2
    refine lv_iload_n hx hb dX8_isRest_5 rfl (lv_at hl 1 rfl) ?_
    refine lv_if_ne (tgt := 13) hx hb dX8_isRest_6 (by decide) (fun c6 => ?_) (fun c6 => ?_)
    · have h := pf_neg h c6
      refine lv_iconst (v := 0) hx hb dX8_isRest_13 (by decide) ?_
      refine lv_goto (tgt := 42) hx hb dX8_isRest_14 (by decide) ?_
      exact W.zret hx hb hr rfl (fun t ht _ => ⟨pf_ri h, ht⟩) (fun q hq => absurd hq List.not_mem_nil) dX8_isRest_42
    · have h := pf_pos h c6
      refine lv_iconst (v := 1) hx hb dX8_isRest_9 (by decide) ?_
      refine lv_goto (tgt := 42) hx hb dX8_isRest_10 (by decide) ?_
      exact W.zret hx hb hr rfl (fun t ht _ => ⟨pf_ri h, ht⟩) (fun q hq => absurd hq List.not_mem_nil) dX8_isRest_42
-- X8_all
def e_X8_all_29 (x1 : Int64) : Option Int64 :=
  some x1
def s_X8_all_4 (x0 : Int32) (x1 : Int64) (x3 : Int32) : Option ((Int64 × Int32) ⊕ (Int64)) :=
  (if x0 ≤ x3 then some (Sum.inr x1) else ((p_X8_isRest x0 x3).bind fun v11 => (if v11 = 0 then some (Sum.inl (x1, (x3 + (1 : Int32)))) else some (Sum.inl ((x1 ||| (jshl (1 : Int64) x3)), (x3 + (1 : Int32)))))))
def a_X8_all_4  (b : Int64) : Option Int64 := (fun q : Int64 => e_X8_all_29 q) b
def g_X8_all_4 (x0 : Int32) (x1 : Int64) (x3 : Int32) : Option Int64 := (lpF (fun q : (Int64 × Int32) => s_X8_all_4 x0 q.1 q.2) pfFU (x1, x3)).bind (a_X8_all_4 )
def p_X8_all (y0 : Int32) : Option Int64 :=
  g_X8_all_4 y0 (0 : Int64) (0 : Int32)
theorem kd_X8_all : yX8_all.cls ≠ "java/lang/invoke/MethodHandle" ∧ yX8_all.cls ≠ "java/lang/invoke/VarHandle" ∧ (parseMethodDescriptor yX8_all.desc).map (fun d => d.parameters.length) = some 1 := by decide +kernel
set_option maxHeartbeats 4000000 in
set_option maxRecDepth 100000 in
theorem c_X8_all (l : Launch) (y0 : Int32) (r : Int64) (h : p_X8_all y0 = some r) : Met l yX8_all wsX8_all { frames := 2, cells := 0, slots := 0, locals := 45 } (fun v _ => v = ([.int y0] : List Value).toArray) (k2_QcV (.long r)) 0 0 (fun _ => False) := by
  refine Met.ofW (cc := cX8_all) (maxL := 4) (ret := some .long) (by decide) rfl ?_
  intro p e s m args below meth c s₁ B hml hv
  subst hv
  have hx := B.exec
  have hb := B.bytes
  have hr := B.returns
  have hts := atoms_spec (ws := wsX8_all) B.pre
  have hown : s.vm.findClass RX8 = some m.cls := findClass_of_methodNamed B.named
  have hlocks := B.notSynchronized
  have S0 : CallFix p m c cX8_all 4 s ([.int y0] : List Value).toArray wsX8_all RX8 := ⟨hx, hb, hml, hown, hts⟩
  have hl := lv_entry [.int y0] (n := 4) (Nat.le_of_ble_eq_true rfl)
  rw [lg_entry_eq]
  generalize (lg_sl [.int y0] ++ List.replicate (4 - (lg_sl [.int y0]).length) Slot.unset).toArray = ls at hl ⊢
  have hl : lv_has ls 4 [(0, .int y0)] := hl
  have K29 : ∀ (x1 : Int64), e_X8_all_29 x1 = some r → ∀ ls, lv_has ls 4 [(1, .long x1)] → W p l e (headSpec wsX8_all { frames := 2, cells := 0, slots := 0, locals := 45 }).room s m ([.int y0] : List Value).toArray below meth c s.heap [] 0 0 (MQ below (k2_QcV (.long r)) ([.int y0] : List Value).toArray s 0 0 (fun _ => False)) (F0 m 29 ls []) := by
    intro x1 h ls hl
    unfold e_X8_all_29 at h
    refine lv_lload_n hx hb dX8_all_29 rfl (lv_at hl 0 rfl) ?_
    exact W.lret hx hb hr (fun t ht _ => ⟨pf_rl h, ht⟩) (fun q hq => absurd hq List.not_mem_nil) dX8_all_30
  have L4 : ∀ (n : Nat) (x0 : Int32) (x1 : Int64) (x3 : Int32) (b : Int64), lpF (fun q : (Int64 × Int32) => s_X8_all_4 x0 q.1 q.2) n (x1, x3) = some b → a_X8_all_4 b = some r → ∀ ls, lv_has ls 4 [(0, .int x0), (1, .long x1), (3, .int x3)] → W p l e (headSpec wsX8_all { frames := 2, cells := 0, slots := 0, locals := 45 }).room s m ([.int y0] : List Value).toArray below meth c s.heap [] 0 0 (MQ below (k2_QcV (.long r)) ([.int y0] : List Value).toArray s 0 0 (fun _ => False)) (F0 m 4 ls []) := by
    intro n
    induction n with
    | zero => intro x0 x1 x3 b h; exact lp_zero h
    | succ n ih =>
      intro x0 x1 x3 b h ha ls hl
      obtain ⟨z4, h, hz⟩ := lp_open h
      have h : s_X8_all_4 x0 x1 x3 = some z4 := h
      unfold s_X8_all_4 at h
      refine lv_iload_n hx hb dX8_all_4 rfl (lv_at hl 2 rfl) ?_
      refine lv_iload_n hx hb dX8_all_5 rfl (lv_at hl 0 rfl) ?_
      refine lv_icmp_ge (tgt := 29) hx hb dX8_all_6 (by decide) (fun c6 => ?_) (fun c6 => ?_)
      · have h := pf_pos h c6
        have ha := pf_aft ha (lp_exit h hz)
        exact K29 x1 ha ls (lv_sub hl [1] rfl)
      · have h := pf_neg h c6
        refine lv_iload_n hx hb dX8_all_9 rfl (lv_at hl 0 rfl) ?_
        refine lv_iload_n hx hb dX8_all_10 rfl (lv_at hl 2 rfl) ?_
        obtain ⟨v11, hv11, h⟩ := pf_bind h
        refine pf_call (As := [.int x0, .int x3]) (rest := []) S0 (c_X8_isRest l x0 x3 v11 hv11) (va_cwS 2 hts gX8_all_X8_isRest rfl rfl rfl kd_X8_isRest ⟨Nat.le_of_ble_eq_true rfl, Nat.le_of_ble_eq_true rfl⟩) rfl hl.1 rfl (Nat.le_of_ble_eq_true rfl) dX8_all_11 ⟨Nat.zero_le _, Nat.zero_le _⟩ ?_
        refine lv_if_eq (tgt := 23) hx hb dX8_all_14 (by decide) (fun c14 => ?_) (fun c14 => ?_)
        · have h := pf_pos h c14
          refine lv_iinc (v := (x3 + (1 : Int32))) (lv' := [(3, .int (x3 + (1 : Int32))), (0, .int x0), (1, .long x1)]) hx hb dX8_all_23 hl (k := 2) rfl rfl (by decide) rfl (fun ls hl => ?_)
          refine lv_goto (tgt := 4) hx hb dX8_all_26 (by decide) ?_
          exact ih x0 x1 (x3 + (1 : Int32)) b (lp_cont h hz) ha ls (lv_sub hl [1, 2, 0] rfl)
        · have h := pf_neg h c14
          refine lv_lload_n hx hb dX8_all_17 rfl (lv_at hl 1 rfl) ?_
          refine lv_lconst (v := 1) hx hb dX8_all_18 (by decide) ?_
          refine lv_iload_n hx hb dX8_all_19 rfl (lv_at hl 2 rfl) ?_
          refine pf_lshl hx hb dX8_all_20 ?_
          refine lv_lor hx hb dX8_all_21 ?_
          refine lv_lstore_n (lv' := [(1, .long (x1 ||| (jshl (1 : Int64) x3))), (0, .int x0), (3, .int x3)]) hx hb dX8_all_22 rfl hl (by decide) rfl (fun ls hl => ?_)
          refine lv_iinc (v := (x3 + (1 : Int32))) (lv' := [(3, .int (x3 + (1 : Int32))), (1, .long (x1 ||| (jshl (1 : Int64) x3))), (0, .int x0)]) hx hb dX8_all_23 hl (k := 2) rfl rfl (by decide) rfl (fun ls hl => ?_)
          refine lv_goto (tgt := 4) hx hb dX8_all_26 (by decide) ?_
          exact ih x0 (x1 ||| (jshl (1 : Int64) x3)) (x3 + (1 : Int32)) b (lp_cont h hz) ha ls (lv_sub hl [2, 1, 0] rfl)
  have G4 : ∀ (x0 : Int32) (x1 : Int64) (x3 : Int32), g_X8_all_4 x0 x1 x3 = some r → ∀ ls, lv_has ls 4 [(0, .int x0), (1, .long x1), (3, .int x3)] → W p l e (headSpec wsX8_all { frames := 2, cells := 0, slots := 0, locals := 45 }).room s m ([.int y0] : List Value).toArray below meth c s.heap [] 0 0 (MQ below (k2_QcV (.long r)) ([.int y0] : List Value).toArray s 0 0 (fun _ => False)) (F0 m 4 ls []) := by
    intro x0 x1 x3 h ls hl
    unfold g_X8_all_4 at h
    obtain ⟨b, h, ha⟩ := pf_bind h
    exact L4 pfFU x0 x1 x3 b h ha ls hl
  unfold p_X8_all at h
  refine lv_lconst (v := 0) hx hb dX8_all_0 (by decide) ?_
  refine lv_lstore_n (lv' := [(1, .long (0 : Int64)), (0, .int y0)]) hx hb dX8_all_1 rfl hl (by decide) rfl (fun ls hl => ?_)
  refine lv_iconst (v := 0) hx hb dX8_all_2 (by decide) ?_
  refine lv_istore_n (lv' := [(3, .int (0 : Int32)), (1, .long (0 : Int64)), (0, .int y0)]) hx hb dX8_all_3 rfl hl (by decide) rfl (fun ls hl => ?_)
  exact G4 y0 (0 : Int64) (0 : Int32) h ls (lv_sub hl [2, 1, 0] rfl)
-- X8_many
def e_X8_many_25 (x2 : Int32) : Option Int32 :=
  some x2
def s_X8_many_4 (x0 : Int64) (x2 : Int32) (x3 : Int32) : Option ((Int32 × Int32) ⊕ (Int32)) :=
  (if (63 : Int32) ≤ x3 then some (Sum.inr x2) else some (Sum.inl ((x2 + (((jshr x0 x3) &&& (1 : Int64))).toInt32), (x3 + (1 : Int32)))))
def a_X8_many_4  (b : Int32) : Option Int32 := (fun q : Int32 => e_X8_many_25 q) b
def g_X8_many_4 (x0 : Int64) (x2 : Int32) (x3 : Int32) : Option Int32 := (lpF (fun q : (Int32 × Int32) => s_X8_many_4 x0 q.1 q.2) pfFU (x2, x3)).bind (a_X8_many_4 )
def p_X8_many (y0 : Int64) : Option Int32 :=
  g_X8_many_4 y0 (0 : Int32) (0 : Int32)
theorem kd_X8_many : yX8_many.cls ≠ "java/lang/invoke/MethodHandle" ∧ yX8_many.cls ≠ "java/lang/invoke/VarHandle" ∧ (parseMethodDescriptor yX8_many.desc).map (fun d => d.parameters.length) = some 1 := by decide +kernel
set_option maxHeartbeats 4000000 in
set_option maxRecDepth 100000 in
theorem c_X8_many (l : Launch) (y0 : Int64) (r : Int32) (h : p_X8_many y0 = some r) : Met l yX8_many wsX8_many { frames := 0, cells := 0, slots := 0, locals := 0 } (fun v _ => v = ([.long y0] : List Value).toArray) (k2_QcV (.int r)) 0 0 (fun _ => False) := by
  refine Met.ofW (cc := cX8_many) (maxL := 4) (ret := some .int) (by decide) rfl ?_
  intro p e s m args below meth c s₁ B hml hv
  subst hv
  have hx := B.exec
  have hb := B.bytes
  have hr := B.returns
  have hts := atoms_spec (ws := wsX8_many) B.pre
  have hown : s.vm.findClass RX8 = some m.cls := findClass_of_methodNamed B.named
  have hlocks := B.notSynchronized
  have S0 : CallFix p m c cX8_many 4 s ([.long y0] : List Value).toArray wsX8_many RX8 := ⟨hx, hb, hml, hown, hts⟩
  have hl := lv_entry [.long y0] (n := 4) (Nat.le_of_ble_eq_true rfl)
  rw [lg_entry_eq]
  generalize (lg_sl [.long y0] ++ List.replicate (4 - (lg_sl [.long y0]).length) Slot.unset).toArray = ls at hl ⊢
  have hl : lv_has ls 4 [(0, .long y0)] := hl
  have K25 : ∀ (x2 : Int32), e_X8_many_25 x2 = some r → ∀ ls, lv_has ls 4 [(2, .int x2)] → W p l e (headSpec wsX8_many { frames := 0, cells := 0, slots := 0, locals := 0 }).room s m ([.long y0] : List Value).toArray below meth c s.heap [] 0 0 (MQ below (k2_QcV (.int r)) ([.long y0] : List Value).toArray s 0 0 (fun _ => False)) (F0 m 25 ls []) := by
    intro x2 h ls hl
    unfold e_X8_many_25 at h
    refine lv_iload_n hx hb dX8_many_25 rfl (lv_at hl 0 rfl) ?_
    exact W.iret hx hb hr (fun t ht _ => ⟨pf_ri h, ht⟩) (fun q hq => absurd hq List.not_mem_nil) dX8_many_26
  have L4 : ∀ (n : Nat) (x0 : Int64) (x2 : Int32) (x3 : Int32) (b : Int32), lpF (fun q : (Int32 × Int32) => s_X8_many_4 x0 q.1 q.2) n (x2, x3) = some b → a_X8_many_4 b = some r → ∀ ls, lv_has ls 4 [(0, .long x0), (2, .int x2), (3, .int x3)] → W p l e (headSpec wsX8_many { frames := 0, cells := 0, slots := 0, locals := 0 }).room s m ([.long y0] : List Value).toArray below meth c s.heap [] 0 0 (MQ below (k2_QcV (.int r)) ([.long y0] : List Value).toArray s 0 0 (fun _ => False)) (F0 m 4 ls []) := by
    intro n
    induction n with
    | zero => intro x0 x2 x3 b h; exact lp_zero h
    | succ n ih =>
      intro x0 x2 x3 b h ha ls hl
      obtain ⟨z4, h, hz⟩ := lp_open h
      have h : s_X8_many_4 x0 x2 x3 = some z4 := h
      unfold s_X8_many_4 at h
      refine lv_iload_n hx hb dX8_many_4 rfl (lv_at hl 2 rfl) ?_
      refine lv_bipush (v := 63) hx hb dX8_many_5 (by decide) ?_
      refine lv_icmp_ge (tgt := 25) hx hb dX8_many_7 (by decide) (fun c7 => ?_) (fun c7 => ?_)
      · have h := pf_pos h c7
        have ha := pf_aft ha (lp_exit h hz)
        exact K25 x2 ha ls (lv_sub hl [1] rfl)
      · have h := pf_neg h c7
        refine lv_iload_n hx hb dX8_many_10 rfl (lv_at hl 1 rfl) ?_
        refine lv_lload_n hx hb dX8_many_11 rfl (lv_at hl 0 rfl) ?_
        refine lv_iload_n hx hb dX8_many_12 rfl (lv_at hl 2 rfl) ?_
        refine pf_lshr hx hb dX8_many_13 ?_
        refine lv_lconst (v := 1) hx hb dX8_many_14 (by decide) ?_
        refine lv_land hx hb dX8_many_15 ?_
        refine lv_l2i hx hb dX8_many_16 rfl ?_
        refine lv_iadd hx hb dX8_many_17 ?_
        refine lv_istore_n (lv' := [(2, .int (x2 + (((jshr x0 x3) &&& (1 : Int64))).toInt32)), (0, .long x0), (3, .int x3)]) hx hb dX8_many_18 rfl hl (by decide) rfl (fun ls hl => ?_)
        refine lv_iinc (v := (x3 + (1 : Int32))) (lv' := [(3, .int (x3 + (1 : Int32))), (2, .int (x2 + (((jshr x0 x3) &&& (1 : Int64))).toInt32)), (0, .long x0)]) hx hb dX8_many_19 hl (k := 2) rfl rfl (by decide) rfl (fun ls hl => ?_)
        refine lv_goto (tgt := 4) hx hb dX8_many_22 (by decide) ?_
        exact ih x0 (x2 + (((jshr x0 x3) &&& (1 : Int64))).toInt32) (x3 + (1 : Int32)) b (lp_cont h hz) ha ls (lv_sub hl [2, 1, 0] rfl)
  have G4 : ∀ (x0 : Int64) (x2 : Int32) (x3 : Int32), g_X8_many_4 x0 x2 x3 = some r → ∀ ls, lv_has ls 4 [(0, .long x0), (2, .int x2), (3, .int x3)] → W p l e (headSpec wsX8_many { frames := 0, cells := 0, slots := 0, locals := 0 }).room s m ([.long y0] : List Value).toArray below meth c s.heap [] 0 0 (MQ below (k2_QcV (.int r)) ([.long y0] : List Value).toArray s 0 0 (fun _ => False)) (F0 m 4 ls []) := by
    intro x0 x2 x3 h ls hl
    unfold g_X8_many_4 at h
    obtain ⟨b, h, ha⟩ := pf_bind h
    exact L4 pfFU x0 x2 x3 b h ha ls hl
  unfold p_X8_many at h
  refine lv_iconst (v := 0) hx hb dX8_many_0 (by decide) ?_
  refine lv_istore_n (lv' := [(2, .int (0 : Int32)), (0, .long y0)]) hx hb dX8_many_1 rfl hl (by decide) rfl (fun ls hl => ?_)
  refine lv_iconst (v := 0) hx hb dX8_many_2 (by decide) ?_
  refine lv_istore_n (lv' := [(3, .int (0 : Int32)), (2, .int (0 : Int32)), (0, .long y0)]) hx hb dX8_many_3 rfl hl (by decide) rfl (fun ls hl => ?_)
  exact G4 y0 (0 : Int32) (0 : Int32) h ls (lv_sub hl [2, 1, 0] rfl)
-- X8_power
def e_X8_power_25 (x3 : Int32) : Option Int32 :=
  some x3
def s_X8_power_7 (x0 : Int32) (x1 : Int32) (x2 : Int32) (x3 : Int32) (x4 : Int32) : Option ((Int32 × Int32) ⊕ (Int32)) :=
  (if x2 ≤ x4 then some (Sum.inr x3) else (if x0 = 0 then none else some (Sum.inl ((jrem (x3 * x1) x0), (x4 + (1 : Int32))))))
def a_X8_power_7  (b : Int32) : Option Int32 := (fun q : Int32 => e_X8_power_25 q) b
def g_X8_power_7 (x0 : Int32) (x1 : Int32) (x2 : Int32) (x3 : Int32) (x4 : Int32) : Option Int32 := (lpF (fun q : (Int32 × Int32) => s_X8_power_7 x0 x1 x2 q.1 q.2) pfFU (x3, x4)).bind (a_X8_power_7 )
def p_X8_power (y0 : Int32) (y1 : Int32) (y2 : Int32) : Option Int32 :=
  (if y0 = 0 then none else g_X8_power_7 y0 y1 y2 (jrem (1 : Int32) y0) (0 : Int32))
theorem kd_X8_power : yX8_power.cls ≠ "java/lang/invoke/MethodHandle" ∧ yX8_power.cls ≠ "java/lang/invoke/VarHandle" ∧ (parseMethodDescriptor yX8_power.desc).map (fun d => d.parameters.length) = some 3 := by decide +kernel
set_option maxHeartbeats 4000000 in
set_option maxRecDepth 100000 in
theorem c_X8_power (l : Launch) (y0 : Int32) (y1 : Int32) (y2 : Int32) (r : Int32) (h : p_X8_power y0 y1 y2 = some r) : Met l yX8_power wsX8_power { frames := 0, cells := 0, slots := 0, locals := 0 } (fun v _ => v = ([.int y0, .int y1, .int y2] : List Value).toArray) (k2_QcV (.int r)) 0 0 (fun _ => False) := by
  refine Met.ofW (cc := cX8_power) (maxL := 5) (ret := some .int) (by decide) rfl ?_
  intro p e s m args below meth c s₁ B hml hv
  subst hv
  have hx := B.exec
  have hb := B.bytes
  have hr := B.returns
  have hts := atoms_spec (ws := wsX8_power) B.pre
  have hown : s.vm.findClass RX8 = some m.cls := findClass_of_methodNamed B.named
  have hlocks := B.notSynchronized
  have S0 : CallFix p m c cX8_power 5 s ([.int y0, .int y1, .int y2] : List Value).toArray wsX8_power RX8 := ⟨hx, hb, hml, hown, hts⟩
  have hl := lv_entry [.int y0, .int y1, .int y2] (n := 5) (Nat.le_of_ble_eq_true rfl)
  rw [lg_entry_eq]
  generalize (lg_sl [.int y0, .int y1, .int y2] ++ List.replicate (5 - (lg_sl [.int y0, .int y1, .int y2]).length) Slot.unset).toArray = ls at hl ⊢
  have hl : lv_has ls 5 [(0, .int y0), (1, .int y1), (2, .int y2)] := hl
  have K25 : ∀ (x3 : Int32), e_X8_power_25 x3 = some r → ∀ ls, lv_has ls 5 [(3, .int x3)] → W p l e (headSpec wsX8_power { frames := 0, cells := 0, slots := 0, locals := 0 }).room s m ([.int y0, .int y1, .int y2] : List Value).toArray below meth c s.heap [] 0 0 (MQ below (k2_QcV (.int r)) ([.int y0, .int y1, .int y2] : List Value).toArray s 0 0 (fun _ => False)) (F0 m 25 ls []) := by
    intro x3 h ls hl
    unfold e_X8_power_25 at h
    refine lv_iload_n hx hb dX8_power_25 rfl (lv_at hl 0 rfl) ?_
    exact W.iret hx hb hr (fun t ht _ => ⟨pf_ri h, ht⟩) (fun q hq => absurd hq List.not_mem_nil) dX8_power_26
  have L7 : ∀ (n : Nat) (x0 : Int32) (x1 : Int32) (x2 : Int32) (x3 : Int32) (x4 : Int32) (b : Int32), lpF (fun q : (Int32 × Int32) => s_X8_power_7 x0 x1 x2 q.1 q.2) n (x3, x4) = some b → a_X8_power_7 b = some r → ∀ ls, lv_has ls 5 [(0, .int x0), (1, .int x1), (2, .int x2), (3, .int x3), (4, .int x4)] → W p l e (headSpec wsX8_power { frames := 0, cells := 0, slots := 0, locals := 0 }).room s m ([.int y0, .int y1, .int y2] : List Value).toArray below meth c s.heap [] 0 0 (MQ below (k2_QcV (.int r)) ([.int y0, .int y1, .int y2] : List Value).toArray s 0 0 (fun _ => False)) (F0 m 7 ls []) := by
    intro n
    induction n with
    | zero => intro x0 x1 x2 x3 x4 b h; exact lp_zero h
    | succ n ih =>
      intro x0 x1 x2 x3 x4 b h ha ls hl
      obtain ⟨z7, h, hz⟩ := lp_open h
      have h : s_X8_power_7 x0 x1 x2 x3 x4 = some z7 := h
      unfold s_X8_power_7 at h
      refine lv_iload hx hb dX8_power_7 (lv_at hl 4 rfl) ?_
      refine lv_iload_n hx hb dX8_power_9 rfl (lv_at hl 2 rfl) ?_
      refine lv_icmp_ge (tgt := 25) hx hb dX8_power_10 (by decide) (fun c10 => ?_) (fun c10 => ?_)
      · have h := pf_pos h c10
        have ha := pf_aft ha (lp_exit h hz)
        exact K25 x3 ha ls (lv_sub hl [3] rfl)
      · have h := pf_neg h c10
        refine lv_iload_n hx hb dX8_power_13 rfl (lv_at hl 3 rfl) ?_
        refine lv_iload_n hx hb dX8_power_14 rfl (lv_at hl 1 rfl) ?_
        refine lv_imul hx hb dX8_power_15 ?_
        refine lv_iload_n hx hb dX8_power_16 rfl (lv_at hl 0 rfl) ?_
        obtain ⟨hd17, h⟩ := pf_guard h
        refine pf_irem hx hb dX8_power_17 hd17 ?_
        refine lv_istore_n (lv' := [(3, .int (jrem (x3 * x1) x0)), (0, .int x0), (1, .int x1), (2, .int x2), (4, .int x4)]) hx hb dX8_power_18 rfl hl (by decide) rfl (fun ls hl => ?_)
        refine lv_iinc (v := (x4 + (1 : Int32))) (lv' := [(4, .int (x4 + (1 : Int32))), (3, .int (jrem (x3 * x1) x0)), (0, .int x0), (1, .int x1), (2, .int x2)]) hx hb dX8_power_19 hl (k := 4) rfl rfl (by decide) rfl (fun ls hl => ?_)
        refine lv_goto (tgt := 7) hx hb dX8_power_22 (by decide) ?_
        exact ih x0 x1 x2 (jrem (x3 * x1) x0) (x4 + (1 : Int32)) b (lp_cont h hz) ha ls (lv_sub hl [2, 3, 4, 1, 0] rfl)
  have G7 : ∀ (x0 : Int32) (x1 : Int32) (x2 : Int32) (x3 : Int32) (x4 : Int32), g_X8_power_7 x0 x1 x2 x3 x4 = some r → ∀ ls, lv_has ls 5 [(0, .int x0), (1, .int x1), (2, .int x2), (3, .int x3), (4, .int x4)] → W p l e (headSpec wsX8_power { frames := 0, cells := 0, slots := 0, locals := 0 }).room s m ([.int y0, .int y1, .int y2] : List Value).toArray below meth c s.heap [] 0 0 (MQ below (k2_QcV (.int r)) ([.int y0, .int y1, .int y2] : List Value).toArray s 0 0 (fun _ => False)) (F0 m 7 ls []) := by
    intro x0 x1 x2 x3 x4 h ls hl
    unfold g_X8_power_7 at h
    obtain ⟨b, h, ha⟩ := pf_bind h
    exact L7 pfFU x0 x1 x2 x3 x4 b h ha ls hl
  unfold p_X8_power at h
  refine lv_iconst (v := 1) hx hb dX8_power_0 (by decide) ?_
  refine lv_iload_n hx hb dX8_power_1 rfl (lv_at hl 0 rfl) ?_
  obtain ⟨hd2, h⟩ := pf_guard h
  refine pf_irem hx hb dX8_power_2 hd2 ?_
  refine lv_istore_n (lv' := [(3, .int (jrem (1 : Int32) y0)), (0, .int y0), (1, .int y1), (2, .int y2)]) hx hb dX8_power_3 rfl hl (by decide) rfl (fun ls hl => ?_)
  refine lv_iconst (v := 0) hx hb dX8_power_4 (by decide) ?_
  refine lv_istore (lv' := [(4, .int (0 : Int32)), (3, .int (jrem (1 : Int32) y0)), (0, .int y0), (1, .int y1), (2, .int y2)]) hx hb dX8_power_5 hl (by decide) rfl (fun ls hl => ?_)
  exact G7 y0 y1 y2 (jrem (1 : Int32) y0) (0 : Int32) h ls (lv_sub hl [2, 3, 4, 1, 0] rfl)
-- X8_killed
def e_X8_killed_43 (x2 : Int32) : Option Int32 :=
  some x2
def s_X8_killed_4 (x0 : Int32) (x1 : Int32) (x2 : Int32) (x3 : Int32) : Option ((Int32 × Int32) ⊕ (Int32)) :=
  (if x0 ≤ x3 then some (Sum.inr x2) else ((p_X8_isRest x0 x3).bind fun v12 => (if v12 = 0 then some (Sum.inl ((x2 + (0 : Int32)), (x3 + (1 : Int32)))) else ((p_X8_power x0 x3 x1).bind fun v21 => (if x0 = 0 then none else (if v21 = (jrem (1 : Int32) x0) then some (Sum.inl ((x2 + (1 : Int32)), (x3 + (1 : Int32)))) else some (Sum.inl ((x2 + (0 : Int32)), (x3 + (1 : Int32))))))))))
def a_X8_killed_4  (b : Int32) : Option Int32 := (fun q : Int32 => e_X8_killed_43 q) b
def g_X8_killed_4 (x0 : Int32) (x1 : Int32) (x2 : Int32) (x3 : Int32) : Option Int32 := (lpF (fun q : (Int32 × Int32) => s_X8_killed_4 x0 x1 q.1 q.2) pfFU (x2, x3)).bind (a_X8_killed_4 )
def p_X8_killed (y0 : Int32) (y1 : Int32) : Option Int32 :=
  g_X8_killed_4 y0 y1 (0 : Int32) (0 : Int32)
theorem kd_X8_killed : yX8_killed.cls ≠ "java/lang/invoke/MethodHandle" ∧ yX8_killed.cls ≠ "java/lang/invoke/VarHandle" ∧ (parseMethodDescriptor yX8_killed.desc).map (fun d => d.parameters.length) = some 2 := by decide +kernel
set_option maxHeartbeats 4000000 in
set_option maxRecDepth 100000 in
theorem c_X8_killed (l : Launch) (y0 : Int32) (y1 : Int32) (r : Int32) (h : p_X8_killed y0 y1 = some r) : Met l yX8_killed wsX8_killed { frames := 2, cells := 0, slots := 0, locals := 45 } (fun v _ => v = ([.int y0, .int y1] : List Value).toArray) (k2_QcV (.int r)) 0 0 (fun _ => False) := by
  refine Met.ofW (cc := cX8_killed) (maxL := 4) (ret := some .int) (by decide) rfl ?_
  intro p e s m args below meth c s₁ B hml hv
  subst hv
  have hx := B.exec
  have hb := B.bytes
  have hr := B.returns
  have hts := atoms_spec (ws := wsX8_killed) B.pre
  have hown : s.vm.findClass RX8 = some m.cls := findClass_of_methodNamed B.named
  have hlocks := B.notSynchronized
  have S0 : CallFix p m c cX8_killed 4 s ([.int y0, .int y1] : List Value).toArray wsX8_killed RX8 := ⟨hx, hb, hml, hown, hts⟩
  have hl := lv_entry [.int y0, .int y1] (n := 4) (Nat.le_of_ble_eq_true rfl)
  rw [lg_entry_eq]
  generalize (lg_sl [.int y0, .int y1] ++ List.replicate (4 - (lg_sl [.int y0, .int y1]).length) Slot.unset).toArray = ls at hl ⊢
  have hl : lv_has ls 4 [(0, .int y0), (1, .int y1)] := hl
  have K43 : ∀ (x2 : Int32), e_X8_killed_43 x2 = some r → ∀ ls, lv_has ls 4 [(2, .int x2)] → W p l e (headSpec wsX8_killed { frames := 2, cells := 0, slots := 0, locals := 45 }).room s m ([.int y0, .int y1] : List Value).toArray below meth c s.heap [] 0 0 (MQ below (k2_QcV (.int r)) ([.int y0, .int y1] : List Value).toArray s 0 0 (fun _ => False)) (F0 m 43 ls []) := by
    intro x2 h ls hl
    unfold e_X8_killed_43 at h
    refine lv_iload_n hx hb dX8_killed_43 rfl (lv_at hl 0 rfl) ?_
    exact W.iret hx hb hr (fun t ht _ => ⟨pf_ri h, ht⟩) (fun q hq => absurd hq List.not_mem_nil) dX8_killed_44
  have L4 : ∀ (n : Nat) (x0 : Int32) (x1 : Int32) (x2 : Int32) (x3 : Int32) (b : Int32), lpF (fun q : (Int32 × Int32) => s_X8_killed_4 x0 x1 q.1 q.2) n (x2, x3) = some b → a_X8_killed_4 b = some r → ∀ ls, lv_has ls 4 [(0, .int x0), (1, .int x1), (2, .int x2), (3, .int x3)] → W p l e (headSpec wsX8_killed { frames := 2, cells := 0, slots := 0, locals := 45 }).room s m ([.int y0, .int y1] : List Value).toArray below meth c s.heap [] 0 0 (MQ below (k2_QcV (.int r)) ([.int y0, .int y1] : List Value).toArray s 0 0 (fun _ => False)) (F0 m 4 ls []) := by
    intro n
    induction n with
    | zero => intro x0 x1 x2 x3 b h; exact lp_zero h
    | succ n ih =>
      intro x0 x1 x2 x3 b h ha ls hl
      obtain ⟨z4, h, hz⟩ := lp_open h
      have h : s_X8_killed_4 x0 x1 x2 x3 = some z4 := h
      unfold s_X8_killed_4 at h
      refine lv_iload_n hx hb dX8_killed_4 rfl (lv_at hl 3 rfl) ?_
      refine lv_iload_n hx hb dX8_killed_5 rfl (lv_at hl 0 rfl) ?_
      refine lv_icmp_ge (tgt := 43) hx hb dX8_killed_6 (by decide) (fun c6 => ?_) (fun c6 => ?_)
      · have h := pf_pos h c6
        have ha := pf_aft ha (lp_exit h hz)
        exact K43 x2 ha ls (lv_sub hl [2] rfl)
      · have h := pf_neg h c6
        refine lv_iload_n hx hb dX8_killed_9 rfl (lv_at hl 2 rfl) ?_
        refine lv_iload_n hx hb dX8_killed_10 rfl (lv_at hl 0 rfl) ?_
        refine lv_iload_n hx hb dX8_killed_11 rfl (lv_at hl 3 rfl) ?_
        obtain ⟨v12, hv12, h⟩ := pf_bind h
        refine pf_call (As := [.int x0, .int x3]) (rest := [.int x2]) S0 (c_X8_isRest l x0 x3 v12 hv12) (va_cwS 2 hts gX8_killed_X8_isRest rfl rfl rfl kd_X8_isRest ⟨Nat.le_of_ble_eq_true rfl, Nat.le_of_ble_eq_true rfl⟩) rfl hl.1 rfl (Nat.le_of_ble_eq_true rfl) dX8_killed_12 ⟨Nat.zero_le _, Nat.zero_le _⟩ ?_
        refine lv_if_eq (tgt := 34) hx hb dX8_killed_15 (by decide) (fun c15 => ?_) (fun c15 => ?_)
        · have h := pf_pos h c15
          refine lv_iconst (v := 0) hx hb dX8_killed_34 (by decide) ?_
          refine lv_iadd hx hb dX8_killed_35 ?_
          refine lv_istore_n (lv' := [(2, .int (x2 + (0 : Int32))), (0, .int x0), (1, .int x1), (3, .int x3)]) hx hb dX8_killed_36 rfl hl (by decide) rfl (fun ls hl => ?_)
          refine lv_iinc (v := (x3 + (1 : Int32))) (lv' := [(3, .int (x3 + (1 : Int32))), (2, .int (x2 + (0 : Int32))), (0, .int x0), (1, .int x1)]) hx hb dX8_killed_37 hl (k := 3) rfl rfl (by decide) rfl (fun ls hl => ?_)
          refine lv_goto (tgt := 4) hx hb dX8_killed_40 (by decide) ?_
          exact ih x0 x1 (x2 + (0 : Int32)) (x3 + (1 : Int32)) b (lp_cont h hz) ha ls (lv_sub hl [2, 3, 1, 0] rfl)
        · have h := pf_neg h c15
          refine lv_iload_n hx hb dX8_killed_18 rfl (lv_at hl 0 rfl) ?_
          refine lv_iload_n hx hb dX8_killed_19 rfl (lv_at hl 3 rfl) ?_
          refine lv_iload_n hx hb dX8_killed_20 rfl (lv_at hl 1 rfl) ?_
          obtain ⟨v21, hv21, h⟩ := pf_bind h
          refine pf_call (As := [.int x0, .int x3, .int x1]) (rest := [.int x2]) S0 (c_X8_power l x0 x3 x1 v21 hv21) (va_cwS 3 hts gX8_killed_X8_power rfl rfl rfl kd_X8_power ⟨Nat.le_of_ble_eq_true rfl, Nat.le_of_ble_eq_true rfl⟩) rfl hl.1 rfl (Nat.le_of_ble_eq_true rfl) dX8_killed_21 ⟨Nat.zero_le _, Nat.zero_le _⟩ ?_
          refine lv_iconst (v := 1) hx hb dX8_killed_24 (by decide) ?_
          refine lv_iload_n hx hb dX8_killed_25 rfl (lv_at hl 0 rfl) ?_
          obtain ⟨hd26, h⟩ := pf_guard h
          refine pf_irem hx hb dX8_killed_26 hd26 ?_
          refine lv_icmp_ne (tgt := 34) hx hb dX8_killed_27 (by decide) (fun c27 => ?_) (fun c27 => ?_)
          · have h := pf_neg h c27
            refine lv_iconst (v := 0) hx hb dX8_killed_34 (by decide) ?_
            refine lv_iadd hx hb dX8_killed_35 ?_
            refine lv_istore_n (lv' := [(2, .int (x2 + (0 : Int32))), (0, .int x0), (1, .int x1), (3, .int x3)]) hx hb dX8_killed_36 rfl hl (by decide) rfl (fun ls hl => ?_)
            refine lv_iinc (v := (x3 + (1 : Int32))) (lv' := [(3, .int (x3 + (1 : Int32))), (2, .int (x2 + (0 : Int32))), (0, .int x0), (1, .int x1)]) hx hb dX8_killed_37 hl (k := 3) rfl rfl (by decide) rfl (fun ls hl => ?_)
            refine lv_goto (tgt := 4) hx hb dX8_killed_40 (by decide) ?_
            exact ih x0 x1 (x2 + (0 : Int32)) (x3 + (1 : Int32)) b (lp_cont h hz) ha ls (lv_sub hl [2, 3, 1, 0] rfl)
          · have h := pf_pos h c27
            refine lv_iconst (v := 1) hx hb dX8_killed_30 (by decide) ?_
            refine lv_goto (tgt := 35) hx hb dX8_killed_31 (by decide) ?_
            refine lv_iadd hx hb dX8_killed_35 ?_
            refine lv_istore_n (lv' := [(2, .int (x2 + (1 : Int32))), (0, .int x0), (1, .int x1), (3, .int x3)]) hx hb dX8_killed_36 rfl hl (by decide) rfl (fun ls hl => ?_)
            refine lv_iinc (v := (x3 + (1 : Int32))) (lv' := [(3, .int (x3 + (1 : Int32))), (2, .int (x2 + (1 : Int32))), (0, .int x0), (1, .int x1)]) hx hb dX8_killed_37 hl (k := 3) rfl rfl (by decide) rfl (fun ls hl => ?_)
            refine lv_goto (tgt := 4) hx hb dX8_killed_40 (by decide) ?_
            exact ih x0 x1 (x2 + (1 : Int32)) (x3 + (1 : Int32)) b (lp_cont h hz) ha ls (lv_sub hl [2, 3, 1, 0] rfl)
  have G4 : ∀ (x0 : Int32) (x1 : Int32) (x2 : Int32) (x3 : Int32), g_X8_killed_4 x0 x1 x2 x3 = some r → ∀ ls, lv_has ls 4 [(0, .int x0), (1, .int x1), (2, .int x2), (3, .int x3)] → W p l e (headSpec wsX8_killed { frames := 2, cells := 0, slots := 0, locals := 45 }).room s m ([.int y0, .int y1] : List Value).toArray below meth c s.heap [] 0 0 (MQ below (k2_QcV (.int r)) ([.int y0, .int y1] : List Value).toArray s 0 0 (fun _ => False)) (F0 m 4 ls []) := by
    intro x0 x1 x2 x3 h ls hl
    unfold g_X8_killed_4 at h
    obtain ⟨b, h, ha⟩ := pf_bind h
    exact L4 pfFU x0 x1 x2 x3 b h ha ls hl
  unfold p_X8_killed at h
  refine lv_iconst (v := 0) hx hb dX8_killed_0 (by decide) ?_
  refine lv_istore_n (lv' := [(2, .int (0 : Int32)), (0, .int y0), (1, .int y1)]) hx hb dX8_killed_1 rfl hl (by decide) rfl (fun ls hl => ?_)
  refine lv_iconst (v := 0) hx hb dX8_killed_2 (by decide) ?_
  refine lv_istore_n (lv' := [(3, .int (0 : Int32)), (2, .int (0 : Int32)), (0, .int y0), (1, .int y1)]) hx hb dX8_killed_3 rfl hl (by decide) rfl (fun ls hl => ?_)
  exact G4 y0 y1 (0 : Int32) (0 : Int32) h ls (lv_sub hl [2, 3, 1, 0] rfl)
-- X8_cycles
def e_X8_cycles_57 (x4 : Int32) : Option Int32 :=
  some x4
def s_X8_cycles_39 (x1 : Int32) (x4 : Int32) (x5 : Int32) : Option ((Int32 × Int32) ⊕ (Int32)) :=
  (if x5 ≤ (1 : Int32) then some (Sum.inr x4) else (if x1 = 0 then none else some (Sum.inl ((x4 + (1 : Int32)), (x5 / x1)))))
def a_X8_cycles_39  (b : Int32) : Option Int32 := (fun q : Int32 => e_X8_cycles_57 q) b
def g_X8_cycles_39 (x1 : Int32) (x4 : Int32) (x5 : Int32) : Option Int32 := (lpF (fun q : (Int32 × Int32) => s_X8_cycles_39 x1 q.1 q.2) pfFU (x4, x5)).bind (a_X8_cycles_39 )
def e_X8_cycles_21 (x0 : Int32) (x1 : Int32) (x3 : Int32) : Option Int32 :=
  ((p_X8_killed x0 (x3 * x1)).bind fun v28 => ((p_X8_killed x0 x3).bind fun v33 => (if v33 = 0 then none else g_X8_cycles_39 x1 (0 : Int32) (v28 / v33))))
def s_X8_cycles_5 (x0 : Int32) (x1 : Int32) (x2 : Int32) (x3 : Int32) (x4 : Int32) : Option ((Int32 × Int32) ⊕ (Int32)) :=
  (if x2 ≤ x4 then some (Sum.inr x3) else some (Sum.inl ((x3 * x1), (x4 + (1 : Int32)))))
def a_X8_cycles_5 (x0 : Int32) (x1 : Int32) (b : Int32) : Option Int32 := (fun q : Int32 => e_X8_cycles_21 x0 x1 q) b
def g_X8_cycles_5 (x0 : Int32) (x1 : Int32) (x2 : Int32) (x3 : Int32) (x4 : Int32) : Option Int32 := (lpF (fun q : (Int32 × Int32) => s_X8_cycles_5 x0 x1 x2 q.1 q.2) pfFU (x3, x4)).bind (a_X8_cycles_5 x0 x1)
def p_X8_cycles (y0 : Int32) (y1 : Int32) (y2 : Int32) : Option Int32 :=
  g_X8_cycles_5 y0 y1 y2 (1 : Int32) (1 : Int32)
theorem kd_X8_cycles : yX8_cycles.cls ≠ "java/lang/invoke/MethodHandle" ∧ yX8_cycles.cls ≠ "java/lang/invoke/VarHandle" ∧ (parseMethodDescriptor yX8_cycles.desc).map (fun d => d.parameters.length) = some 3 := by decide +kernel
set_option maxHeartbeats 4000000 in
set_option maxRecDepth 100000 in
theorem c_X8_cycles (l : Launch) (y0 : Int32) (y1 : Int32) (y2 : Int32) (r : Int32) (h : p_X8_cycles y0 y1 y2 = some r) : Met l yX8_cycles wsX8_cycles { frames := 3, cells := 0, slots := 0, locals := 68 } (fun v _ => v = ([.int y0, .int y1, .int y2] : List Value).toArray) (k2_QcV (.int r)) 0 0 (fun _ => False) := by
  refine Met.ofW (cc := cX8_cycles) (maxL := 6) (ret := some .int) (by decide) rfl ?_
  intro p e s m args below meth c s₁ B hml hv
  subst hv
  have hx := B.exec
  have hb := B.bytes
  have hr := B.returns
  have hts := atoms_spec (ws := wsX8_cycles) B.pre
  have hown : s.vm.findClass RX8 = some m.cls := findClass_of_methodNamed B.named
  have hlocks := B.notSynchronized
  have S0 : CallFix p m c cX8_cycles 6 s ([.int y0, .int y1, .int y2] : List Value).toArray wsX8_cycles RX8 := ⟨hx, hb, hml, hown, hts⟩
  have hl := lv_entry [.int y0, .int y1, .int y2] (n := 6) (Nat.le_of_ble_eq_true rfl)
  rw [lg_entry_eq]
  generalize (lg_sl [.int y0, .int y1, .int y2] ++ List.replicate (6 - (lg_sl [.int y0, .int y1, .int y2]).length) Slot.unset).toArray = ls at hl ⊢
  have hl : lv_has ls 6 [(0, .int y0), (1, .int y1), (2, .int y2)] := hl
  have K57 : ∀ (x4 : Int32), e_X8_cycles_57 x4 = some r → ∀ ls, lv_has ls 6 [(4, .int x4)] → W p l e (headSpec wsX8_cycles { frames := 3, cells := 0, slots := 0, locals := 68 }).room s m ([.int y0, .int y1, .int y2] : List Value).toArray below meth c s.heap [] 0 0 (MQ below (k2_QcV (.int r)) ([.int y0, .int y1, .int y2] : List Value).toArray s 0 0 (fun _ => False)) (F0 m 57 ls []) := by
    intro x4 h ls hl
    unfold e_X8_cycles_57 at h
    refine lv_iload hx hb dX8_cycles_57 (lv_at hl 0 rfl) ?_
    exact W.iret hx hb hr (fun t ht _ => ⟨pf_ri h, ht⟩) (fun q hq => absurd hq List.not_mem_nil) dX8_cycles_59
  have L39 : ∀ (n : Nat) (x1 : Int32) (x4 : Int32) (x5 : Int32) (b : Int32), lpF (fun q : (Int32 × Int32) => s_X8_cycles_39 x1 q.1 q.2) n (x4, x5) = some b → a_X8_cycles_39 b = some r → ∀ ls, lv_has ls 6 [(1, .int x1), (4, .int x4), (5, .int x5)] → W p l e (headSpec wsX8_cycles { frames := 3, cells := 0, slots := 0, locals := 68 }).room s m ([.int y0, .int y1, .int y2] : List Value).toArray below meth c s.heap [] 0 0 (MQ below (k2_QcV (.int r)) ([.int y0, .int y1, .int y2] : List Value).toArray s 0 0 (fun _ => False)) (F0 m 39 ls []) := by
    intro n
    induction n with
    | zero => intro x1 x4 x5 b h; exact lp_zero h
    | succ n ih =>
      intro x1 x4 x5 b h ha ls hl
      obtain ⟨z39, h, hz⟩ := lp_open h
      have h : s_X8_cycles_39 x1 x4 x5 = some z39 := h
      unfold s_X8_cycles_39 at h
      refine lv_iload hx hb dX8_cycles_39 (lv_at hl 2 rfl) ?_
      refine lv_iconst (v := 1) hx hb dX8_cycles_41 (by decide) ?_
      refine lv_icmp_le (tgt := 57) hx hb dX8_cycles_42 (by decide) (fun c42 => ?_) (fun c42 => ?_)
      · have h := pf_pos h c42
        have ha := pf_aft ha (lp_exit h hz)
        exact K57 x4 ha ls (lv_sub hl [1] rfl)
      · have h := pf_neg h c42
        refine lv_iinc (v := (x4 + (1 : Int32))) (lv' := [(4, .int (x4 + (1 : Int32))), (1, .int x1), (5, .int x5)]) hx hb dX8_cycles_45 hl (k := 1) rfl rfl (by decide) rfl (fun ls hl => ?_)
        refine lv_iload hx hb dX8_cycles_48 (lv_at hl 2 rfl) ?_
        refine lv_iload_n hx hb dX8_cycles_50 rfl (lv_at hl 1 rfl) ?_
        obtain ⟨hd51, h⟩ := pf_guard h
        refine lv_idiv hx hb dX8_cycles_51 hd51 ?_
        refine lv_istore (lv' := [(5, .int (x5 / x1)), (4, .int (x4 + (1 : Int32))), (1, .int x1)]) hx hb dX8_cycles_52 hl (by decide) rfl (fun ls hl => ?_)
        refine lv_goto (tgt := 39) hx hb dX8_cycles_54 (by decide) ?_
        exact ih x1 (x4 + (1 : Int32)) (x5 / x1) b (lp_cont h hz) ha ls (lv_sub hl [2, 1, 0] rfl)
  have G39 : ∀ (x1 : Int32) (x4 : Int32) (x5 : Int32), g_X8_cycles_39 x1 x4 x5 = some r → ∀ ls, lv_has ls 6 [(1, .int x1), (4, .int x4), (5, .int x5)] → W p l e (headSpec wsX8_cycles { frames := 3, cells := 0, slots := 0, locals := 68 }).room s m ([.int y0, .int y1, .int y2] : List Value).toArray below meth c s.heap [] 0 0 (MQ below (k2_QcV (.int r)) ([.int y0, .int y1, .int y2] : List Value).toArray s 0 0 (fun _ => False)) (F0 m 39 ls []) := by
    intro x1 x4 x5 h ls hl
    unfold g_X8_cycles_39 at h
    obtain ⟨b, h, ha⟩ := pf_bind h
    exact L39 pfFU x1 x4 x5 b h ha ls hl
  have K21 : ∀ (x0 : Int32) (x1 : Int32) (x3 : Int32), e_X8_cycles_21 x0 x1 x3 = some r → ∀ ls, lv_has ls 6 [(0, .int x0), (1, .int x1), (3, .int x3)] → W p l e (headSpec wsX8_cycles { frames := 3, cells := 0, slots := 0, locals := 68 }).room s m ([.int y0, .int y1, .int y2] : List Value).toArray below meth c s.heap [] 0 0 (MQ below (k2_QcV (.int r)) ([.int y0, .int y1, .int y2] : List Value).toArray s 0 0 (fun _ => False)) (F0 m 21 ls []) := by
    intro x0 x1 x3 h ls hl
    unfold e_X8_cycles_21 at h
    refine lv_iconst (v := 0) hx hb dX8_cycles_21 (by decide) ?_
    refine lv_istore (lv' := [(4, .int (0 : Int32)), (0, .int x0), (1, .int x1), (3, .int x3)]) hx hb dX8_cycles_22 hl (by decide) rfl (fun ls hl => ?_)
    refine lv_iload_n hx hb dX8_cycles_24 rfl (lv_at hl 1 rfl) ?_
    refine lv_iload_n hx hb dX8_cycles_25 rfl (lv_at hl 3 rfl) ?_
    refine lv_iload_n hx hb dX8_cycles_26 rfl (lv_at hl 2 rfl) ?_
    refine lv_imul hx hb dX8_cycles_27 ?_
    obtain ⟨v28, hv28, h⟩ := pf_bind h
    refine pf_call (As := [.int x0, .int (x3 * x1)]) (rest := []) S0 (c_X8_killed l x0 (x3 * x1) v28 hv28) (va_cwS 2 hts gX8_cycles_X8_killed rfl rfl rfl kd_X8_killed ⟨Nat.le_of_ble_eq_true rfl, Nat.le_of_ble_eq_true rfl⟩) rfl hl.1 rfl (Nat.le_of_ble_eq_true rfl) dX8_cycles_28 ⟨Nat.zero_le _, Nat.zero_le _⟩ ?_
    refine lv_iload_n hx hb dX8_cycles_31 rfl (lv_at hl 1 rfl) ?_
    refine lv_iload_n hx hb dX8_cycles_32 rfl (lv_at hl 3 rfl) ?_
    obtain ⟨v33, hv33, h⟩ := pf_bind h
    refine pf_call (As := [.int x0, .int x3]) (rest := [.int v28]) S0 (c_X8_killed l x0 x3 v33 hv33) (va_cwS 2 hts gX8_cycles_X8_killed rfl rfl rfl kd_X8_killed ⟨Nat.le_of_ble_eq_true rfl, Nat.le_of_ble_eq_true rfl⟩) rfl hl.1 rfl (Nat.le_of_ble_eq_true rfl) dX8_cycles_33 ⟨Nat.zero_le _, Nat.zero_le _⟩ ?_
    obtain ⟨hd36, h⟩ := pf_guard h
    refine lv_idiv hx hb dX8_cycles_36 hd36 ?_
    refine lv_istore (lv' := [(5, .int (v28 / v33)), (4, .int (0 : Int32)), (0, .int x0), (1, .int x1), (3, .int x3)]) hx hb dX8_cycles_37 hl (by decide) rfl (fun ls hl => ?_)
    exact G39 x1 (0 : Int32) (v28 / v33) h ls (lv_sub hl [3, 1, 0] rfl)
  have L5 : ∀ (n : Nat) (x0 : Int32) (x1 : Int32) (x2 : Int32) (x3 : Int32) (x4 : Int32) (b : Int32), lpF (fun q : (Int32 × Int32) => s_X8_cycles_5 x0 x1 x2 q.1 q.2) n (x3, x4) = some b → a_X8_cycles_5 x0 x1 b = some r → ∀ ls, lv_has ls 6 [(0, .int x0), (1, .int x1), (2, .int x2), (3, .int x3), (4, .int x4)] → W p l e (headSpec wsX8_cycles { frames := 3, cells := 0, slots := 0, locals := 68 }).room s m ([.int y0, .int y1, .int y2] : List Value).toArray below meth c s.heap [] 0 0 (MQ below (k2_QcV (.int r)) ([.int y0, .int y1, .int y2] : List Value).toArray s 0 0 (fun _ => False)) (F0 m 5 ls []) := by
    intro n
    induction n with
    | zero => intro x0 x1 x2 x3 x4 b h; exact lp_zero h
    | succ n ih =>
      intro x0 x1 x2 x3 x4 b h ha ls hl
      obtain ⟨z5, h, hz⟩ := lp_open h
      have h : s_X8_cycles_5 x0 x1 x2 x3 x4 = some z5 := h
      unfold s_X8_cycles_5 at h
      refine lv_iload hx hb dX8_cycles_5 (lv_at hl 4 rfl) ?_
      refine lv_iload_n hx hb dX8_cycles_7 rfl (lv_at hl 2 rfl) ?_
      refine lv_icmp_ge (tgt := 21) hx hb dX8_cycles_8 (by decide) (fun c8 => ?_) (fun c8 => ?_)
      · have h := pf_pos h c8
        have ha := pf_aft ha (lp_exit h hz)
        exact K21 x0 x1 x3 ha ls (lv_sub hl [0, 1, 3] rfl)
      · have h := pf_neg h c8
        refine lv_iload_n hx hb dX8_cycles_11 rfl (lv_at hl 3 rfl) ?_
        refine lv_iload_n hx hb dX8_cycles_12 rfl (lv_at hl 1 rfl) ?_
        refine lv_imul hx hb dX8_cycles_13 ?_
        refine lv_istore_n (lv' := [(3, .int (x3 * x1)), (0, .int x0), (1, .int x1), (2, .int x2), (4, .int x4)]) hx hb dX8_cycles_14 rfl hl (by decide) rfl (fun ls hl => ?_)
        refine lv_iinc (v := (x4 + (1 : Int32))) (lv' := [(4, .int (x4 + (1 : Int32))), (3, .int (x3 * x1)), (0, .int x0), (1, .int x1), (2, .int x2)]) hx hb dX8_cycles_15 hl (k := 4) rfl rfl (by decide) rfl (fun ls hl => ?_)
        refine lv_goto (tgt := 5) hx hb dX8_cycles_18 (by decide) ?_
        exact ih x0 x1 x2 (x3 * x1) (x4 + (1 : Int32)) b (lp_cont h hz) ha ls (lv_sub hl [2, 3, 4, 1, 0] rfl)
  have G5 : ∀ (x0 : Int32) (x1 : Int32) (x2 : Int32) (x3 : Int32) (x4 : Int32), g_X8_cycles_5 x0 x1 x2 x3 x4 = some r → ∀ ls, lv_has ls 6 [(0, .int x0), (1, .int x1), (2, .int x2), (3, .int x3), (4, .int x4)] → W p l e (headSpec wsX8_cycles { frames := 3, cells := 0, slots := 0, locals := 68 }).room s m ([.int y0, .int y1, .int y2] : List Value).toArray below meth c s.heap [] 0 0 (MQ below (k2_QcV (.int r)) ([.int y0, .int y1, .int y2] : List Value).toArray s 0 0 (fun _ => False)) (F0 m 5 ls []) := by
    intro x0 x1 x2 x3 x4 h ls hl
    unfold g_X8_cycles_5 at h
    obtain ⟨b, h, ha⟩ := pf_bind h
    exact L5 pfFU x0 x1 x2 x3 x4 b h ha ls hl
  unfold p_X8_cycles at h
  refine lv_iconst (v := 1) hx hb dX8_cycles_0 (by decide) ?_
  refine lv_istore_n (lv' := [(3, .int (1 : Int32)), (0, .int y0), (1, .int y1), (2, .int y2)]) hx hb dX8_cycles_1 rfl hl (by decide) rfl (fun ls hl => ?_)
  refine lv_iconst (v := 1) hx hb dX8_cycles_2 (by decide) ?_
  refine lv_istore (lv' := [(4, .int (1 : Int32)), (3, .int (1 : Int32)), (0, .int y0), (1, .int y1), (2, .int y2)]) hx hb dX8_cycles_3 hl (by decide) rfl (fun ls hl => ?_)
  exact G5 y0 y1 y2 (1 : Int32) (1 : Int32) h ls (lv_sub hl [2, 3, 4, 1, 0] rfl)
-- X8_isPrime
def e_X8_isPrime_42 (x1 : Int32) : Option Int32 :=
  (if x1 &&& 1 = x1 then some x1 else none)
def s_X8_isPrime_13 (x0 : Int32) (x1 : Int32) (x2 : Int32) : Option ((Int32 × Int32) ⊕ (Int32)) :=
  (if x0 < (x2 * x2) then some (Sum.inr x1) else (if x1 = 0 then some (Sum.inr x1) else (if x2 = 0 then none else (if (jrem x0 x2) = 0 then some (Sum.inl ((0 : Int32), (x2 + (1 : Int32)))) else some (Sum.inl ((1 : Int32), (x2 + (1 : Int32))))))))
def a_X8_isPrime_13  (b : Int32) : Option Int32 := (fun q : Int32 => e_X8_isPrime_42 q) b
def g_X8_isPrime_13 (x0 : Int32) (x1 : Int32) (x2 : Int32) : Option Int32 := (lpF (fun q : (Int32 × Int32) => s_X8_isPrime_13 x0 q.1 q.2) pfFU (x1, x2)).bind (a_X8_isPrime_13 )
def p_X8_isPrime (y0 : Int32) : Option Int32 :=
  (if y0 ≤ (1 : Int32) then g_X8_isPrime_13 y0 (0 : Int32) (2 : Int32) else g_X8_isPrime_13 y0 (1 : Int32) (2 : Int32))
theorem kd_X8_isPrime : yX8_isPrime.cls ≠ "java/lang/invoke/MethodHandle" ∧ yX8_isPrime.cls ≠ "java/lang/invoke/VarHandle" ∧ (parseMethodDescriptor yX8_isPrime.desc).map (fun d => d.parameters.length) = some 1 := by decide +kernel
set_option maxHeartbeats 4000000 in
set_option maxRecDepth 100000 in
theorem c_X8_isPrime (l : Launch) (y0 : Int32) (r : Int32) (h : p_X8_isPrime y0 = some r) : Met l yX8_isPrime wsX8_isPrime { frames := 0, cells := 0, slots := 0, locals := 0 } (fun v _ => v = ([.int y0] : List Value).toArray) (k2_QcV (.int r)) 0 0 (fun _ => False) := by
  refine Met.ofW (cc := cX8_isPrime) (maxL := 3) (ret := some .boolean) (by decide) rfl ?_
  intro p e s m args below meth c s₁ B hml hv
  subst hv
  have hx := B.exec
  have hb := B.bytes
  have hr := B.returns
  have hts := atoms_spec (ws := wsX8_isPrime) B.pre
  have hown : s.vm.findClass RX8 = some m.cls := findClass_of_methodNamed B.named
  have hlocks := B.notSynchronized
  have S0 : CallFix p m c cX8_isPrime 3 s ([.int y0] : List Value).toArray wsX8_isPrime RX8 := ⟨hx, hb, hml, hown, hts⟩
  have hl := lv_entry [.int y0] (n := 3) (Nat.le_of_ble_eq_true rfl)
  rw [lg_entry_eq]
  generalize (lg_sl [.int y0] ++ List.replicate (3 - (lg_sl [.int y0]).length) Slot.unset).toArray = ls at hl ⊢
  have hl : lv_has ls 3 [(0, .int y0)] := hl
  have K42 : ∀ (x1 : Int32), e_X8_isPrime_42 x1 = some r → ∀ ls, lv_has ls 3 [(1, .int x1)] → W p l e (headSpec wsX8_isPrime { frames := 0, cells := 0, slots := 0, locals := 0 }).room s m ([.int y0] : List Value).toArray below meth c s.heap [] 0 0 (MQ below (k2_QcV (.int r)) ([.int y0] : List Value).toArray s 0 0 (fun _ => False)) (F0 m 42 ls []) := by
    intro x1 h ls hl
    unfold e_X8_isPrime_42 at h
    refine lv_iload_n hx hb dX8_isPrime_42 rfl (lv_at hl 0 rfl) ?_
    obtain ⟨hn43, h⟩ := pf_need h
    exact W.zret hx hb hr (pf_nb hn43) (fun t ht _ => ⟨pf_ri h, ht⟩) (fun q hq => absurd hq List.not_mem_nil) dX8_isPrime_43
  have L13 : ∀ (n : Nat) (x0 : Int32) (x1 : Int32) (x2 : Int32) (b : Int32), lpF (fun q : (Int32 × Int32) => s_X8_isPrime_13 x0 q.1 q.2) n (x1, x2) = some b → a_X8_isPrime_13 b = some r → ∀ ls, lv_has ls 3 [(0, .int x0), (1, .int x1), (2, .int x2)] → W p l e (headSpec wsX8_isPrime { frames := 0, cells := 0, slots := 0, locals := 0 }).room s m ([.int y0] : List Value).toArray below meth c s.heap [] 0 0 (MQ below (k2_QcV (.int r)) ([.int y0] : List Value).toArray s 0 0 (fun _ => False)) (F0 m 13 ls []) := by
    intro n
    induction n with
    | zero => intro x0 x1 x2 b h; exact lp_zero h
    | succ n ih =>
      intro x0 x1 x2 b h ha ls hl
      obtain ⟨z13, h, hz⟩ := lp_open h
      have h : s_X8_isPrime_13 x0 x1 x2 = some z13 := h
      unfold s_X8_isPrime_13 at h
      refine lv_iload_n hx hb dX8_isPrime_13 rfl (lv_at hl 2 rfl) ?_
      refine lv_iload_n hx hb dX8_isPrime_14 rfl (lv_at hl 2 rfl) ?_
      refine lv_imul hx hb dX8_isPrime_15 ?_
      refine lv_iload_n hx hb dX8_isPrime_16 rfl (lv_at hl 0 rfl) ?_
      refine lv_icmp_gt (tgt := 42) hx hb dX8_isPrime_17 (by decide) (fun c17 => ?_) (fun c17 => ?_)
      · have h := pf_pos h c17
        have ha := pf_aft ha (lp_exit h hz)
        exact K42 x1 ha ls (lv_sub hl [1] rfl)
      · have h := pf_neg h c17
        refine lv_iload_n hx hb dX8_isPrime_20 rfl (lv_at hl 1 rfl) ?_
        refine lv_if_eq (tgt := 42) hx hb dX8_isPrime_21 (by decide) (fun c21 => ?_) (fun c21 => ?_)
        · have h := pf_pos h c21
          have ha := pf_aft ha (lp_exit h hz)
          exact K42 x1 ha ls (lv_sub hl [1] rfl)
        · have h := pf_neg h c21
          refine lv_iload_n hx hb dX8_isPrime_24 rfl (lv_at hl 0 rfl) ?_
          refine lv_iload_n hx hb dX8_isPrime_25 rfl (lv_at hl 2 rfl) ?_
          obtain ⟨hd26, h⟩ := pf_guard h
          refine pf_irem hx hb dX8_isPrime_26 hd26 ?_
          refine lv_if_eq (tgt := 34) hx hb dX8_isPrime_27 (by decide) (fun c27 => ?_) (fun c27 => ?_)
          · have h := pf_pos h c27
            refine lv_iconst (v := 0) hx hb dX8_isPrime_34 (by decide) ?_
            refine lv_istore_n (lv' := [(1, .int (0 : Int32)), (0, .int x0), (2, .int x2)]) hx hb dX8_isPrime_35 rfl hl (by decide) rfl (fun ls hl => ?_)
            refine lv_iinc (v := (x2 + (1 : Int32))) (lv' := [(2, .int (x2 + (1 : Int32))), (1, .int (0 : Int32)), (0, .int x0)]) hx hb dX8_isPrime_36 hl (k := 2) rfl rfl (by decide) rfl (fun ls hl => ?_)
            refine lv_goto (tgt := 13) hx hb dX8_isPrime_39 (by decide) ?_
            exact ih x0 (0 : Int32) (x2 + (1 : Int32)) b (lp_cont h hz) ha ls (lv_sub hl [2, 1, 0] rfl)
          · have h := pf_neg h c27
            refine lv_iconst (v := 1) hx hb dX8_isPrime_30 (by decide) ?_
            refine lv_goto (tgt := 35) hx hb dX8_isPrime_31 (by decide) ?_
            refine lv_istore_n (lv' := [(1, .int (1 : Int32)), (0, .int x0), (2, .int x2)]) hx hb dX8_isPrime_35 rfl hl (by decide) rfl (fun ls hl => ?_)
            refine lv_iinc (v := (x2 + (1 : Int32))) (lv' := [(2, .int (x2 + (1 : Int32))), (1, .int (1 : Int32)), (0, .int x0)]) hx hb dX8_isPrime_36 hl (k := 2) rfl rfl (by decide) rfl (fun ls hl => ?_)
            refine lv_goto (tgt := 13) hx hb dX8_isPrime_39 (by decide) ?_
            exact ih x0 (1 : Int32) (x2 + (1 : Int32)) b (lp_cont h hz) ha ls (lv_sub hl [2, 1, 0] rfl)
  have G13 : ∀ (x0 : Int32) (x1 : Int32) (x2 : Int32), g_X8_isPrime_13 x0 x1 x2 = some r → ∀ ls, lv_has ls 3 [(0, .int x0), (1, .int x1), (2, .int x2)] → W p l e (headSpec wsX8_isPrime { frames := 0, cells := 0, slots := 0, locals := 0 }).room s m ([.int y0] : List Value).toArray below meth c s.heap [] 0 0 (MQ below (k2_QcV (.int r)) ([.int y0] : List Value).toArray s 0 0 (fun _ => False)) (F0 m 13 ls []) := by
    intro x0 x1 x2 h ls hl
    unfold g_X8_isPrime_13 at h
    obtain ⟨b, h, ha⟩ := pf_bind h
    exact L13 pfFU x0 x1 x2 b h ha ls hl
  unfold p_X8_isPrime at h
  refine lv_iload_n hx hb dX8_isPrime_0 rfl (lv_at hl 0 rfl) ?_
  refine lv_iconst (v := 1) hx hb dX8_isPrime_1 (by decide) ?_
  refine lv_icmp_le (tgt := 9) hx hb dX8_isPrime_2 (by decide) (fun c2 => ?_) (fun c2 => ?_)
  · have h := pf_pos h c2
    refine lv_iconst (v := 0) hx hb dX8_isPrime_9 (by decide) ?_
    refine lv_istore_n (lv' := [(1, .int (0 : Int32)), (0, .int y0)]) hx hb dX8_isPrime_10 rfl hl (by decide) rfl (fun ls hl => ?_)
    refine lv_iconst (v := 2) hx hb dX8_isPrime_11 (by decide) ?_
    refine lv_istore_n (lv' := [(2, .int (2 : Int32)), (1, .int (0 : Int32)), (0, .int y0)]) hx hb dX8_isPrime_12 rfl hl (by decide) rfl (fun ls hl => ?_)
    exact G13 y0 (0 : Int32) (2 : Int32) h ls (lv_sub hl [2, 1, 0] rfl)
  · have h := pf_neg h c2
    refine lv_iconst (v := 1) hx hb dX8_isPrime_5 (by decide) ?_
    refine lv_goto (tgt := 10) hx hb dX8_isPrime_6 (by decide) ?_
    refine lv_istore_n (lv' := [(1, .int (1 : Int32)), (0, .int y0)]) hx hb dX8_isPrime_10 rfl hl (by decide) rfl (fun ls hl => ?_)
    refine lv_iconst (v := 2) hx hb dX8_isPrime_11 (by decide) ?_
    refine lv_istore_n (lv' := [(2, .int (2 : Int32)), (1, .int (1 : Int32)), (0, .int y0)]) hx hb dX8_isPrime_12 rfl hl (by decide) rfl (fun ls hl => ?_)
    exact G13 y0 (1 : Int32) (2 : Int32) h ls (lv_sub hl [2, 1, 0] rfl)
