-- X8_times
def e_X8_times_42 (x4 : Int64) : Option Int64 :=
  some x4
def s_X8_times_6 (x0 : Int32) (x1 : Int64) (x3 : Int32) (x4 : Int64) (x6 : Int32) : Option ((Int64 × Int32) ⊕ (Int64)) :=
  (if x0 ≤ x6 then some (Sum.inr x4) else (if ((jshr x1 x6) &&& (1 : Int64)) = (1 : Int64) then (if x0 = 0 then none else some (Sum.inl ((x4 ||| (jshl (1 : Int64) (jrem (x6 * x3) x0))), (x6 + (1 : Int32))))) else some (Sum.inl (x4, (x6 + (1 : Int32))))))
def a_X8_times_6  (b : Int64) : Option Int64 := (fun q : Int64 => e_X8_times_42 q) b
def g_X8_times_6 (x0 : Int32) (x1 : Int64) (x3 : Int32) (x4 : Int64) (x6 : Int32) : Option Int64 := (lpF (fun q : (Int64 × Int32) => s_X8_times_6 x0 x1 x3 q.1 q.2) pfFU (x4, x6)).bind (a_X8_times_6 )
def p_X8_times (y0 : Int32) (y1 : Int64) (y3 : Int32) : Option Int64 :=
  g_X8_times_6 y0 y1 y3 (0 : Int64) (0 : Int32)
theorem kd_X8_times : yX8_times.cls ≠ "java/lang/invoke/MethodHandle" ∧ yX8_times.cls ≠ "java/lang/invoke/VarHandle" ∧ (parseMethodDescriptor yX8_times.desc).map (fun d => d.parameters.length) = some 3 := by decide +kernel
set_option maxHeartbeats 4000000 in
set_option maxRecDepth 100000 in
theorem c_X8_times (l : Launch) (y0 : Int32) (y1 : Int64) (y3 : Int32) (r : Int64) (h : p_X8_times y0 y1 y3 = some r) : Met l yX8_times wsX8_times { frames := 0, cells := 0, slots := 0, locals := 0 } (fun v _ => v = ([.int y0, .long y1, .int y3] : List Value).toArray) (k2_QcV (.long r)) 0 0 (fun _ => False) := by
  refine Met.ofW (cc := cX8_times) (maxL := 7) (ret := some .long) (by decide) rfl ?_
  intro p e s m args below meth c s₁ B hml hv
  subst hv
  have hx := B.exec
  have hb := B.bytes
  have hr := B.returns
  have hts := atoms_spec (ws := wsX8_times) B.pre
  have hown : s.vm.findClass RX8 = some m.cls := findClass_of_methodNamed B.named
  have hlocks := B.notSynchronized
  have S0 : CallFix p m c cX8_times 7 s ([.int y0, .long y1, .int y3] : List Value).toArray wsX8_times RX8 := ⟨hx, hb, hml, hown, hts⟩
  have hl := lv_entry [.int y0, .long y1, .int y3] (n := 7) (Nat.le_of_ble_eq_true rfl)
  rw [lg_entry_eq]
  generalize (lg_sl [.int y0, .long y1, .int y3] ++ List.replicate (7 - (lg_sl [.int y0, .long y1, .int y3]).length) Slot.unset).toArray = ls at hl ⊢
  have hl : lv_has ls 7 [(0, .int y0), (1, .long y1), (3, .int y3)] := hl
  have K42 : ∀ (x4 : Int64), e_X8_times_42 x4 = some r → ∀ ls, lv_has ls 7 [(4, .long x4)] → W p l e (headSpec wsX8_times { frames := 0, cells := 0, slots := 0, locals := 0 }).room s m ([.int y0, .long y1, .int y3] : List Value).toArray below meth c s.heap [] 0 0 (MQ below (k2_QcV (.long r)) ([.int y0, .long y1, .int y3] : List Value).toArray s 0 0 (fun _ => False)) (F0 m 42 ls []) := by
    intro x4 h ls hl
    unfold e_X8_times_42 at h
    refine lv_lload hx hb dX8_times_42 (lv_at hl 0 rfl) ?_
    exact W.lret hx hb hr (fun t ht _ => ⟨pf_rl h, ht⟩) (fun q hq => absurd hq List.not_mem_nil) dX8_times_44
  have L6 : ∀ (n : Nat) (x0 : Int32) (x1 : Int64) (x3 : Int32) (x4 : Int64) (x6 : Int32) (b : Int64), lpF (fun q : (Int64 × Int32) => s_X8_times_6 x0 x1 x3 q.1 q.2) n (x4, x6) = some b → a_X8_times_6 b = some r → ∀ ls, lv_has ls 7 [(0, .int x0), (1, .long x1), (3, .int x3), (4, .long x4), (6, .int x6)] → W p l e (headSpec wsX8_times { frames := 0, cells := 0, slots := 0, locals := 0 }).room s m ([.int y0, .long y1, .int y3] : List Value).toArray below meth c s.heap [] 0 0 (MQ below (k2_QcV (.long r)) ([.int y0, .long y1, .int y3] : List Value).toArray s 0 0 (fun _ => False)) (F0 m 6 ls []) := by
    intro n
    induction n with
    | zero => intro x0 x1 x3 x4 x6 b h; exact lp_zero h
    | succ n ih =>
      intro x0 x1 x3 x4 x6 b h ha ls hl
      obtain ⟨z6, h, hz⟩ := lp_open h
      have h : s_X8_times_6 x0 x1 x3 x4 x6 = some z6 := h
      unfold s_X8_times_6 at h
      refine lv_iload hx hb dX8_times_6 (lv_at hl 4 rfl) ?_
      refine lv_iload_n hx hb dX8_times_8 rfl (lv_at hl 0 rfl) ?_
      refine lv_icmp_ge (tgt := 42) hx hb dX8_times_9 (by decide) (fun c9 => ?_) (fun c9 => ?_)
      · have h := pf_pos h c9
        have ha := pf_aft ha (lp_exit h hz)
        exact K42 x4 ha ls (lv_sub hl [3] rfl)
      · have h := pf_neg h c9
        refine lv_lload_n hx hb dX8_times_12 rfl (lv_at hl 1 rfl) ?_
        refine lv_iload hx hb dX8_times_13 (lv_at hl 4 rfl) ?_
        refine pf_lshr hx hb dX8_times_15 ?_
        refine lv_lconst (v := 1) hx hb dX8_times_16 (by decide) ?_
        refine lv_land hx hb dX8_times_17 ?_
        refine lv_lconst (v := 1) hx hb dX8_times_18 (by decide) ?_
        refine W.lcmp hx hb dX8_times_19 ?_
        refine lv_if_ne (tgt := 36) hx hb dX8_times_20 (by decide) (fun c20 => ?_) (fun c20 => ?_)
        · have h := pf_neg h (fun q => c20 ((lg_cmp_eq _ _).mpr q))
          refine lv_iinc (v := (x6 + (1 : Int32))) (lv' := [(6, .int (x6 + (1 : Int32))), (0, .int x0), (1, .long x1), (3, .int x3), (4, .long x4)]) hx hb dX8_times_36 hl (k := 4) rfl rfl (by decide) rfl (fun ls hl => ?_)
          refine lv_goto (tgt := 6) hx hb dX8_times_39 (by decide) ?_
          exact ih x0 x1 x3 x4 (x6 + (1 : Int32)) b (lp_cont h hz) ha ls (lv_sub hl [1, 2, 3, 4, 0] rfl)
        · have h := pf_pos h ((lg_cmp_eq _ _).mp c20)
          refine lv_lload hx hb dX8_times_23 (lv_at hl 3 rfl) ?_
          refine lv_lconst (v := 1) hx hb dX8_times_25 (by decide) ?_
          refine lv_iload hx hb dX8_times_26 (lv_at hl 4 rfl) ?_
          refine lv_iload_n hx hb dX8_times_28 rfl (lv_at hl 2 rfl) ?_
          refine lv_imul hx hb dX8_times_29 ?_
          refine lv_iload_n hx hb dX8_times_30 rfl (lv_at hl 0 rfl) ?_
          obtain ⟨hd31, h⟩ := pf_guard h
          refine pf_irem hx hb dX8_times_31 hd31 ?_
          refine pf_lshl hx hb dX8_times_32 ?_
          refine lv_lor hx hb dX8_times_33 ?_
          refine lv_lstore (lv' := [(4, .long (x4 ||| (jshl (1 : Int64) (jrem (x6 * x3) x0)))), (0, .int x0), (1, .long x1), (3, .int x3), (6, .int x6)]) hx hb dX8_times_34 hl (by decide) rfl (fun ls hl => ?_)
          refine lv_iinc (v := (x6 + (1 : Int32))) (lv' := [(6, .int (x6 + (1 : Int32))), (4, .long (x4 ||| (jshl (1 : Int64) (jrem (x6 * x3) x0)))), (0, .int x0), (1, .long x1), (3, .int x3)]) hx hb dX8_times_36 hl (k := 4) rfl rfl (by decide) rfl (fun ls hl => ?_)
          refine lv_goto (tgt := 6) hx hb dX8_times_39 (by decide) ?_
          exact ih x0 x1 x3 (x4 ||| (jshl (1 : Int64) (jrem (x6 * x3) x0))) (x6 + (1 : Int32)) b (lp_cont h hz) ha ls (lv_sub hl [2, 3, 4, 1, 0] rfl)
  have G6 : ∀ (x0 : Int32) (x1 : Int64) (x3 : Int32) (x4 : Int64) (x6 : Int32), g_X8_times_6 x0 x1 x3 x4 x6 = some r → ∀ ls, lv_has ls 7 [(0, .int x0), (1, .long x1), (3, .int x3), (4, .long x4), (6, .int x6)] → W p l e (headSpec wsX8_times { frames := 0, cells := 0, slots := 0, locals := 0 }).room s m ([.int y0, .long y1, .int y3] : List Value).toArray below meth c s.heap [] 0 0 (MQ below (k2_QcV (.long r)) ([.int y0, .long y1, .int y3] : List Value).toArray s 0 0 (fun _ => False)) (F0 m 6 ls []) := by
    intro x0 x1 x3 x4 x6 h ls hl
    unfold g_X8_times_6 at h
    obtain ⟨b, h, ha⟩ := pf_bind h
    exact L6 pfFU x0 x1 x3 x4 x6 b h ha ls hl
  unfold p_X8_times at h
  refine lv_lconst (v := 0) hx hb dX8_times_0 (by decide) ?_
  refine lv_lstore (lv' := [(4, .long (0 : Int64)), (0, .int y0), (1, .long y1), (3, .int y3)]) hx hb dX8_times_1 hl (by decide) rfl (fun ls hl => ?_)
  refine lv_iconst (v := 0) hx hb dX8_times_3 (by decide) ?_
  refine lv_istore (lv' := [(6, .int (0 : Int32)), (4, .long (0 : Int64)), (0, .int y0), (1, .long y1), (3, .int y3)]) hx hb dX8_times_4 hl (by decide) rfl (fun ls hl => ?_)
  exact G6 y0 y1 y3 (0 : Int64) (0 : Int32) h ls (lv_sub hl [2, 3, 4, 1, 0] rfl)
-- X8_with
def e_X8_with_37 (x4 : Int64) : Option Int64 :=
  some x4
def s_X8_with_11 (x0 : Int32) (x1 : Int64) (x3 : Int32) (x4 : Int64) (x6 : Int64) : Option ((Int64 × Int64) ⊕ (Int64)) :=
  (if x6 = x1 then some (Sum.inr x4) else ((p_X8_times x0 x6 x3).bind fun v29 => some (Sum.inl ((x4 ||| x6), v29))))
def a_X8_with_11  (b : Int64) : Option Int64 := (fun q : Int64 => e_X8_with_37 q) b
def g_X8_with_11 (x0 : Int32) (x1 : Int64) (x3 : Int32) (x4 : Int64) (x6 : Int64) : Option Int64 := (lpF (fun q : (Int64 × Int64) => s_X8_with_11 x0 x1 x3 q.1 q.2) pfFU (x4, x6)).bind (a_X8_with_11 )
def p_X8_with (y0 : Int32) (y1 : Int64) (y3 : Int32) : Option Int64 :=
  ((p_X8_times y0 y1 y3).bind fun v6 => g_X8_with_11 y0 y1 y3 y1 v6)
theorem kd_X8_with : yX8_with.cls ≠ "java/lang/invoke/MethodHandle" ∧ yX8_with.cls ≠ "java/lang/invoke/VarHandle" ∧ (parseMethodDescriptor yX8_with.desc).map (fun d => d.parameters.length) = some 3 := by decide +kernel
set_option maxHeartbeats 4000000 in
set_option maxRecDepth 100000 in
theorem c_X8_with (l : Launch) (y0 : Int32) (y1 : Int64) (y3 : Int32) (r : Int64) (h : p_X8_with y0 y1 y3 = some r) : Met l yX8_with wsX8_with { frames := 1, cells := 0, slots := 0, locals := 26 } (fun v _ => v = ([.int y0, .long y1, .int y3] : List Value).toArray) (k2_QcV (.long r)) 0 0 (fun _ => False) := by
  refine Met.ofW (cc := cX8_with) (maxL := 8) (ret := some .long) (by decide) rfl ?_
  intro p e s m args below meth c s₁ B hml hv
  subst hv
  have hx := B.exec
  have hb := B.bytes
  have hr := B.returns
  have hts := atoms_spec (ws := wsX8_with) B.pre
  have hown : s.vm.findClass RX8 = some m.cls := findClass_of_methodNamed B.named
  have hlocks := B.notSynchronized
  have S0 : CallFix p m c cX8_with 8 s ([.int y0, .long y1, .int y3] : List Value).toArray wsX8_with RX8 := ⟨hx, hb, hml, hown, hts⟩
  have hl := lv_entry [.int y0, .long y1, .int y3] (n := 8) (Nat.le_of_ble_eq_true rfl)
  rw [lg_entry_eq]
  generalize (lg_sl [.int y0, .long y1, .int y3] ++ List.replicate (8 - (lg_sl [.int y0, .long y1, .int y3]).length) Slot.unset).toArray = ls at hl ⊢
  have hl : lv_has ls 8 [(0, .int y0), (1, .long y1), (3, .int y3)] := hl
  have K37 : ∀ (x4 : Int64), e_X8_with_37 x4 = some r → ∀ ls, lv_has ls 8 [(4, .long x4)] → W p l e (headSpec wsX8_with { frames := 1, cells := 0, slots := 0, locals := 26 }).room s m ([.int y0, .long y1, .int y3] : List Value).toArray below meth c s.heap [] 0 0 (MQ below (k2_QcV (.long r)) ([.int y0, .long y1, .int y3] : List Value).toArray s 0 0 (fun _ => False)) (F0 m 37 ls []) := by
    intro x4 h ls hl
    unfold e_X8_with_37 at h
    refine lv_lload hx hb dX8_with_37 (lv_at hl 0 rfl) ?_
    exact W.lret hx hb hr (fun t ht _ => ⟨pf_rl h, ht⟩) (fun q hq => absurd hq List.not_mem_nil) dX8_with_39
  have L11 : ∀ (n : Nat) (x0 : Int32) (x1 : Int64) (x3 : Int32) (x4 : Int64) (x6 : Int64) (b : Int64), lpF (fun q : (Int64 × Int64) => s_X8_with_11 x0 x1 x3 q.1 q.2) n (x4, x6) = some b → a_X8_with_11 b = some r → ∀ ls, lv_has ls 8 [(0, .int x0), (1, .long x1), (3, .int x3), (4, .long x4), (6, .long x6)] → W p l e (headSpec wsX8_with { frames := 1, cells := 0, slots := 0, locals := 26 }).room s m ([.int y0, .long y1, .int y3] : List Value).toArray below meth c s.heap [] 0 0 (MQ below (k2_QcV (.long r)) ([.int y0, .long y1, .int y3] : List Value).toArray s 0 0 (fun _ => False)) (F0 m 11 ls []) := by
    intro n
    induction n with
    | zero => intro x0 x1 x3 x4 x6 b h; exact lp_zero h
    | succ n ih =>
      intro x0 x1 x3 x4 x6 b h ha ls hl
      obtain ⟨z11, h, hz⟩ := lp_open h
      have h : s_X8_with_11 x0 x1 x3 x4 x6 = some z11 := h
      unfold s_X8_with_11 at h
      refine lv_lload hx hb dX8_with_11 (lv_at hl 4 rfl) ?_
      refine lv_lload_n hx hb dX8_with_13 rfl (lv_at hl 1 rfl) ?_
      refine W.lcmp hx hb dX8_with_14 ?_
      refine lv_if_eq (tgt := 37) hx hb dX8_with_15 (by decide) (fun c15 => ?_) (fun c15 => ?_)
      · have h := pf_pos h ((lg_cmp_eq _ _).mp c15)
        have ha := pf_aft ha (lp_exit h hz)
        exact K37 x4 ha ls (lv_sub hl [3] rfl)
      · have h := pf_neg h (fun q => c15 ((lg_cmp_eq _ _).mpr q))
        refine lv_lload hx hb dX8_with_18 (lv_at hl 3 rfl) ?_
        refine lv_lload hx hb dX8_with_20 (lv_at hl 4 rfl) ?_
        refine lv_lor hx hb dX8_with_22 ?_
        refine lv_lstore (lv' := [(4, .long (x4 ||| x6)), (0, .int x0), (1, .long x1), (3, .int x3), (6, .long x6)]) hx hb dX8_with_23 hl (by decide) rfl (fun ls hl => ?_)
        refine lv_iload_n hx hb dX8_with_25 rfl (lv_at hl 1 rfl) ?_
        refine lv_lload hx hb dX8_with_26 (lv_at hl 4 rfl) ?_
        refine lv_iload_n hx hb dX8_with_28 rfl (lv_at hl 3 rfl) ?_
        obtain ⟨v29, hv29, h⟩ := pf_bind h
        refine pf_call (As := [.int x0, .long x6, .int x3]) (rest := []) S0 (c_X8_times l x0 x6 x3 v29 hv29) (va_cwS 3 hts gX8_with_X8_times rfl rfl rfl kd_X8_times ⟨Nat.le_of_ble_eq_true rfl, Nat.le_of_ble_eq_true rfl⟩) rfl hl.1 rfl (Nat.le_of_ble_eq_true rfl) dX8_with_29 ⟨Nat.zero_le _, Nat.zero_le _⟩ ?_
        refine lv_lstore (lv' := [(6, .long v29), (4, .long (x4 ||| x6)), (0, .int x0), (1, .long x1), (3, .int x3)]) hx hb dX8_with_32 hl (by decide) rfl (fun ls hl => ?_)
        refine lv_goto (tgt := 11) hx hb dX8_with_34 (by decide) ?_
        exact ih x0 x1 x3 (x4 ||| x6) v29 b (lp_cont h hz) ha ls (lv_sub hl [2, 3, 4, 1, 0] rfl)
  have G11 : ∀ (x0 : Int32) (x1 : Int64) (x3 : Int32) (x4 : Int64) (x6 : Int64), g_X8_with_11 x0 x1 x3 x4 x6 = some r → ∀ ls, lv_has ls 8 [(0, .int x0), (1, .long x1), (3, .int x3), (4, .long x4), (6, .long x6)] → W p l e (headSpec wsX8_with { frames := 1, cells := 0, slots := 0, locals := 26 }).room s m ([.int y0, .long y1, .int y3] : List Value).toArray below meth c s.heap [] 0 0 (MQ below (k2_QcV (.long r)) ([.int y0, .long y1, .int y3] : List Value).toArray s 0 0 (fun _ => False)) (F0 m 11 ls []) := by
    intro x0 x1 x3 x4 x6 h ls hl
    unfold g_X8_with_11 at h
    obtain ⟨b, h, ha⟩ := pf_bind h
    exact L11 pfFU x0 x1 x3 x4 x6 b h ha ls hl
  unfold p_X8_with at h
  refine lv_lload_n hx hb dX8_with_0 rfl (lv_at hl 1 rfl) ?_
  refine lv_lstore (lv' := [(4, .long y1), (0, .int y0), (1, .long y1), (3, .int y3)]) hx hb dX8_with_1 hl (by decide) rfl (fun ls hl => ?_)
  refine lv_iload_n hx hb dX8_with_3 rfl (lv_at hl 1 rfl) ?_
  refine lv_lload_n hx hb dX8_with_4 rfl (lv_at hl 2 rfl) ?_
  refine lv_iload_n hx hb dX8_with_5 rfl (lv_at hl 3 rfl) ?_
  obtain ⟨v6, hv6, h⟩ := pf_bind h
  refine pf_call (As := [.int y0, .long y1, .int y3]) (rest := []) S0 (c_X8_times l y0 y1 y3 v6 hv6) (va_cwS 3 hts gX8_with_X8_times rfl rfl rfl kd_X8_times ⟨Nat.le_of_ble_eq_true rfl, Nat.le_of_ble_eq_true rfl⟩) rfl hl.1 rfl (Nat.le_of_ble_eq_true rfl) dX8_with_6 ⟨Nat.zero_le _, Nat.zero_le _⟩ ?_
  refine lv_lstore (lv' := [(6, .long v6), (4, .long y1), (0, .int y0), (1, .long y1), (3, .int y3)]) hx hb dX8_with_9 hl (by decide) rfl (fun ls hl => ?_)
  exact G11 y0 y1 y3 y1 v6 h ls (lv_sub hl [2, 3, 4, 1, 0] rfl)
-- X8_one
def p_X8_one (y0 : Int32) : Option Int64 :=
  (if y0 = 0 then none else some (jshl (1 : Int64) (jrem (1 : Int32) y0)))
theorem kd_X8_one : yX8_one.cls ≠ "java/lang/invoke/MethodHandle" ∧ yX8_one.cls ≠ "java/lang/invoke/VarHandle" ∧ (parseMethodDescriptor yX8_one.desc).map (fun d => d.parameters.length) = some 1 := by decide +kernel
set_option maxHeartbeats 4000000 in
set_option maxRecDepth 100000 in
theorem c_X8_one (l : Launch) (y0 : Int32) (r : Int64) (h : p_X8_one y0 = some r) : Met l yX8_one wsX8_one { frames := 0, cells := 0, slots := 0, locals := 0 } (fun v _ => v = ([.int y0] : List Value).toArray) (k2_QcV (.long r)) 0 0 (fun _ => False) := by
  refine Met.ofW (cc := cX8_one) (maxL := 1) (ret := some .long) (by decide) rfl ?_
  intro p e s m args below meth c s₁ B hml hv
  subst hv
  have hx := B.exec
  have hb := B.bytes
  have hr := B.returns
  have hts := atoms_spec (ws := wsX8_one) B.pre
  have hown : s.vm.findClass RX8 = some m.cls := findClass_of_methodNamed B.named
  have hlocks := B.notSynchronized
  have S0 : CallFix p m c cX8_one 1 s ([.int y0] : List Value).toArray wsX8_one RX8 := ⟨hx, hb, hml, hown, hts⟩
  have hl := lv_entry [.int y0] (n := 1) (Nat.le_of_ble_eq_true rfl)
  rw [lg_entry_eq]
  generalize (lg_sl [.int y0] ++ List.replicate (1 - (lg_sl [.int y0]).length) Slot.unset).toArray = ls at hl ⊢
  have hl : lv_has ls 1 [(0, .int y0)] := hl
  unfold p_X8_one at h
  refine lv_lconst (v := 1) hx hb dX8_one_0 (by decide) ?_
  refine lv_iconst (v := 1) hx hb dX8_one_1 (by decide) ?_
  refine lv_iload_n hx hb dX8_one_2 rfl (lv_at hl 0 rfl) ?_
  obtain ⟨hd3, h⟩ := pf_guard h
  refine pf_irem hx hb dX8_one_3 hd3 ?_
  refine pf_lshl hx hb dX8_one_4 ?_
  exact W.lret hx hb hr (fun t ht _ => ⟨pf_rl h, ht⟩) (fun q hq => absurd hq List.not_mem_nil) dX8_one_5
-- X8_product
def e_X8_product_39 (x5 : Int64) : Option Int64 :=
  some x5
def s_X8_product_6 (x0 : Int32) (x3 : Int64) (x5 : Int64) (x7 : Int32) : Option ((Int64 × Int32) ⊕ (Int64)) :=
  (if x0 ≤ x7 then some (Sum.inr x5) else (if ((jshr x3 x7) &&& (1 : Int64)) = (1 : Int64) then ((p_X8_with x0 x5 x7).bind fun v28 => some (Sum.inl (v28, (x7 + (1 : Int32))))) else some (Sum.inl (x5, (x7 + (1 : Int32))))))
def a_X8_product_6  (b : Int64) : Option Int64 := (fun q : Int64 => e_X8_product_39 q) b
def g_X8_product_6 (x0 : Int32) (x3 : Int64) (x5 : Int64) (x7 : Int32) : Option Int64 := (lpF (fun q : (Int64 × Int32) => s_X8_product_6 x0 x3 q.1 q.2) pfFU (x5, x7)).bind (a_X8_product_6 )
def p_X8_product (y0 : Int32) (y1 : Int64) (y3 : Int64) : Option Int64 :=
  g_X8_product_6 y0 y3 y1 (0 : Int32)
theorem kd_X8_product : yX8_product.cls ≠ "java/lang/invoke/MethodHandle" ∧ yX8_product.cls ≠ "java/lang/invoke/VarHandle" ∧ (parseMethodDescriptor yX8_product.desc).map (fun d => d.parameters.length) = some 3 := by decide +kernel
set_option maxHeartbeats 4000000 in
set_option maxRecDepth 100000 in
theorem c_X8_product (l : Launch) (y0 : Int32) (y1 : Int64) (y3 : Int64) (r : Int64) (h : p_X8_product y0 y1 y3 = some r) : Met l yX8_product wsX8_product { frames := 2, cells := 0, slots := 0, locals := 53 } (fun v _ => v = ([.int y0, .long y1, .long y3] : List Value).toArray) (k2_QcV (.long r)) 0 0 (fun _ => False) := by
  refine Met.ofW (cc := cX8_product) (maxL := 8) (ret := some .long) (by decide) rfl ?_
  intro p e s m args below meth c s₁ B hml hv
  subst hv
  have hx := B.exec
  have hb := B.bytes
  have hr := B.returns
  have hts := atoms_spec (ws := wsX8_product) B.pre
  have hown : s.vm.findClass RX8 = some m.cls := findClass_of_methodNamed B.named
  have hlocks := B.notSynchronized
  have S0 : CallFix p m c cX8_product 8 s ([.int y0, .long y1, .long y3] : List Value).toArray wsX8_product RX8 := ⟨hx, hb, hml, hown, hts⟩
  have hl := lv_entry [.int y0, .long y1, .long y3] (n := 8) (Nat.le_of_ble_eq_true rfl)
  rw [lg_entry_eq]
  generalize (lg_sl [.int y0, .long y1, .long y3] ++ List.replicate (8 - (lg_sl [.int y0, .long y1, .long y3]).length) Slot.unset).toArray = ls at hl ⊢
  have hl : lv_has ls 8 [(0, .int y0), (1, .long y1), (3, .long y3)] := hl
  have K39 : ∀ (x5 : Int64), e_X8_product_39 x5 = some r → ∀ ls, lv_has ls 8 [(5, .long x5)] → W p l e (headSpec wsX8_product { frames := 2, cells := 0, slots := 0, locals := 53 }).room s m ([.int y0, .long y1, .long y3] : List Value).toArray below meth c s.heap [] 0 0 (MQ below (k2_QcV (.long r)) ([.int y0, .long y1, .long y3] : List Value).toArray s 0 0 (fun _ => False)) (F0 m 39 ls []) := by
    intro x5 h ls hl
    unfold e_X8_product_39 at h
    refine lv_lload hx hb dX8_product_39 (lv_at hl 0 rfl) ?_
    exact W.lret hx hb hr (fun t ht _ => ⟨pf_rl h, ht⟩) (fun q hq => absurd hq List.not_mem_nil) dX8_product_41
  have L6 : ∀ (n : Nat) (x0 : Int32) (x3 : Int64) (x5 : Int64) (x7 : Int32) (b : Int64), lpF (fun q : (Int64 × Int32) => s_X8_product_6 x0 x3 q.1 q.2) n (x5, x7) = some b → a_X8_product_6 b = some r → ∀ ls, lv_has ls 8 [(0, .int x0), (3, .long x3), (5, .long x5), (7, .int x7)] → W p l e (headSpec wsX8_product { frames := 2, cells := 0, slots := 0, locals := 53 }).room s m ([.int y0, .long y1, .long y3] : List Value).toArray below meth c s.heap [] 0 0 (MQ below (k2_QcV (.long r)) ([.int y0, .long y1, .long y3] : List Value).toArray s 0 0 (fun _ => False)) (F0 m 6 ls []) := by
    intro n
    induction n with
    | zero => intro x0 x3 x5 x7 b h; exact lp_zero h
    | succ n ih =>
      intro x0 x3 x5 x7 b h ha ls hl
      obtain ⟨z6, h, hz⟩ := lp_open h
      have h : s_X8_product_6 x0 x3 x5 x7 = some z6 := h
      unfold s_X8_product_6 at h
      refine lv_iload hx hb dX8_product_6 (lv_at hl 3 rfl) ?_
      refine lv_iload_n hx hb dX8_product_8 rfl (lv_at hl 0 rfl) ?_
      refine lv_icmp_ge (tgt := 39) hx hb dX8_product_9 (by decide) (fun c9 => ?_) (fun c9 => ?_)
      · have h := pf_pos h c9
        have ha := pf_aft ha (lp_exit h hz)
        exact K39 x5 ha ls (lv_sub hl [2] rfl)
      · have h := pf_neg h c9
        refine lv_lload_n hx hb dX8_product_12 rfl (lv_at hl 1 rfl) ?_
        refine lv_iload hx hb dX8_product_13 (lv_at hl 3 rfl) ?_
        refine pf_lshr hx hb dX8_product_15 ?_
        refine lv_lconst (v := 1) hx hb dX8_product_16 (by decide) ?_
        refine lv_land hx hb dX8_product_17 ?_
        refine lv_lconst (v := 1) hx hb dX8_product_18 (by decide) ?_
        refine W.lcmp hx hb dX8_product_19 ?_
        refine lv_if_ne (tgt := 33) hx hb dX8_product_20 (by decide) (fun c20 => ?_) (fun c20 => ?_)
        · have h := pf_neg h (fun q => c20 ((lg_cmp_eq _ _).mpr q))
          refine lv_iinc (v := (x7 + (1 : Int32))) (lv' := [(7, .int (x7 + (1 : Int32))), (0, .int x0), (3, .long x3), (5, .long x5)]) hx hb dX8_product_33 hl (k := 3) rfl rfl (by decide) rfl (fun ls hl => ?_)
          refine lv_goto (tgt := 6) hx hb dX8_product_36 (by decide) ?_
          exact ih x0 x3 x5 (x7 + (1 : Int32)) b (lp_cont h hz) ha ls (lv_sub hl [1, 2, 3, 0] rfl)
        · have h := pf_pos h ((lg_cmp_eq _ _).mp c20)
          refine lv_iload_n hx hb dX8_product_23 rfl (lv_at hl 0 rfl) ?_
          refine lv_lload hx hb dX8_product_24 (lv_at hl 2 rfl) ?_
          refine lv_iload hx hb dX8_product_26 (lv_at hl 3 rfl) ?_
          obtain ⟨v28, hv28, h⟩ := pf_bind h
          refine pf_call (As := [.int x0, .long x5, .int x7]) (rest := []) S0 (c_X8_with l x0 x5 x7 v28 hv28) (va_cwS 3 hts gX8_product_X8_with rfl rfl rfl kd_X8_with ⟨Nat.le_of_ble_eq_true rfl, Nat.le_of_ble_eq_true rfl⟩) rfl hl.1 rfl (Nat.le_of_ble_eq_true rfl) dX8_product_28 ⟨Nat.zero_le _, Nat.zero_le _⟩ ?_
          refine lv_lstore (lv' := [(5, .long v28), (0, .int x0), (3, .long x3), (7, .int x7)]) hx hb dX8_product_31 hl (by decide) rfl (fun ls hl => ?_)
          refine lv_iinc (v := (x7 + (1 : Int32))) (lv' := [(7, .int (x7 + (1 : Int32))), (5, .long v28), (0, .int x0), (3, .long x3)]) hx hb dX8_product_33 hl (k := 3) rfl rfl (by decide) rfl (fun ls hl => ?_)
          refine lv_goto (tgt := 6) hx hb dX8_product_36 (by decide) ?_
          exact ih x0 x3 v28 (x7 + (1 : Int32)) b (lp_cont h hz) ha ls (lv_sub hl [2, 3, 1, 0] rfl)
  have G6 : ∀ (x0 : Int32) (x3 : Int64) (x5 : Int64) (x7 : Int32), g_X8_product_6 x0 x3 x5 x7 = some r → ∀ ls, lv_has ls 8 [(0, .int x0), (3, .long x3), (5, .long x5), (7, .int x7)] → W p l e (headSpec wsX8_product { frames := 2, cells := 0, slots := 0, locals := 53 }).room s m ([.int y0, .long y1, .long y3] : List Value).toArray below meth c s.heap [] 0 0 (MQ below (k2_QcV (.long r)) ([.int y0, .long y1, .long y3] : List Value).toArray s 0 0 (fun _ => False)) (F0 m 6 ls []) := by
    intro x0 x3 x5 x7 h ls hl
    unfold g_X8_product_6 at h
    obtain ⟨b, h, ha⟩ := pf_bind h
    exact L6 pfFU x0 x3 x5 x7 b h ha ls hl
  unfold p_X8_product at h
  refine lv_lload_n hx hb dX8_product_0 rfl (lv_at hl 1 rfl) ?_
  refine lv_lstore (lv' := [(5, .long y1), (0, .int y0), (1, .long y1), (3, .long y3)]) hx hb dX8_product_1 hl (by decide) rfl (fun ls hl => ?_)
  refine lv_iconst (v := 0) hx hb dX8_product_3 (by decide) ?_
  refine lv_istore (lv' := [(7, .int (0 : Int32)), (5, .long y1), (0, .int y0), (1, .long y1), (3, .long y3)]) hx hb dX8_product_4 hl (by decide) rfl (fun ls hl => ?_)
  exact G6 y0 y3 y1 (0 : Int32) h ls (lv_sub hl [2, 4, 1, 0] rfl)
-- X8_onesBy
def e_X8_onesBy_43 (x2 : Int64) : Option Int64 :=
  some x2
def s_X8_onesBy_5 (x0 : Int32) (x1 : Int32) (x2 : Int64) (x4 : Int32) : Option ((Int64 × Int32) ⊕ (Int64)) :=
  (if x0 ≤ x4 then some (Sum.inr x2) else ((p_X8_isRest x0 x4).bind fun v14 => (if v14 = 0 then some (Sum.inl (x2, (x4 + (1 : Int32)))) else (if x1 = 0 then none else (if x1 = 0 then none else (if (jrem x4 x1) = (jrem (1 : Int32) x1) then some (Sum.inl ((x2 ||| (jshl (1 : Int64) x4)), (x4 + (1 : Int32)))) else some (Sum.inl (x2, (x4 + (1 : Int32))))))))))
def a_X8_onesBy_5  (b : Int64) : Option Int64 := (fun q : Int64 => e_X8_onesBy_43 q) b
def g_X8_onesBy_5 (x0 : Int32) (x1 : Int32) (x2 : Int64) (x4 : Int32) : Option Int64 := (lpF (fun q : (Int64 × Int32) => s_X8_onesBy_5 x0 x1 q.1 q.2) pfFU (x2, x4)).bind (a_X8_onesBy_5 )
def p_X8_onesBy (y0 : Int32) (y1 : Int32) : Option Int64 :=
  g_X8_onesBy_5 y0 y1 (0 : Int64) (0 : Int32)
theorem kd_X8_onesBy : yX8_onesBy.cls ≠ "java/lang/invoke/MethodHandle" ∧ yX8_onesBy.cls ≠ "java/lang/invoke/VarHandle" ∧ (parseMethodDescriptor yX8_onesBy.desc).map (fun d => d.parameters.length) = some 2 := by decide +kernel
set_option maxHeartbeats 4000000 in
set_option maxRecDepth 100000 in
theorem c_X8_onesBy (l : Launch) (y0 : Int32) (y1 : Int32) (r : Int64) (h : p_X8_onesBy y0 y1 = some r) : Met l yX8_onesBy wsX8_onesBy { frames := 2, cells := 0, slots := 0, locals := 45 } (fun v _ => v = ([.int y0, .int y1] : List Value).toArray) (k2_QcV (.long r)) 0 0 (fun _ => False) := by
  refine Met.ofW (cc := cX8_onesBy) (maxL := 5) (ret := some .long) (by decide) rfl ?_
  intro p e s m args below meth c s₁ B hml hv
  subst hv
  have hx := B.exec
  have hb := B.bytes
  have hr := B.returns
  have hts := atoms_spec (ws := wsX8_onesBy) B.pre
  have hown : s.vm.findClass RX8 = some m.cls := findClass_of_methodNamed B.named
  have hlocks := B.notSynchronized
  have S0 : CallFix p m c cX8_onesBy 5 s ([.int y0, .int y1] : List Value).toArray wsX8_onesBy RX8 := ⟨hx, hb, hml, hown, hts⟩
  have hl := lv_entry [.int y0, .int y1] (n := 5) (Nat.le_of_ble_eq_true rfl)
  rw [lg_entry_eq]
  generalize (lg_sl [.int y0, .int y1] ++ List.replicate (5 - (lg_sl [.int y0, .int y1]).length) Slot.unset).toArray = ls at hl ⊢
  have hl : lv_has ls 5 [(0, .int y0), (1, .int y1)] := hl
  have K43 : ∀ (x2 : Int64), e_X8_onesBy_43 x2 = some r → ∀ ls, lv_has ls 5 [(2, .long x2)] → W p l e (headSpec wsX8_onesBy { frames := 2, cells := 0, slots := 0, locals := 45 }).room s m ([.int y0, .int y1] : List Value).toArray below meth c s.heap [] 0 0 (MQ below (k2_QcV (.long r)) ([.int y0, .int y1] : List Value).toArray s 0 0 (fun _ => False)) (F0 m 43 ls []) := by
    intro x2 h ls hl
    unfold e_X8_onesBy_43 at h
    refine lv_lload_n hx hb dX8_onesBy_43 rfl (lv_at hl 0 rfl) ?_
    exact W.lret hx hb hr (fun t ht _ => ⟨pf_rl h, ht⟩) (fun q hq => absurd hq List.not_mem_nil) dX8_onesBy_44
  have L5 : ∀ (n : Nat) (x0 : Int32) (x1 : Int32) (x2 : Int64) (x4 : Int32) (b : Int64), lpF (fun q : (Int64 × Int32) => s_X8_onesBy_5 x0 x1 q.1 q.2) n (x2, x4) = some b → a_X8_onesBy_5 b = some r → ∀ ls, lv_has ls 5 [(0, .int x0), (1, .int x1), (2, .long x2), (4, .int x4)] → W p l e (headSpec wsX8_onesBy { frames := 2, cells := 0, slots := 0, locals := 45 }).room s m ([.int y0, .int y1] : List Value).toArray below meth c s.heap [] 0 0 (MQ below (k2_QcV (.long r)) ([.int y0, .int y1] : List Value).toArray s 0 0 (fun _ => False)) (F0 m 5 ls []) := by
    intro n
    induction n with
    | zero => intro x0 x1 x2 x4 b h; exact lp_zero h
    | succ n ih =>
      intro x0 x1 x2 x4 b h ha ls hl
      obtain ⟨z5, h, hz⟩ := lp_open h
      have h : s_X8_onesBy_5 x0 x1 x2 x4 = some z5 := h
      unfold s_X8_onesBy_5 at h
      refine lv_iload hx hb dX8_onesBy_5 (lv_at hl 3 rfl) ?_
      refine lv_iload_n hx hb dX8_onesBy_7 rfl (lv_at hl 0 rfl) ?_
      refine lv_icmp_ge (tgt := 43) hx hb dX8_onesBy_8 (by decide) (fun c8 => ?_) (fun c8 => ?_)
      · have h := pf_pos h c8
        have ha := pf_aft ha (lp_exit h hz)
        exact K43 x2 ha ls (lv_sub hl [2] rfl)
      · have h := pf_neg h c8
        refine lv_iload_n hx hb dX8_onesBy_11 rfl (lv_at hl 0 rfl) ?_
        refine lv_iload hx hb dX8_onesBy_12 (lv_at hl 3 rfl) ?_
        obtain ⟨v14, hv14, h⟩ := pf_bind h
        refine pf_call (As := [.int x0, .int x4]) (rest := []) S0 (c_X8_isRest l x0 x4 v14 hv14) (va_cwS 2 hts gX8_onesBy_X8_isRest rfl rfl rfl kd_X8_isRest ⟨Nat.le_of_ble_eq_true rfl, Nat.le_of_ble_eq_true rfl⟩) rfl hl.1 rfl (Nat.le_of_ble_eq_true rfl) dX8_onesBy_14 ⟨Nat.zero_le _, Nat.zero_le _⟩ ?_
        refine lv_if_eq (tgt := 37) hx hb dX8_onesBy_17 (by decide) (fun c17 => ?_) (fun c17 => ?_)
        · have h := pf_pos h c17
          refine lv_iinc (v := (x4 + (1 : Int32))) (lv' := [(4, .int (x4 + (1 : Int32))), (0, .int x0), (1, .int x1), (2, .long x2)]) hx hb dX8_onesBy_37 hl (k := 3) rfl rfl (by decide) rfl (fun ls hl => ?_)
          refine lv_goto (tgt := 5) hx hb dX8_onesBy_40 (by decide) ?_
          exact ih x0 x1 x2 (x4 + (1 : Int32)) b (lp_cont h hz) ha ls (lv_sub hl [1, 2, 3, 0] rfl)
        · have h := pf_neg h c17
          refine lv_iload hx hb dX8_onesBy_20 (lv_at hl 3 rfl) ?_
          refine lv_iload_n hx hb dX8_onesBy_22 rfl (lv_at hl 1 rfl) ?_
          obtain ⟨hd23, h⟩ := pf_guard h
          refine pf_irem hx hb dX8_onesBy_23 hd23 ?_
          refine lv_iconst (v := 1) hx hb dX8_onesBy_24 (by decide) ?_
          refine lv_iload_n hx hb dX8_onesBy_25 rfl (lv_at hl 1 rfl) ?_
          obtain ⟨hd26, h⟩ := pf_guard h
          refine pf_irem hx hb dX8_onesBy_26 hd26 ?_
          refine lv_icmp_ne (tgt := 37) hx hb dX8_onesBy_27 (by decide) (fun c27 => ?_) (fun c27 => ?_)
          · have h := pf_neg h c27
            refine lv_iinc (v := (x4 + (1 : Int32))) (lv' := [(4, .int (x4 + (1 : Int32))), (0, .int x0), (1, .int x1), (2, .long x2)]) hx hb dX8_onesBy_37 hl (k := 3) rfl rfl (by decide) rfl (fun ls hl => ?_)
            refine lv_goto (tgt := 5) hx hb dX8_onesBy_40 (by decide) ?_
            exact ih x0 x1 x2 (x4 + (1 : Int32)) b (lp_cont h hz) ha ls (lv_sub hl [1, 2, 3, 0] rfl)
          · have h := pf_pos h c27
            refine lv_lload_n hx hb dX8_onesBy_30 rfl (lv_at hl 2 rfl) ?_
            refine lv_lconst (v := 1) hx hb dX8_onesBy_31 (by decide) ?_
            refine lv_iload hx hb dX8_onesBy_32 (lv_at hl 3 rfl) ?_
            refine pf_lshl hx hb dX8_onesBy_34 ?_
            refine lv_lor hx hb dX8_onesBy_35 ?_
            refine lv_lstore_n (lv' := [(2, .long (x2 ||| (jshl (1 : Int64) x4))), (0, .int x0), (1, .int x1), (4, .int x4)]) hx hb dX8_onesBy_36 rfl hl (by decide) rfl (fun ls hl => ?_)
            refine lv_iinc (v := (x4 + (1 : Int32))) (lv' := [(4, .int (x4 + (1 : Int32))), (2, .long (x2 ||| (jshl (1 : Int64) x4))), (0, .int x0), (1, .int x1)]) hx hb dX8_onesBy_37 hl (k := 3) rfl rfl (by decide) rfl (fun ls hl => ?_)
            refine lv_goto (tgt := 5) hx hb dX8_onesBy_40 (by decide) ?_
            exact ih x0 x1 (x2 ||| (jshl (1 : Int64) x4)) (x4 + (1 : Int32)) b (lp_cont h hz) ha ls (lv_sub hl [2, 3, 1, 0] rfl)
  have G5 : ∀ (x0 : Int32) (x1 : Int32) (x2 : Int64) (x4 : Int32), g_X8_onesBy_5 x0 x1 x2 x4 = some r → ∀ ls, lv_has ls 5 [(0, .int x0), (1, .int x1), (2, .long x2), (4, .int x4)] → W p l e (headSpec wsX8_onesBy { frames := 2, cells := 0, slots := 0, locals := 45 }).room s m ([.int y0, .int y1] : List Value).toArray below meth c s.heap [] 0 0 (MQ below (k2_QcV (.long r)) ([.int y0, .int y1] : List Value).toArray s 0 0 (fun _ => False)) (F0 m 5 ls []) := by
    intro x0 x1 x2 x4 h ls hl
    unfold g_X8_onesBy_5 at h
    obtain ⟨b, h, ha⟩ := pf_bind h
    exact L5 pfFU x0 x1 x2 x4 b h ha ls hl
  unfold p_X8_onesBy at h
  refine lv_lconst (v := 0) hx hb dX8_onesBy_0 (by decide) ?_
  refine lv_lstore_n (lv' := [(2, .long (0 : Int64)), (0, .int y0), (1, .int y1)]) hx hb dX8_onesBy_1 rfl hl (by decide) rfl (fun ls hl => ?_)
  refine lv_iconst (v := 0) hx hb dX8_onesBy_2 (by decide) ?_
  refine lv_istore (lv' := [(4, .int (0 : Int32)), (2, .long (0 : Int64)), (0, .int y0), (1, .int y1)]) hx hb dX8_onesBy_3 hl (by decide) rfl (fun ls hl => ?_)
  exact G5 y0 y1 (0 : Int64) (0 : Int32) h ls (lv_sub hl [2, 3, 1, 0] rfl)
-- X8_barOf
def e_X8_barOf_41 (x0 : Int32) : Option Int32 :=
  some x0
def e_X8_barOf_33 (x3 : Int32) : Option Int32 :=
  some x3
def s_X8_barOf_2 (x0 : Int32) (x1 : Int64) (x3 : Int32) : Option (Int32 ⊕ (Int32 ⊕ Unit)) :=
  (if x0 ≤ x3 then some (Sum.inr (Sum.inr ())) else (if x3 = 0 then none else (if (jrem x0 x3) = 0 then ((p_X8_onesBy x0 x3).bind fun v18 => (if (v18 &&& x1) = v18 then some (Sum.inr (Sum.inl x3)) else some (Sum.inl (x3 + (1 : Int32))))) else some (Sum.inl (x3 + (1 : Int32))))))
def a_X8_barOf_2 (x0 : Int32) (b : Int32 ⊕ Unit) : Option Int32 := Sum.elim (fun q : Int32 => e_X8_barOf_33 q) (fun q : Unit => e_X8_barOf_41 x0) b
def g_X8_barOf_2 (x0 : Int32) (x1 : Int64) (x3 : Int32) : Option Int32 := (lpF (fun q : Int32 => s_X8_barOf_2 x0 x1 q) pfFU x3).bind (a_X8_barOf_2 x0)
def p_X8_barOf (y0 : Int32) (y1 : Int64) : Option Int32 :=
  g_X8_barOf_2 y0 y1 (1 : Int32)
theorem kd_X8_barOf : yX8_barOf.cls ≠ "java/lang/invoke/MethodHandle" ∧ yX8_barOf.cls ≠ "java/lang/invoke/VarHandle" ∧ (parseMethodDescriptor yX8_barOf.desc).map (fun d => d.parameters.length) = some 2 := by decide +kernel
set_option maxHeartbeats 4000000 in
set_option maxRecDepth 100000 in
theorem c_X8_barOf (l : Launch) (y0 : Int32) (y1 : Int64) (r : Int32) (h : p_X8_barOf y0 y1 = some r) : Met l yX8_barOf wsX8_barOf { frames := 3, cells := 0, slots := 0, locals := 69 } (fun v _ => v = ([.int y0, .long y1] : List Value).toArray) (k2_QcV (.int r)) 0 0 (fun _ => False) := by
  refine Met.ofW (cc := cX8_barOf) (maxL := 6) (ret := some .int) (by decide) rfl ?_
  intro p e s m args below meth c s₁ B hml hv
  subst hv
  have hx := B.exec
  have hb := B.bytes
  have hr := B.returns
  have hts := atoms_spec (ws := wsX8_barOf) B.pre
  have hown : s.vm.findClass RX8 = some m.cls := findClass_of_methodNamed B.named
  have hlocks := B.notSynchronized
  have S0 : CallFix p m c cX8_barOf 6 s ([.int y0, .long y1] : List Value).toArray wsX8_barOf RX8 := ⟨hx, hb, hml, hown, hts⟩
  have hl := lv_entry [.int y0, .long y1] (n := 6) (Nat.le_of_ble_eq_true rfl)
  rw [lg_entry_eq]
  generalize (lg_sl [.int y0, .long y1] ++ List.replicate (6 - (lg_sl [.int y0, .long y1]).length) Slot.unset).toArray = ls at hl ⊢
  have hl : lv_has ls 6 [(0, .int y0), (1, .long y1)] := hl
  have K41 : ∀ (x0 : Int32), e_X8_barOf_41 x0 = some r → ∀ ls, lv_has ls 6 [(0, .int x0)] → W p l e (headSpec wsX8_barOf { frames := 3, cells := 0, slots := 0, locals := 69 }).room s m ([.int y0, .long y1] : List Value).toArray below meth c s.heap [] 0 0 (MQ below (k2_QcV (.int r)) ([.int y0, .long y1] : List Value).toArray s 0 0 (fun _ => False)) (F0 m 41 ls []) := by
    intro x0 h ls hl
    unfold e_X8_barOf_41 at h
    refine lv_iload_n hx hb dX8_barOf_41 rfl (lv_at hl 0 rfl) ?_
    exact W.iret hx hb hr (fun t ht _ => ⟨pf_ri h, ht⟩) (fun q hq => absurd hq List.not_mem_nil) dX8_barOf_42
  have K33 : ∀ (x3 : Int32), e_X8_barOf_33 x3 = some r → ∀ ls, lv_has ls 6 [(3, .int x3)] → W p l e (headSpec wsX8_barOf { frames := 3, cells := 0, slots := 0, locals := 69 }).room s m ([.int y0, .long y1] : List Value).toArray below meth c s.heap [] 0 0 (MQ below (k2_QcV (.int r)) ([.int y0, .long y1] : List Value).toArray s 0 0 (fun _ => False)) (F0 m 33 ls []) := by
    intro x3 h ls hl
    unfold e_X8_barOf_33 at h
    refine lv_iload_n hx hb dX8_barOf_33 rfl (lv_at hl 0 rfl) ?_
    exact W.iret hx hb hr (fun t ht _ => ⟨pf_ri h, ht⟩) (fun q hq => absurd hq List.not_mem_nil) dX8_barOf_34
  have L2 : ∀ (n : Nat) (x0 : Int32) (x1 : Int64) (x3 : Int32) (b : Int32 ⊕ Unit), lpF (fun q : Int32 => s_X8_barOf_2 x0 x1 q) n x3 = some b → a_X8_barOf_2 x0 b = some r → ∀ ls, lv_has ls 6 [(0, .int x0), (1, .long x1), (3, .int x3)] → W p l e (headSpec wsX8_barOf { frames := 3, cells := 0, slots := 0, locals := 69 }).room s m ([.int y0, .long y1] : List Value).toArray below meth c s.heap [] 0 0 (MQ below (k2_QcV (.int r)) ([.int y0, .long y1] : List Value).toArray s 0 0 (fun _ => False)) (F0 m 2 ls []) := by
    intro n
    induction n with
    | zero => intro x0 x1 x3 b h; exact lp_zero h
    | succ n ih =>
      intro x0 x1 x3 b h ha ls hl
      obtain ⟨z2, h, hz⟩ := lp_open h
      have h : s_X8_barOf_2 x0 x1 x3 = some z2 := h
      unfold s_X8_barOf_2 at h
      refine lv_iload_n hx hb dX8_barOf_2 rfl (lv_at hl 2 rfl) ?_
      refine lv_iload_n hx hb dX8_barOf_3 rfl (lv_at hl 0 rfl) ?_
      refine lv_icmp_ge (tgt := 41) hx hb dX8_barOf_4 (by decide) (fun c4 => ?_) (fun c4 => ?_)
      · have h := pf_pos h c4
        have ha := pf_aft ha (lp_exit h hz)
        exact K41 x0 ha ls (lv_sub hl [0] rfl)
      · have h := pf_neg h c4
        refine lv_iload_n hx hb dX8_barOf_7 rfl (lv_at hl 0 rfl) ?_
        refine lv_iload_n hx hb dX8_barOf_8 rfl (lv_at hl 2 rfl) ?_
        obtain ⟨hd9, h⟩ := pf_guard h
        refine pf_irem hx hb dX8_barOf_9 hd9 ?_
        refine lv_if_eq (tgt := 16) hx hb dX8_barOf_10 (by decide) (fun c10 => ?_) (fun c10 => ?_)
        · have h := pf_pos h c10
          refine lv_iload_n hx hb dX8_barOf_16 rfl (lv_at hl 0 rfl) ?_
          refine lv_iload_n hx hb dX8_barOf_17 rfl (lv_at hl 2 rfl) ?_
          obtain ⟨v18, hv18, h⟩ := pf_bind h
          refine pf_call (As := [.int x0, .int x3]) (rest := []) S0 (c_X8_onesBy l x0 x3 v18 hv18) (va_cwS 2 hts gX8_barOf_X8_onesBy rfl rfl rfl kd_X8_onesBy ⟨Nat.le_of_ble_eq_true rfl, Nat.le_of_ble_eq_true rfl⟩) rfl hl.1 rfl (Nat.le_of_ble_eq_true rfl) dX8_barOf_18 ⟨Nat.zero_le _, Nat.zero_le _⟩ ?_
          refine lv_lstore (lv' := [(4, .long v18), (0, .int x0), (1, .long x1), (3, .int x3)]) hx hb dX8_barOf_21 hl (by decide) rfl (fun ls hl => ?_)
          refine lv_lload hx hb dX8_barOf_23 (lv_at hl 0 rfl) ?_
          refine lv_lload_n hx hb dX8_barOf_25 rfl (lv_at hl 2 rfl) ?_
          refine lv_land hx hb dX8_barOf_26 ?_
          refine lv_lload hx hb dX8_barOf_27 (lv_at hl 0 rfl) ?_
          refine W.lcmp hx hb dX8_barOf_29 ?_
          refine lv_if_ne (tgt := 35) hx hb dX8_barOf_30 (by decide) (fun c30 => ?_) (fun c30 => ?_)
          · have h := pf_neg h (fun q => c30 ((lg_cmp_eq _ _).mpr q))
            refine lv_iinc (v := (x3 + (1 : Int32))) (lv' := [(3, .int (x3 + (1 : Int32))), (4, .long v18), (0, .int x0), (1, .long x1)]) hx hb dX8_barOf_35 hl (k := 3) rfl rfl (by decide) rfl (fun ls hl => ?_)
            refine lv_goto (tgt := 2) hx hb dX8_barOf_38 (by decide) ?_
            exact ih x0 x1 (x3 + (1 : Int32)) b (lp_cont h hz) ha ls (lv_sub hl [2, 3, 0] rfl)
          · have h := pf_pos h ((lg_cmp_eq _ _).mp c30)
            have ha := pf_aft ha (lp_exit h hz)
            exact K33 x3 ha ls (lv_sub hl [3] rfl)
        · have h := pf_neg h c10
          refine lv_goto (tgt := 35) hx hb dX8_barOf_13 (by decide) ?_
          refine lv_iinc (v := (x3 + (1 : Int32))) (lv' := [(3, .int (x3 + (1 : Int32))), (0, .int x0), (1, .long x1)]) hx hb dX8_barOf_35 hl (k := 2) rfl rfl (by decide) rfl (fun ls hl => ?_)
          refine lv_goto (tgt := 2) hx hb dX8_barOf_38 (by decide) ?_
          exact ih x0 x1 (x3 + (1 : Int32)) b (lp_cont h hz) ha ls (lv_sub hl [1, 2, 0] rfl)
  have G2 : ∀ (x0 : Int32) (x1 : Int64) (x3 : Int32), g_X8_barOf_2 x0 x1 x3 = some r → ∀ ls, lv_has ls 6 [(0, .int x0), (1, .long x1), (3, .int x3)] → W p l e (headSpec wsX8_barOf { frames := 3, cells := 0, slots := 0, locals := 69 }).room s m ([.int y0, .long y1] : List Value).toArray below meth c s.heap [] 0 0 (MQ below (k2_QcV (.int r)) ([.int y0, .long y1] : List Value).toArray s 0 0 (fun _ => False)) (F0 m 2 ls []) := by
    intro x0 x1 x3 h ls hl
    unfold g_X8_barOf_2 at h
    obtain ⟨b, h, ha⟩ := pf_bind h
    exact L2 pfFU x0 x1 x3 b h ha ls hl
  unfold p_X8_barOf at h
  refine lv_iconst (v := 1) hx hb dX8_barOf_0 (by decide) ?_
  refine lv_istore_n (lv' := [(3, .int (1 : Int32)), (0, .int y0), (1, .long y1)]) hx hb dX8_barOf_1 rfl hl (by decide) rfl (fun ls hl => ?_)
  exact G2 y0 y1 (1 : Int32) h ls (lv_sub hl [1, 2, 0] rfl)
-- X8_down
def e_X8_down_40 (x4 : Int64) : Option Int64 :=
  some x4
def s_X8_down_6 (x0 : Int32) (x1 : Int64) (x3 : Int32) (x4 : Int64) (x6 : Int32) : Option ((Int64 × Int32) ⊕ (Int64)) :=
  (if x0 ≤ x6 then some (Sum.inr x4) else (if ((jshr x1 x6) &&& (1 : Int64)) = (1 : Int64) then (if x3 = 0 then none else some (Sum.inl ((x4 ||| (jshl (1 : Int64) (jrem x6 x3))), (x6 + (1 : Int32))))) else some (Sum.inl (x4, (x6 + (1 : Int32))))))
def a_X8_down_6  (b : Int64) : Option Int64 := (fun q : Int64 => e_X8_down_40 q) b
def g_X8_down_6 (x0 : Int32) (x1 : Int64) (x3 : Int32) (x4 : Int64) (x6 : Int32) : Option Int64 := (lpF (fun q : (Int64 × Int32) => s_X8_down_6 x0 x1 x3 q.1 q.2) pfFU (x4, x6)).bind (a_X8_down_6 )
def p_X8_down (y0 : Int32) (y1 : Int64) (y3 : Int32) : Option Int64 :=
  g_X8_down_6 y0 y1 y3 (0 : Int64) (0 : Int32)
theorem kd_X8_down : yX8_down.cls ≠ "java/lang/invoke/MethodHandle" ∧ yX8_down.cls ≠ "java/lang/invoke/VarHandle" ∧ (parseMethodDescriptor yX8_down.desc).map (fun d => d.parameters.length) = some 3 := by decide +kernel
set_option maxHeartbeats 4000000 in
set_option maxRecDepth 100000 in
theorem c_X8_down (l : Launch) (y0 : Int32) (y1 : Int64) (y3 : Int32) (r : Int64) (h : p_X8_down y0 y1 y3 = some r) : Met l yX8_down wsX8_down { frames := 0, cells := 0, slots := 0, locals := 0 } (fun v _ => v = ([.int y0, .long y1, .int y3] : List Value).toArray) (k2_QcV (.long r)) 0 0 (fun _ => False) := by
  refine Met.ofW (cc := cX8_down) (maxL := 7) (ret := some .long) (by decide) rfl ?_
  intro p e s m args below meth c s₁ B hml hv
  subst hv
  have hx := B.exec
  have hb := B.bytes
  have hr := B.returns
  have hts := atoms_spec (ws := wsX8_down) B.pre
  have hown : s.vm.findClass RX8 = some m.cls := findClass_of_methodNamed B.named
  have hlocks := B.notSynchronized
  have S0 : CallFix p m c cX8_down 7 s ([.int y0, .long y1, .int y3] : List Value).toArray wsX8_down RX8 := ⟨hx, hb, hml, hown, hts⟩
  have hl := lv_entry [.int y0, .long y1, .int y3] (n := 7) (Nat.le_of_ble_eq_true rfl)
  rw [lg_entry_eq]
  generalize (lg_sl [.int y0, .long y1, .int y3] ++ List.replicate (7 - (lg_sl [.int y0, .long y1, .int y3]).length) Slot.unset).toArray = ls at hl ⊢
  have hl : lv_has ls 7 [(0, .int y0), (1, .long y1), (3, .int y3)] := hl
  have K40 : ∀ (x4 : Int64), e_X8_down_40 x4 = some r → ∀ ls, lv_has ls 7 [(4, .long x4)] → W p l e (headSpec wsX8_down { frames := 0, cells := 0, slots := 0, locals := 0 }).room s m ([.int y0, .long y1, .int y3] : List Value).toArray below meth c s.heap [] 0 0 (MQ below (k2_QcV (.long r)) ([.int y0, .long y1, .int y3] : List Value).toArray s 0 0 (fun _ => False)) (F0 m 40 ls []) := by
    intro x4 h ls hl
    unfold e_X8_down_40 at h
    refine lv_lload hx hb dX8_down_40 (lv_at hl 0 rfl) ?_
    exact W.lret hx hb hr (fun t ht _ => ⟨pf_rl h, ht⟩) (fun q hq => absurd hq List.not_mem_nil) dX8_down_42
  have L6 : ∀ (n : Nat) (x0 : Int32) (x1 : Int64) (x3 : Int32) (x4 : Int64) (x6 : Int32) (b : Int64), lpF (fun q : (Int64 × Int32) => s_X8_down_6 x0 x1 x3 q.1 q.2) n (x4, x6) = some b → a_X8_down_6 b = some r → ∀ ls, lv_has ls 7 [(0, .int x0), (1, .long x1), (3, .int x3), (4, .long x4), (6, .int x6)] → W p l e (headSpec wsX8_down { frames := 0, cells := 0, slots := 0, locals := 0 }).room s m ([.int y0, .long y1, .int y3] : List Value).toArray below meth c s.heap [] 0 0 (MQ below (k2_QcV (.long r)) ([.int y0, .long y1, .int y3] : List Value).toArray s 0 0 (fun _ => False)) (F0 m 6 ls []) := by
    intro n
    induction n with
    | zero => intro x0 x1 x3 x4 x6 b h; exact lp_zero h
    | succ n ih =>
      intro x0 x1 x3 x4 x6 b h ha ls hl
      obtain ⟨z6, h, hz⟩ := lp_open h
      have h : s_X8_down_6 x0 x1 x3 x4 x6 = some z6 := h
      unfold s_X8_down_6 at h
      refine lv_iload hx hb dX8_down_6 (lv_at hl 4 rfl) ?_
      refine lv_iload_n hx hb dX8_down_8 rfl (lv_at hl 0 rfl) ?_
      refine lv_icmp_ge (tgt := 40) hx hb dX8_down_9 (by decide) (fun c9 => ?_) (fun c9 => ?_)
      · have h := pf_pos h c9
        have ha := pf_aft ha (lp_exit h hz)
        exact K40 x4 ha ls (lv_sub hl [3] rfl)
      · have h := pf_neg h c9
        refine lv_lload_n hx hb dX8_down_12 rfl (lv_at hl 1 rfl) ?_
        refine lv_iload hx hb dX8_down_13 (lv_at hl 4 rfl) ?_
        refine pf_lshr hx hb dX8_down_15 ?_
        refine lv_lconst (v := 1) hx hb dX8_down_16 (by decide) ?_
        refine lv_land hx hb dX8_down_17 ?_
        refine lv_lconst (v := 1) hx hb dX8_down_18 (by decide) ?_
        refine W.lcmp hx hb dX8_down_19 ?_
        refine lv_if_ne (tgt := 34) hx hb dX8_down_20 (by decide) (fun c20 => ?_) (fun c20 => ?_)
        · have h := pf_neg h (fun q => c20 ((lg_cmp_eq _ _).mpr q))
          refine lv_iinc (v := (x6 + (1 : Int32))) (lv' := [(6, .int (x6 + (1 : Int32))), (0, .int x0), (1, .long x1), (3, .int x3), (4, .long x4)]) hx hb dX8_down_34 hl (k := 4) rfl rfl (by decide) rfl (fun ls hl => ?_)
          refine lv_goto (tgt := 6) hx hb dX8_down_37 (by decide) ?_
          exact ih x0 x1 x3 x4 (x6 + (1 : Int32)) b (lp_cont h hz) ha ls (lv_sub hl [1, 2, 3, 4, 0] rfl)
        · have h := pf_pos h ((lg_cmp_eq _ _).mp c20)
          refine lv_lload hx hb dX8_down_23 (lv_at hl 3 rfl) ?_
          refine lv_lconst (v := 1) hx hb dX8_down_25 (by decide) ?_
          refine lv_iload hx hb dX8_down_26 (lv_at hl 4 rfl) ?_
          refine lv_iload_n hx hb dX8_down_28 rfl (lv_at hl 2 rfl) ?_
          obtain ⟨hd29, h⟩ := pf_guard h
          refine pf_irem hx hb dX8_down_29 hd29 ?_
          refine pf_lshl hx hb dX8_down_30 ?_
          refine lv_lor hx hb dX8_down_31 ?_
          refine lv_lstore (lv' := [(4, .long (x4 ||| (jshl (1 : Int64) (jrem x6 x3)))), (0, .int x0), (1, .long x1), (3, .int x3), (6, .int x6)]) hx hb dX8_down_32 hl (by decide) rfl (fun ls hl => ?_)
          refine lv_iinc (v := (x6 + (1 : Int32))) (lv' := [(6, .int (x6 + (1 : Int32))), (4, .long (x4 ||| (jshl (1 : Int64) (jrem x6 x3)))), (0, .int x0), (1, .long x1), (3, .int x3)]) hx hb dX8_down_34 hl (k := 4) rfl rfl (by decide) rfl (fun ls hl => ?_)
          refine lv_goto (tgt := 6) hx hb dX8_down_37 (by decide) ?_
          exact ih x0 x1 x3 (x4 ||| (jshl (1 : Int64) (jrem x6 x3))) (x6 + (1 : Int32)) b (lp_cont h hz) ha ls (lv_sub hl [2, 3, 4, 1, 0] rfl)
  have G6 : ∀ (x0 : Int32) (x1 : Int64) (x3 : Int32) (x4 : Int64) (x6 : Int32), g_X8_down_6 x0 x1 x3 x4 x6 = some r → ∀ ls, lv_has ls 7 [(0, .int x0), (1, .long x1), (3, .int x3), (4, .long x4), (6, .int x6)] → W p l e (headSpec wsX8_down { frames := 0, cells := 0, slots := 0, locals := 0 }).room s m ([.int y0, .long y1, .int y3] : List Value).toArray below meth c s.heap [] 0 0 (MQ below (k2_QcV (.long r)) ([.int y0, .long y1, .int y3] : List Value).toArray s 0 0 (fun _ => False)) (F0 m 6 ls []) := by
    intro x0 x1 x3 x4 x6 h ls hl
    unfold g_X8_down_6 at h
    obtain ⟨b, h, ha⟩ := pf_bind h
    exact L6 pfFU x0 x1 x3 x4 x6 b h ha ls hl
  unfold p_X8_down at h
  refine lv_lconst (v := 0) hx hb dX8_down_0 (by decide) ?_
  refine lv_lstore (lv' := [(4, .long (0 : Int64)), (0, .int y0), (1, .long y1), (3, .int y3)]) hx hb dX8_down_1 hl (by decide) rfl (fun ls hl => ?_)
  refine lv_iconst (v := 0) hx hb dX8_down_3 (by decide) ?_
  refine lv_istore (lv' := [(6, .int (0 : Int32)), (4, .long (0 : Int64)), (0, .int y0), (1, .long y1), (3, .int y3)]) hx hb dX8_down_4 hl (by decide) rfl (fun ls hl => ?_)
  exact G6 y0 y1 y3 (0 : Int64) (0 : Int32) h ls (lv_sub hl [2, 3, 4, 1, 0] rfl)
-- X8_up
def e_X8_up_49 (x4 : Int64) : Option Int64 :=
  some x4
def s_X8_up_6 (x0 : Int32) (x1 : Int64) (x3 : Int32) (x4 : Int64) (x6 : Int32) : Option ((Int64 × Int32) ⊕ (Int64)) :=
  (if x3 ≤ x6 then some (Sum.inr x4) else ((p_X8_isRest x3 x6).bind fun v15 => (if v15 = 0 then some (Sum.inl (x4, (x6 + (1 : Int32)))) else (if x0 = 0 then none else (if ((jshr x1 (jrem x6 x0)) &&& (1 : Int64)) = (1 : Int64) then some (Sum.inl ((x4 ||| (jshl (1 : Int64) x6)), (x6 + (1 : Int32)))) else some (Sum.inl (x4, (x6 + (1 : Int32)))))))))
def a_X8_up_6  (b : Int64) : Option Int64 := (fun q : Int64 => e_X8_up_49 q) b
def g_X8_up_6 (x0 : Int32) (x1 : Int64) (x3 : Int32) (x4 : Int64) (x6 : Int32) : Option Int64 := (lpF (fun q : (Int64 × Int32) => s_X8_up_6 x0 x1 x3 q.1 q.2) pfFU (x4, x6)).bind (a_X8_up_6 )
def p_X8_up (y0 : Int32) (y1 : Int64) (y3 : Int32) : Option Int64 :=
  g_X8_up_6 y0 y1 y3 (0 : Int64) (0 : Int32)
theorem kd_X8_up : yX8_up.cls ≠ "java/lang/invoke/MethodHandle" ∧ yX8_up.cls ≠ "java/lang/invoke/VarHandle" ∧ (parseMethodDescriptor yX8_up.desc).map (fun d => d.parameters.length) = some 3 := by decide +kernel
set_option maxHeartbeats 4000000 in
set_option maxRecDepth 100000 in
theorem c_X8_up (l : Launch) (y0 : Int32) (y1 : Int64) (y3 : Int32) (r : Int64) (h : p_X8_up y0 y1 y3 = some r) : Met l yX8_up wsX8_up { frames := 2, cells := 0, slots := 0, locals := 45 } (fun v _ => v = ([.int y0, .long y1, .int y3] : List Value).toArray) (k2_QcV (.long r)) 0 0 (fun _ => False) := by
  refine Met.ofW (cc := cX8_up) (maxL := 7) (ret := some .long) (by decide) rfl ?_
  intro p e s m args below meth c s₁ B hml hv
  subst hv
  have hx := B.exec
  have hb := B.bytes
  have hr := B.returns
  have hts := atoms_spec (ws := wsX8_up) B.pre
  have hown : s.vm.findClass RX8 = some m.cls := findClass_of_methodNamed B.named
  have hlocks := B.notSynchronized
  have S0 : CallFix p m c cX8_up 7 s ([.int y0, .long y1, .int y3] : List Value).toArray wsX8_up RX8 := ⟨hx, hb, hml, hown, hts⟩
  have hl := lv_entry [.int y0, .long y1, .int y3] (n := 7) (Nat.le_of_ble_eq_true rfl)
  rw [lg_entry_eq]
  generalize (lg_sl [.int y0, .long y1, .int y3] ++ List.replicate (7 - (lg_sl [.int y0, .long y1, .int y3]).length) Slot.unset).toArray = ls at hl ⊢
  have hl : lv_has ls 7 [(0, .int y0), (1, .long y1), (3, .int y3)] := hl
  have K49 : ∀ (x4 : Int64), e_X8_up_49 x4 = some r → ∀ ls, lv_has ls 7 [(4, .long x4)] → W p l e (headSpec wsX8_up { frames := 2, cells := 0, slots := 0, locals := 45 }).room s m ([.int y0, .long y1, .int y3] : List Value).toArray below meth c s.heap [] 0 0 (MQ below (k2_QcV (.long r)) ([.int y0, .long y1, .int y3] : List Value).toArray s 0 0 (fun _ => False)) (F0 m 49 ls []) := by
    intro x4 h ls hl
    unfold e_X8_up_49 at h
    refine lv_lload hx hb dX8_up_49 (lv_at hl 0 rfl) ?_
    exact W.lret hx hb hr (fun t ht _ => ⟨pf_rl h, ht⟩) (fun q hq => absurd hq List.not_mem_nil) dX8_up_51
  have L6 : ∀ (n : Nat) (x0 : Int32) (x1 : Int64) (x3 : Int32) (x4 : Int64) (x6 : Int32) (b : Int64), lpF (fun q : (Int64 × Int32) => s_X8_up_6 x0 x1 x3 q.1 q.2) n (x4, x6) = some b → a_X8_up_6 b = some r → ∀ ls, lv_has ls 7 [(0, .int x0), (1, .long x1), (3, .int x3), (4, .long x4), (6, .int x6)] → W p l e (headSpec wsX8_up { frames := 2, cells := 0, slots := 0, locals := 45 }).room s m ([.int y0, .long y1, .int y3] : List Value).toArray below meth c s.heap [] 0 0 (MQ below (k2_QcV (.long r)) ([.int y0, .long y1, .int y3] : List Value).toArray s 0 0 (fun _ => False)) (F0 m 6 ls []) := by
    intro n
    induction n with
    | zero => intro x0 x1 x3 x4 x6 b h; exact lp_zero h
    | succ n ih =>
      intro x0 x1 x3 x4 x6 b h ha ls hl
      obtain ⟨z6, h, hz⟩ := lp_open h
      have h : s_X8_up_6 x0 x1 x3 x4 x6 = some z6 := h
      unfold s_X8_up_6 at h
      refine lv_iload hx hb dX8_up_6 (lv_at hl 4 rfl) ?_
      refine lv_iload_n hx hb dX8_up_8 rfl (lv_at hl 2 rfl) ?_
      refine lv_icmp_ge (tgt := 49) hx hb dX8_up_9 (by decide) (fun c9 => ?_) (fun c9 => ?_)
      · have h := pf_pos h c9
        have ha := pf_aft ha (lp_exit h hz)
        exact K49 x4 ha ls (lv_sub hl [3] rfl)
      · have h := pf_neg h c9
        refine lv_iload_n hx hb dX8_up_12 rfl (lv_at hl 2 rfl) ?_
        refine lv_iload hx hb dX8_up_13 (lv_at hl 4 rfl) ?_
        obtain ⟨v15, hv15, h⟩ := pf_bind h
        refine pf_call (As := [.int x3, .int x6]) (rest := []) S0 (c_X8_isRest l x3 x6 v15 hv15) (va_cwS 2 hts gX8_up_X8_isRest rfl rfl rfl kd_X8_isRest ⟨Nat.le_of_ble_eq_true rfl, Nat.le_of_ble_eq_true rfl⟩) rfl hl.1 rfl (Nat.le_of_ble_eq_true rfl) dX8_up_15 ⟨Nat.zero_le _, Nat.zero_le _⟩ ?_
        refine lv_if_eq (tgt := 43) hx hb dX8_up_18 (by decide) (fun c18 => ?_) (fun c18 => ?_)
        · have h := pf_pos h c18
          refine lv_iinc (v := (x6 + (1 : Int32))) (lv' := [(6, .int (x6 + (1 : Int32))), (0, .int x0), (1, .long x1), (3, .int x3), (4, .long x4)]) hx hb dX8_up_43 hl (k := 4) rfl rfl (by decide) rfl (fun ls hl => ?_)
          refine lv_goto (tgt := 6) hx hb dX8_up_46 (by decide) ?_
          exact ih x0 x1 x3 x4 (x6 + (1 : Int32)) b (lp_cont h hz) ha ls (lv_sub hl [1, 2, 3, 4, 0] rfl)
        · have h := pf_neg h c18
          refine lv_lload_n hx hb dX8_up_21 rfl (lv_at hl 1 rfl) ?_
          refine lv_iload hx hb dX8_up_22 (lv_at hl 4 rfl) ?_
          refine lv_iload_n hx hb dX8_up_24 rfl (lv_at hl 0 rfl) ?_
          obtain ⟨hd25, h⟩ := pf_guard h
          refine pf_irem hx hb dX8_up_25 hd25 ?_
          refine pf_lshr hx hb dX8_up_26 ?_
          refine lv_lconst (v := 1) hx hb dX8_up_27 (by decide) ?_
          refine lv_land hx hb dX8_up_28 ?_
          refine lv_lconst (v := 1) hx hb dX8_up_29 (by decide) ?_
          refine W.lcmp hx hb dX8_up_30 ?_
          refine lv_if_ne (tgt := 43) hx hb dX8_up_31 (by decide) (fun c31 => ?_) (fun c31 => ?_)
          · have h := pf_neg h (fun q => c31 ((lg_cmp_eq _ _).mpr q))
            refine lv_iinc (v := (x6 + (1 : Int32))) (lv' := [(6, .int (x6 + (1 : Int32))), (0, .int x0), (1, .long x1), (3, .int x3), (4, .long x4)]) hx hb dX8_up_43 hl (k := 4) rfl rfl (by decide) rfl (fun ls hl => ?_)
            refine lv_goto (tgt := 6) hx hb dX8_up_46 (by decide) ?_
            exact ih x0 x1 x3 x4 (x6 + (1 : Int32)) b (lp_cont h hz) ha ls (lv_sub hl [1, 2, 3, 4, 0] rfl)
          · have h := pf_pos h ((lg_cmp_eq _ _).mp c31)
            refine lv_lload hx hb dX8_up_34 (lv_at hl 3 rfl) ?_
            refine lv_lconst (v := 1) hx hb dX8_up_36 (by decide) ?_
            refine lv_iload hx hb dX8_up_37 (lv_at hl 4 rfl) ?_
            refine pf_lshl hx hb dX8_up_39 ?_
            refine lv_lor hx hb dX8_up_40 ?_
            refine lv_lstore (lv' := [(4, .long (x4 ||| (jshl (1 : Int64) x6))), (0, .int x0), (1, .long x1), (3, .int x3), (6, .int x6)]) hx hb dX8_up_41 hl (by decide) rfl (fun ls hl => ?_)
            refine lv_iinc (v := (x6 + (1 : Int32))) (lv' := [(6, .int (x6 + (1 : Int32))), (4, .long (x4 ||| (jshl (1 : Int64) x6))), (0, .int x0), (1, .long x1), (3, .int x3)]) hx hb dX8_up_43 hl (k := 4) rfl rfl (by decide) rfl (fun ls hl => ?_)
            refine lv_goto (tgt := 6) hx hb dX8_up_46 (by decide) ?_
            exact ih x0 x1 x3 (x4 ||| (jshl (1 : Int64) x6)) (x6 + (1 : Int32)) b (lp_cont h hz) ha ls (lv_sub hl [2, 3, 4, 1, 0] rfl)
  have G6 : ∀ (x0 : Int32) (x1 : Int64) (x3 : Int32) (x4 : Int64) (x6 : Int32), g_X8_up_6 x0 x1 x3 x4 x6 = some r → ∀ ls, lv_has ls 7 [(0, .int x0), (1, .long x1), (3, .int x3), (4, .long x4), (6, .int x6)] → W p l e (headSpec wsX8_up { frames := 2, cells := 0, slots := 0, locals := 45 }).room s m ([.int y0, .long y1, .int y3] : List Value).toArray below meth c s.heap [] 0 0 (MQ below (k2_QcV (.long r)) ([.int y0, .long y1, .int y3] : List Value).toArray s 0 0 (fun _ => False)) (F0 m 6 ls []) := by
    intro x0 x1 x3 x4 x6 h ls hl
    unfold g_X8_up_6 at h
    obtain ⟨b, h, ha⟩ := pf_bind h
    exact L6 pfFU x0 x1 x3 x4 x6 b h ha ls hl
  unfold p_X8_up at h
  refine lv_lconst (v := 0) hx hb dX8_up_0 (by decide) ?_
  refine lv_lstore (lv' := [(4, .long (0 : Int64)), (0, .int y0), (1, .long y1), (3, .int y3)]) hx hb dX8_up_1 hl (by decide) rfl (fun ls hl => ?_)
  refine lv_iconst (v := 0) hx hb dX8_up_3 (by decide) ?_
  refine lv_istore (lv' := [(6, .int (0 : Int32)), (4, .long (0 : Int64)), (0, .int y0), (1, .long y1), (3, .int y3)]) hx hb dX8_up_4 hl (by decide) rfl (fun ls hl => ?_)
  exact G6 y0 y1 y3 (0 : Int64) (0 : Int32) h ls (lv_sub hl [2, 3, 4, 1, 0] rfl)
