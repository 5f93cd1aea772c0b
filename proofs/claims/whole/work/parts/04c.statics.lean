-- X3_lowered
def e_X3_lowered_39 (x3 : Int64) : Option Int64 :=
  some x3
def s_X3_lowered_5 (x0 : Int64) (x2 : Int32) (x3 : Int64) (x5 : Int32) : Option ((Int64 × Int32) ⊕ (Int64)) :=
  (if (63 : Int32) ≤ x5 then some (Sum.inr x3) else ((p_X3_has x0 x5).bind fun v15 => (if v15 = 0 then some (Sum.inl (x3, (x5 + (1 : Int32)))) else ((p_X6_rest x5 x2).bind fun v25 => ((p_X3_bit v25).bind fun v28 => some (Sum.inl ((x3 ||| v28), (x5 + (1 : Int32)))))))))
def a_X3_lowered_5  (b : Int64) : Option Int64 := (fun q : Int64 => e_X3_lowered_39 q) b
def g_X3_lowered_5 (x0 : Int64) (x2 : Int32) (x3 : Int64) (x5 : Int32) : Option Int64 := (lpF (fun q : (Int64 × Int32) => s_X3_lowered_5 x0 x2 q.1 q.2) pfFU (x3, x5)).bind (a_X3_lowered_5 )
def p_X3_lowered (y0 : Int64) (y2 : Int32) : Option Int64 :=
  g_X3_lowered_5 y0 y2 (0 : Int64) (0 : Int32)
theorem kd_X3_lowered : yX3_lowered.cls ≠ "java/lang/invoke/MethodHandle" ∧ yX3_lowered.cls ≠ "java/lang/invoke/VarHandle" ∧ (parseMethodDescriptor yX3_lowered.desc).map (fun d => d.parameters.length) = some 2 := by decide +kernel
set_option maxHeartbeats 4000000 in
set_option maxRecDepth 100000 in
theorem c_X3_lowered (l : Launch) (y0 : Int64) (y2 : Int32) (r : Int64) (h : p_X3_lowered y0 y2 = some r) : Met l yX3_lowered wsX3_lowered { frames := 1, cells := 0, slots := 0, locals := 22 } (fun v _ => v = ([.long y0, .int y2] : List Value).toArray) (k2_QcV (.long r)) 0 0 (fun _ => False) := by
  refine Met.ofW (cc := cX3_lowered) (maxL := 6) (ret := some .long) (by decide) rfl ?_
  intro p e s m args below meth c s₁ B hml hv
  subst hv
  have hx := B.exec
  have hb := B.bytes
  have hr := B.returns
  have hts := atoms_spec (ws := wsX3_lowered) B.pre
  have hown : s.vm.findClass RX3 = some m.cls := findClass_of_methodNamed B.named
  have hlocks := B.notSynchronized
  have S0 : CallFix p m c cX3_lowered 6 s ([.long y0, .int y2] : List Value).toArray wsX3_lowered RX3 := ⟨hx, hb, hml, hown, hts⟩
  have hl := lv_entry [.long y0, .int y2] (n := 6) (Nat.le_of_ble_eq_true rfl)
  rw [lg_entry_eq]
  generalize (lg_sl [.long y0, .int y2] ++ List.replicate (6 - (lg_sl [.long y0, .int y2]).length) Slot.unset).toArray = ls at hl ⊢
  have hl : lv_has ls 6 [(0, .long y0), (2, .int y2)] := hl
  have K39 : ∀ (x3 : Int64), e_X3_lowered_39 x3 = some r → ∀ ls, lv_has ls 6 [(3, .long x3)] → W p l e (headSpec wsX3_lowered { frames := 1, cells := 0, slots := 0, locals := 22 }).room s m ([.long y0, .int y2] : List Value).toArray below meth c s.heap [] 0 0 (MQ below (k2_QcV (.long r)) ([.long y0, .int y2] : List Value).toArray s 0 0 (fun _ => False)) (F0 m 39 ls []) := by
    intro x3 h ls hl
    unfold e_X3_lowered_39 at h
    refine lv_lload_n hx hb dX3_lowered_39 rfl (lv_at hl 0 rfl) ?_
    exact W.lret hx hb hr (fun t ht _ => ⟨pf_rl h, ht⟩) (fun q hq => absurd hq List.not_mem_nil) dX3_lowered_40
  have L5 : ∀ (n : Nat) (x0 : Int64) (x2 : Int32) (x3 : Int64) (x5 : Int32) (b : Int64), lpF (fun q : (Int64 × Int32) => s_X3_lowered_5 x0 x2 q.1 q.2) n (x3, x5) = some b → a_X3_lowered_5 b = some r → ∀ ls, lv_has ls 6 [(0, .long x0), (2, .int x2), (3, .long x3), (5, .int x5)] → W p l e (headSpec wsX3_lowered { frames := 1, cells := 0, slots := 0, locals := 22 }).room s m ([.long y0, .int y2] : List Value).toArray below meth c s.heap [] 0 0 (MQ below (k2_QcV (.long r)) ([.long y0, .int y2] : List Value).toArray s 0 0 (fun _ => False)) (F0 m 5 ls []) := by
    intro n
    induction n with
    | zero => intro x0 x2 x3 x5 b h; exact lp_zero h
    | succ n ih =>
      intro x0 x2 x3 x5 b h ha ls hl
      obtain ⟨z5, h, hz⟩ := lp_open h
      have h : s_X3_lowered_5 x0 x2 x3 x5 = some z5 := h
      unfold s_X3_lowered_5 at h
      refine lv_iload hx hb dX3_lowered_5 (lv_at hl 3 rfl) ?_
      refine lv_bipush (v := 63) hx hb dX3_lowered_7 (by decide) ?_
      refine lv_icmp_ge (tgt := 39) hx hb dX3_lowered_9 (by decide) (fun c9 => ?_) (fun c9 => ?_)
      · have h := pf_pos h c9
        have ha := pf_aft ha (lp_exit h hz)
        exact K39 x3 ha ls (lv_sub hl [2] rfl)
      · have h := pf_neg h c9
        refine lv_lload_n hx hb dX3_lowered_12 rfl (lv_at hl 0 rfl) ?_
        refine lv_iload hx hb dX3_lowered_13 (lv_at hl 3 rfl) ?_
        obtain ⟨v15, hv15, h⟩ := pf_bind h
        refine pf_call (As := [.long x0, .int x5]) (rest := []) S0 (c_X3_has l x0 x5 v15 hv15) (va_cwS 2 hts gX3_lowered_X3_has rfl rfl rfl kd_X3_has ⟨Nat.le_of_ble_eq_true rfl, Nat.le_of_ble_eq_true rfl⟩) rfl hl.1 rfl (Nat.le_of_ble_eq_true rfl) dX3_lowered_15 ⟨Nat.zero_le _, Nat.zero_le _⟩ ?_
        refine lv_if_eq (tgt := 33) hx hb dX3_lowered_18 (by decide) (fun c18 => ?_) (fun c18 => ?_)
        · have h := pf_pos h c18
          refine lv_iinc (v := (x5 + (1 : Int32))) (lv' := [(5, .int (x5 + (1 : Int32))), (0, .long x0), (2, .int x2), (3, .long x3)]) hx hb dX3_lowered_33 hl (k := 3) rfl rfl (by decide) rfl (fun ls hl => ?_)
          refine lv_goto (tgt := 5) hx hb dX3_lowered_36 (by decide) ?_
          exact ih x0 x2 x3 (x5 + (1 : Int32)) b (lp_cont h hz) ha ls (lv_sub hl [1, 2, 3, 0] rfl)
        · have h := pf_neg h c18
          refine lv_lload_n hx hb dX3_lowered_21 rfl (lv_at hl 2 rfl) ?_
          refine lv_iload hx hb dX3_lowered_22 (lv_at hl 3 rfl) ?_
          refine lv_iload_n hx hb dX3_lowered_24 rfl (lv_at hl 1 rfl) ?_
          obtain ⟨v25, hv25, h⟩ := pf_bind h
          refine pf_call (As := [.int x5, .int x2]) (rest := [.long x3]) S0 (c_X6_rest l x5 x2 v25 hv25) (va_cwS 2 hts gX3_lowered_X6_rest rfl rfl rfl kd_X6_rest ⟨Nat.le_of_ble_eq_true rfl, Nat.le_of_ble_eq_true rfl⟩) rfl hl.1 rfl (Nat.le_of_ble_eq_true rfl) dX3_lowered_25 ⟨Nat.zero_le _, Nat.zero_le _⟩ ?_
          obtain ⟨v28, hv28, h⟩ := pf_bind h
          refine pf_call (As := [.int v25]) (rest := [.long x3]) S0 (c_X3_bit l v25 v28 hv28) (va_cwS 1 hts gX3_lowered_X3_bit rfl rfl rfl kd_X3_bit ⟨Nat.le_of_ble_eq_true rfl, Nat.le_of_ble_eq_true rfl⟩) rfl hl.1 rfl (Nat.le_of_ble_eq_true rfl) dX3_lowered_28 ⟨Nat.zero_le _, Nat.zero_le _⟩ ?_
          refine lv_lor hx hb dX3_lowered_31 ?_
          refine lv_lstore_n (lv' := [(3, .long (x3 ||| v28)), (0, .long x0), (2, .int x2), (5, .int x5)]) hx hb dX3_lowered_32 rfl hl (by decide) rfl (fun ls hl => ?_)
          refine lv_iinc (v := (x5 + (1 : Int32))) (lv' := [(5, .int (x5 + (1 : Int32))), (3, .long (x3 ||| v28)), (0, .long x0), (2, .int x2)]) hx hb dX3_lowered_33 hl (k := 3) rfl rfl (by decide) rfl (fun ls hl => ?_)
          refine lv_goto (tgt := 5) hx hb dX3_lowered_36 (by decide) ?_
          exact ih x0 x2 (x3 ||| v28) (x5 + (1 : Int32)) b (lp_cont h hz) ha ls (lv_sub hl [2, 3, 1, 0] rfl)
  have G5 : ∀ (x0 : Int64) (x2 : Int32) (x3 : Int64) (x5 : Int32), g_X3_lowered_5 x0 x2 x3 x5 = some r → ∀ ls, lv_has ls 6 [(0, .long x0), (2, .int x2), (3, .long x3), (5, .int x5)] → W p l e (headSpec wsX3_lowered { frames := 1, cells := 0, slots := 0, locals := 22 }).room s m ([.long y0, .int y2] : List Value).toArray below meth c s.heap [] 0 0 (MQ below (k2_QcV (.long r)) ([.long y0, .int y2] : List Value).toArray s 0 0 (fun _ => False)) (F0 m 5 ls []) := by
    intro x0 x2 x3 x5 h ls hl
    unfold g_X3_lowered_5 at h
    obtain ⟨b, h, ha⟩ := pf_bind h
    exact L5 pfFU x0 x2 x3 x5 b h ha ls hl
  unfold p_X3_lowered at h
  refine lv_lconst (v := 0) hx hb dX3_lowered_0 (by decide) ?_
  refine lv_lstore_n (lv' := [(3, .long (0 : Int64)), (0, .long y0), (2, .int y2)]) hx hb dX3_lowered_1 rfl hl (by decide) rfl (fun ls hl => ?_)
  refine lv_iconst (v := 0) hx hb dX3_lowered_2 (by decide) ?_
  refine lv_istore (lv' := [(5, .int (0 : Int32)), (3, .long (0 : Int64)), (0, .long y0), (2, .int y2)]) hx hb dX3_lowered_3 hl (by decide) rfl (fun ls hl => ?_)
  exact G5 y0 y2 (0 : Int64) (0 : Int32) h ls (lv_sub hl [2, 3, 1, 0] rfl)
-- X6_goesInto
def p_X6_goesInto (y0 : Int32) (y1 : Int32) : Option Int32 :=
  (if y0 < (1 : Int32) then some (0 : Int32) else (if y0 = 0 then none else (if (jrem y1 y0) = 0 then some (1 : Int32) else some (0 : Int32))))
theorem kd_X6_goesInto : yX6_goesInto.cls ≠ "java/lang/invoke/MethodHandle" ∧ yX6_goesInto.cls ≠ "java/lang/invoke/VarHandle" ∧ (parseMethodDescriptor yX6_goesInto.desc).map (fun d => d.parameters.length) = some 2 := by decide +kernel
set_option maxHeartbeats 4000000 in
set_option maxRecDepth 100000 in
theorem c_X6_goesInto (l : Launch) (y0 : Int32) (y1 : Int32) (r : Int32) (h : p_X6_goesInto y0 y1 = some r) : Met l yX6_goesInto wsX6_goesInto { frames := 0, cells := 0, slots := 0, locals := 0 } (fun v _ => v = ([.int y0, .int y1] : List Value).toArray) (k2_QcV (.int r)) 0 0 (fun _ => False) := by
  refine Met.ofW (cc := cX6_goesInto) (maxL := 2) (ret := some .boolean) (by decide) rfl ?_
  intro p e s m args below meth c s₁ B hml hv
  subst hv
  have hx := B.exec
  have hb := B.bytes
  have hr := B.returns
  have hts := atoms_spec (ws := wsX6_goesInto) B.pre
  have hown : s.vm.findClass RX6 = some m.cls := findClass_of_methodNamed B.named
  have hlocks := B.notSynchronized
  have S0 : CallFix p m c cX6_goesInto 2 s ([.int y0, .int y1] : List Value).toArray wsX6_goesInto RX6 := ⟨hx, hb, hml, hown, hts⟩
  have hl := lv_entry [.int y0, .int y1] (n := 2) (Nat.le_of_ble_eq_true rfl)
  rw [lg_entry_eq]
  generalize (lg_sl [.int y0, .int y1] ++ List.replicate (2 - (lg_sl [.int y0, .int y1]).length) Slot.unset).toArray = ls at hl ⊢
  have hl : lv_has ls 2 [(0, .int y0), (1, .int y1)] := hl
  unfold p_X6_goesInto at h
  refine lv_iload_n hx hb dX6_goesInto_0 rfl (lv_at hl 0 rfl) ?_
  refine lv_iconst (v := 1) hx hb dX6_goesInto_1 (by decide) ?_
  refine lv_icmp_lt (tgt := 15) hx hb dX6_goesInto_2 (by decide) (fun c2 => ?_) (fun c2 => ?_)
  · have h := pf_pos h c2
    refine lv_iconst (v := 0) hx hb dX6_goesInto_15 (by decide) ?_
    exact W.zret hx hb hr rfl (fun t ht _ => ⟨pf_ri h, ht⟩) (fun q hq => absurd hq List.not_mem_nil) dX6_goesInto_16
  · have h := pf_neg h c2
    refine lv_iload_n hx hb dX6_goesInto_5 rfl (lv_at hl 1 rfl) ?_
    refine lv_iload_n hx hb dX6_goesInto_6 rfl (lv_at hl 0 rfl) ?_
    obtain ⟨hd7, h⟩ := pf_guard h
    refine pf_irem hx hb dX6_goesInto_7 hd7 ?_
    refine lv_if_ne (tgt := 15) hx hb dX6_goesInto_8 (by decide) (fun c8 => ?_) (fun c8 => ?_)
    · have h := pf_neg h c8
      refine lv_iconst (v := 0) hx hb dX6_goesInto_15 (by decide) ?_
      exact W.zret hx hb hr rfl (fun t ht _ => ⟨pf_ri h, ht⟩) (fun q hq => absurd hq List.not_mem_nil) dX6_goesInto_16
    · have h := pf_pos h c8
      refine lv_iconst (v := 1) hx hb dX6_goesInto_11 (by decide) ?_
      refine lv_goto (tgt := 16) hx hb dX6_goesInto_12 (by decide) ?_
      exact W.zret hx hb hr rfl (fun t ht _ => ⟨pf_ri h, ht⟩) (fun q hq => absurd hq List.not_mem_nil) dX6_goesInto_16
-- X3_hasOneBy
def e_X3_hasOneBy_40  : Option Int32 :=
  some (0 : Int32)
def e_X3_hasOneBy_32  : Option Int32 :=
  some (1 : Int32)
def s_X3_hasOneBy_3 (x0 : Int64) (x2 : Int32) (x3 : Int32) (x4 : Int32) : Option (Int32 ⊕ (Unit ⊕ Unit)) :=
  (if x3 ≤ x4 then some (Sum.inr (Sum.inr ())) else ((p_X3_has x0 x4).bind fun v12 => (if v12 = 0 then some (Sum.inl (x4 + (1 : Int32))) else ((p_X6_rest x4 x2).bind fun v21 => ((p_X6_rest (1 : Int32) x2).bind fun v26 => (if v21 = v26 then some (Sum.inr (Sum.inl ())) else some (Sum.inl (x4 + (1 : Int32)))))))))
def a_X3_hasOneBy_3  (b : Unit ⊕ Unit) : Option Int32 := Sum.elim (fun q : Unit => e_X3_hasOneBy_32 ) (fun q : Unit => e_X3_hasOneBy_40 ) b
def g_X3_hasOneBy_3 (x0 : Int64) (x2 : Int32) (x3 : Int32) (x4 : Int32) : Option Int32 := (lpF (fun q : Int32 => s_X3_hasOneBy_3 x0 x2 x3 q) pfFU x4).bind (a_X3_hasOneBy_3 )
def p_X3_hasOneBy (y0 : Int64) (y2 : Int32) (y3 : Int32) : Option Int32 :=
  g_X3_hasOneBy_3 y0 y2 y3 (0 : Int32)
theorem kd_X3_hasOneBy : yX3_hasOneBy.cls ≠ "java/lang/invoke/MethodHandle" ∧ yX3_hasOneBy.cls ≠ "java/lang/invoke/VarHandle" ∧ (parseMethodDescriptor yX3_hasOneBy.desc).map (fun d => d.parameters.length) = some 3 := by decide +kernel
set_option maxHeartbeats 4000000 in
set_option maxRecDepth 100000 in
theorem c_X3_hasOneBy (l : Launch) (y0 : Int64) (y2 : Int32) (y3 : Int32) (r : Int32) (h : p_X3_hasOneBy y0 y2 y3 = some r) : Met l yX3_hasOneBy wsX3_hasOneBy { frames := 1, cells := 0, slots := 0, locals := 22 } (fun v _ => v = ([.long y0, .int y2, .int y3] : List Value).toArray) (k2_QcV (.int r)) 0 0 (fun _ => False) := by
  refine Met.ofW (cc := cX3_hasOneBy) (maxL := 5) (ret := some .boolean) (by decide) rfl ?_
  intro p e s m args below meth c s₁ B hml hv
  subst hv
  have hx := B.exec
  have hb := B.bytes
  have hr := B.returns
  have hts := atoms_spec (ws := wsX3_hasOneBy) B.pre
  have hown : s.vm.findClass RX3 = some m.cls := findClass_of_methodNamed B.named
  have hlocks := B.notSynchronized
  have S0 : CallFix p m c cX3_hasOneBy 5 s ([.long y0, .int y2, .int y3] : List Value).toArray wsX3_hasOneBy RX3 := ⟨hx, hb, hml, hown, hts⟩
  have hl := lv_entry [.long y0, .int y2, .int y3] (n := 5) (Nat.le_of_ble_eq_true rfl)
  rw [lg_entry_eq]
  generalize (lg_sl [.long y0, .int y2, .int y3] ++ List.replicate (5 - (lg_sl [.long y0, .int y2, .int y3]).length) Slot.unset).toArray = ls at hl ⊢
  have hl : lv_has ls 5 [(0, .long y0), (2, .int y2), (3, .int y3)] := hl
  have K40 : ∀ (_ : Unit), e_X3_hasOneBy_40  = some r → ∀ ls, lv_has ls 5 [] → W p l e (headSpec wsX3_hasOneBy { frames := 1, cells := 0, slots := 0, locals := 22 }).room s m ([.long y0, .int y2, .int y3] : List Value).toArray below meth c s.heap [] 0 0 (MQ below (k2_QcV (.int r)) ([.long y0, .int y2, .int y3] : List Value).toArray s 0 0 (fun _ => False)) (F0 m 40 ls []) := by
    intro _ h ls hl
    unfold e_X3_hasOneBy_40 at h
    refine lv_iconst (v := 0) hx hb dX3_hasOneBy_40 (by decide) ?_
    exact W.zret hx hb hr rfl (fun t ht _ => ⟨pf_ri h, ht⟩) (fun q hq => absurd hq List.not_mem_nil) dX3_hasOneBy_41
  have K32 : ∀ (_ : Unit), e_X3_hasOneBy_32  = some r → ∀ ls, lv_has ls 5 [] → W p l e (headSpec wsX3_hasOneBy { frames := 1, cells := 0, slots := 0, locals := 22 }).room s m ([.long y0, .int y2, .int y3] : List Value).toArray below meth c s.heap [] 0 0 (MQ below (k2_QcV (.int r)) ([.long y0, .int y2, .int y3] : List Value).toArray s 0 0 (fun _ => False)) (F0 m 32 ls []) := by
    intro _ h ls hl
    unfold e_X3_hasOneBy_32 at h
    refine lv_iconst (v := 1) hx hb dX3_hasOneBy_32 (by decide) ?_
    exact W.zret hx hb hr rfl (fun t ht _ => ⟨pf_ri h, ht⟩) (fun q hq => absurd hq List.not_mem_nil) dX3_hasOneBy_33
  have L3 : ∀ (n : Nat) (x0 : Int64) (x2 : Int32) (x3 : Int32) (x4 : Int32) (b : Unit ⊕ Unit), lpF (fun q : Int32 => s_X3_hasOneBy_3 x0 x2 x3 q) n x4 = some b → a_X3_hasOneBy_3 b = some r → ∀ ls, lv_has ls 5 [(0, .long x0), (2, .int x2), (3, .int x3), (4, .int x4)] → W p l e (headSpec wsX3_hasOneBy { frames := 1, cells := 0, slots := 0, locals := 22 }).room s m ([.long y0, .int y2, .int y3] : List Value).toArray below meth c s.heap [] 0 0 (MQ below (k2_QcV (.int r)) ([.long y0, .int y2, .int y3] : List Value).toArray s 0 0 (fun _ => False)) (F0 m 3 ls []) := by
    intro n
    induction n with
    | zero => intro x0 x2 x3 x4 b h; exact lp_zero h
    | succ n ih =>
      intro x0 x2 x3 x4 b h ha ls hl
      obtain ⟨z3, h, hz⟩ := lp_open h
      have h : s_X3_hasOneBy_3 x0 x2 x3 x4 = some z3 := h
      unfold s_X3_hasOneBy_3 at h
      refine lv_iload hx hb dX3_hasOneBy_3 (lv_at hl 3 rfl) ?_
      refine lv_iload_n hx hb dX3_hasOneBy_5 rfl (lv_at hl 2 rfl) ?_
      refine lv_icmp_ge (tgt := 40) hx hb dX3_hasOneBy_6 (by decide) (fun c6 => ?_) (fun c6 => ?_)
      · have h := pf_pos h c6
        have ha := pf_aft ha (lp_exit h hz)
        exact K40 () ha ls (lv_sub hl [] rfl)
      · have h := pf_neg h c6
        refine lv_lload_n hx hb dX3_hasOneBy_9 rfl (lv_at hl 0 rfl) ?_
        refine lv_iload hx hb dX3_hasOneBy_10 (lv_at hl 3 rfl) ?_
        obtain ⟨v12, hv12, h⟩ := pf_bind h
        refine pf_call (As := [.long x0, .int x4]) (rest := []) S0 (c_X3_has l x0 x4 v12 hv12) (va_cwS 2 hts gX3_hasOneBy_X3_has rfl rfl rfl kd_X3_has ⟨Nat.le_of_ble_eq_true rfl, Nat.le_of_ble_eq_true rfl⟩) rfl hl.1 rfl (Nat.le_of_ble_eq_true rfl) dX3_hasOneBy_12 ⟨Nat.zero_le _, Nat.zero_le _⟩ ?_
        refine lv_if_eq (tgt := 34) hx hb dX3_hasOneBy_15 (by decide) (fun c15 => ?_) (fun c15 => ?_)
        · have h := pf_pos h c15
          refine lv_iinc (v := (x4 + (1 : Int32))) (lv' := [(4, .int (x4 + (1 : Int32))), (0, .long x0), (2, .int x2), (3, .int x3)]) hx hb dX3_hasOneBy_34 hl (k := 3) rfl rfl (by decide) rfl (fun ls hl => ?_)
          refine lv_goto (tgt := 3) hx hb dX3_hasOneBy_37 (by decide) ?_
          exact ih x0 x2 x3 (x4 + (1 : Int32)) b (lp_cont h hz) ha ls (lv_sub hl [1, 2, 3, 0] rfl)
        · have h := pf_neg h c15
          refine lv_iload hx hb dX3_hasOneBy_18 (lv_at hl 3 rfl) ?_
          refine lv_iload_n hx hb dX3_hasOneBy_20 rfl (lv_at hl 1 rfl) ?_
          obtain ⟨v21, hv21, h⟩ := pf_bind h
          refine pf_call (As := [.int x4, .int x2]) (rest := []) S0 (c_X6_rest l x4 x2 v21 hv21) (va_cwS 2 hts gX3_hasOneBy_X6_rest rfl rfl rfl kd_X6_rest ⟨Nat.le_of_ble_eq_true rfl, Nat.le_of_ble_eq_true rfl⟩) rfl hl.1 rfl (Nat.le_of_ble_eq_true rfl) dX3_hasOneBy_21 ⟨Nat.zero_le _, Nat.zero_le _⟩ ?_
          refine lv_iconst (v := 1) hx hb dX3_hasOneBy_24 (by decide) ?_
          refine lv_iload_n hx hb dX3_hasOneBy_25 rfl (lv_at hl 1 rfl) ?_
          obtain ⟨v26, hv26, h⟩ := pf_bind h
          refine pf_call (As := [.int (1 : Int32), .int x2]) (rest := [.int v21]) S0 (c_X6_rest l (1 : Int32) x2 v26 hv26) (va_cwS 2 hts gX3_hasOneBy_X6_rest rfl rfl rfl kd_X6_rest ⟨Nat.le_of_ble_eq_true rfl, Nat.le_of_ble_eq_true rfl⟩) rfl hl.1 rfl (Nat.le_of_ble_eq_true rfl) dX3_hasOneBy_26 ⟨Nat.zero_le _, Nat.zero_le _⟩ ?_
          refine lv_icmp_ne (tgt := 34) hx hb dX3_hasOneBy_29 (by decide) (fun c29 => ?_) (fun c29 => ?_)
          · have h := pf_neg h c29
            refine lv_iinc (v := (x4 + (1 : Int32))) (lv' := [(4, .int (x4 + (1 : Int32))), (0, .long x0), (2, .int x2), (3, .int x3)]) hx hb dX3_hasOneBy_34 hl (k := 3) rfl rfl (by decide) rfl (fun ls hl => ?_)
            refine lv_goto (tgt := 3) hx hb dX3_hasOneBy_37 (by decide) ?_
            exact ih x0 x2 x3 (x4 + (1 : Int32)) b (lp_cont h hz) ha ls (lv_sub hl [1, 2, 3, 0] rfl)
          · have h := pf_pos h c29
            have ha := pf_aft ha (lp_exit h hz)
            exact K32 () ha ls (lv_sub hl [] rfl)
  have G3 : ∀ (x0 : Int64) (x2 : Int32) (x3 : Int32) (x4 : Int32), g_X3_hasOneBy_3 x0 x2 x3 x4 = some r → ∀ ls, lv_has ls 5 [(0, .long x0), (2, .int x2), (3, .int x3), (4, .int x4)] → W p l e (headSpec wsX3_hasOneBy { frames := 1, cells := 0, slots := 0, locals := 22 }).room s m ([.long y0, .int y2, .int y3] : List Value).toArray below meth c s.heap [] 0 0 (MQ below (k2_QcV (.int r)) ([.long y0, .int y2, .int y3] : List Value).toArray s 0 0 (fun _ => False)) (F0 m 3 ls []) := by
    intro x0 x2 x3 x4 h ls hl
    unfold g_X3_hasOneBy_3 at h
    obtain ⟨b, h, ha⟩ := pf_bind h
    exact L3 pfFU x0 x2 x3 x4 b h ha ls hl
  unfold p_X3_hasOneBy at h
  refine lv_iconst (v := 0) hx hb dX3_hasOneBy_0 (by decide) ?_
  refine lv_istore (lv' := [(4, .int (0 : Int32)), (0, .long y0), (2, .int y2), (3, .int y3)]) hx hb dX3_hasOneBy_1 hl (by decide) rfl (fun ls hl => ?_)
  exact G3 y0 y2 y3 (0 : Int32) h ls (lv_sub hl [1, 2, 3, 0] rfl)
-- X3_bar
def e_X3_bar_48 (x2 : Int32) : Option Int32 :=
  some x2
def e_X3_bar_39 (x5 : Int32) : Option Int32 :=
  some x5
def s_X3_bar_14 (x2 : Int32) (x3 : Int64) (x5 : Int32) : Option (Int32 ⊕ (Int32 ⊕ Unit)) :=
  (if x2 ≤ x5 then some (Sum.inr (Sum.inr ())) else ((p_X6_goesInto x5 x2).bind fun v23 => (if v23 = 0 then some (Sum.inl (x5 + (1 : Int32))) else ((p_X3_hasOneBy x3 x5 x2).bind fun v33 => (if v33 = 0 then some (Sum.inr (Sum.inl x5)) else some (Sum.inl (x5 + (1 : Int32))))))))
def a_X3_bar_14 (x2 : Int32) (b : Int32 ⊕ Unit) : Option Int32 := Sum.elim (fun q : Int32 => e_X3_bar_39 q) (fun q : Unit => e_X3_bar_48 x2) b
def g_X3_bar_14 (x2 : Int32) (x3 : Int64) (x5 : Int32) : Option Int32 := (lpF (fun q : Int32 => s_X3_bar_14 x2 x3 q) pfFU x5).bind (a_X3_bar_14 x2)
def p_X3_bar (y0 : Int64) (y2 : Int32) : Option Int32 :=
  ((p_X3_all y2).bind fun v1 => g_X3_bar_14 y2 (v1 &&& (y0 ^^^ (-1 : Int64))) (1 : Int32))
theorem kd_X3_bar : yX3_bar.cls ≠ "java/lang/invoke/MethodHandle" ∧ yX3_bar.cls ≠ "java/lang/invoke/VarHandle" ∧ (parseMethodDescriptor yX3_bar.desc).map (fun d => d.parameters.length) = some 2 := by decide +kernel
set_option maxHeartbeats 4000000 in
set_option maxRecDepth 100000 in
theorem c_X3_bar (l : Launch) (y0 : Int64) (y2 : Int32) (r : Int32) (h : p_X3_bar y0 y2 = some r) : Met l yX3_bar wsX3_bar { frames := 2, cells := 0, slots := 0, locals := 48 } (fun v _ => v = ([.long y0, .int y2] : List Value).toArray) (k2_QcV (.int r)) 0 0 (fun _ => False) := by
  refine Met.ofW (cc := cX3_bar) (maxL := 6) (ret := some .int) (by decide) rfl ?_
  intro p e s m args below meth c s₁ B hml hv
  subst hv
  have hx := B.exec
  have hb := B.bytes
  have hr := B.returns
  have hts := atoms_spec (ws := wsX3_bar) B.pre
  have hown : s.vm.findClass RX3 = some m.cls := findClass_of_methodNamed B.named
  have hlocks := B.notSynchronized
  have S0 : CallFix p m c cX3_bar 6 s ([.long y0, .int y2] : List Value).toArray wsX3_bar RX3 := ⟨hx, hb, hml, hown, hts⟩
  have hl := lv_entry [.long y0, .int y2] (n := 6) (Nat.le_of_ble_eq_true rfl)
  rw [lg_entry_eq]
  generalize (lg_sl [.long y0, .int y2] ++ List.replicate (6 - (lg_sl [.long y0, .int y2]).length) Slot.unset).toArray = ls at hl ⊢
  have hl : lv_has ls 6 [(0, .long y0), (2, .int y2)] := hl
  have K48 : ∀ (x2 : Int32), e_X3_bar_48 x2 = some r → ∀ ls, lv_has ls 6 [(2, .int x2)] → W p l e (headSpec wsX3_bar { frames := 2, cells := 0, slots := 0, locals := 48 }).room s m ([.long y0, .int y2] : List Value).toArray below meth c s.heap [] 0 0 (MQ below (k2_QcV (.int r)) ([.long y0, .int y2] : List Value).toArray s 0 0 (fun _ => False)) (F0 m 48 ls []) := by
    intro x2 h ls hl
    unfold e_X3_bar_48 at h
    refine lv_iload_n hx hb dX3_bar_48 rfl (lv_at hl 0 rfl) ?_
    exact W.iret hx hb hr (fun t ht _ => ⟨pf_ri h, ht⟩) (fun q hq => absurd hq List.not_mem_nil) dX3_bar_49
  have K39 : ∀ (x5 : Int32), e_X3_bar_39 x5 = some r → ∀ ls, lv_has ls 6 [(5, .int x5)] → W p l e (headSpec wsX3_bar { frames := 2, cells := 0, slots := 0, locals := 48 }).room s m ([.long y0, .int y2] : List Value).toArray below meth c s.heap [] 0 0 (MQ below (k2_QcV (.int r)) ([.long y0, .int y2] : List Value).toArray s 0 0 (fun _ => False)) (F0 m 39 ls []) := by
    intro x5 h ls hl
    unfold e_X3_bar_39 at h
    refine lv_iload hx hb dX3_bar_39 (lv_at hl 0 rfl) ?_
    exact W.iret hx hb hr (fun t ht _ => ⟨pf_ri h, ht⟩) (fun q hq => absurd hq List.not_mem_nil) dX3_bar_41
  have L14 : ∀ (n : Nat) (x2 : Int32) (x3 : Int64) (x5 : Int32) (b : Int32 ⊕ Unit), lpF (fun q : Int32 => s_X3_bar_14 x2 x3 q) n x5 = some b → a_X3_bar_14 x2 b = some r → ∀ ls, lv_has ls 6 [(2, .int x2), (3, .long x3), (5, .int x5)] → W p l e (headSpec wsX3_bar { frames := 2, cells := 0, slots := 0, locals := 48 }).room s m ([.long y0, .int y2] : List Value).toArray below meth c s.heap [] 0 0 (MQ below (k2_QcV (.int r)) ([.long y0, .int y2] : List Value).toArray s 0 0 (fun _ => False)) (F0 m 14 ls []) := by
    intro n
    induction n with
    | zero => intro x2 x3 x5 b h; exact lp_zero h
    | succ n ih =>
      intro x2 x3 x5 b h ha ls hl
      obtain ⟨z14, h, hz⟩ := lp_open h
      have h : s_X3_bar_14 x2 x3 x5 = some z14 := h
      unfold s_X3_bar_14 at h
      refine lv_iload hx hb dX3_bar_14 (lv_at hl 2 rfl) ?_
      refine lv_iload_n hx hb dX3_bar_16 rfl (lv_at hl 0 rfl) ?_
      refine lv_icmp_ge (tgt := 48) hx hb dX3_bar_17 (by decide) (fun c17 => ?_) (fun c17 => ?_)
      · have h := pf_pos h c17
        have ha := pf_aft ha (lp_exit h hz)
        exact K48 x2 ha ls (lv_sub hl [0] rfl)
      · have h := pf_neg h c17
        refine lv_iload hx hb dX3_bar_20 (lv_at hl 2 rfl) ?_
        refine lv_iload_n hx hb dX3_bar_22 rfl (lv_at hl 0 rfl) ?_
        obtain ⟨v23, hv23, h⟩ := pf_bind h
        refine pf_call (As := [.int x5, .int x2]) (rest := []) S0 (c_X6_goesInto l x5 x2 v23 hv23) (va_cwS 2 hts gX3_bar_X6_goesInto rfl rfl rfl kd_X6_goesInto ⟨Nat.le_of_ble_eq_true rfl, Nat.le_of_ble_eq_true rfl⟩) rfl hl.1 rfl (Nat.le_of_ble_eq_true rfl) dX3_bar_23 ⟨Nat.zero_le _, Nat.zero_le _⟩ ?_
        refine lv_if_eq (tgt := 42) hx hb dX3_bar_26 (by decide) (fun c26 => ?_) (fun c26 => ?_)
        · have h := pf_pos h c26
          refine lv_iinc (v := (x5 + (1 : Int32))) (lv' := [(5, .int (x5 + (1 : Int32))), (2, .int x2), (3, .long x3)]) hx hb dX3_bar_42 hl (k := 2) rfl rfl (by decide) rfl (fun ls hl => ?_)
          refine lv_goto (tgt := 14) hx hb dX3_bar_45 (by decide) ?_
          exact ih x2 x3 (x5 + (1 : Int32)) b (lp_cont h hz) ha ls (lv_sub hl [1, 2, 0] rfl)
        · have h := pf_neg h c26
          refine lv_lload_n hx hb dX3_bar_29 rfl (lv_at hl 1 rfl) ?_
          refine lv_iload hx hb dX3_bar_30 (lv_at hl 2 rfl) ?_
          refine lv_iload_n hx hb dX3_bar_32 rfl (lv_at hl 0 rfl) ?_
          obtain ⟨v33, hv33, h⟩ := pf_bind h
          refine pf_call (As := [.long x3, .int x5, .int x2]) (rest := []) S0 (c_X3_hasOneBy l x3 x5 x2 v33 hv33) (va_cwS 3 hts gX3_bar_X3_hasOneBy rfl rfl rfl kd_X3_hasOneBy ⟨Nat.le_of_ble_eq_true rfl, Nat.le_of_ble_eq_true rfl⟩) rfl hl.1 rfl (Nat.le_of_ble_eq_true rfl) dX3_bar_33 ⟨Nat.zero_le _, Nat.zero_le _⟩ ?_
          refine lv_if_ne (tgt := 42) hx hb dX3_bar_36 (by decide) (fun c36 => ?_) (fun c36 => ?_)
          · have h := pf_neg h c36
            refine lv_iinc (v := (x5 + (1 : Int32))) (lv' := [(5, .int (x5 + (1 : Int32))), (2, .int x2), (3, .long x3)]) hx hb dX3_bar_42 hl (k := 2) rfl rfl (by decide) rfl (fun ls hl => ?_)
            refine lv_goto (tgt := 14) hx hb dX3_bar_45 (by decide) ?_
            exact ih x2 x3 (x5 + (1 : Int32)) b (lp_cont h hz) ha ls (lv_sub hl [1, 2, 0] rfl)
          · have h := pf_pos h c36
            have ha := pf_aft ha (lp_exit h hz)
            exact K39 x5 ha ls (lv_sub hl [2] rfl)
  have G14 : ∀ (x2 : Int32) (x3 : Int64) (x5 : Int32), g_X3_bar_14 x2 x3 x5 = some r → ∀ ls, lv_has ls 6 [(2, .int x2), (3, .long x3), (5, .int x5)] → W p l e (headSpec wsX3_bar { frames := 2, cells := 0, slots := 0, locals := 48 }).room s m ([.long y0, .int y2] : List Value).toArray below meth c s.heap [] 0 0 (MQ below (k2_QcV (.int r)) ([.long y0, .int y2] : List Value).toArray s 0 0 (fun _ => False)) (F0 m 14 ls []) := by
    intro x2 x3 x5 h ls hl
    unfold g_X3_bar_14 at h
    obtain ⟨b, h, ha⟩ := pf_bind h
    exact L14 pfFU x2 x3 x5 b h ha ls hl
  unfold p_X3_bar at h
  refine lv_iload_n hx hb dX3_bar_0 rfl (lv_at hl 1 rfl) ?_
  obtain ⟨v1, hv1, h⟩ := pf_bind h
  refine pf_call (As := [.int y2]) (rest := []) S0 (c_X3_all l y2 v1 hv1) (va_cwS 1 hts gX3_bar_X3_all rfl rfl rfl kd_X3_all ⟨Nat.le_of_ble_eq_true rfl, Nat.le_of_ble_eq_true rfl⟩) rfl hl.1 rfl (Nat.le_of_ble_eq_true rfl) dX3_bar_1 ⟨Nat.zero_le _, Nat.zero_le _⟩ ?_
  refine lv_lload_n hx hb dX3_bar_4 rfl (lv_at hl 0 rfl) ?_
  refine lv_ldc2 (v := -1) hx hb hown (hts (.constantLong RX3 34 (-1)) (by decide +kernel)) dX3_bar_5 ?_
  refine lv_lxor hx hb dX3_bar_8 ?_
  refine lv_land hx hb dX3_bar_9 ?_
  refine lv_lstore_n (lv' := [(3, .long (v1 &&& (y0 ^^^ (-1 : Int64)))), (0, .long y0), (2, .int y2)]) hx hb dX3_bar_10 rfl hl (by decide) rfl (fun ls hl => ?_)
  refine lv_iconst (v := 1) hx hb dX3_bar_11 (by decide) ?_
  refine lv_istore (lv' := [(5, .int (1 : Int32)), (3, .long (v1 &&& (y0 ^^^ (-1 : Int64)))), (0, .long y0), (2, .int y2)]) hx hb dX3_bar_12 hl (by decide) rfl (fun ls hl => ?_)
  exact G14 y2 (v1 &&& (y0 ^^^ (-1 : Int64))) (1 : Int32) h ls (lv_sub hl [3, 1, 0] rfl)
-- X6_quotient
def p_X6_quotient (y0 : Int32) (y1 : Int32) : Option Int32 :=
  (if (1 : Int32) ≤ y1 then (if y1 = 0 then none else some (y0 / y1)) else some (0 : Int32))
theorem kd_X6_quotient : yX6_quotient.cls ≠ "java/lang/invoke/MethodHandle" ∧ yX6_quotient.cls ≠ "java/lang/invoke/VarHandle" ∧ (parseMethodDescriptor yX6_quotient.desc).map (fun d => d.parameters.length) = some 2 := by decide +kernel
set_option maxHeartbeats 4000000 in
set_option maxRecDepth 100000 in
theorem c_X6_quotient (l : Launch) (y0 : Int32) (y1 : Int32) (r : Int32) (h : p_X6_quotient y0 y1 = some r) : Met l yX6_quotient wsX6_quotient { frames := 0, cells := 0, slots := 0, locals := 0 } (fun v _ => v = ([.int y0, .int y1] : List Value).toArray) (k2_QcV (.int r)) 0 0 (fun _ => False) := by
  refine Met.ofW (cc := cX6_quotient) (maxL := 2) (ret := some .int) (by decide) rfl ?_
  intro p e s m args below meth c s₁ B hml hv
  subst hv
  have hx := B.exec
  have hb := B.bytes
  have hr := B.returns
  have hts := atoms_spec (ws := wsX6_quotient) B.pre
  have hown : s.vm.findClass RX6 = some m.cls := findClass_of_methodNamed B.named
  have hlocks := B.notSynchronized
  have S0 : CallFix p m c cX6_quotient 2 s ([.int y0, .int y1] : List Value).toArray wsX6_quotient RX6 := ⟨hx, hb, hml, hown, hts⟩
  have hl := lv_entry [.int y0, .int y1] (n := 2) (Nat.le_of_ble_eq_true rfl)
  rw [lg_entry_eq]
  generalize (lg_sl [.int y0, .int y1] ++ List.replicate (2 - (lg_sl [.int y0, .int y1]).length) Slot.unset).toArray = ls at hl ⊢
  have hl : lv_has ls 2 [(0, .int y0), (1, .int y1)] := hl
  unfold p_X6_quotient at h
  refine lv_iload_n hx hb dX6_quotient_0 rfl (lv_at hl 1 rfl) ?_
  refine lv_iconst (v := 1) hx hb dX6_quotient_1 (by decide) ?_
  refine lv_icmp_ge (tgt := 9) hx hb dX6_quotient_2 (by decide) (fun c2 => ?_) (fun c2 => ?_)
  · have h := pf_pos h c2
    refine lv_iload_n hx hb dX6_quotient_9 rfl (lv_at hl 0 rfl) ?_
    refine lv_iload_n hx hb dX6_quotient_10 rfl (lv_at hl 1 rfl) ?_
    obtain ⟨hd11, h⟩ := pf_guard h
    refine lv_idiv hx hb dX6_quotient_11 hd11 ?_
    exact W.iret hx hb hr (fun t ht _ => ⟨pf_ri h, ht⟩) (fun q hq => absurd hq List.not_mem_nil) dX6_quotient_12
  · have h := pf_neg h c2
    refine lv_iconst (v := 0) hx hb dX6_quotient_5 (by decide) ?_
    refine lv_goto (tgt := 12) hx hb dX6_quotient_6 (by decide) ?_
    exact W.iret hx hb hr (fun t ht _ => ⟨pf_ri h, ht⟩) (fun q hq => absurd hq List.not_mem_nil) dX6_quotient_12
-- X3_degree
def p_X3_degree (y0 : Int64) (y2 : Int32) : Option Int32 :=
  ((p_X3_all y2).bind fun v1 => ((p_X3_size v1).bind fun v4 => ((p_X3_size y0).bind fun v8 => ((p_X6_quotient v4 v8).bind fun v11 => some v11))))
theorem kd_X3_degree : yX3_degree.cls ≠ "java/lang/invoke/MethodHandle" ∧ yX3_degree.cls ≠ "java/lang/invoke/VarHandle" ∧ (parseMethodDescriptor yX3_degree.desc).map (fun d => d.parameters.length) = some 2 := by decide +kernel
set_option maxHeartbeats 4000000 in
set_option maxRecDepth 100000 in
theorem c_X3_degree (l : Launch) (y0 : Int64) (y2 : Int32) (r : Int32) (h : p_X3_degree y0 y2 = some r) : Met l yX3_degree wsX3_degree { frames := 2, cells := 0, slots := 0, locals := 48 } (fun v _ => v = ([.long y0, .int y2] : List Value).toArray) (k2_QcV (.int r)) 0 0 (fun _ => False) := by
  refine Met.ofW (cc := cX3_degree) (maxL := 3) (ret := some .int) (by decide) rfl ?_
  intro p e s m args below meth c s₁ B hml hv
  subst hv
  have hx := B.exec
  have hb := B.bytes
  have hr := B.returns
  have hts := atoms_spec (ws := wsX3_degree) B.pre
  have hown : s.vm.findClass RX3 = some m.cls := findClass_of_methodNamed B.named
  have hlocks := B.notSynchronized
  have S0 : CallFix p m c cX3_degree 3 s ([.long y0, .int y2] : List Value).toArray wsX3_degree RX3 := ⟨hx, hb, hml, hown, hts⟩
  have hl := lv_entry [.long y0, .int y2] (n := 3) (Nat.le_of_ble_eq_true rfl)
  rw [lg_entry_eq]
  generalize (lg_sl [.long y0, .int y2] ++ List.replicate (3 - (lg_sl [.long y0, .int y2]).length) Slot.unset).toArray = ls at hl ⊢
  have hl : lv_has ls 3 [(0, .long y0), (2, .int y2)] := hl
  unfold p_X3_degree at h
  refine lv_iload_n hx hb dX3_degree_0 rfl (lv_at hl 1 rfl) ?_
  obtain ⟨v1, hv1, h⟩ := pf_bind h
  refine pf_call (As := [.int y2]) (rest := []) S0 (c_X3_all l y2 v1 hv1) (va_cwS 1 hts gX3_degree_X3_all rfl rfl rfl kd_X3_all ⟨Nat.le_of_ble_eq_true rfl, Nat.le_of_ble_eq_true rfl⟩) rfl hl.1 rfl (Nat.le_of_ble_eq_true rfl) dX3_degree_1 ⟨Nat.zero_le _, Nat.zero_le _⟩ ?_
  obtain ⟨v4, hv4, h⟩ := pf_bind h
  refine pf_call (As := [.long v1]) (rest := []) S0 (c_X3_size l v1 v4 hv4) (va_cwS 1 hts gX3_degree_X3_size rfl rfl rfl kd_X3_size ⟨Nat.le_of_ble_eq_true rfl, Nat.le_of_ble_eq_true rfl⟩) rfl hl.1 rfl (Nat.le_of_ble_eq_true rfl) dX3_degree_4 ⟨Nat.zero_le _, Nat.zero_le _⟩ ?_
  refine lv_lload_n hx hb dX3_degree_7 rfl (lv_at hl 0 rfl) ?_
  obtain ⟨v8, hv8, h⟩ := pf_bind h
  refine pf_call (As := [.long y0]) (rest := [.int v4]) S0 (c_X3_size l y0 v8 hv8) (va_cwS 1 hts gX3_degree_X3_size rfl rfl rfl kd_X3_size ⟨Nat.le_of_ble_eq_true rfl, Nat.le_of_ble_eq_true rfl⟩) rfl hl.1 rfl (Nat.le_of_ble_eq_true rfl) dX3_degree_8 ⟨Nat.zero_le _, Nat.zero_le _⟩ ?_
  obtain ⟨v11, hv11, h⟩ := pf_bind h
  refine pf_call (As := [.int v4, .int v8]) (rest := []) S0 (c_X6_quotient l v4 v8 v11 hv11) (va_cwS 2 hts gX3_degree_X6_quotient rfl rfl rfl kd_X6_quotient ⟨Nat.le_of_ble_eq_true rfl, Nat.le_of_ble_eq_true rfl⟩) rfl hl.1 rfl (Nat.le_of_ble_eq_true rfl) dX3_degree_11 ⟨Nat.zero_le _, Nat.zero_le _⟩ ?_
  exact W.iret hx hb hr (fun t ht _ => ⟨pf_ri h, ht⟩) (fun q hq => absurd hq List.not_mem_nil) dX3_degree_14
-- X3_isReal
def p_X3_isReal (y0 : Int64) (y2 : Int32) : Option Int32 :=
  ((p_X3_has y0 (y2 - (1 : Int32))).bind fun v4 => (if v4 &&& 1 = v4 then some v4 else none))
theorem kd_X3_isReal : yX3_isReal.cls ≠ "java/lang/invoke/MethodHandle" ∧ yX3_isReal.cls ≠ "java/lang/invoke/VarHandle" ∧ (parseMethodDescriptor yX3_isReal.desc).map (fun d => d.parameters.length) = some 2 := by decide +kernel
set_option maxHeartbeats 4000000 in
set_option maxRecDepth 100000 in
theorem c_X3_isReal (l : Launch) (y0 : Int64) (y2 : Int32) (r : Int32) (h : p_X3_isReal y0 y2 = some r) : Met l yX3_isReal wsX3_isReal { frames := 1, cells := 0, slots := 0, locals := 22 } (fun v _ => v = ([.long y0, .int y2] : List Value).toArray) (k2_QcV (.int r)) 0 0 (fun _ => False) := by
  refine Met.ofW (cc := cX3_isReal) (maxL := 3) (ret := some .boolean) (by decide) rfl ?_
  intro p e s m args below meth c s₁ B hml hv
  subst hv
  have hx := B.exec
  have hb := B.bytes
  have hr := B.returns
  have hts := atoms_spec (ws := wsX3_isReal) B.pre
  have hown : s.vm.findClass RX3 = some m.cls := findClass_of_methodNamed B.named
  have hlocks := B.notSynchronized
  have S0 : CallFix p m c cX3_isReal 3 s ([.long y0, .int y2] : List Value).toArray wsX3_isReal RX3 := ⟨hx, hb, hml, hown, hts⟩
  have hl := lv_entry [.long y0, .int y2] (n := 3) (Nat.le_of_ble_eq_true rfl)
  rw [lg_entry_eq]
  generalize (lg_sl [.long y0, .int y2] ++ List.replicate (3 - (lg_sl [.long y0, .int y2]).length) Slot.unset).toArray = ls at hl ⊢
  have hl : lv_has ls 3 [(0, .long y0), (2, .int y2)] := hl
  unfold p_X3_isReal at h
  refine lv_lload_n hx hb dX3_isReal_0 rfl (lv_at hl 0 rfl) ?_
  refine lv_iload_n hx hb dX3_isReal_1 rfl (lv_at hl 1 rfl) ?_
  refine lv_iconst (v := 1) hx hb dX3_isReal_2 (by decide) ?_
  refine lv_isub hx hb dX3_isReal_3 ?_
  obtain ⟨v4, hv4, h⟩ := pf_bind h
  refine pf_call (As := [.long y0, .int (y2 - (1 : Int32))]) (rest := []) S0 (c_X3_has l y0 (y2 - (1 : Int32)) v4 hv4) (va_cwS 2 hts gX3_isReal_X3_has rfl rfl rfl kd_X3_has ⟨Nat.le_of_ble_eq_true rfl, Nat.le_of_ble_eq_true rfl⟩) rfl hl.1 rfl (Nat.le_of_ble_eq_true rfl) dX3_isReal_4 ⟨Nat.zero_le _, Nat.zero_le _⟩ ?_
  obtain ⟨hn7, h⟩ := pf_need h
  exact W.zret hx hb hr (pf_nb hn7) (fun t ht _ => ⟨pf_ri h, ht⟩) (fun q hq => absurd hq List.not_mem_nil) dX3_isReal_7
-- X3_isCyclic
def e_X3_isCyclic_50  : Option Int32 :=
  some (0 : Int32)
def e_X3_isCyclic_42  : Option Int32 :=
  some (1 : Int32)
def s_X3_isCyclic_15 (x0 : Int64) (x2 : Int32) (x3 : Int64) (x5 : Int32) (x6 : Int32) : Option (Int32 ⊕ (Unit ⊕ Unit)) :=
  (if x2 ≤ x6 then some (Sum.inr (Sum.inr ())) else ((p_X3_has x3 x6).bind fun v24 => (if v24 = 0 then some (Sum.inl (x6 + (1 : Int32))) else ((p_X3_orderOver x0 x6 x2).bind fun v34 => (if v34 = x5 then some (Sum.inr (Sum.inl ())) else some (Sum.inl (x6 + (1 : Int32))))))))
def a_X3_isCyclic_15  (b : Unit ⊕ Unit) : Option Int32 := Sum.elim (fun q : Unit => e_X3_isCyclic_42 ) (fun q : Unit => e_X3_isCyclic_50 ) b
def g_X3_isCyclic_15 (x0 : Int64) (x2 : Int32) (x3 : Int64) (x5 : Int32) (x6 : Int32) : Option Int32 := (lpF (fun q : Int32 => s_X3_isCyclic_15 x0 x2 x3 x5 q) pfFU x6).bind (a_X3_isCyclic_15 )
def p_X3_isCyclic (y0 : Int64) (y2 : Int32) : Option Int32 :=
  ((p_X3_all y2).bind fun v1 => ((p_X3_degree y0 y2).bind fun v7 => g_X3_isCyclic_15 y0 y2 v1 v7 (0 : Int32)))
theorem kd_X3_isCyclic : yX3_isCyclic.cls ≠ "java/lang/invoke/MethodHandle" ∧ yX3_isCyclic.cls ≠ "java/lang/invoke/VarHandle" ∧ (parseMethodDescriptor yX3_isCyclic.desc).map (fun d => d.parameters.length) = some 2 := by decide +kernel
set_option maxHeartbeats 4000000 in
set_option maxRecDepth 100000 in
theorem c_X3_isCyclic (l : Launch) (y0 : Int64) (y2 : Int32) (r : Int32) (h : p_X3_isCyclic y0 y2 = some r) : Met l yX3_isCyclic wsX3_isCyclic { frames := 3, cells := 0, slots := 0, locals := 70 } (fun v _ => v = ([.long y0, .int y2] : List Value).toArray) (k2_QcV (.int r)) 0 0 (fun _ => False) := by
  refine Met.ofW (cc := cX3_isCyclic) (maxL := 7) (ret := some .boolean) (by decide) rfl ?_
  intro p e s m args below meth c s₁ B hml hv
  subst hv
  have hx := B.exec
  have hb := B.bytes
  have hr := B.returns
  have hts := atoms_spec (ws := wsX3_isCyclic) B.pre
  have hown : s.vm.findClass RX3 = some m.cls := findClass_of_methodNamed B.named
  have hlocks := B.notSynchronized
  have S0 : CallFix p m c cX3_isCyclic 7 s ([.long y0, .int y2] : List Value).toArray wsX3_isCyclic RX3 := ⟨hx, hb, hml, hown, hts⟩
  have hl := lv_entry [.long y0, .int y2] (n := 7) (Nat.le_of_ble_eq_true rfl)
  rw [lg_entry_eq]
  generalize (lg_sl [.long y0, .int y2] ++ List.replicate (7 - (lg_sl [.long y0, .int y2]).length) Slot.unset).toArray = ls at hl ⊢
  have hl : lv_has ls 7 [(0, .long y0), (2, .int y2)] := hl
  have K50 : ∀ (_ : Unit), e_X3_isCyclic_50  = some r → ∀ ls, lv_has ls 7 [] → W p l e (headSpec wsX3_isCyclic { frames := 3, cells := 0, slots := 0, locals := 70 }).room s m ([.long y0, .int y2] : List Value).toArray below meth c s.heap [] 0 0 (MQ below (k2_QcV (.int r)) ([.long y0, .int y2] : List Value).toArray s 0 0 (fun _ => False)) (F0 m 50 ls []) := by
    intro _ h ls hl
    unfold e_X3_isCyclic_50 at h
    refine lv_iconst (v := 0) hx hb dX3_isCyclic_50 (by decide) ?_
    exact W.zret hx hb hr rfl (fun t ht _ => ⟨pf_ri h, ht⟩) (fun q hq => absurd hq List.not_mem_nil) dX3_isCyclic_51
  have K42 : ∀ (_ : Unit), e_X3_isCyclic_42  = some r → ∀ ls, lv_has ls 7 [] → W p l e (headSpec wsX3_isCyclic { frames := 3, cells := 0, slots := 0, locals := 70 }).room s m ([.long y0, .int y2] : List Value).toArray below meth c s.heap [] 0 0 (MQ below (k2_QcV (.int r)) ([.long y0, .int y2] : List Value).toArray s 0 0 (fun _ => False)) (F0 m 42 ls []) := by
    intro _ h ls hl
    unfold e_X3_isCyclic_42 at h
    refine lv_iconst (v := 1) hx hb dX3_isCyclic_42 (by decide) ?_
    exact W.zret hx hb hr rfl (fun t ht _ => ⟨pf_ri h, ht⟩) (fun q hq => absurd hq List.not_mem_nil) dX3_isCyclic_43
  have L15 : ∀ (n : Nat) (x0 : Int64) (x2 : Int32) (x3 : Int64) (x5 : Int32) (x6 : Int32) (b : Unit ⊕ Unit), lpF (fun q : Int32 => s_X3_isCyclic_15 x0 x2 x3 x5 q) n x6 = some b → a_X3_isCyclic_15 b = some r → ∀ ls, lv_has ls 7 [(0, .long x0), (2, .int x2), (3, .long x3), (5, .int x5), (6, .int x6)] → W p l e (headSpec wsX3_isCyclic { frames := 3, cells := 0, slots := 0, locals := 70 }).room s m ([.long y0, .int y2] : List Value).toArray below meth c s.heap [] 0 0 (MQ below (k2_QcV (.int r)) ([.long y0, .int y2] : List Value).toArray s 0 0 (fun _ => False)) (F0 m 15 ls []) := by
    intro n
    induction n with
    | zero => intro x0 x2 x3 x5 x6 b h; exact lp_zero h
    | succ n ih =>
      intro x0 x2 x3 x5 x6 b h ha ls hl
      obtain ⟨z15, h, hz⟩ := lp_open h
      have h : s_X3_isCyclic_15 x0 x2 x3 x5 x6 = some z15 := h
      unfold s_X3_isCyclic_15 at h
      refine lv_iload hx hb dX3_isCyclic_15 (lv_at hl 4 rfl) ?_
      refine lv_iload_n hx hb dX3_isCyclic_17 rfl (lv_at hl 1 rfl) ?_
      refine lv_icmp_ge (tgt := 50) hx hb dX3_isCyclic_18 (by decide) (fun c18 => ?_) (fun c18 => ?_)
      · have h := pf_pos h c18
        have ha := pf_aft ha (lp_exit h hz)
        exact K50 () ha ls (lv_sub hl [] rfl)
      · have h := pf_neg h c18
        refine lv_lload_n hx hb dX3_isCyclic_21 rfl (lv_at hl 2 rfl) ?_
        refine lv_iload hx hb dX3_isCyclic_22 (lv_at hl 4 rfl) ?_
        obtain ⟨v24, hv24, h⟩ := pf_bind h
        refine pf_call (As := [.long x3, .int x6]) (rest := []) S0 (c_X3_has l x3 x6 v24 hv24) (va_cwS 2 hts gX3_isCyclic_X3_has rfl rfl rfl kd_X3_has ⟨Nat.le_of_ble_eq_true rfl, Nat.le_of_ble_eq_true rfl⟩) rfl hl.1 rfl (Nat.le_of_ble_eq_true rfl) dX3_isCyclic_24 ⟨Nat.zero_le _, Nat.zero_le _⟩ ?_
        refine lv_if_eq (tgt := 44) hx hb dX3_isCyclic_27 (by decide) (fun c27 => ?_) (fun c27 => ?_)
        · have h := pf_pos h c27
          refine lv_iinc (v := (x6 + (1 : Int32))) (lv' := [(6, .int (x6 + (1 : Int32))), (0, .long x0), (2, .int x2), (3, .long x3), (5, .int x5)]) hx hb dX3_isCyclic_44 hl (k := 4) rfl rfl (by decide) rfl (fun ls hl => ?_)
          refine lv_goto (tgt := 15) hx hb dX3_isCyclic_47 (by decide) ?_
          exact ih x0 x2 x3 x5 (x6 + (1 : Int32)) b (lp_cont h hz) ha ls (lv_sub hl [1, 2, 3, 4, 0] rfl)
        · have h := pf_neg h c27
          refine lv_lload_n hx hb dX3_isCyclic_30 rfl (lv_at hl 0 rfl) ?_
          refine lv_iload hx hb dX3_isCyclic_31 (lv_at hl 4 rfl) ?_
          refine lv_iload_n hx hb dX3_isCyclic_33 rfl (lv_at hl 1 rfl) ?_
          obtain ⟨v34, hv34, h⟩ := pf_bind h
          refine pf_call (As := [.long x0, .int x6, .int x2]) (rest := []) S0 (c_X3_orderOver l x0 x6 x2 v34 hv34) (va_cwS 3 hts gX3_isCyclic_X3_orderOver rfl rfl rfl kd_X3_orderOver ⟨Nat.le_of_ble_eq_true rfl, Nat.le_of_ble_eq_true rfl⟩) rfl hl.1 rfl (Nat.le_of_ble_eq_true rfl) dX3_isCyclic_34 ⟨Nat.zero_le _, Nat.zero_le _⟩ ?_
          refine lv_iload hx hb dX3_isCyclic_37 (lv_at hl 3 rfl) ?_
          refine lv_icmp_ne (tgt := 44) hx hb dX3_isCyclic_39 (by decide) (fun c39 => ?_) (fun c39 => ?_)
          · have h := pf_neg h c39
            refine lv_iinc (v := (x6 + (1 : Int32))) (lv' := [(6, .int (x6 + (1 : Int32))), (0, .long x0), (2, .int x2), (3, .long x3), (5, .int x5)]) hx hb dX3_isCyclic_44 hl (k := 4) rfl rfl (by decide) rfl (fun ls hl => ?_)
            refine lv_goto (tgt := 15) hx hb dX3_isCyclic_47 (by decide) ?_
            exact ih x0 x2 x3 x5 (x6 + (1 : Int32)) b (lp_cont h hz) ha ls (lv_sub hl [1, 2, 3, 4, 0] rfl)
          · have h := pf_pos h c39
            have ha := pf_aft ha (lp_exit h hz)
            exact K42 () ha ls (lv_sub hl [] rfl)
  have G15 : ∀ (x0 : Int64) (x2 : Int32) (x3 : Int64) (x5 : Int32) (x6 : Int32), g_X3_isCyclic_15 x0 x2 x3 x5 x6 = some r → ∀ ls, lv_has ls 7 [(0, .long x0), (2, .int x2), (3, .long x3), (5, .int x5), (6, .int x6)] → W p l e (headSpec wsX3_isCyclic { frames := 3, cells := 0, slots := 0, locals := 70 }).room s m ([.long y0, .int y2] : List Value).toArray below meth c s.heap [] 0 0 (MQ below (k2_QcV (.int r)) ([.long y0, .int y2] : List Value).toArray s 0 0 (fun _ => False)) (F0 m 15 ls []) := by
    intro x0 x2 x3 x5 x6 h ls hl
    unfold g_X3_isCyclic_15 at h
    obtain ⟨b, h, ha⟩ := pf_bind h
    exact L15 pfFU x0 x2 x3 x5 x6 b h ha ls hl
  unfold p_X3_isCyclic at h
  refine lv_iload_n hx hb dX3_isCyclic_0 rfl (lv_at hl 1 rfl) ?_
  obtain ⟨v1, hv1, h⟩ := pf_bind h
  refine pf_call (As := [.int y2]) (rest := []) S0 (c_X3_all l y2 v1 hv1) (va_cwS 1 hts gX3_isCyclic_X3_all rfl rfl rfl kd_X3_all ⟨Nat.le_of_ble_eq_true rfl, Nat.le_of_ble_eq_true rfl⟩) rfl hl.1 rfl (Nat.le_of_ble_eq_true rfl) dX3_isCyclic_1 ⟨Nat.zero_le _, Nat.zero_le _⟩ ?_
  refine lv_lstore_n (lv' := [(3, .long v1), (0, .long y0), (2, .int y2)]) hx hb dX3_isCyclic_4 rfl hl (by decide) rfl (fun ls hl => ?_)
  refine lv_lload_n hx hb dX3_isCyclic_5 rfl (lv_at hl 1 rfl) ?_
  refine lv_iload_n hx hb dX3_isCyclic_6 rfl (lv_at hl 2 rfl) ?_
  obtain ⟨v7, hv7, h⟩ := pf_bind h
  refine pf_call (As := [.long y0, .int y2]) (rest := []) S0 (c_X3_degree l y0 y2 v7 hv7) (va_cwS 2 hts gX3_isCyclic_X3_degree rfl rfl rfl kd_X3_degree ⟨Nat.le_of_ble_eq_true rfl, Nat.le_of_ble_eq_true rfl⟩) rfl hl.1 rfl (Nat.le_of_ble_eq_true rfl) dX3_isCyclic_7 ⟨Nat.zero_le _, Nat.zero_le _⟩ ?_
  refine lv_istore (lv' := [(5, .int v7), (3, .long v1), (0, .long y0), (2, .int y2)]) hx hb dX3_isCyclic_10 hl (by decide) rfl (fun ls hl => ?_)
  refine lv_iconst (v := 0) hx hb dX3_isCyclic_12 (by decide) ?_
  refine lv_istore (lv' := [(6, .int (0 : Int32)), (5, .int v7), (3, .long v1), (0, .long y0), (2, .int y2)]) hx hb dX3_isCyclic_13 hl (by decide) rfl (fun ls hl => ?_)
  exact G15 y0 y2 v1 v7 (0 : Int32) h ls (lv_sub hl [3, 4, 2, 1, 0] rfl)
-- X3_sign
def p_X3_sign (y0 : Int64) (y2 : Int32) : Option Int32 :=
  ((p_X3_degree y0 y2).bind fun v2 => ((p_X6_quotient v2 (2 : Int32)).bind fun v6 => ((p_X3_isReal y0 y2).bind fun v12 => (if v12 = 0 then ((p_X6_goesInto (2 : Int32) v6).bind fun v20 => (if v20 = 0 then some (-1 : Int32) else some (1 : Int32))) else some (1 : Int32)))))
theorem kd_X3_sign : yX3_sign.cls ≠ "java/lang/invoke/MethodHandle" ∧ yX3_sign.cls ≠ "java/lang/invoke/VarHandle" ∧ (parseMethodDescriptor yX3_sign.desc).map (fun d => d.parameters.length) = some 2 := by decide +kernel
set_option maxHeartbeats 4000000 in
set_option maxRecDepth 100000 in
theorem c_X3_sign (l : Launch) (y0 : Int64) (y2 : Int32) (r : Int32) (h : p_X3_sign y0 y2 = some r) : Met l yX3_sign wsX3_sign { frames := 3, cells := 0, slots := 0, locals := 70 } (fun v _ => v = ([.long y0, .int y2] : List Value).toArray) (k2_QcV (.int r)) 0 0 (fun _ => False) := by
  refine Met.ofW (cc := cX3_sign) (maxL := 4) (ret := some .int) (by decide) rfl ?_
  intro p e s m args below meth c s₁ B hml hv
  subst hv
  have hx := B.exec
  have hb := B.bytes
  have hr := B.returns
  have hts := atoms_spec (ws := wsX3_sign) B.pre
  have hown : s.vm.findClass RX3 = some m.cls := findClass_of_methodNamed B.named
  have hlocks := B.notSynchronized
  have S0 : CallFix p m c cX3_sign 4 s ([.long y0, .int y2] : List Value).toArray wsX3_sign RX3 := ⟨hx, hb, hml, hown, hts⟩
  have hl := lv_entry [.long y0, .int y2] (n := 4) (Nat.le_of_ble_eq_true rfl)
  rw [lg_entry_eq]
  generalize (lg_sl [.long y0, .int y2] ++ List.replicate (4 - (lg_sl [.long y0, .int y2]).length) Slot.unset).toArray = ls at hl ⊢
  have hl : lv_has ls 4 [(0, .long y0), (2, .int y2)] := hl
  unfold p_X3_sign at h
  refine lv_lload_n hx hb dX3_sign_0 rfl (lv_at hl 0 rfl) ?_
  refine lv_iload_n hx hb dX3_sign_1 rfl (lv_at hl 1 rfl) ?_
  obtain ⟨v2, hv2, h⟩ := pf_bind h
  refine pf_call (As := [.long y0, .int y2]) (rest := []) S0 (c_X3_degree l y0 y2 v2 hv2) (va_cwS 2 hts gX3_sign_X3_degree rfl rfl rfl kd_X3_degree ⟨Nat.le_of_ble_eq_true rfl, Nat.le_of_ble_eq_true rfl⟩) rfl hl.1 rfl (Nat.le_of_ble_eq_true rfl) dX3_sign_2 ⟨Nat.zero_le _, Nat.zero_le _⟩ ?_
  refine lv_iconst (v := 2) hx hb dX3_sign_5 (by decide) ?_
  obtain ⟨v6, hv6, h⟩ := pf_bind h
  refine pf_call (As := [.int v2, .int (2 : Int32)]) (rest := []) S0 (c_X6_quotient l v2 (2 : Int32) v6 hv6) (va_cwS 2 hts gX3_sign_X6_quotient rfl rfl rfl kd_X6_quotient ⟨Nat.le_of_ble_eq_true rfl, Nat.le_of_ble_eq_true rfl⟩) rfl hl.1 rfl (Nat.le_of_ble_eq_true rfl) dX3_sign_6 ⟨Nat.zero_le _, Nat.zero_le _⟩ ?_
  refine lv_istore_n (lv' := [(3, .int v6), (0, .long y0), (2, .int y2)]) hx hb dX3_sign_9 rfl hl (by decide) rfl (fun ls hl => ?_)
  refine lv_lload_n hx hb dX3_sign_10 rfl (lv_at hl 1 rfl) ?_
  refine lv_iload_n hx hb dX3_sign_11 rfl (lv_at hl 2 rfl) ?_
  obtain ⟨v12, hv12, h⟩ := pf_bind h
  refine pf_call (As := [.long y0, .int y2]) (rest := []) S0 (c_X3_isReal l y0 y2 v12 hv12) (va_cwS 2 hts gX3_sign_X3_isReal rfl rfl rfl kd_X3_isReal ⟨Nat.le_of_ble_eq_true rfl, Nat.le_of_ble_eq_true rfl⟩) rfl hl.1 rfl (Nat.le_of_ble_eq_true rfl) dX3_sign_12 ⟨Nat.zero_le _, Nat.zero_le _⟩ ?_
  refine lv_if_ne (tgt := 30) hx hb dX3_sign_15 (by decide) (fun c15 => ?_) (fun c15 => ?_)
  · have h := pf_neg h c15
    refine lv_iconst (v := 1) hx hb dX3_sign_30 (by decide) ?_
    exact W.iret hx hb hr (fun t ht _ => ⟨pf_ri h, ht⟩) (fun q hq => absurd hq List.not_mem_nil) dX3_sign_31
  · have h := pf_pos h c15
    refine lv_iconst (v := 2) hx hb dX3_sign_18 (by decide) ?_
    refine lv_iload_n hx hb dX3_sign_19 rfl (lv_at hl 0 rfl) ?_
    obtain ⟨v20, hv20, h⟩ := pf_bind h
    refine pf_call (As := [.int (2 : Int32), .int v6]) (rest := []) S0 (c_X6_goesInto l (2 : Int32) v6 v20 hv20) (va_cwS 2 hts gX3_sign_X6_goesInto rfl rfl rfl kd_X6_goesInto ⟨Nat.le_of_ble_eq_true rfl, Nat.le_of_ble_eq_true rfl⟩) rfl hl.1 rfl (Nat.le_of_ble_eq_true rfl) dX3_sign_20 ⟨Nat.zero_le _, Nat.zero_le _⟩ ?_
    refine lv_if_ne (tgt := 30) hx hb dX3_sign_23 (by decide) (fun c23 => ?_) (fun c23 => ?_)
    · have h := pf_neg h c23
      refine lv_iconst (v := 1) hx hb dX3_sign_30 (by decide) ?_
      exact W.iret hx hb hr (fun t ht _ => ⟨pf_ri h, ht⟩) (fun q hq => absurd hq List.not_mem_nil) dX3_sign_31
    · have h := pf_pos h c23
      refine lv_iconst (v := -1) hx hb dX3_sign_26 (by decide) ?_
      refine lv_goto (tgt := 31) hx hb dX3_sign_27 (by decide) ?_
      exact W.iret hx hb hr (fun t ht _ => ⟨pf_ri h, ht⟩) (fun q hq => absurd hq List.not_mem_nil) dX3_sign_31
-- X3_characters
def p_X3_characters (y0 : Int64) (y2 : Int32) : Option Int32 :=
  ((p_X3_isCyclic y0 y2).bind fun v2 => (if v2 = 0 then some (0 : Int32) else ((p_X3_degree y0 y2).bind fun v10 => ((p_X3_all v10).bind fun v13 => ((p_X3_size v13).bind fun v16 => some v16)))))
theorem kd_X3_characters : yX3_characters.cls ≠ "java/lang/invoke/MethodHandle" ∧ yX3_characters.cls ≠ "java/lang/invoke/VarHandle" ∧ (parseMethodDescriptor yX3_characters.desc).map (fun d => d.parameters.length) = some 2 := by decide +kernel
set_option maxHeartbeats 4000000 in
set_option maxRecDepth 100000 in
theorem c_X3_characters (l : Launch) (y0 : Int64) (y2 : Int32) (r : Int32) (h : p_X3_characters y0 y2 = some r) : Met l yX3_characters wsX3_characters { frames := 4, cells := 0, slots := 0, locals := 96 } (fun v _ => v = ([.long y0, .int y2] : List Value).toArray) (k2_QcV (.int r)) 0 0 (fun _ => False) := by
  refine Met.ofW (cc := cX3_characters) (maxL := 3) (ret := some .int) (by decide) rfl ?_
  intro p e s m args below meth c s₁ B hml hv
  subst hv
  have hx := B.exec
  have hb := B.bytes
  have hr := B.returns
  have hts := atoms_spec (ws := wsX3_characters) B.pre
  have hown : s.vm.findClass RX3 = some m.cls := findClass_of_methodNamed B.named
  have hlocks := B.notSynchronized
  have S0 : CallFix p m c cX3_characters 3 s ([.long y0, .int y2] : List Value).toArray wsX3_characters RX3 := ⟨hx, hb, hml, hown, hts⟩
  have hl := lv_entry [.long y0, .int y2] (n := 3) (Nat.le_of_ble_eq_true rfl)
  rw [lg_entry_eq]
  generalize (lg_sl [.long y0, .int y2] ++ List.replicate (3 - (lg_sl [.long y0, .int y2]).length) Slot.unset).toArray = ls at hl ⊢
  have hl : lv_has ls 3 [(0, .long y0), (2, .int y2)] := hl
  unfold p_X3_characters at h
  refine lv_lload_n hx hb dX3_characters_0 rfl (lv_at hl 0 rfl) ?_
  refine lv_iload_n hx hb dX3_characters_1 rfl (lv_at hl 1 rfl) ?_
  obtain ⟨v2, hv2, h⟩ := pf_bind h
  refine pf_call (As := [.long y0, .int y2]) (rest := []) S0 (c_X3_isCyclic l y0 y2 v2 hv2) (va_cwS 2 hts gX3_characters_X3_isCyclic rfl rfl rfl kd_X3_isCyclic ⟨Nat.le_of_ble_eq_true rfl, Nat.le_of_ble_eq_true rfl⟩) rfl hl.1 rfl (Nat.le_of_ble_eq_true rfl) dX3_characters_2 ⟨Nat.zero_le _, Nat.zero_le _⟩ ?_
  refine lv_if_eq (tgt := 22) hx hb dX3_characters_5 (by decide) (fun c5 => ?_) (fun c5 => ?_)
  · have h := pf_pos h c5
    refine lv_iconst (v := 0) hx hb dX3_characters_22 (by decide) ?_
    exact W.iret hx hb hr (fun t ht _ => ⟨pf_ri h, ht⟩) (fun q hq => absurd hq List.not_mem_nil) dX3_characters_23
  · have h := pf_neg h c5
    refine lv_lload_n hx hb dX3_characters_8 rfl (lv_at hl 0 rfl) ?_
    refine lv_iload_n hx hb dX3_characters_9 rfl (lv_at hl 1 rfl) ?_
    obtain ⟨v10, hv10, h⟩ := pf_bind h
    refine pf_call (As := [.long y0, .int y2]) (rest := []) S0 (c_X3_degree l y0 y2 v10 hv10) (va_cwS 2 hts gX3_characters_X3_degree rfl rfl rfl kd_X3_degree ⟨Nat.le_of_ble_eq_true rfl, Nat.le_of_ble_eq_true rfl⟩) rfl hl.1 rfl (Nat.le_of_ble_eq_true rfl) dX3_characters_10 ⟨Nat.zero_le _, Nat.zero_le _⟩ ?_
    obtain ⟨v13, hv13, h⟩ := pf_bind h
    refine pf_call (As := [.int v10]) (rest := []) S0 (c_X3_all l v10 v13 hv13) (va_cwS 1 hts gX3_characters_X3_all rfl rfl rfl kd_X3_all ⟨Nat.le_of_ble_eq_true rfl, Nat.le_of_ble_eq_true rfl⟩) rfl hl.1 rfl (Nat.le_of_ble_eq_true rfl) dX3_characters_13 ⟨Nat.zero_le _, Nat.zero_le _⟩ ?_
    obtain ⟨v16, hv16, h⟩ := pf_bind h
    refine pf_call (As := [.long v13]) (rest := []) S0 (c_X3_size l v13 v16 hv16) (va_cwS 1 hts gX3_characters_X3_size rfl rfl rfl kd_X3_size ⟨Nat.le_of_ble_eq_true rfl, Nat.le_of_ble_eq_true rfl⟩) rfl hl.1 rfl (Nat.le_of_ble_eq_true rfl) dX3_characters_16 ⟨Nat.zero_le _, Nat.zero_le _⟩ ?_
    refine lv_goto (tgt := 23) hx hb dX3_characters_19 (by decide) ?_
    exact W.iret hx hb hr (fun t ht _ => ⟨pf_ri h, ht⟩) (fun q hq => absurd hq List.not_mem_nil) dX3_characters_23
