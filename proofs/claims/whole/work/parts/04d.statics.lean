-- X6_leastMultiple
def p_X6_leastMultiple (y0 : Int32) (y1 : Int32) : Option Int32 :=
  ((p_X6_greatestDivisor y0 y1).bind fun v3 => ((p_X6_quotient y0 v3).bind fun v6 => some (v6 * y1)))
theorem kd_X6_leastMultiple : yX6_leastMultiple.cls ≠ "java/lang/invoke/MethodHandle" ∧ yX6_leastMultiple.cls ≠ "java/lang/invoke/VarHandle" ∧ (parseMethodDescriptor yX6_leastMultiple.desc).map (fun d => d.parameters.length) = some 2 := by decide +kernel
set_option maxHeartbeats 4000000 in
set_option maxRecDepth 100000 in
theorem c_X6_leastMultiple (l : Launch) (y0 : Int32) (y1 : Int32) (r : Int32) (h : p_X6_leastMultiple y0 y1 = some r) : Met l yX6_leastMultiple wsX6_leastMultiple { frames := 1, cells := 0, slots := 0, locals := 25 } (fun v _ => v = ([.int y0, .int y1] : List Value).toArray) (k2_QcV (.int r)) 0 0 (fun _ => False) := by
  refine Met.ofW (cc := cX6_leastMultiple) (maxL := 2) (ret := some .int) (by decide) rfl ?_
  intro p e s m args below meth c s₁ B hml hv
  subst hv
  have hx := B.exec
  have hb := B.bytes
  have hr := B.returns
  have hts := atoms_spec (ws := wsX6_leastMultiple) B.pre
  have hown : s.vm.findClass RX6 = some m.cls := findClass_of_methodNamed B.named
  have hlocks := B.notSynchronized
  have S0 : CallFix p m c cX6_leastMultiple 2 s ([.int y0, .int y1] : List Value).toArray wsX6_leastMultiple RX6 := ⟨hx, hb, hml, hown, hts⟩
  have hl := lv_entry [.int y0, .int y1] (n := 2) (Nat.le_of_ble_eq_true rfl)
  rw [lg_entry_eq]
  generalize (lg_sl [.int y0, .int y1] ++ List.replicate (2 - (lg_sl [.int y0, .int y1]).length) Slot.unset).toArray = ls at hl ⊢
  have hl : lv_has ls 2 [(0, .int y0), (1, .int y1)] := hl
  unfold p_X6_leastMultiple at h
  refine lv_iload_n hx hb dX6_leastMultiple_0 rfl (lv_at hl 0 rfl) ?_
  refine lv_iload_n hx hb dX6_leastMultiple_1 rfl (lv_at hl 0 rfl) ?_
  refine lv_iload_n hx hb dX6_leastMultiple_2 rfl (lv_at hl 1 rfl) ?_
  obtain ⟨v3, hv3, h⟩ := pf_bind h
  refine pf_call (As := [.int y0, .int y1]) (rest := [.int y0]) S0 (c_X6_greatestDivisor l y0 y1 v3 hv3) (va_cwS 2 hts gX6_leastMultiple_X6_greatestDivisor rfl rfl rfl kd_X6_greatestDivisor ⟨Nat.le_of_ble_eq_true rfl, Nat.le_of_ble_eq_true rfl⟩) rfl hl.1 rfl (Nat.le_of_ble_eq_true rfl) dX6_leastMultiple_3 ⟨Nat.zero_le _, Nat.zero_le _⟩ ?_
  obtain ⟨v6, hv6, h⟩ := pf_bind h
  refine pf_call (As := [.int y0, .int v3]) (rest := []) S0 (c_X6_quotient l y0 v3 v6 hv6) (va_cwS 2 hts gX6_leastMultiple_X6_quotient rfl rfl rfl kd_X6_quotient ⟨Nat.le_of_ble_eq_true rfl, Nat.le_of_ble_eq_true rfl⟩) rfl hl.1 rfl (Nat.le_of_ble_eq_true rfl) dX6_leastMultiple_6 ⟨Nat.zero_le _, Nat.zero_le _⟩ ?_
  refine lv_iload_n hx hb dX6_leastMultiple_9 rfl (lv_at hl 1 rfl) ?_
  refine lv_imul hx hb dX6_leastMultiple_10 ?_
  exact W.iret hx hb hr (fun t ht _ => ⟨pf_ri h, ht⟩) (fun q hq => absurd hq List.not_mem_nil) dX6_leastMultiple_11
-- X6_isPrime
def e_X6_isPrime_39  : Option Int32 :=
  some (1 : Int32)
def e_X6_isPrime_31  : Option Int32 :=
  some (0 : Int32)
def s_X6_isPrime_16 (x0 : Int32) (x1 : Int32) : Option (Int32 ⊕ (Unit ⊕ Unit)) :=
  (if x0 < (x1 * x1) then some (Sum.inr (Sum.inr ())) else ((p_X6_goesInto x1 x0).bind fun v25 => (if v25 = 0 then some (Sum.inl (x1 + (1 : Int32))) else some (Sum.inr (Sum.inl ())))))
def a_X6_isPrime_16  (b : Unit ⊕ Unit) : Option Int32 := Sum.elim (fun q : Unit => e_X6_isPrime_31 ) (fun q : Unit => e_X6_isPrime_39 ) b
def g_X6_isPrime_16 (x0 : Int32) (x1 : Int32) : Option Int32 := (lpF (fun q : Int32 => s_X6_isPrime_16 x0 q) pfFU x1).bind (a_X6_isPrime_16 )
def p_X6_isPrime (y0 : Int32) : Option Int32 :=
  (if y0 < (2 : Int32) then some (0 : Int32) else (if y0 ≤ (997 : Int32) then g_X6_isPrime_16 y0 (2 : Int32) else some (0 : Int32)))
theorem kd_X6_isPrime : yX6_isPrime.cls ≠ "java/lang/invoke/MethodHandle" ∧ yX6_isPrime.cls ≠ "java/lang/invoke/VarHandle" ∧ (parseMethodDescriptor yX6_isPrime.desc).map (fun d => d.parameters.length) = some 1 := by decide +kernel
set_option maxHeartbeats 4000000 in
set_option maxRecDepth 100000 in
theorem c_X6_isPrime (l : Launch) (y0 : Int32) (r : Int32) (h : p_X6_isPrime y0 = some r) : Met l yX6_isPrime wsX6_isPrime { frames := 1, cells := 0, slots := 0, locals := 21 } (fun v _ => v = ([.int y0] : List Value).toArray) (k2_QcV (.int r)) 0 0 (fun _ => False) := by
  refine Met.ofW (cc := cX6_isPrime) (maxL := 2) (ret := some .boolean) (by decide) rfl ?_
  intro p e s m args below meth c s₁ B hml hv
  subst hv
  have hx := B.exec
  have hb := B.bytes
  have hr := B.returns
  have hts := atoms_spec (ws := wsX6_isPrime) B.pre
  have hown : s.vm.findClass RX6 = some m.cls := findClass_of_methodNamed B.named
  have hlocks := B.notSynchronized
  have S0 : CallFix p m c cX6_isPrime 2 s ([.int y0] : List Value).toArray wsX6_isPrime RX6 := ⟨hx, hb, hml, hown, hts⟩
  have hl := lv_entry [.int y0] (n := 2) (Nat.le_of_ble_eq_true rfl)
  rw [lg_entry_eq]
  generalize (lg_sl [.int y0] ++ List.replicate (2 - (lg_sl [.int y0]).length) Slot.unset).toArray = ls at hl ⊢
  have hl : lv_has ls 2 [(0, .int y0)] := hl
  have K39 : ∀ (_ : Unit), e_X6_isPrime_39  = some r → ∀ ls, lv_has ls 2 [] → W p l e (headSpec wsX6_isPrime { frames := 1, cells := 0, slots := 0, locals := 21 }).room s m ([.int y0] : List Value).toArray below meth c s.heap [] 0 0 (MQ below (k2_QcV (.int r)) ([.int y0] : List Value).toArray s 0 0 (fun _ => False)) (F0 m 39 ls []) := by
    intro _ h ls hl
    unfold e_X6_isPrime_39 at h
    refine lv_iconst (v := 1) hx hb dX6_isPrime_39 (by decide) ?_
    exact W.zret hx hb hr rfl (fun t ht _ => ⟨pf_ri h, ht⟩) (fun q hq => absurd hq List.not_mem_nil) dX6_isPrime_40
  have K31 : ∀ (_ : Unit), e_X6_isPrime_31  = some r → ∀ ls, lv_has ls 2 [] → W p l e (headSpec wsX6_isPrime { frames := 1, cells := 0, slots := 0, locals := 21 }).room s m ([.int y0] : List Value).toArray below meth c s.heap [] 0 0 (MQ below (k2_QcV (.int r)) ([.int y0] : List Value).toArray s 0 0 (fun _ => False)) (F0 m 31 ls []) := by
    intro _ h ls hl
    unfold e_X6_isPrime_31 at h
    refine lv_iconst (v := 0) hx hb dX6_isPrime_31 (by decide) ?_
    exact W.zret hx hb hr rfl (fun t ht _ => ⟨pf_ri h, ht⟩) (fun q hq => absurd hq List.not_mem_nil) dX6_isPrime_32
  have L16 : ∀ (n : Nat) (x0 : Int32) (x1 : Int32) (b : Unit ⊕ Unit), lpF (fun q : Int32 => s_X6_isPrime_16 x0 q) n x1 = some b → a_X6_isPrime_16 b = some r → ∀ ls, lv_has ls 2 [(0, .int x0), (1, .int x1)] → W p l e (headSpec wsX6_isPrime { frames := 1, cells := 0, slots := 0, locals := 21 }).room s m ([.int y0] : List Value).toArray below meth c s.heap [] 0 0 (MQ below (k2_QcV (.int r)) ([.int y0] : List Value).toArray s 0 0 (fun _ => False)) (F0 m 16 ls []) := by
    intro n
    induction n with
    | zero => intro x0 x1 b h; exact lp_zero h
    | succ n ih =>
      intro x0 x1 b h ha ls hl
      obtain ⟨z16, h, hz⟩ := lp_open h
      have h : s_X6_isPrime_16 x0 x1 = some z16 := h
      unfold s_X6_isPrime_16 at h
      refine lv_iload_n hx hb dX6_isPrime_16 rfl (lv_at hl 1 rfl) ?_
      refine lv_iload_n hx hb dX6_isPrime_17 rfl (lv_at hl 1 rfl) ?_
      refine lv_imul hx hb dX6_isPrime_18 ?_
      refine lv_iload_n hx hb dX6_isPrime_19 rfl (lv_at hl 0 rfl) ?_
      refine lv_icmp_gt (tgt := 39) hx hb dX6_isPrime_20 (by decide) (fun c20 => ?_) (fun c20 => ?_)
      · have h := pf_pos h c20
        have ha := pf_aft ha (lp_exit h hz)
        exact K39 () ha ls (lv_sub hl [] rfl)
      · have h := pf_neg h c20
        refine lv_iload_n hx hb dX6_isPrime_23 rfl (lv_at hl 1 rfl) ?_
        refine lv_iload_n hx hb dX6_isPrime_24 rfl (lv_at hl 0 rfl) ?_
        obtain ⟨v25, hv25, h⟩ := pf_bind h
        refine pf_call (As := [.int x1, .int x0]) (rest := []) S0 (c_X6_goesInto l x1 x0 v25 hv25) (va_cwS 2 hts gX6_isPrime_X6_goesInto rfl rfl rfl kd_X6_goesInto ⟨Nat.le_of_ble_eq_true rfl, Nat.le_of_ble_eq_true rfl⟩) rfl hl.1 rfl (Nat.le_of_ble_eq_true rfl) dX6_isPrime_25 ⟨Nat.zero_le _, Nat.zero_le _⟩ ?_
        refine lv_if_eq (tgt := 33) hx hb dX6_isPrime_28 (by decide) (fun c28 => ?_) (fun c28 => ?_)
        · have h := pf_pos h c28
          refine lv_iinc (v := (x1 + (1 : Int32))) (lv' := [(1, .int (x1 + (1 : Int32))), (0, .int x0)]) hx hb dX6_isPrime_33 hl (k := 1) rfl rfl (by decide) rfl (fun ls hl => ?_)
          refine lv_goto (tgt := 16) hx hb dX6_isPrime_36 (by decide) ?_
          exact ih x0 (x1 + (1 : Int32)) b (lp_cont h hz) ha ls (lv_sub hl [1, 0] rfl)
        · have h := pf_neg h c28
          have ha := pf_aft ha (lp_exit h hz)
          exact K31 () ha ls (lv_sub hl [] rfl)
  have G16 : ∀ (x0 : Int32) (x1 : Int32), g_X6_isPrime_16 x0 x1 = some r → ∀ ls, lv_has ls 2 [(0, .int x0), (1, .int x1)] → W p l e (headSpec wsX6_isPrime { frames := 1, cells := 0, slots := 0, locals := 21 }).room s m ([.int y0] : List Value).toArray below meth c s.heap [] 0 0 (MQ below (k2_QcV (.int r)) ([.int y0] : List Value).toArray s 0 0 (fun _ => False)) (F0 m 16 ls []) := by
    intro x0 x1 h ls hl
    unfold g_X6_isPrime_16 at h
    obtain ⟨b, h, ha⟩ := pf_bind h
    exact L16 pfFU x0 x1 b h ha ls hl
  unfold p_X6_isPrime at h
  refine lv_iload_n hx hb dX6_isPrime_0 rfl (lv_at hl 0 rfl) ?_
  refine lv_iconst (v := 2) hx hb dX6_isPrime_1 (by decide) ?_
  refine lv_icmp_lt (tgt := 12) hx hb dX6_isPrime_2 (by decide) (fun c2 => ?_) (fun c2 => ?_)
  · have h := pf_pos h c2
    refine lv_iconst (v := 0) hx hb dX6_isPrime_12 (by decide) ?_
    exact W.zret hx hb hr rfl (fun t ht _ => ⟨pf_ri h, ht⟩) (fun q hq => absurd hq List.not_mem_nil) dX6_isPrime_13
  · have h := pf_neg h c2
    refine lv_iload_n hx hb dX6_isPrime_5 rfl (lv_at hl 0 rfl) ?_
    refine lv_sipush (v := 997) hx hb dX6_isPrime_6 (by decide) ?_
    refine lv_icmp_le (tgt := 14) hx hb dX6_isPrime_9 (by decide) (fun c9 => ?_) (fun c9 => ?_)
    · have h := pf_pos h c9
      refine lv_iconst (v := 2) hx hb dX6_isPrime_14 (by decide) ?_
      refine lv_istore_n (lv' := [(1, .int (2 : Int32)), (0, .int y0)]) hx hb dX6_isPrime_15 rfl hl (by decide) rfl (fun ls hl => ?_)
      exact G16 y0 (2 : Int32) h ls (lv_sub hl [1, 0] rfl)
    · have h := pf_neg h c9
      refine lv_iconst (v := 0) hx hb dX6_isPrime_12 (by decide) ?_
      exact W.zret hx hb hr rfl (fun t ht _ => ⟨pf_ri h, ht⟩) (fun q hq => absurd hq List.not_mem_nil) dX6_isPrime_13
-- X6_howOften
def e_X6_howOften_37  : Option Int32 :=
  some (0 : Int32)
def e_X6_howOften_23 (x3 : Int32) : Option Int32 :=
  some x3
def s_X6_howOften_4 (x0 : Int32) (x2 : Int32) (x3 : Int32) : Option ((Int32 × Int32) ⊕ (Int32 ⊕ Unit)) :=
  (if (63 : Int32) ≤ x3 then some (Sum.inr (Sum.inr ())) else (if x2 < (1 : Int32) then some (Sum.inr (Sum.inl x3)) else ((p_X6_goesInto x0 x2).bind fun v17 => (if v17 = 0 then some (Sum.inr (Sum.inl x3)) else ((p_X6_quotient x2 x0).bind fun v27 => some (Sum.inl (v27, (x3 + (1 : Int32)))))))))
def a_X6_howOften_4  (b : Int32 ⊕ Unit) : Option Int32 := Sum.elim (fun q : Int32 => e_X6_howOften_23 q) (fun q : Unit => e_X6_howOften_37 ) b
def g_X6_howOften_4 (x0 : Int32) (x2 : Int32) (x3 : Int32) : Option Int32 := (lpF (fun q : (Int32 × Int32) => s_X6_howOften_4 x0 q.1 q.2) pfFU (x2, x3)).bind (a_X6_howOften_4 )
def p_X6_howOften (y0 : Int32) (y1 : Int32) : Option Int32 :=
  g_X6_howOften_4 y0 y1 (0 : Int32)
theorem kd_X6_howOften : yX6_howOften.cls ≠ "java/lang/invoke/MethodHandle" ∧ yX6_howOften.cls ≠ "java/lang/invoke/VarHandle" ∧ (parseMethodDescriptor yX6_howOften.desc).map (fun d => d.parameters.length) = some 2 := by decide +kernel
set_option maxHeartbeats 4000000 in
set_option maxRecDepth 100000 in
theorem c_X6_howOften (l : Launch) (y0 : Int32) (y1 : Int32) (r : Int32) (h : p_X6_howOften y0 y1 = some r) : Met l yX6_howOften wsX6_howOften { frames := 1, cells := 0, slots := 0, locals := 21 } (fun v _ => v = ([.int y0, .int y1] : List Value).toArray) (k2_QcV (.int r)) 0 0 (fun _ => False) := by
  refine Met.ofW (cc := cX6_howOften) (maxL := 4) (ret := some .int) (by decide) rfl ?_
  intro p e s m args below meth c s₁ B hml hv
  subst hv
  have hx := B.exec
  have hb := B.bytes
  have hr := B.returns
  have hts := atoms_spec (ws := wsX6_howOften) B.pre
  have hown : s.vm.findClass RX6 = some m.cls := findClass_of_methodNamed B.named
  have hlocks := B.notSynchronized
  have S0 : CallFix p m c cX6_howOften 4 s ([.int y0, .int y1] : List Value).toArray wsX6_howOften RX6 := ⟨hx, hb, hml, hown, hts⟩
  have hl := lv_entry [.int y0, .int y1] (n := 4) (Nat.le_of_ble_eq_true rfl)
  rw [lg_entry_eq]
  generalize (lg_sl [.int y0, .int y1] ++ List.replicate (4 - (lg_sl [.int y0, .int y1]).length) Slot.unset).toArray = ls at hl ⊢
  have hl : lv_has ls 4 [(0, .int y0), (1, .int y1)] := hl
  have K37 : ∀ (_ : Unit), e_X6_howOften_37  = some r → ∀ ls, lv_has ls 4 [] → W p l e (headSpec wsX6_howOften { frames := 1, cells := 0, slots := 0, locals := 21 }).room s m ([.int y0, .int y1] : List Value).toArray below meth c s.heap [] 0 0 (MQ below (k2_QcV (.int r)) ([.int y0, .int y1] : List Value).toArray s 0 0 (fun _ => False)) (F0 m 37 ls []) := by
    intro _ h ls hl
    unfold e_X6_howOften_37 at h
    refine lv_iconst (v := 0) hx hb dX6_howOften_37 (by decide) ?_
    exact W.iret hx hb hr (fun t ht _ => ⟨pf_ri h, ht⟩) (fun q hq => absurd hq List.not_mem_nil) dX6_howOften_38
  have K23 : ∀ (x3 : Int32), e_X6_howOften_23 x3 = some r → ∀ ls, lv_has ls 4 [(3, .int x3)] → W p l e (headSpec wsX6_howOften { frames := 1, cells := 0, slots := 0, locals := 21 }).room s m ([.int y0, .int y1] : List Value).toArray below meth c s.heap [] 0 0 (MQ below (k2_QcV (.int r)) ([.int y0, .int y1] : List Value).toArray s 0 0 (fun _ => False)) (F0 m 23 ls []) := by
    intro x3 h ls hl
    unfold e_X6_howOften_23 at h
    refine lv_iload_n hx hb dX6_howOften_23 rfl (lv_at hl 0 rfl) ?_
    exact W.iret hx hb hr (fun t ht _ => ⟨pf_ri h, ht⟩) (fun q hq => absurd hq List.not_mem_nil) dX6_howOften_24
  have L4 : ∀ (n : Nat) (x0 : Int32) (x2 : Int32) (x3 : Int32) (b : Int32 ⊕ Unit), lpF (fun q : (Int32 × Int32) => s_X6_howOften_4 x0 q.1 q.2) n (x2, x3) = some b → a_X6_howOften_4 b = some r → ∀ ls, lv_has ls 4 [(0, .int x0), (2, .int x2), (3, .int x3)] → W p l e (headSpec wsX6_howOften { frames := 1, cells := 0, slots := 0, locals := 21 }).room s m ([.int y0, .int y1] : List Value).toArray below meth c s.heap [] 0 0 (MQ below (k2_QcV (.int r)) ([.int y0, .int y1] : List Value).toArray s 0 0 (fun _ => False)) (F0 m 4 ls []) := by
    intro n
    induction n with
    | zero => intro x0 x2 x3 b h; exact lp_zero h
    | succ n ih =>
      intro x0 x2 x3 b h ha ls hl
      obtain ⟨z4, h, hz⟩ := lp_open h
      have h : s_X6_howOften_4 x0 x2 x3 = some z4 := h
      unfold s_X6_howOften_4 at h
      refine lv_iload_n hx hb dX6_howOften_4 rfl (lv_at hl 2 rfl) ?_
      refine lv_bipush (v := 63) hx hb dX6_howOften_5 (by decide) ?_
      refine lv_icmp_ge (tgt := 37) hx hb dX6_howOften_7 (by decide) (fun c7 => ?_) (fun c7 => ?_)
      · have h := pf_pos h c7
        have ha := pf_aft ha (lp_exit h hz)
        exact K37 () ha ls (lv_sub hl [] rfl)
      · have h := pf_neg h c7
        refine lv_iload_n hx hb dX6_howOften_10 rfl (lv_at hl 1 rfl) ?_
        refine lv_iconst (v := 1) hx hb dX6_howOften_11 (by decide) ?_
        refine lv_icmp_lt (tgt := 23) hx hb dX6_howOften_12 (by decide) (fun c12 => ?_) (fun c12 => ?_)
        · have h := pf_pos h c12
          have ha := pf_aft ha (lp_exit h hz)
          exact K23 x3 ha ls (lv_sub hl [2] rfl)
        · have h := pf_neg h c12
          refine lv_iload_n hx hb dX6_howOften_15 rfl (lv_at hl 0 rfl) ?_
          refine lv_iload_n hx hb dX6_howOften_16 rfl (lv_at hl 1 rfl) ?_
          obtain ⟨v17, hv17, h⟩ := pf_bind h
          refine pf_call (As := [.int x0, .int x2]) (rest := []) S0 (c_X6_goesInto l x0 x2 v17 hv17) (va_cwS 2 hts gX6_howOften_X6_goesInto rfl rfl rfl kd_X6_goesInto ⟨Nat.le_of_ble_eq_true rfl, Nat.le_of_ble_eq_true rfl⟩) rfl hl.1 rfl (Nat.le_of_ble_eq_true rfl) dX6_howOften_17 ⟨Nat.zero_le _, Nat.zero_le _⟩ ?_
          refine lv_if_ne (tgt := 25) hx hb dX6_howOften_20 (by decide) (fun c20 => ?_) (fun c20 => ?_)
          · have h := pf_neg h c20
            refine lv_iload_n hx hb dX6_howOften_25 rfl (lv_at hl 1 rfl) ?_
            refine lv_iload_n hx hb dX6_howOften_26 rfl (lv_at hl 0 rfl) ?_
            obtain ⟨v27, hv27, h⟩ := pf_bind h
            refine pf_call (As := [.int x2, .int x0]) (rest := []) S0 (c_X6_quotient l x2 x0 v27 hv27) (va_cwS 2 hts gX6_howOften_X6_quotient rfl rfl rfl kd_X6_quotient ⟨Nat.le_of_ble_eq_true rfl, Nat.le_of_ble_eq_true rfl⟩) rfl hl.1 rfl (Nat.le_of_ble_eq_true rfl) dX6_howOften_27 ⟨Nat.zero_le _, Nat.zero_le _⟩ ?_
            refine lv_istore_n (lv' := [(2, .int v27), (0, .int x0), (3, .int x3)]) hx hb dX6_howOften_30 rfl hl (by decide) rfl (fun ls hl => ?_)
            refine lv_iinc (v := (x3 + (1 : Int32))) (lv' := [(3, .int (x3 + (1 : Int32))), (2, .int v27), (0, .int x0)]) hx hb dX6_howOften_31 hl (k := 2) rfl rfl (by decide) rfl (fun ls hl => ?_)
            refine lv_goto (tgt := 4) hx hb dX6_howOften_34 (by decide) ?_
            exact ih x0 v27 (x3 + (1 : Int32)) b (lp_cont h hz) ha ls (lv_sub hl [2, 1, 0] rfl)
          · have h := pf_pos h c20
            have ha := pf_aft ha (lp_exit h hz)
            exact K23 x3 ha ls (lv_sub hl [2] rfl)
  have G4 : ∀ (x0 : Int32) (x2 : Int32) (x3 : Int32), g_X6_howOften_4 x0 x2 x3 = some r → ∀ ls, lv_has ls 4 [(0, .int x0), (2, .int x2), (3, .int x3)] → W p l e (headSpec wsX6_howOften { frames := 1, cells := 0, slots := 0, locals := 21 }).room s m ([.int y0, .int y1] : List Value).toArray below meth c s.heap [] 0 0 (MQ below (k2_QcV (.int r)) ([.int y0, .int y1] : List Value).toArray s 0 0 (fun _ => False)) (F0 m 4 ls []) := by
    intro x0 x2 x3 h ls hl
    unfold g_X6_howOften_4 at h
    obtain ⟨b, h, ha⟩ := pf_bind h
    exact L4 pfFU x0 x2 x3 b h ha ls hl
  unfold p_X6_howOften at h
  refine lv_iload_n hx hb dX6_howOften_0 rfl (lv_at hl 1 rfl) ?_
  refine lv_istore_n (lv' := [(2, .int y1), (0, .int y0), (1, .int y1)]) hx hb dX6_howOften_1 rfl hl (by decide) rfl (fun ls hl => ?_)
  refine lv_iconst (v := 0) hx hb dX6_howOften_2 (by decide) ?_
  refine lv_istore_n (lv' := [(3, .int (0 : Int32)), (2, .int y1), (0, .int y0), (1, .int y1)]) hx hb dX6_howOften_3 rfl hl (by decide) rfl (fun ls hl => ?_)
  exact G4 y0 y1 (0 : Int32) h ls (lv_sub hl [2, 1, 0] rfl)
-- X6_without
def e_X6_without_29 (x2 : Int32) : Option Int32 :=
  some x2
def s_X6_without_11 (x1 : Int32) (x2 : Int32) (x3 : Int32) (x4 : Int32) : Option ((Int32 × Int32) ⊕ (Int32)) :=
  (if x3 ≤ x4 then some (Sum.inr x2) else ((p_X6_quotient x2 x1).bind fun v19 => some (Sum.inl (v19, (x4 + (1 : Int32))))))
def a_X6_without_11  (b : Int32) : Option Int32 := (fun q : Int32 => e_X6_without_29 q) b
def g_X6_without_11 (x1 : Int32) (x2 : Int32) (x3 : Int32) (x4 : Int32) : Option Int32 := (lpF (fun q : (Int32 × Int32) => s_X6_without_11 x1 q.1 x3 q.2) pfFU (x2, x4)).bind (a_X6_without_11 )
def p_X6_without (y0 : Int32) (y1 : Int32) : Option Int32 :=
  ((p_X6_howOften y1 y0).bind fun v4 => g_X6_without_11 y1 y0 v4 (0 : Int32))
theorem kd_X6_without : yX6_without.cls ≠ "java/lang/invoke/MethodHandle" ∧ yX6_without.cls ≠ "java/lang/invoke/VarHandle" ∧ (parseMethodDescriptor yX6_without.desc).map (fun d => d.parameters.length) = some 2 := by decide +kernel
set_option maxHeartbeats 4000000 in
set_option maxRecDepth 100000 in
theorem c_X6_without (l : Launch) (y0 : Int32) (y1 : Int32) (r : Int32) (h : p_X6_without y0 y1 = some r) : Met l yX6_without wsX6_without { frames := 2, cells := 0, slots := 0, locals := 44 } (fun v _ => v = ([.int y0, .int y1] : List Value).toArray) (k2_QcV (.int r)) 0 0 (fun _ => False) := by
  refine Met.ofW (cc := cX6_without) (maxL := 5) (ret := some .int) (by decide) rfl ?_
  intro p e s m args below meth c s₁ B hml hv
  subst hv
  have hx := B.exec
  have hb := B.bytes
  have hr := B.returns
  have hts := atoms_spec (ws := wsX6_without) B.pre
  have hown : s.vm.findClass RX6 = some m.cls := findClass_of_methodNamed B.named
  have hlocks := B.notSynchronized
  have S0 : CallFix p m c cX6_without 5 s ([.int y0, .int y1] : List Value).toArray wsX6_without RX6 := ⟨hx, hb, hml, hown, hts⟩
  have hl := lv_entry [.int y0, .int y1] (n := 5) (Nat.le_of_ble_eq_true rfl)
  rw [lg_entry_eq]
  generalize (lg_sl [.int y0, .int y1] ++ List.replicate (5 - (lg_sl [.int y0, .int y1]).length) Slot.unset).toArray = ls at hl ⊢
  have hl : lv_has ls 5 [(0, .int y0), (1, .int y1)] := hl
  have K29 : ∀ (x2 : Int32), e_X6_without_29 x2 = some r → ∀ ls, lv_has ls 5 [(2, .int x2)] → W p l e (headSpec wsX6_without { frames := 2, cells := 0, slots := 0, locals := 44 }).room s m ([.int y0, .int y1] : List Value).toArray below meth c s.heap [] 0 0 (MQ below (k2_QcV (.int r)) ([.int y0, .int y1] : List Value).toArray s 0 0 (fun _ => False)) (F0 m 29 ls []) := by
    intro x2 h ls hl
    unfold e_X6_without_29 at h
    refine lv_iload_n hx hb dX6_without_29 rfl (lv_at hl 0 rfl) ?_
    exact W.iret hx hb hr (fun t ht _ => ⟨pf_ri h, ht⟩) (fun q hq => absurd hq List.not_mem_nil) dX6_without_30
  have L11 : ∀ (n : Nat) (x1 : Int32) (x2 : Int32) (x3 : Int32) (x4 : Int32) (b : Int32), lpF (fun q : (Int32 × Int32) => s_X6_without_11 x1 q.1 x3 q.2) n (x2, x4) = some b → a_X6_without_11 b = some r → ∀ ls, lv_has ls 5 [(1, .int x1), (2, .int x2), (3, .int x3), (4, .int x4)] → W p l e (headSpec wsX6_without { frames := 2, cells := 0, slots := 0, locals := 44 }).room s m ([.int y0, .int y1] : List Value).toArray below meth c s.heap [] 0 0 (MQ below (k2_QcV (.int r)) ([.int y0, .int y1] : List Value).toArray s 0 0 (fun _ => False)) (F0 m 11 ls []) := by
    intro n
    induction n with
    | zero => intro x1 x2 x3 x4 b h; exact lp_zero h
    | succ n ih =>
      intro x1 x2 x3 x4 b h ha ls hl
      obtain ⟨z11, h, hz⟩ := lp_open h
      have h : s_X6_without_11 x1 x2 x3 x4 = some z11 := h
      unfold s_X6_without_11 at h
      refine lv_iload hx hb dX6_without_11 (lv_at hl 3 rfl) ?_
      refine lv_iload_n hx hb dX6_without_13 rfl (lv_at hl 2 rfl) ?_
      refine lv_icmp_ge (tgt := 29) hx hb dX6_without_14 (by decide) (fun c14 => ?_) (fun c14 => ?_)
      · have h := pf_pos h c14
        have ha := pf_aft ha (lp_exit h hz)
        exact K29 x2 ha ls (lv_sub hl [1] rfl)
      · have h := pf_neg h c14
        refine lv_iload_n hx hb dX6_without_17 rfl (lv_at hl 1 rfl) ?_
        refine lv_iload_n hx hb dX6_without_18 rfl (lv_at hl 0 rfl) ?_
        obtain ⟨v19, hv19, h⟩ := pf_bind h
        refine pf_call (As := [.int x2, .int x1]) (rest := []) S0 (c_X6_quotient l x2 x1 v19 hv19) (va_cwS 2 hts gX6_without_X6_quotient rfl rfl rfl kd_X6_quotient ⟨Nat.le_of_ble_eq_true rfl, Nat.le_of_ble_eq_true rfl⟩) rfl hl.1 rfl (Nat.le_of_ble_eq_true rfl) dX6_without_19 ⟨Nat.zero_le _, Nat.zero_le _⟩ ?_
        refine lv_istore_n (lv' := [(2, .int v19), (1, .int x1), (3, .int x3), (4, .int x4)]) hx hb dX6_without_22 rfl hl (by decide) rfl (fun ls hl => ?_)
        refine lv_iinc (v := (x4 + (1 : Int32))) (lv' := [(4, .int (x4 + (1 : Int32))), (2, .int v19), (1, .int x1), (3, .int x3)]) hx hb dX6_without_23 hl (k := 3) rfl rfl (by decide) rfl (fun ls hl => ?_)
        refine lv_goto (tgt := 11) hx hb dX6_without_26 (by decide) ?_
        exact ih x1 v19 x3 (x4 + (1 : Int32)) b (lp_cont h hz) ha ls (lv_sub hl [2, 1, 3, 0] rfl)
  have G11 : ∀ (x1 : Int32) (x2 : Int32) (x3 : Int32) (x4 : Int32), g_X6_without_11 x1 x2 x3 x4 = some r → ∀ ls, lv_has ls 5 [(1, .int x1), (2, .int x2), (3, .int x3), (4, .int x4)] → W p l e (headSpec wsX6_without { frames := 2, cells := 0, slots := 0, locals := 44 }).room s m ([.int y0, .int y1] : List Value).toArray below meth c s.heap [] 0 0 (MQ below (k2_QcV (.int r)) ([.int y0, .int y1] : List Value).toArray s 0 0 (fun _ => False)) (F0 m 11 ls []) := by
    intro x1 x2 x3 x4 h ls hl
    unfold g_X6_without_11 at h
    obtain ⟨b, h, ha⟩ := pf_bind h
    exact L11 pfFU x1 x2 x3 x4 b h ha ls hl
  unfold p_X6_without at h
  refine lv_iload_n hx hb dX6_without_0 rfl (lv_at hl 0 rfl) ?_
  refine lv_istore_n (lv' := [(2, .int y0), (0, .int y0), (1, .int y1)]) hx hb dX6_without_1 rfl hl (by decide) rfl (fun ls hl => ?_)
  refine lv_iload_n hx hb dX6_without_2 rfl (lv_at hl 2 rfl) ?_
  refine lv_iload_n hx hb dX6_without_3 rfl (lv_at hl 1 rfl) ?_
  obtain ⟨v4, hv4, h⟩ := pf_bind h
  refine pf_call (As := [.int y1, .int y0]) (rest := []) S0 (c_X6_howOften l y1 y0 v4 hv4) (va_cwS 2 hts gX6_without_X6_howOften rfl rfl rfl kd_X6_howOften ⟨Nat.le_of_ble_eq_true rfl, Nat.le_of_ble_eq_true rfl⟩) rfl hl.1 rfl (Nat.le_of_ble_eq_true rfl) dX6_without_4 ⟨Nat.zero_le _, Nat.zero_le _⟩ ?_
  refine lv_istore_n (lv' := [(3, .int v4), (2, .int y0), (0, .int y0), (1, .int y1)]) hx hb dX6_without_7 rfl hl (by decide) rfl (fun ls hl => ?_)
  refine lv_iconst (v := 0) hx hb dX6_without_8 (by decide) ?_
  refine lv_istore (lv' := [(4, .int (0 : Int32)), (3, .int v4), (2, .int y0), (0, .int y0), (1, .int y1)]) hx hb dX6_without_9 hl (by decide) rfl (fun ls hl => ?_)
  exact G11 y1 y0 v4 (0 : Int32) h ls (lv_sub hl [4, 2, 1, 0] rfl)
-- X6_signOfPrimes
def e_X6_signOfPrimes_44 (x1 : Int32) : Option Int32 :=
  some x1
def e_X6_signOfPrimes_33  : Option Int32 :=
  some (0 : Int32)
def s_X6_signOfPrimes_4 (x0 : Int32) (x1 : Int32) (x2 : Int32) : Option ((Int32 × Int32) ⊕ (Unit ⊕ Int32)) :=
  (if x0 < x2 then some (Sum.inr (Sum.inr x1)) else ((p_X6_goesInto x2 x0).bind fun v11 => (if v11 = 0 then some (Sum.inl (x1, (x2 + (1 : Int32)))) else ((p_X6_isPrime x2).bind fun v18 => (if v18 = 0 then some (Sum.inl (x1, (x2 + (1 : Int32)))) else ((p_X6_howOften x2 x0).bind fun v26 => (if v26 ≤ (1 : Int32) then some (Sum.inl ((-x1), (x2 + (1 : Int32)))) else some (Sum.inr (Sum.inl ())))))))))
def a_X6_signOfPrimes_4  (b : Unit ⊕ Int32) : Option Int32 := Sum.elim (fun q : Unit => e_X6_signOfPrimes_33 ) (fun q : Int32 => e_X6_signOfPrimes_44 q) b
def g_X6_signOfPrimes_4 (x0 : Int32) (x1 : Int32) (x2 : Int32) : Option Int32 := (lpF (fun q : (Int32 × Int32) => s_X6_signOfPrimes_4 x0 q.1 q.2) pfFU (x1, x2)).bind (a_X6_signOfPrimes_4 )
def p_X6_signOfPrimes (y0 : Int32) : Option Int32 :=
  g_X6_signOfPrimes_4 y0 (1 : Int32) (2 : Int32)
theorem kd_X6_signOfPrimes : yX6_signOfPrimes.cls ≠ "java/lang/invoke/MethodHandle" ∧ yX6_signOfPrimes.cls ≠ "java/lang/invoke/VarHandle" ∧ (parseMethodDescriptor yX6_signOfPrimes.desc).map (fun d => d.parameters.length) = some 1 := by decide +kernel
set_option maxHeartbeats 4000000 in
set_option maxRecDepth 100000 in
theorem c_X6_signOfPrimes (l : Launch) (y0 : Int32) (r : Int32) (h : p_X6_signOfPrimes y0 = some r) : Met l yX6_signOfPrimes wsX6_signOfPrimes { frames := 2, cells := 0, slots := 0, locals := 44 } (fun v _ => v = ([.int y0] : List Value).toArray) (k2_QcV (.int r)) 0 0 (fun _ => False) := by
  refine Met.ofW (cc := cX6_signOfPrimes) (maxL := 3) (ret := some .int) (by decide) rfl ?_
  intro p e s m args below meth c s₁ B hml hv
  subst hv
  have hx := B.exec
  have hb := B.bytes
  have hr := B.returns
  have hts := atoms_spec (ws := wsX6_signOfPrimes) B.pre
  have hown : s.vm.findClass RX6 = some m.cls := findClass_of_methodNamed B.named
  have hlocks := B.notSynchronized
  have S0 : CallFix p m c cX6_signOfPrimes 3 s ([.int y0] : List Value).toArray wsX6_signOfPrimes RX6 := ⟨hx, hb, hml, hown, hts⟩
  have hl := lv_entry [.int y0] (n := 3) (Nat.le_of_ble_eq_true rfl)
  rw [lg_entry_eq]
  generalize (lg_sl [.int y0] ++ List.replicate (3 - (lg_sl [.int y0]).length) Slot.unset).toArray = ls at hl ⊢
  have hl : lv_has ls 3 [(0, .int y0)] := hl
  have K44 : ∀ (x1 : Int32), e_X6_signOfPrimes_44 x1 = some r → ∀ ls, lv_has ls 3 [(1, .int x1)] → W p l e (headSpec wsX6_signOfPrimes { frames := 2, cells := 0, slots := 0, locals := 44 }).room s m ([.int y0] : List Value).toArray below meth c s.heap [] 0 0 (MQ below (k2_QcV (.int r)) ([.int y0] : List Value).toArray s 0 0 (fun _ => False)) (F0 m 44 ls []) := by
    intro x1 h ls hl
    unfold e_X6_signOfPrimes_44 at h
    refine lv_iload_n hx hb dX6_signOfPrimes_44 rfl (lv_at hl 0 rfl) ?_
    exact W.iret hx hb hr (fun t ht _ => ⟨pf_ri h, ht⟩) (fun q hq => absurd hq List.not_mem_nil) dX6_signOfPrimes_45
  have K33 : ∀ (_ : Unit), e_X6_signOfPrimes_33  = some r → ∀ ls, lv_has ls 3 [] → W p l e (headSpec wsX6_signOfPrimes { frames := 2, cells := 0, slots := 0, locals := 44 }).room s m ([.int y0] : List Value).toArray below meth c s.heap [] 0 0 (MQ below (k2_QcV (.int r)) ([.int y0] : List Value).toArray s 0 0 (fun _ => False)) (F0 m 33 ls []) := by
    intro _ h ls hl
    unfold e_X6_signOfPrimes_33 at h
    refine lv_iconst (v := 0) hx hb dX6_signOfPrimes_33 (by decide) ?_
    exact W.iret hx hb hr (fun t ht _ => ⟨pf_ri h, ht⟩) (fun q hq => absurd hq List.not_mem_nil) dX6_signOfPrimes_34
  have L4 : ∀ (n : Nat) (x0 : Int32) (x1 : Int32) (x2 : Int32) (b : Unit ⊕ Int32), lpF (fun q : (Int32 × Int32) => s_X6_signOfPrimes_4 x0 q.1 q.2) n (x1, x2) = some b → a_X6_signOfPrimes_4 b = some r → ∀ ls, lv_has ls 3 [(0, .int x0), (1, .int x1), (2, .int x2)] → W p l e (headSpec wsX6_signOfPrimes { frames := 2, cells := 0, slots := 0, locals := 44 }).room s m ([.int y0] : List Value).toArray below meth c s.heap [] 0 0 (MQ below (k2_QcV (.int r)) ([.int y0] : List Value).toArray s 0 0 (fun _ => False)) (F0 m 4 ls []) := by
    intro n
    induction n with
    | zero => intro x0 x1 x2 b h; exact lp_zero h
    | succ n ih =>
      intro x0 x1 x2 b h ha ls hl
      obtain ⟨z4, h, hz⟩ := lp_open h
      have h : s_X6_signOfPrimes_4 x0 x1 x2 = some z4 := h
      unfold s_X6_signOfPrimes_4 at h
      refine lv_iload_n hx hb dX6_signOfPrimes_4 rfl (lv_at hl 2 rfl) ?_
      refine lv_iload_n hx hb dX6_signOfPrimes_5 rfl (lv_at hl 0 rfl) ?_
      refine lv_icmp_gt (tgt := 44) hx hb dX6_signOfPrimes_6 (by decide) (fun c6 => ?_) (fun c6 => ?_)
      · have h := pf_pos h c6
        have ha := pf_aft ha (lp_exit h hz)
        exact K44 x1 ha ls (lv_sub hl [1] rfl)
      · have h := pf_neg h c6
        refine lv_iload_n hx hb dX6_signOfPrimes_9 rfl (lv_at hl 2 rfl) ?_
        refine lv_iload_n hx hb dX6_signOfPrimes_10 rfl (lv_at hl 0 rfl) ?_
        obtain ⟨v11, hv11, h⟩ := pf_bind h
        refine pf_call (As := [.int x2, .int x0]) (rest := []) S0 (c_X6_goesInto l x2 x0 v11 hv11) (va_cwS 2 hts gX6_signOfPrimes_X6_goesInto rfl rfl rfl kd_X6_goesInto ⟨Nat.le_of_ble_eq_true rfl, Nat.le_of_ble_eq_true rfl⟩) rfl hl.1 rfl (Nat.le_of_ble_eq_true rfl) dX6_signOfPrimes_11 ⟨Nat.zero_le _, Nat.zero_le _⟩ ?_
        refine lv_if_eq (tgt := 38) hx hb dX6_signOfPrimes_14 (by decide) (fun c14 => ?_) (fun c14 => ?_)
        · have h := pf_pos h c14
          refine lv_iinc (v := (x2 + (1 : Int32))) (lv' := [(2, .int (x2 + (1 : Int32))), (0, .int x0), (1, .int x1)]) hx hb dX6_signOfPrimes_38 hl (k := 2) rfl rfl (by decide) rfl (fun ls hl => ?_)
          refine lv_goto (tgt := 4) hx hb dX6_signOfPrimes_41 (by decide) ?_
          exact ih x0 x1 (x2 + (1 : Int32)) b (lp_cont h hz) ha ls (lv_sub hl [1, 2, 0] rfl)
        · have h := pf_neg h c14
          refine lv_iload_n hx hb dX6_signOfPrimes_17 rfl (lv_at hl 2 rfl) ?_
          obtain ⟨v18, hv18, h⟩ := pf_bind h
          refine pf_call (As := [.int x2]) (rest := []) S0 (c_X6_isPrime l x2 v18 hv18) (va_cwS 1 hts gX6_signOfPrimes_X6_isPrime rfl rfl rfl kd_X6_isPrime ⟨Nat.le_of_ble_eq_true rfl, Nat.le_of_ble_eq_true rfl⟩) rfl hl.1 rfl (Nat.le_of_ble_eq_true rfl) dX6_signOfPrimes_18 ⟨Nat.zero_le _, Nat.zero_le _⟩ ?_
          refine lv_if_eq (tgt := 38) hx hb dX6_signOfPrimes_21 (by decide) (fun c21 => ?_) (fun c21 => ?_)
          · have h := pf_pos h c21
            refine lv_iinc (v := (x2 + (1 : Int32))) (lv' := [(2, .int (x2 + (1 : Int32))), (0, .int x0), (1, .int x1)]) hx hb dX6_signOfPrimes_38 hl (k := 2) rfl rfl (by decide) rfl (fun ls hl => ?_)
            refine lv_goto (tgt := 4) hx hb dX6_signOfPrimes_41 (by decide) ?_
            exact ih x0 x1 (x2 + (1 : Int32)) b (lp_cont h hz) ha ls (lv_sub hl [1, 2, 0] rfl)
          · have h := pf_neg h c21
            refine lv_iload_n hx hb dX6_signOfPrimes_24 rfl (lv_at hl 2 rfl) ?_
            refine lv_iload_n hx hb dX6_signOfPrimes_25 rfl (lv_at hl 0 rfl) ?_
            obtain ⟨v26, hv26, h⟩ := pf_bind h
            refine pf_call (As := [.int x2, .int x0]) (rest := []) S0 (c_X6_howOften l x2 x0 v26 hv26) (va_cwS 2 hts gX6_signOfPrimes_X6_howOften rfl rfl rfl kd_X6_howOften ⟨Nat.le_of_ble_eq_true rfl, Nat.le_of_ble_eq_true rfl⟩) rfl hl.1 rfl (Nat.le_of_ble_eq_true rfl) dX6_signOfPrimes_26 ⟨Nat.zero_le _, Nat.zero_le _⟩ ?_
            refine lv_iconst (v := 1) hx hb dX6_signOfPrimes_29 (by decide) ?_
            refine lv_icmp_le (tgt := 35) hx hb dX6_signOfPrimes_30 (by decide) (fun c30 => ?_) (fun c30 => ?_)
            · have h := pf_pos h c30
              refine lv_iload_n hx hb dX6_signOfPrimes_35 rfl (lv_at hl 1 rfl) ?_
              refine lv_ineg hx hb dX6_signOfPrimes_36 ?_
              refine lv_istore_n (lv' := [(1, .int (-x1)), (0, .int x0), (2, .int x2)]) hx hb dX6_signOfPrimes_37 rfl hl (by decide) rfl (fun ls hl => ?_)
              refine lv_iinc (v := (x2 + (1 : Int32))) (lv' := [(2, .int (x2 + (1 : Int32))), (1, .int (-x1)), (0, .int x0)]) hx hb dX6_signOfPrimes_38 hl (k := 2) rfl rfl (by decide) rfl (fun ls hl => ?_)
              refine lv_goto (tgt := 4) hx hb dX6_signOfPrimes_41 (by decide) ?_
              exact ih x0 (-x1) (x2 + (1 : Int32)) b (lp_cont h hz) ha ls (lv_sub hl [2, 1, 0] rfl)
            · have h := pf_neg h c30
              have ha := pf_aft ha (lp_exit h hz)
              exact K33 () ha ls (lv_sub hl [] rfl)
  have G4 : ∀ (x0 : Int32) (x1 : Int32) (x2 : Int32), g_X6_signOfPrimes_4 x0 x1 x2 = some r → ∀ ls, lv_has ls 3 [(0, .int x0), (1, .int x1), (2, .int x2)] → W p l e (headSpec wsX6_signOfPrimes { frames := 2, cells := 0, slots := 0, locals := 44 }).room s m ([.int y0] : List Value).toArray below meth c s.heap [] 0 0 (MQ below (k2_QcV (.int r)) ([.int y0] : List Value).toArray s 0 0 (fun _ => False)) (F0 m 4 ls []) := by
    intro x0 x1 x2 h ls hl
    unfold g_X6_signOfPrimes_4 at h
    obtain ⟨b, h, ha⟩ := pf_bind h
    exact L4 pfFU x0 x1 x2 b h ha ls hl
  unfold p_X6_signOfPrimes at h
  refine lv_iconst (v := 1) hx hb dX6_signOfPrimes_0 (by decide) ?_
  refine lv_istore_n (lv' := [(1, .int (1 : Int32)), (0, .int y0)]) hx hb dX6_signOfPrimes_1 rfl hl (by decide) rfl (fun ls hl => ?_)
  refine lv_iconst (v := 2) hx hb dX6_signOfPrimes_2 (by decide) ?_
  refine lv_istore_n (lv' := [(2, .int (2 : Int32)), (1, .int (1 : Int32)), (0, .int y0)]) hx hb dX6_signOfPrimes_3 rfl hl (by decide) rfl (fun ls hl => ?_)
  exact G4 y0 (1 : Int32) (2 : Int32) h ls (lv_sub hl [2, 1, 0] rfl)
-- X7_isM
def p_X7_isM (y0 : Int32) : Option Int32 :=
  (if y0 < (1 : Int32) then some (0 : Int32) else (if (63 : Int32) < y0 then some (0 : Int32) else some (1 : Int32)))
theorem kd_X7_isM : yX7_isM.cls ≠ "java/lang/invoke/MethodHandle" ∧ yX7_isM.cls ≠ "java/lang/invoke/VarHandle" ∧ (parseMethodDescriptor yX7_isM.desc).map (fun d => d.parameters.length) = some 1 := by decide +kernel
set_option maxHeartbeats 4000000 in
set_option maxRecDepth 100000 in
theorem c_X7_isM (l : Launch) (y0 : Int32) (r : Int32) (h : p_X7_isM y0 = some r) : Met l yX7_isM wsX7_isM { frames := 0, cells := 0, slots := 0, locals := 0 } (fun v _ => v = ([.int y0] : List Value).toArray) (k2_QcV (.int r)) 0 0 (fun _ => False) := by
  refine Met.ofW (cc := cX7_isM) (maxL := 1) (ret := some .boolean) (by decide) rfl ?_
  intro p e s m args below meth c s₁ B hml hv
  subst hv
  have hx := B.exec
  have hb := B.bytes
  have hr := B.returns
  have hts := atoms_spec (ws := wsX7_isM) B.pre
  have hown : s.vm.findClass RX7 = some m.cls := findClass_of_methodNamed B.named
  have hlocks := B.notSynchronized
  have S0 : CallFix p m c cX7_isM 1 s ([.int y0] : List Value).toArray wsX7_isM RX7 := ⟨hx, hb, hml, hown, hts⟩
  have hl := lv_entry [.int y0] (n := 1) (Nat.le_of_ble_eq_true rfl)
  rw [lg_entry_eq]
  generalize (lg_sl [.int y0] ++ List.replicate (1 - (lg_sl [.int y0]).length) Slot.unset).toArray = ls at hl ⊢
  have hl : lv_has ls 1 [(0, .int y0)] := hl
  unfold p_X7_isM at h
  refine lv_iload_n hx hb dX7_isM_0 rfl (lv_at hl 0 rfl) ?_
  refine lv_iconst (v := 1) hx hb dX7_isM_1 (by decide) ?_
  refine lv_icmp_lt (tgt := 15) hx hb dX7_isM_2 (by decide) (fun c2 => ?_) (fun c2 => ?_)
  · have h := pf_pos h c2
    refine lv_iconst (v := 0) hx hb dX7_isM_15 (by decide) ?_
    exact W.zret hx hb hr rfl (fun t ht _ => ⟨pf_ri h, ht⟩) (fun q hq => absurd hq List.not_mem_nil) dX7_isM_16
  · have h := pf_neg h c2
    refine lv_iload_n hx hb dX7_isM_5 rfl (lv_at hl 0 rfl) ?_
    refine lv_bipush (v := 63) hx hb dX7_isM_6 (by decide) ?_
    refine lv_icmp_gt (tgt := 15) hx hb dX7_isM_8 (by decide) (fun c8 => ?_) (fun c8 => ?_)
    · have h := pf_pos h c8
      refine lv_iconst (v := 0) hx hb dX7_isM_15 (by decide) ?_
      exact W.zret hx hb hr rfl (fun t ht _ => ⟨pf_ri h, ht⟩) (fun q hq => absurd hq List.not_mem_nil) dX7_isM_16
    · have h := pf_neg h c8
      refine lv_iconst (v := 1) hx hb dX7_isM_11 (by decide) ?_
      refine lv_goto (tgt := 16) hx hb dX7_isM_12 (by decide) ?_
      exact W.zret hx hb hr rfl (fun t ht _ => ⟨pf_ri h, ht⟩) (fun q hq => absurd hq List.not_mem_nil) dX7_isM_16
-- X7_isDegree
def p_X7_isDegree (y0 : Int32) : Option Int32 :=
  (if y0 < (1 : Int32) then some (0 : Int32) else (if (8 : Int32) < y0 then some (0 : Int32) else some (1 : Int32)))
theorem kd_X7_isDegree : yX7_isDegree.cls ≠ "java/lang/invoke/MethodHandle" ∧ yX7_isDegree.cls ≠ "java/lang/invoke/VarHandle" ∧ (parseMethodDescriptor yX7_isDegree.desc).map (fun d => d.parameters.length) = some 1 := by decide +kernel
set_option maxHeartbeats 4000000 in
set_option maxRecDepth 100000 in
theorem c_X7_isDegree (l : Launch) (y0 : Int32) (r : Int32) (h : p_X7_isDegree y0 = some r) : Met l yX7_isDegree wsX7_isDegree { frames := 0, cells := 0, slots := 0, locals := 0 } (fun v _ => v = ([.int y0] : List Value).toArray) (k2_QcV (.int r)) 0 0 (fun _ => False) := by
  refine Met.ofW (cc := cX7_isDegree) (maxL := 1) (ret := some .boolean) (by decide) rfl ?_
  intro p e s m args below meth c s₁ B hml hv
  subst hv
  have hx := B.exec
  have hb := B.bytes
  have hr := B.returns
  have hts := atoms_spec (ws := wsX7_isDegree) B.pre
  have hown : s.vm.findClass RX7 = some m.cls := findClass_of_methodNamed B.named
  have hlocks := B.notSynchronized
  have S0 : CallFix p m c cX7_isDegree 1 s ([.int y0] : List Value).toArray wsX7_isDegree RX7 := ⟨hx, hb, hml, hown, hts⟩
  have hl := lv_entry [.int y0] (n := 1) (Nat.le_of_ble_eq_true rfl)
  rw [lg_entry_eq]
  generalize (lg_sl [.int y0] ++ List.replicate (1 - (lg_sl [.int y0]).length) Slot.unset).toArray = ls at hl ⊢
  have hl : lv_has ls 1 [(0, .int y0)] := hl
  unfold p_X7_isDegree at h
  refine lv_iload_n hx hb dX7_isDegree_0 rfl (lv_at hl 0 rfl) ?_
  refine lv_iconst (v := 1) hx hb dX7_isDegree_1 (by decide) ?_
  refine lv_icmp_lt (tgt := 15) hx hb dX7_isDegree_2 (by decide) (fun c2 => ?_) (fun c2 => ?_)
  · have h := pf_pos h c2
    refine lv_iconst (v := 0) hx hb dX7_isDegree_15 (by decide) ?_
    exact W.zret hx hb hr rfl (fun t ht _ => ⟨pf_ri h, ht⟩) (fun q hq => absurd hq List.not_mem_nil) dX7_isDegree_16
  · have h := pf_neg h c2
    refine lv_iload_n hx hb dX7_isDegree_5 rfl (lv_at hl 0 rfl) ?_
    refine lv_bipush (v := 8) hx hb dX7_isDegree_6 (by decide) ?_
    refine lv_icmp_gt (tgt := 15) hx hb dX7_isDegree_8 (by decide) (fun c8 => ?_) (fun c8 => ?_)
    · have h := pf_pos h c8
      refine lv_iconst (v := 0) hx hb dX7_isDegree_15 (by decide) ?_
      exact W.zret hx hb hr rfl (fun t ht _ => ⟨pf_ri h, ht⟩) (fun q hq => absurd hq List.not_mem_nil) dX7_isDegree_16
    · have h := pf_neg h c8
      refine lv_iconst (v := 1) hx hb dX7_isDegree_11 (by decide) ?_
      refine lv_goto (tgt := 16) hx hb dX7_isDegree_12 (by decide) ?_
      exact W.zret hx hb hr rfl (fun t ht _ => ⟨pf_ri h, ht⟩) (fun q hq => absurd hq List.not_mem_nil) dX7_isDegree_16
-- X8_isIn
def p_X8_isIn (y0 : Int32) (y1 : Int32) (y2 : Int32) : Option Int32 :=
  (if y0 < y1 then some (0 : Int32) else (if y2 < y0 then some (0 : Int32) else some (1 : Int32)))
theorem kd_X8_isIn : yX8_isIn.cls ≠ "java/lang/invoke/MethodHandle" ∧ yX8_isIn.cls ≠ "java/lang/invoke/VarHandle" ∧ (parseMethodDescriptor yX8_isIn.desc).map (fun d => d.parameters.length) = some 3 := by decide +kernel
set_option maxHeartbeats 4000000 in
set_option maxRecDepth 100000 in
theorem c_X8_isIn (l : Launch) (y0 : Int32) (y1 : Int32) (y2 : Int32) (r : Int32) (h : p_X8_isIn y0 y1 y2 = some r) : Met l yX8_isIn wsX8_isIn { frames := 0, cells := 0, slots := 0, locals := 0 } (fun v _ => v = ([.int y0, .int y1, .int y2] : List Value).toArray) (k2_QcV (.int r)) 0 0 (fun _ => False) := by
  refine Met.ofW (cc := cX8_isIn) (maxL := 3) (ret := some .boolean) (by decide) rfl ?_
  intro p e s m args below meth c s₁ B hml hv
  subst hv
  have hx := B.exec
  have hb := B.bytes
  have hr := B.returns
  have hts := atoms_spec (ws := wsX8_isIn) B.pre
  have hown : s.vm.findClass RX8 = some m.cls := findClass_of_methodNamed B.named
  have hlocks := B.notSynchronized
  have S0 : CallFix p m c cX8_isIn 3 s ([.int y0, .int y1, .int y2] : List Value).toArray wsX8_isIn RX8 := ⟨hx, hb, hml, hown, hts⟩
  have hl := lv_entry [.int y0, .int y1, .int y2] (n := 3) (Nat.le_of_ble_eq_true rfl)
  rw [lg_entry_eq]
  generalize (lg_sl [.int y0, .int y1, .int y2] ++ List.replicate (3 - (lg_sl [.int y0, .int y1, .int y2]).length) Slot.unset).toArray = ls at hl ⊢
  have hl : lv_has ls 3 [(0, .int y0), (1, .int y1), (2, .int y2)] := hl
  unfold p_X8_isIn at h
  refine lv_iload_n hx hb dX8_isIn_0 rfl (lv_at hl 0 rfl) ?_
  refine lv_iload_n hx hb dX8_isIn_1 rfl (lv_at hl 1 rfl) ?_
  refine lv_icmp_lt (tgt := 14) hx hb dX8_isIn_2 (by decide) (fun c2 => ?_) (fun c2 => ?_)
  · have h := pf_pos h c2
    refine lv_iconst (v := 0) hx hb dX8_isIn_14 (by decide) ?_
    exact W.zret hx hb hr rfl (fun t ht _ => ⟨pf_ri h, ht⟩) (fun q hq => absurd hq List.not_mem_nil) dX8_isIn_15
  · have h := pf_neg h c2
    refine lv_iload_n hx hb dX8_isIn_5 rfl (lv_at hl 0 rfl) ?_
    refine lv_iload_n hx hb dX8_isIn_6 rfl (lv_at hl 2 rfl) ?_
    refine lv_icmp_gt (tgt := 14) hx hb dX8_isIn_7 (by decide) (fun c7 => ?_) (fun c7 => ?_)
    · have h := pf_pos h c7
      refine lv_iconst (v := 0) hx hb dX8_isIn_14 (by decide) ?_
      exact W.zret hx hb hr rfl (fun t ht _ => ⟨pf_ri h, ht⟩) (fun q hq => absurd hq List.not_mem_nil) dX8_isIn_15
    · have h := pf_neg h c7
      refine lv_iconst (v := 1) hx hb dX8_isIn_10 (by decide) ?_
      refine lv_goto (tgt := 15) hx hb dX8_isIn_11 (by decide) ?_
      exact W.zret hx hb hr rfl (fun t ht _ => ⟨pf_ri h, ht⟩) (fun q hq => absurd hq List.not_mem_nil) dX8_isIn_15
-- X8_divisor
def e_X8_divisor_21 (x2 : Int32) : Option Int32 :=
  some x2
def s_X8_divisor_4 (x2 : Int32) (x3 : Int32) : Option ((Int32 × Int32) ⊕ (Int32)) :=
  (if x3 ≤ 0 then some (Sum.inr x2) else (if x3 = 0 then none else some (Sum.inl (x3, (jrem x2 x3)))))
def a_X8_divisor_4  (b : Int32) : Option Int32 := (fun q : Int32 => e_X8_divisor_21 q) b
def g_X8_divisor_4 (x2 : Int32) (x3 : Int32) : Option Int32 := (lpF (fun q : (Int32 × Int32) => s_X8_divisor_4 q.1 q.2) pfFU (x2, x3)).bind (a_X8_divisor_4 )
def p_X8_divisor (y0 : Int32) (y1 : Int32) : Option Int32 :=
  g_X8_divisor_4 y0 y1
theorem kd_X8_divisor : yX8_divisor.cls ≠ "java/lang/invoke/MethodHandle" ∧ yX8_divisor.cls ≠ "java/lang/invoke/VarHandle" ∧ (parseMethodDescriptor yX8_divisor.desc).map (fun d => d.parameters.length) = some 2 := by decide +kernel
set_option maxHeartbeats 4000000 in
set_option maxRecDepth 100000 in
theorem c_X8_divisor (l : Launch) (y0 : Int32) (y1 : Int32) (r : Int32) (h : p_X8_divisor y0 y1 = some r) : Met l yX8_divisor wsX8_divisor { frames := 0, cells := 0, slots := 0, locals := 0 } (fun v _ => v = ([.int y0, .int y1] : List Value).toArray) (k2_QcV (.int r)) 0 0 (fun _ => False) := by
  refine Met.ofW (cc := cX8_divisor) (maxL := 5) (ret := some .int) (by decide) rfl ?_
  intro p e s m args below meth c s₁ B hml hv
  subst hv
  have hx := B.exec
  have hb := B.bytes
  have hr := B.returns
  have hts := atoms_spec (ws := wsX8_divisor) B.pre
  have hown : s.vm.findClass RX8 = some m.cls := findClass_of_methodNamed B.named
  have hlocks := B.notSynchronized
  have S0 : CallFix p m c cX8_divisor 5 s ([.int y0, .int y1] : List Value).toArray wsX8_divisor RX8 := ⟨hx, hb, hml, hown, hts⟩
  have hl := lv_entry [.int y0, .int y1] (n := 5) (Nat.le_of_ble_eq_true rfl)
  rw [lg_entry_eq]
  generalize (lg_sl [.int y0, .int y1] ++ List.replicate (5 - (lg_sl [.int y0, .int y1]).length) Slot.unset).toArray = ls at hl ⊢
  have hl : lv_has ls 5 [(0, .int y0), (1, .int y1)] := hl
  have K21 : ∀ (x2 : Int32), e_X8_divisor_21 x2 = some r → ∀ ls, lv_has ls 5 [(2, .int x2)] → W p l e (headSpec wsX8_divisor { frames := 0, cells := 0, slots := 0, locals := 0 }).room s m ([.int y0, .int y1] : List Value).toArray below meth c s.heap [] 0 0 (MQ below (k2_QcV (.int r)) ([.int y0, .int y1] : List Value).toArray s 0 0 (fun _ => False)) (F0 m 21 ls []) := by
    intro x2 h ls hl
    unfold e_X8_divisor_21 at h
    refine lv_iload_n hx hb dX8_divisor_21 rfl (lv_at hl 0 rfl) ?_
    exact W.iret hx hb hr (fun t ht _ => ⟨pf_ri h, ht⟩) (fun q hq => absurd hq List.not_mem_nil) dX8_divisor_22
  have L4 : ∀ (n : Nat) (x2 : Int32) (x3 : Int32) (b : Int32), lpF (fun q : (Int32 × Int32) => s_X8_divisor_4 q.1 q.2) n (x2, x3) = some b → a_X8_divisor_4 b = some r → ∀ ls, lv_has ls 5 [(2, .int x2), (3, .int x3)] → W p l e (headSpec wsX8_divisor { frames := 0, cells := 0, slots := 0, locals := 0 }).room s m ([.int y0, .int y1] : List Value).toArray below meth c s.heap [] 0 0 (MQ below (k2_QcV (.int r)) ([.int y0, .int y1] : List Value).toArray s 0 0 (fun _ => False)) (F0 m 4 ls []) := by
    intro n
    induction n with
    | zero => intro x2 x3 b h; exact lp_zero h
    | succ n ih =>
      intro x2 x3 b h ha ls hl
      obtain ⟨z4, h, hz⟩ := lp_open h
      have h : s_X8_divisor_4 x2 x3 = some z4 := h
      unfold s_X8_divisor_4 at h
      refine lv_iload_n hx hb dX8_divisor_4 rfl (lv_at hl 1 rfl) ?_
      refine lv_if_le (tgt := 21) hx hb dX8_divisor_5 (by decide) (fun c5 => ?_) (fun c5 => ?_)
      · have h := pf_pos h c5
        have ha := pf_aft ha (lp_exit h hz)
        exact K21 x2 ha ls (lv_sub hl [0] rfl)
      · have h := pf_neg h c5
        refine lv_iload_n hx hb dX8_divisor_8 rfl (lv_at hl 0 rfl) ?_
        refine lv_iload_n hx hb dX8_divisor_9 rfl (lv_at hl 1 rfl) ?_
        obtain ⟨hd10, h⟩ := pf_guard h
        refine pf_irem hx hb dX8_divisor_10 hd10 ?_
        refine lv_istore (lv' := [(4, .int (jrem x2 x3)), (2, .int x2), (3, .int x3)]) hx hb dX8_divisor_11 hl (by decide) rfl (fun ls hl => ?_)
        refine lv_iload_n hx hb dX8_divisor_13 rfl (lv_at hl 2 rfl) ?_
        refine lv_istore_n (lv' := [(2, .int x3), (4, .int (jrem x2 x3)), (3, .int x3)]) hx hb dX8_divisor_14 rfl hl (by decide) rfl (fun ls hl => ?_)
        refine lv_iload hx hb dX8_divisor_15 (lv_at hl 1 rfl) ?_
        refine lv_istore_n (lv' := [(3, .int (jrem x2 x3)), (2, .int x3), (4, .int (jrem x2 x3))]) hx hb dX8_divisor_17 rfl hl (by decide) rfl (fun ls hl => ?_)
        refine lv_goto (tgt := 4) hx hb dX8_divisor_18 (by decide) ?_
        exact ih x3 (jrem x2 x3) b (lp_cont h hz) ha ls (lv_sub hl [1, 0] rfl)
  have G4 : ∀ (x2 : Int32) (x3 : Int32), g_X8_divisor_4 x2 x3 = some r → ∀ ls, lv_has ls 5 [(2, .int x2), (3, .int x3)] → W p l e (headSpec wsX8_divisor { frames := 0, cells := 0, slots := 0, locals := 0 }).room s m ([.int y0, .int y1] : List Value).toArray below meth c s.heap [] 0 0 (MQ below (k2_QcV (.int r)) ([.int y0, .int y1] : List Value).toArray s 0 0 (fun _ => False)) (F0 m 4 ls []) := by
    intro x2 x3 h ls hl
    unfold g_X8_divisor_4 at h
    obtain ⟨b, h, ha⟩ := pf_bind h
    exact L4 pfFU x2 x3 b h ha ls hl
  unfold p_X8_divisor at h
  refine lv_iload_n hx hb dX8_divisor_0 rfl (lv_at hl 0 rfl) ?_
  refine lv_istore_n (lv' := [(2, .int y0), (0, .int y0), (1, .int y1)]) hx hb dX8_divisor_1 rfl hl (by decide) rfl (fun ls hl => ?_)
  refine lv_iload_n hx hb dX8_divisor_2 rfl (lv_at hl 2 rfl) ?_
  refine lv_istore_n (lv' := [(3, .int y1), (2, .int y0), (0, .int y0), (1, .int y1)]) hx hb dX8_divisor_3 rfl hl (by decide) rfl (fun ls hl => ?_)
  exact G4 y0 y1 h ls (lv_sub hl [1, 0] rfl)
