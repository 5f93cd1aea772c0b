-- X8_degree
def p_X8_degree (y0 : Int32) (y1 : Int64) : Option Int32 :=
  ((p_X8_all y0).bind fun v1 => ((p_X8_many v1).bind fun v4 => ((p_X8_many y1).bind fun v8 => (if v8 = 0 then none else some (v4 / v8)))))
theorem kd_X8_degree : yX8_degree.cls ≠ "java/lang/invoke/MethodHandle" ∧ yX8_degree.cls ≠ "java/lang/invoke/VarHandle" ∧ (parseMethodDescriptor yX8_degree.desc).map (fun d => d.parameters.length) = some 2 := by decide +kernel
set_option maxHeartbeats 4000000 in
set_option maxRecDepth 100000 in
theorem c_X8_degree (l : Launch) (y0 : Int32) (y1 : Int64) (r : Int32) (h : p_X8_degree y0 y1 = some r) : Met l yX8_degree wsX8_degree { frames := 3, cells := 0, slots := 0, locals := 68 } (fun v _ => v = ([.int y0, .long y1] : List Value).toArray) (k2_QcV (.int r)) 0 0 (fun _ => False) := by
  refine Met.ofW (cc := cX8_degree) (maxL := 3) (ret := some .int) (by decide) rfl ?_
  intro p e s m args below meth c s₁ B hml hv
  subst hv
  have hx := B.exec
  have hb := B.bytes
  have hr := B.returns
  have hts := atoms_spec (ws := wsX8_degree) B.pre
  have hown : s.vm.findClass RX8 = some m.cls := findClass_of_methodNamed B.named
  have hlocks := B.notSynchronized
  have S0 : CallFix p m c cX8_degree 3 s ([.int y0, .long y1] : List Value).toArray wsX8_degree RX8 := ⟨hx, hb, hml, hown, hts⟩
  have hl := lv_entry [.int y0, .long y1] (n := 3) (Nat.le_of_ble_eq_true rfl)
  rw [lg_entry_eq]
  generalize (lg_sl [.int y0, .long y1] ++ List.replicate (3 - (lg_sl [.int y0, .long y1]).length) Slot.unset).toArray = ls at hl ⊢
  have hl : lv_has ls 3 [(0, .int y0), (1, .long y1)] := hl
  unfold p_X8_degree at h
  refine lv_iload_n hx hb dX8_degree_0 rfl (lv_at hl 0 rfl) ?_
  obtain ⟨v1, hv1, h⟩ := pf_bind h
  refine pf_call (As := [.int y0]) (rest := []) S0 (c_X8_all l y0 v1 hv1) (va_cwS 1 hts gX8_degree_X8_all rfl rfl rfl kd_X8_all ⟨Nat.le_of_ble_eq_true rfl, Nat.le_of_ble_eq_true rfl⟩) rfl hl.1 rfl (Nat.le_of_ble_eq_true rfl) dX8_degree_1 ⟨Nat.zero_le _, Nat.zero_le _⟩ ?_
  obtain ⟨v4, hv4, h⟩ := pf_bind h
  refine pf_call (As := [.long v1]) (rest := []) S0 (c_X8_many l v1 v4 hv4) (va_cwS 1 hts gX8_degree_X8_many rfl rfl rfl kd_X8_many ⟨Nat.le_of_ble_eq_true rfl, Nat.le_of_ble_eq_true rfl⟩) rfl hl.1 rfl (Nat.le_of_ble_eq_true rfl) dX8_degree_4 ⟨Nat.zero_le _, Nat.zero_le _⟩ ?_
  refine lv_lload_n hx hb dX8_degree_7 rfl (lv_at hl 1 rfl) ?_
  obtain ⟨v8, hv8, h⟩ := pf_bind h
  refine pf_call (As := [.long y1]) (rest := [.int v4]) S0 (c_X8_many l y1 v8 hv8) (va_cwS 1 hts gX8_degree_X8_many rfl rfl rfl kd_X8_many ⟨Nat.le_of_ble_eq_true rfl, Nat.le_of_ble_eq_true rfl⟩) rfl hl.1 rfl (Nat.le_of_ble_eq_true rfl) dX8_degree_8 ⟨Nat.zero_le _, Nat.zero_le _⟩ ?_
  obtain ⟨hd11, h⟩ := pf_guard h
  refine lv_idiv hx hb dX8_degree_11 hd11 ?_
  exact W.iret hx hb hr (fun t ht _ => ⟨pf_ri h, ht⟩) (fun q hq => absurd hq List.not_mem_nil) dX8_degree_12
-- X8_isCyclic
def e_X8_isCyclic_51 (x3 : Int32) : Option Int32 :=
  (if x3 &&& 1 = x3 then some x3 else none)
def s_X8_isCyclic_5 (x0 : Int32) (x1 : Int64) (x3 : Int32) (x4 : Int32) : Option ((Int32 × Int32) ⊕ (Int32)) :=
  (if x0 ≤ x4 then some (Sum.inr x3) else (if x3 = 0 then ((p_X8_isRest x0 x4).bind fun v18 => (if v18 = 0 then some (Sum.inl ((0 : Int32), (x4 + (1 : Int32)))) else ((p_X8_with x0 x1 x4).bind fun v28 => ((p_X8_all x0).bind fun v32 => (if v28 = v32 then some (Sum.inl ((1 : Int32), (x4 + (1 : Int32)))) else some (Sum.inl ((0 : Int32), (x4 + (1 : Int32))))))))) else some (Sum.inl ((1 : Int32), (x4 + (1 : Int32))))))
def a_X8_isCyclic_5  (b : Int32) : Option Int32 := (fun q : Int32 => e_X8_isCyclic_51 q) b
def g_X8_isCyclic_5 (x0 : Int32) (x1 : Int64) (x3 : Int32) (x4 : Int32) : Option Int32 := (lpF (fun q : (Int32 × Int32) => s_X8_isCyclic_5 x0 x1 q.1 q.2) pfFU (x3, x4)).bind (a_X8_isCyclic_5 )
def p_X8_isCyclic (y0 : Int32) (y1 : Int64) : Option Int32 :=
  g_X8_isCyclic_5 y0 y1 (0 : Int32) (0 : Int32)
theorem kd_X8_isCyclic : yX8_isCyclic.cls ≠ "java/lang/invoke/MethodHandle" ∧ yX8_isCyclic.cls ≠ "java/lang/invoke/VarHandle" ∧ (parseMethodDescriptor yX8_isCyclic.desc).map (fun d => d.parameters.length) = some 2 := by decide +kernel
set_option maxHeartbeats 4000000 in
set_option maxRecDepth 100000 in
theorem c_X8_isCyclic (l : Launch) (y0 : Int32) (y1 : Int64) (r : Int32) (h : p_X8_isCyclic y0 y1 = some r) : Met l yX8_isCyclic wsX8_isCyclic { frames := 3, cells := 0, slots := 0, locals := 68 } (fun v _ => v = ([.int y0, .long y1] : List Value).toArray) (k2_QcV (.int r)) 0 0 (fun _ => False) := by
  refine Met.ofW (cc := cX8_isCyclic) (maxL := 5) (ret := some .boolean) (by decide) rfl ?_
  intro p e s m args below meth c s₁ B hml hv
  subst hv
  have hx := B.exec
  have hb := B.bytes
  have hr := B.returns
  have hts := atoms_spec (ws := wsX8_isCyclic) B.pre
  have hown : s.vm.findClass RX8 = some m.cls := findClass_of_methodNamed B.named
  have hlocks := B.notSynchronized
  have S0 : CallFix p m c cX8_isCyclic 5 s ([.int y0, .long y1] : List Value).toArray wsX8_isCyclic RX8 := ⟨hx, hb, hml, hown, hts⟩
  have hl := lv_entry [.int y0, .long y1] (n := 5) (Nat.le_of_ble_eq_true rfl)
  rw [lg_entry_eq]
  generalize (lg_sl [.int y0, .long y1] ++ List.replicate (5 - (lg_sl [.int y0, .long y1]).length) Slot.unset).toArray = ls at hl ⊢
  have hl : lv_has ls 5 [(0, .int y0), (1, .long y1)] := hl
  have K51 : ∀ (x3 : Int32), e_X8_isCyclic_51 x3 = some r → ∀ ls, lv_has ls 5 [(3, .int x3)] → W p l e (headSpec wsX8_isCyclic { frames := 3, cells := 0, slots := 0, locals := 68 }).room s m ([.int y0, .long y1] : List Value).toArray below meth c s.heap [] 0 0 (MQ below (k2_QcV (.int r)) ([.int y0, .long y1] : List Value).toArray s 0 0 (fun _ => False)) (F0 m 51 ls []) := by
    intro x3 h ls hl
    unfold e_X8_isCyclic_51 at h
    refine lv_iload_n hx hb dX8_isCyclic_51 rfl (lv_at hl 0 rfl) ?_
    obtain ⟨hn52, h⟩ := pf_need h
    exact W.zret hx hb hr (pf_nb hn52) (fun t ht _ => ⟨pf_ri h, ht⟩) (fun q hq => absurd hq List.not_mem_nil) dX8_isCyclic_52
  have L5 : ∀ (n : Nat) (x0 : Int32) (x1 : Int64) (x3 : Int32) (x4 : Int32) (b : Int32), lpF (fun q : (Int32 × Int32) => s_X8_isCyclic_5 x0 x1 q.1 q.2) n (x3, x4) = some b → a_X8_isCyclic_5 b = some r → ∀ ls, lv_has ls 5 [(0, .int x0), (1, .long x1), (3, .int x3), (4, .int x4)] → W p l e (headSpec wsX8_isCyclic { frames := 3, cells := 0, slots := 0, locals := 68 }).room s m ([.int y0, .long y1] : List Value).toArray below meth c s.heap [] 0 0 (MQ below (k2_QcV (.int r)) ([.int y0, .long y1] : List Value).toArray s 0 0 (fun _ => False)) (F0 m 5 ls []) := by
    intro n
    induction n with
    | zero => intro x0 x1 x3 x4 b h; exact lp_zero h
    | succ n ih =>
      intro x0 x1 x3 x4 b h ha ls hl
      obtain ⟨z5, h, hz⟩ := lp_open h
      have h : s_X8_isCyclic_5 x0 x1 x3 x4 = some z5 := h
      unfold s_X8_isCyclic_5 at h
      refine lv_iload hx hb dX8_isCyclic_5 (lv_at hl 3 rfl) ?_
      refine lv_iload_n hx hb dX8_isCyclic_7 rfl (lv_at hl 0 rfl) ?_
      refine lv_icmp_ge (tgt := 51) hx hb dX8_isCyclic_8 (by decide) (fun c8 => ?_) (fun c8 => ?_)
      · have h := pf_pos h c8
        have ha := pf_aft ha (lp_exit h hz)
        exact K51 x3 ha ls (lv_sub hl [2] rfl)
      · have h := pf_neg h c8
        refine lv_iload_n hx hb dX8_isCyclic_11 rfl (lv_at hl 2 rfl) ?_
        refine lv_if_ne (tgt := 39) hx hb dX8_isCyclic_12 (by decide) (fun c12 => ?_) (fun c12 => ?_)
        · have h := pf_neg h c12
          refine lv_iconst (v := 1) hx hb dX8_isCyclic_39 (by decide) ?_
          refine lv_goto (tgt := 44) hx hb dX8_isCyclic_40 (by decide) ?_
          refine lv_istore_n (lv' := [(3, .int (1 : Int32)), (0, .int x0), (1, .long x1), (4, .int x4)]) hx hb dX8_isCyclic_44 rfl hl (by decide) rfl (fun ls hl => ?_)
          refine lv_iinc (v := (x4 + (1 : Int32))) (lv' := [(4, .int (x4 + (1 : Int32))), (3, .int (1 : Int32)), (0, .int x0), (1, .long x1)]) hx hb dX8_isCyclic_45 hl (k := 3) rfl rfl (by decide) rfl (fun ls hl => ?_)
          refine lv_goto (tgt := 5) hx hb dX8_isCyclic_48 (by decide) ?_
          exact ih x0 x1 (1 : Int32) (x4 + (1 : Int32)) b (lp_cont h hz) ha ls (lv_sub hl [2, 3, 1, 0] rfl)
        · have h := pf_pos h c12
          refine lv_iload_n hx hb dX8_isCyclic_15 rfl (lv_at hl 0 rfl) ?_
          refine lv_iload hx hb dX8_isCyclic_16 (lv_at hl 3 rfl) ?_
          obtain ⟨v18, hv18, h⟩ := pf_bind h
          refine pf_call (As := [.int x0, .int x4]) (rest := []) S0 (c_X8_isRest l x0 x4 v18 hv18) (va_cwS 2 hts gX8_isCyclic_X8_isRest rfl rfl rfl kd_X8_isRest ⟨Nat.le_of_ble_eq_true rfl, Nat.le_of_ble_eq_true rfl⟩) rfl hl.1 rfl (Nat.le_of_ble_eq_true rfl) dX8_isCyclic_18 ⟨Nat.zero_le _, Nat.zero_le _⟩ ?_
          refine lv_if_eq (tgt := 43) hx hb dX8_isCyclic_21 (by decide) (fun c21 => ?_) (fun c21 => ?_)
          · have h := pf_pos h c21
            refine lv_iconst (v := 0) hx hb dX8_isCyclic_43 (by decide) ?_
            refine lv_istore_n (lv' := [(3, .int (0 : Int32)), (0, .int x0), (1, .long x1), (4, .int x4)]) hx hb dX8_isCyclic_44 rfl hl (by decide) rfl (fun ls hl => ?_)
            refine lv_iinc (v := (x4 + (1 : Int32))) (lv' := [(4, .int (x4 + (1 : Int32))), (3, .int (0 : Int32)), (0, .int x0), (1, .long x1)]) hx hb dX8_isCyclic_45 hl (k := 3) rfl rfl (by decide) rfl (fun ls hl => ?_)
            refine lv_goto (tgt := 5) hx hb dX8_isCyclic_48 (by decide) ?_
            exact ih x0 x1 (0 : Int32) (x4 + (1 : Int32)) b (lp_cont h hz) ha ls (lv_sub hl [2, 3, 1, 0] rfl)
          · have h := pf_neg h c21
            refine lv_iload_n hx hb dX8_isCyclic_24 rfl (lv_at hl 0 rfl) ?_
            refine lv_lload_n hx hb dX8_isCyclic_25 rfl (lv_at hl 1 rfl) ?_
            refine lv_iload hx hb dX8_isCyclic_26 (lv_at hl 3 rfl) ?_
            obtain ⟨v28, hv28, h⟩ := pf_bind h
            refine pf_call (As := [.int x0, .long x1, .int x4]) (rest := []) S0 (c_X8_with l x0 x1 x4 v28 hv28) (va_cwS 3 hts gX8_isCyclic_X8_with rfl rfl rfl kd_X8_with ⟨Nat.le_of_ble_eq_true rfl, Nat.le_of_ble_eq_true rfl⟩) rfl hl.1 rfl (Nat.le_of_ble_eq_true rfl) dX8_isCyclic_28 ⟨Nat.zero_le _, Nat.zero_le _⟩ ?_
            refine lv_iload_n hx hb dX8_isCyclic_31 rfl (lv_at hl 0 rfl) ?_
            obtain ⟨v32, hv32, h⟩ := pf_bind h
            refine pf_call (As := [.int x0]) (rest := [.long v28]) S0 (c_X8_all l x0 v32 hv32) (va_cwS 1 hts gX8_isCyclic_X8_all rfl rfl rfl kd_X8_all ⟨Nat.le_of_ble_eq_true rfl, Nat.le_of_ble_eq_true rfl⟩) rfl hl.1 rfl (Nat.le_of_ble_eq_true rfl) dX8_isCyclic_32 ⟨Nat.zero_le _, Nat.zero_le _⟩ ?_
            refine W.lcmp hx hb dX8_isCyclic_35 ?_
            refine lv_if_ne (tgt := 43) hx hb dX8_isCyclic_36 (by decide) (fun c36 => ?_) (fun c36 => ?_)
            · have h := pf_neg h (fun q => c36 ((lg_cmp_eq _ _).mpr q))
              refine lv_iconst (v := 0) hx hb dX8_isCyclic_43 (by decide) ?_
              refine lv_istore_n (lv' := [(3, .int (0 : Int32)), (0, .int x0), (1, .long x1), (4, .int x4)]) hx hb dX8_isCyclic_44 rfl hl (by decide) rfl (fun ls hl => ?_)
              refine lv_iinc (v := (x4 + (1 : Int32))) (lv' := [(4, .int (x4 + (1 : Int32))), (3, .int (0 : Int32)), (0, .int x0), (1, .long x1)]) hx hb dX8_isCyclic_45 hl (k := 3) rfl rfl (by decide) rfl (fun ls hl => ?_)
              refine lv_goto (tgt := 5) hx hb dX8_isCyclic_48 (by decide) ?_
              exact ih x0 x1 (0 : Int32) (x4 + (1 : Int32)) b (lp_cont h hz) ha ls (lv_sub hl [2, 3, 1, 0] rfl)
            · have h := pf_pos h ((lg_cmp_eq _ _).mp c36)
              refine lv_iconst (v := 1) hx hb dX8_isCyclic_39 (by decide) ?_
              refine lv_goto (tgt := 44) hx hb dX8_isCyclic_40 (by decide) ?_
              refine lv_istore_n (lv' := [(3, .int (1 : Int32)), (0, .int x0), (1, .long x1), (4, .int x4)]) hx hb dX8_isCyclic_44 rfl hl (by decide) rfl (fun ls hl => ?_)
              refine lv_iinc (v := (x4 + (1 : Int32))) (lv' := [(4, .int (x4 + (1 : Int32))), (3, .int (1 : Int32)), (0, .int x0), (1, .long x1)]) hx hb dX8_isCyclic_45 hl (k := 3) rfl rfl (by decide) rfl (fun ls hl => ?_)
              refine lv_goto (tgt := 5) hx hb dX8_isCyclic_48 (by decide) ?_
              exact ih x0 x1 (1 : Int32) (x4 + (1 : Int32)) b (lp_cont h hz) ha ls (lv_sub hl [2, 3, 1, 0] rfl)
  have G5 : ∀ (x0 : Int32) (x1 : Int64) (x3 : Int32) (x4 : Int32), g_X8_isCyclic_5 x0 x1 x3 x4 = some r → ∀ ls, lv_has ls 5 [(0, .int x0), (1, .long x1), (3, .int x3), (4, .int x4)] → W p l e (headSpec wsX8_isCyclic { frames := 3, cells := 0, slots := 0, locals := 68 }).room s m ([.int y0, .long y1] : List Value).toArray below meth c s.heap [] 0 0 (MQ below (k2_QcV (.int r)) ([.int y0, .long y1] : List Value).toArray s 0 0 (fun _ => False)) (F0 m 5 ls []) := by
    intro x0 x1 x3 x4 h ls hl
    unfold g_X8_isCyclic_5 at h
    obtain ⟨b, h, ha⟩ := pf_bind h
    exact L5 pfFU x0 x1 x3 x4 b h ha ls hl
  unfold p_X8_isCyclic at h
  refine lv_iconst (v := 0) hx hb dX8_isCyclic_0 (by decide) ?_
  refine lv_istore_n (lv' := [(3, .int (0 : Int32)), (0, .int y0), (1, .long y1)]) hx hb dX8_isCyclic_1 rfl hl (by decide) rfl (fun ls hl => ?_)
  refine lv_iconst (v := 0) hx hb dX8_isCyclic_2 (by decide) ?_
  refine lv_istore (lv' := [(4, .int (0 : Int32)), (3, .int (0 : Int32)), (0, .int y0), (1, .long y1)]) hx hb dX8_isCyclic_3 hl (by decide) rfl (fun ls hl => ?_)
  exact G5 y0 y1 (0 : Int32) (0 : Int32) h ls (lv_sub hl [2, 3, 1, 0] rfl)
-- X8_isReal
def p_X8_isReal (y0 : Int32) (y1 : Int64) : Option Int32 :=
  (if y0 = (1 : Int32) then some (1 : Int32) else (if ((jshr y1 (y0 - (1 : Int32))) &&& (1 : Int64)) = (1 : Int64) then some (1 : Int32) else some (0 : Int32)))
theorem kd_X8_isReal : yX8_isReal.cls ≠ "java/lang/invoke/MethodHandle" ∧ yX8_isReal.cls ≠ "java/lang/invoke/VarHandle" ∧ (parseMethodDescriptor yX8_isReal.desc).map (fun d => d.parameters.length) = some 2 := by decide +kernel
set_option maxHeartbeats 4000000 in
set_option maxRecDepth 100000 in
theorem c_X8_isReal (l : Launch) (y0 : Int32) (y1 : Int64) (r : Int32) (h : p_X8_isReal y0 y1 = some r) : Met l yX8_isReal wsX8_isReal { frames := 0, cells := 0, slots := 0, locals := 0 } (fun v _ => v = ([.int y0, .long y1] : List Value).toArray) (k2_QcV (.int r)) 0 0 (fun _ => False) := by
  refine Met.ofW (cc := cX8_isReal) (maxL := 3) (ret := some .boolean) (by decide) rfl ?_
  intro p e s m args below meth c s₁ B hml hv
  subst hv
  have hx := B.exec
  have hb := B.bytes
  have hr := B.returns
  have hts := atoms_spec (ws := wsX8_isReal) B.pre
  have hown : s.vm.findClass RX8 = some m.cls := findClass_of_methodNamed B.named
  have hlocks := B.notSynchronized
  have S0 : CallFix p m c cX8_isReal 3 s ([.int y0, .long y1] : List Value).toArray wsX8_isReal RX8 := ⟨hx, hb, hml, hown, hts⟩
  have hl := lv_entry [.int y0, .long y1] (n := 3) (Nat.le_of_ble_eq_true rfl)
  rw [lg_entry_eq]
  generalize (lg_sl [.int y0, .long y1] ++ List.replicate (3 - (lg_sl [.int y0, .long y1]).length) Slot.unset).toArray = ls at hl ⊢
  have hl : lv_has ls 3 [(0, .int y0), (1, .long y1)] := hl
  unfold p_X8_isReal at h
  refine lv_iload_n hx hb dX8_isReal_0 rfl (lv_at hl 0 rfl) ?_
  refine lv_iconst (v := 1) hx hb dX8_isReal_1 (by decide) ?_
  refine lv_icmp_eq (tgt := 17) hx hb dX8_isReal_2 (by decide) (fun c2 => ?_) (fun c2 => ?_)
  · have h := pf_pos h c2
    refine lv_iconst (v := 1) hx hb dX8_isReal_17 (by decide) ?_
    refine lv_goto (tgt := 22) hx hb dX8_isReal_18 (by decide) ?_
    exact W.zret hx hb hr rfl (fun t ht _ => ⟨pf_ri h, ht⟩) (fun q hq => absurd hq List.not_mem_nil) dX8_isReal_22
  · have h := pf_neg h c2
    refine lv_lload_n hx hb dX8_isReal_5 rfl (lv_at hl 1 rfl) ?_
    refine lv_iload_n hx hb dX8_isReal_6 rfl (lv_at hl 0 rfl) ?_
    refine lv_iconst (v := 1) hx hb dX8_isReal_7 (by decide) ?_
    refine lv_isub hx hb dX8_isReal_8 ?_
    refine pf_lshr hx hb dX8_isReal_9 ?_
    refine lv_lconst (v := 1) hx hb dX8_isReal_10 (by decide) ?_
    refine lv_land hx hb dX8_isReal_11 ?_
    refine lv_lconst (v := 1) hx hb dX8_isReal_12 (by decide) ?_
    refine W.lcmp hx hb dX8_isReal_13 ?_
    refine lv_if_ne (tgt := 21) hx hb dX8_isReal_14 (by decide) (fun c14 => ?_) (fun c14 => ?_)
    · have h := pf_neg h (fun q => c14 ((lg_cmp_eq _ _).mpr q))
      refine lv_iconst (v := 0) hx hb dX8_isReal_21 (by decide) ?_
      exact W.zret hx hb hr rfl (fun t ht _ => ⟨pf_ri h, ht⟩) (fun q hq => absurd hq List.not_mem_nil) dX8_isReal_22
    · have h := pf_pos h ((lg_cmp_eq _ _).mp c14)
      refine lv_iconst (v := 1) hx hb dX8_isReal_17 (by decide) ?_
      refine lv_goto (tgt := 22) hx hb dX8_isReal_18 (by decide) ?_
      exact W.zret hx hb hr rfl (fun t ht _ => ⟨pf_ri h, ht⟩) (fun q hq => absurd hq List.not_mem_nil) dX8_isReal_22
-- X8_isAsked
def p_X8_isAsked (y0 : Int32) : Option Int32 :=
  ((p_X8_isIn y0 (2 : Int32) (997 : Int32)).bind fun v5 => (if v5 = 0 then some (0 : Int32) else ((p_X8_isPrime y0).bind fun v12 => (if v12 = 0 then some (0 : Int32) else some (1 : Int32)))))
theorem kd_X8_isAsked : yX8_isAsked.cls ≠ "java/lang/invoke/MethodHandle" ∧ yX8_isAsked.cls ≠ "java/lang/invoke/VarHandle" ∧ (parseMethodDescriptor yX8_isAsked.desc).map (fun d => d.parameters.length) = some 1 := by decide +kernel
set_option maxHeartbeats 4000000 in
set_option maxRecDepth 100000 in
theorem c_X8_isAsked (l : Launch) (y0 : Int32) (r : Int32) (h : p_X8_isAsked y0 = some r) : Met l yX8_isAsked wsX8_isAsked { frames := 1, cells := 0, slots := 0, locals := 22 } (fun v _ => v = ([.int y0] : List Value).toArray) (k2_QcV (.int r)) 0 0 (fun _ => False) := by
  refine Met.ofW (cc := cX8_isAsked) (maxL := 1) (ret := some .boolean) (by decide) rfl ?_
  intro p e s m args below meth c s₁ B hml hv
  subst hv
  have hx := B.exec
  have hb := B.bytes
  have hr := B.returns
  have hts := atoms_spec (ws := wsX8_isAsked) B.pre
  have hown : s.vm.findClass RX8 = some m.cls := findClass_of_methodNamed B.named
  have hlocks := B.notSynchronized
  have S0 : CallFix p m c cX8_isAsked 1 s ([.int y0] : List Value).toArray wsX8_isAsked RX8 := ⟨hx, hb, hml, hown, hts⟩
  have hl := lv_entry [.int y0] (n := 1) (Nat.le_of_ble_eq_true rfl)
  rw [lg_entry_eq]
  generalize (lg_sl [.int y0] ++ List.replicate (1 - (lg_sl [.int y0]).length) Slot.unset).toArray = ls at hl ⊢
  have hl : lv_has ls 1 [(0, .int y0)] := hl
  unfold p_X8_isAsked at h
  refine lv_iload_n hx hb dX8_isAsked_0 rfl (lv_at hl 0 rfl) ?_
  refine lv_iconst (v := 2) hx hb dX8_isAsked_1 (by decide) ?_
  refine lv_sipush (v := 997) hx hb dX8_isAsked_2 (by decide) ?_
  obtain ⟨v5, hv5, h⟩ := pf_bind h
  refine pf_call (As := [.int y0, .int (2 : Int32), .int (997 : Int32)]) (rest := []) S0 (c_X8_isIn l y0 (2 : Int32) (997 : Int32) v5 hv5) (va_cwS 3 hts gX8_isAsked_X8_isIn rfl rfl rfl kd_X8_isIn ⟨Nat.le_of_ble_eq_true rfl, Nat.le_of_ble_eq_true rfl⟩) rfl hl.1 rfl (Nat.le_of_ble_eq_true rfl) dX8_isAsked_5 ⟨Nat.zero_le _, Nat.zero_le _⟩ ?_
  refine lv_if_eq (tgt := 22) hx hb dX8_isAsked_8 (by decide) (fun c8 => ?_) (fun c8 => ?_)
  · have h := pf_pos h c8
    refine lv_iconst (v := 0) hx hb dX8_isAsked_22 (by decide) ?_
    exact W.zret hx hb hr rfl (fun t ht _ => ⟨pf_ri h, ht⟩) (fun q hq => absurd hq List.not_mem_nil) dX8_isAsked_23
  · have h := pf_neg h c8
    refine lv_iload_n hx hb dX8_isAsked_11 rfl (lv_at hl 0 rfl) ?_
    obtain ⟨v12, hv12, h⟩ := pf_bind h
    refine pf_call (As := [.int y0]) (rest := []) S0 (c_X8_isPrime l y0 v12 hv12) (va_cwS 1 hts gX8_isAsked_X8_isPrime rfl rfl rfl kd_X8_isPrime ⟨Nat.le_of_ble_eq_true rfl, Nat.le_of_ble_eq_true rfl⟩) rfl hl.1 rfl (Nat.le_of_ble_eq_true rfl) dX8_isAsked_12 ⟨Nat.zero_le _, Nat.zero_le _⟩ ?_
    refine lv_if_eq (tgt := 22) hx hb dX8_isAsked_15 (by decide) (fun c15 => ?_) (fun c15 => ?_)
    · have h := pf_pos h c15
      refine lv_iconst (v := 0) hx hb dX8_isAsked_22 (by decide) ?_
      exact W.zret hx hb hr rfl (fun t ht _ => ⟨pf_ri h, ht⟩) (fun q hq => absurd hq List.not_mem_nil) dX8_isAsked_23
    · have h := pf_neg h c15
      refine lv_iconst (v := 1) hx hb dX8_isAsked_18 (by decide) ?_
      refine lv_goto (tgt := 23) hx hb dX8_isAsked_19 (by decide) ?_
      exact W.zret hx hb hr rfl (fun t ht _ => ⟨pf_ri h, ht⟩) (fun q hq => absurd hq List.not_mem_nil) dX8_isAsked_23
-- X8_isAmong
def e_X8_isAmong_49 (x5 : Int32) : Option Int32 :=
  (if x5 &&& 1 = x5 then some x5 else none)
def s_X8_isAmong_6 (x0 : Int32) (x1 : Int32) (x2 : Int32) (x3 : Int64) (x5 : Int32) (x6 : Int32) : Option ((Int32 × Int32) ⊕ (Int32)) :=
  (if x0 ≤ x6 then some (Sum.inr x5) else (if x5 = 0 then (if ((jshr x3 x6) &&& (1 : Int64)) = (1 : Int64) then (if x1 = 0 then none else (if (jrem x6 x1) = x2 then some (Sum.inl ((1 : Int32), (x6 + (1 : Int32)))) else some (Sum.inl ((0 : Int32), (x6 + (1 : Int32)))))) else some (Sum.inl ((0 : Int32), (x6 + (1 : Int32))))) else some (Sum.inl ((1 : Int32), (x6 + (1 : Int32))))))
def a_X8_isAmong_6  (b : Int32) : Option Int32 := (fun q : Int32 => e_X8_isAmong_49 q) b
def g_X8_isAmong_6 (x0 : Int32) (x1 : Int32) (x2 : Int32) (x3 : Int64) (x5 : Int32) (x6 : Int32) : Option Int32 := (lpF (fun q : (Int32 × Int32) => s_X8_isAmong_6 x0 x1 x2 x3 q.1 q.2) pfFU (x5, x6)).bind (a_X8_isAmong_6 )
def p_X8_isAmong (y0 : Int32) (y1 : Int32) (y2 : Int32) (y3 : Int64) : Option Int32 :=
  g_X8_isAmong_6 y0 y1 y2 y3 (0 : Int32) (0 : Int32)
theorem kd_X8_isAmong : yX8_isAmong.cls ≠ "java/lang/invoke/MethodHandle" ∧ yX8_isAmong.cls ≠ "java/lang/invoke/VarHandle" ∧ (parseMethodDescriptor yX8_isAmong.desc).map (fun d => d.parameters.length) = some 4 := by decide +kernel
set_option maxHeartbeats 4000000 in
set_option maxRecDepth 100000 in
theorem c_X8_isAmong (l : Launch) (y0 : Int32) (y1 : Int32) (y2 : Int32) (y3 : Int64) (r : Int32) (h : p_X8_isAmong y0 y1 y2 y3 = some r) : Met l yX8_isAmong wsX8_isAmong { frames := 0, cells := 0, slots := 0, locals := 0 } (fun v _ => v = ([.int y0, .int y1, .int y2, .long y3] : List Value).toArray) (k2_QcV (.int r)) 0 0 (fun _ => False) := by
  refine Met.ofW (cc := cX8_isAmong) (maxL := 7) (ret := some .boolean) (by decide) rfl ?_
  intro p e s m args below meth c s₁ B hml hv
  subst hv
  have hx := B.exec
  have hb := B.bytes
  have hr := B.returns
  have hts := atoms_spec (ws := wsX8_isAmong) B.pre
  have hown : s.vm.findClass RX8 = some m.cls := findClass_of_methodNamed B.named
  have hlocks := B.notSynchronized
  have S0 : CallFix p m c cX8_isAmong 7 s ([.int y0, .int y1, .int y2, .long y3] : List Value).toArray wsX8_isAmong RX8 := ⟨hx, hb, hml, hown, hts⟩
  have hl := lv_entry [.int y0, .int y1, .int y2, .long y3] (n := 7) (Nat.le_of_ble_eq_true rfl)
  rw [lg_entry_eq]
  generalize (lg_sl [.int y0, .int y1, .int y2, .long y3] ++ List.replicate (7 - (lg_sl [.int y0, .int y1, .int y2, .long y3]).length) Slot.unset).toArray = ls at hl ⊢
  have hl : lv_has ls 7 [(0, .int y0), (1, .int y1), (2, .int y2), (3, .long y3)] := hl
  have K49 : ∀ (x5 : Int32), e_X8_isAmong_49 x5 = some r → ∀ ls, lv_has ls 7 [(5, .int x5)] → W p l e (headSpec wsX8_isAmong { frames := 0, cells := 0, slots := 0, locals := 0 }).room s m ([.int y0, .int y1, .int y2, .long y3] : List Value).toArray below meth c s.heap [] 0 0 (MQ below (k2_QcV (.int r)) ([.int y0, .int y1, .int y2, .long y3] : List Value).toArray s 0 0 (fun _ => False)) (F0 m 49 ls []) := by
    intro x5 h ls hl
    unfold e_X8_isAmong_49 at h
    refine lv_iload hx hb dX8_isAmong_49 (lv_at hl 0 rfl) ?_
    obtain ⟨hn51, h⟩ := pf_need h
    exact W.zret hx hb hr (pf_nb hn51) (fun t ht _ => ⟨pf_ri h, ht⟩) (fun q hq => absurd hq List.not_mem_nil) dX8_isAmong_51
  have L6 : ∀ (n : Nat) (x0 : Int32) (x1 : Int32) (x2 : Int32) (x3 : Int64) (x5 : Int32) (x6 : Int32) (b : Int32), lpF (fun q : (Int32 × Int32) => s_X8_isAmong_6 x0 x1 x2 x3 q.1 q.2) n (x5, x6) = some b → a_X8_isAmong_6 b = some r → ∀ ls, lv_has ls 7 [(0, .int x0), (1, .int x1), (2, .int x2), (3, .long x3), (5, .int x5), (6, .int x6)] → W p l e (headSpec wsX8_isAmong { frames := 0, cells := 0, slots := 0, locals := 0 }).room s m ([.int y0, .int y1, .int y2, .long y3] : List Value).toArray below meth c s.heap [] 0 0 (MQ below (k2_QcV (.int r)) ([.int y0, .int y1, .int y2, .long y3] : List Value).toArray s 0 0 (fun _ => False)) (F0 m 6 ls []) := by
    intro n
    induction n with
    | zero => intro x0 x1 x2 x3 x5 x6 b h; exact lp_zero h
    | succ n ih =>
      intro x0 x1 x2 x3 x5 x6 b h ha ls hl
      obtain ⟨z6, h, hz⟩ := lp_open h
      have h : s_X8_isAmong_6 x0 x1 x2 x3 x5 x6 = some z6 := h
      unfold s_X8_isAmong_6 at h
      refine lv_iload hx hb dX8_isAmong_6 (lv_at hl 5 rfl) ?_
      refine lv_iload_n hx hb dX8_isAmong_8 rfl (lv_at hl 0 rfl) ?_
      refine lv_icmp_ge (tgt := 49) hx hb dX8_isAmong_9 (by decide) (fun c9 => ?_) (fun c9 => ?_)
      · have h := pf_pos h c9
        have ha := pf_aft ha (lp_exit h hz)
        exact K49 x5 ha ls (lv_sub hl [4] rfl)
      · have h := pf_neg h c9
        refine lv_iload hx hb dX8_isAmong_12 (lv_at hl 4 rfl) ?_
        refine lv_if_ne (tgt := 36) hx hb dX8_isAmong_14 (by decide) (fun c14 => ?_) (fun c14 => ?_)
        · have h := pf_neg h c14
          refine lv_iconst (v := 1) hx hb dX8_isAmong_36 (by decide) ?_
          refine lv_goto (tgt := 41) hx hb dX8_isAmong_37 (by decide) ?_
          refine lv_istore (lv' := [(5, .int (1 : Int32)), (0, .int x0), (1, .int x1), (2, .int x2), (3, .long x3), (6, .int x6)]) hx hb dX8_isAmong_41 hl (by decide) rfl (fun ls hl => ?_)
          refine lv_iinc (v := (x6 + (1 : Int32))) (lv' := [(6, .int (x6 + (1 : Int32))), (5, .int (1 : Int32)), (0, .int x0), (1, .int x1), (2, .int x2), (3, .long x3)]) hx hb dX8_isAmong_43 hl (k := 5) rfl rfl (by decide) rfl (fun ls hl => ?_)
          refine lv_goto (tgt := 6) hx hb dX8_isAmong_46 (by decide) ?_
          exact ih x0 x1 x2 x3 (1 : Int32) (x6 + (1 : Int32)) b (lp_cont h hz) ha ls (lv_sub hl [2, 3, 4, 5, 1, 0] rfl)
        · have h := pf_pos h c14
          refine lv_lload_n hx hb dX8_isAmong_17 rfl (lv_at hl 3 rfl) ?_
          refine lv_iload hx hb dX8_isAmong_18 (lv_at hl 5 rfl) ?_
          refine pf_lshr hx hb dX8_isAmong_20 ?_
          refine lv_lconst (v := 1) hx hb dX8_isAmong_21 (by decide) ?_
          refine lv_land hx hb dX8_isAmong_22 ?_
          refine lv_lconst (v := 1) hx hb dX8_isAmong_23 (by decide) ?_
          refine W.lcmp hx hb dX8_isAmong_24 ?_
          refine lv_if_ne (tgt := 40) hx hb dX8_isAmong_25 (by decide) (fun c25 => ?_) (fun c25 => ?_)
          · have h := pf_neg h (fun q => c25 ((lg_cmp_eq _ _).mpr q))
            refine lv_iconst (v := 0) hx hb dX8_isAmong_40 (by decide) ?_
            refine lv_istore (lv' := [(5, .int (0 : Int32)), (0, .int x0), (1, .int x1), (2, .int x2), (3, .long x3), (6, .int x6)]) hx hb dX8_isAmong_41 hl (by decide) rfl (fun ls hl => ?_)
            refine lv_iinc (v := (x6 + (1 : Int32))) (lv' := [(6, .int (x6 + (1 : Int32))), (5, .int (0 : Int32)), (0, .int x0), (1, .int x1), (2, .int x2), (3, .long x3)]) hx hb dX8_isAmong_43 hl (k := 5) rfl rfl (by decide) rfl (fun ls hl => ?_)
            refine lv_goto (tgt := 6) hx hb dX8_isAmong_46 (by decide) ?_
            exact ih x0 x1 x2 x3 (0 : Int32) (x6 + (1 : Int32)) b (lp_cont h hz) ha ls (lv_sub hl [2, 3, 4, 5, 1, 0] rfl)
          · have h := pf_pos h ((lg_cmp_eq _ _).mp c25)
            refine lv_iload hx hb dX8_isAmong_28 (lv_at hl 5 rfl) ?_
            refine lv_iload_n hx hb dX8_isAmong_30 rfl (lv_at hl 1 rfl) ?_
            obtain ⟨hd31, h⟩ := pf_guard h
            refine pf_irem hx hb dX8_isAmong_31 hd31 ?_
            refine lv_iload_n hx hb dX8_isAmong_32 rfl (lv_at hl 2 rfl) ?_
            refine lv_icmp_ne (tgt := 40) hx hb dX8_isAmong_33 (by decide) (fun c33 => ?_) (fun c33 => ?_)
            · have h := pf_neg h c33
              refine lv_iconst (v := 0) hx hb dX8_isAmong_40 (by decide) ?_
              refine lv_istore (lv' := [(5, .int (0 : Int32)), (0, .int x0), (1, .int x1), (2, .int x2), (3, .long x3), (6, .int x6)]) hx hb dX8_isAmong_41 hl (by decide) rfl (fun ls hl => ?_)
              refine lv_iinc (v := (x6 + (1 : Int32))) (lv' := [(6, .int (x6 + (1 : Int32))), (5, .int (0 : Int32)), (0, .int x0), (1, .int x1), (2, .int x2), (3, .long x3)]) hx hb dX8_isAmong_43 hl (k := 5) rfl rfl (by decide) rfl (fun ls hl => ?_)
              refine lv_goto (tgt := 6) hx hb dX8_isAmong_46 (by decide) ?_
              exact ih x0 x1 x2 x3 (0 : Int32) (x6 + (1 : Int32)) b (lp_cont h hz) ha ls (lv_sub hl [2, 3, 4, 5, 1, 0] rfl)
            · have h := pf_pos h c33
              refine lv_iconst (v := 1) hx hb dX8_isAmong_36 (by decide) ?_
              refine lv_goto (tgt := 41) hx hb dX8_isAmong_37 (by decide) ?_
              refine lv_istore (lv' := [(5, .int (1 : Int32)), (0, .int x0), (1, .int x1), (2, .int x2), (3, .long x3), (6, .int x6)]) hx hb dX8_isAmong_41 hl (by decide) rfl (fun ls hl => ?_)
              refine lv_iinc (v := (x6 + (1 : Int32))) (lv' := [(6, .int (x6 + (1 : Int32))), (5, .int (1 : Int32)), (0, .int x0), (1, .int x1), (2, .int x2), (3, .long x3)]) hx hb dX8_isAmong_43 hl (k := 5) rfl rfl (by decide) rfl (fun ls hl => ?_)
              refine lv_goto (tgt := 6) hx hb dX8_isAmong_46 (by decide) ?_
              exact ih x0 x1 x2 x3 (1 : Int32) (x6 + (1 : Int32)) b (lp_cont h hz) ha ls (lv_sub hl [2, 3, 4, 5, 1, 0] rfl)
  have G6 : ∀ (x0 : Int32) (x1 : Int32) (x2 : Int32) (x3 : Int64) (x5 : Int32) (x6 : Int32), g_X8_isAmong_6 x0 x1 x2 x3 x5 x6 = some r → ∀ ls, lv_has ls 7 [(0, .int x0), (1, .int x1), (2, .int x2), (3, .long x3), (5, .int x5), (6, .int x6)] → W p l e (headSpec wsX8_isAmong { frames := 0, cells := 0, slots := 0, locals := 0 }).room s m ([.int y0, .int y1, .int y2, .long y3] : List Value).toArray below meth c s.heap [] 0 0 (MQ below (k2_QcV (.int r)) ([.int y0, .int y1, .int y2, .long y3] : List Value).toArray s 0 0 (fun _ => False)) (F0 m 6 ls []) := by
    intro x0 x1 x2 x3 x5 x6 h ls hl
    unfold g_X8_isAmong_6 at h
    obtain ⟨b, h, ha⟩ := pf_bind h
    exact L6 pfFU x0 x1 x2 x3 x5 x6 b h ha ls hl
  unfold p_X8_isAmong at h
  refine lv_iconst (v := 0) hx hb dX8_isAmong_0 (by decide) ?_
  refine lv_istore (lv' := [(5, .int (0 : Int32)), (0, .int y0), (1, .int y1), (2, .int y2), (3, .long y3)]) hx hb dX8_isAmong_1 hl (by decide) rfl (fun ls hl => ?_)
  refine lv_iconst (v := 0) hx hb dX8_isAmong_3 (by decide) ?_
  refine lv_istore (lv' := [(6, .int (0 : Int32)), (5, .int (0 : Int32)), (0, .int y0), (1, .int y1), (2, .int y2), (3, .long y3)]) hx hb dX8_isAmong_4 hl (by decide) rfl (fun ls hl => ?_)
  exact G6 y0 y1 y2 y3 (0 : Int32) (0 : Int32) h ls (lv_sub hl [2, 3, 4, 5, 1, 0] rfl)
-- X8_prime0
def e_X8_prime0_32 (x1 : Int32) : Option Int32 :=
  some x1
def s_X8_prime0_4 (x0 : Int32) (x1 : Int32) (x2 : Int32) : Option ((Int32 × Int32) ⊕ (Int32)) :=
  (if x0 < x2 then some (Sum.inr x1) else ((p_X8_divisor x2 x0).bind fun v12 => (if v12 = (1 : Int32) then some (Sum.inl ((x1 + (1 : Int32)), (x2 + (1 : Int32)))) else some (Sum.inl ((x1 + (0 : Int32)), (x2 + (1 : Int32)))))))
def a_X8_prime0_4  (b : Int32) : Option Int32 := (fun q : Int32 => e_X8_prime0_32 q) b
def g_X8_prime0_4 (x0 : Int32) (x1 : Int32) (x2 : Int32) : Option Int32 := (lpF (fun q : (Int32 × Int32) => s_X8_prime0_4 x0 q.1 q.2) pfFU (x1, x2)).bind (a_X8_prime0_4 )
def p_X8_prime0 (y0 : Int32) : Option Int32 :=
  g_X8_prime0_4 y0 (0 : Int32) (1 : Int32)
theorem kd_X8_prime0 : yX8_prime0.cls ≠ "java/lang/invoke/MethodHandle" ∧ yX8_prime0.cls ≠ "java/lang/invoke/VarHandle" ∧ (parseMethodDescriptor yX8_prime0.desc).map (fun d => d.parameters.length) = some 1 := by decide +kernel
set_option maxHeartbeats 4000000 in
set_option maxRecDepth 100000 in
theorem c_X8_prime0 (l : Launch) (y0 : Int32) (r : Int32) (h : p_X8_prime0 y0 = some r) : Met l yX8_prime0 wsX8_prime0 { frames := 1, cells := 0, slots := 0, locals := 24 } (fun v _ => v = ([.int y0] : List Value).toArray) (k2_QcV (.int r)) 0 0 (fun _ => False) := by
  refine Met.ofW (cc := cX8_prime0) (maxL := 3) (ret := some .int) (by decide) rfl ?_
  intro p e s m args below meth c s₁ B hml hv
  subst hv
  have hx := B.exec
  have hb := B.bytes
  have hr := B.returns
  have hts := atoms_spec (ws := wsX8_prime0) B.pre
  have hown : s.vm.findClass RX8 = some m.cls := findClass_of_methodNamed B.named
  have hlocks := B.notSynchronized
  have S0 : CallFix p m c cX8_prime0 3 s ([.int y0] : List Value).toArray wsX8_prime0 RX8 := ⟨hx, hb, hml, hown, hts⟩
  have hl := lv_entry [.int y0] (n := 3) (Nat.le_of_ble_eq_true rfl)
  rw [lg_entry_eq]
  generalize (lg_sl [.int y0] ++ List.replicate (3 - (lg_sl [.int y0]).length) Slot.unset).toArray = ls at hl ⊢
  have hl : lv_has ls 3 [(0, .int y0)] := hl
  have K32 : ∀ (x1 : Int32), e_X8_prime0_32 x1 = some r → ∀ ls, lv_has ls 3 [(1, .int x1)] → W p l e (headSpec wsX8_prime0 { frames := 1, cells := 0, slots := 0, locals := 24 }).room s m ([.int y0] : List Value).toArray below meth c s.heap [] 0 0 (MQ below (k2_QcV (.int r)) ([.int y0] : List Value).toArray s 0 0 (fun _ => False)) (F0 m 32 ls []) := by
    intro x1 h ls hl
    unfold e_X8_prime0_32 at h
    refine lv_iload_n hx hb dX8_prime0_32 rfl (lv_at hl 0 rfl) ?_
    exact W.iret hx hb hr (fun t ht _ => ⟨pf_ri h, ht⟩) (fun q hq => absurd hq List.not_mem_nil) dX8_prime0_33
  have L4 : ∀ (n : Nat) (x0 : Int32) (x1 : Int32) (x2 : Int32) (b : Int32), lpF (fun q : (Int32 × Int32) => s_X8_prime0_4 x0 q.1 q.2) n (x1, x2) = some b → a_X8_prime0_4 b = some r → ∀ ls, lv_has ls 3 [(0, .int x0), (1, .int x1), (2, .int x2)] → W p l e (headSpec wsX8_prime0 { frames := 1, cells := 0, slots := 0, locals := 24 }).room s m ([.int y0] : List Value).toArray below meth c s.heap [] 0 0 (MQ below (k2_QcV (.int r)) ([.int y0] : List Value).toArray s 0 0 (fun _ => False)) (F0 m 4 ls []) := by
    intro n
    induction n with
    | zero => intro x0 x1 x2 b h; exact lp_zero h
    | succ n ih =>
      intro x0 x1 x2 b h ha ls hl
      obtain ⟨z4, h, hz⟩ := lp_open h
      have h : s_X8_prime0_4 x0 x1 x2 = some z4 := h
      unfold s_X8_prime0_4 at h
      refine lv_iload_n hx hb dX8_prime0_4 rfl (lv_at hl 2 rfl) ?_
      refine lv_iload_n hx hb dX8_prime0_5 rfl (lv_at hl 0 rfl) ?_
      refine lv_icmp_gt (tgt := 32) hx hb dX8_prime0_6 (by decide) (fun c6 => ?_) (fun c6 => ?_)
      · have h := pf_pos h c6
        have ha := pf_aft ha (lp_exit h hz)
        exact K32 x1 ha ls (lv_sub hl [1] rfl)
      · have h := pf_neg h c6
        refine lv_iload_n hx hb dX8_prime0_9 rfl (lv_at hl 1 rfl) ?_
        refine lv_iload_n hx hb dX8_prime0_10 rfl (lv_at hl 2 rfl) ?_
        refine lv_iload_n hx hb dX8_prime0_11 rfl (lv_at hl 0 rfl) ?_
        obtain ⟨v12, hv12, h⟩ := pf_bind h
        refine pf_call (As := [.int x2, .int x0]) (rest := [.int x1]) S0 (c_X8_divisor l x2 x0 v12 hv12) (va_cwS 2 hts gX8_prime0_X8_divisor rfl rfl rfl kd_X8_divisor ⟨Nat.le_of_ble_eq_true rfl, Nat.le_of_ble_eq_true rfl⟩) rfl hl.1 rfl (Nat.le_of_ble_eq_true rfl) dX8_prime0_12 ⟨Nat.zero_le _, Nat.zero_le _⟩ ?_
        refine lv_iconst (v := 1) hx hb dX8_prime0_15 (by decide) ?_
        refine lv_icmp_ne (tgt := 23) hx hb dX8_prime0_16 (by decide) (fun c16 => ?_) (fun c16 => ?_)
        · have h := pf_neg h c16
          refine lv_iconst (v := 0) hx hb dX8_prime0_23 (by decide) ?_
          refine lv_iadd hx hb dX8_prime0_24 ?_
          refine lv_istore_n (lv' := [(1, .int (x1 + (0 : Int32))), (0, .int x0), (2, .int x2)]) hx hb dX8_prime0_25 rfl hl (by decide) rfl (fun ls hl => ?_)
          refine lv_iinc (v := (x2 + (1 : Int32))) (lv' := [(2, .int (x2 + (1 : Int32))), (1, .int (x1 + (0 : Int32))), (0, .int x0)]) hx hb dX8_prime0_26 hl (k := 2) rfl rfl (by decide) rfl (fun ls hl => ?_)
          refine lv_goto (tgt := 4) hx hb dX8_prime0_29 (by decide) ?_
          exact ih x0 (x1 + (0 : Int32)) (x2 + (1 : Int32)) b (lp_cont h hz) ha ls (lv_sub hl [2, 1, 0] rfl)
        · have h := pf_pos h c16
          refine lv_iconst (v := 1) hx hb dX8_prime0_19 (by decide) ?_
          refine lv_goto (tgt := 24) hx hb dX8_prime0_20 (by decide) ?_
          refine lv_iadd hx hb dX8_prime0_24 ?_
          refine lv_istore_n (lv' := [(1, .int (x1 + (1 : Int32))), (0, .int x0), (2, .int x2)]) hx hb dX8_prime0_25 rfl hl (by decide) rfl (fun ls hl => ?_)
          refine lv_iinc (v := (x2 + (1 : Int32))) (lv' := [(2, .int (x2 + (1 : Int32))), (1, .int (x1 + (1 : Int32))), (0, .int x0)]) hx hb dX8_prime0_26 hl (k := 2) rfl rfl (by decide) rfl (fun ls hl => ?_)
          refine lv_goto (tgt := 4) hx hb dX8_prime0_29 (by decide) ?_
          exact ih x0 (x1 + (1 : Int32)) (x2 + (1 : Int32)) b (lp_cont h hz) ha ls (lv_sub hl [2, 1, 0] rfl)
  have G4 : ∀ (x0 : Int32) (x1 : Int32) (x2 : Int32), g_X8_prime0_4 x0 x1 x2 = some r → ∀ ls, lv_has ls 3 [(0, .int x0), (1, .int x1), (2, .int x2)] → W p l e (headSpec wsX8_prime0 { frames := 1, cells := 0, slots := 0, locals := 24 }).room s m ([.int y0] : List Value).toArray below meth c s.heap [] 0 0 (MQ below (k2_QcV (.int r)) ([.int y0] : List Value).toArray s 0 0 (fun _ => False)) (F0 m 4 ls []) := by
    intro x0 x1 x2 h ls hl
    unfold g_X8_prime0_4 at h
    obtain ⟨b, h, ha⟩ := pf_bind h
    exact L4 pfFU x0 x1 x2 b h ha ls hl
  unfold p_X8_prime0 at h
  refine lv_iconst (v := 0) hx hb dX8_prime0_0 (by decide) ?_
  refine lv_istore_n (lv' := [(1, .int (0 : Int32)), (0, .int y0)]) hx hb dX8_prime0_1 rfl hl (by decide) rfl (fun ls hl => ?_)
  refine lv_iconst (v := 1) hx hb dX8_prime0_2 (by decide) ?_
  refine lv_istore_n (lv' := [(2, .int (1 : Int32)), (1, .int (0 : Int32)), (0, .int y0)]) hx hb dX8_prime0_3 rfl hl (by decide) rfl (fun ls hl => ?_)
  exact G4 y0 (0 : Int32) (1 : Int32) h ls (lv_sub hl [2, 1, 0] rfl)
-- X8_isList
def p_X8_isList (y0 : Int32) (y1 : Int32) : Option Int32 :=
  ((p_X8_isIn y0 (1 : Int32) (8 : Int32)).bind fun v4 => (if v4 = 0 then some (0 : Int32) else ((p_X8_isM y1).bind fun v11 => (if v11 = 0 then some (0 : Int32) else some (1 : Int32)))))
theorem kd_X8_isList : yX8_isList.cls ≠ "java/lang/invoke/MethodHandle" ∧ yX8_isList.cls ≠ "java/lang/invoke/VarHandle" ∧ (parseMethodDescriptor yX8_isList.desc).map (fun d => d.parameters.length) = some 2 := by decide +kernel
set_option maxHeartbeats 4000000 in
set_option maxRecDepth 100000 in
theorem c_X8_isList (l : Launch) (y0 : Int32) (y1 : Int32) (r : Int32) (h : p_X8_isList y0 y1 = some r) : Met l yX8_isList wsX8_isList { frames := 2, cells := 0, slots := 0, locals := 42 } (fun v _ => v = ([.int y0, .int y1] : List Value).toArray) (k2_QcV (.int r)) 0 0 (fun _ => False) := by
  refine Met.ofW (cc := cX8_isList) (maxL := 2) (ret := some .boolean) (by decide) rfl ?_
  intro p e s m args below meth c s₁ B hml hv
  subst hv
  have hx := B.exec
  have hb := B.bytes
  have hr := B.returns
  have hts := atoms_spec (ws := wsX8_isList) B.pre
  have hown : s.vm.findClass RX8 = some m.cls := findClass_of_methodNamed B.named
  have hlocks := B.notSynchronized
  have S0 : CallFix p m c cX8_isList 2 s ([.int y0, .int y1] : List Value).toArray wsX8_isList RX8 := ⟨hx, hb, hml, hown, hts⟩
  have hl := lv_entry [.int y0, .int y1] (n := 2) (Nat.le_of_ble_eq_true rfl)
  rw [lg_entry_eq]
  generalize (lg_sl [.int y0, .int y1] ++ List.replicate (2 - (lg_sl [.int y0, .int y1]).length) Slot.unset).toArray = ls at hl ⊢
  have hl : lv_has ls 2 [(0, .int y0), (1, .int y1)] := hl
  unfold p_X8_isList at h
  refine lv_iload_n hx hb dX8_isList_0 rfl (lv_at hl 0 rfl) ?_
  refine lv_iconst (v := 1) hx hb dX8_isList_1 (by decide) ?_
  refine lv_bipush (v := 8) hx hb dX8_isList_2 (by decide) ?_
  obtain ⟨v4, hv4, h⟩ := pf_bind h
  refine pf_call (As := [.int y0, .int (1 : Int32), .int (8 : Int32)]) (rest := []) S0 (c_X8_isIn l y0 (1 : Int32) (8 : Int32) v4 hv4) (va_cwS 3 hts gX8_isList_X8_isIn rfl rfl rfl kd_X8_isIn ⟨Nat.le_of_ble_eq_true rfl, Nat.le_of_ble_eq_true rfl⟩) rfl hl.1 rfl (Nat.le_of_ble_eq_true rfl) dX8_isList_4 ⟨Nat.zero_le _, Nat.zero_le _⟩ ?_
  refine lv_if_eq (tgt := 21) hx hb dX8_isList_7 (by decide) (fun c7 => ?_) (fun c7 => ?_)
  · have h := pf_pos h c7
    refine lv_iconst (v := 0) hx hb dX8_isList_21 (by decide) ?_
    exact W.zret hx hb hr rfl (fun t ht _ => ⟨pf_ri h, ht⟩) (fun q hq => absurd hq List.not_mem_nil) dX8_isList_22
  · have h := pf_neg h c7
    refine lv_iload_n hx hb dX8_isList_10 rfl (lv_at hl 1 rfl) ?_
    obtain ⟨v11, hv11, h⟩ := pf_bind h
    refine pf_call (As := [.int y1]) (rest := []) S0 (c_X8_isM l y1 v11 hv11) (va_cwS 1 hts gX8_isList_X8_isM rfl rfl rfl kd_X8_isM ⟨Nat.le_of_ble_eq_true rfl, Nat.le_of_ble_eq_true rfl⟩) rfl hl.1 rfl (Nat.le_of_ble_eq_true rfl) dX8_isList_11 ⟨Nat.zero_le _, Nat.zero_le _⟩ ?_
    refine lv_if_eq (tgt := 21) hx hb dX8_isList_14 (by decide) (fun c14 => ?_) (fun c14 => ?_)
    · have h := pf_pos h c14
      refine lv_iconst (v := 0) hx hb dX8_isList_21 (by decide) ?_
      exact W.zret hx hb hr rfl (fun t ht _ => ⟨pf_ri h, ht⟩) (fun q hq => absurd hq List.not_mem_nil) dX8_isList_22
    · have h := pf_neg h c14
      refine lv_iconst (v := 1) hx hb dX8_isList_17 (by decide) ?_
      refine lv_goto (tgt := 22) hx hb dX8_isList_18 (by decide) ?_
      exact W.zret hx hb hr rfl (fun t ht _ => ⟨pf_ri h, ht⟩) (fun q hq => absurd hq List.not_mem_nil) dX8_isList_22
-- X8_isGreatPrime
def e_X8_isGreatPrime_39 (x2 : Int32) : Option Int32 :=
  (if x2 &&& 1 = x2 then some x2 else none)
def s_X8_isGreatPrime_6 (x0 : Int64) (x2 : Int32) (x3 : Int64) : Option ((Int32 × Int64) ⊕ (Int32)) :=
  (if x0 < (x3 * x3) then some (Sum.inr x2) else (if x2 = 0 then some (Sum.inr x2) else (if x3 = 0 then none else (if (jremL x0 x3) = (0 : Int64) then some (Sum.inl ((0 : Int32), (x3 + (1 : Int64)))) else some (Sum.inl ((1 : Int32), (x3 + (1 : Int64))))))))
def a_X8_isGreatPrime_6  (b : Int32) : Option Int32 := (fun q : Int32 => e_X8_isGreatPrime_39 q) b
def g_X8_isGreatPrime_6 (x0 : Int64) (x2 : Int32) (x3 : Int64) : Option Int32 := (lpF (fun q : (Int32 × Int64) => s_X8_isGreatPrime_6 x0 q.1 q.2) pfFU (x2, x3)).bind (a_X8_isGreatPrime_6 )
def p_X8_isGreatPrime (y0 : Int64) : Option Int32 :=
  g_X8_isGreatPrime_6 y0 (1 : Int32) (2 : Int64)
theorem kd_X8_isGreatPrime : yX8_isGreatPrime.cls ≠ "java/lang/invoke/MethodHandle" ∧ yX8_isGreatPrime.cls ≠ "java/lang/invoke/VarHandle" ∧ (parseMethodDescriptor yX8_isGreatPrime.desc).map (fun d => d.parameters.length) = some 1 := by decide +kernel
set_option maxHeartbeats 4000000 in
set_option maxRecDepth 100000 in
theorem c_X8_isGreatPrime (l : Launch) (y0 : Int64) (r : Int32) (h : p_X8_isGreatPrime y0 = some r) : Met l yX8_isGreatPrime wsX8_isGreatPrime { frames := 0, cells := 0, slots := 0, locals := 0 } (fun v _ => v = ([.long y0] : List Value).toArray) (k2_QcV (.int r)) 0 0 (fun _ => False) := by
  refine Met.ofW (cc := cX8_isGreatPrime) (maxL := 5) (ret := some .boolean) (by decide) rfl ?_
  intro p e s m args below meth c s₁ B hml hv
  subst hv
  have hx := B.exec
  have hb := B.bytes
  have hr := B.returns
  have hts := atoms_spec (ws := wsX8_isGreatPrime) B.pre
  have hown : s.vm.findClass RX8 = some m.cls := findClass_of_methodNamed B.named
  have hlocks := B.notSynchronized
  have S0 : CallFix p m c cX8_isGreatPrime 5 s ([.long y0] : List Value).toArray wsX8_isGreatPrime RX8 := ⟨hx, hb, hml, hown, hts⟩
  have hl := lv_entry [.long y0] (n := 5) (Nat.le_of_ble_eq_true rfl)
  rw [lg_entry_eq]
  generalize (lg_sl [.long y0] ++ List.replicate (5 - (lg_sl [.long y0]).length) Slot.unset).toArray = ls at hl ⊢
  have hl : lv_has ls 5 [(0, .long y0)] := hl
  have K39 : ∀ (x2 : Int32), e_X8_isGreatPrime_39 x2 = some r → ∀ ls, lv_has ls 5 [(2, .int x2)] → W p l e (headSpec wsX8_isGreatPrime { frames := 0, cells := 0, slots := 0, locals := 0 }).room s m ([.long y0] : List Value).toArray below meth c s.heap [] 0 0 (MQ below (k2_QcV (.int r)) ([.long y0] : List Value).toArray s 0 0 (fun _ => False)) (F0 m 39 ls []) := by
    intro x2 h ls hl
    unfold e_X8_isGreatPrime_39 at h
    refine lv_iload_n hx hb dX8_isGreatPrime_39 rfl (lv_at hl 0 rfl) ?_
    obtain ⟨hn40, h⟩ := pf_need h
    exact W.zret hx hb hr (pf_nb hn40) (fun t ht _ => ⟨pf_ri h, ht⟩) (fun q hq => absurd hq List.not_mem_nil) dX8_isGreatPrime_40
  have L6 : ∀ (n : Nat) (x0 : Int64) (x2 : Int32) (x3 : Int64) (b : Int32), lpF (fun q : (Int32 × Int64) => s_X8_isGreatPrime_6 x0 q.1 q.2) n (x2, x3) = some b → a_X8_isGreatPrime_6 b = some r → ∀ ls, lv_has ls 5 [(0, .long x0), (2, .int x2), (3, .long x3)] → W p l e (headSpec wsX8_isGreatPrime { frames := 0, cells := 0, slots := 0, locals := 0 }).room s m ([.long y0] : List Value).toArray below meth c s.heap [] 0 0 (MQ below (k2_QcV (.int r)) ([.long y0] : List Value).toArray s 0 0 (fun _ => False)) (F0 m 6 ls []) := by
    intro n
    induction n with
    | zero => intro x0 x2 x3 b h; exact lp_zero h
    | succ n ih =>
      intro x0 x2 x3 b h ha ls hl
      obtain ⟨z6, h, hz⟩ := lp_open h
      have h : s_X8_isGreatPrime_6 x0 x2 x3 = some z6 := h
      unfold s_X8_isGreatPrime_6 at h
      refine lv_lload_n hx hb dX8_isGreatPrime_6 rfl (lv_at hl 2 rfl) ?_
      refine lv_lload_n hx hb dX8_isGreatPrime_7 rfl (lv_at hl 2 rfl) ?_
      refine lv_lmul hx hb dX8_isGreatPrime_8 ?_
      refine lv_lload_n hx hb dX8_isGreatPrime_9 rfl (lv_at hl 0 rfl) ?_
      refine W.lcmp hx hb dX8_isGreatPrime_10 ?_
      refine lv_if_gt (tgt := 39) hx hb dX8_isGreatPrime_11 (by decide) (fun c11 => ?_) (fun c11 => ?_)
      · have h := pf_pos h ((lg_cmp_gt _ _).mp c11)
        have ha := pf_aft ha (lp_exit h hz)
        exact K39 x2 ha ls (lv_sub hl [1] rfl)
      · have h := pf_neg h (fun q => c11 ((lg_cmp_gt _ _).mpr q))
        refine lv_iload_n hx hb dX8_isGreatPrime_14 rfl (lv_at hl 1 rfl) ?_
        refine lv_if_eq (tgt := 39) hx hb dX8_isGreatPrime_15 (by decide) (fun c15 => ?_) (fun c15 => ?_)
        · have h := pf_pos h c15
          have ha := pf_aft ha (lp_exit h hz)
          exact K39 x2 ha ls (lv_sub hl [1] rfl)
        · have h := pf_neg h c15
          refine lv_lload_n hx hb dX8_isGreatPrime_18 rfl (lv_at hl 0 rfl) ?_
          refine lv_lload_n hx hb dX8_isGreatPrime_19 rfl (lv_at hl 2 rfl) ?_
          obtain ⟨hd20, h⟩ := pf_guard h
          refine pf_lrem hx hb dX8_isGreatPrime_20 hd20 ?_
          refine lv_lconst (v := 0) hx hb dX8_isGreatPrime_21 (by decide) ?_
          refine W.lcmp hx hb dX8_isGreatPrime_22 ?_
          refine lv_if_eq (tgt := 30) hx hb dX8_isGreatPrime_23 (by decide) (fun c23 => ?_) (fun c23 => ?_)
          · have h := pf_pos h ((lg_cmp_eq _ _).mp c23)
            refine lv_iconst (v := 0) hx hb dX8_isGreatPrime_30 (by decide) ?_
            refine lv_istore_n (lv' := [(2, .int (0 : Int32)), (0, .long x0), (3, .long x3)]) hx hb dX8_isGreatPrime_31 rfl hl (by decide) rfl (fun ls hl => ?_)
            refine lv_lload_n hx hb dX8_isGreatPrime_32 rfl (lv_at hl 2 rfl) ?_
            refine lv_lconst (v := 1) hx hb dX8_isGreatPrime_33 (by decide) ?_
            refine lv_ladd hx hb dX8_isGreatPrime_34 ?_
            refine lv_lstore_n (lv' := [(3, .long (x3 + (1 : Int64))), (2, .int (0 : Int32)), (0, .long x0)]) hx hb dX8_isGreatPrime_35 rfl hl (by decide) rfl (fun ls hl => ?_)
            refine lv_goto (tgt := 6) hx hb dX8_isGreatPrime_36 (by decide) ?_
            exact ih x0 (0 : Int32) (x3 + (1 : Int64)) b (lp_cont h hz) ha ls (lv_sub hl [2, 1, 0] rfl)
          · have h := pf_neg h (fun q => c23 ((lg_cmp_eq _ _).mpr q))
            refine lv_iconst (v := 1) hx hb dX8_isGreatPrime_26 (by decide) ?_
            refine lv_goto (tgt := 31) hx hb dX8_isGreatPrime_27 (by decide) ?_
            refine lv_istore_n (lv' := [(2, .int (1 : Int32)), (0, .long x0), (3, .long x3)]) hx hb dX8_isGreatPrime_31 rfl hl (by decide) rfl (fun ls hl => ?_)
            refine lv_lload_n hx hb dX8_isGreatPrime_32 rfl (lv_at hl 2 rfl) ?_
            refine lv_lconst (v := 1) hx hb dX8_isGreatPrime_33 (by decide) ?_
            refine lv_ladd hx hb dX8_isGreatPrime_34 ?_
            refine lv_lstore_n (lv' := [(3, .long (x3 + (1 : Int64))), (2, .int (1 : Int32)), (0, .long x0)]) hx hb dX8_isGreatPrime_35 rfl hl (by decide) rfl (fun ls hl => ?_)
            refine lv_goto (tgt := 6) hx hb dX8_isGreatPrime_36 (by decide) ?_
            exact ih x0 (1 : Int32) (x3 + (1 : Int64)) b (lp_cont h hz) ha ls (lv_sub hl [2, 1, 0] rfl)
  have G6 : ∀ (x0 : Int64) (x2 : Int32) (x3 : Int64), g_X8_isGreatPrime_6 x0 x2 x3 = some r → ∀ ls, lv_has ls 5 [(0, .long x0), (2, .int x2), (3, .long x3)] → W p l e (headSpec wsX8_isGreatPrime { frames := 0, cells := 0, slots := 0, locals := 0 }).room s m ([.long y0] : List Value).toArray below meth c s.heap [] 0 0 (MQ below (k2_QcV (.int r)) ([.long y0] : List Value).toArray s 0 0 (fun _ => False)) (F0 m 6 ls []) := by
    intro x0 x2 x3 h ls hl
    unfold g_X8_isGreatPrime_6 at h
    obtain ⟨b, h, ha⟩ := pf_bind h
    exact L6 pfFU x0 x2 x3 b h ha ls hl
  unfold p_X8_isGreatPrime at h
  refine lv_iconst (v := 1) hx hb dX8_isGreatPrime_0 (by decide) ?_
  refine lv_istore_n (lv' := [(2, .int (1 : Int32)), (0, .long y0)]) hx hb dX8_isGreatPrime_1 rfl hl (by decide) rfl (fun ls hl => ?_)
  refine lv_ldc2 (v := 2) hx hb hown (hts (.constantLong RX8 156 (2)) (by decide +kernel)) dX8_isGreatPrime_2 ?_
  refine lv_lstore_n (lv' := [(3, .long (2 : Int64)), (2, .int (1 : Int32)), (0, .long y0)]) hx hb dX8_isGreatPrime_5 rfl hl (by decide) rfl (fun ls hl => ?_)
  exact G6 y0 (1 : Int32) (2 : Int64) h ls (lv_sub hl [2, 1, 0] rfl)
-- X8_powerBy
def e_X8_powerBy_61 (x6 : Int64) : Option Int64 :=
  some x6
def s_X8_powerBy_12 (x4 : Int64) (x6 : Int64) (x8 : Int64) (x10 : Int64) : Option ((Int64 × Int64 × Int64) ⊕ (Int64)) :=
  (if x10 ≤ (0 : Int64) then some (Sum.inr x6) else (if (jremL x10 (2 : Int64)) = (1 : Int64) then (if x4 = 0 then none else (if x4 = 0 then none else some (Sum.inl ((jremL (x6 * x8) x4), (jremL (x8 * x8) x4), (x10 / (2 : Int64)))))) else (if x4 = 0 then none else some (Sum.inl (x6, (jremL (x8 * x8) x4), (x10 / (2 : Int64)))))))
def a_X8_powerBy_12  (b : Int64) : Option Int64 := (fun q : Int64 => e_X8_powerBy_61 q) b
def g_X8_powerBy_12 (x4 : Int64) (x6 : Int64) (x8 : Int64) (x10 : Int64) : Option Int64 := (lpF (fun q : (Int64 × Int64 × Int64) => s_X8_powerBy_12 x4 q.1 q.2.1 q.2.2) pfFU (x6, x8, x10)).bind (a_X8_powerBy_12 )
def p_X8_powerBy (y0 : Int64) (y2 : Int64) (y4 : Int64) : Option Int64 :=
  (if y4 = 0 then none else g_X8_powerBy_12 y4 (1 : Int64) (jremL y0 y4) y2)
theorem kd_X8_powerBy : yX8_powerBy.cls ≠ "java/lang/invoke/MethodHandle" ∧ yX8_powerBy.cls ≠ "java/lang/invoke/VarHandle" ∧ (parseMethodDescriptor yX8_powerBy.desc).map (fun d => d.parameters.length) = some 3 := by decide +kernel
set_option maxHeartbeats 4000000 in
set_option maxRecDepth 100000 in
theorem c_X8_powerBy (l : Launch) (y0 : Int64) (y2 : Int64) (y4 : Int64) (r : Int64) (h : p_X8_powerBy y0 y2 y4 = some r) : Met l yX8_powerBy wsX8_powerBy { frames := 0, cells := 0, slots := 0, locals := 0 } (fun v _ => v = ([.long y0, .long y2, .long y4] : List Value).toArray) (k2_QcV (.long r)) 0 0 (fun _ => False) := by
  refine Met.ofW (cc := cX8_powerBy) (maxL := 12) (ret := some .long) (by decide) rfl ?_
  intro p e s m args below meth c s₁ B hml hv
  subst hv
  have hx := B.exec
  have hb := B.bytes
  have hr := B.returns
  have hts := atoms_spec (ws := wsX8_powerBy) B.pre
  have hown : s.vm.findClass RX8 = some m.cls := findClass_of_methodNamed B.named
  have hlocks := B.notSynchronized
  have S0 : CallFix p m c cX8_powerBy 12 s ([.long y0, .long y2, .long y4] : List Value).toArray wsX8_powerBy RX8 := ⟨hx, hb, hml, hown, hts⟩
  have hl := lv_entry [.long y0, .long y2, .long y4] (n := 12) (Nat.le_of_ble_eq_true rfl)
  rw [lg_entry_eq]
  generalize (lg_sl [.long y0, .long y2, .long y4] ++ List.replicate (12 - (lg_sl [.long y0, .long y2, .long y4]).length) Slot.unset).toArray = ls at hl ⊢
  have hl : lv_has ls 12 [(0, .long y0), (2, .long y2), (4, .long y4)] := hl
  have K61 : ∀ (x6 : Int64), e_X8_powerBy_61 x6 = some r → ∀ ls, lv_has ls 12 [(6, .long x6)] → W p l e (headSpec wsX8_powerBy { frames := 0, cells := 0, slots := 0, locals := 0 }).room s m ([.long y0, .long y2, .long y4] : List Value).toArray below meth c s.heap [] 0 0 (MQ below (k2_QcV (.long r)) ([.long y0, .long y2, .long y4] : List Value).toArray s 0 0 (fun _ => False)) (F0 m 61 ls []) := by
    intro x6 h ls hl
    unfold e_X8_powerBy_61 at h
    refine lv_lload hx hb dX8_powerBy_61 (lv_at hl 0 rfl) ?_
    exact W.lret hx hb hr (fun t ht _ => ⟨pf_rl h, ht⟩) (fun q hq => absurd hq List.not_mem_nil) dX8_powerBy_63
  have L12 : ∀ (n : Nat) (x4 : Int64) (x6 : Int64) (x8 : Int64) (x10 : Int64) (b : Int64), lpF (fun q : (Int64 × Int64 × Int64) => s_X8_powerBy_12 x4 q.1 q.2.1 q.2.2) n (x6, x8, x10) = some b → a_X8_powerBy_12 b = some r → ∀ ls, lv_has ls 12 [(4, .long x4), (6, .long x6), (8, .long x8), (10, .long x10)] → W p l e (headSpec wsX8_powerBy { frames := 0, cells := 0, slots := 0, locals := 0 }).room s m ([.long y0, .long y2, .long y4] : List Value).toArray below meth c s.heap [] 0 0 (MQ below (k2_QcV (.long r)) ([.long y0, .long y2, .long y4] : List Value).toArray s 0 0 (fun _ => False)) (F0 m 12 ls []) := by
    intro n
    induction n with
    | zero => intro x4 x6 x8 x10 b h; exact lp_zero h
    | succ n ih =>
      intro x4 x6 x8 x10 b h ha ls hl
      obtain ⟨z12, h, hz⟩ := lp_open h
      have h : s_X8_powerBy_12 x4 x6 x8 x10 = some z12 := h
      unfold s_X8_powerBy_12 at h
      refine lv_lload hx hb dX8_powerBy_12 (lv_at hl 3 rfl) ?_
      refine lv_lconst (v := 0) hx hb dX8_powerBy_14 (by decide) ?_
      refine W.lcmp hx hb dX8_powerBy_15 ?_
      refine lv_if_le (tgt := 61) hx hb dX8_powerBy_16 (by decide) (fun c16 => ?_) (fun c16 => ?_)
      · have h := pf_pos h ((lg_cmp_le _ _).mp c16)
        have ha := pf_aft ha (lp_exit h hz)
        exact K61 x6 ha ls (lv_sub hl [1] rfl)
      · have h := pf_neg h (fun q => c16 ((lg_cmp_le _ _).mpr q))
        refine lv_lload hx hb dX8_powerBy_19 (lv_at hl 3 rfl) ?_
        refine lv_ldc2 (v := 2) hx hb hown (hts (.constantLong RX8 156 (2)) (by decide +kernel)) dX8_powerBy_21 ?_
        refine pf_lrem hx hb dX8_powerBy_24 (by decide) ?_
        refine lv_lconst (v := 1) hx hb dX8_powerBy_25 (by decide) ?_
        refine W.lcmp hx hb dX8_powerBy_26 ?_
        refine lv_if_ne (tgt := 40) hx hb dX8_powerBy_27 (by decide) (fun c27 => ?_) (fun c27 => ?_)
        · have h := pf_neg h (fun q => c27 ((lg_cmp_eq _ _).mpr q))
          refine lv_lload hx hb dX8_powerBy_40 (lv_at hl 2 rfl) ?_
          refine lv_lload hx hb dX8_powerBy_42 (lv_at hl 2 rfl) ?_
          refine lv_lmul hx hb dX8_powerBy_44 ?_
          refine lv_lload hx hb dX8_powerBy_45 (lv_at hl 0 rfl) ?_
          obtain ⟨hd47, h⟩ := pf_guard h
          refine pf_lrem hx hb dX8_powerBy_47 hd47 ?_
          refine lv_lstore (lv' := [(8, .long (jremL (x8 * x8) x4)), (4, .long x4), (6, .long x6), (10, .long x10)]) hx hb dX8_powerBy_48 hl (by decide) rfl (fun ls hl => ?_)
          refine lv_lload hx hb dX8_powerBy_50 (lv_at hl 3 rfl) ?_
          refine lv_ldc2 (v := 2) hx hb hown (hts (.constantLong RX8 156 (2)) (by decide +kernel)) dX8_powerBy_52 ?_
          refine lv_ldiv hx hb dX8_powerBy_55 (by decide) ?_
          refine lv_lstore (lv' := [(10, .long (x10 / (2 : Int64))), (8, .long (jremL (x8 * x8) x4)), (4, .long x4), (6, .long x6)]) hx hb dX8_powerBy_56 hl (by decide) rfl (fun ls hl => ?_)
          refine lv_goto (tgt := 12) hx hb dX8_powerBy_58 (by decide) ?_
          exact ih x4 x6 (jremL (x8 * x8) x4) (x10 / (2 : Int64)) b (lp_cont h hz) ha ls (lv_sub hl [2, 3, 1, 0] rfl)
        · have h := pf_pos h ((lg_cmp_eq _ _).mp c27)
          refine lv_lload hx hb dX8_powerBy_30 (lv_at hl 1 rfl) ?_
          refine lv_lload hx hb dX8_powerBy_32 (lv_at hl 2 rfl) ?_
          refine lv_lmul hx hb dX8_powerBy_34 ?_
          refine lv_lload hx hb dX8_powerBy_35 (lv_at hl 0 rfl) ?_
          obtain ⟨hd37, h⟩ := pf_guard h
          refine pf_lrem hx hb dX8_powerBy_37 hd37 ?_
          refine lv_lstore (lv' := [(6, .long (jremL (x6 * x8) x4)), (4, .long x4), (8, .long x8), (10, .long x10)]) hx hb dX8_powerBy_38 hl (by decide) rfl (fun ls hl => ?_)
          refine lv_lload hx hb dX8_powerBy_40 (lv_at hl 2 rfl) ?_
          refine lv_lload hx hb dX8_powerBy_42 (lv_at hl 2 rfl) ?_
          refine lv_lmul hx hb dX8_powerBy_44 ?_
          refine lv_lload hx hb dX8_powerBy_45 (lv_at hl 1 rfl) ?_
          obtain ⟨hd47, h⟩ := pf_guard h
          refine pf_lrem hx hb dX8_powerBy_47 hd47 ?_
          refine lv_lstore (lv' := [(8, .long (jremL (x8 * x8) x4)), (6, .long (jremL (x6 * x8) x4)), (4, .long x4), (10, .long x10)]) hx hb dX8_powerBy_48 hl (by decide) rfl (fun ls hl => ?_)
          refine lv_lload hx hb dX8_powerBy_50 (lv_at hl 3 rfl) ?_
          refine lv_ldc2 (v := 2) hx hb hown (hts (.constantLong RX8 156 (2)) (by decide +kernel)) dX8_powerBy_52 ?_
          refine lv_ldiv hx hb dX8_powerBy_55 (by decide) ?_
          refine lv_lstore (lv' := [(10, .long (x10 / (2 : Int64))), (8, .long (jremL (x8 * x8) x4)), (6, .long (jremL (x6 * x8) x4)), (4, .long x4)]) hx hb dX8_powerBy_56 hl (by decide) rfl (fun ls hl => ?_)
          refine lv_goto (tgt := 12) hx hb dX8_powerBy_58 (by decide) ?_
          exact ih x4 (jremL (x6 * x8) x4) (jremL (x8 * x8) x4) (x10 / (2 : Int64)) b (lp_cont h hz) ha ls (lv_sub hl [3, 2, 1, 0] rfl)
  have G12 : ∀ (x4 : Int64) (x6 : Int64) (x8 : Int64) (x10 : Int64), g_X8_powerBy_12 x4 x6 x8 x10 = some r → ∀ ls, lv_has ls 12 [(4, .long x4), (6, .long x6), (8, .long x8), (10, .long x10)] → W p l e (headSpec wsX8_powerBy { frames := 0, cells := 0, slots := 0, locals := 0 }).room s m ([.long y0, .long y2, .long y4] : List Value).toArray below meth c s.heap [] 0 0 (MQ below (k2_QcV (.long r)) ([.long y0, .long y2, .long y4] : List Value).toArray s 0 0 (fun _ => False)) (F0 m 12 ls []) := by
    intro x4 x6 x8 x10 h ls hl
    unfold g_X8_powerBy_12 at h
    obtain ⟨b, h, ha⟩ := pf_bind h
    exact L12 pfFU x4 x6 x8 x10 b h ha ls hl
  unfold p_X8_powerBy at h
  refine lv_lconst (v := 1) hx hb dX8_powerBy_0 (by decide) ?_
  refine lv_lstore (lv' := [(6, .long (1 : Int64)), (0, .long y0), (2, .long y2), (4, .long y4)]) hx hb dX8_powerBy_1 hl (by decide) rfl (fun ls hl => ?_)
  refine lv_lload_n hx hb dX8_powerBy_3 rfl (lv_at hl 1 rfl) ?_
  refine lv_lload hx hb dX8_powerBy_4 (lv_at hl 3 rfl) ?_
  obtain ⟨hd6, h⟩ := pf_guard h
  refine pf_lrem hx hb dX8_powerBy_6 hd6 ?_
  refine lv_lstore (lv' := [(8, .long (jremL y0 y4)), (6, .long (1 : Int64)), (0, .long y0), (2, .long y2), (4, .long y4)]) hx hb dX8_powerBy_7 hl (by decide) rfl (fun ls hl => ?_)
  refine lv_lload_n hx hb dX8_powerBy_9 rfl (lv_at hl 3 rfl) ?_
  refine lv_lstore (lv' := [(10, .long y2), (8, .long (jremL y0 y4)), (6, .long (1 : Int64)), (0, .long y0), (2, .long y2), (4, .long y4)]) hx hb dX8_powerBy_10 hl (by decide) rfl (fun ls hl => ?_)
  exact G12 y4 (1 : Int64) (jremL y0 y4) y2 h ls (lv_sub hl [5, 2, 1, 0] rfl)
