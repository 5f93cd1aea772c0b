-- X8_root
def e_X8_root_73 (x5 : Int64) : Option Int64 :=
  some x5
def e_X8_root_68 (x0 : Int32) (x1 : Int64) (x3 : Int64) (x5 : Int64) (x7 : Int32) : Option (Int64 ⊕ (Int64)) :=
  (if x7 = 0 then some (Sum.inl (x3 + (1 : Int64))) else some (Sum.inr x5))
def s_X8_root_23 (x0 : Int32) (x1 : Int64) (x3 : Int64) (x5 : Int64) (x7 : Int32) (x8 : Int32) : Option ((Int32 × Int32) ⊕ (Int32)) :=
  (if x0 ≤ x8 then some (Sum.inr x7) else (if x7 = 0 then some (Sum.inr x7) else (if x8 = 0 then none else (if (jrem x0 x8) = 0 then ((p_X8_powerBy x5 (x8).toInt64 x1).bind fun v47 => (if v47 = (1 : Int64) then some (Sum.inl ((0 : Int32), (x8 + (1 : Int32)))) else some (Sum.inl ((1 : Int32), (x8 + (1 : Int32)))))) else some (Sum.inl ((1 : Int32), (x8 + (1 : Int32))))))))
def a_X8_root_23 (x0 : Int32) (x1 : Int64) (x3 : Int64) (x5 : Int64) (b : Int32) : Option (Int64 ⊕ (Int64)) := (fun q : Int32 => e_X8_root_68 x0 x1 x3 x5 q) b
def g_X8_root_23 (x0 : Int32) (x1 : Int64) (x3 : Int64) (x5 : Int64) (x7 : Int32) (x8 : Int32) : Option (Int64 ⊕ (Int64)) := (lpF (fun q : (Int32 × Int32) => s_X8_root_23 x0 x1 x3 x5 q.1 q.2) pfFU (x7, x8)).bind (a_X8_root_23 x0 x1 x3 x5)
def s_X8_root_4 (x0 : Int32) (x1 : Int64) (x3 : Int64) : Option (Int64 ⊕ (Int64)) :=
  (if (x0).toInt64 = 0 then none else ((p_X8_powerBy x3 ((x1 - (1 : Int64)) / (x0).toInt64) x1).bind fun v12 => g_X8_root_23 x0 x1 x3 v12 (1 : Int32) (1 : Int32)))
def a_X8_root_4  (b : Int64) : Option Int64 := (fun q : Int64 => e_X8_root_73 q) b
def g_X8_root_4 (x0 : Int32) (x1 : Int64) (x3 : Int64) : Option Int64 := (lpF (fun q : Int64 => s_X8_root_4 x0 x1 q) pfFU x3).bind (a_X8_root_4 )
def p_X8_root (y0 : Int32) (y1 : Int64) : Option Int64 :=
  g_X8_root_4 y0 y1 (2 : Int64)
theorem kd_X8_root : yX8_root.cls ≠ "java/lang/invoke/MethodHandle" ∧ yX8_root.cls ≠ "java/lang/invoke/VarHandle" ∧ (parseMethodDescriptor yX8_root.desc).map (fun d => d.parameters.length) = some 2 := by decide +kernel
set_option maxHeartbeats 4000000 in
set_option maxRecDepth 100000 in
theorem c_X8_root (l : Launch) (y0 : Int32) (y1 : Int64) (r : Int64) (h : p_X8_root y0 y1 = some r) : Met l yX8_root wsX8_root { frames := 1, cells := 0, slots := 0, locals := 31 } (fun v _ => v = ([.int y0, .long y1] : List Value).toArray) (k2_QcV (.long r)) 0 0 (fun _ => False) := by
  refine Met.ofW (cc := cX8_root) (maxL := 9) (ret := some .long) (by decide) rfl ?_
  intro p e s m args below meth c s₁ B hml hv
  subst hv
  have hx := B.exec
  have hb := B.bytes
  have hr := B.returns
  have hts := atoms_spec (ws := wsX8_root) B.pre
  have hown : s.vm.findClass RX8 = some m.cls := findClass_of_methodNamed B.named
  have hlocks := B.notSynchronized
  have S0 : CallFix p m c cX8_root 9 s ([.int y0, .long y1] : List Value).toArray wsX8_root RX8 := ⟨hx, hb, hml, hown, hts⟩
  have hl := lv_entry [.int y0, .long y1] (n := 9) (Nat.le_of_ble_eq_true rfl)
  rw [lg_entry_eq]
  generalize (lg_sl [.int y0, .long y1] ++ List.replicate (9 - (lg_sl [.int y0, .long y1]).length) Slot.unset).toArray = ls at hl ⊢
  have hl : lv_has ls 9 [(0, .int y0), (1, .long y1)] := hl
  have K73 : ∀ (x5 : Int64), e_X8_root_73 x5 = some r → ∀ ls, lv_has ls 9 [(5, .long x5)] → W p l e (headSpec wsX8_root { frames := 1, cells := 0, slots := 0, locals := 31 }).room s m ([.int y0, .long y1] : List Value).toArray below meth c s.heap [] 0 0 (MQ below (k2_QcV (.long r)) ([.int y0, .long y1] : List Value).toArray s 0 0 (fun _ => False)) (F0 m 73 ls []) := by
    intro x5 h ls hl
    unfold e_X8_root_73 at h
    refine lv_lload hx hb dX8_root_73 (lv_at hl 0 rfl) ?_
    exact W.lret hx hb hr (fun t ht _ => ⟨pf_rl h, ht⟩) (fun q hq => absurd hq List.not_mem_nil) dX8_root_75
  have L4 : ∀ (n : Nat) (x0 : Int32) (x1 : Int64) (x3 : Int64) (b : Int64), lpF (fun q : Int64 => s_X8_root_4 x0 x1 q) n x3 = some b → a_X8_root_4 b = some r → ∀ ls, lv_has ls 9 [(0, .int x0), (1, .long x1), (3, .long x3)] → W p l e (headSpec wsX8_root { frames := 1, cells := 0, slots := 0, locals := 31 }).room s m ([.int y0, .long y1] : List Value).toArray below meth c s.heap [] 0 0 (MQ below (k2_QcV (.long r)) ([.int y0, .long y1] : List Value).toArray s 0 0 (fun _ => False)) (F0 m 4 ls []) := by
    intro n
    induction n with
    | zero => intro x0 x1 x3 b h; exact lp_zero h
    | succ n ih =>
      intro x0 x1 x3 b h ha ls hl
      obtain ⟨z4, h, hz⟩ := lp_open h
      have h : s_X8_root_4 x0 x1 x3 = some z4 := h
      have K68 : ∀ (x3 : Int64) (x5 : Int64) (x7 : Int32), e_X8_root_68 x0 x1 x3 x5 x7 = some z4 → ∀ ls, lv_has ls 9 [(0, .int x0), (1, .long x1), (3, .long x3), (5, .long x5), (7, .int x7)] → W p l e (headSpec wsX8_root { frames := 1, cells := 0, slots := 0, locals := 31 }).room s m ([.int y0, .long y1] : List Value).toArray below meth c s.heap [] 0 0 (MQ below (k2_QcV (.long r)) ([.int y0, .long y1] : List Value).toArray s 0 0 (fun _ => False)) (F0 m 68 ls []) := by
        intro x3 x5 x7 h ls hl
        unfold e_X8_root_68 at h
        refine lv_iload hx hb dX8_root_68 (lv_at hl 4 rfl) ?_
        refine lv_if_eq (tgt := 76) hx hb dX8_root_70 (by decide) (fun c70 => ?_) (fun c70 => ?_)
        · have h := pf_pos h c70
          refine lv_lload_n hx hb dX8_root_76 rfl (lv_at hl 2 rfl) ?_
          refine lv_lconst (v := 1) hx hb dX8_root_77 (by decide) ?_
          refine lv_ladd hx hb dX8_root_78 ?_
          refine lv_lstore_n (lv' := [(3, .long (x3 + (1 : Int64))), (0, .int x0), (1, .long x1), (5, .long x5), (7, .int x7)]) hx hb dX8_root_79 rfl hl (by decide) rfl (fun ls hl => ?_)
          refine lv_goto (tgt := 4) hx hb dX8_root_80 (by decide) ?_
          exact ih x0 x1 (x3 + (1 : Int64)) b (lp_cont h hz) ha ls (lv_sub hl [1, 2, 0] rfl)
        · have h := pf_neg h c70
          have ha := pf_aft ha (lp_exit h hz)
          exact K73 x5 ha ls (lv_sub hl [3] rfl)
      have L23 : ∀ (n : Nat) (x3 : Int64) (x5 : Int64) (x7 : Int32) (x8 : Int32) (b : Int32), lpF (fun q : (Int32 × Int32) => s_X8_root_23 x0 x1 x3 x5 q.1 q.2) n (x7, x8) = some b → a_X8_root_23 x0 x1 x3 x5 b = some z4 → ∀ ls, lv_has ls 9 [(0, .int x0), (1, .long x1), (3, .long x3), (5, .long x5), (7, .int x7), (8, .int x8)] → W p l e (headSpec wsX8_root { frames := 1, cells := 0, slots := 0, locals := 31 }).room s m ([.int y0, .long y1] : List Value).toArray below meth c s.heap [] 0 0 (MQ below (k2_QcV (.long r)) ([.int y0, .long y1] : List Value).toArray s 0 0 (fun _ => False)) (F0 m 23 ls []) := by
        intro n
        induction n with
        | zero => intro x3 x5 x7 x8 b h; exact lp_zero h
        | succ n ih =>
          intro x3 x5 x7 x8 b h ha ls hl
          obtain ⟨z23, h, hz⟩ := lp_open h
          have h : s_X8_root_23 x0 x1 x3 x5 x7 x8 = some z23 := h
          unfold s_X8_root_23 at h
          refine lv_iload hx hb dX8_root_23 (lv_at hl 5 rfl) ?_
          refine lv_iload_n hx hb dX8_root_25 rfl (lv_at hl 0 rfl) ?_
          refine lv_icmp_ge (tgt := 68) hx hb dX8_root_26 (by decide) (fun c26 => ?_) (fun c26 => ?_)
          · have h := pf_pos h c26
            have ha := pf_aft ha (lp_exit h hz)
            exact K68 x3 x5 x7 ha ls (lv_sub hl [0, 1, 2, 3, 4] rfl)
          · have h := pf_neg h c26
            refine lv_iload hx hb dX8_root_29 (lv_at hl 4 rfl) ?_
            refine lv_if_eq (tgt := 68) hx hb dX8_root_31 (by decide) (fun c31 => ?_) (fun c31 => ?_)
            · have h := pf_pos h c31
              have ha := pf_aft ha (lp_exit h hz)
              exact K68 x3 x5 x7 ha ls (lv_sub hl [0, 1, 2, 3, 4] rfl)
            · have h := pf_neg h c31
              refine lv_iload_n hx hb dX8_root_34 rfl (lv_at hl 0 rfl) ?_
              refine lv_iload hx hb dX8_root_35 (lv_at hl 5 rfl) ?_
              obtain ⟨hd37, h⟩ := pf_guard h
              refine pf_irem hx hb dX8_root_37 hd37 ?_
              refine lv_if_ne (tgt := 55) hx hb dX8_root_38 (by decide) (fun c38 => ?_) (fun c38 => ?_)
              · have h := pf_neg h c38
                refine lv_iconst (v := 1) hx hb dX8_root_55 (by decide) ?_
                refine lv_goto (tgt := 60) hx hb dX8_root_56 (by decide) ?_
                refine lv_istore (lv' := [(7, .int (1 : Int32)), (0, .int x0), (1, .long x1), (3, .long x3), (5, .long x5), (8, .int x8)]) hx hb dX8_root_60 hl (by decide) rfl (fun ls hl => ?_)
                refine lv_iinc (v := (x8 + (1 : Int32))) (lv' := [(8, .int (x8 + (1 : Int32))), (7, .int (1 : Int32)), (0, .int x0), (1, .long x1), (3, .long x3), (5, .long x5)]) hx hb dX8_root_62 hl (k := 5) rfl rfl (by decide) rfl (fun ls hl => ?_)
                refine lv_goto (tgt := 23) hx hb dX8_root_65 (by decide) ?_
                exact ih x3 x5 (1 : Int32) (x8 + (1 : Int32)) b (lp_cont h hz) ha ls (lv_sub hl [2, 3, 4, 5, 1, 0] rfl)
              · have h := pf_pos h c38
                refine lv_lload hx hb dX8_root_41 (lv_at hl 3 rfl) ?_
                refine lv_iload hx hb dX8_root_43 (lv_at hl 5 rfl) ?_
                refine lv_i2l hx hb dX8_root_45 rfl ?_
                refine lv_lload_n hx hb dX8_root_46 rfl (lv_at hl 1 rfl) ?_
                obtain ⟨v47, hv47, h⟩ := pf_bind h
                refine pf_call (As := [.long x5, .long (x8).toInt64, .long x1]) (rest := []) S0 (c_X8_powerBy l x5 (x8).toInt64 x1 v47 hv47) (va_cwS 3 hts gX8_root_X8_powerBy rfl rfl rfl kd_X8_powerBy ⟨Nat.le_of_ble_eq_true rfl, Nat.le_of_ble_eq_true rfl⟩) rfl hl.1 rfl (Nat.le_of_ble_eq_true rfl) dX8_root_47 ⟨Nat.zero_le _, Nat.zero_le _⟩ ?_
                refine lv_lconst (v := 1) hx hb dX8_root_50 (by decide) ?_
                refine W.lcmp hx hb dX8_root_51 ?_
                refine lv_if_eq (tgt := 59) hx hb dX8_root_52 (by decide) (fun c52 => ?_) (fun c52 => ?_)
                · have h := pf_pos h ((lg_cmp_eq _ _).mp c52)
                  refine lv_iconst (v := 0) hx hb dX8_root_59 (by decide) ?_
                  refine lv_istore (lv' := [(7, .int (0 : Int32)), (0, .int x0), (1, .long x1), (3, .long x3), (5, .long x5), (8, .int x8)]) hx hb dX8_root_60 hl (by decide) rfl (fun ls hl => ?_)
                  refine lv_iinc (v := (x8 + (1 : Int32))) (lv' := [(8, .int (x8 + (1 : Int32))), (7, .int (0 : Int32)), (0, .int x0), (1, .long x1), (3, .long x3), (5, .long x5)]) hx hb dX8_root_62 hl (k := 5) rfl rfl (by decide) rfl (fun ls hl => ?_)
                  refine lv_goto (tgt := 23) hx hb dX8_root_65 (by decide) ?_
                  exact ih x3 x5 (0 : Int32) (x8 + (1 : Int32)) b (lp_cont h hz) ha ls (lv_sub hl [2, 3, 4, 5, 1, 0] rfl)
                · have h := pf_neg h (fun q => c52 ((lg_cmp_eq _ _).mpr q))
                  refine lv_iconst (v := 1) hx hb dX8_root_55 (by decide) ?_
                  refine lv_goto (tgt := 60) hx hb dX8_root_56 (by decide) ?_
                  refine lv_istore (lv' := [(7, .int (1 : Int32)), (0, .int x0), (1, .long x1), (3, .long x3), (5, .long x5), (8, .int x8)]) hx hb dX8_root_60 hl (by decide) rfl (fun ls hl => ?_)
                  refine lv_iinc (v := (x8 + (1 : Int32))) (lv' := [(8, .int (x8 + (1 : Int32))), (7, .int (1 : Int32)), (0, .int x0), (1, .long x1), (3, .long x3), (5, .long x5)]) hx hb dX8_root_62 hl (k := 5) rfl rfl (by decide) rfl (fun ls hl => ?_)
                  refine lv_goto (tgt := 23) hx hb dX8_root_65 (by decide) ?_
                  exact ih x3 x5 (1 : Int32) (x8 + (1 : Int32)) b (lp_cont h hz) ha ls (lv_sub hl [2, 3, 4, 5, 1, 0] rfl)
      have G23 : ∀ (x3 : Int64) (x5 : Int64) (x7 : Int32) (x8 : Int32), g_X8_root_23 x0 x1 x3 x5 x7 x8 = some z4 → ∀ ls, lv_has ls 9 [(0, .int x0), (1, .long x1), (3, .long x3), (5, .long x5), (7, .int x7), (8, .int x8)] → W p l e (headSpec wsX8_root { frames := 1, cells := 0, slots := 0, locals := 31 }).room s m ([.int y0, .long y1] : List Value).toArray below meth c s.heap [] 0 0 (MQ below (k2_QcV (.long r)) ([.int y0, .long y1] : List Value).toArray s 0 0 (fun _ => False)) (F0 m 23 ls []) := by
        intro x3 x5 x7 x8 h ls hl
        unfold g_X8_root_23 at h
        obtain ⟨b, h, ha⟩ := pf_bind h
        exact L23 pfFU x3 x5 x7 x8 b h ha ls hl
      unfold s_X8_root_4 at h
      refine lv_lload_n hx hb dX8_root_4 rfl (lv_at hl 2 rfl) ?_
      refine lv_lload_n hx hb dX8_root_5 rfl (lv_at hl 1 rfl) ?_
      refine lv_lconst (v := 1) hx hb dX8_root_6 (by decide) ?_
      refine lv_lsub hx hb dX8_root_7 ?_
      refine lv_iload_n hx hb dX8_root_8 rfl (lv_at hl 0 rfl) ?_
      refine lv_i2l hx hb dX8_root_9 rfl ?_
      obtain ⟨hd10, h⟩ := pf_guard h
      refine lv_ldiv hx hb dX8_root_10 hd10 ?_
      refine lv_lload_n hx hb dX8_root_11 rfl (lv_at hl 1 rfl) ?_
      obtain ⟨v12, hv12, h⟩ := pf_bind h
      refine pf_call (As := [.long x3, .long ((x1 - (1 : Int64)) / (x0).toInt64), .long x1]) (rest := []) S0 (c_X8_powerBy l x3 ((x1 - (1 : Int64)) / (x0).toInt64) x1 v12 hv12) (va_cwS 3 hts gX8_root_X8_powerBy rfl rfl rfl kd_X8_powerBy ⟨Nat.le_of_ble_eq_true rfl, Nat.le_of_ble_eq_true rfl⟩) rfl hl.1 rfl (Nat.le_of_ble_eq_true rfl) dX8_root_12 ⟨Nat.zero_le _, Nat.zero_le _⟩ ?_
      refine lv_lstore (lv' := [(5, .long v12), (0, .int x0), (1, .long x1), (3, .long x3)]) hx hb dX8_root_15 hl (by decide) rfl (fun ls hl => ?_)
      refine lv_iconst (v := 1) hx hb dX8_root_17 (by decide) ?_
      refine lv_istore (lv' := [(7, .int (1 : Int32)), (5, .long v12), (0, .int x0), (1, .long x1), (3, .long x3)]) hx hb dX8_root_18 hl (by decide) rfl (fun ls hl => ?_)
      refine lv_iconst (v := 1) hx hb dX8_root_20 (by decide) ?_
      refine lv_istore (lv' := [(8, .int (1 : Int32)), (7, .int (1 : Int32)), (5, .long v12), (0, .int x0), (1, .long x1), (3, .long x3)]) hx hb dX8_root_21 hl (by decide) rfl (fun ls hl => ?_)
      exact G23 x3 v12 (1 : Int32) (1 : Int32) h ls (lv_sub hl [3, 4, 5, 2, 1, 0] rfl)
  have G4 : ∀ (x0 : Int32) (x1 : Int64) (x3 : Int64), g_X8_root_4 x0 x1 x3 = some r → ∀ ls, lv_has ls 9 [(0, .int x0), (1, .long x1), (3, .long x3)] → W p l e (headSpec wsX8_root { frames := 1, cells := 0, slots := 0, locals := 31 }).room s m ([.int y0, .long y1] : List Value).toArray below meth c s.heap [] 0 0 (MQ below (k2_QcV (.long r)) ([.int y0, .long y1] : List Value).toArray s 0 0 (fun _ => False)) (F0 m 4 ls []) := by
    intro x0 x1 x3 h ls hl
    unfold g_X8_root_4 at h
    obtain ⟨b, h, ha⟩ := pf_bind h
    exact L4 pfFU x0 x1 x3 b h ha ls hl
  unfold p_X8_root at h
  refine lv_ldc2 (v := 2) hx hb hown (hts (.constantLong RX8 156 (2)) (by decide +kernel)) dX8_root_0 ?_
  refine lv_lstore_n (lv' := [(3, .long (2 : Int64)), (0, .int y0), (1, .long y1)]) hx hb dX8_root_3 rfl hl (by decide) rfl (fun ls hl => ?_)
  exact G4 y0 y1 (2 : Int64) h ls (lv_sub hl [1, 2, 0] rfl)
-- J9_floorMod_f86c9
def p_J9_floorMod_f86c9 (y0 : Int64) (y2 : Int64) : Option Int64 :=
  (if y2 = 0 then none else (if (0 : Int64) ≤ (y0 ^^^ y2) then some (jremL y0 y2) else (if (jremL y0 y2) = (0 : Int64) then some (jremL y0 y2) else some ((jremL y0 y2) + y2))))
theorem kd_J9_floorMod_f86c9 : yJ9_floorMod_f86c9.cls ≠ "java/lang/invoke/MethodHandle" ∧ yJ9_floorMod_f86c9.cls ≠ "java/lang/invoke/VarHandle" ∧ (parseMethodDescriptor yJ9_floorMod_f86c9.desc).map (fun d => d.parameters.length) = some 2 := by decide +kernel
set_option maxHeartbeats 4000000 in
set_option maxRecDepth 100000 in
theorem c_J9_floorMod_f86c9 (l : Launch) (y0 : Int64) (y2 : Int64) (r : Int64) (h : p_J9_floorMod_f86c9 y0 y2 = some r) : Met l yJ9_floorMod_f86c9 wsJ9_floorMod_f86c9 { frames := 0, cells := 0, slots := 0, locals := 0 } (fun v _ => v = ([.long y0, .long y2] : List Value).toArray) (k2_QcV (.long r)) 0 0 (fun _ => False) := by
  refine pf_ofW (cc := cJ9_floorMod_f86c9) (maxL := 6) (ret := some .long) (by decide +kernel) rfl ?_
  intro p e s m args below meth c s₁ B hml hv
  subst hv
  have hx := B.exec
  have hb := B.bytes
  have hr := B.returns
  have hts := atoms_spec (ws := wsJ9_floorMod_f86c9) B.pre
  have hown : s.vm.findClass RJ9 = some m.cls := findClass_of_methodNamed B.named
  have hlocks := B.notSynchronized
  have S0 : CallFix p m c cJ9_floorMod_f86c9 6 s ([.long y0, .long y2] : List Value).toArray wsJ9_floorMod_f86c9 RJ9 := ⟨hx, hb, hml, hown, hts⟩
  have hl := lv_entry [.long y0, .long y2] (n := 6) (Nat.le_of_ble_eq_true rfl)
  rw [lg_entry_eq]
  generalize (lg_sl [.long y0, .long y2] ++ List.replicate (6 - (lg_sl [.long y0, .long y2]).length) Slot.unset).toArray = ls at hl ⊢
  have hl : lv_has ls 6 [(0, .long y0), (2, .long y2)] := hl
  unfold p_J9_floorMod_f86c9 at h
  refine lv_lload_n hx hb dJ9_floorMod_f86c9_0 rfl (lv_at hl 0 rfl) ?_
  refine lv_lload_n hx hb dJ9_floorMod_f86c9_1 rfl (lv_at hl 1 rfl) ?_
  obtain ⟨hd2, h⟩ := pf_guard h
  refine pf_lrem hx hb dJ9_floorMod_f86c9_2 hd2 ?_
  refine lv_lstore (lv' := [(4, .long (jremL y0 y2)), (0, .long y0), (2, .long y2)]) hx hb dJ9_floorMod_f86c9_3 hl (by decide) rfl (fun ls hl => ?_)
  refine lv_lload_n hx hb dJ9_floorMod_f86c9_5 rfl (lv_at hl 1 rfl) ?_
  refine lv_lload_n hx hb dJ9_floorMod_f86c9_6 rfl (lv_at hl 2 rfl) ?_
  refine lv_lxor hx hb dJ9_floorMod_f86c9_7 ?_
  refine lv_lconst (v := 0) hx hb dJ9_floorMod_f86c9_8 (by decide) ?_
  refine W.lcmp hx hb dJ9_floorMod_f86c9_9 ?_
  refine lv_if_ge (tgt := 25) hx hb dJ9_floorMod_f86c9_10 (by decide) (fun c10 => ?_) (fun c10 => ?_)
  · have h := pf_pos h ((lg_cmp_ge _ _).mp c10)
    refine lv_lload hx hb dJ9_floorMod_f86c9_25 (lv_at hl 0 rfl) ?_
    exact W.lret hx hb hr (fun t ht _ => ⟨pf_rl h, ht⟩) (fun q hq => absurd hq List.not_mem_nil) dJ9_floorMod_f86c9_27
  · have h := pf_neg h (fun q => c10 ((lg_cmp_ge _ _).mpr q))
    refine lv_lload hx hb dJ9_floorMod_f86c9_13 (lv_at hl 0 rfl) ?_
    refine lv_lconst (v := 0) hx hb dJ9_floorMod_f86c9_15 (by decide) ?_
    refine W.lcmp hx hb dJ9_floorMod_f86c9_16 ?_
    refine lv_if_eq (tgt := 25) hx hb dJ9_floorMod_f86c9_17 (by decide) (fun c17 => ?_) (fun c17 => ?_)
    · have h := pf_pos h ((lg_cmp_eq _ _).mp c17)
      refine lv_lload hx hb dJ9_floorMod_f86c9_25 (lv_at hl 0 rfl) ?_
      exact W.lret hx hb hr (fun t ht _ => ⟨pf_rl h, ht⟩) (fun q hq => absurd hq List.not_mem_nil) dJ9_floorMod_f86c9_27
    · have h := pf_neg h (fun q => c17 ((lg_cmp_eq _ _).mpr q))
      refine lv_lload hx hb dJ9_floorMod_f86c9_20 (lv_at hl 0 rfl) ?_
      refine lv_lload_n hx hb dJ9_floorMod_f86c9_22 rfl (lv_at hl 2 rfl) ?_
      refine lv_ladd hx hb dJ9_floorMod_f86c9_23 ?_
      exact W.lret hx hb hr (fun t ht _ => ⟨pf_rl h, ht⟩) (fun q hq => absurd hq List.not_mem_nil) dJ9_floorMod_f86c9_24
